set_option maxRecDepth 100000 in
theorem nd_z14_0 : va_nd [0, 1, 2, 3, 4, 5, 6, 7] = true := nd_f (by decide +kernel)
set_option maxRecDepth 100000 in
theorem nd_z14_1 : va_nd [0, 1, 2, 3, 4] = true := nd_f (by decide +kernel)
set_option maxRecDepth 100000 in
theorem nd_z14_2 : va_nd [0, 1, 2, 3, 4, 5, 6, 7, 8, 9, 10, 11, 12, 13, 14, 15] = true := nd_f (by decide +kernel)
set_option maxRecDepth 100000 in
theorem nd_z14_3 : va_nd [0, 1, 2, 3, 4, 5] = true := nd_f (by decide +kernel)
set_option maxRecDepth 100000 in
theorem nd_z14_4 : va_nd [6] = true := nd_f (by decide +kernel)
set_option maxRecDepth 100000 in
theorem nd_z14_5 : va_nd [0, 1, 2, 3, 4, 5, 6, 7, 8, 9, 10, 11, 12, 13, 14, 15, 16, 17, 18, 19, 20, 21] = true := nd_f (by decide +kernel)
set_option maxRecDepth 100000 in
theorem nd_z14_6 : va_nd [4] = true := nd_f (by decide +kernel)
set_option maxRecDepth 100000 in
theorem nd_z14_7 : va_nd [0, 1, 2, 3] = true := nd_f (by decide +kernel)
set_option maxRecDepth 100000 in
theorem nd_z14_8 : va_nd [9] = true := nd_f (by decide +kernel)
set_option maxRecDepth 100000 in
theorem nd_z14_9 : va_nd [0, 1, 2, 3, 4, 5, 6, 7, 8] = true := nd_f (by decide +kernel)
set_option maxRecDepth 100000 in
theorem nd_z14_10 : va_nd [18] = true := nd_f (by decide +kernel)
set_option maxRecDepth 100000 in
theorem nd_z14_11 : va_nd [0, 1, 2, 3, 4, 5, 6, 7, 8, 9, 10, 11, 12, 13, 14, 15, 16, 17] = true := nd_f (by decide +kernel)
set_option maxRecDepth 100000 in
theorem nd_z14_12 : va_nd [0, 1, 2, 3, 17, 4, 5, 6, 7, 8, 18, 19, 20, 21, 22, 23, 9, 10, 11, 12, 13, 14, 15, 16] = true := nd_f (by decide +kernel)
set_option maxRecDepth 100000 in
theorem nj_z14_0 : ∀ i ∈ ([0, 1, 2, 3, 4, 5] : List Nat), i ∉ ([6] : List Nat) := nj_f (by decide +kernel)
set_option maxRecDepth 100000 in
theorem nj_z14_1 : ∀ i ∈ ([0, 1, 2, 3] : List Nat), i ∉ ([4] : List Nat) := nj_f (by decide +kernel)
set_option maxRecDepth 100000 in
theorem nj_z14_2 : ∀ i ∈ ([0, 1, 2, 3, 4, 5, 6, 7, 8] : List Nat), i ∉ ([9] : List Nat) := nj_f (by decide +kernel)
set_option maxRecDepth 100000 in
theorem nj_z14_3 : ∀ i ∈ ([0, 1, 2, 3, 4, 5, 6, 7, 8, 9, 10, 11, 12, 13, 14, 15, 16, 17] : List Nat), i ∉ ([18] : List Nat) := nj_f (by decide +kernel)
set_option maxRecDepth 100000 in
theorem sk_z14_0 : sgk [(0, 8)] [0, 1, 2, 3, 4, 5, 6, 7] 8 = true := by decide +kernel
set_option maxRecDepth 100000 in
theorem sk_z14_1 : sgk [(0, 5)] [0, 1, 2, 3, 4] 5 = true := by decide +kernel
set_option maxRecDepth 100000 in
theorem sk_z14_2 : sgk [(0, 16)] [0, 1, 2, 3, 4, 5, 6, 7, 8, 9, 10, 11, 12, 13, 14, 15] 16 = true := by decide +kernel
set_option maxRecDepth 100000 in
theorem sk_z14_3 : sgk [(0, 6)] [0, 1, 2, 3, 4, 5] 6 = true := by decide +kernel
set_option maxRecDepth 100000 in
theorem sk_z14_4 : sgk [(6, 1)] [6] 7 = true := by decide +kernel
set_option maxRecDepth 100000 in
theorem sk_z14_5 : sgk [(0, 6)] [0, 1, 2, 3, 4, 5] 7 = true := by decide +kernel
set_option maxRecDepth 100000 in
theorem sk_z14_6 : sgk [(0, 22)] [0, 1, 2, 3, 4, 5, 6, 7, 8, 9, 10, 11, 12, 13, 14, 15, 16, 17, 18, 19, 20, 21] 22 = true := by decide +kernel
set_option maxRecDepth 100000 in
theorem sk_z14_7 : sgk [(4, 1)] [4] 5 = true := by decide +kernel
set_option maxRecDepth 100000 in
theorem sk_z14_8 : sgk [(0, 4)] [0, 1, 2, 3] 5 = true := by decide +kernel
set_option maxRecDepth 100000 in
theorem sk_z14_9 : sgk [(9, 1)] [9] 10 = true := by decide +kernel
set_option maxRecDepth 100000 in
theorem sk_z14_10 : sgk [(0, 9)] [0, 1, 2, 3, 4, 5, 6, 7, 8] 10 = true := by decide +kernel
set_option maxRecDepth 100000 in
theorem sk_z14_11 : sgk [(18, 1)] [18] 19 = true := by decide +kernel
set_option maxRecDepth 100000 in
theorem sk_z14_12 : sgk [(0, 18)] [0, 1, 2, 3, 4, 5, 6, 7, 8, 9, 10, 11, 12, 13, 14, 15, 16, 17] 19 = true := by decide +kernel
set_option maxRecDepth 100000 in
theorem sk_z14_13 : sgk [(0, 4), (17, 1), (4, 5), (18, 6), (9, 8)] [0, 1, 2, 3, 17, 4, 5, 6, 7, 8, 18, 19, 20, 21, 22, 23, 9, 10, 11, 12, 13, 14, 15, 16] 24 = true := by decide +kernel
set_option maxRecDepth 100000 in
set_option maxHeartbeats 8000000 in
theorem c_X1_init (l : Launch) (dC : Nat → ClassId) (dI : Nat → Nat → Nat) (cyI cyJ cyZ cyB cyO : ClassId) (tO : Nat) (vF : Value) (adK adV : Nat → Nat) (h_d : Nat) (sz : Nat) : Met l yX1_init (Cond.code yX1_init cX1_init 1 none :: wsL_law) ({ frames := 1, cells := 7, slots := 60, locals := 12 } : Room) (va_Pc [.ref h_d] (ux_pre (dC, dI) vwCl (tyG cyI cyJ cyZ cyB cyO) [(h_d, .inr (1, [.int 0, .null, .null, .null, .null, .null, .null, .null]))] sz (xE tO vF adK adV))) (va_Qv (fun _ : (Nat → Nat) => True) (ux_at (dC, dI) vwCl (tyG cyI cyJ cyZ cyB cyO) [(h_d, .inr (1, [.int 0, .null, .null, .null, .null, .null, .null, .null]))] sz (fun u : (Nat → Nat) => [(h_d, .inr (1, oX1 u (0 : Int32))), (u 1, .inl (cyI, 12, .inl (fun _ => 0))), (u 2, .inl (cyJ, 12, .inr (.inl (fun _ => 0)))), (u 3, .inl (cyI, 12, .inl (fun _ => 0))), (u 4, .inl (cyI, 6, .inl (fun _ => 0))), (u 5, .inl (cyI, 6, .inl (fun _ => 0))), (u 6, .inl (cyI, 6, .inl (fun _ => 0))), (u 7, .inl (cyI, 6, .inl (fun _ => 0)))])) (va_A [(h_d, .inr (1, [.int 0, .null, .null, .null, .null, .null, .null, .null]))] sz)) 7 60 (va_A [(h_d, .inr (1, [.int 0, .null, .null, .null, .null, .null, .null, .null]))] sz) := by
  refine ux_metM (by decide +kernel) (Nat.le_of_ble_eq_true rfl) ?_
  intro p e s m below meth c A Q ls hx hb hml hts hown hin hA hP hK hD hE hl hret
  have hown : s.vm.findClass RX1 = some m.cls := hown
  have hin : meth.name = "<init>" := hin
  have hS : va_S A s.heap s.heap [] := va_S.rf
  have hl : lv_has ls 1 [(0, .ref h_d)] := hl
  refine lv_aload_n hx hb dX1_init_0 rfl (lv_at hl 0 rfl) ?_
  refine W.objInit hx hb hown (hts _ (List.mem_cons_of_mem _ wm_5_17)) (hts _ (List.mem_cons_of_mem _ wm_1_10)) (hts _ (List.mem_cons_of_mem _ wm_1_11)) rfl (by rw [hml]; exact hl.1) rfl dX1_init_1 (Nat.le_of_ble_eq_true rfl) (Nat.le_of_ble_eq_true rfl) ?_
  refine W.eq (g2 := F0 m 4 ls []) rfl ?_
  refine lv_aload_n hx hb dX1_init_4 rfl (lv_at hl 0 rfl) ?_
  refine lv_iconst (v := (0 : Int32)) hx hb dX1_init_5 (by decide) ?_
  refine va_put (D := (dC, dI)) (ci := 1) (v := .int (0 : Int32)) (ty := .int) (C := RX1) (T := TX1) (N := 8) hx hb hts (g_c inlX1) tyX1 tyX1_ok nmX1 hown hK hP hD hS 0 rfl rfl 0 (by decide) (hts _ (List.mem_cons_of_mem _ wm_5_18)) (fun _ h9 => h9) rfl (by decide +kernel) rfl rfl (Nat.le_of_ble_eq_true rfl) dX1_init_6 (fun H locs hP hD hS => ?_)
  have hP : va_P (dC, dI) vwCl [(h_d, .inr (1, [.int (0 : Int32), .null, .null, .null, .null, .null, .null, .null]))] H := hP
  have hD : va_D A [(h_d, .inr (1, [.int (0 : Int32), .null, .null, .null, .null, .null, .null, .null]))] := hD
  refine lv_aload_n hx hb dX1_init_9 rfl (lv_at hl 0 rfl) ?_
  refine lv_bipush (v := (12 : Int32)) hx hb dX1_init_10 (by decide) ?_
  refine ux_newa (atype := .int) (ty := .int) (N' := 12) (a0 := (12, .inl (fun _ => 0))) hx hb (hts _ (List.mem_cons_of_mem _ wm_2_23)) rfl hK hP hD hS hA 0 rfl (fun _ => rfl) (by decide) (by decide) (by decide) (Nat.le_of_ble_eq_true rfl) (Nat.le_of_ble_eq_true rfl) dX1_init_12 (fun q12 H hP hD hS => ?_)
  have hP : va_P (dC, dI) vwCl [_, (q12, .inl (cyI, 12, .inl (fun _ => 0)))] H := hP
  have hD : va_D A [_, (q12, .inl (cyI, 12, .inl (fun _ => 0)))] := hD
  refine W.widen (k := 1) (n := 12) (by decide) (by decide) ?_
  refine va_putF (D := (dC, dI)) (ci := 1) (v := .ref q12) (ty := (.array .int)) (C := RX1) (T := TX1) (N := 8) hx hb hts (g_c inlX1) tyX1 tyX1_ok nmX1 hown hK hP hD hS 0 rfl rfl 1 (by decide) (hts _ (List.mem_cons_of_mem _ wm_5_19)) (fun _ h9 => h9) rfl hin rfl (by decide +kernel) rfl rfl (Nat.le_of_ble_eq_true rfl) dX1_init_14 (fun H locs hP hD hS => ?_)
  have hP : va_P (dC, dI) vwCl [(h_d, .inr (1, [.int (0 : Int32), .ref q12, .null, .null, .null, .null, .null, .null])), _] H := hP
  have hD : va_D A [(h_d, .inr (1, [.int (0 : Int32), .ref q12, .null, .null, .null, .null, .null, .null])), _] := hD
  refine lv_aload_n hx hb dX1_init_17 rfl (lv_at hl 0 rfl) ?_
  refine lv_bipush (v := (12 : Int32)) hx hb dX1_init_18 (by decide) ?_
  refine ux_newa (atype := .long) (ty := .long) (N' := 12) (a0 := (12, .inr (.inl (fun _ => 0)))) hx hb (hts _ (List.mem_cons_of_mem _ wm_3_2)) rfl hK hP hD hS hA 1 rfl (fun _ => rfl) (by decide) (by decide) (by decide) (Nat.le_of_ble_eq_true rfl) (Nat.le_of_ble_eq_true rfl) dX1_init_20 (fun q20 H hP hD hS => ?_)
  have hP : va_P (dC, dI) vwCl [_, _, (q20, .inl (cyJ, 12, .inr (.inl (fun _ => 0))))] H := hP
  have hD : va_D A [_, _, (q20, .inl (cyJ, 12, .inr (.inl (fun _ => 0))))] := hD
  refine W.widen (k := 2) (n := 24) (by decide) (by decide) ?_
  refine va_putF (D := (dC, dI)) (ci := 1) (v := .ref q20) (ty := (.array .long)) (C := RX1) (T := TX1) (N := 8) hx hb hts (g_c inlX1) tyX1 tyX1_ok nmX1 hown hK hP hD hS 0 rfl rfl 2 (by decide) (hts _ (List.mem_cons_of_mem _ wm_5_20)) (fun _ h9 => h9) rfl hin rfl (by decide +kernel) rfl rfl (Nat.le_of_ble_eq_true rfl) dX1_init_22 (fun H locs hP hD hS => ?_)
  have hP : va_P (dC, dI) vwCl [(h_d, .inr (1, [.int (0 : Int32), .ref q12, .ref q20, .null, .null, .null, .null, .null])), _, _] H := hP
  have hD : va_D A [(h_d, .inr (1, [.int (0 : Int32), .ref q12, .ref q20, .null, .null, .null, .null, .null])), _, _] := hD
  refine lv_aload_n hx hb dX1_init_25 rfl (lv_at hl 0 rfl) ?_
  refine lv_bipush (v := (12 : Int32)) hx hb dX1_init_26 (by decide) ?_
  refine ux_newa (atype := .int) (ty := .int) (N' := 12) (a0 := (12, .inl (fun _ => 0))) hx hb (hts _ (List.mem_cons_of_mem _ wm_2_23)) rfl hK hP hD hS hA 0 rfl (fun _ => rfl) (by decide) (by decide) (by decide) (Nat.le_of_ble_eq_true rfl) (Nat.le_of_ble_eq_true rfl) dX1_init_28 (fun q28 H hP hD hS => ?_)
  have hP : va_P (dC, dI) vwCl [_, _, _, (q28, .inl (cyI, 12, .inl (fun _ => 0)))] H := hP
  have hD : va_D A [_, _, _, (q28, .inl (cyI, 12, .inl (fun _ => 0)))] := hD
  refine W.widen (k := 3) (n := 36) (by decide) (by decide) ?_
  refine va_putF (D := (dC, dI)) (ci := 1) (v := .ref q28) (ty := (.array .int)) (C := RX1) (T := TX1) (N := 8) hx hb hts (g_c inlX1) tyX1 tyX1_ok nmX1 hown hK hP hD hS 0 rfl rfl 3 (by decide) (hts _ (List.mem_cons_of_mem _ wm_5_21)) (fun _ h9 => h9) rfl hin rfl (by decide +kernel) rfl rfl (Nat.le_of_ble_eq_true rfl) dX1_init_30 (fun H locs hP hD hS => ?_)
  have hP : va_P (dC, dI) vwCl [(h_d, .inr (1, [.int (0 : Int32), .ref q12, .ref q20, .ref q28, .null, .null, .null, .null])), _, _, _] H := hP
  have hD : va_D A [(h_d, .inr (1, [.int (0 : Int32), .ref q12, .ref q20, .ref q28, .null, .null, .null, .null])), _, _, _] := hD
  refine lv_aload_n hx hb dX1_init_33 rfl (lv_at hl 0 rfl) ?_
  refine lv_bipush (v := (6 : Int32)) hx hb dX1_init_34 (by decide) ?_
  refine ux_newa (atype := .int) (ty := .int) (N' := 6) (a0 := (6, .inl (fun _ => 0))) hx hb (hts _ (List.mem_cons_of_mem _ wm_2_23)) rfl hK hP hD hS hA 0 rfl (fun _ => rfl) (by decide) (by decide) (by decide) (Nat.le_of_ble_eq_true rfl) (Nat.le_of_ble_eq_true rfl) dX1_init_36 (fun q36 H hP hD hS => ?_)
  have hP : va_P (dC, dI) vwCl [_, _, _, _, (q36, .inl (cyI, 6, .inl (fun _ => 0)))] H := hP
  have hD : va_D A [_, _, _, _, (q36, .inl (cyI, 6, .inl (fun _ => 0)))] := hD
  refine W.widen (k := 4) (n := 42) (by decide) (by decide) ?_
  refine va_putF (D := (dC, dI)) (ci := 1) (v := .ref q36) (ty := (.array .int)) (C := RX1) (T := TX1) (N := 8) hx hb hts (g_c inlX1) tyX1 tyX1_ok nmX1 hown hK hP hD hS 0 rfl rfl 4 (by decide) (hts _ (List.mem_cons_of_mem _ wm_5_22)) (fun _ h9 => h9) rfl hin rfl (by decide +kernel) rfl rfl (Nat.le_of_ble_eq_true rfl) dX1_init_38 (fun H locs hP hD hS => ?_)
  have hP : va_P (dC, dI) vwCl [(h_d, .inr (1, [.int (0 : Int32), .ref q12, .ref q20, .ref q28, .ref q36, .null, .null, .null])), _, _, _, _] H := hP
  have hD : va_D A [(h_d, .inr (1, [.int (0 : Int32), .ref q12, .ref q20, .ref q28, .ref q36, .null, .null, .null])), _, _, _, _] := hD
  refine lv_aload_n hx hb dX1_init_41 rfl (lv_at hl 0 rfl) ?_
  refine lv_bipush (v := (6 : Int32)) hx hb dX1_init_42 (by decide) ?_
  refine ux_newa (atype := .int) (ty := .int) (N' := 6) (a0 := (6, .inl (fun _ => 0))) hx hb (hts _ (List.mem_cons_of_mem _ wm_2_23)) rfl hK hP hD hS hA 0 rfl (fun _ => rfl) (by decide) (by decide) (by decide) (Nat.le_of_ble_eq_true rfl) (Nat.le_of_ble_eq_true rfl) dX1_init_44 (fun q44 H hP hD hS => ?_)
  have hP : va_P (dC, dI) vwCl [_, _, _, _, _, (q44, .inl (cyI, 6, .inl (fun _ => 0)))] H := hP
  have hD : va_D A [_, _, _, _, _, (q44, .inl (cyI, 6, .inl (fun _ => 0)))] := hD
  refine W.widen (k := 5) (n := 48) (by decide) (by decide) ?_
  refine va_putF (D := (dC, dI)) (ci := 1) (v := .ref q44) (ty := (.array .int)) (C := RX1) (T := TX1) (N := 8) hx hb hts (g_c inlX1) tyX1 tyX1_ok nmX1 hown hK hP hD hS 0 rfl rfl 5 (by decide) (hts _ (List.mem_cons_of_mem _ wm_5_23)) (fun _ h9 => h9) rfl hin rfl (by decide +kernel) rfl rfl (Nat.le_of_ble_eq_true rfl) dX1_init_46 (fun H locs hP hD hS => ?_)
  have hP : va_P (dC, dI) vwCl [(h_d, .inr (1, [.int (0 : Int32), .ref q12, .ref q20, .ref q28, .ref q36, .ref q44, .null, .null])), _, _, _, _, _] H := hP
  have hD : va_D A [(h_d, .inr (1, [.int (0 : Int32), .ref q12, .ref q20, .ref q28, .ref q36, .ref q44, .null, .null])), _, _, _, _, _] := hD
  refine lv_aload_n hx hb dX1_init_49 rfl (lv_at hl 0 rfl) ?_
  refine lv_bipush (v := (6 : Int32)) hx hb dX1_init_50 (by decide) ?_
  refine ux_newa (atype := .int) (ty := .int) (N' := 6) (a0 := (6, .inl (fun _ => 0))) hx hb (hts _ (List.mem_cons_of_mem _ wm_2_23)) rfl hK hP hD hS hA 0 rfl (fun _ => rfl) (by decide) (by decide) (by decide) (Nat.le_of_ble_eq_true rfl) (Nat.le_of_ble_eq_true rfl) dX1_init_52 (fun q52 H hP hD hS => ?_)
  have hP : va_P (dC, dI) vwCl [_, _, _, _, _, _, (q52, .inl (cyI, 6, .inl (fun _ => 0)))] H := hP
  have hD : va_D A [_, _, _, _, _, _, (q52, .inl (cyI, 6, .inl (fun _ => 0)))] := hD
  refine W.widen (k := 6) (n := 54) (by decide) (by decide) ?_
  refine va_putF (D := (dC, dI)) (ci := 1) (v := .ref q52) (ty := (.array .int)) (C := RX1) (T := TX1) (N := 8) hx hb hts (g_c inlX1) tyX1 tyX1_ok nmX1 hown hK hP hD hS 0 rfl rfl 6 (by decide) (hts _ (List.mem_cons_of_mem _ wm_6_0)) (fun _ h9 => h9) rfl hin rfl (by decide +kernel) rfl rfl (Nat.le_of_ble_eq_true rfl) dX1_init_54 (fun H locs hP hD hS => ?_)
  have hP : va_P (dC, dI) vwCl [(h_d, .inr (1, [.int (0 : Int32), .ref q12, .ref q20, .ref q28, .ref q36, .ref q44, .ref q52, .null])), _, _, _, _, _, _] H := hP
  have hD : va_D A [(h_d, .inr (1, [.int (0 : Int32), .ref q12, .ref q20, .ref q28, .ref q36, .ref q44, .ref q52, .null])), _, _, _, _, _, _] := hD
  refine lv_aload_n hx hb dX1_init_57 rfl (lv_at hl 0 rfl) ?_
  refine lv_bipush (v := (6 : Int32)) hx hb dX1_init_58 (by decide) ?_
  refine ux_newa (atype := .int) (ty := .int) (N' := 6) (a0 := (6, .inl (fun _ => 0))) hx hb (hts _ (List.mem_cons_of_mem _ wm_2_23)) rfl hK hP hD hS hA 0 rfl (fun _ => rfl) (by decide) (by decide) (by decide) (Nat.le_of_ble_eq_true rfl) (Nat.le_of_ble_eq_true rfl) dX1_init_60 (fun q60 H hP hD hS => ?_)
  have hP : va_P (dC, dI) vwCl [_, _, _, _, _, _, _, (q60, .inl (cyI, 6, .inl (fun _ => 0)))] H := hP
  have hD : va_D A [_, _, _, _, _, _, _, (q60, .inl (cyI, 6, .inl (fun _ => 0)))] := hD
  refine W.widen (k := 7) (n := 60) (by decide) (by decide) ?_
  refine va_putF (D := (dC, dI)) (ci := 1) (v := .ref q60) (ty := (.array .int)) (C := RX1) (T := TX1) (N := 8) hx hb hts (g_c inlX1) tyX1 tyX1_ok nmX1 hown hK hP hD hS 0 rfl rfl 7 (by decide) (hts _ (List.mem_cons_of_mem _ wm_6_1)) (fun _ h9 => h9) rfl hin rfl (by decide +kernel) rfl rfl (Nat.le_of_ble_eq_true rfl) dX1_init_62 (fun H locs hP hD hS => ?_)
  have hP : va_P (dC, dI) vwCl [(h_d, .inr (1, [.int (0 : Int32), .ref q12, .ref q20, .ref q28, .ref q36, .ref q44, .ref q52, .ref q60])), _, _, _, _, _, _, _] H := hP
  have hD : va_D A [(h_d, .inr (1, [.int (0 : Int32), .ref q12, .ref q20, .ref q28, .ref q36, .ref q44, .ref q52, .ref q60])), _, _, _, _, _, _, _] := hD
  obtain ⟨m_d, hm_d⟩ : ∃ z : Nat → Nat, z = fun k => ([0, q12, q20, q28, q36, q44, q52, q60] : List Nat).getD k 0 := ⟨_, rfl⟩
  have hP : va_P (dC, dI) vwCl [(h_d, .inr (1, oX1 m_d (0 : Int32))), (m_d 1, .inl (cyI, 12, .inl (fun _ => 0))), (m_d 2, .inl (cyJ, 12, .inr (.inl (fun _ => 0)))), (m_d 3, .inl (cyI, 12, .inl (fun _ => 0))), (m_d 4, .inl (cyI, 6, .inl (fun _ => 0))), (m_d 5, .inl (cyI, 6, .inl (fun _ => 0))), (m_d 6, .inl (cyI, 6, .inl (fun _ => 0))), (m_d 7, .inl (cyI, 6, .inl (fun _ => 0)))] H := by subst hm_d; exact hP.sub [0, 1, 2, 3, 4, 5, 6, 7] (ux_pick (sg_h [(0, 8)] 8 rfl sk_z14_0 rfl))
  have hD : va_D A [(h_d, .inr (1, oX1 m_d (0 : Int32))), (m_d 1, .inl (cyI, 12, .inl (fun _ => 0))), (m_d 2, .inl (cyJ, 12, .inr (.inl (fun _ => 0)))), (m_d 3, .inl (cyI, 12, .inl (fun _ => 0))), (m_d 4, .inl (cyI, 6, .inl (fun _ => 0))), (m_d 5, .inl (cyI, 6, .inl (fun _ => 0))), (m_d 6, .inl (cyI, 6, .inl (fun _ => 0))), (m_d 7, .inl (cyI, 6, .inl (fun _ => 0)))] := by subst hm_d; exact hD.sub [0, 1, 2, 3, 4, 5, 6, 7] nd_z14_0 (sg_h [(0, 8)] 8 rfl sk_z14_0 rfl)
  exact hret _ _ _ _ m_d dX1_init_65 trivial hP hD hS
set_option maxRecDepth 100000 in
set_option maxHeartbeats 8000000 in
theorem c_X4_init (l : Launch) (dC : Nat → ClassId) (dI : Nat → Nat → Nat) (cyI cyJ cyZ cyB cyO : ClassId) (tO : Nat) (vF : Value) (adK adV : Nat → Nat) (h_p : Nat) (sz : Nat) : Met l yX4_init (Cond.code yX4_init cX4_init 1 none :: wsL_law) ({ frames := 1, cells := 4, slots := 43, locals := 12 } : Room) (va_Pc [.ref h_p] (ux_pre (dC, dI) vwCl (tyG cyI cyJ cyZ cyB cyO) [(h_p, .inr (4, [.null, .null, .null, .null, .int 0, .int 0, .int 0, .int 0]))] sz (xE tO vF adK adV))) (va_Qv (fun _ : (Nat → Nat) => True) (ux_at (dC, dI) vwCl (tyG cyI cyJ cyZ cyB cyO) [(h_p, .inr (4, [.null, .null, .null, .null, .int 0, .int 0, .int 0, .int 0]))] sz (fun u : (Nat → Nat) => [(h_p, .inr (4, oX4 u (-1 : Int32) (0 : Int32) (0 : Int32) (0 : Int32))), (u 0, .inl (cyI, 6, .inl (fun _ => 0))), (u 1, .inl (cyI, 20, .inl (fun _ => 0))), (u 2, .inl (cyI, 3, .inl (fun _ => 0))), (u 3, .inl (cyI, 14, .inl (fun _ => 0)))])) (va_A [(h_p, .inr (4, [.null, .null, .null, .null, .int 0, .int 0, .int 0, .int 0]))] sz)) 4 43 (va_A [(h_p, .inr (4, [.null, .null, .null, .null, .int 0, .int 0, .int 0, .int 0]))] sz) := by
  refine ux_metM (by decide +kernel) (Nat.le_of_ble_eq_true rfl) ?_
  intro p e s m below meth c A Q ls hx hb hml hts hown hin hA hP hK hD hE hl hret
  have hown : s.vm.findClass RX4 = some m.cls := hown
  have hin : meth.name = "<init>" := hin
  have hS : va_S A s.heap s.heap [] := va_S.rf
  have hl : lv_has ls 1 [(0, .ref h_p)] := hl
  refine lv_aload_n hx hb dX4_init_0 rfl (lv_at hl 0 rfl) ?_
  refine W.objInit hx hb hown (hts _ (List.mem_cons_of_mem _ wm_4_17)) (hts _ (List.mem_cons_of_mem _ wm_1_10)) (hts _ (List.mem_cons_of_mem _ wm_1_11)) rfl (by rw [hml]; exact hl.1) rfl dX4_init_1 (Nat.le_of_ble_eq_true rfl) (Nat.le_of_ble_eq_true rfl) ?_
  refine W.eq (g2 := F0 m 4 ls []) rfl ?_
  refine lv_aload_n hx hb dX4_init_4 rfl (lv_at hl 0 rfl) ?_
  refine lv_bipush (v := (6 : Int32)) hx hb dX4_init_5 (by decide) ?_
  refine ux_newa (atype := .int) (ty := .int) (N' := 6) (a0 := (6, .inl (fun _ => 0))) hx hb (hts _ (List.mem_cons_of_mem _ wm_2_23)) rfl hK hP hD hS hA 0 rfl (fun _ => rfl) (by decide) (by decide) (by decide) (Nat.le_of_ble_eq_true rfl) (Nat.le_of_ble_eq_true rfl) dX4_init_7 (fun q7 H hP hD hS => ?_)
  have hP : va_P (dC, dI) vwCl [(h_p, .inr (4, [.null, .null, .null, .null, .int 0, .int 0, .int 0, .int 0])), (q7, .inl (cyI, 6, .inl (fun _ => 0)))] H := hP
  have hD : va_D A [(h_p, .inr (4, [.null, .null, .null, .null, .int 0, .int 0, .int 0, .int 0])), (q7, .inl (cyI, 6, .inl (fun _ => 0)))] := hD
  refine W.widen (k := 1) (n := 6) (by decide) (by decide) ?_
  refine va_putF (D := (dC, dI)) (ci := 4) (v := .ref q7) (ty := (.array .int)) (C := RX4) (T := TX4) (N := 8) hx hb hts (g_c inlX4) tyX4 tyX4_ok nmX4 hown hK hP hD hS 0 rfl rfl 0 (by decide) (hts _ (List.mem_cons_of_mem _ wm_4_18)) (fun _ h9 => h9) rfl hin rfl (by decide +kernel) rfl rfl (Nat.le_of_ble_eq_true rfl) dX4_init_9 (fun H locs hP hD hS => ?_)
  have hP : va_P (dC, dI) vwCl [(h_p, .inr (4, [.ref q7, .null, .null, .null, .int 0, .int 0, .int 0, .int 0])), _] H := hP
  have hD : va_D A [(h_p, .inr (4, [.ref q7, .null, .null, .null, .int 0, .int 0, .int 0, .int 0])), _] := hD
  refine lv_aload_n hx hb dX4_init_12 rfl (lv_at hl 0 rfl) ?_
  refine lv_bipush (v := (20 : Int32)) hx hb dX4_init_13 (by decide) ?_
  refine ux_newa (atype := .int) (ty := .int) (N' := 20) (a0 := (20, .inl (fun _ => 0))) hx hb (hts _ (List.mem_cons_of_mem _ wm_2_23)) rfl hK hP hD hS hA 0 rfl (fun _ => rfl) (by decide) (by decide) (by decide) (Nat.le_of_ble_eq_true rfl) (Nat.le_of_ble_eq_true rfl) dX4_init_15 (fun q15 H hP hD hS => ?_)
  have hP : va_P (dC, dI) vwCl [_, _, (q15, .inl (cyI, 20, .inl (fun _ => 0)))] H := hP
  have hD : va_D A [_, _, (q15, .inl (cyI, 20, .inl (fun _ => 0)))] := hD
  refine W.widen (k := 2) (n := 26) (by decide) (by decide) ?_
  refine va_putF (D := (dC, dI)) (ci := 4) (v := .ref q15) (ty := (.array .int)) (C := RX4) (T := TX4) (N := 8) hx hb hts (g_c inlX4) tyX4 tyX4_ok nmX4 hown hK hP hD hS 0 rfl rfl 1 (by decide) (hts _ (List.mem_cons_of_mem _ wm_4_19)) (fun _ h9 => h9) rfl hin rfl (by decide +kernel) rfl rfl (Nat.le_of_ble_eq_true rfl) dX4_init_17 (fun H locs hP hD hS => ?_)
  have hP : va_P (dC, dI) vwCl [(h_p, .inr (4, [.ref q7, .ref q15, .null, .null, .int 0, .int 0, .int 0, .int 0])), _, _] H := hP
  have hD : va_D A [(h_p, .inr (4, [.ref q7, .ref q15, .null, .null, .int 0, .int 0, .int 0, .int 0])), _, _] := hD
  refine lv_aload_n hx hb dX4_init_20 rfl (lv_at hl 0 rfl) ?_
  refine lv_iconst (v := (3 : Int32)) hx hb dX4_init_21 (by decide) ?_
  refine ux_newa (atype := .int) (ty := .int) (N' := 3) (a0 := (3, .inl (fun _ => 0))) hx hb (hts _ (List.mem_cons_of_mem _ wm_2_23)) rfl hK hP hD hS hA 0 rfl (fun _ => rfl) (by decide) (by decide) (by decide) (Nat.le_of_ble_eq_true rfl) (Nat.le_of_ble_eq_true rfl) dX4_init_22 (fun q22 H hP hD hS => ?_)
  have hP : va_P (dC, dI) vwCl [_, _, _, (q22, .inl (cyI, 3, .inl (fun _ => 0)))] H := hP
  have hD : va_D A [_, _, _, (q22, .inl (cyI, 3, .inl (fun _ => 0)))] := hD
  refine W.widen (k := 3) (n := 29) (by decide) (by decide) ?_
  refine va_putF (D := (dC, dI)) (ci := 4) (v := .ref q22) (ty := (.array .int)) (C := RX4) (T := TX4) (N := 8) hx hb hts (g_c inlX4) tyX4 tyX4_ok nmX4 hown hK hP hD hS 0 rfl rfl 2 (by decide) (hts _ (List.mem_cons_of_mem _ wm_4_20)) (fun _ h9 => h9) rfl hin rfl (by decide +kernel) rfl rfl (Nat.le_of_ble_eq_true rfl) dX4_init_24 (fun H locs hP hD hS => ?_)
  have hP : va_P (dC, dI) vwCl [(h_p, .inr (4, [.ref q7, .ref q15, .ref q22, .null, .int 0, .int 0, .int 0, .int 0])), _, _, _] H := hP
  have hD : va_D A [(h_p, .inr (4, [.ref q7, .ref q15, .ref q22, .null, .int 0, .int 0, .int 0, .int 0])), _, _, _] := hD
  refine lv_aload_n hx hb dX4_init_27 rfl (lv_at hl 0 rfl) ?_
  refine lv_bipush (v := (14 : Int32)) hx hb dX4_init_28 (by decide) ?_
  refine ux_newa (atype := .int) (ty := .int) (N' := 14) (a0 := (14, .inl (fun _ => 0))) hx hb (hts _ (List.mem_cons_of_mem _ wm_2_23)) rfl hK hP hD hS hA 0 rfl (fun _ => rfl) (by decide) (by decide) (by decide) (Nat.le_of_ble_eq_true rfl) (Nat.le_of_ble_eq_true rfl) dX4_init_30 (fun q30 H hP hD hS => ?_)
  have hP : va_P (dC, dI) vwCl [_, _, _, _, (q30, .inl (cyI, 14, .inl (fun _ => 0)))] H := hP
  have hD : va_D A [_, _, _, _, (q30, .inl (cyI, 14, .inl (fun _ => 0)))] := hD
  refine W.widen (k := 4) (n := 43) (by decide) (by decide) ?_
  refine va_putF (D := (dC, dI)) (ci := 4) (v := .ref q30) (ty := (.array .int)) (C := RX4) (T := TX4) (N := 8) hx hb hts (g_c inlX4) tyX4 tyX4_ok nmX4 hown hK hP hD hS 0 rfl rfl 3 (by decide) (hts _ (List.mem_cons_of_mem _ wm_4_21)) (fun _ h9 => h9) rfl hin rfl (by decide +kernel) rfl rfl (Nat.le_of_ble_eq_true rfl) dX4_init_32 (fun H locs hP hD hS => ?_)
  have hP : va_P (dC, dI) vwCl [(h_p, .inr (4, [.ref q7, .ref q15, .ref q22, .ref q30, .int 0, .int 0, .int 0, .int 0])), _, _, _, _] H := hP
  have hD : va_D A [(h_p, .inr (4, [.ref q7, .ref q15, .ref q22, .ref q30, .int 0, .int 0, .int 0, .int 0])), _, _, _, _] := hD
  refine lv_aload_n hx hb dX4_init_35 rfl (lv_at hl 0 rfl) ?_
  refine lv_iconst (v := (-1 : Int32)) hx hb dX4_init_36 (by decide) ?_
  refine va_put (D := (dC, dI)) (ci := 4) (v := .int (-1 : Int32)) (ty := .int) (C := RX4) (T := TX4) (N := 8) hx hb hts (g_c inlX4) tyX4 tyX4_ok nmX4 hown hK hP hD hS 0 rfl rfl 4 (by decide) (hts _ (List.mem_cons_of_mem _ wm_4_22)) (fun _ h9 => h9) rfl (by decide +kernel) rfl rfl (Nat.le_of_ble_eq_true rfl) dX4_init_37 (fun H locs hP hD hS => ?_)
  have hP : va_P (dC, dI) vwCl [(h_p, .inr (4, [.ref q7, .ref q15, .ref q22, .ref q30, .int (-1 : Int32), .int 0, .int 0, .int 0])), _, _, _, _] H := hP
  have hD : va_D A [(h_p, .inr (4, [.ref q7, .ref q15, .ref q22, .ref q30, .int (-1 : Int32), .int 0, .int 0, .int 0])), _, _, _, _] := hD
  refine lv_aload_n hx hb dX4_init_40 rfl (lv_at hl 0 rfl) ?_
  refine lv_iconst (v := (0 : Int32)) hx hb dX4_init_41 (by decide) ?_
  refine va_put (D := (dC, dI)) (ci := 4) (v := .int (0 : Int32)) (ty := .int) (C := RX4) (T := TX4) (N := 8) hx hb hts (g_c inlX4) tyX4 tyX4_ok nmX4 hown hK hP hD hS 0 rfl rfl 5 (by decide) (hts _ (List.mem_cons_of_mem _ wm_4_23)) (fun _ h9 => h9) rfl (by decide +kernel) rfl rfl (Nat.le_of_ble_eq_true rfl) dX4_init_42 (fun H locs hP hD hS => ?_)
  have hP : va_P (dC, dI) vwCl [(h_p, .inr (4, [.ref q7, .ref q15, .ref q22, .ref q30, .int (-1 : Int32), .int (0 : Int32), .int 0, .int 0])), _, _, _, _] H := hP
  have hD : va_D A [(h_p, .inr (4, [.ref q7, .ref q15, .ref q22, .ref q30, .int (-1 : Int32), .int (0 : Int32), .int 0, .int 0])), _, _, _, _] := hD
  refine lv_aload_n hx hb dX4_init_45 rfl (lv_at hl 0 rfl) ?_
  refine lv_iconst (v := (0 : Int32)) hx hb dX4_init_46 (by decide) ?_
  refine va_put (D := (dC, dI)) (ci := 4) (v := .int (0 : Int32)) (ty := .int) (C := RX4) (T := TX4) (N := 8) hx hb hts (g_c inlX4) tyX4 tyX4_ok nmX4 hown hK hP hD hS 0 rfl rfl 6 (by decide) (hts _ (List.mem_cons_of_mem _ wm_5_0)) (fun _ h9 => h9) rfl (by decide +kernel) rfl rfl (Nat.le_of_ble_eq_true rfl) dX4_init_47 (fun H locs hP hD hS => ?_)
  have hP : va_P (dC, dI) vwCl [(h_p, .inr (4, [.ref q7, .ref q15, .ref q22, .ref q30, .int (-1 : Int32), .int (0 : Int32), .int (0 : Int32), .int 0])), _, _, _, _] H := hP
  have hD : va_D A [(h_p, .inr (4, [.ref q7, .ref q15, .ref q22, .ref q30, .int (-1 : Int32), .int (0 : Int32), .int (0 : Int32), .int 0])), _, _, _, _] := hD
  refine lv_aload_n hx hb dX4_init_50 rfl (lv_at hl 0 rfl) ?_
  refine lv_iconst (v := (0 : Int32)) hx hb dX4_init_51 (by decide) ?_
  refine va_put (D := (dC, dI)) (ci := 4) (v := .int (0 : Int32)) (ty := .int) (C := RX4) (T := TX4) (N := 8) hx hb hts (g_c inlX4) tyX4 tyX4_ok nmX4 hown hK hP hD hS 0 rfl rfl 7 (by decide) (hts _ (List.mem_cons_of_mem _ wm_5_1)) (fun _ h9 => h9) rfl (by decide +kernel) rfl rfl (Nat.le_of_ble_eq_true rfl) dX4_init_52 (fun H locs hP hD hS => ?_)
  have hP : va_P (dC, dI) vwCl [(h_p, .inr (4, [.ref q7, .ref q15, .ref q22, .ref q30, .int (-1 : Int32), .int (0 : Int32), .int (0 : Int32), .int (0 : Int32)])), _, _, _, _] H := hP
  have hD : va_D A [(h_p, .inr (4, [.ref q7, .ref q15, .ref q22, .ref q30, .int (-1 : Int32), .int (0 : Int32), .int (0 : Int32), .int (0 : Int32)])), _, _, _, _] := hD
  obtain ⟨m_p, hm_p⟩ : ∃ z : Nat → Nat, z = fun k => ([q7, q15, q22, q30, 0, 0, 0, 0] : List Nat).getD k 0 := ⟨_, rfl⟩
  have hP : va_P (dC, dI) vwCl [(h_p, .inr (4, oX4 m_p (-1 : Int32) (0 : Int32) (0 : Int32) (0 : Int32))), (m_p 0, .inl (cyI, 6, .inl (fun _ => 0))), (m_p 1, .inl (cyI, 20, .inl (fun _ => 0))), (m_p 2, .inl (cyI, 3, .inl (fun _ => 0))), (m_p 3, .inl (cyI, 14, .inl (fun _ => 0)))] H := by subst hm_p; exact hP.sub [0, 1, 2, 3, 4] (ux_pick (sg_h [(0, 5)] 5 rfl sk_z14_1 rfl))
  have hD : va_D A [(h_p, .inr (4, oX4 m_p (-1 : Int32) (0 : Int32) (0 : Int32) (0 : Int32))), (m_p 0, .inl (cyI, 6, .inl (fun _ => 0))), (m_p 1, .inl (cyI, 20, .inl (fun _ => 0))), (m_p 2, .inl (cyI, 3, .inl (fun _ => 0))), (m_p 3, .inl (cyI, 14, .inl (fun _ => 0)))] := by subst hm_p; exact hD.sub [0, 1, 2, 3, 4] nd_z14_1 (sg_h [(0, 5)] 5 rfl sk_z14_1 rfl)
  exact hret _ _ _ _ m_p dX4_init_55 trivial hP hD hS
set_option maxRecDepth 100000 in
set_option maxHeartbeats 8000000 in
theorem c_X3_init (l : Launch) (dC : Nat → ClassId) (dI : Nat → Nat → Nat) (cyI cyJ cyZ cyB cyO : ClassId) (tO : Nat) (vF : Value) (adK adV : Nat → Nat) (h_g : Nat) (sz : Nat) : Met l yX3_init (Cond.code yX3_init cX3_init 1 none :: wsL_law) ({ frames := 1, cells := 15, slots := 540, locals := 12 } : Room) (va_Pc [.ref h_g] (ux_pre (dC, dI) vwCl (tyG cyI cyJ cyZ cyB cyO) [(h_g, .inr (3, [.int 0, .null, .null, .null, .int 0, .null, .null, .null, .int 0, .null, .null, .null, .null, .int 0, .null, .null, .null, .null, .int 0, .null]))] sz (xE tO vF adK adV))) (va_Qv (fun _ : (Nat → Nat) => True) (ux_at (dC, dI) vwCl (tyG cyI cyJ cyZ cyB cyO) [(h_g, .inr (3, [.int 0, .null, .null, .null, .int 0, .null, .null, .null, .int 0, .null, .null, .null, .null, .int 0, .null, .null, .null, .null, .int 0, .null]))] sz (fun u : (Nat → Nat) => [(h_g, .inr (3, oX3 u (0 : Int32) (0 : Int32) (0 : Int32) (0 : Int32) (0 : Int32))), (u 1, .inl (cyI, 12, .inl (fun _ => 0))), (u 2, .inl (cyI, 12, .inl (fun _ => 0))), (u 3, .inl (cyI, 12, .inl (fun _ => 0))), (u 5, .inl (cyI, 20, .inl (fun _ => 0))), (u 6, .inl (cyI, 20, .inl (fun _ => 0))), (u 7, .inl (cyI, 20, .inl (fun _ => 0))), (u 9, .inl (cyI, 3, .inl (fun _ => 0))), (u 10, .inl (cyI, 3, .inl (fun _ => 0))), (u 11, .inl (cyI, 3, .inl (fun _ => 0))), (u 12, .inl (cyI, 3, .inl (fun _ => 0))), (u 14, .inl (cyI, 6, .inl (fun _ => 0))), (u 15, .inl (cyI, 6, .inl (fun _ => 0))), (u 16, .inl (cyI, 6, .inl (fun _ => 0))), (u 17, .inl (cyI, 400, .inl (fun _ => 0))), (u 19, .inl (cyI, 14, .inl (fun _ => 0)))])) (va_A [(h_g, .inr (3, [.int 0, .null, .null, .null, .int 0, .null, .null, .null, .int 0, .null, .null, .null, .null, .int 0, .null, .null, .null, .null, .int 0, .null]))] sz)) 15 540 (va_A [(h_g, .inr (3, [.int 0, .null, .null, .null, .int 0, .null, .null, .null, .int 0, .null, .null, .null, .null, .int 0, .null, .null, .null, .null, .int 0, .null]))] sz) := by
  refine ux_metM (by decide +kernel) (Nat.le_of_ble_eq_true rfl) ?_
  intro p e s m below meth c A Q ls hx hb hml hts hown hin hA hP hK hD hE hl hret
  have hown : s.vm.findClass RX3 = some m.cls := hown
  have hin : meth.name = "<init>" := hin
  have hS : va_S A s.heap s.heap [] := va_S.rf
  have hl : lv_has ls 1 [(0, .ref h_g)] := hl
  refine lv_aload_n hx hb dX3_init_0 rfl (lv_at hl 0 rfl) ?_
  refine W.objInit hx hb hown (hts _ (List.mem_cons_of_mem _ wm_3_18)) (hts _ (List.mem_cons_of_mem _ wm_1_10)) (hts _ (List.mem_cons_of_mem _ wm_1_11)) rfl (by rw [hml]; exact hl.1) rfl dX3_init_1 (Nat.le_of_ble_eq_true rfl) (Nat.le_of_ble_eq_true rfl) ?_
  refine W.eq (g2 := F0 m 4 ls []) rfl ?_
  refine lv_aload_n hx hb dX3_init_4 rfl (lv_at hl 0 rfl) ?_
  refine lv_iconst (v := (0 : Int32)) hx hb dX3_init_5 (by decide) ?_
  refine va_put (D := (dC, dI)) (ci := 3) (v := .int (0 : Int32)) (ty := .int) (C := RX3) (T := TX3) (N := 20) hx hb hts (g_c inlX3) tyX3 tyX3_ok nmX3 hown hK hP hD hS 0 rfl rfl 0 (by decide) (hts _ (List.mem_cons_of_mem _ wm_3_19)) (fun _ h9 => h9) rfl (by decide +kernel) rfl rfl (Nat.le_of_ble_eq_true rfl) dX3_init_6 (fun H locs hP hD hS => ?_)
  have hP : va_P (dC, dI) vwCl [(h_g, .inr (3, [.int (0 : Int32), .null, .null, .null, .int 0, .null, .null, .null, .int 0, .null, .null, .null, .null, .int 0, .null, .null, .null, .null, .int 0, .null]))] H := hP
  have hD : va_D A [(h_g, .inr (3, [.int (0 : Int32), .null, .null, .null, .int 0, .null, .null, .null, .int 0, .null, .null, .null, .null, .int 0, .null, .null, .null, .null, .int 0, .null]))] := hD
  refine lv_aload_n hx hb dX3_init_9 rfl (lv_at hl 0 rfl) ?_
  refine lv_bipush (v := (12 : Int32)) hx hb dX3_init_10 (by decide) ?_
  refine ux_newa (atype := .int) (ty := .int) (N' := 12) (a0 := (12, .inl (fun _ => 0))) hx hb (hts _ (List.mem_cons_of_mem _ wm_2_23)) rfl hK hP hD hS hA 0 rfl (fun _ => rfl) (by decide) (by decide) (by decide) (Nat.le_of_ble_eq_true rfl) (Nat.le_of_ble_eq_true rfl) dX3_init_12 (fun q12 H hP hD hS => ?_)
  have hP : va_P (dC, dI) vwCl [_, (q12, .inl (cyI, 12, .inl (fun _ => 0)))] H := hP
  have hD : va_D A [_, (q12, .inl (cyI, 12, .inl (fun _ => 0)))] := hD
  refine W.widen (k := 1) (n := 12) (by decide) (by decide) ?_
  refine va_putF (D := (dC, dI)) (ci := 3) (v := .ref q12) (ty := (.array .int)) (C := RX3) (T := TX3) (N := 20) hx hb hts (g_c inlX3) tyX3 tyX3_ok nmX3 hown hK hP hD hS 0 rfl rfl 1 (by decide) (hts _ (List.mem_cons_of_mem _ wm_3_20)) (fun _ h9 => h9) rfl hin rfl (by decide +kernel) rfl rfl (Nat.le_of_ble_eq_true rfl) dX3_init_14 (fun H locs hP hD hS => ?_)
  have hP : va_P (dC, dI) vwCl [(h_g, .inr (3, [.int (0 : Int32), .ref q12, .null, .null, .int 0, .null, .null, .null, .int 0, .null, .null, .null, .null, .int 0, .null, .null, .null, .null, .int 0, .null])), _] H := hP
  have hD : va_D A [(h_g, .inr (3, [.int (0 : Int32), .ref q12, .null, .null, .int 0, .null, .null, .null, .int 0, .null, .null, .null, .null, .int 0, .null, .null, .null, .null, .int 0, .null])), _] := hD
  refine lv_aload_n hx hb dX3_init_17 rfl (lv_at hl 0 rfl) ?_
  refine lv_bipush (v := (12 : Int32)) hx hb dX3_init_18 (by decide) ?_
  refine ux_newa (atype := .int) (ty := .int) (N' := 12) (a0 := (12, .inl (fun _ => 0))) hx hb (hts _ (List.mem_cons_of_mem _ wm_2_23)) rfl hK hP hD hS hA 0 rfl (fun _ => rfl) (by decide) (by decide) (by decide) (Nat.le_of_ble_eq_true rfl) (Nat.le_of_ble_eq_true rfl) dX3_init_20 (fun q20 H hP hD hS => ?_)
  have hP : va_P (dC, dI) vwCl [_, _, (q20, .inl (cyI, 12, .inl (fun _ => 0)))] H := hP
  have hD : va_D A [_, _, (q20, .inl (cyI, 12, .inl (fun _ => 0)))] := hD
  refine W.widen (k := 2) (n := 24) (by decide) (by decide) ?_
  refine va_putF (D := (dC, dI)) (ci := 3) (v := .ref q20) (ty := (.array .int)) (C := RX3) (T := TX3) (N := 20) hx hb hts (g_c inlX3) tyX3 tyX3_ok nmX3 hown hK hP hD hS 0 rfl rfl 2 (by decide) (hts _ (List.mem_cons_of_mem _ wm_3_21)) (fun _ h9 => h9) rfl hin rfl (by decide +kernel) rfl rfl (Nat.le_of_ble_eq_true rfl) dX3_init_22 (fun H locs hP hD hS => ?_)
  have hP : va_P (dC, dI) vwCl [(h_g, .inr (3, [.int (0 : Int32), .ref q12, .ref q20, .null, .int 0, .null, .null, .null, .int 0, .null, .null, .null, .null, .int 0, .null, .null, .null, .null, .int 0, .null])), _, _] H := hP
  have hD : va_D A [(h_g, .inr (3, [.int (0 : Int32), .ref q12, .ref q20, .null, .int 0, .null, .null, .null, .int 0, .null, .null, .null, .null, .int 0, .null, .null, .null, .null, .int 0, .null])), _, _] := hD
  refine lv_aload_n hx hb dX3_init_25 rfl (lv_at hl 0 rfl) ?_
  refine lv_bipush (v := (12 : Int32)) hx hb dX3_init_26 (by decide) ?_
  refine ux_newa (atype := .int) (ty := .int) (N' := 12) (a0 := (12, .inl (fun _ => 0))) hx hb (hts _ (List.mem_cons_of_mem _ wm_2_23)) rfl hK hP hD hS hA 0 rfl (fun _ => rfl) (by decide) (by decide) (by decide) (Nat.le_of_ble_eq_true rfl) (Nat.le_of_ble_eq_true rfl) dX3_init_28 (fun q28 H hP hD hS => ?_)
  have hP : va_P (dC, dI) vwCl [_, _, _, (q28, .inl (cyI, 12, .inl (fun _ => 0)))] H := hP
  have hD : va_D A [_, _, _, (q28, .inl (cyI, 12, .inl (fun _ => 0)))] := hD
  refine W.widen (k := 3) (n := 36) (by decide) (by decide) ?_
  refine va_putF (D := (dC, dI)) (ci := 3) (v := .ref q28) (ty := (.array .int)) (C := RX3) (T := TX3) (N := 20) hx hb hts (g_c inlX3) tyX3 tyX3_ok nmX3 hown hK hP hD hS 0 rfl rfl 3 (by decide) (hts _ (List.mem_cons_of_mem _ wm_3_22)) (fun _ h9 => h9) rfl hin rfl (by decide +kernel) rfl rfl (Nat.le_of_ble_eq_true rfl) dX3_init_30 (fun H locs hP hD hS => ?_)
  have hP : va_P (dC, dI) vwCl [(h_g, .inr (3, [.int (0 : Int32), .ref q12, .ref q20, .ref q28, .int 0, .null, .null, .null, .int 0, .null, .null, .null, .null, .int 0, .null, .null, .null, .null, .int 0, .null])), _, _, _] H := hP
  have hD : va_D A [(h_g, .inr (3, [.int (0 : Int32), .ref q12, .ref q20, .ref q28, .int 0, .null, .null, .null, .int 0, .null, .null, .null, .null, .int 0, .null, .null, .null, .null, .int 0, .null])), _, _, _] := hD
  refine lv_aload_n hx hb dX3_init_33 rfl (lv_at hl 0 rfl) ?_
  refine lv_iconst (v := (0 : Int32)) hx hb dX3_init_34 (by decide) ?_
  refine va_put (D := (dC, dI)) (ci := 3) (v := .int (0 : Int32)) (ty := .int) (C := RX3) (T := TX3) (N := 20) hx hb hts (g_c inlX3) tyX3 tyX3_ok nmX3 hown hK hP hD hS 0 rfl rfl 4 (by decide) (hts _ (List.mem_cons_of_mem _ wm_3_23)) (fun _ h9 => h9) rfl (by decide +kernel) rfl rfl (Nat.le_of_ble_eq_true rfl) dX3_init_35 (fun H locs hP hD hS => ?_)
  have hP : va_P (dC, dI) vwCl [(h_g, .inr (3, [.int (0 : Int32), .ref q12, .ref q20, .ref q28, .int (0 : Int32), .null, .null, .null, .int 0, .null, .null, .null, .null, .int 0, .null, .null, .null, .null, .int 0, .null])), _, _, _] H := hP
  have hD : va_D A [(h_g, .inr (3, [.int (0 : Int32), .ref q12, .ref q20, .ref q28, .int (0 : Int32), .null, .null, .null, .int 0, .null, .null, .null, .null, .int 0, .null, .null, .null, .null, .int 0, .null])), _, _, _] := hD
  refine lv_aload_n hx hb dX3_init_38 rfl (lv_at hl 0 rfl) ?_
  refine lv_bipush (v := (20 : Int32)) hx hb dX3_init_39 (by decide) ?_
  refine ux_newa (atype := .int) (ty := .int) (N' := 20) (a0 := (20, .inl (fun _ => 0))) hx hb (hts _ (List.mem_cons_of_mem _ wm_2_23)) rfl hK hP hD hS hA 0 rfl (fun _ => rfl) (by decide) (by decide) (by decide) (Nat.le_of_ble_eq_true rfl) (Nat.le_of_ble_eq_true rfl) dX3_init_41 (fun q41 H hP hD hS => ?_)
  have hP : va_P (dC, dI) vwCl [_, _, _, _, (q41, .inl (cyI, 20, .inl (fun _ => 0)))] H := hP
  have hD : va_D A [_, _, _, _, (q41, .inl (cyI, 20, .inl (fun _ => 0)))] := hD
  refine W.widen (k := 4) (n := 56) (by decide) (by decide) ?_
  refine va_putF (D := (dC, dI)) (ci := 3) (v := .ref q41) (ty := (.array .int)) (C := RX3) (T := TX3) (N := 20) hx hb hts (g_c inlX3) tyX3 tyX3_ok nmX3 hown hK hP hD hS 0 rfl rfl 5 (by decide) (hts _ (List.mem_cons_of_mem _ wm_4_0)) (fun _ h9 => h9) rfl hin rfl (by decide +kernel) rfl rfl (Nat.le_of_ble_eq_true rfl) dX3_init_43 (fun H locs hP hD hS => ?_)
  have hP : va_P (dC, dI) vwCl [(h_g, .inr (3, [.int (0 : Int32), .ref q12, .ref q20, .ref q28, .int (0 : Int32), .ref q41, .null, .null, .int 0, .null, .null, .null, .null, .int 0, .null, .null, .null, .null, .int 0, .null])), _, _, _, _] H := hP
  have hD : va_D A [(h_g, .inr (3, [.int (0 : Int32), .ref q12, .ref q20, .ref q28, .int (0 : Int32), .ref q41, .null, .null, .int 0, .null, .null, .null, .null, .int 0, .null, .null, .null, .null, .int 0, .null])), _, _, _, _] := hD
  refine lv_aload_n hx hb dX3_init_46 rfl (lv_at hl 0 rfl) ?_
  refine lv_bipush (v := (20 : Int32)) hx hb dX3_init_47 (by decide) ?_
  refine ux_newa (atype := .int) (ty := .int) (N' := 20) (a0 := (20, .inl (fun _ => 0))) hx hb (hts _ (List.mem_cons_of_mem _ wm_2_23)) rfl hK hP hD hS hA 0 rfl (fun _ => rfl) (by decide) (by decide) (by decide) (Nat.le_of_ble_eq_true rfl) (Nat.le_of_ble_eq_true rfl) dX3_init_49 (fun q49 H hP hD hS => ?_)
  have hP : va_P (dC, dI) vwCl [_, _, _, _, _, (q49, .inl (cyI, 20, .inl (fun _ => 0)))] H := hP
  have hD : va_D A [_, _, _, _, _, (q49, .inl (cyI, 20, .inl (fun _ => 0)))] := hD
  refine W.widen (k := 5) (n := 76) (by decide) (by decide) ?_
  refine va_putF (D := (dC, dI)) (ci := 3) (v := .ref q49) (ty := (.array .int)) (C := RX3) (T := TX3) (N := 20) hx hb hts (g_c inlX3) tyX3 tyX3_ok nmX3 hown hK hP hD hS 0 rfl rfl 6 (by decide) (hts _ (List.mem_cons_of_mem _ wm_4_1)) (fun _ h9 => h9) rfl hin rfl (by decide +kernel) rfl rfl (Nat.le_of_ble_eq_true rfl) dX3_init_51 (fun H locs hP hD hS => ?_)
  have hP : va_P (dC, dI) vwCl [(h_g, .inr (3, [.int (0 : Int32), .ref q12, .ref q20, .ref q28, .int (0 : Int32), .ref q41, .ref q49, .null, .int 0, .null, .null, .null, .null, .int 0, .null, .null, .null, .null, .int 0, .null])), _, _, _, _, _] H := hP
  have hD : va_D A [(h_g, .inr (3, [.int (0 : Int32), .ref q12, .ref q20, .ref q28, .int (0 : Int32), .ref q41, .ref q49, .null, .int 0, .null, .null, .null, .null, .int 0, .null, .null, .null, .null, .int 0, .null])), _, _, _, _, _] := hD
  refine lv_aload_n hx hb dX3_init_54 rfl (lv_at hl 0 rfl) ?_
  refine lv_bipush (v := (20 : Int32)) hx hb dX3_init_55 (by decide) ?_
  refine ux_newa (atype := .int) (ty := .int) (N' := 20) (a0 := (20, .inl (fun _ => 0))) hx hb (hts _ (List.mem_cons_of_mem _ wm_2_23)) rfl hK hP hD hS hA 0 rfl (fun _ => rfl) (by decide) (by decide) (by decide) (Nat.le_of_ble_eq_true rfl) (Nat.le_of_ble_eq_true rfl) dX3_init_57 (fun q57 H hP hD hS => ?_)
  have hP : va_P (dC, dI) vwCl [_, _, _, _, _, _, (q57, .inl (cyI, 20, .inl (fun _ => 0)))] H := hP
  have hD : va_D A [_, _, _, _, _, _, (q57, .inl (cyI, 20, .inl (fun _ => 0)))] := hD
  refine W.widen (k := 6) (n := 96) (by decide) (by decide) ?_
  refine va_putF (D := (dC, dI)) (ci := 3) (v := .ref q57) (ty := (.array .int)) (C := RX3) (T := TX3) (N := 20) hx hb hts (g_c inlX3) tyX3 tyX3_ok nmX3 hown hK hP hD hS 0 rfl rfl 7 (by decide) (hts _ (List.mem_cons_of_mem _ wm_4_2)) (fun _ h9 => h9) rfl hin rfl (by decide +kernel) rfl rfl (Nat.le_of_ble_eq_true rfl) dX3_init_59 (fun H locs hP hD hS => ?_)
  have hP : va_P (dC, dI) vwCl [(h_g, .inr (3, [.int (0 : Int32), .ref q12, .ref q20, .ref q28, .int (0 : Int32), .ref q41, .ref q49, .ref q57, .int 0, .null, .null, .null, .null, .int 0, .null, .null, .null, .null, .int 0, .null])), _, _, _, _, _, _] H := hP
  have hD : va_D A [(h_g, .inr (3, [.int (0 : Int32), .ref q12, .ref q20, .ref q28, .int (0 : Int32), .ref q41, .ref q49, .ref q57, .int 0, .null, .null, .null, .null, .int 0, .null, .null, .null, .null, .int 0, .null])), _, _, _, _, _, _] := hD
  refine lv_aload_n hx hb dX3_init_62 rfl (lv_at hl 0 rfl) ?_
  refine lv_iconst (v := (0 : Int32)) hx hb dX3_init_63 (by decide) ?_
  refine va_put (D := (dC, dI)) (ci := 3) (v := .int (0 : Int32)) (ty := .int) (C := RX3) (T := TX3) (N := 20) hx hb hts (g_c inlX3) tyX3 tyX3_ok nmX3 hown hK hP hD hS 0 rfl rfl 8 (by decide) (hts _ (List.mem_cons_of_mem _ wm_4_3)) (fun _ h9 => h9) rfl (by decide +kernel) rfl rfl (Nat.le_of_ble_eq_true rfl) dX3_init_64 (fun H locs hP hD hS => ?_)
  have hP : va_P (dC, dI) vwCl [(h_g, .inr (3, [.int (0 : Int32), .ref q12, .ref q20, .ref q28, .int (0 : Int32), .ref q41, .ref q49, .ref q57, .int (0 : Int32), .null, .null, .null, .null, .int 0, .null, .null, .null, .null, .int 0, .null])), _, _, _, _, _, _] H := hP
  have hD : va_D A [(h_g, .inr (3, [.int (0 : Int32), .ref q12, .ref q20, .ref q28, .int (0 : Int32), .ref q41, .ref q49, .ref q57, .int (0 : Int32), .null, .null, .null, .null, .int 0, .null, .null, .null, .null, .int 0, .null])), _, _, _, _, _, _] := hD
  refine lv_aload_n hx hb dX3_init_67 rfl (lv_at hl 0 rfl) ?_
  refine lv_iconst (v := (3 : Int32)) hx hb dX3_init_68 (by decide) ?_
  refine ux_newa (atype := .int) (ty := .int) (N' := 3) (a0 := (3, .inl (fun _ => 0))) hx hb (hts _ (List.mem_cons_of_mem _ wm_2_23)) rfl hK hP hD hS hA 0 rfl (fun _ => rfl) (by decide) (by decide) (by decide) (Nat.le_of_ble_eq_true rfl) (Nat.le_of_ble_eq_true rfl) dX3_init_69 (fun q69 H hP hD hS => ?_)
  have hP : va_P (dC, dI) vwCl [_, _, _, _, _, _, _, (q69, .inl (cyI, 3, .inl (fun _ => 0)))] H := hP
  have hD : va_D A [_, _, _, _, _, _, _, (q69, .inl (cyI, 3, .inl (fun _ => 0)))] := hD
  refine W.widen (k := 7) (n := 99) (by decide) (by decide) ?_
  refine va_putF (D := (dC, dI)) (ci := 3) (v := .ref q69) (ty := (.array .int)) (C := RX3) (T := TX3) (N := 20) hx hb hts (g_c inlX3) tyX3 tyX3_ok nmX3 hown hK hP hD hS 0 rfl rfl 9 (by decide) (hts _ (List.mem_cons_of_mem _ wm_4_4)) (fun _ h9 => h9) rfl hin rfl (by decide +kernel) rfl rfl (Nat.le_of_ble_eq_true rfl) dX3_init_71 (fun H locs hP hD hS => ?_)
  have hP : va_P (dC, dI) vwCl [(h_g, .inr (3, [.int (0 : Int32), .ref q12, .ref q20, .ref q28, .int (0 : Int32), .ref q41, .ref q49, .ref q57, .int (0 : Int32), .ref q69, .null, .null, .null, .int 0, .null, .null, .null, .null, .int 0, .null])), _, _, _, _, _, _, _] H := hP
  have hD : va_D A [(h_g, .inr (3, [.int (0 : Int32), .ref q12, .ref q20, .ref q28, .int (0 : Int32), .ref q41, .ref q49, .ref q57, .int (0 : Int32), .ref q69, .null, .null, .null, .int 0, .null, .null, .null, .null, .int 0, .null])), _, _, _, _, _, _, _] := hD
  refine lv_aload_n hx hb dX3_init_74 rfl (lv_at hl 0 rfl) ?_
  refine lv_iconst (v := (3 : Int32)) hx hb dX3_init_75 (by decide) ?_
  refine ux_newa (atype := .int) (ty := .int) (N' := 3) (a0 := (3, .inl (fun _ => 0))) hx hb (hts _ (List.mem_cons_of_mem _ wm_2_23)) rfl hK hP hD hS hA 0 rfl (fun _ => rfl) (by decide) (by decide) (by decide) (Nat.le_of_ble_eq_true rfl) (Nat.le_of_ble_eq_true rfl) dX3_init_76 (fun q76 H hP hD hS => ?_)
  have hP : va_P (dC, dI) vwCl [_, _, _, _, _, _, _, _, (q76, .inl (cyI, 3, .inl (fun _ => 0)))] H := hP
  have hD : va_D A [_, _, _, _, _, _, _, _, (q76, .inl (cyI, 3, .inl (fun _ => 0)))] := hD
  refine W.widen (k := 8) (n := 102) (by decide) (by decide) ?_
  refine va_putF (D := (dC, dI)) (ci := 3) (v := .ref q76) (ty := (.array .int)) (C := RX3) (T := TX3) (N := 20) hx hb hts (g_c inlX3) tyX3 tyX3_ok nmX3 hown hK hP hD hS 0 rfl rfl 10 (by decide) (hts _ (List.mem_cons_of_mem _ wm_4_5)) (fun _ h9 => h9) rfl hin rfl (by decide +kernel) rfl rfl (Nat.le_of_ble_eq_true rfl) dX3_init_78 (fun H locs hP hD hS => ?_)
  have hP : va_P (dC, dI) vwCl [(h_g, .inr (3, [.int (0 : Int32), .ref q12, .ref q20, .ref q28, .int (0 : Int32), .ref q41, .ref q49, .ref q57, .int (0 : Int32), .ref q69, .ref q76, .null, .null, .int 0, .null, .null, .null, .null, .int 0, .null])), _, _, _, _, _, _, _, _] H := hP
  have hD : va_D A [(h_g, .inr (3, [.int (0 : Int32), .ref q12, .ref q20, .ref q28, .int (0 : Int32), .ref q41, .ref q49, .ref q57, .int (0 : Int32), .ref q69, .ref q76, .null, .null, .int 0, .null, .null, .null, .null, .int 0, .null])), _, _, _, _, _, _, _, _] := hD
  refine lv_aload_n hx hb dX3_init_81 rfl (lv_at hl 0 rfl) ?_
  refine lv_iconst (v := (3 : Int32)) hx hb dX3_init_82 (by decide) ?_
  refine ux_newa (atype := .int) (ty := .int) (N' := 3) (a0 := (3, .inl (fun _ => 0))) hx hb (hts _ (List.mem_cons_of_mem _ wm_2_23)) rfl hK hP hD hS hA 0 rfl (fun _ => rfl) (by decide) (by decide) (by decide) (Nat.le_of_ble_eq_true rfl) (Nat.le_of_ble_eq_true rfl) dX3_init_83 (fun q83 H hP hD hS => ?_)
  have hP : va_P (dC, dI) vwCl [_, _, _, _, _, _, _, _, _, (q83, .inl (cyI, 3, .inl (fun _ => 0)))] H := hP
  have hD : va_D A [_, _, _, _, _, _, _, _, _, (q83, .inl (cyI, 3, .inl (fun _ => 0)))] := hD
  refine W.widen (k := 9) (n := 105) (by decide) (by decide) ?_
  refine va_putF (D := (dC, dI)) (ci := 3) (v := .ref q83) (ty := (.array .int)) (C := RX3) (T := TX3) (N := 20) hx hb hts (g_c inlX3) tyX3 tyX3_ok nmX3 hown hK hP hD hS 0 rfl rfl 11 (by decide) (hts _ (List.mem_cons_of_mem _ wm_4_6)) (fun _ h9 => h9) rfl hin rfl (by decide +kernel) rfl rfl (Nat.le_of_ble_eq_true rfl) dX3_init_85 (fun H locs hP hD hS => ?_)
  have hP : va_P (dC, dI) vwCl [(h_g, .inr (3, [.int (0 : Int32), .ref q12, .ref q20, .ref q28, .int (0 : Int32), .ref q41, .ref q49, .ref q57, .int (0 : Int32), .ref q69, .ref q76, .ref q83, .null, .int 0, .null, .null, .null, .null, .int 0, .null])), _, _, _, _, _, _, _, _, _] H := hP
  have hD : va_D A [(h_g, .inr (3, [.int (0 : Int32), .ref q12, .ref q20, .ref q28, .int (0 : Int32), .ref q41, .ref q49, .ref q57, .int (0 : Int32), .ref q69, .ref q76, .ref q83, .null, .int 0, .null, .null, .null, .null, .int 0, .null])), _, _, _, _, _, _, _, _, _] := hD
  refine lv_aload_n hx hb dX3_init_88 rfl (lv_at hl 0 rfl) ?_
  refine lv_iconst (v := (3 : Int32)) hx hb dX3_init_89 (by decide) ?_
  refine ux_newa (atype := .int) (ty := .int) (N' := 3) (a0 := (3, .inl (fun _ => 0))) hx hb (hts _ (List.mem_cons_of_mem _ wm_2_23)) rfl hK hP hD hS hA 0 rfl (fun _ => rfl) (by decide) (by decide) (by decide) (Nat.le_of_ble_eq_true rfl) (Nat.le_of_ble_eq_true rfl) dX3_init_90 (fun q90 H hP hD hS => ?_)
  have hP : va_P (dC, dI) vwCl [_, _, _, _, _, _, _, _, _, _, (q90, .inl (cyI, 3, .inl (fun _ => 0)))] H := hP
  have hD : va_D A [_, _, _, _, _, _, _, _, _, _, (q90, .inl (cyI, 3, .inl (fun _ => 0)))] := hD
  refine W.widen (k := 10) (n := 108) (by decide) (by decide) ?_
  refine va_putF (D := (dC, dI)) (ci := 3) (v := .ref q90) (ty := (.array .int)) (C := RX3) (T := TX3) (N := 20) hx hb hts (g_c inlX3) tyX3 tyX3_ok nmX3 hown hK hP hD hS 0 rfl rfl 12 (by decide) (hts _ (List.mem_cons_of_mem _ wm_4_7)) (fun _ h9 => h9) rfl hin rfl (by decide +kernel) rfl rfl (Nat.le_of_ble_eq_true rfl) dX3_init_92 (fun H locs hP hD hS => ?_)
  have hP : va_P (dC, dI) vwCl [(h_g, .inr (3, [.int (0 : Int32), .ref q12, .ref q20, .ref q28, .int (0 : Int32), .ref q41, .ref q49, .ref q57, .int (0 : Int32), .ref q69, .ref q76, .ref q83, .ref q90, .int 0, .null, .null, .null, .null, .int 0, .null])), _, _, _, _, _, _, _, _, _, _] H := hP
  have hD : va_D A [(h_g, .inr (3, [.int (0 : Int32), .ref q12, .ref q20, .ref q28, .int (0 : Int32), .ref q41, .ref q49, .ref q57, .int (0 : Int32), .ref q69, .ref q76, .ref q83, .ref q90, .int 0, .null, .null, .null, .null, .int 0, .null])), _, _, _, _, _, _, _, _, _, _] := hD
  refine lv_aload_n hx hb dX3_init_95 rfl (lv_at hl 0 rfl) ?_
  refine lv_iconst (v := (0 : Int32)) hx hb dX3_init_96 (by decide) ?_
  refine va_put (D := (dC, dI)) (ci := 3) (v := .int (0 : Int32)) (ty := .int) (C := RX3) (T := TX3) (N := 20) hx hb hts (g_c inlX3) tyX3 tyX3_ok nmX3 hown hK hP hD hS 0 rfl rfl 13 (by decide) (hts _ (List.mem_cons_of_mem _ wm_4_8)) (fun _ h9 => h9) rfl (by decide +kernel) rfl rfl (Nat.le_of_ble_eq_true rfl) dX3_init_97 (fun H locs hP hD hS => ?_)
  have hP : va_P (dC, dI) vwCl [(h_g, .inr (3, [.int (0 : Int32), .ref q12, .ref q20, .ref q28, .int (0 : Int32), .ref q41, .ref q49, .ref q57, .int (0 : Int32), .ref q69, .ref q76, .ref q83, .ref q90, .int (0 : Int32), .null, .null, .null, .null, .int 0, .null])), _, _, _, _, _, _, _, _, _, _] H := hP
  have hD : va_D A [(h_g, .inr (3, [.int (0 : Int32), .ref q12, .ref q20, .ref q28, .int (0 : Int32), .ref q41, .ref q49, .ref q57, .int (0 : Int32), .ref q69, .ref q76, .ref q83, .ref q90, .int (0 : Int32), .null, .null, .null, .null, .int 0, .null])), _, _, _, _, _, _, _, _, _, _] := hD
  refine lv_aload_n hx hb dX3_init_100 rfl (lv_at hl 0 rfl) ?_
  refine lv_bipush (v := (6 : Int32)) hx hb dX3_init_101 (by decide) ?_
  refine ux_newa (atype := .int) (ty := .int) (N' := 6) (a0 := (6, .inl (fun _ => 0))) hx hb (hts _ (List.mem_cons_of_mem _ wm_2_23)) rfl hK hP hD hS hA 0 rfl (fun _ => rfl) (by decide) (by decide) (by decide) (Nat.le_of_ble_eq_true rfl) (Nat.le_of_ble_eq_true rfl) dX3_init_103 (fun q103 H hP hD hS => ?_)
  have hP : va_P (dC, dI) vwCl [_, _, _, _, _, _, _, _, _, _, _, (q103, .inl (cyI, 6, .inl (fun _ => 0)))] H := hP
  have hD : va_D A [_, _, _, _, _, _, _, _, _, _, _, (q103, .inl (cyI, 6, .inl (fun _ => 0)))] := hD
  refine W.widen (k := 11) (n := 114) (by decide) (by decide) ?_
  refine va_putF (D := (dC, dI)) (ci := 3) (v := .ref q103) (ty := (.array .int)) (C := RX3) (T := TX3) (N := 20) hx hb hts (g_c inlX3) tyX3 tyX3_ok nmX3 hown hK hP hD hS 0 rfl rfl 14 (by decide) (hts _ (List.mem_cons_of_mem _ wm_4_9)) (fun _ h9 => h9) rfl hin rfl (by decide +kernel) rfl rfl (Nat.le_of_ble_eq_true rfl) dX3_init_105 (fun H locs hP hD hS => ?_)
  have hP : va_P (dC, dI) vwCl [(h_g, .inr (3, [.int (0 : Int32), .ref q12, .ref q20, .ref q28, .int (0 : Int32), .ref q41, .ref q49, .ref q57, .int (0 : Int32), .ref q69, .ref q76, .ref q83, .ref q90, .int (0 : Int32), .ref q103, .null, .null, .null, .int 0, .null])), _, _, _, _, _, _, _, _, _, _, _] H := hP
  have hD : va_D A [(h_g, .inr (3, [.int (0 : Int32), .ref q12, .ref q20, .ref q28, .int (0 : Int32), .ref q41, .ref q49, .ref q57, .int (0 : Int32), .ref q69, .ref q76, .ref q83, .ref q90, .int (0 : Int32), .ref q103, .null, .null, .null, .int 0, .null])), _, _, _, _, _, _, _, _, _, _, _] := hD
  refine lv_aload_n hx hb dX3_init_108 rfl (lv_at hl 0 rfl) ?_
  refine lv_bipush (v := (6 : Int32)) hx hb dX3_init_109 (by decide) ?_
  refine ux_newa (atype := .int) (ty := .int) (N' := 6) (a0 := (6, .inl (fun _ => 0))) hx hb (hts _ (List.mem_cons_of_mem _ wm_2_23)) rfl hK hP hD hS hA 0 rfl (fun _ => rfl) (by decide) (by decide) (by decide) (Nat.le_of_ble_eq_true rfl) (Nat.le_of_ble_eq_true rfl) dX3_init_111 (fun q111 H hP hD hS => ?_)
  have hP : va_P (dC, dI) vwCl [_, _, _, _, _, _, _, _, _, _, _, _, (q111, .inl (cyI, 6, .inl (fun _ => 0)))] H := hP
  have hD : va_D A [_, _, _, _, _, _, _, _, _, _, _, _, (q111, .inl (cyI, 6, .inl (fun _ => 0)))] := hD
  refine W.widen (k := 12) (n := 120) (by decide) (by decide) ?_
  refine va_putF (D := (dC, dI)) (ci := 3) (v := .ref q111) (ty := (.array .int)) (C := RX3) (T := TX3) (N := 20) hx hb hts (g_c inlX3) tyX3 tyX3_ok nmX3 hown hK hP hD hS 0 rfl rfl 15 (by decide) (hts _ (List.mem_cons_of_mem _ wm_4_10)) (fun _ h9 => h9) rfl hin rfl (by decide +kernel) rfl rfl (Nat.le_of_ble_eq_true rfl) dX3_init_113 (fun H locs hP hD hS => ?_)
  have hP : va_P (dC, dI) vwCl [(h_g, .inr (3, [.int (0 : Int32), .ref q12, .ref q20, .ref q28, .int (0 : Int32), .ref q41, .ref q49, .ref q57, .int (0 : Int32), .ref q69, .ref q76, .ref q83, .ref q90, .int (0 : Int32), .ref q103, .ref q111, .null, .null, .int 0, .null])), _, _, _, _, _, _, _, _, _, _, _, _] H := hP
  have hD : va_D A [(h_g, .inr (3, [.int (0 : Int32), .ref q12, .ref q20, .ref q28, .int (0 : Int32), .ref q41, .ref q49, .ref q57, .int (0 : Int32), .ref q69, .ref q76, .ref q83, .ref q90, .int (0 : Int32), .ref q103, .ref q111, .null, .null, .int 0, .null])), _, _, _, _, _, _, _, _, _, _, _, _] := hD
  refine lv_aload_n hx hb dX3_init_116 rfl (lv_at hl 0 rfl) ?_
  refine lv_bipush (v := (6 : Int32)) hx hb dX3_init_117 (by decide) ?_
  refine ux_newa (atype := .int) (ty := .int) (N' := 6) (a0 := (6, .inl (fun _ => 0))) hx hb (hts _ (List.mem_cons_of_mem _ wm_2_23)) rfl hK hP hD hS hA 0 rfl (fun _ => rfl) (by decide) (by decide) (by decide) (Nat.le_of_ble_eq_true rfl) (Nat.le_of_ble_eq_true rfl) dX3_init_119 (fun q119 H hP hD hS => ?_)
  have hP : va_P (dC, dI) vwCl [_, _, _, _, _, _, _, _, _, _, _, _, _, (q119, .inl (cyI, 6, .inl (fun _ => 0)))] H := hP
  have hD : va_D A [_, _, _, _, _, _, _, _, _, _, _, _, _, (q119, .inl (cyI, 6, .inl (fun _ => 0)))] := hD
  refine W.widen (k := 13) (n := 126) (by decide) (by decide) ?_
  refine va_putF (D := (dC, dI)) (ci := 3) (v := .ref q119) (ty := (.array .int)) (C := RX3) (T := TX3) (N := 20) hx hb hts (g_c inlX3) tyX3 tyX3_ok nmX3 hown hK hP hD hS 0 rfl rfl 16 (by decide) (hts _ (List.mem_cons_of_mem _ wm_4_11)) (fun _ h9 => h9) rfl hin rfl (by decide +kernel) rfl rfl (Nat.le_of_ble_eq_true rfl) dX3_init_121 (fun H locs hP hD hS => ?_)
  have hP : va_P (dC, dI) vwCl [(h_g, .inr (3, [.int (0 : Int32), .ref q12, .ref q20, .ref q28, .int (0 : Int32), .ref q41, .ref q49, .ref q57, .int (0 : Int32), .ref q69, .ref q76, .ref q83, .ref q90, .int (0 : Int32), .ref q103, .ref q111, .ref q119, .null, .int 0, .null])), _, _, _, _, _, _, _, _, _, _, _, _, _] H := hP
  have hD : va_D A [(h_g, .inr (3, [.int (0 : Int32), .ref q12, .ref q20, .ref q28, .int (0 : Int32), .ref q41, .ref q49, .ref q57, .int (0 : Int32), .ref q69, .ref q76, .ref q83, .ref q90, .int (0 : Int32), .ref q103, .ref q111, .ref q119, .null, .int 0, .null])), _, _, _, _, _, _, _, _, _, _, _, _, _] := hD
  refine lv_aload_n hx hb dX3_init_124 rfl (lv_at hl 0 rfl) ?_
  refine lv_sipush (v := (400 : Int32)) hx hb dX3_init_125 (by decide) ?_
  refine ux_newa (atype := .int) (ty := .int) (N' := 400) (a0 := (400, .inl (fun _ => 0))) hx hb (hts _ (List.mem_cons_of_mem _ wm_2_23)) rfl hK hP hD hS hA 0 rfl (fun _ => rfl) (by decide) (by decide) (by decide) (Nat.le_of_ble_eq_true rfl) (Nat.le_of_ble_eq_true rfl) dX3_init_128 (fun q128 H hP hD hS => ?_)
  have hP : va_P (dC, dI) vwCl [_, _, _, _, _, _, _, _, _, _, _, _, _, _, (q128, .inl (cyI, 400, .inl (fun _ => 0)))] H := hP
  have hD : va_D A [_, _, _, _, _, _, _, _, _, _, _, _, _, _, (q128, .inl (cyI, 400, .inl (fun _ => 0)))] := hD
  refine W.widen (k := 14) (n := 526) (by decide) (by decide) ?_
  refine va_putF (D := (dC, dI)) (ci := 3) (v := .ref q128) (ty := (.array .int)) (C := RX3) (T := TX3) (N := 20) hx hb hts (g_c inlX3) tyX3 tyX3_ok nmX3 hown hK hP hD hS 0 rfl rfl 17 (by decide) (hts _ (List.mem_cons_of_mem _ wm_4_12)) (fun _ h9 => h9) rfl hin rfl (by decide +kernel) rfl rfl (Nat.le_of_ble_eq_true rfl) dX3_init_130 (fun H locs hP hD hS => ?_)
  have hP : va_P (dC, dI) vwCl [(h_g, .inr (3, [.int (0 : Int32), .ref q12, .ref q20, .ref q28, .int (0 : Int32), .ref q41, .ref q49, .ref q57, .int (0 : Int32), .ref q69, .ref q76, .ref q83, .ref q90, .int (0 : Int32), .ref q103, .ref q111, .ref q119, .ref q128, .int 0, .null])), _, _, _, _, _, _, _, _, _, _, _, _, _, _] H := hP
  have hD : va_D A [(h_g, .inr (3, [.int (0 : Int32), .ref q12, .ref q20, .ref q28, .int (0 : Int32), .ref q41, .ref q49, .ref q57, .int (0 : Int32), .ref q69, .ref q76, .ref q83, .ref q90, .int (0 : Int32), .ref q103, .ref q111, .ref q119, .ref q128, .int 0, .null])), _, _, _, _, _, _, _, _, _, _, _, _, _, _] := hD
  refine lv_aload_n hx hb dX3_init_133 rfl (lv_at hl 0 rfl) ?_
  refine lv_iconst (v := (0 : Int32)) hx hb dX3_init_134 (by decide) ?_
  refine va_put (D := (dC, dI)) (ci := 3) (v := .int (0 : Int32)) (ty := .int) (C := RX3) (T := TX3) (N := 20) hx hb hts (g_c inlX3) tyX3 tyX3_ok nmX3 hown hK hP hD hS 0 rfl rfl 18 (by decide) (hts _ (List.mem_cons_of_mem _ wm_4_13)) (fun _ h9 => h9) rfl (by decide +kernel) rfl rfl (Nat.le_of_ble_eq_true rfl) dX3_init_135 (fun H locs hP hD hS => ?_)
  have hP : va_P (dC, dI) vwCl [(h_g, .inr (3, [.int (0 : Int32), .ref q12, .ref q20, .ref q28, .int (0 : Int32), .ref q41, .ref q49, .ref q57, .int (0 : Int32), .ref q69, .ref q76, .ref q83, .ref q90, .int (0 : Int32), .ref q103, .ref q111, .ref q119, .ref q128, .int (0 : Int32), .null])), _, _, _, _, _, _, _, _, _, _, _, _, _, _] H := hP
  have hD : va_D A [(h_g, .inr (3, [.int (0 : Int32), .ref q12, .ref q20, .ref q28, .int (0 : Int32), .ref q41, .ref q49, .ref q57, .int (0 : Int32), .ref q69, .ref q76, .ref q83, .ref q90, .int (0 : Int32), .ref q103, .ref q111, .ref q119, .ref q128, .int (0 : Int32), .null])), _, _, _, _, _, _, _, _, _, _, _, _, _, _] := hD
  refine lv_aload_n hx hb dX3_init_138 rfl (lv_at hl 0 rfl) ?_
  refine lv_bipush (v := (14 : Int32)) hx hb dX3_init_139 (by decide) ?_
  refine ux_newa (atype := .int) (ty := .int) (N' := 14) (a0 := (14, .inl (fun _ => 0))) hx hb (hts _ (List.mem_cons_of_mem _ wm_2_23)) rfl hK hP hD hS hA 0 rfl (fun _ => rfl) (by decide) (by decide) (by decide) (Nat.le_of_ble_eq_true rfl) (Nat.le_of_ble_eq_true rfl) dX3_init_141 (fun q141 H hP hD hS => ?_)
  have hP : va_P (dC, dI) vwCl [_, _, _, _, _, _, _, _, _, _, _, _, _, _, _, (q141, .inl (cyI, 14, .inl (fun _ => 0)))] H := hP
  have hD : va_D A [_, _, _, _, _, _, _, _, _, _, _, _, _, _, _, (q141, .inl (cyI, 14, .inl (fun _ => 0)))] := hD
  refine W.widen (k := 15) (n := 540) (by decide) (by decide) ?_
  refine va_putF (D := (dC, dI)) (ci := 3) (v := .ref q141) (ty := (.array .int)) (C := RX3) (T := TX3) (N := 20) hx hb hts (g_c inlX3) tyX3 tyX3_ok nmX3 hown hK hP hD hS 0 rfl rfl 19 (by decide) (hts _ (List.mem_cons_of_mem _ wm_4_14)) (fun _ h9 => h9) rfl hin rfl (by decide +kernel) rfl rfl (Nat.le_of_ble_eq_true rfl) dX3_init_143 (fun H locs hP hD hS => ?_)
  have hP : va_P (dC, dI) vwCl [(h_g, .inr (3, [.int (0 : Int32), .ref q12, .ref q20, .ref q28, .int (0 : Int32), .ref q41, .ref q49, .ref q57, .int (0 : Int32), .ref q69, .ref q76, .ref q83, .ref q90, .int (0 : Int32), .ref q103, .ref q111, .ref q119, .ref q128, .int (0 : Int32), .ref q141])), _, _, _, _, _, _, _, _, _, _, _, _, _, _, _] H := hP
  have hD : va_D A [(h_g, .inr (3, [.int (0 : Int32), .ref q12, .ref q20, .ref q28, .int (0 : Int32), .ref q41, .ref q49, .ref q57, .int (0 : Int32), .ref q69, .ref q76, .ref q83, .ref q90, .int (0 : Int32), .ref q103, .ref q111, .ref q119, .ref q128, .int (0 : Int32), .ref q141])), _, _, _, _, _, _, _, _, _, _, _, _, _, _, _] := hD
  obtain ⟨m_g, hm_g⟩ : ∃ z : Nat → Nat, z = fun k => ([0, q12, q20, q28, 0, q41, q49, q57, 0, q69, q76, q83, q90, 0, q103, q111, q119, q128, 0, q141] : List Nat).getD k 0 := ⟨_, rfl⟩
  have hP : va_P (dC, dI) vwCl [(h_g, .inr (3, oX3 m_g (0 : Int32) (0 : Int32) (0 : Int32) (0 : Int32) (0 : Int32))), (m_g 1, .inl (cyI, 12, .inl (fun _ => 0))), (m_g 2, .inl (cyI, 12, .inl (fun _ => 0))), (m_g 3, .inl (cyI, 12, .inl (fun _ => 0))), (m_g 5, .inl (cyI, 20, .inl (fun _ => 0))), (m_g 6, .inl (cyI, 20, .inl (fun _ => 0))), (m_g 7, .inl (cyI, 20, .inl (fun _ => 0))), (m_g 9, .inl (cyI, 3, .inl (fun _ => 0))), (m_g 10, .inl (cyI, 3, .inl (fun _ => 0))), (m_g 11, .inl (cyI, 3, .inl (fun _ => 0))), (m_g 12, .inl (cyI, 3, .inl (fun _ => 0))), (m_g 14, .inl (cyI, 6, .inl (fun _ => 0))), (m_g 15, .inl (cyI, 6, .inl (fun _ => 0))), (m_g 16, .inl (cyI, 6, .inl (fun _ => 0))), (m_g 17, .inl (cyI, 400, .inl (fun _ => 0))), (m_g 19, .inl (cyI, 14, .inl (fun _ => 0)))] H := by subst hm_g; exact hP.sub [0, 1, 2, 3, 4, 5, 6, 7, 8, 9, 10, 11, 12, 13, 14, 15] (ux_pick (sg_h [(0, 16)] 16 rfl sk_z14_2 rfl))
  have hD : va_D A [(h_g, .inr (3, oX3 m_g (0 : Int32) (0 : Int32) (0 : Int32) (0 : Int32) (0 : Int32))), (m_g 1, .inl (cyI, 12, .inl (fun _ => 0))), (m_g 2, .inl (cyI, 12, .inl (fun _ => 0))), (m_g 3, .inl (cyI, 12, .inl (fun _ => 0))), (m_g 5, .inl (cyI, 20, .inl (fun _ => 0))), (m_g 6, .inl (cyI, 20, .inl (fun _ => 0))), (m_g 7, .inl (cyI, 20, .inl (fun _ => 0))), (m_g 9, .inl (cyI, 3, .inl (fun _ => 0))), (m_g 10, .inl (cyI, 3, .inl (fun _ => 0))), (m_g 11, .inl (cyI, 3, .inl (fun _ => 0))), (m_g 12, .inl (cyI, 3, .inl (fun _ => 0))), (m_g 14, .inl (cyI, 6, .inl (fun _ => 0))), (m_g 15, .inl (cyI, 6, .inl (fun _ => 0))), (m_g 16, .inl (cyI, 6, .inl (fun _ => 0))), (m_g 17, .inl (cyI, 400, .inl (fun _ => 0))), (m_g 19, .inl (cyI, 14, .inl (fun _ => 0)))] := by subst hm_g; exact hD.sub [0, 1, 2, 3, 4, 5, 6, 7, 8, 9, 10, 11, 12, 13, 14, 15] nd_z14_2 (sg_h [(0, 16)] 16 rfl sk_z14_2 rfl)
  exact hret _ _ _ _ m_g dX3_init_146 trivial hP hD hS
set_option maxRecDepth 100000 in
set_option maxHeartbeats 8000000 in
theorem c_X0_init (l : Launch) (dC : Nat → ClassId) (dI : Nat → Nat → Nat) (cyI cyJ cyZ cyB cyO : ClassId) (tO : Nat) (vF : Value) (adK adV : Nat → Nat) (h_c : Nat) (h_g : Nat) (h_p : Nat) (sz : Nat) : Met l yX0_init (Cond.code yX0_init cX0_init 3 none :: wsL_law) ({ frames := 1, cells := 5, slots := 58, locals := 12 } : Room) (va_Pc [.ref h_c, .ref h_g, .ref h_p] (ux_pre (dC, dI) vwCl (tyG cyI cyJ cyZ cyB cyO) [(h_c, .inr (0, [.null, .null, .null, .int 0, .int 0, .null, .null, .null, .null]))] sz (xE tO vF adK adV))) (va_Qv (fun _ : (Nat → Nat) => True) (ux_at (dC, dI) vwCl (tyG cyI cyJ cyZ cyB cyO) [(h_c, .inr (0, [.null, .null, .null, .int 0, .int 0, .null, .null, .null, .null]))] sz (fun u : (Nat → Nat) => [(h_c, .inr (0, oX0 u h_g h_p (0 : Int32) (0 : Int32))), (u 2, .inl (cyZ, 6, .inl (fun _ => 0))), (u 5, .inl (cyI, 12, .inl (fun _ => 0))), (u 6, .inl (cyI, 12, .inl (fun _ => 0))), (u 7, .inl (cyJ, 12, .inr (.inl (fun _ => 0)))), (u 8, .inl (cyI, 16, .inl (fun _ => 0)))])) (va_A [(h_c, .inr (0, [.null, .null, .null, .int 0, .int 0, .null, .null, .null, .null]))] sz)) 5 58 (va_A [(h_c, .inr (0, [.null, .null, .null, .int 0, .int 0, .null, .null, .null, .null]))] sz) := by
  refine ux_metM (by decide +kernel) (Nat.le_of_ble_eq_true rfl) ?_
  intro p e s m below meth c A Q ls hx hb hml hts hown hin hA hP hK hD hE hl hret
  have hown : s.vm.findClass RX0 = some m.cls := hown
  have hin : meth.name = "<init>" := hin
  have hS : va_S A s.heap s.heap [] := va_S.rf
  have hl : lv_has ls 3 [(0, .ref h_c), (1, .ref h_g), (2, .ref h_p)] := hl
  refine lv_aload_n hx hb dX0_init_0 rfl (lv_at hl 0 rfl) ?_
  refine W.objInit hx hb hown (hts _ (List.mem_cons_of_mem _ wm_5_5)) (hts _ (List.mem_cons_of_mem _ wm_1_10)) (hts _ (List.mem_cons_of_mem _ wm_1_11)) rfl (by rw [hml]; exact hl.1) rfl dX0_init_1 (Nat.le_of_ble_eq_true rfl) (Nat.le_of_ble_eq_true rfl) ?_
  refine W.eq (g2 := F0 m 4 ls []) rfl ?_
  refine lv_aload_n hx hb dX0_init_4 rfl (lv_at hl 0 rfl) ?_
  refine lv_bipush (v := (6 : Int32)) hx hb dX0_init_5 (by decide) ?_
  refine ux_newa (atype := .boolean) (ty := .boolean) (N' := 6) (a0 := (6, .inl (fun _ => 0))) hx hb (hts _ (List.mem_cons_of_mem _ wm_2_14)) rfl hK hP hD hS hA 2 rfl (fun _ => rfl) (by decide) (by decide) (by decide) (Nat.le_of_ble_eq_true rfl) (Nat.le_of_ble_eq_true rfl) dX0_init_7 (fun q7 H hP hD hS => ?_)
  have hP : va_P (dC, dI) vwCl [(h_c, .inr (0, [.null, .null, .null, .int 0, .int 0, .null, .null, .null, .null])), (q7, .inl (cyZ, 6, .inl (fun _ => 0)))] H := hP
  have hD : va_D A [(h_c, .inr (0, [.null, .null, .null, .int 0, .int 0, .null, .null, .null, .null])), (q7, .inl (cyZ, 6, .inl (fun _ => 0)))] := hD
  refine W.widen (k := 1) (n := 6) (by decide) (by decide) ?_
  refine va_putF (D := (dC, dI)) (ci := 0) (v := .ref q7) (ty := (.array .boolean)) (C := RX0) (T := TX0) (N := 9) hx hb hts (g_c inlX0) tyX0 tyX0_ok nmX0 hown hK hP hD hS 0 rfl rfl 2 (by decide) (hts _ (List.mem_cons_of_mem _ wm_5_6)) (fun _ h9 => h9) rfl hin rfl (by decide +kernel) rfl rfl (Nat.le_of_ble_eq_true rfl) dX0_init_9 (fun H locs hP hD hS => ?_)
  have hP : va_P (dC, dI) vwCl [(h_c, .inr (0, [.null, .null, .ref q7, .int 0, .int 0, .null, .null, .null, .null])), _] H := hP
  have hD : va_D A [(h_c, .inr (0, [.null, .null, .ref q7, .int 0, .int 0, .null, .null, .null, .null])), _] := hD
  refine lv_aload_n hx hb dX0_init_12 rfl (lv_at hl 0 rfl) ?_
  refine lv_iconst (v := (0 : Int32)) hx hb dX0_init_13 (by decide) ?_
  refine va_put (D := (dC, dI)) (ci := 0) (v := .int (0 : Int32)) (ty := .int) (C := RX0) (T := TX0) (N := 9) hx hb hts (g_c inlX0) tyX0 tyX0_ok nmX0 hown hK hP hD hS 0 rfl rfl 3 (by decide) (hts _ (List.mem_cons_of_mem _ wm_5_7)) (fun _ h9 => h9) rfl (by decide +kernel) rfl rfl (Nat.le_of_ble_eq_true rfl) dX0_init_14 (fun H locs hP hD hS => ?_)
  have hP : va_P (dC, dI) vwCl [(h_c, .inr (0, [.null, .null, .ref q7, .int (0 : Int32), .int 0, .null, .null, .null, .null])), _] H := hP
  have hD : va_D A [(h_c, .inr (0, [.null, .null, .ref q7, .int (0 : Int32), .int 0, .null, .null, .null, .null])), _] := hD
  refine lv_aload_n hx hb dX0_init_17 rfl (lv_at hl 0 rfl) ?_
  refine lv_iconst (v := (0 : Int32)) hx hb dX0_init_18 (by decide) ?_
  refine va_put (D := (dC, dI)) (ci := 0) (v := .int (0 : Int32)) (ty := .int) (C := RX0) (T := TX0) (N := 9) hx hb hts (g_c inlX0) tyX0 tyX0_ok nmX0 hown hK hP hD hS 0 rfl rfl 4 (by decide) (hts _ (List.mem_cons_of_mem _ wm_5_8)) (fun _ h9 => h9) rfl (by decide +kernel) rfl rfl (Nat.le_of_ble_eq_true rfl) dX0_init_19 (fun H locs hP hD hS => ?_)
  have hP : va_P (dC, dI) vwCl [(h_c, .inr (0, [.null, .null, .ref q7, .int (0 : Int32), .int (0 : Int32), .null, .null, .null, .null])), _] H := hP
  have hD : va_D A [(h_c, .inr (0, [.null, .null, .ref q7, .int (0 : Int32), .int (0 : Int32), .null, .null, .null, .null])), _] := hD
  refine lv_aload_n hx hb dX0_init_22 rfl (lv_at hl 0 rfl) ?_
  refine lv_bipush (v := (12 : Int32)) hx hb dX0_init_23 (by decide) ?_
  refine ux_newa (atype := .int) (ty := .int) (N' := 12) (a0 := (12, .inl (fun _ => 0))) hx hb (hts _ (List.mem_cons_of_mem _ wm_2_23)) rfl hK hP hD hS hA 0 rfl (fun _ => rfl) (by decide) (by decide) (by decide) (Nat.le_of_ble_eq_true rfl) (Nat.le_of_ble_eq_true rfl) dX0_init_25 (fun q25 H hP hD hS => ?_)
  have hP : va_P (dC, dI) vwCl [_, _, (q25, .inl (cyI, 12, .inl (fun _ => 0)))] H := hP
  have hD : va_D A [_, _, (q25, .inl (cyI, 12, .inl (fun _ => 0)))] := hD
  refine W.widen (k := 2) (n := 18) (by decide) (by decide) ?_
  refine va_putF (D := (dC, dI)) (ci := 0) (v := .ref q25) (ty := (.array .int)) (C := RX0) (T := TX0) (N := 9) hx hb hts (g_c inlX0) tyX0 tyX0_ok nmX0 hown hK hP hD hS 0 rfl rfl 5 (by decide) (hts _ (List.mem_cons_of_mem _ wm_5_9)) (fun _ h9 => h9) rfl hin rfl (by decide +kernel) rfl rfl (Nat.le_of_ble_eq_true rfl) dX0_init_27 (fun H locs hP hD hS => ?_)
  have hP : va_P (dC, dI) vwCl [(h_c, .inr (0, [.null, .null, .ref q7, .int (0 : Int32), .int (0 : Int32), .ref q25, .null, .null, .null])), _, _] H := hP
  have hD : va_D A [(h_c, .inr (0, [.null, .null, .ref q7, .int (0 : Int32), .int (0 : Int32), .ref q25, .null, .null, .null])), _, _] := hD
  refine lv_aload_n hx hb dX0_init_30 rfl (lv_at hl 0 rfl) ?_
  refine lv_bipush (v := (12 : Int32)) hx hb dX0_init_31 (by decide) ?_
  refine ux_newa (atype := .int) (ty := .int) (N' := 12) (a0 := (12, .inl (fun _ => 0))) hx hb (hts _ (List.mem_cons_of_mem _ wm_2_23)) rfl hK hP hD hS hA 0 rfl (fun _ => rfl) (by decide) (by decide) (by decide) (Nat.le_of_ble_eq_true rfl) (Nat.le_of_ble_eq_true rfl) dX0_init_33 (fun q33 H hP hD hS => ?_)
  have hP : va_P (dC, dI) vwCl [_, _, _, (q33, .inl (cyI, 12, .inl (fun _ => 0)))] H := hP
  have hD : va_D A [_, _, _, (q33, .inl (cyI, 12, .inl (fun _ => 0)))] := hD
  refine W.widen (k := 3) (n := 30) (by decide) (by decide) ?_
  refine va_putF (D := (dC, dI)) (ci := 0) (v := .ref q33) (ty := (.array .int)) (C := RX0) (T := TX0) (N := 9) hx hb hts (g_c inlX0) tyX0 tyX0_ok nmX0 hown hK hP hD hS 0 rfl rfl 6 (by decide) (hts _ (List.mem_cons_of_mem _ wm_5_10)) (fun _ h9 => h9) rfl hin rfl (by decide +kernel) rfl rfl (Nat.le_of_ble_eq_true rfl) dX0_init_35 (fun H locs hP hD hS => ?_)
  have hP : va_P (dC, dI) vwCl [(h_c, .inr (0, [.null, .null, .ref q7, .int (0 : Int32), .int (0 : Int32), .ref q25, .ref q33, .null, .null])), _, _, _] H := hP
  have hD : va_D A [(h_c, .inr (0, [.null, .null, .ref q7, .int (0 : Int32), .int (0 : Int32), .ref q25, .ref q33, .null, .null])), _, _, _] := hD
  refine lv_aload_n hx hb dX0_init_38 rfl (lv_at hl 0 rfl) ?_
  refine lv_bipush (v := (12 : Int32)) hx hb dX0_init_39 (by decide) ?_
  refine ux_newa (atype := .long) (ty := .long) (N' := 12) (a0 := (12, .inr (.inl (fun _ => 0)))) hx hb (hts _ (List.mem_cons_of_mem _ wm_3_2)) rfl hK hP hD hS hA 1 rfl (fun _ => rfl) (by decide) (by decide) (by decide) (Nat.le_of_ble_eq_true rfl) (Nat.le_of_ble_eq_true rfl) dX0_init_41 (fun q41 H hP hD hS => ?_)
  have hP : va_P (dC, dI) vwCl [_, _, _, _, (q41, .inl (cyJ, 12, .inr (.inl (fun _ => 0))))] H := hP
  have hD : va_D A [_, _, _, _, (q41, .inl (cyJ, 12, .inr (.inl (fun _ => 0))))] := hD
  refine W.widen (k := 4) (n := 42) (by decide) (by decide) ?_
  refine va_putF (D := (dC, dI)) (ci := 0) (v := .ref q41) (ty := (.array .long)) (C := RX0) (T := TX0) (N := 9) hx hb hts (g_c inlX0) tyX0 tyX0_ok nmX0 hown hK hP hD hS 0 rfl rfl 7 (by decide) (hts _ (List.mem_cons_of_mem _ wm_5_11)) (fun _ h9 => h9) rfl hin rfl (by decide +kernel) rfl rfl (Nat.le_of_ble_eq_true rfl) dX0_init_43 (fun H locs hP hD hS => ?_)
  have hP : va_P (dC, dI) vwCl [(h_c, .inr (0, [.null, .null, .ref q7, .int (0 : Int32), .int (0 : Int32), .ref q25, .ref q33, .ref q41, .null])), _, _, _, _] H := hP
  have hD : va_D A [(h_c, .inr (0, [.null, .null, .ref q7, .int (0 : Int32), .int (0 : Int32), .ref q25, .ref q33, .ref q41, .null])), _, _, _, _] := hD
  refine lv_aload_n hx hb dX0_init_46 rfl (lv_at hl 0 rfl) ?_
  refine lv_bipush (v := (16 : Int32)) hx hb dX0_init_47 (by decide) ?_
  refine ux_newa (atype := .int) (ty := .int) (N' := 16) (a0 := (16, .inl (fun _ => 0))) hx hb (hts _ (List.mem_cons_of_mem _ wm_2_23)) rfl hK hP hD hS hA 0 rfl (fun _ => rfl) (by decide) (by decide) (by decide) (Nat.le_of_ble_eq_true rfl) (Nat.le_of_ble_eq_true rfl) dX0_init_49 (fun q49 H hP hD hS => ?_)
  have hP : va_P (dC, dI) vwCl [_, _, _, _, _, (q49, .inl (cyI, 16, .inl (fun _ => 0)))] H := hP
  have hD : va_D A [_, _, _, _, _, (q49, .inl (cyI, 16, .inl (fun _ => 0)))] := hD
  refine W.widen (k := 5) (n := 58) (by decide) (by decide) ?_
  refine va_putF (D := (dC, dI)) (ci := 0) (v := .ref q49) (ty := (.array .int)) (C := RX0) (T := TX0) (N := 9) hx hb hts (g_c inlX0) tyX0 tyX0_ok nmX0 hown hK hP hD hS 0 rfl rfl 8 (by decide) (hts _ (List.mem_cons_of_mem _ wm_5_12)) (fun _ h9 => h9) rfl hin rfl (by decide +kernel) rfl rfl (Nat.le_of_ble_eq_true rfl) dX0_init_51 (fun H locs hP hD hS => ?_)
  have hP : va_P (dC, dI) vwCl [(h_c, .inr (0, [.null, .null, .ref q7, .int (0 : Int32), .int (0 : Int32), .ref q25, .ref q33, .ref q41, .ref q49])), _, _, _, _, _] H := hP
  have hD : va_D A [(h_c, .inr (0, [.null, .null, .ref q7, .int (0 : Int32), .int (0 : Int32), .ref q25, .ref q33, .ref q41, .ref q49])), _, _, _, _, _] := hD
  refine lv_aload_n hx hb dX0_init_54 rfl (lv_at hl 0 rfl) ?_
  refine lv_aload_n hx hb dX0_init_55 rfl (lv_at hl 1 rfl) ?_
  refine va_putF (D := (dC, dI)) (ci := 0) (v := .ref h_g) (ty := (.object "WellVillages$Ground")) (C := RX0) (T := TX0) (N := 9) hx hb hts (g_c inlX0) tyX0 tyX0_ok nmX0 hown hK hP hD hS 0 rfl rfl 0 (by decide) (hts _ (List.mem_cons_of_mem _ wm_5_13)) (fun _ h9 => h9) rfl hin rfl (by decide +kernel) rfl rfl (Nat.le_of_ble_eq_true rfl) dX0_init_56 (fun H locs hP hD hS => ?_)
  have hP : va_P (dC, dI) vwCl [(h_c, .inr (0, [.ref h_g, .null, .ref q7, .int (0 : Int32), .int (0 : Int32), .ref q25, .ref q33, .ref q41, .ref q49])), _, _, _, _, _] H := hP
  have hD : va_D A [(h_c, .inr (0, [.ref h_g, .null, .ref q7, .int (0 : Int32), .int (0 : Int32), .ref q25, .ref q33, .ref q41, .ref q49])), _, _, _, _, _] := hD
  refine lv_aload_n hx hb dX0_init_59 rfl (lv_at hl 0 rfl) ?_
  refine lv_aload_n hx hb dX0_init_60 rfl (lv_at hl 2 rfl) ?_
  refine va_putF (D := (dC, dI)) (ci := 0) (v := .ref h_p) (ty := (.object "WellVillages$Plan")) (C := RX0) (T := TX0) (N := 9) hx hb hts (g_c inlX0) tyX0 tyX0_ok nmX0 hown hK hP hD hS 0 rfl rfl 1 (by decide) (hts _ (List.mem_cons_of_mem _ wm_5_14)) (fun _ h9 => h9) rfl hin rfl (by decide +kernel) rfl rfl (Nat.le_of_ble_eq_true rfl) dX0_init_61 (fun H locs hP hD hS => ?_)
  have hP : va_P (dC, dI) vwCl [(h_c, .inr (0, [.ref h_g, .ref h_p, .ref q7, .int (0 : Int32), .int (0 : Int32), .ref q25, .ref q33, .ref q41, .ref q49])), _, _, _, _, _] H := hP
  have hD : va_D A [(h_c, .inr (0, [.ref h_g, .ref h_p, .ref q7, .int (0 : Int32), .int (0 : Int32), .ref q25, .ref q33, .ref q41, .ref q49])), _, _, _, _, _] := hD
  obtain ⟨m_c, hm_c⟩ : ∃ z : Nat → Nat, z = fun k => ([0, 0, q7, 0, 0, q25, q33, q41, q49] : List Nat).getD k 0 := ⟨_, rfl⟩
  have hP : va_P (dC, dI) vwCl [(h_c, .inr (0, oX0 m_c h_g h_p (0 : Int32) (0 : Int32))), (m_c 2, .inl (cyZ, 6, .inl (fun _ => 0))), (m_c 5, .inl (cyI, 12, .inl (fun _ => 0))), (m_c 6, .inl (cyI, 12, .inl (fun _ => 0))), (m_c 7, .inl (cyJ, 12, .inr (.inl (fun _ => 0)))), (m_c 8, .inl (cyI, 16, .inl (fun _ => 0)))] H := by subst hm_c; exact hP.sub [0, 1, 2, 3, 4, 5] (ux_pick (sg_h [(0, 6)] 6 rfl sk_z14_3 rfl))
  have hD : va_D A [(h_c, .inr (0, oX0 m_c h_g h_p (0 : Int32) (0 : Int32))), (m_c 2, .inl (cyZ, 6, .inl (fun _ => 0))), (m_c 5, .inl (cyI, 12, .inl (fun _ => 0))), (m_c 6, .inl (cyI, 12, .inl (fun _ => 0))), (m_c 7, .inl (cyJ, 12, .inr (.inl (fun _ => 0)))), (m_c 8, .inl (cyI, 16, .inl (fun _ => 0)))] := by subst hm_c; exact hD.sub [0, 1, 2, 3, 4, 5] nd_z14_3 (sg_h [(0, 6)] 6 rfl sk_z14_3 rfl)
  exact hret _ _ _ _ m_c dX0_init_64 trivial hP hD hS
set_option maxRecDepth 100000 in
set_option maxHeartbeats 8000000 in
theorem c_X5_init (l : Launch) (dC : Nat → ClassId) (dI : Nat → Nat → Nat) (cyI cyJ cyZ cyB cyO : ClassId) (tO : Nat) (vF : Value) (adK adV : Nat → Nat) (h_r : Nat) (sz : Nat) : Met l yX5_init (Cond.code yX5_init cX5_init 1 none :: wsL_law) ({ frames := 2, cells := 21, slots := 1787, locals := 32 } : Room) (va_Pc [.ref h_r] (ux_pre (dC, dI) vwCl (tyG cyI cyJ cyZ cyB cyO) [(h_r, .inr (5, [.null, .null, .null, .null, .null, .null, .int 0, .int 0, .int 0, .int 0, .int 0, .int 0, .int 0, .int 0]))] sz (xE tO vF adK adV))) (va_Qv (fun _ : (Nat → Nat) × Nat × (Nat → Nat) => True) (ux_at (dC, dI) vwCl (tyG cyI cyJ cyZ cyB cyO) [(h_r, .inr (5, [.null, .null, .null, .null, .null, .null, .int 0, .int 0, .int 0, .int 0, .int 0, .int 0, .int 0, .int 0]))] sz (fun u : (Nat → Nat) × Nat × (Nat → Nat) => [(h_r, .inr (5, oX5 u.1 u.2.1 (0 : Int32) (0 : Int32) (-1 : Int32) (0 : Int32) (0 : Int32) (-1 : Int32) (0 : Int32) (-1 : Int32))), (u.1 0, .inl (cyI, 403, .inl (fun _ => 0))), (u.1 1, .inl (cyI, 403, .inl (fun _ => 0))), (u.1 2, .inl (cyJ, 403, .inr (.inl (fun _ => 0)))), (u.1 3, .inl (cyJ, 12, .inr (.inl (fun _ => 0)))), (u.1 4, .inl (cyJ, 6, .inr (.inl (fun _ => 0)))), (u.2.1, .inr (3, oX3 u.2.2 (0 : Int32) (0 : Int32) (0 : Int32) (0 : Int32) (0 : Int32))), (u.2.2 1, .inl (cyI, 12, .inl (fun _ => 0))), (u.2.2 2, .inl (cyI, 12, .inl (fun _ => 0))), (u.2.2 3, .inl (cyI, 12, .inl (fun _ => 0))), (u.2.2 5, .inl (cyI, 20, .inl (fun _ => 0))), (u.2.2 6, .inl (cyI, 20, .inl (fun _ => 0))), (u.2.2 7, .inl (cyI, 20, .inl (fun _ => 0))), (u.2.2 9, .inl (cyI, 3, .inl (fun _ => 0))), (u.2.2 10, .inl (cyI, 3, .inl (fun _ => 0))), (u.2.2 11, .inl (cyI, 3, .inl (fun _ => 0))), (u.2.2 12, .inl (cyI, 3, .inl (fun _ => 0))), (u.2.2 14, .inl (cyI, 6, .inl (fun _ => 0))), (u.2.2 15, .inl (cyI, 6, .inl (fun _ => 0))), (u.2.2 16, .inl (cyI, 6, .inl (fun _ => 0))), (u.2.2 17, .inl (cyI, 400, .inl (fun _ => 0))), (u.2.2 19, .inl (cyI, 14, .inl (fun _ => 0)))])) (va_A [(h_r, .inr (5, [.null, .null, .null, .null, .null, .null, .int 0, .int 0, .int 0, .int 0, .int 0, .int 0, .int 0, .int 0]))] sz)) 21 1787 (va_A [(h_r, .inr (5, [.null, .null, .null, .null, .null, .null, .int 0, .int 0, .int 0, .int 0, .int 0, .int 0, .int 0, .int 0]))] sz) := by
  refine ux_metM (by decide +kernel) (Nat.le_of_ble_eq_true rfl) ?_
  intro p e s m below meth c A Q ls hx hb hml hts hown hin hA hP hK hD hE hl hret
  have hown : s.vm.findClass RX5 = some m.cls := hown
  have hin : meth.name = "<init>" := hin
  have hS : va_S A s.heap s.heap [] := va_S.rf
  have hl : lv_has ls 1 [(0, .ref h_r)] := hl
  refine lv_aload_n hx hb dX5_init_0 rfl (lv_at hl 0 rfl) ?_
  refine W.objInit hx hb hown (hts _ (List.mem_cons_of_mem _ wm_2_22)) (hts _ (List.mem_cons_of_mem _ wm_1_10)) (hts _ (List.mem_cons_of_mem _ wm_1_11)) rfl (by rw [hml]; exact hl.1) rfl dX5_init_1 (Nat.le_of_ble_eq_true rfl) (Nat.le_of_ble_eq_true rfl) ?_
  refine W.eq (g2 := F0 m 4 ls []) rfl ?_
  refine lv_aload_n hx hb dX5_init_4 rfl (lv_at hl 0 rfl) ?_
  refine lv_sipush (v := (403 : Int32)) hx hb dX5_init_5 (by decide) ?_
  refine ux_newa (atype := .int) (ty := .int) (N' := 403) (a0 := (403, .inl (fun _ => 0))) hx hb (hts _ (List.mem_cons_of_mem _ wm_2_23)) rfl hK hP hD hS hA 0 rfl (fun _ => rfl) (by decide) (by decide) (by decide) (Nat.le_of_ble_eq_true rfl) (Nat.le_of_ble_eq_true rfl) dX5_init_8 (fun q8 H hP hD hS => ?_)
  have hP : va_P (dC, dI) vwCl [(h_r, .inr (5, [.null, .null, .null, .null, .null, .null, .int 0, .int 0, .int 0, .int 0, .int 0, .int 0, .int 0, .int 0])), (q8, .inl (cyI, 403, .inl (fun _ => 0)))] H := hP
  have hD : va_D A [(h_r, .inr (5, [.null, .null, .null, .null, .null, .null, .int 0, .int 0, .int 0, .int 0, .int 0, .int 0, .int 0, .int 0])), (q8, .inl (cyI, 403, .inl (fun _ => 0)))] := hD
  refine W.widen (k := 1) (n := 403) (by decide) (by decide) ?_
  refine va_putF (D := (dC, dI)) (ci := 5) (v := .ref q8) (ty := (.array .int)) (C := RX5) (T := TX5) (N := 14) hx hb hts (g_c inlX5) tyX5 tyX5_ok nmX5 hown hK hP hD hS 0 rfl rfl 0 (by decide) (hts _ (List.mem_cons_of_mem _ wm_3_0)) (fun _ h9 => h9) rfl hin rfl (by decide +kernel) rfl rfl (Nat.le_of_ble_eq_true rfl) dX5_init_10 (fun H locs hP hD hS => ?_)
  have hP : va_P (dC, dI) vwCl [(h_r, .inr (5, [.ref q8, .null, .null, .null, .null, .null, .int 0, .int 0, .int 0, .int 0, .int 0, .int 0, .int 0, .int 0])), _] H := hP
  have hD : va_D A [(h_r, .inr (5, [.ref q8, .null, .null, .null, .null, .null, .int 0, .int 0, .int 0, .int 0, .int 0, .int 0, .int 0, .int 0])), _] := hD
  refine lv_aload_n hx hb dX5_init_13 rfl (lv_at hl 0 rfl) ?_
  refine lv_sipush (v := (403 : Int32)) hx hb dX5_init_14 (by decide) ?_
  refine ux_newa (atype := .int) (ty := .int) (N' := 403) (a0 := (403, .inl (fun _ => 0))) hx hb (hts _ (List.mem_cons_of_mem _ wm_2_23)) rfl hK hP hD hS hA 0 rfl (fun _ => rfl) (by decide) (by decide) (by decide) (Nat.le_of_ble_eq_true rfl) (Nat.le_of_ble_eq_true rfl) dX5_init_17 (fun q17 H hP hD hS => ?_)
  have hP : va_P (dC, dI) vwCl [_, _, (q17, .inl (cyI, 403, .inl (fun _ => 0)))] H := hP
  have hD : va_D A [_, _, (q17, .inl (cyI, 403, .inl (fun _ => 0)))] := hD
  refine W.widen (k := 2) (n := 806) (by decide) (by decide) ?_
  refine va_putF (D := (dC, dI)) (ci := 5) (v := .ref q17) (ty := (.array .int)) (C := RX5) (T := TX5) (N := 14) hx hb hts (g_c inlX5) tyX5 tyX5_ok nmX5 hown hK hP hD hS 0 rfl rfl 1 (by decide) (hts _ (List.mem_cons_of_mem _ wm_3_1)) (fun _ h9 => h9) rfl hin rfl (by decide +kernel) rfl rfl (Nat.le_of_ble_eq_true rfl) dX5_init_19 (fun H locs hP hD hS => ?_)
  have hP : va_P (dC, dI) vwCl [(h_r, .inr (5, [.ref q8, .ref q17, .null, .null, .null, .null, .int 0, .int 0, .int 0, .int 0, .int 0, .int 0, .int 0, .int 0])), _, _] H := hP
  have hD : va_D A [(h_r, .inr (5, [.ref q8, .ref q17, .null, .null, .null, .null, .int 0, .int 0, .int 0, .int 0, .int 0, .int 0, .int 0, .int 0])), _, _] := hD
  refine lv_aload_n hx hb dX5_init_22 rfl (lv_at hl 0 rfl) ?_
  refine lv_sipush (v := (403 : Int32)) hx hb dX5_init_23 (by decide) ?_
  refine ux_newa (atype := .long) (ty := .long) (N' := 403) (a0 := (403, .inr (.inl (fun _ => 0)))) hx hb (hts _ (List.mem_cons_of_mem _ wm_3_2)) rfl hK hP hD hS hA 1 rfl (fun _ => rfl) (by decide) (by decide) (by decide) (Nat.le_of_ble_eq_true rfl) (Nat.le_of_ble_eq_true rfl) dX5_init_26 (fun q26 H hP hD hS => ?_)
  have hP : va_P (dC, dI) vwCl [_, _, _, (q26, .inl (cyJ, 403, .inr (.inl (fun _ => 0))))] H := hP
  have hD : va_D A [_, _, _, (q26, .inl (cyJ, 403, .inr (.inl (fun _ => 0))))] := hD
  refine W.widen (k := 3) (n := 1209) (by decide) (by decide) ?_
  refine va_putF (D := (dC, dI)) (ci := 5) (v := .ref q26) (ty := (.array .long)) (C := RX5) (T := TX5) (N := 14) hx hb hts (g_c inlX5) tyX5 tyX5_ok nmX5 hown hK hP hD hS 0 rfl rfl 2 (by decide) (hts _ (List.mem_cons_of_mem _ wm_3_3)) (fun _ h9 => h9) rfl hin rfl (by decide +kernel) rfl rfl (Nat.le_of_ble_eq_true rfl) dX5_init_28 (fun H locs hP hD hS => ?_)
  have hP : va_P (dC, dI) vwCl [(h_r, .inr (5, [.ref q8, .ref q17, .ref q26, .null, .null, .null, .int 0, .int 0, .int 0, .int 0, .int 0, .int 0, .int 0, .int 0])), _, _, _] H := hP
  have hD : va_D A [(h_r, .inr (5, [.ref q8, .ref q17, .ref q26, .null, .null, .null, .int 0, .int 0, .int 0, .int 0, .int 0, .int 0, .int 0, .int 0])), _, _, _] := hD
  refine lv_aload_n hx hb dX5_init_31 rfl (lv_at hl 0 rfl) ?_
  refine lv_bipush (v := (12 : Int32)) hx hb dX5_init_32 (by decide) ?_
  refine ux_newa (atype := .long) (ty := .long) (N' := 12) (a0 := (12, .inr (.inl (fun _ => 0)))) hx hb (hts _ (List.mem_cons_of_mem _ wm_3_2)) rfl hK hP hD hS hA 1 rfl (fun _ => rfl) (by decide) (by decide) (by decide) (Nat.le_of_ble_eq_true rfl) (Nat.le_of_ble_eq_true rfl) dX5_init_34 (fun q34 H hP hD hS => ?_)
  have hP : va_P (dC, dI) vwCl [_, _, _, _, (q34, .inl (cyJ, 12, .inr (.inl (fun _ => 0))))] H := hP
  have hD : va_D A [_, _, _, _, (q34, .inl (cyJ, 12, .inr (.inl (fun _ => 0))))] := hD
  refine W.widen (k := 4) (n := 1221) (by decide) (by decide) ?_
  refine va_putF (D := (dC, dI)) (ci := 5) (v := .ref q34) (ty := (.array .long)) (C := RX5) (T := TX5) (N := 14) hx hb hts (g_c inlX5) tyX5 tyX5_ok nmX5 hown hK hP hD hS 0 rfl rfl 3 (by decide) (hts _ (List.mem_cons_of_mem _ wm_3_4)) (fun _ h9 => h9) rfl hin rfl (by decide +kernel) rfl rfl (Nat.le_of_ble_eq_true rfl) dX5_init_36 (fun H locs hP hD hS => ?_)
  have hP : va_P (dC, dI) vwCl [(h_r, .inr (5, [.ref q8, .ref q17, .ref q26, .ref q34, .null, .null, .int 0, .int 0, .int 0, .int 0, .int 0, .int 0, .int 0, .int 0])), _, _, _, _] H := hP
  have hD : va_D A [(h_r, .inr (5, [.ref q8, .ref q17, .ref q26, .ref q34, .null, .null, .int 0, .int 0, .int 0, .int 0, .int 0, .int 0, .int 0, .int 0])), _, _, _, _] := hD
  refine lv_aload_n hx hb dX5_init_39 rfl (lv_at hl 0 rfl) ?_
  refine lv_bipush (v := (6 : Int32)) hx hb dX5_init_40 (by decide) ?_
  refine ux_newa (atype := .long) (ty := .long) (N' := 6) (a0 := (6, .inr (.inl (fun _ => 0)))) hx hb (hts _ (List.mem_cons_of_mem _ wm_3_2)) rfl hK hP hD hS hA 1 rfl (fun _ => rfl) (by decide) (by decide) (by decide) (Nat.le_of_ble_eq_true rfl) (Nat.le_of_ble_eq_true rfl) dX5_init_42 (fun q42 H hP hD hS => ?_)
  have hP : va_P (dC, dI) vwCl [_, _, _, _, _, (q42, .inl (cyJ, 6, .inr (.inl (fun _ => 0))))] H := hP
  have hD : va_D A [_, _, _, _, _, (q42, .inl (cyJ, 6, .inr (.inl (fun _ => 0))))] := hD
  refine W.widen (k := 5) (n := 1227) (by decide) (by decide) ?_
  refine va_putF (D := (dC, dI)) (ci := 5) (v := .ref q42) (ty := (.array .long)) (C := RX5) (T := TX5) (N := 14) hx hb hts (g_c inlX5) tyX5 tyX5_ok nmX5 hown hK hP hD hS 0 rfl rfl 4 (by decide) (hts _ (List.mem_cons_of_mem _ wm_3_5)) (fun _ h9 => h9) rfl hin rfl (by decide +kernel) rfl rfl (Nat.le_of_ble_eq_true rfl) dX5_init_44 (fun H locs hP hD hS => ?_)
  have hP : va_P (dC, dI) vwCl [(h_r, .inr (5, [.ref q8, .ref q17, .ref q26, .ref q34, .ref q42, .null, .int 0, .int 0, .int 0, .int 0, .int 0, .int 0, .int 0, .int 0])), _, _, _, _, _] H := hP
  have hD : va_D A [(h_r, .inr (5, [.ref q8, .ref q17, .ref q26, .ref q34, .ref q42, .null, .int 0, .int 0, .int 0, .int 0, .int 0, .int 0, .int 0, .int 0])), _, _, _, _, _] := hD
  refine lv_aload_n hx hb dX5_init_47 rfl (lv_at hl 0 rfl) ?_
  refine va_new (ci := 3) (fs := [.int 0, .null, .null, .null, .int 0, .null, .null, .null, .int 0, .null, .null, .null, .null, .int 0, .null, .null, .null, .null, .int 0, .null]) (C := RX3) (T := TX3) (N := 20) hx hb hts (g_c inlX3) tyX3 tyX3_ok hown (hts _ (List.mem_cons_of_mem _ wm_3_6)) (hts _ (List.mem_cons_of_mem _ wm_1_21)) (hts _ (List.mem_cons_of_mem _ wm_1_22)) hK hP hD hS hA rfl (fun j hj => by rcases (show j = 0 ∨ j = 1 ∨ j = 2 ∨ j = 3 ∨ j = 4 ∨ j = 5 ∨ j = 6 ∨ j = 7 ∨ j = 8 ∨ j = 9 ∨ j = 10 ∨ j = 11 ∨ j = 12 ∨ j = 13 ∨ j = 14 ∨ j = 15 ∨ j = 16 ∨ j = 17 ∨ j = 18 ∨ j = 19 by omega) with rfl | rfl | rfl | rfl | rfl | rfl | rfl | rfl | rfl | rfl | rfl | rfl | rfl | rfl | rfl | rfl | rfl | rfl | rfl | rfl <;> rfl) (Nat.le_of_ble_eq_true rfl) (Nat.le_of_ble_eq_true rfl) dX5_init_48 (fun h_g H hP hD hS => ?_)
  have hP : va_P (dC, dI) vwCl [_, _, _, _, _, _, (h_g, .inr (3, [.int 0, .null, .null, .null, .int 0, .null, .null, .null, .int 0, .null, .null, .null, .null, .int 0, .null, .null, .null, .null, .int 0, .null]))] H := hP
  have hD : va_D A [_, _, _, _, _, _, (h_g, .inr (3, [.int 0, .null, .null, .null, .int 0, .null, .null, .null, .int 0, .null, .null, .null, .null, .int 0, .null, .null, .null, .null, .int 0, .null]))] := hD
  refine W.widen (k := 6) (n := 1247) (by decide) (by decide) ?_
  refine lv_dup hx hb dX5_init_51 rfl ?_
  refine ux_IN (n := 0) (As := []) (rest := [.ref h_g, .ref h_r]) (wc := [(h_g, .inr (3, [.int 0, .null, .null, .null, .int 0, .null, .null, .null, .int 0, .null, .null, .null, .null, .int 0, .null, .null, .null, .null, .int 0, .null]))]) (wr := [_, _, _, _, _, _]) ⟨hx, hb, hml, hown, hts⟩ hK hP hD hS hA hE [6] [0, 1, 2, 3, 4, 5] (sg_h [(6, 1)] 7 rfl sk_z14_4 rfl) (sg_h [(0, 6)] 7 rfl sk_z14_5 rfl) nd_z14_4 nd_z14_3 nj_z14_0 (c_X3_init l dC dI cyI cyJ cyZ cyB cyO tO vF adK adV h_g _) (show va_Nw (.methodLinkNest RX5 30 yX3_init "WellVillages") s from hE.1 8 (by decide)) wm_3_16 wm_1_22 wm_3_17 ⟨rfl, rfl⟩ rfl (by decide +kernel) rfl ⟨Nat.le_of_ble_eq_true rfl, Nat.le_of_ble_eq_true rfl⟩ hl.1 rfl (Nat.le_of_ble_eq_true rfl) dX5_init_52 ⟨Nat.le_of_ble_eq_true rfl, Nat.le_of_ble_eq_true rfl⟩ (fun m_g H locs _ hP hD hS => ?_)
  have hP : va_P (dC, dI) vwCl [_, _, _, _, _, _, (h_g, .inr (3, oX3 m_g (0 : Int32) (0 : Int32) (0 : Int32) (0 : Int32) (0 : Int32))), (m_g 1, .inl (cyI, 12, .inl (fun _ => 0))), (m_g 2, .inl (cyI, 12, .inl (fun _ => 0))), (m_g 3, .inl (cyI, 12, .inl (fun _ => 0))), (m_g 5, .inl (cyI, 20, .inl (fun _ => 0))), (m_g 6, .inl (cyI, 20, .inl (fun _ => 0))), (m_g 7, .inl (cyI, 20, .inl (fun _ => 0))), (m_g 9, .inl (cyI, 3, .inl (fun _ => 0))), (m_g 10, .inl (cyI, 3, .inl (fun _ => 0))), (m_g 11, .inl (cyI, 3, .inl (fun _ => 0))), (m_g 12, .inl (cyI, 3, .inl (fun _ => 0))), (m_g 14, .inl (cyI, 6, .inl (fun _ => 0))), (m_g 15, .inl (cyI, 6, .inl (fun _ => 0))), (m_g 16, .inl (cyI, 6, .inl (fun _ => 0))), (m_g 17, .inl (cyI, 400, .inl (fun _ => 0))), (m_g 19, .inl (cyI, 14, .inl (fun _ => 0)))] H := hP
  have hD : va_D A [_, _, _, _, _, _, (h_g, .inr (3, oX3 m_g (0 : Int32) (0 : Int32) (0 : Int32) (0 : Int32) (0 : Int32))), (m_g 1, .inl (cyI, 12, .inl (fun _ => 0))), (m_g 2, .inl (cyI, 12, .inl (fun _ => 0))), (m_g 3, .inl (cyI, 12, .inl (fun _ => 0))), (m_g 5, .inl (cyI, 20, .inl (fun _ => 0))), (m_g 6, .inl (cyI, 20, .inl (fun _ => 0))), (m_g 7, .inl (cyI, 20, .inl (fun _ => 0))), (m_g 9, .inl (cyI, 3, .inl (fun _ => 0))), (m_g 10, .inl (cyI, 3, .inl (fun _ => 0))), (m_g 11, .inl (cyI, 3, .inl (fun _ => 0))), (m_g 12, .inl (cyI, 3, .inl (fun _ => 0))), (m_g 14, .inl (cyI, 6, .inl (fun _ => 0))), (m_g 15, .inl (cyI, 6, .inl (fun _ => 0))), (m_g 16, .inl (cyI, 6, .inl (fun _ => 0))), (m_g 17, .inl (cyI, 400, .inl (fun _ => 0))), (m_g 19, .inl (cyI, 14, .inl (fun _ => 0)))] := hD
  refine W.widen (k := 21) (n := 1787) (by decide) (by decide) ?_
  refine va_putF (D := (dC, dI)) (ci := 5) (v := .ref h_g) (ty := (.object "WellVillages$Ground")) (C := RX5) (T := TX5) (N := 14) hx hb hts (g_c inlX5) tyX5 tyX5_ok nmX5 hown hK hP hD hS 0 rfl rfl 5 (by decide) (hts _ (List.mem_cons_of_mem _ wm_3_7)) (fun _ h9 => h9) rfl hin rfl (by decide +kernel) rfl rfl (Nat.le_of_ble_eq_true rfl) dX5_init_55 (fun H locs hP hD hS => ?_)
  have hP : va_P (dC, dI) vwCl [(h_r, .inr (5, [.ref q8, .ref q17, .ref q26, .ref q34, .ref q42, .ref h_g, .int 0, .int 0, .int 0, .int 0, .int 0, .int 0, .int 0, .int 0])), _, _, _, _, _, _, _, _, _, _, _, _, _, _, _, _, _, _, _, _, _] H := hP
  have hD : va_D A [(h_r, .inr (5, [.ref q8, .ref q17, .ref q26, .ref q34, .ref q42, .ref h_g, .int 0, .int 0, .int 0, .int 0, .int 0, .int 0, .int 0, .int 0])), _, _, _, _, _, _, _, _, _, _, _, _, _, _, _, _, _, _, _, _, _] := hD
  refine lv_aload_n hx hb dX5_init_58 rfl (lv_at hl 0 rfl) ?_
  refine lv_iconst (v := (0 : Int32)) hx hb dX5_init_59 (by decide) ?_
  refine va_put (D := (dC, dI)) (ci := 5) (v := .int (0 : Int32)) (ty := .int) (C := RX5) (T := TX5) (N := 14) hx hb hts (g_c inlX5) tyX5 tyX5_ok nmX5 hown hK hP hD hS 0 rfl rfl 6 (by decide) (hts _ (List.mem_cons_of_mem _ wm_3_8)) (fun _ h9 => h9) rfl (by decide +kernel) rfl rfl (Nat.le_of_ble_eq_true rfl) dX5_init_60 (fun H locs hP hD hS => ?_)
  have hP : va_P (dC, dI) vwCl [(h_r, .inr (5, [.ref q8, .ref q17, .ref q26, .ref q34, .ref q42, .ref h_g, .int (0 : Int32), .int 0, .int 0, .int 0, .int 0, .int 0, .int 0, .int 0])), _, _, _, _, _, _, _, _, _, _, _, _, _, _, _, _, _, _, _, _, _] H := hP
  have hD : va_D A [(h_r, .inr (5, [.ref q8, .ref q17, .ref q26, .ref q34, .ref q42, .ref h_g, .int (0 : Int32), .int 0, .int 0, .int 0, .int 0, .int 0, .int 0, .int 0])), _, _, _, _, _, _, _, _, _, _, _, _, _, _, _, _, _, _, _, _, _] := hD
  refine lv_aload_n hx hb dX5_init_63 rfl (lv_at hl 0 rfl) ?_
  refine lv_iconst (v := (0 : Int32)) hx hb dX5_init_64 (by decide) ?_
  refine va_put (D := (dC, dI)) (ci := 5) (v := .int (0 : Int32)) (ty := .int) (C := RX5) (T := TX5) (N := 14) hx hb hts (g_c inlX5) tyX5 tyX5_ok nmX5 hown hK hP hD hS 0 rfl rfl 7 (by decide) (hts _ (List.mem_cons_of_mem _ wm_3_9)) (fun _ h9 => h9) rfl (by decide +kernel) rfl rfl (Nat.le_of_ble_eq_true rfl) dX5_init_65 (fun H locs hP hD hS => ?_)
  have hP : va_P (dC, dI) vwCl [(h_r, .inr (5, [.ref q8, .ref q17, .ref q26, .ref q34, .ref q42, .ref h_g, .int (0 : Int32), .int (0 : Int32), .int 0, .int 0, .int 0, .int 0, .int 0, .int 0])), _, _, _, _, _, _, _, _, _, _, _, _, _, _, _, _, _, _, _, _, _] H := hP
  have hD : va_D A [(h_r, .inr (5, [.ref q8, .ref q17, .ref q26, .ref q34, .ref q42, .ref h_g, .int (0 : Int32), .int (0 : Int32), .int 0, .int 0, .int 0, .int 0, .int 0, .int 0])), _, _, _, _, _, _, _, _, _, _, _, _, _, _, _, _, _, _, _, _, _] := hD
  refine lv_aload_n hx hb dX5_init_68 rfl (lv_at hl 0 rfl) ?_
  refine lv_iconst (v := (-1 : Int32)) hx hb dX5_init_69 (by decide) ?_
  refine va_put (D := (dC, dI)) (ci := 5) (v := .int (-1 : Int32)) (ty := .int) (C := RX5) (T := TX5) (N := 14) hx hb hts (g_c inlX5) tyX5 tyX5_ok nmX5 hown hK hP hD hS 0 rfl rfl 8 (by decide) (hts _ (List.mem_cons_of_mem _ wm_3_10)) (fun _ h9 => h9) rfl (by decide +kernel) rfl rfl (Nat.le_of_ble_eq_true rfl) dX5_init_70 (fun H locs hP hD hS => ?_)
  have hP : va_P (dC, dI) vwCl [(h_r, .inr (5, [.ref q8, .ref q17, .ref q26, .ref q34, .ref q42, .ref h_g, .int (0 : Int32), .int (0 : Int32), .int (-1 : Int32), .int 0, .int 0, .int 0, .int 0, .int 0])), _, _, _, _, _, _, _, _, _, _, _, _, _, _, _, _, _, _, _, _, _] H := hP
  have hD : va_D A [(h_r, .inr (5, [.ref q8, .ref q17, .ref q26, .ref q34, .ref q42, .ref h_g, .int (0 : Int32), .int (0 : Int32), .int (-1 : Int32), .int 0, .int 0, .int 0, .int 0, .int 0])), _, _, _, _, _, _, _, _, _, _, _, _, _, _, _, _, _, _, _, _, _] := hD
  refine lv_aload_n hx hb dX5_init_73 rfl (lv_at hl 0 rfl) ?_
  refine lv_iconst (v := (0 : Int32)) hx hb dX5_init_74 (by decide) ?_
  refine va_put (D := (dC, dI)) (ci := 5) (v := .int (0 : Int32)) (ty := .boolean) (C := RX5) (T := TX5) (N := 14) hx hb hts (g_c inlX5) tyX5 tyX5_ok nmX5 hown hK hP hD hS 0 rfl rfl 9 (by decide) (hts _ (List.mem_cons_of_mem _ wm_3_11)) (fun _ h9 => h9) rfl (by decide +kernel) rfl rfl (Nat.le_of_ble_eq_true rfl) dX5_init_75 (fun H locs hP hD hS => ?_)
  have hP : va_P (dC, dI) vwCl [(h_r, .inr (5, [.ref q8, .ref q17, .ref q26, .ref q34, .ref q42, .ref h_g, .int (0 : Int32), .int (0 : Int32), .int (-1 : Int32), .int (0 : Int32), .int 0, .int 0, .int 0, .int 0])), _, _, _, _, _, _, _, _, _, _, _, _, _, _, _, _, _, _, _, _, _] H := hP
  have hD : va_D A [(h_r, .inr (5, [.ref q8, .ref q17, .ref q26, .ref q34, .ref q42, .ref h_g, .int (0 : Int32), .int (0 : Int32), .int (-1 : Int32), .int (0 : Int32), .int 0, .int 0, .int 0, .int 0])), _, _, _, _, _, _, _, _, _, _, _, _, _, _, _, _, _, _, _, _, _] := hD
  refine lv_aload_n hx hb dX5_init_78 rfl (lv_at hl 0 rfl) ?_
  refine lv_iconst (v := (0 : Int32)) hx hb dX5_init_79 (by decide) ?_
  refine va_put (D := (dC, dI)) (ci := 5) (v := .int (0 : Int32)) (ty := .int) (C := RX5) (T := TX5) (N := 14) hx hb hts (g_c inlX5) tyX5 tyX5_ok nmX5 hown hK hP hD hS 0 rfl rfl 10 (by decide) (hts _ (List.mem_cons_of_mem _ wm_3_12)) (fun _ h9 => h9) rfl (by decide +kernel) rfl rfl (Nat.le_of_ble_eq_true rfl) dX5_init_80 (fun H locs hP hD hS => ?_)
  have hP : va_P (dC, dI) vwCl [(h_r, .inr (5, [.ref q8, .ref q17, .ref q26, .ref q34, .ref q42, .ref h_g, .int (0 : Int32), .int (0 : Int32), .int (-1 : Int32), .int (0 : Int32), .int (0 : Int32), .int 0, .int 0, .int 0])), _, _, _, _, _, _, _, _, _, _, _, _, _, _, _, _, _, _, _, _, _] H := hP
  have hD : va_D A [(h_r, .inr (5, [.ref q8, .ref q17, .ref q26, .ref q34, .ref q42, .ref h_g, .int (0 : Int32), .int (0 : Int32), .int (-1 : Int32), .int (0 : Int32), .int (0 : Int32), .int 0, .int 0, .int 0])), _, _, _, _, _, _, _, _, _, _, _, _, _, _, _, _, _, _, _, _, _] := hD
  refine lv_aload_n hx hb dX5_init_83 rfl (lv_at hl 0 rfl) ?_
  refine lv_iconst (v := (-1 : Int32)) hx hb dX5_init_84 (by decide) ?_
  refine va_put (D := (dC, dI)) (ci := 5) (v := .int (-1 : Int32)) (ty := .int) (C := RX5) (T := TX5) (N := 14) hx hb hts (g_c inlX5) tyX5 tyX5_ok nmX5 hown hK hP hD hS 0 rfl rfl 11 (by decide) (hts _ (List.mem_cons_of_mem _ wm_3_13)) (fun _ h9 => h9) rfl (by decide +kernel) rfl rfl (Nat.le_of_ble_eq_true rfl) dX5_init_85 (fun H locs hP hD hS => ?_)
  have hP : va_P (dC, dI) vwCl [(h_r, .inr (5, [.ref q8, .ref q17, .ref q26, .ref q34, .ref q42, .ref h_g, .int (0 : Int32), .int (0 : Int32), .int (-1 : Int32), .int (0 : Int32), .int (0 : Int32), .int (-1 : Int32), .int 0, .int 0])), _, _, _, _, _, _, _, _, _, _, _, _, _, _, _, _, _, _, _, _, _] H := hP
  have hD : va_D A [(h_r, .inr (5, [.ref q8, .ref q17, .ref q26, .ref q34, .ref q42, .ref h_g, .int (0 : Int32), .int (0 : Int32), .int (-1 : Int32), .int (0 : Int32), .int (0 : Int32), .int (-1 : Int32), .int 0, .int 0])), _, _, _, _, _, _, _, _, _, _, _, _, _, _, _, _, _, _, _, _, _] := hD
  refine lv_aload_n hx hb dX5_init_88 rfl (lv_at hl 0 rfl) ?_
  refine lv_iconst (v := (0 : Int32)) hx hb dX5_init_89 (by decide) ?_
  refine va_put (D := (dC, dI)) (ci := 5) (v := .int (0 : Int32)) (ty := .int) (C := RX5) (T := TX5) (N := 14) hx hb hts (g_c inlX5) tyX5 tyX5_ok nmX5 hown hK hP hD hS 0 rfl rfl 12 (by decide) (hts _ (List.mem_cons_of_mem _ wm_3_14)) (fun _ h9 => h9) rfl (by decide +kernel) rfl rfl (Nat.le_of_ble_eq_true rfl) dX5_init_90 (fun H locs hP hD hS => ?_)
  have hP : va_P (dC, dI) vwCl [(h_r, .inr (5, [.ref q8, .ref q17, .ref q26, .ref q34, .ref q42, .ref h_g, .int (0 : Int32), .int (0 : Int32), .int (-1 : Int32), .int (0 : Int32), .int (0 : Int32), .int (-1 : Int32), .int (0 : Int32), .int 0])), _, _, _, _, _, _, _, _, _, _, _, _, _, _, _, _, _, _, _, _, _] H := hP
  have hD : va_D A [(h_r, .inr (5, [.ref q8, .ref q17, .ref q26, .ref q34, .ref q42, .ref h_g, .int (0 : Int32), .int (0 : Int32), .int (-1 : Int32), .int (0 : Int32), .int (0 : Int32), .int (-1 : Int32), .int (0 : Int32), .int 0])), _, _, _, _, _, _, _, _, _, _, _, _, _, _, _, _, _, _, _, _, _] := hD
  refine lv_aload_n hx hb dX5_init_93 rfl (lv_at hl 0 rfl) ?_
  refine lv_iconst (v := (-1 : Int32)) hx hb dX5_init_94 (by decide) ?_
  refine va_put (D := (dC, dI)) (ci := 5) (v := .int (-1 : Int32)) (ty := .int) (C := RX5) (T := TX5) (N := 14) hx hb hts (g_c inlX5) tyX5 tyX5_ok nmX5 hown hK hP hD hS 0 rfl rfl 13 (by decide) (hts _ (List.mem_cons_of_mem _ wm_3_15)) (fun _ h9 => h9) rfl (by decide +kernel) rfl rfl (Nat.le_of_ble_eq_true rfl) dX5_init_95 (fun H locs hP hD hS => ?_)
  have hP : va_P (dC, dI) vwCl [(h_r, .inr (5, [.ref q8, .ref q17, .ref q26, .ref q34, .ref q42, .ref h_g, .int (0 : Int32), .int (0 : Int32), .int (-1 : Int32), .int (0 : Int32), .int (0 : Int32), .int (-1 : Int32), .int (0 : Int32), .int (-1 : Int32)])), _, _, _, _, _, _, _, _, _, _, _, _, _, _, _, _, _, _, _, _, _] H := hP
  have hD : va_D A [(h_r, .inr (5, [.ref q8, .ref q17, .ref q26, .ref q34, .ref q42, .ref h_g, .int (0 : Int32), .int (0 : Int32), .int (-1 : Int32), .int (0 : Int32), .int (0 : Int32), .int (-1 : Int32), .int (0 : Int32), .int (-1 : Int32)])), _, _, _, _, _, _, _, _, _, _, _, _, _, _, _, _, _, _, _, _, _] := hD
  obtain ⟨m_r, hm_r⟩ : ∃ z : Nat → Nat, z = fun k => ([q8, q17, q26, q34, q42, 0, 0, 0, 0, 0, 0, 0, 0, 0] : List Nat).getD k 0 := ⟨_, rfl⟩
  have hP : va_P (dC, dI) vwCl [(h_r, .inr (5, oX5 m_r h_g (0 : Int32) (0 : Int32) (-1 : Int32) (0 : Int32) (0 : Int32) (-1 : Int32) (0 : Int32) (-1 : Int32))), (m_r 0, .inl (cyI, 403, .inl (fun _ => 0))), (m_r 1, .inl (cyI, 403, .inl (fun _ => 0))), (m_r 2, .inl (cyJ, 403, .inr (.inl (fun _ => 0)))), (m_r 3, .inl (cyJ, 12, .inr (.inl (fun _ => 0)))), (m_r 4, .inl (cyJ, 6, .inr (.inl (fun _ => 0)))), (h_g, .inr (3, oX3 m_g (0 : Int32) (0 : Int32) (0 : Int32) (0 : Int32) (0 : Int32))), (m_g 1, .inl (cyI, 12, .inl (fun _ => 0))), (m_g 2, .inl (cyI, 12, .inl (fun _ => 0))), (m_g 3, .inl (cyI, 12, .inl (fun _ => 0))), (m_g 5, .inl (cyI, 20, .inl (fun _ => 0))), (m_g 6, .inl (cyI, 20, .inl (fun _ => 0))), (m_g 7, .inl (cyI, 20, .inl (fun _ => 0))), (m_g 9, .inl (cyI, 3, .inl (fun _ => 0))), (m_g 10, .inl (cyI, 3, .inl (fun _ => 0))), (m_g 11, .inl (cyI, 3, .inl (fun _ => 0))), (m_g 12, .inl (cyI, 3, .inl (fun _ => 0))), (m_g 14, .inl (cyI, 6, .inl (fun _ => 0))), (m_g 15, .inl (cyI, 6, .inl (fun _ => 0))), (m_g 16, .inl (cyI, 6, .inl (fun _ => 0))), (m_g 17, .inl (cyI, 400, .inl (fun _ => 0))), (m_g 19, .inl (cyI, 14, .inl (fun _ => 0)))] H := by subst hm_r; exact hP.sub [0, 1, 2, 3, 4, 5, 6, 7, 8, 9, 10, 11, 12, 13, 14, 15, 16, 17, 18, 19, 20, 21] (ux_pick (sg_h [(0, 22)] 22 rfl sk_z14_6 rfl))
  have hD : va_D A [(h_r, .inr (5, oX5 m_r h_g (0 : Int32) (0 : Int32) (-1 : Int32) (0 : Int32) (0 : Int32) (-1 : Int32) (0 : Int32) (-1 : Int32))), (m_r 0, .inl (cyI, 403, .inl (fun _ => 0))), (m_r 1, .inl (cyI, 403, .inl (fun _ => 0))), (m_r 2, .inl (cyJ, 403, .inr (.inl (fun _ => 0)))), (m_r 3, .inl (cyJ, 12, .inr (.inl (fun _ => 0)))), (m_r 4, .inl (cyJ, 6, .inr (.inl (fun _ => 0)))), (h_g, .inr (3, oX3 m_g (0 : Int32) (0 : Int32) (0 : Int32) (0 : Int32) (0 : Int32))), (m_g 1, .inl (cyI, 12, .inl (fun _ => 0))), (m_g 2, .inl (cyI, 12, .inl (fun _ => 0))), (m_g 3, .inl (cyI, 12, .inl (fun _ => 0))), (m_g 5, .inl (cyI, 20, .inl (fun _ => 0))), (m_g 6, .inl (cyI, 20, .inl (fun _ => 0))), (m_g 7, .inl (cyI, 20, .inl (fun _ => 0))), (m_g 9, .inl (cyI, 3, .inl (fun _ => 0))), (m_g 10, .inl (cyI, 3, .inl (fun _ => 0))), (m_g 11, .inl (cyI, 3, .inl (fun _ => 0))), (m_g 12, .inl (cyI, 3, .inl (fun _ => 0))), (m_g 14, .inl (cyI, 6, .inl (fun _ => 0))), (m_g 15, .inl (cyI, 6, .inl (fun _ => 0))), (m_g 16, .inl (cyI, 6, .inl (fun _ => 0))), (m_g 17, .inl (cyI, 400, .inl (fun _ => 0))), (m_g 19, .inl (cyI, 14, .inl (fun _ => 0)))] := by subst hm_r; exact hD.sub [0, 1, 2, 3, 4, 5, 6, 7, 8, 9, 10, 11, 12, 13, 14, 15, 16, 17, 18, 19, 20, 21] nd_z14_5 (sg_h [(0, 22)] 22 rfl sk_z14_6 rfl)
  exact hret _ _ _ _ (m_r, h_g, m_g) dX5_init_98 trivial hP hD hS
set_option maxRecDepth 100000 in
set_option maxHeartbeats 8000000 in
theorem c_X2_init (l : Launch) (dC : Nat → ClassId) (dI : Nat → Nat → Nat) (cyI cyJ cyZ cyB cyO : ClassId) (tO : Nat) (vF : Value) (adK adV : Nat → Nat) (h_e : Nat) (h_g : Nat) (sz : Nat) : Met l yX2_init (Cond.code yX2_init cX2_init 2 none :: wsL_law) ({ frames := 2, cells := 23, slots := 330, locals := 34 } : Room) (va_Pc [.ref h_e, .ref h_g] (ux_pre (dC, dI) vwCl (tyG cyI cyJ cyZ cyB cyO) [(h_e, .inr (2, [.int 0, .null, .null, .null, .int 0, .int 0, .null, .null, .null, .null, .null, .null, .null]))] sz (xE tO vF adK adV))) (va_Qv (fun _ : (Nat → Nat) × Nat × (Nat → Nat) × Nat × (Nat → Nat) × Nat × (Nat → Nat) => True) (ux_at (dC, dI) vwCl (tyG cyI cyJ cyZ cyB cyO) [(h_e, .inr (2, [.int 0, .null, .null, .null, .int 0, .int 0, .null, .null, .null, .null, .null, .null, .null]))] sz (fun u : (Nat → Nat) × Nat × (Nat → Nat) × Nat × (Nat → Nat) × Nat × (Nat → Nat) => [(h_e, .inr (2, oX2 u.1 (0 : Int32) (0 : Int32) (-2 : Int32) h_g u.2.1 u.2.2.2.2.2.1 u.2.2.2.1 .null .null)), (u.1 1, .inl (cyI, 20, .inl (fun _ => 0))), (u.1 2, .inl (cyI, 20, .inl (fun _ => 0))), (u.1 3, .inl (cyI, 20, .inl (fun _ => 0))), (u.1 12, .inl (cyI, 84, .inl (fun _ => 0))), (u.2.1, .inr (4, oX4 u.2.2.1 (-1 : Int32) (0 : Int32) (0 : Int32) (0 : Int32))), (u.2.2.1 0, .inl (cyI, 6, .inl (fun _ => 0))), (u.2.2.1 1, .inl (cyI, 20, .inl (fun _ => 0))), (u.2.2.1 2, .inl (cyI, 3, .inl (fun _ => 0))), (u.2.2.1 3, .inl (cyI, 14, .inl (fun _ => 0))), (u.2.2.2.2.2.1, .inr (0, oX0 u.2.2.2.2.2.2 h_g u.2.1 (0 : Int32) (0 : Int32))), (u.2.2.2.2.2.2 2, .inl (cyZ, 6, .inl (fun _ => 0))), (u.2.2.2.2.2.2 5, .inl (cyI, 12, .inl (fun _ => 0))), (u.2.2.2.2.2.2 6, .inl (cyI, 12, .inl (fun _ => 0))), (u.2.2.2.2.2.2 7, .inl (cyJ, 12, .inr (.inl (fun _ => 0)))), (u.2.2.2.2.2.2 8, .inl (cyI, 16, .inl (fun _ => 0))), (u.2.2.2.1, .inr (1, oX1 u.2.2.2.2.1 (0 : Int32))), (u.2.2.2.2.1 1, .inl (cyI, 12, .inl (fun _ => 0))), (u.2.2.2.2.1 2, .inl (cyJ, 12, .inr (.inl (fun _ => 0)))), (u.2.2.2.2.1 3, .inl (cyI, 12, .inl (fun _ => 0))), (u.2.2.2.2.1 4, .inl (cyI, 6, .inl (fun _ => 0))), (u.2.2.2.2.1 5, .inl (cyI, 6, .inl (fun _ => 0))), (u.2.2.2.2.1 6, .inl (cyI, 6, .inl (fun _ => 0))), (u.2.2.2.2.1 7, .inl (cyI, 6, .inl (fun _ => 0)))])) (va_A [(h_e, .inr (2, [.int 0, .null, .null, .null, .int 0, .int 0, .null, .null, .null, .null, .null, .null, .null]))] sz)) 23 330 (va_A [(h_e, .inr (2, [.int 0, .null, .null, .null, .int 0, .int 0, .null, .null, .null, .null, .null, .null, .null]))] sz) := by
  refine ux_metM (by decide +kernel) (Nat.le_of_ble_eq_true rfl) ?_
  intro p e s m below meth c A Q ls hx hb hml hts hown hin hA hP hK hD hE hl hret
  have hown : s.vm.findClass RX2 = some m.cls := hown
  have hin : meth.name = "<init>" := hin
  have hS : va_S A s.heap s.heap [] := va_S.rf
  have hl : lv_has ls 2 [(0, .ref h_e), (1, .ref h_g)] := hl
  refine lv_aload_n hx hb dX2_init_0 rfl (lv_at hl 0 rfl) ?_
  refine W.objInit hx hb hown (hts _ (List.mem_cons_of_mem _ wm_6_5)) (hts _ (List.mem_cons_of_mem _ wm_1_10)) (hts _ (List.mem_cons_of_mem _ wm_1_11)) rfl (by rw [hml]; exact hl.1) rfl dX2_init_1 (Nat.le_of_ble_eq_true rfl) (Nat.le_of_ble_eq_true rfl) ?_
  refine W.eq (g2 := F0 m 4 ls []) rfl ?_
  refine lv_aload_n hx hb dX2_init_4 rfl (lv_at hl 0 rfl) ?_
  refine lv_iconst (v := (0 : Int32)) hx hb dX2_init_5 (by decide) ?_
  refine va_put (D := (dC, dI)) (ci := 2) (v := .int (0 : Int32)) (ty := .int) (C := RX2) (T := TX2) (N := 13) hx hb hts (g_c inlX2) tyX2 tyX2_ok nmX2 hown hK hP hD hS 0 rfl rfl 0 (by decide) (hts _ (List.mem_cons_of_mem _ wm_6_6)) (fun _ h9 => h9) rfl (by decide +kernel) rfl rfl (Nat.le_of_ble_eq_true rfl) dX2_init_6 (fun H locs hP hD hS => ?_)
  have hP : va_P (dC, dI) vwCl [(h_e, .inr (2, [.int (0 : Int32), .null, .null, .null, .int 0, .int 0, .null, .null, .null, .null, .null, .null, .null]))] H := hP
  have hD : va_D A [(h_e, .inr (2, [.int (0 : Int32), .null, .null, .null, .int 0, .int 0, .null, .null, .null, .null, .null, .null, .null]))] := hD
  refine lv_aload_n hx hb dX2_init_9 rfl (lv_at hl 0 rfl) ?_
  refine lv_bipush (v := (20 : Int32)) hx hb dX2_init_10 (by decide) ?_
  refine ux_newa (atype := .int) (ty := .int) (N' := 20) (a0 := (20, .inl (fun _ => 0))) hx hb (hts _ (List.mem_cons_of_mem _ wm_2_23)) rfl hK hP hD hS hA 0 rfl (fun _ => rfl) (by decide) (by decide) (by decide) (Nat.le_of_ble_eq_true rfl) (Nat.le_of_ble_eq_true rfl) dX2_init_12 (fun q12 H hP hD hS => ?_)
  have hP : va_P (dC, dI) vwCl [_, (q12, .inl (cyI, 20, .inl (fun _ => 0)))] H := hP
  have hD : va_D A [_, (q12, .inl (cyI, 20, .inl (fun _ => 0)))] := hD
  refine W.widen (k := 1) (n := 20) (by decide) (by decide) ?_
  refine va_putF (D := (dC, dI)) (ci := 2) (v := .ref q12) (ty := (.array .int)) (C := RX2) (T := TX2) (N := 13) hx hb hts (g_c inlX2) tyX2 tyX2_ok nmX2 hown hK hP hD hS 0 rfl rfl 1 (by decide) (hts _ (List.mem_cons_of_mem _ wm_6_7)) (fun _ h9 => h9) rfl hin rfl (by decide +kernel) rfl rfl (Nat.le_of_ble_eq_true rfl) dX2_init_14 (fun H locs hP hD hS => ?_)
  have hP : va_P (dC, dI) vwCl [(h_e, .inr (2, [.int (0 : Int32), .ref q12, .null, .null, .int 0, .int 0, .null, .null, .null, .null, .null, .null, .null])), _] H := hP
  have hD : va_D A [(h_e, .inr (2, [.int (0 : Int32), .ref q12, .null, .null, .int 0, .int 0, .null, .null, .null, .null, .null, .null, .null])), _] := hD
  refine lv_aload_n hx hb dX2_init_17 rfl (lv_at hl 0 rfl) ?_
  refine lv_bipush (v := (20 : Int32)) hx hb dX2_init_18 (by decide) ?_
  refine ux_newa (atype := .int) (ty := .int) (N' := 20) (a0 := (20, .inl (fun _ => 0))) hx hb (hts _ (List.mem_cons_of_mem _ wm_2_23)) rfl hK hP hD hS hA 0 rfl (fun _ => rfl) (by decide) (by decide) (by decide) (Nat.le_of_ble_eq_true rfl) (Nat.le_of_ble_eq_true rfl) dX2_init_20 (fun q20 H hP hD hS => ?_)
  have hP : va_P (dC, dI) vwCl [_, _, (q20, .inl (cyI, 20, .inl (fun _ => 0)))] H := hP
  have hD : va_D A [_, _, (q20, .inl (cyI, 20, .inl (fun _ => 0)))] := hD
  refine W.widen (k := 2) (n := 40) (by decide) (by decide) ?_
  refine va_putF (D := (dC, dI)) (ci := 2) (v := .ref q20) (ty := (.array .int)) (C := RX2) (T := TX2) (N := 13) hx hb hts (g_c inlX2) tyX2 tyX2_ok nmX2 hown hK hP hD hS 0 rfl rfl 2 (by decide) (hts _ (List.mem_cons_of_mem _ wm_6_8)) (fun _ h9 => h9) rfl hin rfl (by decide +kernel) rfl rfl (Nat.le_of_ble_eq_true rfl) dX2_init_22 (fun H locs hP hD hS => ?_)
  have hP : va_P (dC, dI) vwCl [(h_e, .inr (2, [.int (0 : Int32), .ref q12, .ref q20, .null, .int 0, .int 0, .null, .null, .null, .null, .null, .null, .null])), _, _] H := hP
  have hD : va_D A [(h_e, .inr (2, [.int (0 : Int32), .ref q12, .ref q20, .null, .int 0, .int 0, .null, .null, .null, .null, .null, .null, .null])), _, _] := hD
  refine lv_aload_n hx hb dX2_init_25 rfl (lv_at hl 0 rfl) ?_
  refine lv_bipush (v := (20 : Int32)) hx hb dX2_init_26 (by decide) ?_
  refine ux_newa (atype := .int) (ty := .int) (N' := 20) (a0 := (20, .inl (fun _ => 0))) hx hb (hts _ (List.mem_cons_of_mem _ wm_2_23)) rfl hK hP hD hS hA 0 rfl (fun _ => rfl) (by decide) (by decide) (by decide) (Nat.le_of_ble_eq_true rfl) (Nat.le_of_ble_eq_true rfl) dX2_init_28 (fun q28 H hP hD hS => ?_)
  have hP : va_P (dC, dI) vwCl [_, _, _, (q28, .inl (cyI, 20, .inl (fun _ => 0)))] H := hP
  have hD : va_D A [_, _, _, (q28, .inl (cyI, 20, .inl (fun _ => 0)))] := hD
  refine W.widen (k := 3) (n := 60) (by decide) (by decide) ?_
  refine va_putF (D := (dC, dI)) (ci := 2) (v := .ref q28) (ty := (.array .int)) (C := RX2) (T := TX2) (N := 13) hx hb hts (g_c inlX2) tyX2 tyX2_ok nmX2 hown hK hP hD hS 0 rfl rfl 3 (by decide) (hts _ (List.mem_cons_of_mem _ wm_6_9)) (fun _ h9 => h9) rfl hin rfl (by decide +kernel) rfl rfl (Nat.le_of_ble_eq_true rfl) dX2_init_30 (fun H locs hP hD hS => ?_)
  have hP : va_P (dC, dI) vwCl [(h_e, .inr (2, [.int (0 : Int32), .ref q12, .ref q20, .ref q28, .int 0, .int 0, .null, .null, .null, .null, .null, .null, .null])), _, _, _] H := hP
  have hD : va_D A [(h_e, .inr (2, [.int (0 : Int32), .ref q12, .ref q20, .ref q28, .int 0, .int 0, .null, .null, .null, .null, .null, .null, .null])), _, _, _] := hD
  refine lv_aload_n hx hb dX2_init_33 rfl (lv_at hl 0 rfl) ?_
  refine lv_iconst (v := (0 : Int32)) hx hb dX2_init_34 (by decide) ?_
  refine va_put (D := (dC, dI)) (ci := 2) (v := .int (0 : Int32)) (ty := .int) (C := RX2) (T := TX2) (N := 13) hx hb hts (g_c inlX2) tyX2 tyX2_ok nmX2 hown hK hP hD hS 0 rfl rfl 4 (by decide) (hts _ (List.mem_cons_of_mem _ wm_6_10)) (fun _ h9 => h9) rfl (by decide +kernel) rfl rfl (Nat.le_of_ble_eq_true rfl) dX2_init_35 (fun H locs hP hD hS => ?_)
  have hP : va_P (dC, dI) vwCl [(h_e, .inr (2, [.int (0 : Int32), .ref q12, .ref q20, .ref q28, .int (0 : Int32), .int 0, .null, .null, .null, .null, .null, .null, .null])), _, _, _] H := hP
  have hD : va_D A [(h_e, .inr (2, [.int (0 : Int32), .ref q12, .ref q20, .ref q28, .int (0 : Int32), .int 0, .null, .null, .null, .null, .null, .null, .null])), _, _, _] := hD
  refine lv_aload_n hx hb dX2_init_38 rfl (lv_at hl 0 rfl) ?_
  refine lv_bipush (v := (-2 : Int32)) hx hb dX2_init_39 (by decide) ?_
  refine va_put (D := (dC, dI)) (ci := 2) (v := .int (-2 : Int32)) (ty := .int) (C := RX2) (T := TX2) (N := 13) hx hb hts (g_c inlX2) tyX2 tyX2_ok nmX2 hown hK hP hD hS 0 rfl rfl 5 (by decide) (hts _ (List.mem_cons_of_mem _ wm_6_11)) (fun _ h9 => h9) rfl (by decide +kernel) rfl rfl (Nat.le_of_ble_eq_true rfl) dX2_init_41 (fun H locs hP hD hS => ?_)
  have hP : va_P (dC, dI) vwCl [(h_e, .inr (2, [.int (0 : Int32), .ref q12, .ref q20, .ref q28, .int (0 : Int32), .int (-2 : Int32), .null, .null, .null, .null, .null, .null, .null])), _, _, _] H := hP
  have hD : va_D A [(h_e, .inr (2, [.int (0 : Int32), .ref q12, .ref q20, .ref q28, .int (0 : Int32), .int (-2 : Int32), .null, .null, .null, .null, .null, .null, .null])), _, _, _] := hD
  refine lv_aload_n hx hb dX2_init_44 rfl (lv_at hl 0 rfl) ?_
  refine va_new (ci := 4) (fs := [.null, .null, .null, .null, .int 0, .int 0, .int 0, .int 0]) (C := RX4) (T := TX4) (N := 8) hx hb hts (g_c inlX4) tyX4 tyX4_ok hown (hts _ (List.mem_cons_of_mem _ wm_6_12)) (hts _ (List.mem_cons_of_mem _ wm_2_1)) (hts _ (List.mem_cons_of_mem _ wm_2_2)) hK hP hD hS hA rfl (fun j hj => by rcases (show j = 0 ∨ j = 1 ∨ j = 2 ∨ j = 3 ∨ j = 4 ∨ j = 5 ∨ j = 6 ∨ j = 7 by omega) with rfl | rfl | rfl | rfl | rfl | rfl | rfl | rfl <;> rfl) (Nat.le_of_ble_eq_true rfl) (Nat.le_of_ble_eq_true rfl) dX2_init_45 (fun h_p H hP hD hS => ?_)
  have hP : va_P (dC, dI) vwCl [_, _, _, _, (h_p, .inr (4, [.null, .null, .null, .null, .int 0, .int 0, .int 0, .int 0]))] H := hP
  have hD : va_D A [_, _, _, _, (h_p, .inr (4, [.null, .null, .null, .null, .int 0, .int 0, .int 0, .int 0]))] := hD
  refine W.widen (k := 4) (n := 68) (by decide) (by decide) ?_
  refine lv_dup hx hb dX2_init_48 rfl ?_
  refine ux_IN (n := 0) (As := []) (rest := [.ref h_p, .ref h_e]) (wc := [(h_p, .inr (4, [.null, .null, .null, .null, .int 0, .int 0, .int 0, .int 0]))]) (wr := [_, _, _, _]) ⟨hx, hb, hml, hown, hts⟩ hK hP hD hS hA hE [4] [0, 1, 2, 3] (sg_h [(4, 1)] 5 rfl sk_z14_7 rfl) (sg_h [(0, 4)] 5 rfl sk_z14_8 rfl) nd_z14_6 nd_z14_7 nj_z14_1 (c_X4_init l dC dI cyI cyJ cyZ cyB cyO tO vF adK adV h_p _) (show va_Nw (.methodLinkNest RX2 33 yX4_init "WellVillages") s from hE.1 4 (by decide)) wm_4_15 wm_2_2 wm_4_16 ⟨rfl, rfl⟩ rfl (by decide +kernel) rfl ⟨Nat.le_of_ble_eq_true rfl, Nat.le_of_ble_eq_true rfl⟩ hl.1 rfl (Nat.le_of_ble_eq_true rfl) dX2_init_49 ⟨Nat.le_of_ble_eq_true rfl, Nat.le_of_ble_eq_true rfl⟩ (fun m_p H locs _ hP hD hS => ?_)
  have hP : va_P (dC, dI) vwCl [_, _, _, _, (h_p, .inr (4, oX4 m_p (-1 : Int32) (0 : Int32) (0 : Int32) (0 : Int32))), (m_p 0, .inl (cyI, 6, .inl (fun _ => 0))), (m_p 1, .inl (cyI, 20, .inl (fun _ => 0))), (m_p 2, .inl (cyI, 3, .inl (fun _ => 0))), (m_p 3, .inl (cyI, 14, .inl (fun _ => 0)))] H := hP
  have hD : va_D A [_, _, _, _, (h_p, .inr (4, oX4 m_p (-1 : Int32) (0 : Int32) (0 : Int32) (0 : Int32))), (m_p 0, .inl (cyI, 6, .inl (fun _ => 0))), (m_p 1, .inl (cyI, 20, .inl (fun _ => 0))), (m_p 2, .inl (cyI, 3, .inl (fun _ => 0))), (m_p 3, .inl (cyI, 14, .inl (fun _ => 0)))] := hD
  refine W.widen (k := 8) (n := 111) (by decide) (by decide) ?_
  refine va_putF (D := (dC, dI)) (ci := 2) (v := .ref h_p) (ty := (.object "WellVillages$Plan")) (C := RX2) (T := TX2) (N := 13) hx hb hts (g_c inlX2) tyX2 tyX2_ok nmX2 hown hK hP hD hS 0 rfl rfl 7 (by decide) (hts _ (List.mem_cons_of_mem _ wm_6_13)) (fun _ h9 => h9) rfl hin rfl (by decide +kernel) rfl rfl (Nat.le_of_ble_eq_true rfl) dX2_init_52 (fun H locs hP hD hS => ?_)
  have hP : va_P (dC, dI) vwCl [(h_e, .inr (2, [.int (0 : Int32), .ref q12, .ref q20, .ref q28, .int (0 : Int32), .int (-2 : Int32), .null, .ref h_p, .null, .null, .null, .null, .null])), _, _, _, _, _, _, _, _] H := hP
  have hD : va_D A [(h_e, .inr (2, [.int (0 : Int32), .ref q12, .ref q20, .ref q28, .int (0 : Int32), .int (-2 : Int32), .null, .ref h_p, .null, .null, .null, .null, .null])), _, _, _, _, _, _, _, _] := hD
  refine lv_aload_n hx hb dX2_init_55 rfl (lv_at hl 0 rfl) ?_
  refine va_new (ci := 1) (fs := [.int 0, .null, .null, .null, .null, .null, .null, .null]) (C := RX1) (T := TX1) (N := 8) hx hb hts (g_c inlX1) tyX1 tyX1_ok hown (hts _ (List.mem_cons_of_mem _ wm_6_14)) (hts _ (List.mem_cons_of_mem _ wm_2_9)) (hts _ (List.mem_cons_of_mem _ wm_2_10)) hK hP hD hS hA rfl (fun j hj => by rcases (show j = 0 ∨ j = 1 ∨ j = 2 ∨ j = 3 ∨ j = 4 ∨ j = 5 ∨ j = 6 ∨ j = 7 by omega) with rfl | rfl | rfl | rfl | rfl | rfl | rfl | rfl <;> rfl) (Nat.le_of_ble_eq_true rfl) (Nat.le_of_ble_eq_true rfl) dX2_init_56 (fun h_d H hP hD hS => ?_)
  have hP : va_P (dC, dI) vwCl [_, _, _, _, _, _, _, _, _, (h_d, .inr (1, [.int 0, .null, .null, .null, .null, .null, .null, .null]))] H := hP
  have hD : va_D A [_, _, _, _, _, _, _, _, _, (h_d, .inr (1, [.int 0, .null, .null, .null, .null, .null, .null, .null]))] := hD
  refine W.widen (k := 9) (n := 119) (by decide) (by decide) ?_
  refine lv_dup hx hb dX2_init_59 rfl ?_
  refine ux_IN (n := 0) (As := []) (rest := [.ref h_d, .ref h_e]) (wc := [(h_d, .inr (1, [.int 0, .null, .null, .null, .null, .null, .null, .null]))]) (wr := [_, _, _, _, _, _, _, _, _]) ⟨hx, hb, hml, hown, hts⟩ hK hP hD hS hA hE [9] [0, 1, 2, 3, 4, 5, 6, 7, 8] (sg_h [(9, 1)] 10 rfl sk_z14_9 rfl) (sg_h [(0, 9)] 10 rfl sk_z14_10 rfl) nd_z14_8 nd_z14_9 nj_z14_2 (c_X1_init l dC dI cyI cyJ cyZ cyB cyO tO vF adK adV h_d _) (show va_Nw (.methodLinkNest RX2 40 yX1_init "WellVillages") s from hE.1 5 (by decide)) wm_5_15 wm_2_10 wm_5_16 ⟨rfl, rfl⟩ rfl (by decide +kernel) rfl ⟨Nat.le_of_ble_eq_true rfl, Nat.le_of_ble_eq_true rfl⟩ hl.1 rfl (Nat.le_of_ble_eq_true rfl) dX2_init_60 ⟨Nat.le_of_ble_eq_true rfl, Nat.le_of_ble_eq_true rfl⟩ (fun m_d H locs _ hP hD hS => ?_)
  have hP : va_P (dC, dI) vwCl [_, _, _, _, _, _, _, _, _, (h_d, .inr (1, oX1 m_d (0 : Int32))), (m_d 1, .inl (cyI, 12, .inl (fun _ => 0))), (m_d 2, .inl (cyJ, 12, .inr (.inl (fun _ => 0)))), (m_d 3, .inl (cyI, 12, .inl (fun _ => 0))), (m_d 4, .inl (cyI, 6, .inl (fun _ => 0))), (m_d 5, .inl (cyI, 6, .inl (fun _ => 0))), (m_d 6, .inl (cyI, 6, .inl (fun _ => 0))), (m_d 7, .inl (cyI, 6, .inl (fun _ => 0)))] H := hP
  have hD : va_D A [_, _, _, _, _, _, _, _, _, (h_d, .inr (1, oX1 m_d (0 : Int32))), (m_d 1, .inl (cyI, 12, .inl (fun _ => 0))), (m_d 2, .inl (cyJ, 12, .inr (.inl (fun _ => 0)))), (m_d 3, .inl (cyI, 12, .inl (fun _ => 0))), (m_d 4, .inl (cyI, 6, .inl (fun _ => 0))), (m_d 5, .inl (cyI, 6, .inl (fun _ => 0))), (m_d 6, .inl (cyI, 6, .inl (fun _ => 0))), (m_d 7, .inl (cyI, 6, .inl (fun _ => 0)))] := hD
  refine W.widen (k := 16) (n := 179) (by decide) (by decide) ?_
  refine va_putF (D := (dC, dI)) (ci := 2) (v := .ref h_d) (ty := (.object "WellVillages$Days")) (C := RX2) (T := TX2) (N := 13) hx hb hts (g_c inlX2) tyX2 tyX2_ok nmX2 hown hK hP hD hS 0 rfl rfl 9 (by decide) (hts _ (List.mem_cons_of_mem _ wm_6_15)) (fun _ h9 => h9) rfl hin rfl (by decide +kernel) rfl rfl (Nat.le_of_ble_eq_true rfl) dX2_init_63 (fun H locs hP hD hS => ?_)
  have hP : va_P (dC, dI) vwCl [(h_e, .inr (2, [.int (0 : Int32), .ref q12, .ref q20, .ref q28, .int (0 : Int32), .int (-2 : Int32), .null, .ref h_p, .null, .ref h_d, .null, .null, .null])), _, _, _, _, _, _, _, _, _, _, _, _, _, _, _, _] H := hP
  have hD : va_D A [(h_e, .inr (2, [.int (0 : Int32), .ref q12, .ref q20, .ref q28, .int (0 : Int32), .int (-2 : Int32), .null, .ref h_p, .null, .ref h_d, .null, .null, .null])), _, _, _, _, _, _, _, _, _, _, _, _, _, _, _, _] := hD
  refine lv_aload_n hx hb dX2_init_66 rfl (lv_at hl 0 rfl) ?_
  refine lv_null hx hb dX2_init_67 ?_
  refine va_put (D := (dC, dI)) (ci := 2) (v := .null) (ty := (.array .int)) (C := RX2) (T := TX2) (N := 13) hx hb hts (g_c inlX2) tyX2 tyX2_ok nmX2 hown hK hP hD hS 0 rfl rfl 10 (by decide) (hts _ (List.mem_cons_of_mem _ wm_6_16)) (fun _ h9 => h9) rfl (by decide +kernel) rfl rfl (Nat.le_of_ble_eq_true rfl) dX2_init_68 (fun H locs hP hD hS => ?_)
  have hP : va_P (dC, dI) vwCl [_, _, _, _, _, _, _, _, _, _, _, _, _, _, _, _, _] H := hP
  have hD : va_D A [_, _, _, _, _, _, _, _, _, _, _, _, _, _, _, _, _] := hD
  refine lv_aload_n hx hb dX2_init_71 rfl (lv_at hl 0 rfl) ?_
  refine lv_null hx hb dX2_init_72 ?_
  refine va_put (D := (dC, dI)) (ci := 2) (v := .null) (ty := (.array (.object "WellVillages$Days"))) (C := RX2) (T := TX2) (N := 13) hx hb hts (g_c inlX2) tyX2 tyX2_ok nmX2 hown hK hP hD hS 0 rfl rfl 11 (by decide) (hts _ (List.mem_cons_of_mem _ wm_6_17)) (fun _ h9 => h9) rfl (by decide +kernel) rfl rfl (Nat.le_of_ble_eq_true rfl) dX2_init_73 (fun H locs hP hD hS => ?_)
  have hP : va_P (dC, dI) vwCl [_, _, _, _, _, _, _, _, _, _, _, _, _, _, _, _, _] H := hP
  have hD : va_D A [_, _, _, _, _, _, _, _, _, _, _, _, _, _, _, _, _] := hD
  refine lv_aload_n hx hb dX2_init_76 rfl (lv_at hl 0 rfl) ?_
  refine lv_bipush (v := (84 : Int32)) hx hb dX2_init_77 (by decide) ?_
  refine ux_newa (atype := .int) (ty := .int) (N' := 84) (a0 := (84, .inl (fun _ => 0))) hx hb (hts _ (List.mem_cons_of_mem _ wm_2_23)) rfl hK hP hD hS hA 0 rfl (fun _ => rfl) (by decide) (by decide) (by decide) (Nat.le_of_ble_eq_true rfl) (Nat.le_of_ble_eq_true rfl) dX2_init_79 (fun q79 H hP hD hS => ?_)
  have hP : va_P (dC, dI) vwCl [_, _, _, _, _, _, _, _, _, _, _, _, _, _, _, _, _, (q79, .inl (cyI, 84, .inl (fun _ => 0)))] H := hP
  have hD : va_D A [_, _, _, _, _, _, _, _, _, _, _, _, _, _, _, _, _, (q79, .inl (cyI, 84, .inl (fun _ => 0)))] := hD
  refine W.widen (k := 17) (n := 263) (by decide) (by decide) ?_
  refine va_putF (D := (dC, dI)) (ci := 2) (v := .ref q79) (ty := (.array .int)) (C := RX2) (T := TX2) (N := 13) hx hb hts (g_c inlX2) tyX2 tyX2_ok nmX2 hown hK hP hD hS 0 rfl rfl 12 (by decide) (hts _ (List.mem_cons_of_mem _ wm_6_18)) (fun _ h9 => h9) rfl hin rfl (by decide +kernel) rfl rfl (Nat.le_of_ble_eq_true rfl) dX2_init_81 (fun H locs hP hD hS => ?_)
  have hP : va_P (dC, dI) vwCl [(h_e, .inr (2, [.int (0 : Int32), .ref q12, .ref q20, .ref q28, .int (0 : Int32), .int (-2 : Int32), .null, .ref h_p, .null, .ref h_d, .null, .null, .ref q79])), _, _, _, _, _, _, _, _, _, _, _, _, _, _, _, _, _] H := hP
  have hD : va_D A [(h_e, .inr (2, [.int (0 : Int32), .ref q12, .ref q20, .ref q28, .int (0 : Int32), .int (-2 : Int32), .null, .ref h_p, .null, .ref h_d, .null, .null, .ref q79])), _, _, _, _, _, _, _, _, _, _, _, _, _, _, _, _, _] := hD
  refine lv_aload_n hx hb dX2_init_84 rfl (lv_at hl 0 rfl) ?_
  refine lv_aload_n hx hb dX2_init_85 rfl (lv_at hl 1 rfl) ?_
  refine va_putF (D := (dC, dI)) (ci := 2) (v := .ref h_g) (ty := (.object "WellVillages$Ground")) (C := RX2) (T := TX2) (N := 13) hx hb hts (g_c inlX2) tyX2 tyX2_ok nmX2 hown hK hP hD hS 0 rfl rfl 6 (by decide) (hts _ (List.mem_cons_of_mem _ wm_6_19)) (fun _ h9 => h9) rfl hin rfl (by decide +kernel) rfl rfl (Nat.le_of_ble_eq_true rfl) dX2_init_86 (fun H locs hP hD hS => ?_)
  have hP : va_P (dC, dI) vwCl [(h_e, .inr (2, [.int (0 : Int32), .ref q12, .ref q20, .ref q28, .int (0 : Int32), .int (-2 : Int32), .ref h_g, .ref h_p, .null, .ref h_d, .null, .null, .ref q79])), _, _, _, _, _, _, _, _, _, _, _, _, _, _, _, _, _] H := hP
  have hD : va_D A [(h_e, .inr (2, [.int (0 : Int32), .ref q12, .ref q20, .ref q28, .int (0 : Int32), .int (-2 : Int32), .ref h_g, .ref h_p, .null, .ref h_d, .null, .null, .ref q79])), _, _, _, _, _, _, _, _, _, _, _, _, _, _, _, _, _] := hD
  refine lv_aload_n hx hb dX2_init_89 rfl (lv_at hl 0 rfl) ?_
  refine va_new (ci := 0) (fs := [.null, .null, .null, .int 0, .int 0, .null, .null, .null, .null]) (C := RX0) (T := TX0) (N := 9) hx hb hts (g_c inlX0) tyX0 tyX0_ok hown (hts _ (List.mem_cons_of_mem _ wm_6_20)) (hts _ (List.mem_cons_of_mem _ wm_2_5)) (hts _ (List.mem_cons_of_mem _ wm_2_6)) hK hP hD hS hA rfl (fun j hj => by rcases (show j = 0 ∨ j = 1 ∨ j = 2 ∨ j = 3 ∨ j = 4 ∨ j = 5 ∨ j = 6 ∨ j = 7 ∨ j = 8 by omega) with rfl | rfl | rfl | rfl | rfl | rfl | rfl | rfl | rfl <;> rfl) (Nat.le_of_ble_eq_true rfl) (Nat.le_of_ble_eq_true rfl) dX2_init_90 (fun h_c H hP hD hS => ?_)
  have hP : va_P (dC, dI) vwCl [_, _, _, _, _, _, _, _, _, _, _, _, _, _, _, _, _, _, (h_c, .inr (0, [.null, .null, .null, .int 0, .int 0, .null, .null, .null, .null]))] H := hP
  have hD : va_D A [_, _, _, _, _, _, _, _, _, _, _, _, _, _, _, _, _, _, (h_c, .inr (0, [.null, .null, .null, .int 0, .int 0, .null, .null, .null, .null]))] := hD
  refine W.widen (k := 18) (n := 272) (by decide) (by decide) ?_
  refine lv_dup hx hb dX2_init_93 rfl ?_
  refine lv_aload_n hx hb dX2_init_94 rfl (lv_at hl 1 rfl) ?_
  refine lv_aload_n hx hb dX2_init_95 rfl (lv_at hl 0 rfl) ?_
  refine va_get (D := (dC, dI)) (ci := 2) (v := .ref h_p) (C := RX2) (T := TX2) (N := 13) hx hb hts (g_c inlX2) hown hK hP 0 rfl rfl 7 (by decide) (hts _ (List.mem_cons_of_mem _ wm_6_13)) (fun _ h9 => h9) rfl dX2_init_96 ?_
  refine ux_I (n := 2) (As := [.ref h_g, .ref h_p]) (rest := [.ref h_c, .ref h_e]) (wc := [(h_c, .inr (0, [.null, .null, .null, .int 0, .int 0, .null, .null, .null, .null]))]) (wr := [_, _, _, _, _, _, _, _, _, _, _, _, _, _, _, _, _, _]) ⟨hx, hb, hml, hown, hts⟩ hK hP hD hS hA hE [18] [0, 1, 2, 3, 4, 5, 6, 7, 8, 9, 10, 11, 12, 13, 14, 15, 16, 17] (sg_h [(18, 1)] 19 rfl sk_z14_11 rfl) (sg_h [(0, 18)] 19 rfl sk_z14_12 rfl) nd_z14_10 nd_z14_11 nj_z14_3 (c_X0_init l dC dI cyI cyJ cyZ cyB cyO tO vF adK adV h_c h_g h_p _) wm_6_22 wm_5_3 wm_2_6 wm_5_4 ⟨rfl, rfl⟩ rfl (by decide +kernel) rfl ⟨Nat.le_of_ble_eq_true rfl, Nat.le_of_ble_eq_true rfl⟩ hl.1 rfl (Nat.le_of_ble_eq_true rfl) dX2_init_99 ⟨Nat.le_of_ble_eq_true rfl, Nat.le_of_ble_eq_true rfl⟩ (fun m_c H locs _ hP hD hS => ?_)
  have hP : va_P (dC, dI) vwCl [_, _, _, _, _, _, _, _, _, _, _, _, _, _, _, _, _, _, (h_c, .inr (0, oX0 m_c h_g h_p (0 : Int32) (0 : Int32))), (m_c 2, .inl (cyZ, 6, .inl (fun _ => 0))), (m_c 5, .inl (cyI, 12, .inl (fun _ => 0))), (m_c 6, .inl (cyI, 12, .inl (fun _ => 0))), (m_c 7, .inl (cyJ, 12, .inr (.inl (fun _ => 0)))), (m_c 8, .inl (cyI, 16, .inl (fun _ => 0)))] H := hP
  have hD : va_D A [_, _, _, _, _, _, _, _, _, _, _, _, _, _, _, _, _, _, (h_c, .inr (0, oX0 m_c h_g h_p (0 : Int32) (0 : Int32))), (m_c 2, .inl (cyZ, 6, .inl (fun _ => 0))), (m_c 5, .inl (cyI, 12, .inl (fun _ => 0))), (m_c 6, .inl (cyI, 12, .inl (fun _ => 0))), (m_c 7, .inl (cyJ, 12, .inr (.inl (fun _ => 0)))), (m_c 8, .inl (cyI, 16, .inl (fun _ => 0)))] := hD
  refine W.widen (k := 23) (n := 330) (by decide) (by decide) ?_
  refine va_putF (D := (dC, dI)) (ci := 2) (v := .ref h_c) (ty := (.object "WellVillages$Course")) (C := RX2) (T := TX2) (N := 13) hx hb hts (g_c inlX2) tyX2 tyX2_ok nmX2 hown hK hP hD hS 0 rfl rfl 8 (by decide) (hts _ (List.mem_cons_of_mem _ wm_6_21)) (fun _ h9 => h9) rfl hin rfl (by decide +kernel) rfl rfl (Nat.le_of_ble_eq_true rfl) dX2_init_102 (fun H locs hP hD hS => ?_)
  have hP : va_P (dC, dI) vwCl [(h_e, .inr (2, [.int (0 : Int32), .ref q12, .ref q20, .ref q28, .int (0 : Int32), .int (-2 : Int32), .ref h_g, .ref h_p, .ref h_c, .ref h_d, .null, .null, .ref q79])), _, _, _, _, _, _, _, _, _, _, _, _, _, _, _, _, _, _, _, _, _, _, _] H := hP
  have hD : va_D A [(h_e, .inr (2, [.int (0 : Int32), .ref q12, .ref q20, .ref q28, .int (0 : Int32), .int (-2 : Int32), .ref h_g, .ref h_p, .ref h_c, .ref h_d, .null, .null, .ref q79])), _, _, _, _, _, _, _, _, _, _, _, _, _, _, _, _, _, _, _, _, _, _, _] := hD
  obtain ⟨m_e, hm_e⟩ : ∃ z : Nat → Nat, z = fun k => ([0, q12, q20, q28, 0, 0, 0, 0, 0, 0, 0, 0, q79] : List Nat).getD k 0 := ⟨_, rfl⟩
  have hP : va_P (dC, dI) vwCl [(h_e, .inr (2, oX2 m_e (0 : Int32) (0 : Int32) (-2 : Int32) h_g h_p h_c h_d .null .null)), (m_e 1, .inl (cyI, 20, .inl (fun _ => 0))), (m_e 2, .inl (cyI, 20, .inl (fun _ => 0))), (m_e 3, .inl (cyI, 20, .inl (fun _ => 0))), (m_e 12, .inl (cyI, 84, .inl (fun _ => 0))), (h_p, .inr (4, oX4 m_p (-1 : Int32) (0 : Int32) (0 : Int32) (0 : Int32))), (m_p 0, .inl (cyI, 6, .inl (fun _ => 0))), (m_p 1, .inl (cyI, 20, .inl (fun _ => 0))), (m_p 2, .inl (cyI, 3, .inl (fun _ => 0))), (m_p 3, .inl (cyI, 14, .inl (fun _ => 0))), (h_c, .inr (0, oX0 m_c h_g h_p (0 : Int32) (0 : Int32))), (m_c 2, .inl (cyZ, 6, .inl (fun _ => 0))), (m_c 5, .inl (cyI, 12, .inl (fun _ => 0))), (m_c 6, .inl (cyI, 12, .inl (fun _ => 0))), (m_c 7, .inl (cyJ, 12, .inr (.inl (fun _ => 0)))), (m_c 8, .inl (cyI, 16, .inl (fun _ => 0))), (h_d, .inr (1, oX1 m_d (0 : Int32))), (m_d 1, .inl (cyI, 12, .inl (fun _ => 0))), (m_d 2, .inl (cyJ, 12, .inr (.inl (fun _ => 0)))), (m_d 3, .inl (cyI, 12, .inl (fun _ => 0))), (m_d 4, .inl (cyI, 6, .inl (fun _ => 0))), (m_d 5, .inl (cyI, 6, .inl (fun _ => 0))), (m_d 6, .inl (cyI, 6, .inl (fun _ => 0))), (m_d 7, .inl (cyI, 6, .inl (fun _ => 0)))] H := by subst hm_e; exact hP.sub [0, 1, 2, 3, 17, 4, 5, 6, 7, 8, 18, 19, 20, 21, 22, 23, 9, 10, 11, 12, 13, 14, 15, 16] (ux_pick (sg_h [(0, 4), (17, 1), (4, 5), (18, 6), (9, 8)] 24 rfl sk_z14_13 rfl))
  have hD : va_D A [(h_e, .inr (2, oX2 m_e (0 : Int32) (0 : Int32) (-2 : Int32) h_g h_p h_c h_d .null .null)), (m_e 1, .inl (cyI, 20, .inl (fun _ => 0))), (m_e 2, .inl (cyI, 20, .inl (fun _ => 0))), (m_e 3, .inl (cyI, 20, .inl (fun _ => 0))), (m_e 12, .inl (cyI, 84, .inl (fun _ => 0))), (h_p, .inr (4, oX4 m_p (-1 : Int32) (0 : Int32) (0 : Int32) (0 : Int32))), (m_p 0, .inl (cyI, 6, .inl (fun _ => 0))), (m_p 1, .inl (cyI, 20, .inl (fun _ => 0))), (m_p 2, .inl (cyI, 3, .inl (fun _ => 0))), (m_p 3, .inl (cyI, 14, .inl (fun _ => 0))), (h_c, .inr (0, oX0 m_c h_g h_p (0 : Int32) (0 : Int32))), (m_c 2, .inl (cyZ, 6, .inl (fun _ => 0))), (m_c 5, .inl (cyI, 12, .inl (fun _ => 0))), (m_c 6, .inl (cyI, 12, .inl (fun _ => 0))), (m_c 7, .inl (cyJ, 12, .inr (.inl (fun _ => 0)))), (m_c 8, .inl (cyI, 16, .inl (fun _ => 0))), (h_d, .inr (1, oX1 m_d (0 : Int32))), (m_d 1, .inl (cyI, 12, .inl (fun _ => 0))), (m_d 2, .inl (cyJ, 12, .inr (.inl (fun _ => 0)))), (m_d 3, .inl (cyI, 12, .inl (fun _ => 0))), (m_d 4, .inl (cyI, 6, .inl (fun _ => 0))), (m_d 5, .inl (cyI, 6, .inl (fun _ => 0))), (m_d 6, .inl (cyI, 6, .inl (fun _ => 0))), (m_d 7, .inl (cyI, 6, .inl (fun _ => 0)))] := by subst hm_e; exact hD.sub [0, 1, 2, 3, 17, 4, 5, 6, 7, 8, 18, 19, 20, 21, 22, 23, 9, 10, 11, 12, 13, 14, 15, 16] nd_z14_12 (sg_h [(0, 4), (17, 1), (4, 5), (18, 6), (9, 8)] 24 rfl sk_z14_13 rfl)
  exact hret _ _ _ _ (m_e, h_p, m_p, h_d, m_d, h_c, m_c) dX2_init_105 trivial hP hD hS
