set_option maxRecDepth 100000 in
theorem nd_z15_0 : va_nd [] = true := nd_f (by decide +kernel)
set_option maxRecDepth 100000 in
theorem nd_z15_1 : va_nd [0, 1, 2, 3, 4] = true := nd_f (by decide +kernel)
set_option maxRecDepth 100000 in
theorem nd_z15_2 : va_nd [0] = true := nd_f (by decide +kernel)
set_option maxRecDepth 100000 in
theorem nd_z15_3 : va_nd [1, 2] = true := nd_f (by decide +kernel)
set_option maxRecDepth 100000 in
theorem nd_z15_4 : va_nd [2, 0, 1] = true := nd_f (by decide +kernel)
set_option maxRecDepth 100000 in
theorem nd_z15_5 : va_nd [0, 1, 2] = true := nd_f (by decide +kernel)
set_option maxRecDepth 100000 in
theorem nd_z15_6 : va_nd [0, 2] = true := nd_f (by decide +kernel)
set_option maxRecDepth 100000 in
theorem nd_z15_7 : va_nd [1, 3] = true := nd_f (by decide +kernel)
set_option maxRecDepth 100000 in
theorem nd_z15_8 : va_nd [2, 0, 3, 1] = true := nd_f (by decide +kernel)
set_option maxRecDepth 100000 in
theorem nd_z15_9 : va_nd [3] = true := nd_f (by decide +kernel)
set_option maxRecDepth 100000 in
theorem nd_z15_10 : va_nd [1, 2, 3, 0] = true := nd_f (by decide +kernel)
set_option maxRecDepth 100000 in
theorem nd_z15_11 : va_nd [1, 3, 4, 5, 6] = true := nd_f (by decide +kernel)
set_option maxRecDepth 100000 in
theorem nd_z15_12 : va_nd [5, 0, 6, 1, 2, 3, 4] = true := nd_f (by decide +kernel)
set_option maxRecDepth 100000 in
theorem nd_z15_13 : va_nd [3, 4, 5, 6] = true := nd_f (by decide +kernel)
set_option maxRecDepth 100000 in
theorem nd_z15_14 : va_nd [4, 1, 3] = true := nd_f (by decide +kernel)
set_option maxRecDepth 100000 in
theorem nd_z15_15 : va_nd [0, 2, 5, 6] = true := nd_f (by decide +kernel)
set_option maxRecDepth 100000 in
theorem nd_z15_16 : va_nd [4, 2, 3, 0, 5, 1, 6] = true := nd_f (by decide +kernel)
set_option maxRecDepth 100000 in
theorem nd_z15_17 : va_nd [4, 5, 6, 0, 1, 2, 3] = true := nd_f (by decide +kernel)
set_option maxRecDepth 100000 in
theorem nd_z15_18 : va_nd [3, 4, 5] = true := nd_f (by decide +kernel)
set_option maxRecDepth 100000 in
theorem nd_z15_19 : va_nd [3, 1, 2] = true := nd_f (by decide +kernel)
set_option maxRecDepth 100000 in
theorem nd_z15_20 : va_nd [0, 4, 5] = true := nd_f (by decide +kernel)
set_option maxRecDepth 100000 in
theorem nd_z15_21 : va_nd [3, 1, 2, 0, 4, 5] = true := nd_f (by decide +kernel)
set_option maxRecDepth 100000 in
theorem nd_z15_22 : va_nd [3, 2] = true := nd_f (by decide +kernel)
set_option maxRecDepth 100000 in
theorem nd_z15_23 : va_nd [0, 1, 4, 5] = true := nd_f (by decide +kernel)
set_option maxRecDepth 100000 in
theorem nd_z15_24 : va_nd [4, 1, 5, 0, 2, 3] = true := nd_f (by decide +kernel)
set_option maxRecDepth 100000 in
theorem nd_z15_25 : va_nd [3, 4, 5, 0, 1, 2] = true := nd_f (by decide +kernel)
set_option maxRecDepth 100000 in
theorem nj_z15_0 : ∀ i ∈ ([] : List Nat), i ∉ ([] : List Nat) := nj_f (by decide +kernel)
set_option maxRecDepth 100000 in
theorem nj_z15_1 : ∀ i ∈ ([0, 1, 2, 3, 4] : List Nat), i ∉ ([] : List Nat) := nj_f (by decide +kernel)
set_option maxRecDepth 100000 in
theorem nj_z15_2 : ∀ i ∈ ([] : List Nat), i ∉ ([0, 1, 2, 3, 4] : List Nat) := nj_f (by decide +kernel)
set_option maxRecDepth 100000 in
theorem nj_z15_3 : ∀ i ∈ ([] : List Nat), i ∉ ([0] : List Nat) := nj_f (by decide +kernel)
set_option maxRecDepth 100000 in
theorem nj_z15_4 : ∀ i ∈ ([1, 2] : List Nat), i ∉ ([0] : List Nat) := nj_f (by decide +kernel)
set_option maxRecDepth 100000 in
theorem nj_z15_5 : ∀ i ∈ ([] : List Nat), i ∉ ([0, 1, 2] : List Nat) := nj_f (by decide +kernel)
set_option maxRecDepth 100000 in
theorem nj_z15_6 : ∀ i ∈ ([1, 3] : List Nat), i ∉ ([0, 2] : List Nat) := nj_f (by decide +kernel)
set_option maxRecDepth 100000 in
theorem nj_z15_7 : ∀ i ∈ ([3] : List Nat), i ∉ ([0, 1, 2] : List Nat) := nj_f (by decide +kernel)
set_option maxRecDepth 100000 in
theorem nj_z15_8 : ∀ i ∈ ([1, 3, 4, 5, 6] : List Nat), i ∉ ([0, 2] : List Nat) := nj_f (by decide +kernel)
set_option maxRecDepth 100000 in
theorem nj_z15_9 : ∀ i ∈ ([3, 4, 5, 6] : List Nat), i ∉ ([0, 1, 2] : List Nat) := nj_f (by decide +kernel)
set_option maxRecDepth 100000 in
theorem nj_z15_10 : ∀ i ∈ ([0, 2, 5, 6] : List Nat), i ∉ ([4, 1, 3] : List Nat) := nj_f (by decide +kernel)
set_option maxRecDepth 100000 in
theorem nj_z15_11 : ∀ i ∈ ([3, 4, 5] : List Nat), i ∉ ([0, 1, 2] : List Nat) := nj_f (by decide +kernel)
set_option maxRecDepth 100000 in
theorem nj_z15_12 : ∀ i ∈ ([0, 4, 5] : List Nat), i ∉ ([3, 1, 2] : List Nat) := nj_f (by decide +kernel)
set_option maxRecDepth 100000 in
theorem nj_z15_13 : ∀ i ∈ ([0, 1, 4, 5] : List Nat), i ∉ ([3, 2] : List Nat) := nj_f (by decide +kernel)
set_option maxRecDepth 100000 in
theorem sk_z15_0 : sgk [] [] 0 = true := by decide +kernel
set_option maxRecDepth 100000 in
theorem sk_z15_1 : sgk [] [] 5 = true := by decide +kernel
set_option maxRecDepth 100000 in
theorem sk_z15_2 : sgk [(0, 5)] [0, 1, 2, 3, 4] 5 = true := by decide +kernel
set_option maxRecDepth 100000 in
theorem sk_z15_3 : sgk [(0, 1)] [0] 1 = true := by decide +kernel
set_option maxRecDepth 100000 in
theorem sk_z15_4 : sgk [] [] 1 = true := by decide +kernel
set_option maxRecDepth 100000 in
theorem sk_z15_5 : sgk [(0, 1)] [0] 3 = true := by decide +kernel
set_option maxRecDepth 100000 in
theorem sk_z15_6 : sgk [(1, 2)] [1, 2] 3 = true := by decide +kernel
set_option maxRecDepth 100000 in
theorem sk_z15_7 : sgk [(2, 1), (0, 2)] [2, 0, 1] 3 = true := by decide +kernel
set_option maxRecDepth 100000 in
theorem sk_z15_8 : sgk [(0, 3)] [0, 1, 2] 3 = true := by decide +kernel
set_option maxRecDepth 100000 in
theorem sk_z15_9 : sgk [] [] 3 = true := by decide +kernel
set_option maxRecDepth 100000 in
theorem sk_z15_10 : sgk [(0, 1), (2, 1)] [0, 2] 4 = true := by decide +kernel
set_option maxRecDepth 100000 in
theorem sk_z15_11 : sgk [(1, 1), (3, 1)] [1, 3] 4 = true := by decide +kernel
set_option maxRecDepth 100000 in
theorem sk_z15_12 : sgk [(2, 1), (0, 1), (3, 1), (1, 1)] [2, 0, 3, 1] 4 = true := by decide +kernel
set_option maxRecDepth 100000 in
theorem sk_z15_13 : sgk [(0, 3)] [0, 1, 2] 4 = true := by decide +kernel
set_option maxRecDepth 100000 in
theorem sk_z15_14 : sgk [(3, 1)] [3] 4 = true := by decide +kernel
set_option maxRecDepth 100000 in
theorem sk_z15_15 : sgk [(1, 3), (0, 1)] [1, 2, 3, 0] 4 = true := by decide +kernel
set_option maxRecDepth 100000 in
theorem sk_z15_16 : sgk [(0, 1), (2, 1)] [0, 2] 7 = true := by decide +kernel
set_option maxRecDepth 100000 in
theorem sk_z15_17 : sgk [(1, 1), (3, 4)] [1, 3, 4, 5, 6] 7 = true := by decide +kernel
set_option maxRecDepth 100000 in
theorem sk_z15_18 : sgk [(5, 1), (0, 1), (6, 1), (1, 4)] [5, 0, 6, 1, 2, 3, 4] 7 = true := by decide +kernel
set_option maxRecDepth 100000 in
theorem sk_z15_19 : sgk [(0, 3)] [0, 1, 2] 7 = true := by decide +kernel
set_option maxRecDepth 100000 in
theorem sk_z15_20 : sgk [(3, 4)] [3, 4, 5, 6] 7 = true := by decide +kernel
set_option maxRecDepth 100000 in
theorem sk_z15_21 : sgk [(4, 1), (1, 1), (3, 1)] [4, 1, 3] 7 = true := by decide +kernel
set_option maxRecDepth 100000 in
theorem sk_z15_22 : sgk [(0, 1), (2, 1), (5, 2)] [0, 2, 5, 6] 7 = true := by decide +kernel
set_option maxRecDepth 100000 in
theorem sk_z15_23 : sgk [(4, 1), (2, 2), (0, 1), (5, 1), (1, 1), (6, 1)] [4, 2, 3, 0, 5, 1, 6] 7 = true := by decide +kernel
set_option maxRecDepth 100000 in
theorem sk_z15_24 : sgk [(4, 3), (0, 4)] [4, 5, 6, 0, 1, 2, 3] 7 = true := by decide +kernel
set_option maxRecDepth 100000 in
theorem sk_z15_25 : sgk [(0, 3)] [0, 1, 2] 6 = true := by decide +kernel
set_option maxRecDepth 100000 in
theorem sk_z15_26 : sgk [(3, 3)] [3, 4, 5] 6 = true := by decide +kernel
set_option maxRecDepth 100000 in
theorem sk_z15_27 : sgk [(3, 1), (1, 2)] [3, 1, 2] 6 = true := by decide +kernel
set_option maxRecDepth 100000 in
theorem sk_z15_28 : sgk [(0, 1), (4, 2)] [0, 4, 5] 6 = true := by decide +kernel
set_option maxRecDepth 100000 in
theorem sk_z15_29 : sgk [(3, 1), (1, 2), (0, 1), (4, 2)] [3, 1, 2, 0, 4, 5] 6 = true := by decide +kernel
set_option maxRecDepth 100000 in
theorem sk_z15_30 : sgk [(3, 1), (2, 1)] [3, 2] 6 = true := by decide +kernel
set_option maxRecDepth 100000 in
theorem sk_z15_31 : sgk [(0, 2), (4, 2)] [0, 1, 4, 5] 6 = true := by decide +kernel
set_option maxRecDepth 100000 in
theorem sk_z15_32 : sgk [(4, 1), (1, 1), (5, 1), (0, 1), (2, 2)] [4, 1, 5, 0, 2, 3] 6 = true := by decide +kernel
set_option maxRecDepth 100000 in
theorem sk_z15_33 : sgk [(3, 3), (0, 3)] [3, 4, 5, 0, 1, 2] 6 = true := by decide +kernel
def f_X5_isBlank (q0 : Int32) : Option (Int32) := if q0 = (9 : Int32) then (some ((1 : Int32))) else (if q0 = (10 : Int32) then (some ((1 : Int32))) else (if q0 = (13 : Int32) then (some ((1 : Int32))) else (if q0 = (32 : Int32) then (some ((1 : Int32))) else (some ((0 : Int32))))))
set_option maxRecDepth 100000 in
set_option maxHeartbeats 8000000 in
theorem c_X5_isBlank (l : Launch) (dC : Nat → ClassId) (dI : Nat → Nat → Nat) (cyI cyJ cyZ cyB cyO : ClassId) (tO : Nat) (vF : Value) (adK adV : Nat → Nat)   (q0 : Int32) (sz : Nat) (out : Int32) (hf : f_X5_isBlank q0 = some out) : Met l yX5_isBlank (Cond.code yX5_isBlank cX5_isBlank 1 (some .boolean) :: wsL_law) ({ frames := 0, cells := 0, slots := 0, locals := 0 } : Room) (va_Pc [.int q0] (ux_pre (dC, dI) vwCl (tyG cyI cyJ cyZ cyB cyO) [] sz (xE tO vF adK adV))) (va_Qi (fun (r : Int32) (_ : Unit) => r = out) (ux_at (dC, dI) vwCl (tyG cyI cyJ cyZ cyB cyO) [] sz (fun u : Unit => [])) (va_A [] sz)) 0 0 (va_A [] sz) := by
  refine ux_metz0 (by decide +kernel) (Nat.le_of_ble_eq_true rfl) ?_
  intro p e s m below meth c A Q ls hx hb hml hts hown hA hP hK hD hE hl hret
  have hown : s.vm.findClass RX5 = some m.cls := hown
  have hS : va_S A s.heap s.heap [] := va_S.rf
  have hl : lv_has ls 1 [(0, .int q0)] := hl
  unfold f_X5_isBlank at hf
  refine lv_iload_n hx hb dX5_isBlank_0 rfl (lv_at hl 0 rfl) ?_
  refine lv_bipush (v := (9 : Int32)) hx hb dX5_isBlank_1 (by decide) ?_
  refine lv_icmp_eq (tgt := 24) hx hb dX5_isBlank_3 (by decide) (fun c_1 => ?_) (fun c_1 => ?_)
  · have hf := (if_pos c_1).symm.trans hf
    refine lv_iconst (v := (1 : Int32)) hx hb dX5_isBlank_24 (by decide) ?_
    refine lv_goto (tgt := 29) hx hb dX5_isBlank_25 (by decide) ?_
    exact hret _ _ _ _ (1 : Int32) dX5_isBlank_29 (Option.some.inj hf) rfl hP hD hS
  · have hf := (if_neg c_1).symm.trans hf
    refine lv_iload_n hx hb dX5_isBlank_6 rfl (lv_at hl 0 rfl) ?_
    refine lv_bipush (v := (10 : Int32)) hx hb dX5_isBlank_7 (by decide) ?_
    refine lv_icmp_eq (tgt := 24) hx hb dX5_isBlank_9 (by decide) (fun c_2 => ?_) (fun c_2 => ?_)
    · have hf := (if_pos c_2).symm.trans hf
      refine lv_iconst (v := (1 : Int32)) hx hb dX5_isBlank_24 (by decide) ?_
      refine lv_goto (tgt := 29) hx hb dX5_isBlank_25 (by decide) ?_
      exact hret _ _ _ _ (1 : Int32) dX5_isBlank_29 (Option.some.inj hf) rfl hP hD hS
    · have hf := (if_neg c_2).symm.trans hf
      refine lv_iload_n hx hb dX5_isBlank_12 rfl (lv_at hl 0 rfl) ?_
      refine lv_bipush (v := (13 : Int32)) hx hb dX5_isBlank_13 (by decide) ?_
      refine lv_icmp_eq (tgt := 24) hx hb dX5_isBlank_15 (by decide) (fun c_3 => ?_) (fun c_3 => ?_)
      · have hf := (if_pos c_3).symm.trans hf
        refine lv_iconst (v := (1 : Int32)) hx hb dX5_isBlank_24 (by decide) ?_
        refine lv_goto (tgt := 29) hx hb dX5_isBlank_25 (by decide) ?_
        exact hret _ _ _ _ (1 : Int32) dX5_isBlank_29 (Option.some.inj hf) rfl hP hD hS
      · have hf := (if_neg c_3).symm.trans hf
        refine lv_iload_n hx hb dX5_isBlank_18 rfl (lv_at hl 0 rfl) ?_
        refine lv_bipush (v := (32 : Int32)) hx hb dX5_isBlank_19 (by decide) ?_
        refine lv_icmp_ne (tgt := 28) hx hb dX5_isBlank_21 (by decide) (fun c_4 => ?_) (fun c_4 => ?_)
        · have hf := (if_neg c_4).symm.trans hf
          refine lv_iconst (v := (0 : Int32)) hx hb dX5_isBlank_28 (by decide) ?_
          exact hret _ _ _ _ (0 : Int32) dX5_isBlank_29 (Option.some.inj hf) rfl hP hD hS
        · have hf := (if_pos c_4).symm.trans hf
          refine lv_iconst (v := (1 : Int32)) hx hb dX5_isBlank_24 (by decide) ?_
          refine lv_goto (tgt := 29) hx hb dX5_isBlank_25 (by decide) ?_
          exact hret _ _ _ _ (1 : Int32) dX5_isBlank_29 (Option.some.inj hf) rfl hP hD hS
def f_X5_isLetter (q0 : Int32) : Option (Int32) := if q0 < (97 : Int32) then (some ((0 : Int32))) else (if (122 : Int32) < q0 then (some ((0 : Int32))) else (some ((1 : Int32))))
set_option maxRecDepth 100000 in
set_option maxHeartbeats 8000000 in
theorem c_X5_isLetter (l : Launch) (dC : Nat → ClassId) (dI : Nat → Nat → Nat) (cyI cyJ cyZ cyB cyO : ClassId) (tO : Nat) (vF : Value) (adK adV : Nat → Nat)   (q0 : Int32) (sz : Nat) (out : Int32) (hf : f_X5_isLetter q0 = some out) : Met l yX5_isLetter (Cond.code yX5_isLetter cX5_isLetter 1 (some .boolean) :: wsL_law) ({ frames := 0, cells := 0, slots := 0, locals := 0 } : Room) (va_Pc [.int q0] (ux_pre (dC, dI) vwCl (tyG cyI cyJ cyZ cyB cyO) [] sz (xE tO vF adK adV))) (va_Qi (fun (r : Int32) (_ : Unit) => r = out) (ux_at (dC, dI) vwCl (tyG cyI cyJ cyZ cyB cyO) [] sz (fun u : Unit => [])) (va_A [] sz)) 0 0 (va_A [] sz) := by
  refine ux_metz0 (by decide +kernel) (Nat.le_of_ble_eq_true rfl) ?_
  intro p e s m below meth c A Q ls hx hb hml hts hown hA hP hK hD hE hl hret
  have hown : s.vm.findClass RX5 = some m.cls := hown
  have hS : va_S A s.heap s.heap [] := va_S.rf
  have hl : lv_has ls 1 [(0, .int q0)] := hl
  unfold f_X5_isLetter at hf
  refine lv_iload_n hx hb dX5_isLetter_0 rfl (lv_at hl 0 rfl) ?_
  refine lv_bipush (v := (97 : Int32)) hx hb dX5_isLetter_1 (by decide) ?_
  refine lv_icmp_lt (tgt := 16) hx hb dX5_isLetter_3 (by decide) (fun c_1 => ?_) (fun c_1 => ?_)
  · have hf := (if_pos c_1).symm.trans hf
    refine lv_iconst (v := (0 : Int32)) hx hb dX5_isLetter_16 (by decide) ?_
    exact hret _ _ _ _ (0 : Int32) dX5_isLetter_17 (Option.some.inj hf) rfl hP hD hS
  · have hf := (if_neg c_1).symm.trans hf
    refine lv_iload_n hx hb dX5_isLetter_6 rfl (lv_at hl 0 rfl) ?_
    refine lv_bipush (v := (122 : Int32)) hx hb dX5_isLetter_7 (by decide) ?_
    refine lv_icmp_gt (tgt := 16) hx hb dX5_isLetter_9 (by decide) (fun c_2 => ?_) (fun c_2 => ?_)
    · have hf := (if_pos c_2).symm.trans hf
      refine lv_iconst (v := (0 : Int32)) hx hb dX5_isLetter_16 (by decide) ?_
      exact hret _ _ _ _ (0 : Int32) dX5_isLetter_17 (Option.some.inj hf) rfl hP hD hS
    · have hf := (if_neg c_2).symm.trans hf
      refine lv_iconst (v := (1 : Int32)) hx hb dX5_isLetter_12 (by decide) ?_
      refine lv_goto (tgt := 17) hx hb dX5_isLetter_13 (by decide) ?_
      exact hret _ _ _ _ (1 : Int32) dX5_isLetter_17 (Option.some.inj hf) rfl hP hD hS
def f_X5_isDigit (q0 : Int32) : Option (Int32) := if q0 < (48 : Int32) then (some ((0 : Int32))) else (if (57 : Int32) < q0 then (some ((0 : Int32))) else (some ((1 : Int32))))
set_option maxRecDepth 100000 in
set_option maxHeartbeats 8000000 in
theorem c_X5_isDigit (l : Launch) (dC : Nat → ClassId) (dI : Nat → Nat → Nat) (cyI cyJ cyZ cyB cyO : ClassId) (tO : Nat) (vF : Value) (adK adV : Nat → Nat)   (q0 : Int32) (sz : Nat) (out : Int32) (hf : f_X5_isDigit q0 = some out) : Met l yX5_isDigit (Cond.code yX5_isDigit cX5_isDigit 1 (some .boolean) :: wsL_law) ({ frames := 0, cells := 0, slots := 0, locals := 0 } : Room) (va_Pc [.int q0] (ux_pre (dC, dI) vwCl (tyG cyI cyJ cyZ cyB cyO) [] sz (xE tO vF adK adV))) (va_Qi (fun (r : Int32) (_ : Unit) => r = out) (ux_at (dC, dI) vwCl (tyG cyI cyJ cyZ cyB cyO) [] sz (fun u : Unit => [])) (va_A [] sz)) 0 0 (va_A [] sz) := by
  refine ux_metz0 (by decide +kernel) (Nat.le_of_ble_eq_true rfl) ?_
  intro p e s m below meth c A Q ls hx hb hml hts hown hA hP hK hD hE hl hret
  have hown : s.vm.findClass RX5 = some m.cls := hown
  have hS : va_S A s.heap s.heap [] := va_S.rf
  have hl : lv_has ls 1 [(0, .int q0)] := hl
  unfold f_X5_isDigit at hf
  refine lv_iload_n hx hb dX5_isDigit_0 rfl (lv_at hl 0 rfl) ?_
  refine lv_bipush (v := (48 : Int32)) hx hb dX5_isDigit_1 (by decide) ?_
  refine lv_icmp_lt (tgt := 16) hx hb dX5_isDigit_3 (by decide) (fun c_1 => ?_) (fun c_1 => ?_)
  · have hf := (if_pos c_1).symm.trans hf
    refine lv_iconst (v := (0 : Int32)) hx hb dX5_isDigit_16 (by decide) ?_
    exact hret _ _ _ _ (0 : Int32) dX5_isDigit_17 (Option.some.inj hf) rfl hP hD hS
  · have hf := (if_neg c_1).symm.trans hf
    refine lv_iload_n hx hb dX5_isDigit_6 rfl (lv_at hl 0 rfl) ?_
    refine lv_bipush (v := (57 : Int32)) hx hb dX5_isDigit_7 (by decide) ?_
    refine lv_icmp_gt (tgt := 16) hx hb dX5_isDigit_9 (by decide) (fun c_2 => ?_) (fun c_2 => ?_)
    · have hf := (if_pos c_2).symm.trans hf
      refine lv_iconst (v := (0 : Int32)) hx hb dX5_isDigit_16 (by decide) ?_
      exact hret _ _ _ _ (0 : Int32) dX5_isDigit_17 (Option.some.inj hf) rfl hP hD hS
    · have hf := (if_neg c_2).symm.trans hf
      refine lv_iconst (v := (1 : Int32)) hx hb dX5_isDigit_12 (by decide) ?_
      refine lv_goto (tgt := 17) hx hb dX5_isDigit_13 (by decide) ?_
      exact hret _ _ _ _ (1 : Int32) dX5_isDigit_17 (Option.some.inj hf) rfl hP hD hS
def f_X5_isSign (q0 : Int32) : Option (Int32) := if q0 ≤ (0 : Int32) then (some ((0 : Int32))) else (bd (f_J0_indexOf_0f7a4 0 ((q0.toUInt32 % 65536).toInt32)) (fun o_2 => if o_2 < (0 : Int32) then (some ((0 : Int32))) else (some ((1 : Int32)))))
set_option maxRecDepth 100000 in
set_option maxHeartbeats 8000000 in
theorem c_X5_isSign (l : Launch) (dC : Nat → ClassId) (dI : Nat → Nat → Nat) (cyI cyJ cyZ cyB cyO : ClassId) (tO : Nat) (vF : Value) (adK adV : Nat → Nat)   (q0 : Int32) (sz : Nat) (out : Int32) (hf : f_X5_isSign q0 = some out) : Met l yX5_isSign (Cond.code yX5_isSign cX5_isSign 1 (some .boolean) :: wsL_law) ({ frames := 4, cells := 0, slots := 0, locals := 91 } : Room) (va_Pc [.int q0] (ux_pre (dC, dI) vwCl (tyG cyI cyJ cyZ cyB cyO) [] sz (xE tO vF adK adV))) (va_Qi (fun (r : Int32) (_ : Unit) => r = out) (ux_at (dC, dI) vwCl (tyG cyI cyJ cyZ cyB cyO) [] sz (fun u : Unit => [])) (va_A [] sz)) 0 0 (va_A [] sz) := by
  refine ux_metz0 (by decide +kernel) (Nat.le_of_ble_eq_true rfl) ?_
  intro p e s m below meth c A Q ls hx hb hml hts hown hA hP hK hD hE hl hret
  have hown : s.vm.findClass RX5 = some m.cls := hown
  have hS : va_S A s.heap s.heap [] := va_S.rf
  have hl : lv_has ls 1 [(0, .int q0)] := hl
  unfold f_X5_isSign at hf
  refine lv_iload_n hx hb dX5_isSign_0 rfl (lv_at hl 0 rfl) ?_
  refine lv_if_le (tgt := 18) hx hb dX5_isSign_1 (by decide) (fun c_1 => ?_) (fun c_1 => ?_)
  · have hf := (if_pos c_1).symm.trans hf
    refine lv_iconst (v := (0 : Int32)) hx hb dX5_isSign_18 (by decide) ?_
    exact hret _ _ _ _ (0 : Int32) dX5_isSign_19 (Option.some.inj hf) rfl hP hD hS
  · have hf := (if_neg c_1).symm.trans hf
    refine va_ldcS hx hb hown (show vk_R RX5 121 ";=+-*/()" (adK 0) s from hE.2.2.2.2.1 0 (by decide)) dX5_isSign_4 ?_
    refine lv_iload_n hx hb dX5_isSign_6 rfl (lv_at hl 0 rfl) ?_
    refine lv_i2c hx hb dX5_isSign_7 rfl ?_
    obtain ⟨o_2, ho_2, hf⟩ := bd_some hf
    refine ux_Ki0 (n := 1) (As := [.int ((q0.toUInt32 % 65536).toInt32)]) (rest := []) (wc := []) (wr := []) ⟨hx, hb, hml, hown, hts⟩ hK hP hD hS hA hE [] [] (sg_h [] 0 rfl sk_z15_0 rfl) (sg_h [] 0 rfl sk_z15_0 rfl) nd_z15_0 nd_z15_0 nj_z15_0 (c_J0_indexOf_0f7a4 l dC dI cyI cyJ cyZ cyB cyO tO vF adK adV 0 (by decide) ((q0.toUInt32 % 65536).toInt32) _ _ ho_2) (vk_recv hE.2.2.2.1 (by decide) hS) wm_15_23 wm_16_0 wm_16_1 wm_13_19 wm_16_2 ⟨rfl, rfl⟩ (by decide +kernel) rfl ⟨Nat.le_of_ble_eq_true rfl, Nat.le_of_ble_eq_true rfl⟩ hl.1 rfl (Nat.le_of_ble_eq_true rfl) dX5_isSign_8 ⟨Nat.le_of_ble_eq_true rfl, Nat.le_of_ble_eq_true rfl⟩ (fun H locs hP hD hS => ?_)
    have hP : va_P (dC, dI) vwCl [] H := hP
    have hD : va_D A [] := hD
    refine lv_if_lt (tgt := 18) hx hb dX5_isSign_11 (by decide) (fun c_3 => ?_) (fun c_3 => ?_)
    · have hf := (if_pos c_3).symm.trans hf
      refine lv_iconst (v := (0 : Int32)) hx hb dX5_isSign_18 (by decide) ?_
      exact hret _ _ _ _ (0 : Int32) dX5_isSign_19 (Option.some.inj hf) rfl hP hD hS
    · have hf := (if_neg c_3).symm.trans hf
      refine lv_iconst (v := (1 : Int32)) hx hb dX5_isSign_14 (by decide) ?_
      refine lv_goto (tgt := 19) hx hb dX5_isSign_15 (by decide) ?_
      exact hret _ _ _ _ (1 : Int32) dX5_isSign_19 (Option.some.inj hf) rfl hP hD hS
def f_X5_pack_b4_st (kr : Int64 → Int32 → Option (Int64)) (si : Nat)   (x1 : Int64) (x3 : Int32) : Option (Int64) := bd (f_J0_length_8abf5 si) (fun o_1 => if o_1 ≤ x3 then (some (x1)) else (bd (f_J0_charAt_5068e si x3) (fun o_3 => nm (((x1 * (32 : Int64)) + (((o_3 - (97 : Int32)) + (1 : Int32)).toInt64))) (fun e_4 => kr e_4 (x3 + (1 : Int32))))))
def f_X5_pack_b4 (si : Nat)   : Nat → Int64 → Int32 → Option (Int64)
  | 0 => fun _ _ => none
  | n + 1 => f_X5_pack_b4_st (f_X5_pack_b4 si  n) si 
def f_X5_pack (si : Nat) : Option (Int64) := f_X5_pack_b4 si fuel (0 : Int64) (0 : Int32)
set_option maxRecDepth 100000 in
set_option maxHeartbeats 8000000 in
theorem c_X5_pack (l : Launch) (dC : Nat → ClassId) (dI : Nat → Nat → Nat) (cyI cyJ cyZ cyB cyO : ClassId) (tO : Nat) (vF : Value) (adK adV : Nat → Nat)   (si : Nat) (hsi : si < 12) (sz : Nat) (out : Int64) (hf : f_X5_pack si = some out) : Met l yX5_pack (Cond.code yX5_pack cX5_pack 4 (some .long) :: wsL_law) ({ frames := 4, cells := 0, slots := 0, locals := 85 } : Room) (va_Pc [.ref (adK si)] (ux_pre (dC, dI) vwCl (tyG cyI cyJ cyZ cyB cyO) [] sz (xE tO vF adK adV))) (va_Ql (fun (r : Int64) (_ : Unit) => r = out) (ux_at (dC, dI) vwCl (tyG cyI cyJ cyZ cyB cyO) [] sz (fun u : Unit => [])) (va_A [] sz)) 0 0 (va_A [] sz) := by
  refine ux_metl0 (by decide +kernel) (Nat.le_of_ble_eq_true rfl) ?_
  intro p e s m below meth c A Q ls hx hb hml hts hown hA hP hK hD hE hl hret
  have hown : s.vm.findClass RX5 = some m.cls := hown
  have hS : va_S A s.heap s.heap [] := va_S.rf
  have hl : lv_has ls 4 [(0, .ref (adK si))] := hl
  have hb_4 : ∀ (n : Nat) (x1 : Int64) (x3 : Int32), f_X5_pack_b4 si n x1 x3 = some out → ∀ (H : Heap) (locs : List Loc) (ls : Array Slot), va_P (dC, dI) vwCl [] H → va_D A [] → va_S A s.heap H locs → lv_has ls 4 [(0, .ref (adK si)), (1, .long x1), (3, .int x3)] → W p l e ({ frames := 4, cells := 0, slots := 0, locals := 85 } : Room) s m ([.ref (adK si)] : List Value).toArray below meth c H locs 0 0 Q (F0 m 4 ls []) := by
    intro  n
    induction n with
    | zero =>
      intro x1 x3 hf
      exact no_some hf
    | succ n ih =>
      intro x1 x3 hf H locs ls hP hD hS hl
      have hf : f_X5_pack_b4_st (f_X5_pack_b4 si  n) si  x1 x3 = some out := hf
      unfold f_X5_pack_b4_st at hf
      refine lv_iload_n hx hb dX5_pack_4 rfl (lv_at hl 2 rfl) ?_
      refine lv_aload_n hx hb dX5_pack_5 rfl (lv_at hl 0 rfl) ?_
      obtain ⟨o_1, ho_1, hf⟩ := bd_some hf
      refine ux_Ki0 (n := 0) (As := []) (rest := [.int x3]) (wc := []) (wr := []) ⟨hx, hb, hml, hown, hts⟩ hK hP hD hS hA hE [] [] (sg_h [] 0 rfl sk_z15_0 rfl) (sg_h [] 0 rfl sk_z15_0 rfl) nd_z15_0 nd_z15_0 nj_z15_0 (c_J0_length_8abf5 l dC dI cyI cyJ cyZ cyB cyO tO vF adK adV si hsi _ _ ho_1) (vk_recv hE.2.2.2.1 hsi hS) wm_13_16 wm_13_17 wm_13_18 wm_13_19 wm_13_20 ⟨rfl, rfl⟩ (by decide +kernel) rfl ⟨Nat.le_of_ble_eq_true rfl, Nat.le_of_ble_eq_true rfl⟩ hl.1 rfl (Nat.le_of_ble_eq_true rfl) dX5_pack_6 ⟨Nat.le_of_ble_eq_true rfl, Nat.le_of_ble_eq_true rfl⟩ (fun H locs hP hD hS => ?_)
      have hP : va_P (dC, dI) vwCl [] H := hP
      have hD : va_D A [] := hD
      refine lv_icmp_ge (tgt := 36) hx hb dX5_pack_9 (by decide) (fun c_2 => ?_) (fun c_2 => ?_)
      · have hf := (if_pos c_2).symm.trans hf
        refine lv_lload_n hx hb dX5_pack_36 rfl (lv_at hl 1 rfl) ?_
        exact hret _ _ _ _ x1 dX5_pack_37 (Option.some.inj hf) hP hD hS
      · have hf := (if_neg c_2).symm.trans hf
        refine lv_lload_n hx hb dX5_pack_12 rfl (lv_at hl 1 rfl) ?_
        refine lv_ldc2 (v := (32 : Int64)) hx hb hown (hts _ (List.mem_cons_of_mem _ wm_13_5)) dX5_pack_13 ?_
        refine lv_lmul hx hb dX5_pack_16 ?_
        refine lv_aload_n hx hb dX5_pack_17 rfl (lv_at hl 0 rfl) ?_
        refine lv_iload_n hx hb dX5_pack_18 rfl (lv_at hl 2 rfl) ?_
        obtain ⟨o_3, ho_3, hf⟩ := bd_some hf
        refine ux_Ki0 (n := 1) (As := [.int x3]) (rest := [.long (x1 * (32 : Int64))]) (wc := []) (wr := []) ⟨hx, hb, hml, hown, hts⟩ hK hP hD hS hA hE [] [] (sg_h [] 0 rfl sk_z15_0 rfl) (sg_h [] 0 rfl sk_z15_0 rfl) nd_z15_0 nd_z15_0 nj_z15_0 (c_J0_charAt_5068e l dC dI cyI cyJ cyZ cyB cyO tO vF adK adV si hsi x3 _ _ ho_3) (vk_recv hE.2.2.2.1 hsi hS) wm_14_4 wm_14_5 wm_14_6 wm_13_19 wm_14_7 ⟨rfl, rfl⟩ (by decide +kernel) rfl ⟨Nat.le_of_ble_eq_true rfl, Nat.le_of_ble_eq_true rfl⟩ hl.1 rfl (Nat.le_of_ble_eq_true rfl) dX5_pack_19 ⟨Nat.le_of_ble_eq_true rfl, Nat.le_of_ble_eq_true rfl⟩ (fun H locs hP hD hS => ?_)
        have hP : va_P (dC, dI) vwCl [] H := hP
        have hD : va_D A [] := hD
        refine lv_bipush (v := (97 : Int32)) hx hb dX5_pack_22 (by decide) ?_
        refine lv_isub hx hb dX5_pack_24 ?_
        refine lv_iconst (v := (1 : Int32)) hx hb dX5_pack_25 (by decide) ?_
        refine lv_iadd hx hb dX5_pack_26 ?_
        refine lv_i2l hx hb dX5_pack_27 rfl ?_
        refine lv_ladd hx hb dX5_pack_28 ?_
        obtain ⟨e_4, ee_4, hf⟩ := nm_some hf
        rw [← ee_4]
        refine lv_lstore_n (lv' := [(1, .long e_4), (0, .ref (adK si)), (3, .int x3)]) hx hb dX5_pack_29 rfl hl (by decide) rfl (fun ls hl => ?_)
        refine lv_iinc (v := x3 + (1 : Int32)) (lv' := [(3, .int (x3 + (1 : Int32))), (1, .long e_4), (0, .ref (adK si))]) hx hb dX5_pack_30 hl (k := 2) rfl rfl (by decide) rfl (fun ls hl => ?_)
        refine lv_goto (tgt := 4) hx hb dX5_pack_33 (by decide) ?_
        exact ih _ _ hf _ _ _ hP hD hS (lv_sub hl [2, 1, 0] rfl)
  unfold f_X5_pack at hf
  refine lv_lconst (v := (0 : Int64)) hx hb dX5_pack_0 (by decide) ?_
  refine lv_lstore_n (lv' := [(1, .long (0 : Int64)), (0, .ref (adK si))]) hx hb dX5_pack_1 rfl hl (by decide) rfl (fun ls hl => ?_)
  refine lv_iconst (v := (0 : Int32)) hx hb dX5_pack_2 (by decide) ?_
  refine lv_istore_n (lv' := [(3, .int (0 : Int32)), (1, .long (0 : Int64)), (0, .ref (adK si))]) hx hb dX5_pack_3 rfl hl (by decide) rfl (fun ls hl => ?_)
  exact hb_4 _ _ _ hf _ _ _ hP hD hS (lv_sub hl [2, 1, 0] rfl)
def f_X5_wordOrName (q0 : Int64) : Option (Int32) := bd (f_X5_pack 1) (fun o_1 => if (lg_cmp q0 o_1) = (0 : Int32) then (some ((5 : Int32))) else (bd (f_X5_pack 2) (fun o_3 => if (lg_cmp q0 o_3) = (0 : Int32) then (some ((6 : Int32))) else (bd (f_X5_pack 3) (fun o_5 => if (lg_cmp q0 o_5) = (0 : Int32) then (some ((7 : Int32))) else (bd (f_X5_pack 4) (fun o_7 => if (lg_cmp q0 o_7) = (0 : Int32) then (some ((8 : Int32))) else (bd (f_X5_pack 5) (fun o_9 => if (lg_cmp q0 o_9) = (0 : Int32) then (some ((9 : Int32))) else (bd (f_X5_pack 6) (fun o_11 => if (lg_cmp q0 o_11) = (0 : Int32) then (some ((10 : Int32))) else (bd (f_X5_pack 7) (fun o_13 => if (lg_cmp q0 o_13) = (0 : Int32) then (some ((11 : Int32))) else (bd (f_X5_pack 8) (fun o_15 => if (lg_cmp q0 o_15) = (0 : Int32) then (some ((12 : Int32))) else (bd (f_X5_pack 9) (fun o_17 => if (lg_cmp q0 o_17) = (0 : Int32) then (some ((13 : Int32))) else (bd (f_X5_pack 10) (fun o_19 => if (lg_cmp q0 o_19) = (0 : Int32) then (some ((14 : Int32))) else (bd (f_X5_pack 11) (fun o_21 => if (lg_cmp q0 o_21) = (0 : Int32) then (some ((15 : Int32))) else (some ((1 : Int32))))))))))))))))))))))))
set_option maxRecDepth 100000 in
set_option maxHeartbeats 8000000 in
theorem c_X5_wordOrName (l : Launch) (dC : Nat → ClassId) (dI : Nat → Nat → Nat) (cyI cyJ cyZ cyB cyO : ClassId) (tO : Nat) (vF : Value) (adK adV : Nat → Nat)   (q0 : Int64) (sz : Nat) (out : Int32) (hf : f_X5_wordOrName q0 = some out) : Met l yX5_wordOrName (Cond.code yX5_wordOrName cX5_wordOrName 2 (some .int) :: wsL_law) ({ frames := 5, cells := 0, slots := 0, locals := 108 } : Room) (va_Pc [.long q0] (ux_pre (dC, dI) vwCl (tyG cyI cyJ cyZ cyB cyO) [] sz (xE tO vF adK adV))) (va_Qi (fun (r : Int32) (_ : Unit) => r = out) (ux_at (dC, dI) vwCl (tyG cyI cyJ cyZ cyB cyO) [] sz (fun u : Unit => [])) (va_A [] sz)) 0 0 (va_A [] sz) := by
  refine ux_meti0 (by decide +kernel) (Nat.le_of_ble_eq_true rfl) ?_
  intro p e s m below meth c A Q ls hx hb hml hts hown hA hP hK hD hE hl hret
  have hown : s.vm.findClass RX5 = some m.cls := hown
  have hS : va_S A s.heap s.heap [] := va_S.rf
  have hl : lv_has ls 2 [(0, .long q0)] := hl
  unfold f_X5_wordOrName at hf
  refine lv_lload_n hx hb dX5_wordOrName_0 rfl (lv_at hl 0 rfl) ?_
  refine va_ldcS hx hb hown (show vk_R RX5 129 "cell" (adK 1) s from hE.2.2.2.2.1 1 (by decide)) dX5_wordOrName_1 ?_
  obtain ⟨o_1, ho_1, hf⟩ := bd_some hf
  refine ux_Sl0 (n := 1) (As := [.ref (adK 1)]) (rest := [.long q0]) (wc := []) (wr := []) ⟨hx, hb, hml, hown, hts⟩ hK hP hD hS hA hE [] [] (sg_h [] 0 rfl sk_z15_0 rfl) (sg_h [] 0 rfl sk_z15_0 rfl) nd_z15_0 nd_z15_0 nj_z15_0 (c_X5_pack l dC dI cyI cyJ cyZ cyB cyO tO vF adK adV 1 (by decide) _ _ ho_1) wm_13_13 wm_13_14 wm_1_18 wm_13_15 ⟨rfl, rfl⟩ (by decide +kernel) rfl ⟨Nat.le_of_ble_eq_true rfl, Nat.le_of_ble_eq_true rfl⟩ hl.1 rfl (Nat.le_of_ble_eq_true rfl) dX5_wordOrName_3 ⟨Nat.le_of_ble_eq_true rfl, Nat.le_of_ble_eq_true rfl⟩ (fun H locs hP hD hS => ?_)
  have hP : va_P (dC, dI) vwCl [] H := hP
  have hD : va_D A [] := hD
  refine W.lcmp hx hb dX5_wordOrName_6 ?_
  refine lv_if_ne (tgt := 12) hx hb dX5_wordOrName_7 (by decide) (fun c_2 => ?_) (fun c_2 => ?_)
  · have hf := (if_neg c_2).symm.trans hf
    refine lv_lload_n hx hb dX5_wordOrName_12 rfl (lv_at hl 0 rfl) ?_
    refine va_ldcS hx hb hown (show vk_R RX5 135 "pass" (adK 2) s from hE.2.2.2.2.1 2 (by decide)) dX5_wordOrName_13 ?_
    obtain ⟨o_3, ho_3, hf⟩ := bd_some hf
    refine ux_Sl0 (n := 1) (As := [.ref (adK 2)]) (rest := [.long q0]) (wc := []) (wr := []) ⟨hx, hb, hml, hown, hts⟩ hK hP hD hS hA hE [] [] (sg_h [] 0 rfl sk_z15_0 rfl) (sg_h [] 0 rfl sk_z15_0 rfl) nd_z15_0 nd_z15_0 nj_z15_0 (c_X5_pack l dC dI cyI cyJ cyZ cyB cyO tO vF adK adV 2 (by decide) _ _ ho_3) wm_13_13 wm_13_14 wm_1_18 wm_13_15 ⟨rfl, rfl⟩ (by decide +kernel) rfl ⟨Nat.le_of_ble_eq_true rfl, Nat.le_of_ble_eq_true rfl⟩ hl.1 rfl (Nat.le_of_ble_eq_true rfl) dX5_wordOrName_15 ⟨Nat.le_of_ble_eq_true rfl, Nat.le_of_ble_eq_true rfl⟩ (fun H locs hP hD hS => ?_)
    have hP : va_P (dC, dI) vwCl [] H := hP
    have hD : va_D A [] := hD
    refine W.lcmp hx hb dX5_wordOrName_18 ?_
    refine lv_if_ne (tgt := 25) hx hb dX5_wordOrName_19 (by decide) (fun c_4 => ?_) (fun c_4 => ?_)
    · have hf := (if_neg c_4).symm.trans hf
      refine lv_lload_n hx hb dX5_wordOrName_25 rfl (lv_at hl 0 rfl) ?_
      refine va_ldcS hx hb hown (show vk_R RX5 137 "river" (adK 3) s from hE.2.2.2.2.1 3 (by decide)) dX5_wordOrName_26 ?_
      obtain ⟨o_5, ho_5, hf⟩ := bd_some hf
      refine ux_Sl0 (n := 1) (As := [.ref (adK 3)]) (rest := [.long q0]) (wc := []) (wr := []) ⟨hx, hb, hml, hown, hts⟩ hK hP hD hS hA hE [] [] (sg_h [] 0 rfl sk_z15_0 rfl) (sg_h [] 0 rfl sk_z15_0 rfl) nd_z15_0 nd_z15_0 nj_z15_0 (c_X5_pack l dC dI cyI cyJ cyZ cyB cyO tO vF adK adV 3 (by decide) _ _ ho_5) wm_13_13 wm_13_14 wm_1_18 wm_13_15 ⟨rfl, rfl⟩ (by decide +kernel) rfl ⟨Nat.le_of_ble_eq_true rfl, Nat.le_of_ble_eq_true rfl⟩ hl.1 rfl (Nat.le_of_ble_eq_true rfl) dX5_wordOrName_28 ⟨Nat.le_of_ble_eq_true rfl, Nat.le_of_ble_eq_true rfl⟩ (fun H locs hP hD hS => ?_)
      have hP : va_P (dC, dI) vwCl [] H := hP
      have hD : va_D A [] := hD
      refine W.lcmp hx hb dX5_wordOrName_31 ?_
      refine lv_if_ne (tgt := 38) hx hb dX5_wordOrName_32 (by decide) (fun c_6 => ?_) (fun c_6 => ?_)
      · have hf := (if_neg c_6).symm.trans hf
        refine lv_lload_n hx hb dX5_wordOrName_38 rfl (lv_at hl 0 rfl) ?_
        refine va_ldcS hx hb hown (show vk_R RX5 139 "rain" (adK 4) s from hE.2.2.2.2.1 4 (by decide)) dX5_wordOrName_39 ?_
        obtain ⟨o_7, ho_7, hf⟩ := bd_some hf
        refine ux_Sl0 (n := 1) (As := [.ref (adK 4)]) (rest := [.long q0]) (wc := []) (wr := []) ⟨hx, hb, hml, hown, hts⟩ hK hP hD hS hA hE [] [] (sg_h [] 0 rfl sk_z15_0 rfl) (sg_h [] 0 rfl sk_z15_0 rfl) nd_z15_0 nd_z15_0 nj_z15_0 (c_X5_pack l dC dI cyI cyJ cyZ cyB cyO tO vF adK adV 4 (by decide) _ _ ho_7) wm_13_13 wm_13_14 wm_1_18 wm_13_15 ⟨rfl, rfl⟩ (by decide +kernel) rfl ⟨Nat.le_of_ble_eq_true rfl, Nat.le_of_ble_eq_true rfl⟩ hl.1 rfl (Nat.le_of_ble_eq_true rfl) dX5_wordOrName_41 ⟨Nat.le_of_ble_eq_true rfl, Nat.le_of_ble_eq_true rfl⟩ (fun H locs hP hD hS => ?_)
        have hP : va_P (dC, dI) vwCl [] H := hP
        have hD : va_D A [] := hD
        refine W.lcmp hx hb dX5_wordOrName_44 ?_
        refine lv_if_ne (tgt := 51) hx hb dX5_wordOrName_45 (by decide) (fun c_8 => ?_) (fun c_8 => ?_)
        · have hf := (if_neg c_8).symm.trans hf
          refine lv_lload_n hx hb dX5_wordOrName_51 rfl (lv_at hl 0 rfl) ?_
          refine va_ldcS hx hb hown (show vk_R RX5 141 "village" (adK 5) s from hE.2.2.2.2.1 5 (by decide)) dX5_wordOrName_52 ?_
          obtain ⟨o_9, ho_9, hf⟩ := bd_some hf
          refine ux_Sl0 (n := 1) (As := [.ref (adK 5)]) (rest := [.long q0]) (wc := []) (wr := []) ⟨hx, hb, hml, hown, hts⟩ hK hP hD hS hA hE [] [] (sg_h [] 0 rfl sk_z15_0 rfl) (sg_h [] 0 rfl sk_z15_0 rfl) nd_z15_0 nd_z15_0 nj_z15_0 (c_X5_pack l dC dI cyI cyJ cyZ cyB cyO tO vF adK adV 5 (by decide) _ _ ho_9) wm_13_13 wm_13_14 wm_1_18 wm_13_15 ⟨rfl, rfl⟩ (by decide +kernel) rfl ⟨Nat.le_of_ble_eq_true rfl, Nat.le_of_ble_eq_true rfl⟩ hl.1 rfl (Nat.le_of_ble_eq_true rfl) dX5_wordOrName_54 ⟨Nat.le_of_ble_eq_true rfl, Nat.le_of_ble_eq_true rfl⟩ (fun H locs hP hD hS => ?_)
          have hP : va_P (dC, dI) vwCl [] H := hP
          have hD : va_D A [] := hD
          refine W.lcmp hx hb dX5_wordOrName_57 ?_
          refine lv_if_ne (tgt := 64) hx hb dX5_wordOrName_58 (by decide) (fun c_10 => ?_) (fun c_10 => ?_)
          · have hf := (if_neg c_10).symm.trans hf
            refine lv_lload_n hx hb dX5_wordOrName_64 rfl (lv_at hl 0 rfl) ?_
            refine va_ldcS hx hb hown (show vk_R RX5 143 "at" (adK 6) s from hE.2.2.2.2.1 6 (by decide)) dX5_wordOrName_65 ?_
            obtain ⟨o_11, ho_11, hf⟩ := bd_some hf
            refine ux_Sl0 (n := 1) (As := [.ref (adK 6)]) (rest := [.long q0]) (wc := []) (wr := []) ⟨hx, hb, hml, hown, hts⟩ hK hP hD hS hA hE [] [] (sg_h [] 0 rfl sk_z15_0 rfl) (sg_h [] 0 rfl sk_z15_0 rfl) nd_z15_0 nd_z15_0 nj_z15_0 (c_X5_pack l dC dI cyI cyJ cyZ cyB cyO tO vF adK adV 6 (by decide) _ _ ho_11) wm_13_13 wm_13_14 wm_1_18 wm_13_15 ⟨rfl, rfl⟩ (by decide +kernel) rfl ⟨Nat.le_of_ble_eq_true rfl, Nat.le_of_ble_eq_true rfl⟩ hl.1 rfl (Nat.le_of_ble_eq_true rfl) dX5_wordOrName_67 ⟨Nat.le_of_ble_eq_true rfl, Nat.le_of_ble_eq_true rfl⟩ (fun H locs hP hD hS => ?_)
            have hP : va_P (dC, dI) vwCl [] H := hP
            have hD : va_D A [] := hD
            refine W.lcmp hx hb dX5_wordOrName_70 ?_
            refine lv_if_ne (tgt := 77) hx hb dX5_wordOrName_71 (by decide) (fun c_12 => ?_) (fun c_12 => ?_)
            · have hf := (if_neg c_12).symm.trans hf
              refine lv_lload_n hx hb dX5_wordOrName_77 rfl (lv_at hl 0 rfl) ?_
              refine va_ldcS hx hb hown (show vk_R RX5 145 "seen" (adK 7) s from hE.2.2.2.2.1 7 (by decide)) dX5_wordOrName_78 ?_
              obtain ⟨o_13, ho_13, hf⟩ := bd_some hf
              refine ux_Sl0 (n := 1) (As := [.ref (adK 7)]) (rest := [.long q0]) (wc := []) (wr := []) ⟨hx, hb, hml, hown, hts⟩ hK hP hD hS hA hE [] [] (sg_h [] 0 rfl sk_z15_0 rfl) (sg_h [] 0 rfl sk_z15_0 rfl) nd_z15_0 nd_z15_0 nj_z15_0 (c_X5_pack l dC dI cyI cyJ cyZ cyB cyO tO vF adK adV 7 (by decide) _ _ ho_13) wm_13_13 wm_13_14 wm_1_18 wm_13_15 ⟨rfl, rfl⟩ (by decide +kernel) rfl ⟨Nat.le_of_ble_eq_true rfl, Nat.le_of_ble_eq_true rfl⟩ hl.1 rfl (Nat.le_of_ble_eq_true rfl) dX5_wordOrName_80 ⟨Nat.le_of_ble_eq_true rfl, Nat.le_of_ble_eq_true rfl⟩ (fun H locs hP hD hS => ?_)
              have hP : va_P (dC, dI) vwCl [] H := hP
              have hD : va_D A [] := hD
              refine W.lcmp hx hb dX5_wordOrName_83 ?_
              refine lv_if_ne (tgt := 90) hx hb dX5_wordOrName_84 (by decide) (fun c_14 => ?_) (fun c_14 => ?_)
              · have hf := (if_neg c_14).symm.trans hf
                refine lv_lload_n hx hb dX5_wordOrName_90 rfl (lv_at hl 0 rfl) ?_
                refine va_ldcS hx hb hown (show vk_R RX5 147 "day" (adK 8) s from hE.2.2.2.2.1 8 (by decide)) dX5_wordOrName_91 ?_
                obtain ⟨o_15, ho_15, hf⟩ := bd_some hf
                refine ux_Sl0 (n := 1) (As := [.ref (adK 8)]) (rest := [.long q0]) (wc := []) (wr := []) ⟨hx, hb, hml, hown, hts⟩ hK hP hD hS hA hE [] [] (sg_h [] 0 rfl sk_z15_0 rfl) (sg_h [] 0 rfl sk_z15_0 rfl) nd_z15_0 nd_z15_0 nj_z15_0 (c_X5_pack l dC dI cyI cyJ cyZ cyB cyO tO vF adK adV 8 (by decide) _ _ ho_15) wm_13_13 wm_13_14 wm_1_18 wm_13_15 ⟨rfl, rfl⟩ (by decide +kernel) rfl ⟨Nat.le_of_ble_eq_true rfl, Nat.le_of_ble_eq_true rfl⟩ hl.1 rfl (Nat.le_of_ble_eq_true rfl) dX5_wordOrName_93 ⟨Nat.le_of_ble_eq_true rfl, Nat.le_of_ble_eq_true rfl⟩ (fun H locs hP hD hS => ?_)
                have hP : va_P (dC, dI) vwCl [] H := hP
                have hD : va_D A [] := hD
                refine W.lcmp hx hb dX5_wordOrName_96 ?_
                refine lv_if_ne (tgt := 103) hx hb dX5_wordOrName_97 (by decide) (fun c_16 => ?_) (fun c_16 => ?_)
                · have hf := (if_neg c_16).symm.trans hf
                  refine lv_lload_n hx hb dX5_wordOrName_103 rfl (lv_at hl 0 rfl) ?_
                  refine va_ldcS hx hb hown (show vk_R RX5 149 "today" (adK 9) s from hE.2.2.2.2.1 9 (by decide)) dX5_wordOrName_104 ?_
                  obtain ⟨o_17, ho_17, hf⟩ := bd_some hf
                  refine ux_Sl0 (n := 1) (As := [.ref (adK 9)]) (rest := [.long q0]) (wc := []) (wr := []) ⟨hx, hb, hml, hown, hts⟩ hK hP hD hS hA hE [] [] (sg_h [] 0 rfl sk_z15_0 rfl) (sg_h [] 0 rfl sk_z15_0 rfl) nd_z15_0 nd_z15_0 nj_z15_0 (c_X5_pack l dC dI cyI cyJ cyZ cyB cyO tO vF adK adV 9 (by decide) _ _ ho_17) wm_13_13 wm_13_14 wm_1_18 wm_13_15 ⟨rfl, rfl⟩ (by decide +kernel) rfl ⟨Nat.le_of_ble_eq_true rfl, Nat.le_of_ble_eq_true rfl⟩ hl.1 rfl (Nat.le_of_ble_eq_true rfl) dX5_wordOrName_106 ⟨Nat.le_of_ble_eq_true rfl, Nat.le_of_ble_eq_true rfl⟩ (fun H locs hP hD hS => ?_)
                  have hP : va_P (dC, dI) vwCl [] H := hP
                  have hD : va_D A [] := hD
                  refine W.lcmp hx hb dX5_wordOrName_109 ?_
                  refine lv_if_ne (tgt := 116) hx hb dX5_wordOrName_110 (by decide) (fun c_18 => ?_) (fun c_18 => ?_)
                  · have hf := (if_neg c_18).symm.trans hf
                    refine lv_lload_n hx hb dX5_wordOrName_116 rfl (lv_at hl 0 rfl) ?_
                    refine va_ldcS hx hb hown (show vk_R RX5 151 "took" (adK 10) s from hE.2.2.2.2.1 10 (by decide)) dX5_wordOrName_117 ?_
                    obtain ⟨o_19, ho_19, hf⟩ := bd_some hf
                    refine ux_Sl0 (n := 1) (As := [.ref (adK 10)]) (rest := [.long q0]) (wc := []) (wr := []) ⟨hx, hb, hml, hown, hts⟩ hK hP hD hS hA hE [] [] (sg_h [] 0 rfl sk_z15_0 rfl) (sg_h [] 0 rfl sk_z15_0 rfl) nd_z15_0 nd_z15_0 nj_z15_0 (c_X5_pack l dC dI cyI cyJ cyZ cyB cyO tO vF adK adV 10 (by decide) _ _ ho_19) wm_13_13 wm_13_14 wm_1_18 wm_13_15 ⟨rfl, rfl⟩ (by decide +kernel) rfl ⟨Nat.le_of_ble_eq_true rfl, Nat.le_of_ble_eq_true rfl⟩ hl.1 rfl (Nat.le_of_ble_eq_true rfl) dX5_wordOrName_119 ⟨Nat.le_of_ble_eq_true rfl, Nat.le_of_ble_eq_true rfl⟩ (fun H locs hP hD hS => ?_)
                    have hP : va_P (dC, dI) vwCl [] H := hP
                    have hD : va_D A [] := hD
                    refine W.lcmp hx hb dX5_wordOrName_122 ?_
                    refine lv_if_ne (tgt := 129) hx hb dX5_wordOrName_123 (by decide) (fun c_20 => ?_) (fun c_20 => ?_)
                    · have hf := (if_neg c_20).symm.trans hf
                      refine lv_lload_n hx hb dX5_wordOrName_129 rfl (lv_at hl 0 rfl) ?_
                      refine va_ldcS hx hb hown (show vk_R RX5 153 "dry" (adK 11) s from hE.2.2.2.2.1 11 (by decide)) dX5_wordOrName_130 ?_
                      obtain ⟨o_21, ho_21, hf⟩ := bd_some hf
                      refine ux_Sl0 (n := 1) (As := [.ref (adK 11)]) (rest := [.long q0]) (wc := []) (wr := []) ⟨hx, hb, hml, hown, hts⟩ hK hP hD hS hA hE [] [] (sg_h [] 0 rfl sk_z15_0 rfl) (sg_h [] 0 rfl sk_z15_0 rfl) nd_z15_0 nd_z15_0 nj_z15_0 (c_X5_pack l dC dI cyI cyJ cyZ cyB cyO tO vF adK adV 11 (by decide) _ _ ho_21) wm_13_13 wm_13_14 wm_1_18 wm_13_15 ⟨rfl, rfl⟩ (by decide +kernel) rfl ⟨Nat.le_of_ble_eq_true rfl, Nat.le_of_ble_eq_true rfl⟩ hl.1 rfl (Nat.le_of_ble_eq_true rfl) dX5_wordOrName_132 ⟨Nat.le_of_ble_eq_true rfl, Nat.le_of_ble_eq_true rfl⟩ (fun H locs hP hD hS => ?_)
                      have hP : va_P (dC, dI) vwCl [] H := hP
                      have hD : va_D A [] := hD
                      refine W.lcmp hx hb dX5_wordOrName_135 ?_
                      refine lv_if_ne (tgt := 142) hx hb dX5_wordOrName_136 (by decide) (fun c_22 => ?_) (fun c_22 => ?_)
                      · have hf := (if_neg c_22).symm.trans hf
                        refine lv_iconst (v := (1 : Int32)) hx hb dX5_wordOrName_142 (by decide) ?_
                        exact hret _ _ _ _ (1 : Int32) dX5_wordOrName_143 (Option.some.inj hf) hP hD hS
                      · have hf := (if_pos c_22).symm.trans hf
                        refine lv_bipush (v := (15 : Int32)) hx hb dX5_wordOrName_139 (by decide) ?_
                        exact hret _ _ _ _ (15 : Int32) dX5_wordOrName_141 (Option.some.inj hf) hP hD hS
                    · have hf := (if_pos c_20).symm.trans hf
                      refine lv_bipush (v := (14 : Int32)) hx hb dX5_wordOrName_126 (by decide) ?_
                      exact hret _ _ _ _ (14 : Int32) dX5_wordOrName_128 (Option.some.inj hf) hP hD hS
                  · have hf := (if_pos c_18).symm.trans hf
                    refine lv_bipush (v := (13 : Int32)) hx hb dX5_wordOrName_113 (by decide) ?_
                    exact hret _ _ _ _ (13 : Int32) dX5_wordOrName_115 (Option.some.inj hf) hP hD hS
                · have hf := (if_pos c_16).symm.trans hf
                  refine lv_bipush (v := (12 : Int32)) hx hb dX5_wordOrName_100 (by decide) ?_
                  exact hret _ _ _ _ (12 : Int32) dX5_wordOrName_102 (Option.some.inj hf) hP hD hS
              · have hf := (if_pos c_14).symm.trans hf
                refine lv_bipush (v := (11 : Int32)) hx hb dX5_wordOrName_87 (by decide) ?_
                exact hret _ _ _ _ (11 : Int32) dX5_wordOrName_89 (Option.some.inj hf) hP hD hS
            · have hf := (if_pos c_12).symm.trans hf
              refine lv_bipush (v := (10 : Int32)) hx hb dX5_wordOrName_74 (by decide) ?_
              exact hret _ _ _ _ (10 : Int32) dX5_wordOrName_76 (Option.some.inj hf) hP hD hS
          · have hf := (if_pos c_10).symm.trans hf
            refine lv_bipush (v := (9 : Int32)) hx hb dX5_wordOrName_61 (by decide) ?_
            exact hret _ _ _ _ (9 : Int32) dX5_wordOrName_63 (Option.some.inj hf) hP hD hS
        · have hf := (if_pos c_8).symm.trans hf
          refine lv_bipush (v := (8 : Int32)) hx hb dX5_wordOrName_48 (by decide) ?_
          exact hret _ _ _ _ (8 : Int32) dX5_wordOrName_50 (Option.some.inj hf) hP hD hS
      · have hf := (if_pos c_6).symm.trans hf
        refine lv_bipush (v := (7 : Int32)) hx hb dX5_wordOrName_35 (by decide) ?_
        exact hret _ _ _ _ (7 : Int32) dX5_wordOrName_37 (Option.some.inj hf) hP hD hS
    · have hf := (if_pos c_4).symm.trans hf
      refine lv_bipush (v := (6 : Int32)) hx hb dX5_wordOrName_22 (by decide) ?_
      exact hret _ _ _ _ (6 : Int32) dX5_wordOrName_24 (Option.some.inj hf) hP hD hS
  · have hf := (if_pos c_2).symm.trans hf
    refine lv_iconst (v := (5 : Int32)) hx hb dX5_wordOrName_10 (by decide) ?_
    exact hret _ _ _ _ (5 : Int32) dX5_wordOrName_11 (Option.some.inj hf) hP hD hS
def f_X5_scanToken_b193   (v_r_kind : (Nat → Int32)) (v_r_value : (Nat → Int64)) (x1 : Int32) (x5 : Int32) (x6 : Int64) : Option (Int32 × (Nat → Int32) × (Nat → Int64)) := ck (inb x1 403) (nm (vp_updL v_r_value x1.toNatClampNeg x6) (fun a_2 => some (x5, v_r_kind, a_2)))
def f_X5_scanToken_b143   (v_r_kind : (Nat → Int32)) (v_r_value : (Nat → Int64)) (x1 : Int32) (x4 : Int32) (x5 : Int32) (x6 : Int64) : Option (Int32 × (Nat → Int32) × (Nat → Int64)) := if (x5 - x4) ≤ (4 : Int32) then (ck (inb x1 403) (nm (upd v_r_kind x1.toNatClampNeg (2 : Int32)) (fun a_3 => f_X5_scanToken_b193 a_3 v_r_value x1 x5 x6))) else (ck (inb x1 403) (nm (upd v_r_kind x1.toNatClampNeg (4 : Int32)) (fun a_5 => f_X5_scanToken_b193 a_5 v_r_value x1 x5 x6)))
def f_X5_scanToken_b104_st (kr : (Nat → Int32) → (Nat → Int64) → Int32 → Int32 → Int32 → Int32 → Int64 → Option (Int32 × (Nat → Int32) × (Nat → Int64)))  (v_tp_0 : (Nat → Int32)) (v_r_kind : (Nat → Int32)) (v_r_value : (Nat → Int64)) (x1 : Int32) (x3 : Int32) (x4 : Int32) (x5 : Int32) (x6 : Int64) : Option (Int32 × (Nat → Int32) × (Nat → Int64)) := if x3 ≤ x5 then (f_X5_scanToken_b143 v_r_kind v_r_value x1 x4 x5 x6) else (ck (inb x5 2000) (bd (f_X5_isDigit (v_tp_0 x5.toNatClampNeg)) (fun o_3 => if o_3 = (0 : Int32) then (f_X5_scanToken_b143 v_r_kind v_r_value x1 x4 x5 x6) else (ck (inb x5 2000) (nm (((x6 * (10 : Int64)) + (((v_tp_0 x5.toNatClampNeg) - (48 : Int32)).toInt64))) (fun e_6 => kr v_r_kind v_r_value x1 x3 x4 (x5 + (1 : Int32)) e_6))))))
def f_X5_scanToken_b104  (v_tp_0 : (Nat → Int32)) : Nat → (Nat → Int32) → (Nat → Int64) → Int32 → Int32 → Int32 → Int32 → Int64 → Option (Int32 × (Nat → Int32) × (Nat → Int64))
  | 0 => fun _ _ _ _ _ _ _ => none
  | n + 1 => f_X5_scanToken_b104_st (f_X5_scanToken_b104 v_tp_0 n) v_tp_0
def f_X5_scanToken_b66   (v_r_kind : (Nat → Int32)) (v_r_value : (Nat → Int64)) (x1 : Int32) (x4 : Int32) (x5 : Int32) (x6 : Int64) : Option (Int32 × (Nat → Int32) × (Nat → Int64)) := if (x5 - x4) ≤ (8 : Int32) then (bd (f_X5_wordOrName x6) (fun o_2 => ck (inb x1 403) (nm (upd v_r_kind x1.toNatClampNeg o_2) (fun a_4 => f_X5_scanToken_b193 a_4 v_r_value x1 x5 x6)))) else (ck (inb x1 403) (nm (upd v_r_kind x1.toNatClampNeg (4 : Int32)) (fun a_6 => f_X5_scanToken_b193 a_6 v_r_value x1 x5 x6)))
def f_X5_scanToken_b25_st (kr : (Nat → Int32) → (Nat → Int64) → Int32 → Int32 → Int32 → Int32 → Int64 → Option (Int32 × (Nat → Int32) × (Nat → Int64)))  (v_tp_0 : (Nat → Int32)) (v_r_kind : (Nat → Int32)) (v_r_value : (Nat → Int64)) (x1 : Int32) (x3 : Int32) (x4 : Int32) (x5 : Int32) (x6 : Int64) : Option (Int32 × (Nat → Int32) × (Nat → Int64)) := if x3 ≤ x5 then (f_X5_scanToken_b66 v_r_kind v_r_value x1 x4 x5 x6) else (ck (inb x5 2000) (bd (f_X5_isLetter (v_tp_0 x5.toNatClampNeg)) (fun o_3 => if o_3 = (0 : Int32) then (f_X5_scanToken_b66 v_r_kind v_r_value x1 x4 x5 x6) else (ck (inb x5 2000) (nm (((x6 * (32 : Int64)) + ((((v_tp_0 x5.toNatClampNeg) - (97 : Int32)) + (1 : Int32)).toInt64))) (fun e_6 => kr v_r_kind v_r_value x1 x3 x4 (x5 + (1 : Int32)) e_6))))))
def f_X5_scanToken_b25  (v_tp_0 : (Nat → Int32)) : Nat → (Nat → Int32) → (Nat → Int64) → Int32 → Int32 → Int32 → Int32 → Int64 → Option (Int32 × (Nat → Int32) × (Nat → Int64))
  | 0 => fun _ _ _ _ _ _ _ => none
  | n + 1 => f_X5_scanToken_b25_st (f_X5_scanToken_b25 v_tp_0 n) v_tp_0
def f_X5_scanToken (v_r_start : (Nat → Int32)) (v_tp_0 : (Nat → Int32)) (v_r_kind : (Nat → Int32)) (v_r_value : (Nat → Int64)) (q1 : Int32) (q3 : Int32) : Option (Int32 × (Nat → Int32) × (Nat → Int64)) := ck (inb q1 403) (ck (inb (v_r_start q1.toNatClampNeg) 2000) (bd (f_X5_isLetter (v_tp_0 (v_r_start q1.toNatClampNeg).toNatClampNeg)) (fun o_3 => if o_3 = (0 : Int32) then (ck (inb (v_r_start q1.toNatClampNeg) 2000) (bd (f_X5_isDigit (v_tp_0 (v_r_start q1.toNatClampNeg).toNatClampNeg)) (fun o_6 => if o_6 = (0 : Int32) then (ck (inb (v_r_start q1.toNatClampNeg) 2000) (bd (f_X5_isSign (v_tp_0 (v_r_start q1.toNatClampNeg).toNatClampNeg)) (fun o_9 => if o_9 = (0 : Int32) then (ck (inb q1 403) (nm (upd v_r_kind q1.toNatClampNeg (4 : Int32)) (fun a_12 => f_X5_scanToken_b193 a_12 v_r_value q1 ((v_r_start q1.toNatClampNeg) + (1 : Int32)) (0 : Int64)))) else (ck (inb (v_r_start q1.toNatClampNeg) 2000) (ck (inb q1 403) (nm (upd v_r_kind q1.toNatClampNeg (v_tp_0 (v_r_start q1.toNatClampNeg).toNatClampNeg)) (fun a_15 => f_X5_scanToken_b193 a_15 v_r_value q1 ((v_r_start q1.toNatClampNeg) + (1 : Int32)) (0 : Int64)))))))) else (f_X5_scanToken_b104 v_tp_0 fuel v_r_kind v_r_value q1 q3 (v_r_start q1.toNatClampNeg) (v_r_start q1.toNatClampNeg) (0 : Int64))))) else (f_X5_scanToken_b25 v_tp_0 fuel v_r_kind v_r_value q1 q3 (v_r_start q1.toNatClampNeg) (v_r_start q1.toNatClampNeg) (0 : Int64)))))
set_option maxRecDepth 100000 in
set_option maxHeartbeats 8000000 in
theorem c_X5_scanToken (l : Launch) (dC : Nat → ClassId) (dI : Nat → Nat → Nat) (cyI cyJ cyZ cyB cyO : ClassId) (tO : Nat) (vF : Value) (adK adV : Nat → Nat) (h_r : Nat) (m_r : Nat → Nat) (h_g : Nat) (m_g : Nat → Nat) (m_tp : Nat → Nat) (v_r_next : Int32) (v_r_codeLength : Int32) (v_r_ownCell : Int32) (v_r_stopped : Int32) (v_r_fault : Int32) (v_r_faultPlace : Int32) (v_r_laterFault : Int32) (v_r_laterPlace : Int32) (v_r_kind : (Nat → Int32)) (v_r_start : (Nat → Int32)) (v_r_value : (Nat → Int64)) (v_tp_0 : (Nat → Int32)) (q1 : Int32) (q3 : Int32) (sz : Nat) (out : Int32 × (Nat → Int32) × (Nat → Int64)) (hf : f_X5_scanToken v_r_start v_tp_0 v_r_kind v_r_value q1 q3 = some out) : Met l yX5_scanToken (Cond.code yX5_scanToken cX5_scanToken 8 (some .int) :: wsL_law) ({ frames := 6, cells := 0, slots := 0, locals := 129 } : Room) (va_Pc [.ref h_r, .int q1, .ref (m_tp 0), .int q3] (ux_pre (dC, dI) vwCl (tyG cyI cyJ cyZ cyB cyO) [(h_r, .inr (5, oX5 m_r h_g v_r_next v_r_codeLength v_r_ownCell v_r_stopped v_r_fault v_r_faultPlace v_r_laterFault v_r_laterPlace)), (m_r 0, .inl (cyI, 403, .inl v_r_kind)), (m_r 1, .inl (cyI, 403, .inl v_r_start)), (m_r 2, .inl (cyJ, 403, .inr (.inl v_r_value))), (m_tp 0, .inl (cyB, 2000, .inl v_tp_0))] sz (xE tO vF adK adV))) (va_Qi (fun (r : Int32) (u : (Nat → Int32) × (Nat → Int64)) => (r, u) = out) (ux_at (dC, dI) vwCl (tyG cyI cyJ cyZ cyB cyO) [(h_r, .inr (5, oX5 m_r h_g v_r_next v_r_codeLength v_r_ownCell v_r_stopped v_r_fault v_r_faultPlace v_r_laterFault v_r_laterPlace)), (m_r 0, .inl (cyI, 403, .inl v_r_kind)), (m_r 1, .inl (cyI, 403, .inl v_r_start)), (m_r 2, .inl (cyJ, 403, .inr (.inl v_r_value))), (m_tp 0, .inl (cyB, 2000, .inl v_tp_0))] sz (fun u : (Nat → Int32) × (Nat → Int64) => [(h_r, .inr (5, oX5 m_r h_g v_r_next v_r_codeLength v_r_ownCell v_r_stopped v_r_fault v_r_faultPlace v_r_laterFault v_r_laterPlace)), (m_r 0, .inl (cyI, 403, .inl u.1)), (m_r 1, .inl (cyI, 403, .inl v_r_start)), (m_r 2, .inl (cyJ, 403, .inr (.inl u.2))), (m_tp 0, .inl (cyB, 2000, .inl v_tp_0))])) (va_A [(h_r, .inr (5, oX5 m_r h_g v_r_next v_r_codeLength v_r_ownCell v_r_stopped v_r_fault v_r_faultPlace v_r_laterFault v_r_laterPlace)), (m_r 0, .inl (cyI, 403, .inl v_r_kind)), (m_r 1, .inl (cyI, 403, .inl v_r_start)), (m_r 2, .inl (cyJ, 403, .inr (.inl v_r_value))), (m_tp 0, .inl (cyB, 2000, .inl v_tp_0))] sz)) 0 0 (va_A [(h_r, .inr (5, oX5 m_r h_g v_r_next v_r_codeLength v_r_ownCell v_r_stopped v_r_fault v_r_faultPlace v_r_laterFault v_r_laterPlace)), (m_r 0, .inl (cyI, 403, .inl v_r_kind)), (m_r 1, .inl (cyI, 403, .inl v_r_start)), (m_r 2, .inl (cyJ, 403, .inr (.inl v_r_value))), (m_tp 0, .inl (cyB, 2000, .inl v_tp_0))] sz) := by
  refine ux_meti (by decide +kernel) (Nat.le_of_ble_eq_true rfl) ?_
  intro p e s m below meth c A Q ls hx hb hml hts hown hA hP hK hD hE hl hret
  have hown : s.vm.findClass RX5 = some m.cls := hown
  have hS : va_S A s.heap s.heap [] := va_S.rf
  have hl : lv_has ls 8 [(0, .ref h_r), (1, .int q1), (2, .ref (m_tp 0)), (3, .int q3)] := hl
  have hb_193 : ∀ (v_r_kind : (Nat → Int32)) (v_r_value : (Nat → Int64)) (x1 : Int32) (x5 : Int32) (x6 : Int64), f_X5_scanToken_b193 v_r_kind v_r_value x1 x5 x6 = some out → ∀ (H : Heap) (locs : List Loc) (ls : Array Slot), va_P (dC, dI) vwCl [(h_r, .inr (5, oX5 m_r h_g v_r_next v_r_codeLength v_r_ownCell v_r_stopped v_r_fault v_r_faultPlace v_r_laterFault v_r_laterPlace)), (m_r 0, .inl (cyI, 403, .inl v_r_kind)), (m_r 1, .inl (cyI, 403, .inl v_r_start)), (m_r 2, .inl (cyJ, 403, .inr (.inl v_r_value))), (m_tp 0, .inl (cyB, 2000, .inl v_tp_0))] H → va_D A [(h_r, .inr (5, oX5 m_r h_g v_r_next v_r_codeLength v_r_ownCell v_r_stopped v_r_fault v_r_faultPlace v_r_laterFault v_r_laterPlace)), (m_r 0, .inl (cyI, 403, .inl v_r_kind)), (m_r 1, .inl (cyI, 403, .inl v_r_start)), (m_r 2, .inl (cyJ, 403, .inr (.inl v_r_value))), (m_tp 0, .inl (cyB, 2000, .inl v_tp_0))] → va_S A s.heap H locs → lv_has ls 8 [(0, .ref h_r), (1, .int x1), (5, .int x5), (6, .long x6)] → W p l e ({ frames := 6, cells := 0, slots := 0, locals := 129 } : Room) s m ([.ref h_r, .int q1, .ref (m_tp 0), .int q3] : List Value).toArray below meth c H locs 0 0 Q (F0 m 193 ls []) := by
    intro  v_r_kind v_r_value x1 x5 x6 hf H locs ls hP hD hS hl
    unfold f_X5_scanToken_b193 at hf
    refine lv_aload_n hx hb dX5_scanToken_193 rfl (lv_at hl 0 rfl) ?_
    refine va_get (D := (dC, dI)) (ci := 5) (v := .ref (m_r 2)) (C := RX5) (T := TX5) (N := 14) hx hb hts (g_c inlX5) hown hK hP 0 rfl rfl 2 (by decide) (hts _ (List.mem_cons_of_mem _ wm_3_3)) (fun _ h9 => h9) rfl dX5_scanToken_194 ?_
    refine lv_iload_n hx hb dX5_scanToken_197 rfl (lv_at hl 1 rfl) ?_
    refine lv_lload hx hb dX5_scanToken_198 (lv_at hl 3 rfl) ?_
    obtain ⟨h_1, hf⟩ := ck_some hf
    obtain ⟨a_2, ea_2, hf⟩ := nm_some hf
    refine va_last hx hb hK hP hD hS 3 1 rfl rfl (inb_in h_1) dX5_scanToken_200 (fun H locs hP hD hS => ?_)
    have hP : va_P (dC, dI) vwCl [(h_r, .inr (5, oX5 m_r h_g v_r_next v_r_codeLength v_r_ownCell v_r_stopped v_r_fault v_r_faultPlace v_r_laterFault v_r_laterPlace)), (m_r 0, .inl (cyI, 403, .inl v_r_kind)), (m_r 1, .inl (cyI, 403, .inl v_r_start)), (m_r 2, .inl (cyJ, 403, .inr (.inl a_2))), (m_tp 0, .inl (cyB, 2000, .inl v_tp_0))] H := by rw [ea_2]; exact hP
    have hD : va_D A [(h_r, .inr (5, oX5 m_r h_g v_r_next v_r_codeLength v_r_ownCell v_r_stopped v_r_fault v_r_faultPlace v_r_laterFault v_r_laterPlace)), (m_r 0, .inl (cyI, 403, .inl v_r_kind)), (m_r 1, .inl (cyI, 403, .inl v_r_start)), (m_r 2, .inl (cyJ, 403, .inr (.inl a_2))), (m_tp 0, .inl (cyB, 2000, .inl v_tp_0))] := by rw [ea_2]; exact hD
    refine lv_iload hx hb dX5_scanToken_201 (lv_at hl 2 rfl) ?_
    exact hret _ _ _ _ x5 (v_r_kind, a_2) dX5_scanToken_203 (Option.some.inj hf) hP hD hS
  have hb_143 : ∀ (v_r_kind : (Nat → Int32)) (v_r_value : (Nat → Int64)) (x1 : Int32) (x4 : Int32) (x5 : Int32) (x6 : Int64), f_X5_scanToken_b143 v_r_kind v_r_value x1 x4 x5 x6 = some out → ∀ (H : Heap) (locs : List Loc) (ls : Array Slot), va_P (dC, dI) vwCl [(h_r, .inr (5, oX5 m_r h_g v_r_next v_r_codeLength v_r_ownCell v_r_stopped v_r_fault v_r_faultPlace v_r_laterFault v_r_laterPlace)), (m_r 0, .inl (cyI, 403, .inl v_r_kind)), (m_r 1, .inl (cyI, 403, .inl v_r_start)), (m_r 2, .inl (cyJ, 403, .inr (.inl v_r_value))), (m_tp 0, .inl (cyB, 2000, .inl v_tp_0))] H → va_D A [(h_r, .inr (5, oX5 m_r h_g v_r_next v_r_codeLength v_r_ownCell v_r_stopped v_r_fault v_r_faultPlace v_r_laterFault v_r_laterPlace)), (m_r 0, .inl (cyI, 403, .inl v_r_kind)), (m_r 1, .inl (cyI, 403, .inl v_r_start)), (m_r 2, .inl (cyJ, 403, .inr (.inl v_r_value))), (m_tp 0, .inl (cyB, 2000, .inl v_tp_0))] → va_S A s.heap H locs → lv_has ls 8 [(0, .ref h_r), (1, .int x1), (4, .int x4), (5, .int x5), (6, .long x6)] → W p l e ({ frames := 6, cells := 0, slots := 0, locals := 129 } : Room) s m ([.ref h_r, .int q1, .ref (m_tp 0), .int q3] : List Value).toArray below meth c H locs 0 0 Q (F0 m 143 ls []) := by
    intro  v_r_kind v_r_value x1 x4 x5 x6 hf H locs ls hP hD hS hl
    unfold f_X5_scanToken_b143 at hf
    refine lv_aload_n hx hb dX5_scanToken_143 rfl (lv_at hl 0 rfl) ?_
    refine va_get (D := (dC, dI)) (ci := 5) (v := .ref (m_r 0)) (C := RX5) (T := TX5) (N := 14) hx hb hts (g_c inlX5) hown hK hP 0 rfl rfl 0 (by decide) (hts _ (List.mem_cons_of_mem _ wm_3_0)) (fun _ h9 => h9) rfl dX5_scanToken_144 ?_
    refine lv_iload_n hx hb dX5_scanToken_147 rfl (lv_at hl 1 rfl) ?_
    refine lv_iload hx hb dX5_scanToken_148 (lv_at hl 3 rfl) ?_
    refine lv_iload hx hb dX5_scanToken_150 (lv_at hl 2 rfl) ?_
    refine lv_isub hx hb dX5_scanToken_152 ?_
    refine lv_iconst (v := (4 : Int32)) hx hb dX5_scanToken_153 (by decide) ?_
    refine lv_icmp_le (tgt := 161) hx hb dX5_scanToken_154 (by decide) (fun c_1 => ?_) (fun c_1 => ?_)
    · have hf := (if_pos c_1).symm.trans hf
      refine lv_iconst (v := (2 : Int32)) hx hb dX5_scanToken_161 (by decide) ?_
      obtain ⟨h_2, hf⟩ := ck_some hf
      obtain ⟨a_3, ea_3, hf⟩ := nm_some hf
      refine va_iast hx hb hK hP hD hS 1 0 rfl rfl (inb_in h_2) dX5_scanToken_162 (fun H locs hP hD hS => ?_)
      have hP : va_P (dC, dI) vwCl [(h_r, .inr (5, oX5 m_r h_g v_r_next v_r_codeLength v_r_ownCell v_r_stopped v_r_fault v_r_faultPlace v_r_laterFault v_r_laterPlace)), (m_r 0, .inl (cyI, 403, .inl a_3)), (m_r 1, .inl (cyI, 403, .inl v_r_start)), (m_r 2, .inl (cyJ, 403, .inr (.inl v_r_value))), (m_tp 0, .inl (cyB, 2000, .inl v_tp_0))] H := by rw [ea_3]; exact hP
      have hD : va_D A [(h_r, .inr (5, oX5 m_r h_g v_r_next v_r_codeLength v_r_ownCell v_r_stopped v_r_fault v_r_faultPlace v_r_laterFault v_r_laterPlace)), (m_r 0, .inl (cyI, 403, .inl a_3)), (m_r 1, .inl (cyI, 403, .inl v_r_start)), (m_r 2, .inl (cyJ, 403, .inr (.inl v_r_value))), (m_tp 0, .inl (cyB, 2000, .inl v_tp_0))] := by rw [ea_3]; exact hD
      refine lv_goto (tgt := 193) hx hb dX5_scanToken_163 (by decide) ?_
      exact hb_193 _ _ _ _ _ hf _ _ _ hP hD hS (lv_sub hl [0, 1, 3, 4] rfl)
    · have hf := (if_neg c_1).symm.trans hf
      refine lv_iconst (v := (4 : Int32)) hx hb dX5_scanToken_157 (by decide) ?_
      refine lv_goto (tgt := 162) hx hb dX5_scanToken_158 (by decide) ?_
      obtain ⟨h_4, hf⟩ := ck_some hf
      obtain ⟨a_5, ea_5, hf⟩ := nm_some hf
      refine va_iast hx hb hK hP hD hS 1 0 rfl rfl (inb_in h_4) dX5_scanToken_162 (fun H locs hP hD hS => ?_)
      have hP : va_P (dC, dI) vwCl [(h_r, .inr (5, oX5 m_r h_g v_r_next v_r_codeLength v_r_ownCell v_r_stopped v_r_fault v_r_faultPlace v_r_laterFault v_r_laterPlace)), (m_r 0, .inl (cyI, 403, .inl a_5)), (m_r 1, .inl (cyI, 403, .inl v_r_start)), (m_r 2, .inl (cyJ, 403, .inr (.inl v_r_value))), (m_tp 0, .inl (cyB, 2000, .inl v_tp_0))] H := by rw [ea_5]; exact hP
      have hD : va_D A [(h_r, .inr (5, oX5 m_r h_g v_r_next v_r_codeLength v_r_ownCell v_r_stopped v_r_fault v_r_faultPlace v_r_laterFault v_r_laterPlace)), (m_r 0, .inl (cyI, 403, .inl a_5)), (m_r 1, .inl (cyI, 403, .inl v_r_start)), (m_r 2, .inl (cyJ, 403, .inr (.inl v_r_value))), (m_tp 0, .inl (cyB, 2000, .inl v_tp_0))] := by rw [ea_5]; exact hD
      refine lv_goto (tgt := 193) hx hb dX5_scanToken_163 (by decide) ?_
      exact hb_193 _ _ _ _ _ hf _ _ _ hP hD hS (lv_sub hl [0, 1, 3, 4] rfl)
  have hb_104 : ∀ (n : Nat) (v_r_kind : (Nat → Int32)) (v_r_value : (Nat → Int64)) (x1 : Int32) (x3 : Int32) (x4 : Int32) (x5 : Int32) (x6 : Int64), f_X5_scanToken_b104 v_tp_0 n v_r_kind v_r_value x1 x3 x4 x5 x6 = some out → ∀ (H : Heap) (locs : List Loc) (ls : Array Slot), va_P (dC, dI) vwCl [(h_r, .inr (5, oX5 m_r h_g v_r_next v_r_codeLength v_r_ownCell v_r_stopped v_r_fault v_r_faultPlace v_r_laterFault v_r_laterPlace)), (m_r 0, .inl (cyI, 403, .inl v_r_kind)), (m_r 1, .inl (cyI, 403, .inl v_r_start)), (m_r 2, .inl (cyJ, 403, .inr (.inl v_r_value))), (m_tp 0, .inl (cyB, 2000, .inl v_tp_0))] H → va_D A [(h_r, .inr (5, oX5 m_r h_g v_r_next v_r_codeLength v_r_ownCell v_r_stopped v_r_fault v_r_faultPlace v_r_laterFault v_r_laterPlace)), (m_r 0, .inl (cyI, 403, .inl v_r_kind)), (m_r 1, .inl (cyI, 403, .inl v_r_start)), (m_r 2, .inl (cyJ, 403, .inr (.inl v_r_value))), (m_tp 0, .inl (cyB, 2000, .inl v_tp_0))] → va_S A s.heap H locs → lv_has ls 8 [(0, .ref h_r), (1, .int x1), (2, .ref (m_tp 0)), (3, .int x3), (4, .int x4), (5, .int x5), (6, .long x6)] → W p l e ({ frames := 6, cells := 0, slots := 0, locals := 129 } : Room) s m ([.ref h_r, .int q1, .ref (m_tp 0), .int q3] : List Value).toArray below meth c H locs 0 0 Q (F0 m 104 ls []) := by
    intro  n
    induction n with
    | zero =>
      intro v_r_kind v_r_value x1 x3 x4 x5 x6 hf
      exact no_some hf
    | succ n ih =>
      intro v_r_kind v_r_value x1 x3 x4 x5 x6 hf H locs ls hP hD hS hl
      have hf : f_X5_scanToken_b104_st (f_X5_scanToken_b104 v_tp_0 n) v_tp_0 v_r_kind v_r_value x1 x3 x4 x5 x6 = some out := hf
      unfold f_X5_scanToken_b104_st at hf
      refine lv_iload hx hb dX5_scanToken_104 (lv_at hl 5 rfl) ?_
      refine lv_iload_n hx hb dX5_scanToken_106 rfl (lv_at hl 3 rfl) ?_
      refine lv_icmp_ge (tgt := 143) hx hb dX5_scanToken_107 (by decide) (fun c_1 => ?_) (fun c_1 => ?_)
      · have hf := (if_pos c_1).symm.trans hf
        exact hb_143 _ _ _ _ _ _ hf _ _ _ hP hD hS (lv_sub hl [0, 1, 4, 5, 6] rfl)
      · have hf := (if_neg c_1).symm.trans hf
        refine lv_aload_n hx hb dX5_scanToken_110 rfl (lv_at hl 2 rfl) ?_
        refine lv_iload hx hb dX5_scanToken_111 (lv_at hl 5 rfl) ?_
        obtain ⟨h_2, hf⟩ := ck_some hf
        refine va_bald hx hb hK hP 4 3 rfl rfl (inb_in h_2) dX5_scanToken_113 ?_
        obtain ⟨o_3, ho_3, hf⟩ := bd_some hf
        refine ux_Si0 (n := 1) (As := [.int (v_tp_0 x5.toNatClampNeg)]) (rest := []) (wc := []) (wr := [_, _, _, _, _]) ⟨hx, hb, hml, hown, hts⟩ hK hP hD hS hA hE [] [0, 1, 2, 3, 4] (sg_h [] 5 rfl sk_z15_1 rfl) (sg_h [(0, 5)] 5 rfl sk_z15_2 rfl) nd_z15_0 nd_z15_1 nj_z15_1 (c_X5_isDigit l dC dI cyI cyJ cyZ cyB cyO tO vF adK adV (v_tp_0 x5.toNatClampNeg) _ _ ho_3) wm_15_17 wm_15_18 wm_1_18 wm_15_19 ⟨rfl, rfl⟩ (by decide +kernel) rfl ⟨Nat.le_of_ble_eq_true rfl, Nat.le_of_ble_eq_true rfl⟩ hl.1 rfl (Nat.le_of_ble_eq_true rfl) dX5_scanToken_114 ⟨Nat.le_of_ble_eq_true rfl, Nat.le_of_ble_eq_true rfl⟩ (fun H locs hP hD hS => ?_)
        have hP : va_P (dC, dI) vwCl [_, _, _, _, _] H := hP
        have hD : va_D A [_, _, _, _, _] := hD
        refine lv_if_eq (tgt := 143) hx hb dX5_scanToken_117 (by decide) (fun c_4 => ?_) (fun c_4 => ?_)
        · have hf := (if_pos c_4).symm.trans hf
          exact hb_143 _ _ _ _ _ _ hf _ _ _ hP hD hS (lv_sub hl [0, 1, 4, 5, 6] rfl)
        · have hf := (if_neg c_4).symm.trans hf
          refine lv_lload hx hb dX5_scanToken_120 (lv_at hl 6 rfl) ?_
          refine lv_ldc2 (v := (10 : Int64)) hx hb hown (hts _ (List.mem_cons_of_mem _ wm_13_6)) dX5_scanToken_122 ?_
          refine lv_lmul hx hb dX5_scanToken_125 ?_
          refine lv_aload_n hx hb dX5_scanToken_126 rfl (lv_at hl 2 rfl) ?_
          refine lv_iload hx hb dX5_scanToken_127 (lv_at hl 5 rfl) ?_
          obtain ⟨h_5, hf⟩ := ck_some hf
          refine va_bald hx hb hK hP 4 3 rfl rfl (inb_in h_5) dX5_scanToken_129 ?_
          refine lv_bipush (v := (48 : Int32)) hx hb dX5_scanToken_130 (by decide) ?_
          refine lv_isub hx hb dX5_scanToken_132 ?_
          refine lv_i2l hx hb dX5_scanToken_133 rfl ?_
          refine lv_ladd hx hb dX5_scanToken_134 ?_
          obtain ⟨e_6, ee_6, hf⟩ := nm_some hf
          rw [← ee_6]
          refine lv_lstore (lv' := [(6, .long e_6), (0, .ref h_r), (1, .int x1), (2, .ref (m_tp 0)), (3, .int x3), (4, .int x4), (5, .int x5)]) hx hb dX5_scanToken_135 hl (by decide) rfl (fun ls hl => ?_)
          refine lv_iinc (v := x5 + (1 : Int32)) (lv' := [(5, .int (x5 + (1 : Int32))), (6, .long e_6), (0, .ref h_r), (1, .int x1), (2, .ref (m_tp 0)), (3, .int x3), (4, .int x4)]) hx hb dX5_scanToken_137 hl (k := 6) rfl rfl (by decide) rfl (fun ls hl => ?_)
          refine lv_goto (tgt := 104) hx hb dX5_scanToken_140 (by decide) ?_
          exact ih _ _ _ _ _ _ _ hf _ _ _ hP hD hS (lv_sub hl [2, 3, 4, 5, 6, 0, 1] rfl)
  have hb_66 : ∀ (v_r_kind : (Nat → Int32)) (v_r_value : (Nat → Int64)) (x1 : Int32) (x4 : Int32) (x5 : Int32) (x6 : Int64), f_X5_scanToken_b66 v_r_kind v_r_value x1 x4 x5 x6 = some out → ∀ (H : Heap) (locs : List Loc) (ls : Array Slot), va_P (dC, dI) vwCl [(h_r, .inr (5, oX5 m_r h_g v_r_next v_r_codeLength v_r_ownCell v_r_stopped v_r_fault v_r_faultPlace v_r_laterFault v_r_laterPlace)), (m_r 0, .inl (cyI, 403, .inl v_r_kind)), (m_r 1, .inl (cyI, 403, .inl v_r_start)), (m_r 2, .inl (cyJ, 403, .inr (.inl v_r_value))), (m_tp 0, .inl (cyB, 2000, .inl v_tp_0))] H → va_D A [(h_r, .inr (5, oX5 m_r h_g v_r_next v_r_codeLength v_r_ownCell v_r_stopped v_r_fault v_r_faultPlace v_r_laterFault v_r_laterPlace)), (m_r 0, .inl (cyI, 403, .inl v_r_kind)), (m_r 1, .inl (cyI, 403, .inl v_r_start)), (m_r 2, .inl (cyJ, 403, .inr (.inl v_r_value))), (m_tp 0, .inl (cyB, 2000, .inl v_tp_0))] → va_S A s.heap H locs → lv_has ls 8 [(0, .ref h_r), (1, .int x1), (4, .int x4), (5, .int x5), (6, .long x6)] → W p l e ({ frames := 6, cells := 0, slots := 0, locals := 129 } : Room) s m ([.ref h_r, .int q1, .ref (m_tp 0), .int q3] : List Value).toArray below meth c H locs 0 0 Q (F0 m 66 ls []) := by
    intro  v_r_kind v_r_value x1 x4 x5 x6 hf H locs ls hP hD hS hl
    unfold f_X5_scanToken_b66 at hf
    refine lv_aload_n hx hb dX5_scanToken_66 rfl (lv_at hl 0 rfl) ?_
    refine va_get (D := (dC, dI)) (ci := 5) (v := .ref (m_r 0)) (C := RX5) (T := TX5) (N := 14) hx hb hts (g_c inlX5) hown hK hP 0 rfl rfl 0 (by decide) (hts _ (List.mem_cons_of_mem _ wm_3_0)) (fun _ h9 => h9) rfl dX5_scanToken_67 ?_
    refine lv_iload_n hx hb dX5_scanToken_70 rfl (lv_at hl 1 rfl) ?_
    refine lv_iload hx hb dX5_scanToken_71 (lv_at hl 3 rfl) ?_
    refine lv_iload hx hb dX5_scanToken_73 (lv_at hl 2 rfl) ?_
    refine lv_isub hx hb dX5_scanToken_75 ?_
    refine lv_bipush (v := (8 : Int32)) hx hb dX5_scanToken_76 (by decide) ?_
    refine lv_icmp_le (tgt := 85) hx hb dX5_scanToken_78 (by decide) (fun c_1 => ?_) (fun c_1 => ?_)
    · have hf := (if_pos c_1).symm.trans hf
      refine lv_lload hx hb dX5_scanToken_85 (lv_at hl 4 rfl) ?_
      obtain ⟨o_2, ho_2, hf⟩ := bd_some hf
      refine ux_Si0 (n := 1) (As := [.long x6]) (rest := [.int x1, .ref (m_r 0)]) (wc := []) (wr := [_, _, _, _, _]) ⟨hx, hb, hml, hown, hts⟩ hK hP hD hS hA hE [] [0, 1, 2, 3, 4] (sg_h [] 5 rfl sk_z15_1 rfl) (sg_h [(0, 5)] 5 rfl sk_z15_2 rfl) nd_z15_0 nd_z15_1 nj_z15_1 (c_X5_wordOrName l dC dI cyI cyJ cyZ cyB cyO tO vF adK adV x6 _ _ ho_2) wm_13_10 wm_13_11 wm_1_18 wm_13_12 ⟨rfl, rfl⟩ (by decide +kernel) rfl ⟨Nat.le_of_ble_eq_true rfl, Nat.le_of_ble_eq_true rfl⟩ hl.1 rfl (Nat.le_of_ble_eq_true rfl) dX5_scanToken_87 ⟨Nat.le_of_ble_eq_true rfl, Nat.le_of_ble_eq_true rfl⟩ (fun H locs hP hD hS => ?_)
      have hP : va_P (dC, dI) vwCl [_, _, _, _, _] H := hP
      have hD : va_D A [_, _, _, _, _] := hD
      obtain ⟨h_3, hf⟩ := ck_some hf
      obtain ⟨a_4, ea_4, hf⟩ := nm_some hf
      refine va_iast hx hb hK hP hD hS 1 0 rfl rfl (inb_in h_3) dX5_scanToken_90 (fun H locs hP hD hS => ?_)
      have hP : va_P (dC, dI) vwCl [(h_r, .inr (5, oX5 m_r h_g v_r_next v_r_codeLength v_r_ownCell v_r_stopped v_r_fault v_r_faultPlace v_r_laterFault v_r_laterPlace)), (m_r 0, .inl (cyI, 403, .inl a_4)), (m_r 1, .inl (cyI, 403, .inl v_r_start)), (m_r 2, .inl (cyJ, 403, .inr (.inl v_r_value))), (m_tp 0, .inl (cyB, 2000, .inl v_tp_0))] H := by rw [ea_4]; exact hP
      have hD : va_D A [(h_r, .inr (5, oX5 m_r h_g v_r_next v_r_codeLength v_r_ownCell v_r_stopped v_r_fault v_r_faultPlace v_r_laterFault v_r_laterPlace)), (m_r 0, .inl (cyI, 403, .inl a_4)), (m_r 1, .inl (cyI, 403, .inl v_r_start)), (m_r 2, .inl (cyJ, 403, .inr (.inl v_r_value))), (m_tp 0, .inl (cyB, 2000, .inl v_tp_0))] := by rw [ea_4]; exact hD
      refine lv_goto (tgt := 193) hx hb dX5_scanToken_91 (by decide) ?_
      exact hb_193 _ _ _ _ _ hf _ _ _ hP hD hS (lv_sub hl [0, 1, 3, 4] rfl)
    · have hf := (if_neg c_1).symm.trans hf
      refine lv_iconst (v := (4 : Int32)) hx hb dX5_scanToken_81 (by decide) ?_
      refine lv_goto (tgt := 90) hx hb dX5_scanToken_82 (by decide) ?_
      obtain ⟨h_5, hf⟩ := ck_some hf
      obtain ⟨a_6, ea_6, hf⟩ := nm_some hf
      refine va_iast hx hb hK hP hD hS 1 0 rfl rfl (inb_in h_5) dX5_scanToken_90 (fun H locs hP hD hS => ?_)
      have hP : va_P (dC, dI) vwCl [(h_r, .inr (5, oX5 m_r h_g v_r_next v_r_codeLength v_r_ownCell v_r_stopped v_r_fault v_r_faultPlace v_r_laterFault v_r_laterPlace)), (m_r 0, .inl (cyI, 403, .inl a_6)), (m_r 1, .inl (cyI, 403, .inl v_r_start)), (m_r 2, .inl (cyJ, 403, .inr (.inl v_r_value))), (m_tp 0, .inl (cyB, 2000, .inl v_tp_0))] H := by rw [ea_6]; exact hP
      have hD : va_D A [(h_r, .inr (5, oX5 m_r h_g v_r_next v_r_codeLength v_r_ownCell v_r_stopped v_r_fault v_r_faultPlace v_r_laterFault v_r_laterPlace)), (m_r 0, .inl (cyI, 403, .inl a_6)), (m_r 1, .inl (cyI, 403, .inl v_r_start)), (m_r 2, .inl (cyJ, 403, .inr (.inl v_r_value))), (m_tp 0, .inl (cyB, 2000, .inl v_tp_0))] := by rw [ea_6]; exact hD
      refine lv_goto (tgt := 193) hx hb dX5_scanToken_91 (by decide) ?_
      exact hb_193 _ _ _ _ _ hf _ _ _ hP hD hS (lv_sub hl [0, 1, 3, 4] rfl)
  have hb_25 : ∀ (n : Nat) (v_r_kind : (Nat → Int32)) (v_r_value : (Nat → Int64)) (x1 : Int32) (x3 : Int32) (x4 : Int32) (x5 : Int32) (x6 : Int64), f_X5_scanToken_b25 v_tp_0 n v_r_kind v_r_value x1 x3 x4 x5 x6 = some out → ∀ (H : Heap) (locs : List Loc) (ls : Array Slot), va_P (dC, dI) vwCl [(h_r, .inr (5, oX5 m_r h_g v_r_next v_r_codeLength v_r_ownCell v_r_stopped v_r_fault v_r_faultPlace v_r_laterFault v_r_laterPlace)), (m_r 0, .inl (cyI, 403, .inl v_r_kind)), (m_r 1, .inl (cyI, 403, .inl v_r_start)), (m_r 2, .inl (cyJ, 403, .inr (.inl v_r_value))), (m_tp 0, .inl (cyB, 2000, .inl v_tp_0))] H → va_D A [(h_r, .inr (5, oX5 m_r h_g v_r_next v_r_codeLength v_r_ownCell v_r_stopped v_r_fault v_r_faultPlace v_r_laterFault v_r_laterPlace)), (m_r 0, .inl (cyI, 403, .inl v_r_kind)), (m_r 1, .inl (cyI, 403, .inl v_r_start)), (m_r 2, .inl (cyJ, 403, .inr (.inl v_r_value))), (m_tp 0, .inl (cyB, 2000, .inl v_tp_0))] → va_S A s.heap H locs → lv_has ls 8 [(0, .ref h_r), (1, .int x1), (2, .ref (m_tp 0)), (3, .int x3), (4, .int x4), (5, .int x5), (6, .long x6)] → W p l e ({ frames := 6, cells := 0, slots := 0, locals := 129 } : Room) s m ([.ref h_r, .int q1, .ref (m_tp 0), .int q3] : List Value).toArray below meth c H locs 0 0 Q (F0 m 25 ls []) := by
    intro  n
    induction n with
    | zero =>
      intro v_r_kind v_r_value x1 x3 x4 x5 x6 hf
      exact no_some hf
    | succ n ih =>
      intro v_r_kind v_r_value x1 x3 x4 x5 x6 hf H locs ls hP hD hS hl
      have hf : f_X5_scanToken_b25_st (f_X5_scanToken_b25 v_tp_0 n) v_tp_0 v_r_kind v_r_value x1 x3 x4 x5 x6 = some out := hf
      unfold f_X5_scanToken_b25_st at hf
      refine lv_iload hx hb dX5_scanToken_25 (lv_at hl 5 rfl) ?_
      refine lv_iload_n hx hb dX5_scanToken_27 rfl (lv_at hl 3 rfl) ?_
      refine lv_icmp_ge (tgt := 66) hx hb dX5_scanToken_28 (by decide) (fun c_1 => ?_) (fun c_1 => ?_)
      · have hf := (if_pos c_1).symm.trans hf
        exact hb_66 _ _ _ _ _ _ hf _ _ _ hP hD hS (lv_sub hl [0, 1, 4, 5, 6] rfl)
      · have hf := (if_neg c_1).symm.trans hf
        refine lv_aload_n hx hb dX5_scanToken_31 rfl (lv_at hl 2 rfl) ?_
        refine lv_iload hx hb dX5_scanToken_32 (lv_at hl 5 rfl) ?_
        obtain ⟨h_2, hf⟩ := ck_some hf
        refine va_bald hx hb hK hP 4 3 rfl rfl (inb_in h_2) dX5_scanToken_34 ?_
        obtain ⟨o_3, ho_3, hf⟩ := bd_some hf
        refine ux_Si0 (n := 1) (As := [.int (v_tp_0 x5.toNatClampNeg)]) (rest := []) (wc := []) (wr := [_, _, _, _, _]) ⟨hx, hb, hml, hown, hts⟩ hK hP hD hS hA hE [] [0, 1, 2, 3, 4] (sg_h [] 5 rfl sk_z15_1 rfl) (sg_h [(0, 5)] 5 rfl sk_z15_2 rfl) nd_z15_0 nd_z15_1 nj_z15_1 (c_X5_isLetter l dC dI cyI cyJ cyZ cyB cyO tO vF adK adV (v_tp_0 x5.toNatClampNeg) _ _ ho_3) wm_13_7 wm_13_8 wm_1_18 wm_13_9 ⟨rfl, rfl⟩ (by decide +kernel) rfl ⟨Nat.le_of_ble_eq_true rfl, Nat.le_of_ble_eq_true rfl⟩ hl.1 rfl (Nat.le_of_ble_eq_true rfl) dX5_scanToken_35 ⟨Nat.le_of_ble_eq_true rfl, Nat.le_of_ble_eq_true rfl⟩ (fun H locs hP hD hS => ?_)
        have hP : va_P (dC, dI) vwCl [_, _, _, _, _] H := hP
        have hD : va_D A [_, _, _, _, _] := hD
        refine lv_if_eq (tgt := 66) hx hb dX5_scanToken_38 (by decide) (fun c_4 => ?_) (fun c_4 => ?_)
        · have hf := (if_pos c_4).symm.trans hf
          exact hb_66 _ _ _ _ _ _ hf _ _ _ hP hD hS (lv_sub hl [0, 1, 4, 5, 6] rfl)
        · have hf := (if_neg c_4).symm.trans hf
          refine lv_lload hx hb dX5_scanToken_41 (lv_at hl 6 rfl) ?_
          refine lv_ldc2 (v := (32 : Int64)) hx hb hown (hts _ (List.mem_cons_of_mem _ wm_13_5)) dX5_scanToken_43 ?_
          refine lv_lmul hx hb dX5_scanToken_46 ?_
          refine lv_aload_n hx hb dX5_scanToken_47 rfl (lv_at hl 2 rfl) ?_
          refine lv_iload hx hb dX5_scanToken_48 (lv_at hl 5 rfl) ?_
          obtain ⟨h_5, hf⟩ := ck_some hf
          refine va_bald hx hb hK hP 4 3 rfl rfl (inb_in h_5) dX5_scanToken_50 ?_
          refine lv_bipush (v := (97 : Int32)) hx hb dX5_scanToken_51 (by decide) ?_
          refine lv_isub hx hb dX5_scanToken_53 ?_
          refine lv_iconst (v := (1 : Int32)) hx hb dX5_scanToken_54 (by decide) ?_
          refine lv_iadd hx hb dX5_scanToken_55 ?_
          refine lv_i2l hx hb dX5_scanToken_56 rfl ?_
          refine lv_ladd hx hb dX5_scanToken_57 ?_
          obtain ⟨e_6, ee_6, hf⟩ := nm_some hf
          rw [← ee_6]
          refine lv_lstore (lv' := [(6, .long e_6), (0, .ref h_r), (1, .int x1), (2, .ref (m_tp 0)), (3, .int x3), (4, .int x4), (5, .int x5)]) hx hb dX5_scanToken_58 hl (by decide) rfl (fun ls hl => ?_)
          refine lv_iinc (v := x5 + (1 : Int32)) (lv' := [(5, .int (x5 + (1 : Int32))), (6, .long e_6), (0, .ref h_r), (1, .int x1), (2, .ref (m_tp 0)), (3, .int x3), (4, .int x4)]) hx hb dX5_scanToken_60 hl (k := 6) rfl rfl (by decide) rfl (fun ls hl => ?_)
          refine lv_goto (tgt := 25) hx hb dX5_scanToken_63 (by decide) ?_
          exact ih _ _ _ _ _ _ _ hf _ _ _ hP hD hS (lv_sub hl [2, 3, 4, 5, 6, 0, 1] rfl)
  unfold f_X5_scanToken at hf
  refine lv_aload_n hx hb dX5_scanToken_0 rfl (lv_at hl 0 rfl) ?_
  refine va_get (D := (dC, dI)) (ci := 5) (v := .ref (m_r 1)) (C := RX5) (T := TX5) (N := 14) hx hb hts (g_c inlX5) hown hK hP 0 rfl rfl 1 (by decide) (hts _ (List.mem_cons_of_mem _ wm_3_1)) (fun _ h9 => h9) rfl dX5_scanToken_1 ?_
  refine lv_iload_n hx hb dX5_scanToken_4 rfl (lv_at hl 1 rfl) ?_
  obtain ⟨h_1, hf⟩ := ck_some hf
  refine va_iald hx hb hK hP 2 0 rfl rfl (inb_in h_1) dX5_scanToken_5 ?_
  refine lv_istore (lv' := [(4, .int (v_r_start q1.toNatClampNeg)), (0, .ref h_r), (1, .int q1), (2, .ref (m_tp 0)), (3, .int q3)]) hx hb dX5_scanToken_6 hl (by decide) rfl (fun ls hl => ?_)
  refine lv_iload hx hb dX5_scanToken_8 (lv_at hl 0 rfl) ?_
  refine lv_istore (lv' := [(5, .int (v_r_start q1.toNatClampNeg)), (4, .int (v_r_start q1.toNatClampNeg)), (0, .ref h_r), (1, .int q1), (2, .ref (m_tp 0)), (3, .int q3)]) hx hb dX5_scanToken_10 hl (by decide) rfl (fun ls hl => ?_)
  refine lv_lconst (v := (0 : Int64)) hx hb dX5_scanToken_12 (by decide) ?_
  refine lv_lstore (lv' := [(6, .long (0 : Int64)), (5, .int (v_r_start q1.toNatClampNeg)), (4, .int (v_r_start q1.toNatClampNeg)), (0, .ref h_r), (1, .int q1), (2, .ref (m_tp 0)), (3, .int q3)]) hx hb dX5_scanToken_13 hl (by decide) rfl (fun ls hl => ?_)
  refine lv_aload_n hx hb dX5_scanToken_15 rfl (lv_at hl 5 rfl) ?_
  refine lv_iload hx hb dX5_scanToken_16 (lv_at hl 2 rfl) ?_
  obtain ⟨h_2, hf⟩ := ck_some hf
  refine va_bald hx hb hK hP 4 3 rfl rfl (inb_in h_2) dX5_scanToken_18 ?_
  obtain ⟨o_3, ho_3, hf⟩ := bd_some hf
  refine ux_Si0 (n := 1) (As := [.int (v_tp_0 (v_r_start q1.toNatClampNeg).toNatClampNeg)]) (rest := []) (wc := []) (wr := [_, _, _, _, _]) ⟨hx, hb, hml, hown, hts⟩ hK hP hD hS hA hE [] [0, 1, 2, 3, 4] (sg_h [] 5 rfl sk_z15_1 rfl) (sg_h [(0, 5)] 5 rfl sk_z15_2 rfl) nd_z15_0 nd_z15_1 nj_z15_1 (c_X5_isLetter l dC dI cyI cyJ cyZ cyB cyO tO vF adK adV (v_tp_0 (v_r_start q1.toNatClampNeg).toNatClampNeg) _ _ ho_3) wm_13_7 wm_13_8 wm_1_18 wm_13_9 ⟨rfl, rfl⟩ (by decide +kernel) rfl ⟨Nat.le_of_ble_eq_true rfl, Nat.le_of_ble_eq_true rfl⟩ hl.1 rfl (Nat.le_of_ble_eq_true rfl) dX5_scanToken_19 ⟨Nat.le_of_ble_eq_true rfl, Nat.le_of_ble_eq_true rfl⟩ (fun H locs hP hD hS => ?_)
  have hP : va_P (dC, dI) vwCl [_, _, _, _, _] H := hP
  have hD : va_D A [_, _, _, _, _] := hD
  refine lv_if_eq (tgt := 94) hx hb dX5_scanToken_22 (by decide) (fun c_4 => ?_) (fun c_4 => ?_)
  · have hf := (if_pos c_4).symm.trans hf
    refine lv_aload_n hx hb dX5_scanToken_94 rfl (lv_at hl 5 rfl) ?_
    refine lv_iload hx hb dX5_scanToken_95 (lv_at hl 2 rfl) ?_
    obtain ⟨h_5, hf⟩ := ck_some hf
    refine va_bald hx hb hK hP 4 3 rfl rfl (inb_in h_5) dX5_scanToken_97 ?_
    obtain ⟨o_6, ho_6, hf⟩ := bd_some hf
    refine ux_Si0 (n := 1) (As := [.int (v_tp_0 (v_r_start q1.toNatClampNeg).toNatClampNeg)]) (rest := []) (wc := []) (wr := [_, _, _, _, _]) ⟨hx, hb, hml, hown, hts⟩ hK hP hD hS hA hE [] [0, 1, 2, 3, 4] (sg_h [] 5 rfl sk_z15_1 rfl) (sg_h [(0, 5)] 5 rfl sk_z15_2 rfl) nd_z15_0 nd_z15_1 nj_z15_1 (c_X5_isDigit l dC dI cyI cyJ cyZ cyB cyO tO vF adK adV (v_tp_0 (v_r_start q1.toNatClampNeg).toNatClampNeg) _ _ ho_6) wm_15_17 wm_15_18 wm_1_18 wm_15_19 ⟨rfl, rfl⟩ (by decide +kernel) rfl ⟨Nat.le_of_ble_eq_true rfl, Nat.le_of_ble_eq_true rfl⟩ hl.1 rfl (Nat.le_of_ble_eq_true rfl) dX5_scanToken_98 ⟨Nat.le_of_ble_eq_true rfl, Nat.le_of_ble_eq_true rfl⟩ (fun H locs hP hD hS => ?_)
    have hP : va_P (dC, dI) vwCl [_, _, _, _, _] H := hP
    have hD : va_D A [_, _, _, _, _] := hD
    refine lv_if_eq (tgt := 166) hx hb dX5_scanToken_101 (by decide) (fun c_7 => ?_) (fun c_7 => ?_)
    · have hf := (if_pos c_7).symm.trans hf
      refine lv_aload_n hx hb dX5_scanToken_166 rfl (lv_at hl 3 rfl) ?_
      refine va_get (D := (dC, dI)) (ci := 5) (v := .ref (m_r 0)) (C := RX5) (T := TX5) (N := 14) hx hb hts (g_c inlX5) hown hK hP 0 rfl rfl 0 (by decide) (hts _ (List.mem_cons_of_mem _ wm_3_0)) (fun _ h9 => h9) rfl dX5_scanToken_167 ?_
      refine lv_iload_n hx hb dX5_scanToken_170 rfl (lv_at hl 4 rfl) ?_
      refine lv_aload_n hx hb dX5_scanToken_171 rfl (lv_at hl 5 rfl) ?_
      refine lv_iload hx hb dX5_scanToken_172 (lv_at hl 2 rfl) ?_
      obtain ⟨h_8, hf⟩ := ck_some hf
      refine va_bald hx hb hK hP 4 3 rfl rfl (inb_in h_8) dX5_scanToken_174 ?_
      obtain ⟨o_9, ho_9, hf⟩ := bd_some hf
      refine ux_Si0 (n := 1) (As := [.int (v_tp_0 (v_r_start q1.toNatClampNeg).toNatClampNeg)]) (rest := [.int q1, .ref (m_r 0)]) (wc := []) (wr := [_, _, _, _, _]) ⟨hx, hb, hml, hown, hts⟩ hK hP hD hS hA hE [] [0, 1, 2, 3, 4] (sg_h [] 5 rfl sk_z15_1 rfl) (sg_h [(0, 5)] 5 rfl sk_z15_2 rfl) nd_z15_0 nd_z15_1 nj_z15_1 (c_X5_isSign l dC dI cyI cyJ cyZ cyB cyO tO vF adK adV (v_tp_0 (v_r_start q1.toNatClampNeg).toNatClampNeg) _ _ ho_9) wm_15_20 wm_15_21 wm_1_18 wm_15_22 ⟨rfl, rfl⟩ (by decide +kernel) rfl ⟨Nat.le_of_ble_eq_true rfl, Nat.le_of_ble_eq_true rfl⟩ hl.1 rfl (Nat.le_of_ble_eq_true rfl) dX5_scanToken_175 ⟨Nat.le_of_ble_eq_true rfl, Nat.le_of_ble_eq_true rfl⟩ (fun H locs hP hD hS => ?_)
      have hP : va_P (dC, dI) vwCl [_, _, _, _, _] H := hP
      have hD : va_D A [_, _, _, _, _] := hD
      refine lv_if_eq (tgt := 188) hx hb dX5_scanToken_178 (by decide) (fun c_10 => ?_) (fun c_10 => ?_)
      · have hf := (if_pos c_10).symm.trans hf
        refine lv_iconst (v := (4 : Int32)) hx hb dX5_scanToken_188 (by decide) ?_
        obtain ⟨h_11, hf⟩ := ck_some hf
        obtain ⟨a_12, ea_12, hf⟩ := nm_some hf
        refine va_iast hx hb hK hP hD hS 1 0 rfl rfl (inb_in h_11) dX5_scanToken_189 (fun H locs hP hD hS => ?_)
        have hP : va_P (dC, dI) vwCl [(h_r, .inr (5, oX5 m_r h_g v_r_next v_r_codeLength v_r_ownCell v_r_stopped v_r_fault v_r_faultPlace v_r_laterFault v_r_laterPlace)), (m_r 0, .inl (cyI, 403, .inl a_12)), (m_r 1, .inl (cyI, 403, .inl v_r_start)), (m_r 2, .inl (cyJ, 403, .inr (.inl v_r_value))), (m_tp 0, .inl (cyB, 2000, .inl v_tp_0))] H := by rw [ea_12]; exact hP
        have hD : va_D A [(h_r, .inr (5, oX5 m_r h_g v_r_next v_r_codeLength v_r_ownCell v_r_stopped v_r_fault v_r_faultPlace v_r_laterFault v_r_laterPlace)), (m_r 0, .inl (cyI, 403, .inl a_12)), (m_r 1, .inl (cyI, 403, .inl v_r_start)), (m_r 2, .inl (cyJ, 403, .inr (.inl v_r_value))), (m_tp 0, .inl (cyB, 2000, .inl v_tp_0))] := by rw [ea_12]; exact hD
        refine lv_iinc (v := (v_r_start q1.toNatClampNeg) + (1 : Int32)) (lv' := [(5, .int ((v_r_start q1.toNatClampNeg) + (1 : Int32))), (6, .long (0 : Int64)), (4, .int (v_r_start q1.toNatClampNeg)), (0, .ref h_r), (1, .int q1), (2, .ref (m_tp 0)), (3, .int q3)]) hx hb dX5_scanToken_190 hl (k := 1) rfl rfl (by decide) rfl (fun ls hl => ?_)
        exact hb_193 _ _ _ _ _ hf _ _ _ hP hD hS (lv_sub hl [3, 4, 0, 1] rfl)
      · have hf := (if_neg c_10).symm.trans hf
        refine lv_aload_n hx hb dX5_scanToken_181 rfl (lv_at hl 5 rfl) ?_
        refine lv_iload hx hb dX5_scanToken_182 (lv_at hl 2 rfl) ?_
        obtain ⟨h_13, hf⟩ := ck_some hf
        refine va_bald hx hb hK hP 4 3 rfl rfl (inb_in h_13) dX5_scanToken_184 ?_
        refine lv_goto (tgt := 189) hx hb dX5_scanToken_185 (by decide) ?_
        obtain ⟨h_14, hf⟩ := ck_some hf
        obtain ⟨a_15, ea_15, hf⟩ := nm_some hf
        refine va_iast hx hb hK hP hD hS 1 0 rfl rfl (inb_in h_14) dX5_scanToken_189 (fun H locs hP hD hS => ?_)
        have hP : va_P (dC, dI) vwCl [(h_r, .inr (5, oX5 m_r h_g v_r_next v_r_codeLength v_r_ownCell v_r_stopped v_r_fault v_r_faultPlace v_r_laterFault v_r_laterPlace)), (m_r 0, .inl (cyI, 403, .inl a_15)), (m_r 1, .inl (cyI, 403, .inl v_r_start)), (m_r 2, .inl (cyJ, 403, .inr (.inl v_r_value))), (m_tp 0, .inl (cyB, 2000, .inl v_tp_0))] H := by rw [ea_15]; exact hP
        have hD : va_D A [(h_r, .inr (5, oX5 m_r h_g v_r_next v_r_codeLength v_r_ownCell v_r_stopped v_r_fault v_r_faultPlace v_r_laterFault v_r_laterPlace)), (m_r 0, .inl (cyI, 403, .inl a_15)), (m_r 1, .inl (cyI, 403, .inl v_r_start)), (m_r 2, .inl (cyJ, 403, .inr (.inl v_r_value))), (m_tp 0, .inl (cyB, 2000, .inl v_tp_0))] := by rw [ea_15]; exact hD
        refine lv_iinc (v := (v_r_start q1.toNatClampNeg) + (1 : Int32)) (lv' := [(5, .int ((v_r_start q1.toNatClampNeg) + (1 : Int32))), (6, .long (0 : Int64)), (4, .int (v_r_start q1.toNatClampNeg)), (0, .ref h_r), (1, .int q1), (2, .ref (m_tp 0)), (3, .int q3)]) hx hb dX5_scanToken_190 hl (k := 1) rfl rfl (by decide) rfl (fun ls hl => ?_)
        exact hb_193 _ _ _ _ _ hf _ _ _ hP hD hS (lv_sub hl [3, 4, 0, 1] rfl)
    · have hf := (if_neg c_7).symm.trans hf
      exact hb_104 _ _ _ _ _ _ _ _ hf _ _ _ hP hD hS (lv_sub hl [3, 4, 5, 6, 2, 1, 0] rfl)
  · have hf := (if_neg c_4).symm.trans hf
    exact hb_25 _ _ _ _ _ _ _ _ hf _ _ _ hP hD hS (lv_sub hl [3, 4, 5, 6, 2, 1, 0] rfl)
def f_X5_scan_b54 (k5 : (Nat → Int32) → (Nat → Int32) → (Nat → Int64) → Int32 → Int32 → Int32 → Option ((Nat → Int32) × (Nat → Int32) × (Nat → Int64)))  (v_r_kind : (Nat → Int32)) (v_r_start : (Nat → Int32)) (v_r_value : (Nat → Int64)) (x4 : Int32) : Option ((Nat → Int32) × (Nat → Int32) × (Nat → Int64)) := ck (inb x4 403) (nm (upd v_r_kind x4.toNatClampNeg (3 : Int32)) (fun a_2 => some (a_2, v_r_start, v_r_value)))
def f_X5_scan_b33 (k5 : (Nat → Int32) → (Nat → Int32) → (Nat → Int64) → Int32 → Int32 → Int32 → Option ((Nat → Int32) × (Nat → Int32) × (Nat → Int64))) (v_tp_0 : (Nat → Int32)) (v_r_kind : (Nat → Int32)) (v_r_start : (Nat → Int32)) (v_r_value : (Nat → Int64)) (x2 : Int32) (x3 : Int32) (x4 : Int32) : Option ((Nat → Int32) × (Nat → Int32) × (Nat → Int64)) := ck (inb x4 403) (nm (upd v_r_start x4.toNatClampNeg x3) (fun a_2 => if x2 ≤ x3 then (f_X5_scan_b54 k5 v_r_kind a_2 v_r_value x4) else (if x4 = (402 : Int32) then (f_X5_scan_b54 k5 v_r_kind a_2 v_r_value x4) else (bd (f_X5_scanToken a_2 v_tp_0 v_r_kind v_r_value x4 x2) (fun o_5 => un3 o_5 (fun o_5_0 o_5_1 o_5_2 => ck (inb x4 403) (if (o_5_1 x4.toNatClampNeg) = (4 : Int32) then (some (o_5_1, a_2, o_5_2)) else (k5 o_5_1 a_2 o_5_2 x2 o_5_0 (x4 + (1 : Int32))))))))))
def f_X5_scan_b13_st (kr : (Nat → Int32) → (Nat → Int32) → (Nat → Int64) → Int32 → Int32 → Int32 → Option ((Nat → Int32) × (Nat → Int32) × (Nat → Int64))) (k5 : (Nat → Int32) → (Nat → Int32) → (Nat → Int64) → Int32 → Int32 → Int32 → Option ((Nat → Int32) × (Nat → Int32) × (Nat → Int64))) (v_tp_0 : (Nat → Int32)) (v_r_kind : (Nat → Int32)) (v_r_start : (Nat → Int32)) (v_r_value : (Nat → Int64)) (x2 : Int32) (x3 : Int32) (x4 : Int32) : Option ((Nat → Int32) × (Nat → Int32) × (Nat → Int64)) := if x2 ≤ x3 then (f_X5_scan_b33 k5 v_tp_0 v_r_kind v_r_start v_r_value x2 x3 x4) else (ck (inb x3 2000) (bd (f_X5_isBlank (v_tp_0 x3.toNatClampNeg)) (fun o_3 => if o_3 = (0 : Int32) then (f_X5_scan_b33 k5 v_tp_0 v_r_kind v_r_start v_r_value x2 x3 x4) else (kr v_r_kind v_r_start v_r_value x2 (x3 + (1 : Int32)) x4))))
def f_X5_scan_b13 (k5 : (Nat → Int32) → (Nat → Int32) → (Nat → Int64) → Int32 → Int32 → Int32 → Option ((Nat → Int32) × (Nat → Int32) × (Nat → Int64))) (v_tp_0 : (Nat → Int32)) : Nat → (Nat → Int32) → (Nat → Int32) → (Nat → Int64) → Int32 → Int32 → Int32 → Option ((Nat → Int32) × (Nat → Int32) × (Nat → Int64))
  | 0 => fun _ _ _ _ _ _ => none
  | n + 1 => f_X5_scan_b13_st (f_X5_scan_b13 k5 v_tp_0 n) k5 v_tp_0
def f_X5_scan_b5_st (kr : (Nat → Int32) → (Nat → Int32) → (Nat → Int64) → Int32 → Int32 → Int32 → Option ((Nat → Int32) × (Nat → Int32) × (Nat → Int64)))  (v_tp_0 : (Nat → Int32)) (v_r_kind : (Nat → Int32)) (v_r_start : (Nat → Int32)) (v_r_value : (Nat → Int64)) (x2 : Int32) (x3 : Int32) (x4 : Int32) : Option ((Nat → Int32) × (Nat → Int32) × (Nat → Int64)) := if (403 : Int32) ≤ x4 then (some (v_r_kind, v_r_start, v_r_value)) else (f_X5_scan_b13 kr v_tp_0 fuel v_r_kind v_r_start v_r_value x2 x3 x4)
def f_X5_scan_b5  (v_tp_0 : (Nat → Int32)) : Nat → (Nat → Int32) → (Nat → Int32) → (Nat → Int64) → Int32 → Int32 → Int32 → Option ((Nat → Int32) × (Nat → Int32) × (Nat → Int64))
  | 0 => fun _ _ _ _ _ _ => none
  | n + 1 => f_X5_scan_b5_st (f_X5_scan_b5 v_tp_0 n) v_tp_0
def f_X5_scan (v_tp_0 : (Nat → Int32)) (v_r_kind : (Nat → Int32)) (v_r_start : (Nat → Int32)) (v_r_value : (Nat → Int64)) (q2 : Int32) : Option ((Nat → Int32) × (Nat → Int32) × (Nat → Int64)) := f_X5_scan_b5 v_tp_0 fuel v_r_kind v_r_start v_r_value q2 (0 : Int32) (0 : Int32)
set_option maxRecDepth 100000 in
set_option maxHeartbeats 8000000 in
theorem c_X5_scan (l : Launch) (dC : Nat → ClassId) (dI : Nat → Nat → Nat) (cyI cyJ cyZ cyB cyO : ClassId) (tO : Nat) (vF : Value) (adK adV : Nat → Nat) (h_r : Nat) (m_r : Nat → Nat) (h_g : Nat) (m_g : Nat → Nat) (m_tp : Nat → Nat) (v_r_next : Int32) (v_r_codeLength : Int32) (v_r_ownCell : Int32) (v_r_stopped : Int32) (v_r_fault : Int32) (v_r_faultPlace : Int32) (v_r_laterFault : Int32) (v_r_laterPlace : Int32) (v_r_kind : (Nat → Int32)) (v_r_start : (Nat → Int32)) (v_r_value : (Nat → Int64)) (v_tp_0 : (Nat → Int32)) (q2 : Int32) (sz : Nat) (out : (Nat → Int32) × (Nat → Int32) × (Nat → Int64)) (hf : f_X5_scan v_tp_0 v_r_kind v_r_start v_r_value q2 = some out) : Met l yX5_scan (Cond.code yX5_scan cX5_scan 5 none :: wsL_law) ({ frames := 7, cells := 0, slots := 0, locals := 156 } : Room) (va_Pc [.ref h_r, .ref (m_tp 0), .int q2] (ux_pre (dC, dI) vwCl (tyG cyI cyJ cyZ cyB cyO) [(h_r, .inr (5, oX5 m_r h_g v_r_next v_r_codeLength v_r_ownCell v_r_stopped v_r_fault v_r_faultPlace v_r_laterFault v_r_laterPlace)), (m_r 0, .inl (cyI, 403, .inl v_r_kind)), (m_r 1, .inl (cyI, 403, .inl v_r_start)), (m_r 2, .inl (cyJ, 403, .inr (.inl v_r_value))), (m_tp 0, .inl (cyB, 2000, .inl v_tp_0))] sz (xE tO vF adK adV))) (va_Qv (fun u : (Nat → Int32) × (Nat → Int32) × (Nat → Int64) => u = out) (ux_at (dC, dI) vwCl (tyG cyI cyJ cyZ cyB cyO) [(h_r, .inr (5, oX5 m_r h_g v_r_next v_r_codeLength v_r_ownCell v_r_stopped v_r_fault v_r_faultPlace v_r_laterFault v_r_laterPlace)), (m_r 0, .inl (cyI, 403, .inl v_r_kind)), (m_r 1, .inl (cyI, 403, .inl v_r_start)), (m_r 2, .inl (cyJ, 403, .inr (.inl v_r_value))), (m_tp 0, .inl (cyB, 2000, .inl v_tp_0))] sz (fun u : (Nat → Int32) × (Nat → Int32) × (Nat → Int64) => [(h_r, .inr (5, oX5 m_r h_g v_r_next v_r_codeLength v_r_ownCell v_r_stopped v_r_fault v_r_faultPlace v_r_laterFault v_r_laterPlace)), (m_r 0, .inl (cyI, 403, .inl u.1)), (m_r 1, .inl (cyI, 403, .inl u.2.1)), (m_r 2, .inl (cyJ, 403, .inr (.inl u.2.2))), (m_tp 0, .inl (cyB, 2000, .inl v_tp_0))])) (va_A [(h_r, .inr (5, oX5 m_r h_g v_r_next v_r_codeLength v_r_ownCell v_r_stopped v_r_fault v_r_faultPlace v_r_laterFault v_r_laterPlace)), (m_r 0, .inl (cyI, 403, .inl v_r_kind)), (m_r 1, .inl (cyI, 403, .inl v_r_start)), (m_r 2, .inl (cyJ, 403, .inr (.inl v_r_value))), (m_tp 0, .inl (cyB, 2000, .inl v_tp_0))] sz)) 0 0 (va_A [(h_r, .inr (5, oX5 m_r h_g v_r_next v_r_codeLength v_r_ownCell v_r_stopped v_r_fault v_r_faultPlace v_r_laterFault v_r_laterPlace)), (m_r 0, .inl (cyI, 403, .inl v_r_kind)), (m_r 1, .inl (cyI, 403, .inl v_r_start)), (m_r 2, .inl (cyJ, 403, .inr (.inl v_r_value))), (m_tp 0, .inl (cyB, 2000, .inl v_tp_0))] sz) := by
  refine ux_metv (by decide +kernel) (Nat.le_of_ble_eq_true rfl) ?_
  intro p e s m below meth c A Q ls hx hb hml hts hown hA hP hK hD hE hl hret
  have hown : s.vm.findClass RX5 = some m.cls := hown
  have hS : va_S A s.heap s.heap [] := va_S.rf
  have hl : lv_has ls 5 [(0, .ref h_r), (1, .ref (m_tp 0)), (2, .int q2)] := hl
  have hb_54 : ∀ (k5 : (Nat → Int32) → (Nat → Int32) → (Nat → Int64) → Int32 → Int32 → Int32 → Option ((Nat → Int32) × (Nat → Int32) × (Nat → Int64))) (hk5 : ∀ (v_r_kind : (Nat → Int32)) (v_r_start : (Nat → Int32)) (v_r_value : (Nat → Int64)) (x2 : Int32) (x3 : Int32) (x4 : Int32), k5 v_r_kind v_r_start v_r_value x2 x3 x4 = some out → ∀ (H : Heap) (locs : List Loc) (ls : Array Slot), va_P (dC, dI) vwCl [(h_r, .inr (5, oX5 m_r h_g v_r_next v_r_codeLength v_r_ownCell v_r_stopped v_r_fault v_r_faultPlace v_r_laterFault v_r_laterPlace)), (m_r 0, .inl (cyI, 403, .inl v_r_kind)), (m_r 1, .inl (cyI, 403, .inl v_r_start)), (m_r 2, .inl (cyJ, 403, .inr (.inl v_r_value))), (m_tp 0, .inl (cyB, 2000, .inl v_tp_0))] H → va_D A [(h_r, .inr (5, oX5 m_r h_g v_r_next v_r_codeLength v_r_ownCell v_r_stopped v_r_fault v_r_faultPlace v_r_laterFault v_r_laterPlace)), (m_r 0, .inl (cyI, 403, .inl v_r_kind)), (m_r 1, .inl (cyI, 403, .inl v_r_start)), (m_r 2, .inl (cyJ, 403, .inr (.inl v_r_value))), (m_tp 0, .inl (cyB, 2000, .inl v_tp_0))] → va_S A s.heap H locs → lv_has ls 5 [(0, .ref h_r), (1, .ref (m_tp 0)), (2, .int x2), (3, .int x3), (4, .int x4)] → W p l e ({ frames := 7, cells := 0, slots := 0, locals := 156 } : Room) s m ([.ref h_r, .ref (m_tp 0), .int q2] : List Value).toArray below meth c H locs 0 0 Q (F0 m 5 ls [])) (v_r_kind : (Nat → Int32)) (v_r_start : (Nat → Int32)) (v_r_value : (Nat → Int64)) (x4 : Int32), f_X5_scan_b54 k5 v_r_kind v_r_start v_r_value x4 = some out → ∀ (H : Heap) (locs : List Loc) (ls : Array Slot), va_P (dC, dI) vwCl [(h_r, .inr (5, oX5 m_r h_g v_r_next v_r_codeLength v_r_ownCell v_r_stopped v_r_fault v_r_faultPlace v_r_laterFault v_r_laterPlace)), (m_r 0, .inl (cyI, 403, .inl v_r_kind)), (m_r 1, .inl (cyI, 403, .inl v_r_start)), (m_r 2, .inl (cyJ, 403, .inr (.inl v_r_value))), (m_tp 0, .inl (cyB, 2000, .inl v_tp_0))] H → va_D A [(h_r, .inr (5, oX5 m_r h_g v_r_next v_r_codeLength v_r_ownCell v_r_stopped v_r_fault v_r_faultPlace v_r_laterFault v_r_laterPlace)), (m_r 0, .inl (cyI, 403, .inl v_r_kind)), (m_r 1, .inl (cyI, 403, .inl v_r_start)), (m_r 2, .inl (cyJ, 403, .inr (.inl v_r_value))), (m_tp 0, .inl (cyB, 2000, .inl v_tp_0))] → va_S A s.heap H locs → lv_has ls 5 [(0, .ref h_r), (4, .int x4)] → W p l e ({ frames := 7, cells := 0, slots := 0, locals := 156 } : Room) s m ([.ref h_r, .ref (m_tp 0), .int q2] : List Value).toArray below meth c H locs 0 0 Q (F0 m 54 ls []) := by
    intro k5 hk5 v_r_kind v_r_start v_r_value x4 hf H locs ls hP hD hS hl
    unfold f_X5_scan_b54 at hf
    refine lv_aload_n hx hb dX5_scan_54 rfl (lv_at hl 0 rfl) ?_
    refine va_get (D := (dC, dI)) (ci := 5) (v := .ref (m_r 0)) (C := RX5) (T := TX5) (N := 14) hx hb hts (g_c inlX5) hown hK hP 0 rfl rfl 0 (by decide) (hts _ (List.mem_cons_of_mem _ wm_3_0)) (fun _ h9 => h9) rfl dX5_scan_55 ?_
    refine lv_iload hx hb dX5_scan_58 (lv_at hl 1 rfl) ?_
    refine lv_iconst (v := (3 : Int32)) hx hb dX5_scan_60 (by decide) ?_
    obtain ⟨h_1, hf⟩ := ck_some hf
    obtain ⟨a_2, ea_2, hf⟩ := nm_some hf
    refine va_iast hx hb hK hP hD hS 1 0 rfl rfl (inb_in h_1) dX5_scan_61 (fun H locs hP hD hS => ?_)
    have hP : va_P (dC, dI) vwCl [(h_r, .inr (5, oX5 m_r h_g v_r_next v_r_codeLength v_r_ownCell v_r_stopped v_r_fault v_r_faultPlace v_r_laterFault v_r_laterPlace)), (m_r 0, .inl (cyI, 403, .inl a_2)), (m_r 1, .inl (cyI, 403, .inl v_r_start)), (m_r 2, .inl (cyJ, 403, .inr (.inl v_r_value))), (m_tp 0, .inl (cyB, 2000, .inl v_tp_0))] H := by rw [ea_2]; exact hP
    have hD : va_D A [(h_r, .inr (5, oX5 m_r h_g v_r_next v_r_codeLength v_r_ownCell v_r_stopped v_r_fault v_r_faultPlace v_r_laterFault v_r_laterPlace)), (m_r 0, .inl (cyI, 403, .inl a_2)), (m_r 1, .inl (cyI, 403, .inl v_r_start)), (m_r 2, .inl (cyJ, 403, .inr (.inl v_r_value))), (m_tp 0, .inl (cyB, 2000, .inl v_tp_0))] := by rw [ea_2]; exact hD
    exact hret _ _ _ _ (a_2, v_r_start, v_r_value) dX5_scan_62 (Option.some.inj hf) hP hD hS
  have hb_33 : ∀ (k5 : (Nat → Int32) → (Nat → Int32) → (Nat → Int64) → Int32 → Int32 → Int32 → Option ((Nat → Int32) × (Nat → Int32) × (Nat → Int64))) (hk5 : ∀ (v_r_kind : (Nat → Int32)) (v_r_start : (Nat → Int32)) (v_r_value : (Nat → Int64)) (x2 : Int32) (x3 : Int32) (x4 : Int32), k5 v_r_kind v_r_start v_r_value x2 x3 x4 = some out → ∀ (H : Heap) (locs : List Loc) (ls : Array Slot), va_P (dC, dI) vwCl [(h_r, .inr (5, oX5 m_r h_g v_r_next v_r_codeLength v_r_ownCell v_r_stopped v_r_fault v_r_faultPlace v_r_laterFault v_r_laterPlace)), (m_r 0, .inl (cyI, 403, .inl v_r_kind)), (m_r 1, .inl (cyI, 403, .inl v_r_start)), (m_r 2, .inl (cyJ, 403, .inr (.inl v_r_value))), (m_tp 0, .inl (cyB, 2000, .inl v_tp_0))] H → va_D A [(h_r, .inr (5, oX5 m_r h_g v_r_next v_r_codeLength v_r_ownCell v_r_stopped v_r_fault v_r_faultPlace v_r_laterFault v_r_laterPlace)), (m_r 0, .inl (cyI, 403, .inl v_r_kind)), (m_r 1, .inl (cyI, 403, .inl v_r_start)), (m_r 2, .inl (cyJ, 403, .inr (.inl v_r_value))), (m_tp 0, .inl (cyB, 2000, .inl v_tp_0))] → va_S A s.heap H locs → lv_has ls 5 [(0, .ref h_r), (1, .ref (m_tp 0)), (2, .int x2), (3, .int x3), (4, .int x4)] → W p l e ({ frames := 7, cells := 0, slots := 0, locals := 156 } : Room) s m ([.ref h_r, .ref (m_tp 0), .int q2] : List Value).toArray below meth c H locs 0 0 Q (F0 m 5 ls [])) (v_r_kind : (Nat → Int32)) (v_r_start : (Nat → Int32)) (v_r_value : (Nat → Int64)) (x2 : Int32) (x3 : Int32) (x4 : Int32), f_X5_scan_b33 k5 v_tp_0 v_r_kind v_r_start v_r_value x2 x3 x4 = some out → ∀ (H : Heap) (locs : List Loc) (ls : Array Slot), va_P (dC, dI) vwCl [(h_r, .inr (5, oX5 m_r h_g v_r_next v_r_codeLength v_r_ownCell v_r_stopped v_r_fault v_r_faultPlace v_r_laterFault v_r_laterPlace)), (m_r 0, .inl (cyI, 403, .inl v_r_kind)), (m_r 1, .inl (cyI, 403, .inl v_r_start)), (m_r 2, .inl (cyJ, 403, .inr (.inl v_r_value))), (m_tp 0, .inl (cyB, 2000, .inl v_tp_0))] H → va_D A [(h_r, .inr (5, oX5 m_r h_g v_r_next v_r_codeLength v_r_ownCell v_r_stopped v_r_fault v_r_faultPlace v_r_laterFault v_r_laterPlace)), (m_r 0, .inl (cyI, 403, .inl v_r_kind)), (m_r 1, .inl (cyI, 403, .inl v_r_start)), (m_r 2, .inl (cyJ, 403, .inr (.inl v_r_value))), (m_tp 0, .inl (cyB, 2000, .inl v_tp_0))] → va_S A s.heap H locs → lv_has ls 5 [(0, .ref h_r), (1, .ref (m_tp 0)), (2, .int x2), (3, .int x3), (4, .int x4)] → W p l e ({ frames := 7, cells := 0, slots := 0, locals := 156 } : Room) s m ([.ref h_r, .ref (m_tp 0), .int q2] : List Value).toArray below meth c H locs 0 0 Q (F0 m 33 ls []) := by
    intro k5 hk5 v_r_kind v_r_start v_r_value x2 x3 x4 hf H locs ls hP hD hS hl
    unfold f_X5_scan_b33 at hf
    refine lv_aload_n hx hb dX5_scan_33 rfl (lv_at hl 0 rfl) ?_
    refine va_get (D := (dC, dI)) (ci := 5) (v := .ref (m_r 1)) (C := RX5) (T := TX5) (N := 14) hx hb hts (g_c inlX5) hown hK hP 0 rfl rfl 1 (by decide) (hts _ (List.mem_cons_of_mem _ wm_3_1)) (fun _ h9 => h9) rfl dX5_scan_34 ?_
    refine lv_iload hx hb dX5_scan_37 (lv_at hl 4 rfl) ?_
    refine lv_iload_n hx hb dX5_scan_39 rfl (lv_at hl 3 rfl) ?_
    obtain ⟨h_1, hf⟩ := ck_some hf
    obtain ⟨a_2, ea_2, hf⟩ := nm_some hf
    refine va_iast hx hb hK hP hD hS 2 0 rfl rfl (inb_in h_1) dX5_scan_40 (fun H locs hP hD hS => ?_)
    have hP : va_P (dC, dI) vwCl [(h_r, .inr (5, oX5 m_r h_g v_r_next v_r_codeLength v_r_ownCell v_r_stopped v_r_fault v_r_faultPlace v_r_laterFault v_r_laterPlace)), (m_r 0, .inl (cyI, 403, .inl v_r_kind)), (m_r 1, .inl (cyI, 403, .inl a_2)), (m_r 2, .inl (cyJ, 403, .inr (.inl v_r_value))), (m_tp 0, .inl (cyB, 2000, .inl v_tp_0))] H := by rw [ea_2]; exact hP
    have hD : va_D A [(h_r, .inr (5, oX5 m_r h_g v_r_next v_r_codeLength v_r_ownCell v_r_stopped v_r_fault v_r_faultPlace v_r_laterFault v_r_laterPlace)), (m_r 0, .inl (cyI, 403, .inl v_r_kind)), (m_r 1, .inl (cyI, 403, .inl a_2)), (m_r 2, .inl (cyJ, 403, .inr (.inl v_r_value))), (m_tp 0, .inl (cyB, 2000, .inl v_tp_0))] := by rw [ea_2]; exact hD
    refine lv_iload_n hx hb dX5_scan_41 rfl (lv_at hl 3 rfl) ?_
    refine lv_iload_n hx hb dX5_scan_42 rfl (lv_at hl 2 rfl) ?_
    refine lv_icmp_ge (tgt := 54) hx hb dX5_scan_43 (by decide) (fun c_3 => ?_) (fun c_3 => ?_)
    · have hf := (if_pos c_3).symm.trans hf
      exact hb_54 _ hk5 _ _ _ _ hf _ _ _ hP hD hS (lv_sub hl [0, 4] rfl)
    · have hf := (if_neg c_3).symm.trans hf
      refine lv_iload hx hb dX5_scan_46 (lv_at hl 4 rfl) ?_
      refine lv_sipush (v := (402 : Int32)) hx hb dX5_scan_48 (by decide) ?_
      refine lv_icmp_ne (tgt := 63) hx hb dX5_scan_51 (by decide) (fun c_4 => ?_) (fun c_4 => ?_)
      · have hf := (if_neg c_4).symm.trans hf
        refine lv_aload_n hx hb dX5_scan_63 rfl (lv_at hl 0 rfl) ?_
        refine lv_iload hx hb dX5_scan_64 (lv_at hl 4 rfl) ?_
        refine lv_aload_n hx hb dX5_scan_66 rfl (lv_at hl 1 rfl) ?_
        refine lv_iload_n hx hb dX5_scan_67 rfl (lv_at hl 2 rfl) ?_
        obtain ⟨o_5, ho_5, hf⟩ := bd_some hf
        obtain ⟨o_5_0, o_5_1, o_5_2⟩ := o_5
        have hf := un3_some hf
        refine ux_Vi (n := 3) (As := [.int x4, .ref (m_tp 0), .int x2]) (rest := []) (wc := [(h_r, .inr (5, oX5 m_r h_g v_r_next v_r_codeLength v_r_ownCell v_r_stopped v_r_fault v_r_faultPlace v_r_laterFault v_r_laterPlace)), (m_r 0, .inl (cyI, 403, .inl v_r_kind)), (m_r 1, .inl (cyI, 403, .inl a_2)), (m_r 2, .inl (cyJ, 403, .inr (.inl v_r_value))), (m_tp 0, .inl (cyB, 2000, .inl v_tp_0))]) (wr := []) ⟨hx, hb, hml, hown, hts⟩ hK hP hD hS hA hE [0, 1, 2, 3, 4] [] (sg_h [(0, 5)] 5 rfl sk_z15_2 rfl) (sg_h [] 5 rfl sk_z15_1 rfl) nd_z15_1 nd_z15_0 nj_z15_2 (c_X5_scanToken l dC dI cyI cyJ cyZ cyB cyO tO vF adK adV h_r m_r h_g m_g (fun _ => m_tp 0) v_r_next v_r_codeLength v_r_ownCell v_r_stopped v_r_fault v_r_faultPlace v_r_laterFault v_r_laterPlace v_r_kind a_2 v_r_value v_tp_0 x4 x2 _ _ ho_5) 5 0 rfl rfl wm_13_1 wm_13_2 wm_13_3 wm_1_18 wm_13_4 ⟨rfl, rfl⟩ (by decide +kernel) rfl ⟨Nat.le_of_ble_eq_true rfl, Nat.le_of_ble_eq_true rfl⟩ hl.1 rfl (Nat.le_of_ble_eq_true rfl) dX5_scan_68 ⟨Nat.le_of_ble_eq_true rfl, Nat.le_of_ble_eq_true rfl⟩ (fun H locs hP hD hS => ?_)
        have hP : va_P (dC, dI) vwCl [(h_r, .inr (5, oX5 m_r h_g v_r_next v_r_codeLength v_r_ownCell v_r_stopped v_r_fault v_r_faultPlace v_r_laterFault v_r_laterPlace)), (m_r 0, .inl (cyI, 403, .inl o_5_1)), (m_r 1, .inl (cyI, 403, .inl a_2)), (m_r 2, .inl (cyJ, 403, .inr (.inl o_5_2))), (m_tp 0, .inl (cyB, 2000, .inl v_tp_0))] H := hP
        have hD : va_D A [(h_r, .inr (5, oX5 m_r h_g v_r_next v_r_codeLength v_r_ownCell v_r_stopped v_r_fault v_r_faultPlace v_r_laterFault v_r_laterPlace)), (m_r 0, .inl (cyI, 403, .inl o_5_1)), (m_r 1, .inl (cyI, 403, .inl a_2)), (m_r 2, .inl (cyJ, 403, .inr (.inl o_5_2))), (m_tp 0, .inl (cyB, 2000, .inl v_tp_0))] := hD
        refine lv_istore_n (lv' := [(3, .int o_5_0), (0, .ref h_r), (1, .ref (m_tp 0)), (2, .int x2), (4, .int x4)]) hx hb dX5_scan_71 rfl hl (by decide) rfl (fun ls hl => ?_)
        refine lv_aload_n hx hb dX5_scan_72 rfl (lv_at hl 1 rfl) ?_
        refine va_get (D := (dC, dI)) (ci := 5) (v := .ref (m_r 0)) (C := RX5) (T := TX5) (N := 14) hx hb hts (g_c inlX5) hown hK hP 0 rfl rfl 0 (by decide) (hts _ (List.mem_cons_of_mem _ wm_3_0)) (fun _ h9 => h9) rfl dX5_scan_73 ?_
        refine lv_iload hx hb dX5_scan_76 (lv_at hl 4 rfl) ?_
        obtain ⟨h_6, hf⟩ := ck_some hf
        refine va_iald hx hb hK hP 1 0 rfl rfl (inb_in h_6) dX5_scan_78 ?_
        refine lv_iconst (v := (4 : Int32)) hx hb dX5_scan_79 (by decide) ?_
        refine lv_icmp_ne (tgt := 84) hx hb dX5_scan_80 (by decide) (fun c_7 => ?_) (fun c_7 => ?_)
        · have hf := (if_neg c_7).symm.trans hf
          refine lv_iinc (v := x4 + (1 : Int32)) (lv' := [(4, .int (x4 + (1 : Int32))), (3, .int o_5_0), (0, .ref h_r), (1, .ref (m_tp 0)), (2, .int x2)]) hx hb dX5_scan_84 hl (k := 4) rfl rfl (by decide) rfl (fun ls hl => ?_)
          refine lv_goto (tgt := 5) hx hb dX5_scan_87 (by decide) ?_
          exact hk5 _ _ _ _ _ _ hf _ _ _ hP hD hS (lv_sub hl [2, 3, 4, 1, 0] rfl)
        · have hf := (if_pos c_7).symm.trans hf
          exact hret _ _ _ _ (o_5_1, a_2, o_5_2) dX5_scan_83 (Option.some.inj hf) hP hD hS
      · have hf := (if_pos c_4).symm.trans hf
        exact hb_54 _ hk5 _ _ _ _ hf _ _ _ hP hD hS (lv_sub hl [0, 4] rfl)
  have hb_13 : ∀ (k5 : (Nat → Int32) → (Nat → Int32) → (Nat → Int64) → Int32 → Int32 → Int32 → Option ((Nat → Int32) × (Nat → Int32) × (Nat → Int64))) (hk5 : ∀ (v_r_kind : (Nat → Int32)) (v_r_start : (Nat → Int32)) (v_r_value : (Nat → Int64)) (x2 : Int32) (x3 : Int32) (x4 : Int32), k5 v_r_kind v_r_start v_r_value x2 x3 x4 = some out → ∀ (H : Heap) (locs : List Loc) (ls : Array Slot), va_P (dC, dI) vwCl [(h_r, .inr (5, oX5 m_r h_g v_r_next v_r_codeLength v_r_ownCell v_r_stopped v_r_fault v_r_faultPlace v_r_laterFault v_r_laterPlace)), (m_r 0, .inl (cyI, 403, .inl v_r_kind)), (m_r 1, .inl (cyI, 403, .inl v_r_start)), (m_r 2, .inl (cyJ, 403, .inr (.inl v_r_value))), (m_tp 0, .inl (cyB, 2000, .inl v_tp_0))] H → va_D A [(h_r, .inr (5, oX5 m_r h_g v_r_next v_r_codeLength v_r_ownCell v_r_stopped v_r_fault v_r_faultPlace v_r_laterFault v_r_laterPlace)), (m_r 0, .inl (cyI, 403, .inl v_r_kind)), (m_r 1, .inl (cyI, 403, .inl v_r_start)), (m_r 2, .inl (cyJ, 403, .inr (.inl v_r_value))), (m_tp 0, .inl (cyB, 2000, .inl v_tp_0))] → va_S A s.heap H locs → lv_has ls 5 [(0, .ref h_r), (1, .ref (m_tp 0)), (2, .int x2), (3, .int x3), (4, .int x4)] → W p l e ({ frames := 7, cells := 0, slots := 0, locals := 156 } : Room) s m ([.ref h_r, .ref (m_tp 0), .int q2] : List Value).toArray below meth c H locs 0 0 Q (F0 m 5 ls [])) (n : Nat) (v_r_kind : (Nat → Int32)) (v_r_start : (Nat → Int32)) (v_r_value : (Nat → Int64)) (x2 : Int32) (x3 : Int32) (x4 : Int32), f_X5_scan_b13 k5 v_tp_0 n v_r_kind v_r_start v_r_value x2 x3 x4 = some out → ∀ (H : Heap) (locs : List Loc) (ls : Array Slot), va_P (dC, dI) vwCl [(h_r, .inr (5, oX5 m_r h_g v_r_next v_r_codeLength v_r_ownCell v_r_stopped v_r_fault v_r_faultPlace v_r_laterFault v_r_laterPlace)), (m_r 0, .inl (cyI, 403, .inl v_r_kind)), (m_r 1, .inl (cyI, 403, .inl v_r_start)), (m_r 2, .inl (cyJ, 403, .inr (.inl v_r_value))), (m_tp 0, .inl (cyB, 2000, .inl v_tp_0))] H → va_D A [(h_r, .inr (5, oX5 m_r h_g v_r_next v_r_codeLength v_r_ownCell v_r_stopped v_r_fault v_r_faultPlace v_r_laterFault v_r_laterPlace)), (m_r 0, .inl (cyI, 403, .inl v_r_kind)), (m_r 1, .inl (cyI, 403, .inl v_r_start)), (m_r 2, .inl (cyJ, 403, .inr (.inl v_r_value))), (m_tp 0, .inl (cyB, 2000, .inl v_tp_0))] → va_S A s.heap H locs → lv_has ls 5 [(0, .ref h_r), (1, .ref (m_tp 0)), (2, .int x2), (3, .int x3), (4, .int x4)] → W p l e ({ frames := 7, cells := 0, slots := 0, locals := 156 } : Room) s m ([.ref h_r, .ref (m_tp 0), .int q2] : List Value).toArray below meth c H locs 0 0 Q (F0 m 13 ls []) := by
    intro k5 hk5 n
    induction n with
    | zero =>
      intro v_r_kind v_r_start v_r_value x2 x3 x4 hf
      exact no_some hf
    | succ n ih =>
      intro v_r_kind v_r_start v_r_value x2 x3 x4 hf H locs ls hP hD hS hl
      have hf : f_X5_scan_b13_st (f_X5_scan_b13 k5 v_tp_0 n) k5 v_tp_0 v_r_kind v_r_start v_r_value x2 x3 x4 = some out := hf
      unfold f_X5_scan_b13_st at hf
      refine lv_iload_n hx hb dX5_scan_13 rfl (lv_at hl 3 rfl) ?_
      refine lv_iload_n hx hb dX5_scan_14 rfl (lv_at hl 2 rfl) ?_
      refine lv_icmp_ge (tgt := 33) hx hb dX5_scan_15 (by decide) (fun c_1 => ?_) (fun c_1 => ?_)
      · have hf := (if_pos c_1).symm.trans hf
        exact hb_33 _ hk5 _ _ _ _ _ _ hf _ _ _ hP hD hS (lv_sub hl [0, 1, 2, 3, 4] rfl)
      · have hf := (if_neg c_1).symm.trans hf
        refine lv_aload_n hx hb dX5_scan_18 rfl (lv_at hl 1 rfl) ?_
        refine lv_iload_n hx hb dX5_scan_19 rfl (lv_at hl 3 rfl) ?_
        obtain ⟨h_2, hf⟩ := ck_some hf
        refine va_bald hx hb hK hP 4 3 rfl rfl (inb_in h_2) dX5_scan_20 ?_
        obtain ⟨o_3, ho_3, hf⟩ := bd_some hf
        refine ux_Si0 (n := 1) (As := [.int (v_tp_0 x3.toNatClampNeg)]) (rest := []) (wc := []) (wr := [_, _, _, _, _]) ⟨hx, hb, hml, hown, hts⟩ hK hP hD hS hA hE [] [0, 1, 2, 3, 4] (sg_h [] 5 rfl sk_z15_1 rfl) (sg_h [(0, 5)] 5 rfl sk_z15_2 rfl) nd_z15_0 nd_z15_1 nj_z15_1 (c_X5_isBlank l dC dI cyI cyJ cyZ cyB cyO tO vF adK adV (v_tp_0 x3.toNatClampNeg) _ _ ho_3) wm_12_22 wm_12_23 wm_1_18 wm_13_0 ⟨rfl, rfl⟩ (by decide +kernel) rfl ⟨Nat.le_of_ble_eq_true rfl, Nat.le_of_ble_eq_true rfl⟩ hl.1 rfl (Nat.le_of_ble_eq_true rfl) dX5_scan_21 ⟨Nat.le_of_ble_eq_true rfl, Nat.le_of_ble_eq_true rfl⟩ (fun H locs hP hD hS => ?_)
        have hP : va_P (dC, dI) vwCl [_, _, _, _, _] H := hP
        have hD : va_D A [_, _, _, _, _] := hD
        refine lv_if_eq (tgt := 33) hx hb dX5_scan_24 (by decide) (fun c_4 => ?_) (fun c_4 => ?_)
        · have hf := (if_pos c_4).symm.trans hf
          exact hb_33 _ hk5 _ _ _ _ _ _ hf _ _ _ hP hD hS (lv_sub hl [0, 1, 2, 3, 4] rfl)
        · have hf := (if_neg c_4).symm.trans hf
          refine lv_iinc (v := x3 + (1 : Int32)) (lv' := [(3, .int (x3 + (1 : Int32))), (0, .ref h_r), (1, .ref (m_tp 0)), (2, .int x2), (4, .int x4)]) hx hb dX5_scan_27 hl (k := 3) rfl rfl (by decide) rfl (fun ls hl => ?_)
          refine lv_goto (tgt := 13) hx hb dX5_scan_30 (by decide) ?_
          exact ih _ _ _ _ _ _ hf _ _ _ hP hD hS (lv_sub hl [1, 2, 3, 0, 4] rfl)
  have hb_5 : ∀ (n : Nat) (v_r_kind : (Nat → Int32)) (v_r_start : (Nat → Int32)) (v_r_value : (Nat → Int64)) (x2 : Int32) (x3 : Int32) (x4 : Int32), f_X5_scan_b5 v_tp_0 n v_r_kind v_r_start v_r_value x2 x3 x4 = some out → ∀ (H : Heap) (locs : List Loc) (ls : Array Slot), va_P (dC, dI) vwCl [(h_r, .inr (5, oX5 m_r h_g v_r_next v_r_codeLength v_r_ownCell v_r_stopped v_r_fault v_r_faultPlace v_r_laterFault v_r_laterPlace)), (m_r 0, .inl (cyI, 403, .inl v_r_kind)), (m_r 1, .inl (cyI, 403, .inl v_r_start)), (m_r 2, .inl (cyJ, 403, .inr (.inl v_r_value))), (m_tp 0, .inl (cyB, 2000, .inl v_tp_0))] H → va_D A [(h_r, .inr (5, oX5 m_r h_g v_r_next v_r_codeLength v_r_ownCell v_r_stopped v_r_fault v_r_faultPlace v_r_laterFault v_r_laterPlace)), (m_r 0, .inl (cyI, 403, .inl v_r_kind)), (m_r 1, .inl (cyI, 403, .inl v_r_start)), (m_r 2, .inl (cyJ, 403, .inr (.inl v_r_value))), (m_tp 0, .inl (cyB, 2000, .inl v_tp_0))] → va_S A s.heap H locs → lv_has ls 5 [(0, .ref h_r), (1, .ref (m_tp 0)), (2, .int x2), (3, .int x3), (4, .int x4)] → W p l e ({ frames := 7, cells := 0, slots := 0, locals := 156 } : Room) s m ([.ref h_r, .ref (m_tp 0), .int q2] : List Value).toArray below meth c H locs 0 0 Q (F0 m 5 ls []) := by
    intro  n
    induction n with
    | zero =>
      intro v_r_kind v_r_start v_r_value x2 x3 x4 hf
      exact no_some hf
    | succ n ih =>
      intro v_r_kind v_r_start v_r_value x2 x3 x4 hf H locs ls hP hD hS hl
      have hf : f_X5_scan_b5_st (f_X5_scan_b5 v_tp_0 n) v_tp_0 v_r_kind v_r_start v_r_value x2 x3 x4 = some out := hf
      unfold f_X5_scan_b5_st at hf
      refine lv_iload hx hb dX5_scan_5 (lv_at hl 4 rfl) ?_
      refine lv_sipush (v := (403 : Int32)) hx hb dX5_scan_7 (by decide) ?_
      refine lv_icmp_ge (tgt := 90) hx hb dX5_scan_10 (by decide) (fun c_1 => ?_) (fun c_1 => ?_)
      · have hf := (if_pos c_1).symm.trans hf
        exact hret _ _ _ _ (v_r_kind, v_r_start, v_r_value) dX5_scan_90 (Option.some.inj hf) hP hD hS
      · have hf := (if_neg c_1).symm.trans hf
        exact hb_13 _ ih _ _ _ _ _ _ _ hf _ _ _ hP hD hS (lv_sub hl [0, 1, 2, 3, 4] rfl)
  unfold f_X5_scan at hf
  refine lv_iconst (v := (0 : Int32)) hx hb dX5_scan_0 (by decide) ?_
  refine lv_istore_n (lv' := [(3, .int (0 : Int32)), (0, .ref h_r), (1, .ref (m_tp 0)), (2, .int q2)]) hx hb dX5_scan_1 rfl hl (by decide) rfl (fun ls hl => ?_)
  refine lv_iconst (v := (0 : Int32)) hx hb dX5_scan_2 (by decide) ?_
  refine lv_istore (lv' := [(4, .int (0 : Int32)), (3, .int (0 : Int32)), (0, .ref h_r), (1, .ref (m_tp 0)), (2, .int q2)]) hx hb dX5_scan_3 hl (by decide) rfl (fun ls hl => ?_)
  exact hb_5 _ _ _ _ _ _ _ hf _ _ _ hP hD hS (lv_sub hl [2, 3, 4, 1, 0] rfl)
def f_X5_note_b15   (v_r_fault : Int32) (v_r_faultPlace : Int32) (x1 : Int32) (x2 : Int32) : Option (Int32 × Int32) := some (x1, x2)
def f_X5_note (v_r_fault : Int32) (v_r_faultPlace : Int32) (q1 : Int32) (q2 : Int32) : Option (Int32 × Int32) := if v_r_fault = (0 : Int32) then (f_X5_note_b15 v_r_fault v_r_faultPlace q1 q2) else (if v_r_faultPlace ≤ q2 then (some (v_r_fault, v_r_faultPlace)) else (f_X5_note_b15 v_r_fault v_r_faultPlace q1 q2))
set_option maxRecDepth 100000 in
set_option maxHeartbeats 8000000 in
theorem c_X5_note (l : Launch) (dC : Nat → ClassId) (dI : Nat → Nat → Nat) (cyI cyJ cyZ cyB cyO : ClassId) (tO : Nat) (vF : Value) (adK adV : Nat → Nat) (h_r : Nat) (m_r : Nat → Nat) (h_g : Nat) (m_g : Nat → Nat) (v_r_next : Int32) (v_r_codeLength : Int32) (v_r_ownCell : Int32) (v_r_stopped : Int32) (v_r_fault : Int32) (v_r_faultPlace : Int32) (v_r_laterFault : Int32) (v_r_laterPlace : Int32) (q1 : Int32) (q2 : Int32) (sz : Nat) (out : Int32 × Int32) (hf : f_X5_note v_r_fault v_r_faultPlace q1 q2 = some out) : Met l yX5_note (Cond.code yX5_note cX5_note 3 none :: wsL_law) ({ frames := 0, cells := 0, slots := 0, locals := 0 } : Room) (va_Pc [.ref h_r, .int q1, .int q2] (ux_pre (dC, dI) vwCl (tyG cyI cyJ cyZ cyB cyO) [(h_r, .inr (5, oX5 m_r h_g v_r_next v_r_codeLength v_r_ownCell v_r_stopped v_r_fault v_r_faultPlace v_r_laterFault v_r_laterPlace))] sz (xE tO vF adK adV))) (va_Qv (fun u : Int32 × Int32 => u = out) (ux_at (dC, dI) vwCl (tyG cyI cyJ cyZ cyB cyO) [(h_r, .inr (5, oX5 m_r h_g v_r_next v_r_codeLength v_r_ownCell v_r_stopped v_r_fault v_r_faultPlace v_r_laterFault v_r_laterPlace))] sz (fun u : Int32 × Int32 => [(h_r, .inr (5, oX5 m_r h_g v_r_next v_r_codeLength v_r_ownCell v_r_stopped u.1 u.2 v_r_laterFault v_r_laterPlace))])) (va_A [(h_r, .inr (5, oX5 m_r h_g v_r_next v_r_codeLength v_r_ownCell v_r_stopped v_r_fault v_r_faultPlace v_r_laterFault v_r_laterPlace))] sz)) 0 0 (va_A [(h_r, .inr (5, oX5 m_r h_g v_r_next v_r_codeLength v_r_ownCell v_r_stopped v_r_fault v_r_faultPlace v_r_laterFault v_r_laterPlace))] sz) := by
  refine ux_metv (by decide +kernel) (Nat.le_of_ble_eq_true rfl) ?_
  intro p e s m below meth c A Q ls hx hb hml hts hown hA hP hK hD hE hl hret
  have hown : s.vm.findClass RX5 = some m.cls := hown
  have hS : va_S A s.heap s.heap [] := va_S.rf
  have hl : lv_has ls 3 [(0, .ref h_r), (1, .int q1), (2, .int q2)] := hl
  have hb_15 : ∀ (v_r_fault : Int32) (v_r_faultPlace : Int32) (x1 : Int32) (x2 : Int32), f_X5_note_b15 v_r_fault v_r_faultPlace x1 x2 = some out → ∀ (H : Heap) (locs : List Loc) (ls : Array Slot), va_P (dC, dI) vwCl [(h_r, .inr (5, oX5 m_r h_g v_r_next v_r_codeLength v_r_ownCell v_r_stopped v_r_fault v_r_faultPlace v_r_laterFault v_r_laterPlace))] H → va_D A [(h_r, .inr (5, oX5 m_r h_g v_r_next v_r_codeLength v_r_ownCell v_r_stopped v_r_fault v_r_faultPlace v_r_laterFault v_r_laterPlace))] → va_S A s.heap H locs → lv_has ls 3 [(0, .ref h_r), (1, .int x1), (2, .int x2)] → W p l e ({ frames := 0, cells := 0, slots := 0, locals := 0 } : Room) s m ([.ref h_r, .int q1, .int q2] : List Value).toArray below meth c H locs 0 0 Q (F0 m 15 ls []) := by
    intro  v_r_fault v_r_faultPlace x1 x2 hf H locs ls hP hD hS hl
    unfold f_X5_note_b15 at hf
    refine lv_aload_n hx hb dX5_note_15 rfl (lv_at hl 0 rfl) ?_
    refine lv_iload_n hx hb dX5_note_16 rfl (lv_at hl 1 rfl) ?_
    refine va_put (D := (dC, dI)) (ci := 5) (v := .int x1) (ty := .int) (C := RX5) (T := TX5) (N := 14) hx hb hts (g_c inlX5) tyX5 tyX5_ok nmX5 hown hK hP hD hS 0 rfl rfl 10 (by decide) (hts _ (List.mem_cons_of_mem _ wm_3_12)) (fun _ h9 => h9) rfl (by decide +kernel) rfl rfl (Nat.le_of_ble_eq_true rfl) dX5_note_17 (fun H locs hP hD hS => ?_)
    have hP : va_P (dC, dI) vwCl [(h_r, .inr (5, oX5 m_r h_g v_r_next v_r_codeLength v_r_ownCell v_r_stopped x1 v_r_faultPlace v_r_laterFault v_r_laterPlace))] H := hP
    have hD : va_D A [(h_r, .inr (5, oX5 m_r h_g v_r_next v_r_codeLength v_r_ownCell v_r_stopped x1 v_r_faultPlace v_r_laterFault v_r_laterPlace))] := hD
    refine lv_aload_n hx hb dX5_note_20 rfl (lv_at hl 0 rfl) ?_
    refine lv_iload_n hx hb dX5_note_21 rfl (lv_at hl 2 rfl) ?_
    refine va_put (D := (dC, dI)) (ci := 5) (v := .int x2) (ty := .int) (C := RX5) (T := TX5) (N := 14) hx hb hts (g_c inlX5) tyX5 tyX5_ok nmX5 hown hK hP hD hS 0 rfl rfl 11 (by decide) (hts _ (List.mem_cons_of_mem _ wm_3_13)) (fun _ h9 => h9) rfl (by decide +kernel) rfl rfl (Nat.le_of_ble_eq_true rfl) dX5_note_22 (fun H locs hP hD hS => ?_)
    have hP : va_P (dC, dI) vwCl [(h_r, .inr (5, oX5 m_r h_g v_r_next v_r_codeLength v_r_ownCell v_r_stopped x1 x2 v_r_laterFault v_r_laterPlace))] H := hP
    have hD : va_D A [(h_r, .inr (5, oX5 m_r h_g v_r_next v_r_codeLength v_r_ownCell v_r_stopped x1 x2 v_r_laterFault v_r_laterPlace))] := hD
    exact hret _ _ _ _ (x1, x2) dX5_note_25 (Option.some.inj hf) hP hD hS
  unfold f_X5_note at hf
  refine lv_aload_n hx hb dX5_note_0 rfl (lv_at hl 0 rfl) ?_
  refine va_get (D := (dC, dI)) (ci := 5) (v := .int v_r_fault) (C := RX5) (T := TX5) (N := 14) hx hb hts (g_c inlX5) hown hK hP 0 rfl rfl 10 (by decide) (hts _ (List.mem_cons_of_mem _ wm_3_12)) (fun _ h9 => h9) rfl dX5_note_1 ?_
  refine lv_if_eq (tgt := 15) hx hb dX5_note_4 (by decide) (fun c_1 => ?_) (fun c_1 => ?_)
  · have hf := (if_pos c_1).symm.trans hf
    exact hb_15 _ _ _ _ hf _ _ _ hP hD hS (lv_sub hl [0, 1, 2] rfl)
  · have hf := (if_neg c_1).symm.trans hf
    refine lv_iload_n hx hb dX5_note_7 rfl (lv_at hl 2 rfl) ?_
    refine lv_aload_n hx hb dX5_note_8 rfl (lv_at hl 0 rfl) ?_
    refine va_get (D := (dC, dI)) (ci := 5) (v := .int v_r_faultPlace) (C := RX5) (T := TX5) (N := 14) hx hb hts (g_c inlX5) hown hK hP 0 rfl rfl 11 (by decide) (hts _ (List.mem_cons_of_mem _ wm_3_13)) (fun _ h9 => h9) rfl dX5_note_9 ?_
    refine lv_icmp_ge (tgt := 25) hx hb dX5_note_12 (by decide) (fun c_2 => ?_) (fun c_2 => ?_)
    · have hf := (if_pos c_2).symm.trans hf
      exact hret _ _ _ _ (v_r_fault, v_r_faultPlace) dX5_note_25 (Option.some.inj hf) hP hD hS
    · have hf := (if_neg c_2).symm.trans hf
      exact hb_15 _ _ _ _ hf _ _ _ hP hD hS (lv_sub hl [0, 1, 2] rfl)
def f_X5_stop (v_r_stopped : Int32) (v_r_fault : Int32) (v_r_faultPlace : Int32) (q1 : Int32) (q2 : Int32) : Option (Int32 × Int32 × Int32) := bd (f_X5_note v_r_fault v_r_faultPlace q1 q2) (fun o_1 => un2 o_1 (fun o_1_0 o_1_1 => some ((1 : Int32), o_1_0, o_1_1)))
set_option maxRecDepth 100000 in
set_option maxHeartbeats 8000000 in
theorem c_X5_stop (l : Launch) (dC : Nat → ClassId) (dI : Nat → Nat → Nat) (cyI cyJ cyZ cyB cyO : ClassId) (tO : Nat) (vF : Value) (adK adV : Nat → Nat) (h_r : Nat) (m_r : Nat → Nat) (h_g : Nat) (m_g : Nat → Nat) (v_r_next : Int32) (v_r_codeLength : Int32) (v_r_ownCell : Int32) (v_r_stopped : Int32) (v_r_fault : Int32) (v_r_faultPlace : Int32) (v_r_laterFault : Int32) (v_r_laterPlace : Int32) (q1 : Int32) (q2 : Int32) (sz : Nat) (out : Int32 × Int32 × Int32) (hf : f_X5_stop v_r_stopped v_r_fault v_r_faultPlace q1 q2 = some out) : Met l yX5_stop (Cond.code yX5_stop cX5_stop 3 none :: wsL_law) ({ frames := 1, cells := 0, slots := 0, locals := 22 } : Room) (va_Pc [.ref h_r, .int q1, .int q2] (ux_pre (dC, dI) vwCl (tyG cyI cyJ cyZ cyB cyO) [(h_r, .inr (5, oX5 m_r h_g v_r_next v_r_codeLength v_r_ownCell v_r_stopped v_r_fault v_r_faultPlace v_r_laterFault v_r_laterPlace))] sz (xE tO vF adK adV))) (va_Qv (fun u : Int32 × Int32 × Int32 => u = out) (ux_at (dC, dI) vwCl (tyG cyI cyJ cyZ cyB cyO) [(h_r, .inr (5, oX5 m_r h_g v_r_next v_r_codeLength v_r_ownCell v_r_stopped v_r_fault v_r_faultPlace v_r_laterFault v_r_laterPlace))] sz (fun u : Int32 × Int32 × Int32 => [(h_r, .inr (5, oX5 m_r h_g v_r_next v_r_codeLength v_r_ownCell u.1 u.2.1 u.2.2 v_r_laterFault v_r_laterPlace))])) (va_A [(h_r, .inr (5, oX5 m_r h_g v_r_next v_r_codeLength v_r_ownCell v_r_stopped v_r_fault v_r_faultPlace v_r_laterFault v_r_laterPlace))] sz)) 0 0 (va_A [(h_r, .inr (5, oX5 m_r h_g v_r_next v_r_codeLength v_r_ownCell v_r_stopped v_r_fault v_r_faultPlace v_r_laterFault v_r_laterPlace))] sz) := by
  refine ux_metv (by decide +kernel) (Nat.le_of_ble_eq_true rfl) ?_
  intro p e s m below meth c A Q ls hx hb hml hts hown hA hP hK hD hE hl hret
  have hown : s.vm.findClass RX5 = some m.cls := hown
  have hS : va_S A s.heap s.heap [] := va_S.rf
  have hl : lv_has ls 3 [(0, .ref h_r), (1, .int q1), (2, .int q2)] := hl
  unfold f_X5_stop at hf
  refine lv_aload_n hx hb dX5_stop_0 rfl (lv_at hl 0 rfl) ?_
  refine lv_iload_n hx hb dX5_stop_1 rfl (lv_at hl 1 rfl) ?_
  refine lv_iload_n hx hb dX5_stop_2 rfl (lv_at hl 2 rfl) ?_
  obtain ⟨o_1, ho_1, hf⟩ := bd_some hf
  obtain ⟨o_1_0, o_1_1⟩ := o_1
  have hf := un2_some hf
  refine ux_Vv (n := 2) (As := [.int q1, .int q2]) (rest := []) (wc := [(h_r, .inr (5, oX5 m_r h_g v_r_next v_r_codeLength v_r_ownCell v_r_stopped v_r_fault v_r_faultPlace v_r_laterFault v_r_laterPlace))]) (wr := []) ⟨hx, hb, hml, hown, hts⟩ hK hP hD hS hA hE [0] [] (sg_h [(0, 1)] 1 rfl sk_z15_3 rfl) (sg_h [] 1 rfl sk_z15_4 rfl) nd_z15_2 nd_z15_0 nj_z15_3 (c_X5_note l dC dI cyI cyJ cyZ cyB cyO tO vF adK adV h_r m_r h_g m_g v_r_next v_r_codeLength v_r_ownCell v_r_stopped v_r_fault v_r_faultPlace v_r_laterFault v_r_laterPlace q1 q2 _ _ ho_1) 5 0 rfl rfl wm_19_0 wm_19_1 wm_19_2 wm_1_18 wm_19_3 ⟨rfl, rfl⟩ (by decide +kernel) rfl ⟨Nat.le_of_ble_eq_true rfl, Nat.le_of_ble_eq_true rfl⟩ hl.1 rfl (Nat.le_of_ble_eq_true rfl) dX5_stop_3 ⟨Nat.le_of_ble_eq_true rfl, Nat.le_of_ble_eq_true rfl⟩ (fun H locs hP hD hS => ?_)
  have hP : va_P (dC, dI) vwCl [(h_r, .inr (5, oX5 m_r h_g v_r_next v_r_codeLength v_r_ownCell v_r_stopped o_1_0 o_1_1 v_r_laterFault v_r_laterPlace))] H := hP
  have hD : va_D A [(h_r, .inr (5, oX5 m_r h_g v_r_next v_r_codeLength v_r_ownCell v_r_stopped o_1_0 o_1_1 v_r_laterFault v_r_laterPlace))] := hD
  refine lv_aload_n hx hb dX5_stop_6 rfl (lv_at hl 0 rfl) ?_
  refine lv_iconst (v := (1 : Int32)) hx hb dX5_stop_7 (by decide) ?_
  refine va_put (D := (dC, dI)) (ci := 5) (v := .int (1 : Int32)) (ty := .boolean) (C := RX5) (T := TX5) (N := 14) hx hb hts (g_c inlX5) tyX5 tyX5_ok nmX5 hown hK hP hD hS 0 rfl rfl 9 (by decide) (hts _ (List.mem_cons_of_mem _ wm_3_11)) (fun _ h9 => h9) rfl (by decide +kernel) rfl rfl (Nat.le_of_ble_eq_true rfl) dX5_stop_8 (fun H locs hP hD hS => ?_)
  have hP : va_P (dC, dI) vwCl [(h_r, .inr (5, oX5 m_r h_g v_r_next v_r_codeLength v_r_ownCell (1 : Int32) o_1_0 o_1_1 v_r_laterFault v_r_laterPlace))] H := hP
  have hD : va_D A [(h_r, .inr (5, oX5 m_r h_g v_r_next v_r_codeLength v_r_ownCell (1 : Int32) o_1_0 o_1_1 v_r_laterFault v_r_laterPlace))] := hD
  exact hret _ _ _ _ ((1 : Int32), o_1_0, o_1_1) dX5_stop_11 (Option.some.inj hf) hP hD hS
def f_X5_later (v_r_next : Int32) (v_r_start : (Nat → Int32)) (v_r_laterFault : Int32) (v_r_laterPlace : Int32) (q1 : Int32) : Option (Int32 × Int32) := if v_r_laterFault = (0 : Int32) then (if v_r_next ≤ (0 : Int32) then (some (v_r_laterFault, v_r_laterPlace)) else (ck (inb (v_r_next - (1 : Int32)) 403) (nm ((v_r_start (v_r_next - (1 : Int32)).toNatClampNeg)) (fun e_4 => some (q1, e_4))))) else (some (v_r_laterFault, v_r_laterPlace))
set_option maxRecDepth 100000 in
set_option maxHeartbeats 8000000 in
theorem c_X5_later (l : Launch) (dC : Nat → ClassId) (dI : Nat → Nat → Nat) (cyI cyJ cyZ cyB cyO : ClassId) (tO : Nat) (vF : Value) (adK adV : Nat → Nat) (h_r : Nat) (m_r : Nat → Nat) (h_g : Nat) (m_g : Nat → Nat) (v_r_next : Int32) (v_r_codeLength : Int32) (v_r_ownCell : Int32) (v_r_stopped : Int32) (v_r_fault : Int32) (v_r_faultPlace : Int32) (v_r_laterFault : Int32) (v_r_laterPlace : Int32) (v_r_start : (Nat → Int32)) (q1 : Int32) (sz : Nat) (out : Int32 × Int32) (hf : f_X5_later v_r_next v_r_start v_r_laterFault v_r_laterPlace q1 = some out) : Met l yX5_later (Cond.code yX5_later cX5_later 2 none :: wsL_law) ({ frames := 0, cells := 0, slots := 0, locals := 0 } : Room) (va_Pc [.ref h_r, .int q1] (ux_pre (dC, dI) vwCl (tyG cyI cyJ cyZ cyB cyO) [(h_r, .inr (5, oX5 m_r h_g v_r_next v_r_codeLength v_r_ownCell v_r_stopped v_r_fault v_r_faultPlace v_r_laterFault v_r_laterPlace)), (m_r 1, .inl (cyI, 403, .inl v_r_start))] sz (xE tO vF adK adV))) (va_Qv (fun u : Int32 × Int32 => u = out) (ux_at (dC, dI) vwCl (tyG cyI cyJ cyZ cyB cyO) [(h_r, .inr (5, oX5 m_r h_g v_r_next v_r_codeLength v_r_ownCell v_r_stopped v_r_fault v_r_faultPlace v_r_laterFault v_r_laterPlace)), (m_r 1, .inl (cyI, 403, .inl v_r_start))] sz (fun u : Int32 × Int32 => [(h_r, .inr (5, oX5 m_r h_g v_r_next v_r_codeLength v_r_ownCell v_r_stopped v_r_fault v_r_faultPlace u.1 u.2)), (m_r 1, .inl (cyI, 403, .inl v_r_start))])) (va_A [(h_r, .inr (5, oX5 m_r h_g v_r_next v_r_codeLength v_r_ownCell v_r_stopped v_r_fault v_r_faultPlace v_r_laterFault v_r_laterPlace)), (m_r 1, .inl (cyI, 403, .inl v_r_start))] sz)) 0 0 (va_A [(h_r, .inr (5, oX5 m_r h_g v_r_next v_r_codeLength v_r_ownCell v_r_stopped v_r_fault v_r_faultPlace v_r_laterFault v_r_laterPlace)), (m_r 1, .inl (cyI, 403, .inl v_r_start))] sz) := by
  refine ux_metv (by decide +kernel) (Nat.le_of_ble_eq_true rfl) ?_
  intro p e s m below meth c A Q ls hx hb hml hts hown hA hP hK hD hE hl hret
  have hown : s.vm.findClass RX5 = some m.cls := hown
  have hS : va_S A s.heap s.heap [] := va_S.rf
  have hl : lv_has ls 2 [(0, .ref h_r), (1, .int q1)] := hl
  unfold f_X5_later at hf
  refine lv_aload_n hx hb dX5_later_0 rfl (lv_at hl 0 rfl) ?_
  refine va_get (D := (dC, dI)) (ci := 5) (v := .int v_r_laterFault) (C := RX5) (T := TX5) (N := 14) hx hb hts (g_c inlX5) hown hK hP 0 rfl rfl 12 (by decide) (hts _ (List.mem_cons_of_mem _ wm_3_14)) (fun _ h9 => h9) rfl dX5_later_1 ?_
  refine lv_if_ne (tgt := 34) hx hb dX5_later_4 (by decide) (fun c_1 => ?_) (fun c_1 => ?_)
  · have hf := (if_neg c_1).symm.trans hf
    exact hret _ _ _ _ (v_r_laterFault, v_r_laterPlace) dX5_later_34 (Option.some.inj hf) hP hD hS
  · have hf := (if_pos c_1).symm.trans hf
    refine lv_aload_n hx hb dX5_later_7 rfl (lv_at hl 0 rfl) ?_
    refine va_get (D := (dC, dI)) (ci := 5) (v := .int v_r_next) (C := RX5) (T := TX5) (N := 14) hx hb hts (g_c inlX5) hown hK hP 0 rfl rfl 6 (by decide) (hts _ (List.mem_cons_of_mem _ wm_3_8)) (fun _ h9 => h9) rfl dX5_later_8 ?_
    refine lv_if_le (tgt := 34) hx hb dX5_later_11 (by decide) (fun c_2 => ?_) (fun c_2 => ?_)
    · have hf := (if_pos c_2).symm.trans hf
      exact hret _ _ _ _ (v_r_laterFault, v_r_laterPlace) dX5_later_34 (Option.some.inj hf) hP hD hS
    · have hf := (if_neg c_2).symm.trans hf
      refine lv_aload_n hx hb dX5_later_14 rfl (lv_at hl 0 rfl) ?_
      refine lv_iload_n hx hb dX5_later_15 rfl (lv_at hl 1 rfl) ?_
      refine va_put (D := (dC, dI)) (ci := 5) (v := .int q1) (ty := .int) (C := RX5) (T := TX5) (N := 14) hx hb hts (g_c inlX5) tyX5 tyX5_ok nmX5 hown hK hP hD hS 0 rfl rfl 12 (by decide) (hts _ (List.mem_cons_of_mem _ wm_3_14)) (fun _ h9 => h9) rfl (by decide +kernel) rfl rfl (Nat.le_of_ble_eq_true rfl) dX5_later_16 (fun H locs hP hD hS => ?_)
      have hP : va_P (dC, dI) vwCl [(h_r, .inr (5, oX5 m_r h_g v_r_next v_r_codeLength v_r_ownCell v_r_stopped v_r_fault v_r_faultPlace q1 v_r_laterPlace)), (m_r 1, .inl (cyI, 403, .inl v_r_start))] H := hP
      have hD : va_D A [(h_r, .inr (5, oX5 m_r h_g v_r_next v_r_codeLength v_r_ownCell v_r_stopped v_r_fault v_r_faultPlace q1 v_r_laterPlace)), (m_r 1, .inl (cyI, 403, .inl v_r_start))] := hD
      refine lv_aload_n hx hb dX5_later_19 rfl (lv_at hl 0 rfl) ?_
      refine lv_aload_n hx hb dX5_later_20 rfl (lv_at hl 0 rfl) ?_
      refine va_get (D := (dC, dI)) (ci := 5) (v := .ref (m_r 1)) (C := RX5) (T := TX5) (N := 14) hx hb hts (g_c inlX5) hown hK hP 0 rfl rfl 1 (by decide) (hts _ (List.mem_cons_of_mem _ wm_3_1)) (fun _ h9 => h9) rfl dX5_later_21 ?_
      refine lv_aload_n hx hb dX5_later_24 rfl (lv_at hl 0 rfl) ?_
      refine va_get (D := (dC, dI)) (ci := 5) (v := .int v_r_next) (C := RX5) (T := TX5) (N := 14) hx hb hts (g_c inlX5) hown hK hP 0 rfl rfl 6 (by decide) (hts _ (List.mem_cons_of_mem _ wm_3_8)) (fun _ h9 => h9) rfl dX5_later_25 ?_
      refine lv_iconst (v := (1 : Int32)) hx hb dX5_later_28 (by decide) ?_
      refine lv_isub hx hb dX5_later_29 ?_
      obtain ⟨h_3, hf⟩ := ck_some hf
      refine va_iald hx hb hK hP 1 0 rfl rfl (inb_in h_3) dX5_later_30 ?_
      obtain ⟨e_4, ee_4, hf⟩ := nm_some hf
      rw [← ee_4]
      refine va_put (D := (dC, dI)) (ci := 5) (v := .int e_4) (ty := .int) (C := RX5) (T := TX5) (N := 14) hx hb hts (g_c inlX5) tyX5 tyX5_ok nmX5 hown hK hP hD hS 0 rfl rfl 13 (by decide) (hts _ (List.mem_cons_of_mem _ wm_3_15)) (fun _ h9 => h9) rfl (by decide +kernel) rfl rfl (Nat.le_of_ble_eq_true rfl) dX5_later_31 (fun H locs hP hD hS => ?_)
      have hP : va_P (dC, dI) vwCl [(h_r, .inr (5, oX5 m_r h_g v_r_next v_r_codeLength v_r_ownCell v_r_stopped v_r_fault v_r_faultPlace q1 e_4)), _] H := hP
      have hD : va_D A [(h_r, .inr (5, oX5 m_r h_g v_r_next v_r_codeLength v_r_ownCell v_r_stopped v_r_fault v_r_faultPlace q1 e_4)), _] := hD
      exact hret _ _ _ _ (q1, e_4) dX5_later_34 (Option.some.inj hf) hP hD hS
def f_X5_accept_b62   (v_r_next : Int32) (v_r_stopped : Int32) (v_r_fault : Int32) (v_r_faultPlace : Int32) : Option (Int32 × Int32 × Int32 × Int32 × Int32) := some ((1 : Int32), (v_r_next + (1 : Int32)), v_r_stopped, v_r_fault, v_r_faultPlace)
def f_X5_accept (v_r_kind : (Nat → Int32)) (v_r_start : (Nat → Int32)) (v_r_next : Int32) (v_r_stopped : Int32) (v_r_fault : Int32) (v_r_faultPlace : Int32) (q1 : Int32) : Option (Int32 × Int32 × Int32 × Int32 × Int32) := if v_r_stopped = (0 : Int32) then (ck (inb v_r_next 403) (if (v_r_kind v_r_next.toNatClampNeg) = q1 then (if v_r_next < (400 : Int32) then (f_X5_accept_b62 v_r_next v_r_stopped v_r_fault v_r_faultPlace) else (ck (inb v_r_next 403) (bd (f_X5_note v_r_fault v_r_faultPlace (2 : Int32) (v_r_start v_r_next.toNatClampNeg)) (fun o_6 => un2 o_6 (fun o_6_0 o_6_1 => f_X5_accept_b62 v_r_next v_r_stopped o_6_0 o_6_1))))) else (ck (inb v_r_next 403) (bd (f_X5_stop v_r_stopped v_r_fault v_r_faultPlace (1 : Int32) (v_r_start v_r_next.toNatClampNeg)) (fun o_8 => un3 o_8 (fun o_8_0 o_8_1 o_8_2 => some ((0 : Int32), v_r_next, o_8_0, o_8_1, o_8_2))))))) else (some ((0 : Int32), v_r_next, v_r_stopped, v_r_fault, v_r_faultPlace))
set_option maxRecDepth 100000 in
set_option maxHeartbeats 8000000 in
theorem c_X5_accept (l : Launch) (dC : Nat → ClassId) (dI : Nat → Nat → Nat) (cyI cyJ cyZ cyB cyO : ClassId) (tO : Nat) (vF : Value) (adK adV : Nat → Nat) (h_r : Nat) (m_r : Nat → Nat) (h_g : Nat) (m_g : Nat → Nat) (v_r_next : Int32) (v_r_codeLength : Int32) (v_r_ownCell : Int32) (v_r_stopped : Int32) (v_r_fault : Int32) (v_r_faultPlace : Int32) (v_r_laterFault : Int32) (v_r_laterPlace : Int32) (v_r_kind : (Nat → Int32)) (v_r_start : (Nat → Int32)) (q1 : Int32) (sz : Nat) (out : Int32 × Int32 × Int32 × Int32 × Int32) (hf : f_X5_accept v_r_kind v_r_start v_r_next v_r_stopped v_r_fault v_r_faultPlace q1 = some out) : Met l yX5_accept (Cond.code yX5_accept cX5_accept 2 (some .boolean) :: wsL_law) ({ frames := 2, cells := 0, slots := 0, locals := 44 } : Room) (va_Pc [.ref h_r, .int q1] (ux_pre (dC, dI) vwCl (tyG cyI cyJ cyZ cyB cyO) [(h_r, .inr (5, oX5 m_r h_g v_r_next v_r_codeLength v_r_ownCell v_r_stopped v_r_fault v_r_faultPlace v_r_laterFault v_r_laterPlace)), (m_r 0, .inl (cyI, 403, .inl v_r_kind)), (m_r 1, .inl (cyI, 403, .inl v_r_start))] sz (xE tO vF adK adV))) (va_Qi (fun (r : Int32) (u : Int32 × Int32 × Int32 × Int32) => (r, u) = out) (ux_at (dC, dI) vwCl (tyG cyI cyJ cyZ cyB cyO) [(h_r, .inr (5, oX5 m_r h_g v_r_next v_r_codeLength v_r_ownCell v_r_stopped v_r_fault v_r_faultPlace v_r_laterFault v_r_laterPlace)), (m_r 0, .inl (cyI, 403, .inl v_r_kind)), (m_r 1, .inl (cyI, 403, .inl v_r_start))] sz (fun u : Int32 × Int32 × Int32 × Int32 => [(h_r, .inr (5, oX5 m_r h_g u.1 v_r_codeLength v_r_ownCell u.2.1 u.2.2.1 u.2.2.2 v_r_laterFault v_r_laterPlace)), (m_r 0, .inl (cyI, 403, .inl v_r_kind)), (m_r 1, .inl (cyI, 403, .inl v_r_start))])) (va_A [(h_r, .inr (5, oX5 m_r h_g v_r_next v_r_codeLength v_r_ownCell v_r_stopped v_r_fault v_r_faultPlace v_r_laterFault v_r_laterPlace)), (m_r 0, .inl (cyI, 403, .inl v_r_kind)), (m_r 1, .inl (cyI, 403, .inl v_r_start))] sz)) 0 0 (va_A [(h_r, .inr (5, oX5 m_r h_g v_r_next v_r_codeLength v_r_ownCell v_r_stopped v_r_fault v_r_faultPlace v_r_laterFault v_r_laterPlace)), (m_r 0, .inl (cyI, 403, .inl v_r_kind)), (m_r 1, .inl (cyI, 403, .inl v_r_start))] sz) := by
  refine ux_metz (by decide +kernel) (Nat.le_of_ble_eq_true rfl) ?_
  intro p e s m below meth c A Q ls hx hb hml hts hown hA hP hK hD hE hl hret
  have hown : s.vm.findClass RX5 = some m.cls := hown
  have hS : va_S A s.heap s.heap [] := va_S.rf
  have hl : lv_has ls 2 [(0, .ref h_r), (1, .int q1)] := hl
  have hb_62 : ∀ (v_r_next : Int32) (v_r_stopped : Int32) (v_r_fault : Int32) (v_r_faultPlace : Int32), f_X5_accept_b62 v_r_next v_r_stopped v_r_fault v_r_faultPlace = some out → ∀ (H : Heap) (locs : List Loc) (ls : Array Slot), va_P (dC, dI) vwCl [(h_r, .inr (5, oX5 m_r h_g v_r_next v_r_codeLength v_r_ownCell v_r_stopped v_r_fault v_r_faultPlace v_r_laterFault v_r_laterPlace)), (m_r 0, .inl (cyI, 403, .inl v_r_kind)), (m_r 1, .inl (cyI, 403, .inl v_r_start))] H → va_D A [(h_r, .inr (5, oX5 m_r h_g v_r_next v_r_codeLength v_r_ownCell v_r_stopped v_r_fault v_r_faultPlace v_r_laterFault v_r_laterPlace)), (m_r 0, .inl (cyI, 403, .inl v_r_kind)), (m_r 1, .inl (cyI, 403, .inl v_r_start))] → va_S A s.heap H locs → lv_has ls 2 [(0, .ref h_r)] → W p l e ({ frames := 2, cells := 0, slots := 0, locals := 44 } : Room) s m ([.ref h_r, .int q1] : List Value).toArray below meth c H locs 0 0 Q (F0 m 62 ls []) := by
    intro  v_r_next v_r_stopped v_r_fault v_r_faultPlace hf H locs ls hP hD hS hl
    unfold f_X5_accept_b62 at hf
    refine lv_aload_n hx hb dX5_accept_62 rfl (lv_at hl 0 rfl) ?_
    refine lv_dup hx hb dX5_accept_63 rfl ?_
    refine va_get (D := (dC, dI)) (ci := 5) (v := .int v_r_next) (C := RX5) (T := TX5) (N := 14) hx hb hts (g_c inlX5) hown hK hP 0 rfl rfl 6 (by decide) (hts _ (List.mem_cons_of_mem _ wm_3_8)) (fun _ h9 => h9) rfl dX5_accept_64 ?_
    refine lv_iconst (v := (1 : Int32)) hx hb dX5_accept_67 (by decide) ?_
    refine lv_iadd hx hb dX5_accept_68 ?_
    refine va_put (D := (dC, dI)) (ci := 5) (v := .int (v_r_next + (1 : Int32))) (ty := .int) (C := RX5) (T := TX5) (N := 14) hx hb hts (g_c inlX5) tyX5 tyX5_ok nmX5 hown hK hP hD hS 0 rfl rfl 6 (by decide) (hts _ (List.mem_cons_of_mem _ wm_3_8)) (fun _ h9 => h9) rfl (by decide +kernel) rfl rfl (Nat.le_of_ble_eq_true rfl) dX5_accept_69 (fun H locs hP hD hS => ?_)
    have hP : va_P (dC, dI) vwCl [(h_r, .inr (5, oX5 m_r h_g (v_r_next + (1 : Int32)) v_r_codeLength v_r_ownCell v_r_stopped v_r_fault v_r_faultPlace v_r_laterFault v_r_laterPlace)), (m_r 0, .inl (cyI, 403, .inl v_r_kind)), (m_r 1, .inl (cyI, 403, .inl v_r_start))] H := hP
    have hD : va_D A [(h_r, .inr (5, oX5 m_r h_g (v_r_next + (1 : Int32)) v_r_codeLength v_r_ownCell v_r_stopped v_r_fault v_r_faultPlace v_r_laterFault v_r_laterPlace)), (m_r 0, .inl (cyI, 403, .inl v_r_kind)), (m_r 1, .inl (cyI, 403, .inl v_r_start))] := hD
    refine lv_iconst (v := (1 : Int32)) hx hb dX5_accept_72 (by decide) ?_
    exact hret _ _ _ _ (1 : Int32) ((v_r_next + (1 : Int32)), v_r_stopped, v_r_fault, v_r_faultPlace) dX5_accept_73 (Option.some.inj hf) rfl hP hD hS
  unfold f_X5_accept at hf
  refine lv_aload_n hx hb dX5_accept_0 rfl (lv_at hl 0 rfl) ?_
  refine va_get (D := (dC, dI)) (ci := 5) (v := .int v_r_stopped) (C := RX5) (T := TX5) (N := 14) hx hb hts (g_c inlX5) hown hK hP 0 rfl rfl 9 (by decide) (hts _ (List.mem_cons_of_mem _ wm_3_11)) (fun _ h9 => h9) rfl dX5_accept_1 ?_
  refine lv_if_eq (tgt := 9) hx hb dX5_accept_4 (by decide) (fun c_1 => ?_) (fun c_1 => ?_)
  · have hf := (if_pos c_1).symm.trans hf
    refine lv_aload_n hx hb dX5_accept_9 rfl (lv_at hl 0 rfl) ?_
    refine va_get (D := (dC, dI)) (ci := 5) (v := .ref (m_r 0)) (C := RX5) (T := TX5) (N := 14) hx hb hts (g_c inlX5) hown hK hP 0 rfl rfl 0 (by decide) (hts _ (List.mem_cons_of_mem _ wm_3_0)) (fun _ h9 => h9) rfl dX5_accept_10 ?_
    refine lv_aload_n hx hb dX5_accept_13 rfl (lv_at hl 0 rfl) ?_
    refine va_get (D := (dC, dI)) (ci := 5) (v := .int v_r_next) (C := RX5) (T := TX5) (N := 14) hx hb hts (g_c inlX5) hown hK hP 0 rfl rfl 6 (by decide) (hts _ (List.mem_cons_of_mem _ wm_3_8)) (fun _ h9 => h9) rfl dX5_accept_14 ?_
    obtain ⟨h_2, hf⟩ := ck_some hf
    refine va_iald hx hb hK hP 1 0 rfl rfl (inb_in h_2) dX5_accept_17 ?_
    refine lv_iload_n hx hb dX5_accept_18 rfl (lv_at hl 1 rfl) ?_
    refine lv_icmp_eq (tgt := 38) hx hb dX5_accept_19 (by decide) (fun c_3 => ?_) (fun c_3 => ?_)
    · have hf := (if_pos c_3).symm.trans hf
      refine lv_aload_n hx hb dX5_accept_38 rfl (lv_at hl 0 rfl) ?_
      refine va_get (D := (dC, dI)) (ci := 5) (v := .int v_r_next) (C := RX5) (T := TX5) (N := 14) hx hb hts (g_c inlX5) hown hK hP 0 rfl rfl 6 (by decide) (hts _ (List.mem_cons_of_mem _ wm_3_8)) (fun _ h9 => h9) rfl dX5_accept_39 ?_
      refine lv_sipush (v := (400 : Int32)) hx hb dX5_accept_42 (by decide) ?_
      refine lv_icmp_lt (tgt := 62) hx hb dX5_accept_45 (by decide) (fun c_4 => ?_) (fun c_4 => ?_)
      · have hf := (if_pos c_4).symm.trans hf
        exact hb_62 _ _ _ _ hf _ _ _ hP hD hS (lv_sub hl [0] rfl)
      · have hf := (if_neg c_4).symm.trans hf
        refine lv_aload_n hx hb dX5_accept_48 rfl (lv_at hl 0 rfl) ?_
        refine lv_iconst (v := (2 : Int32)) hx hb dX5_accept_49 (by decide) ?_
        refine lv_aload_n hx hb dX5_accept_50 rfl (lv_at hl 0 rfl) ?_
        refine va_get (D := (dC, dI)) (ci := 5) (v := .ref (m_r 1)) (C := RX5) (T := TX5) (N := 14) hx hb hts (g_c inlX5) hown hK hP 0 rfl rfl 1 (by decide) (hts _ (List.mem_cons_of_mem _ wm_3_1)) (fun _ h9 => h9) rfl dX5_accept_51 ?_
        refine lv_aload_n hx hb dX5_accept_54 rfl (lv_at hl 0 rfl) ?_
        refine va_get (D := (dC, dI)) (ci := 5) (v := .int v_r_next) (C := RX5) (T := TX5) (N := 14) hx hb hts (g_c inlX5) hown hK hP 0 rfl rfl 6 (by decide) (hts _ (List.mem_cons_of_mem _ wm_3_8)) (fun _ h9 => h9) rfl dX5_accept_55 ?_
        obtain ⟨h_5, hf⟩ := ck_some hf
        refine va_iald hx hb hK hP 2 0 rfl rfl (inb_in h_5) dX5_accept_58 ?_
        obtain ⟨o_6, ho_6, hf⟩ := bd_some hf
        obtain ⟨o_6_0, o_6_1⟩ := o_6
        have hf := un2_some hf
        refine ux_Vv (n := 2) (As := [.int (2 : Int32), .int (v_r_start v_r_next.toNatClampNeg)]) (rest := []) (wc := [(h_r, .inr (5, oX5 m_r h_g v_r_next v_r_codeLength v_r_ownCell v_r_stopped v_r_fault v_r_faultPlace v_r_laterFault v_r_laterPlace))]) (wr := [_, _]) ⟨hx, hb, hml, hown, hts⟩ hK hP hD hS hA hE [0] [1, 2] (sg_h [(0, 1)] 3 rfl sk_z15_5 rfl) (sg_h [(1, 2)] 3 rfl sk_z15_6 rfl) nd_z15_2 nd_z15_3 nj_z15_4 (c_X5_note l dC dI cyI cyJ cyZ cyB cyO tO vF adK adV h_r m_r h_g m_g v_r_next v_r_codeLength v_r_ownCell v_r_stopped v_r_fault v_r_faultPlace v_r_laterFault v_r_laterPlace (2 : Int32) (v_r_start v_r_next.toNatClampNeg) _ _ ho_6) 5 0 rfl rfl wm_19_0 wm_19_1 wm_19_2 wm_1_18 wm_19_3 ⟨rfl, rfl⟩ (by decide +kernel) rfl ⟨Nat.le_of_ble_eq_true rfl, Nat.le_of_ble_eq_true rfl⟩ hl.1 rfl (Nat.le_of_ble_eq_true rfl) dX5_accept_59 ⟨Nat.le_of_ble_eq_true rfl, Nat.le_of_ble_eq_true rfl⟩ (fun H locs hP hD hS => ?_)
        have hP : va_P (dC, dI) vwCl [_, _, (h_r, .inr (5, oX5 m_r h_g v_r_next v_r_codeLength v_r_ownCell v_r_stopped o_6_0 o_6_1 v_r_laterFault v_r_laterPlace))] H := hP
        have hD : va_D A [_, _, (h_r, .inr (5, oX5 m_r h_g v_r_next v_r_codeLength v_r_ownCell v_r_stopped o_6_0 o_6_1 v_r_laterFault v_r_laterPlace))] := hD
        exact hb_62 _ _ _ _ hf _ _ _ (hP.sub [2, 0, 1] (ux_pick (sg_h [(2, 1), (0, 2)] 3 rfl sk_z15_7 rfl))) (hD.sub [2, 0, 1] nd_z15_4 (sg_h [(2, 1), (0, 2)] 3 rfl sk_z15_7 rfl)) hS (lv_sub hl [0] rfl)
    · have hf := (if_neg c_3).symm.trans hf
      refine lv_aload_n hx hb dX5_accept_22 rfl (lv_at hl 0 rfl) ?_
      refine lv_iconst (v := (1 : Int32)) hx hb dX5_accept_23 (by decide) ?_
      refine lv_aload_n hx hb dX5_accept_24 rfl (lv_at hl 0 rfl) ?_
      refine va_get (D := (dC, dI)) (ci := 5) (v := .ref (m_r 1)) (C := RX5) (T := TX5) (N := 14) hx hb hts (g_c inlX5) hown hK hP 0 rfl rfl 1 (by decide) (hts _ (List.mem_cons_of_mem _ wm_3_1)) (fun _ h9 => h9) rfl dX5_accept_25 ?_
      refine lv_aload_n hx hb dX5_accept_28 rfl (lv_at hl 0 rfl) ?_
      refine va_get (D := (dC, dI)) (ci := 5) (v := .int v_r_next) (C := RX5) (T := TX5) (N := 14) hx hb hts (g_c inlX5) hown hK hP 0 rfl rfl 6 (by decide) (hts _ (List.mem_cons_of_mem _ wm_3_8)) (fun _ h9 => h9) rfl dX5_accept_29 ?_
      obtain ⟨h_7, hf⟩ := ck_some hf
      refine va_iald hx hb hK hP 2 0 rfl rfl (inb_in h_7) dX5_accept_32 ?_
      obtain ⟨o_8, ho_8, hf⟩ := bd_some hf
      obtain ⟨o_8_0, o_8_1, o_8_2⟩ := o_8
      have hf := un3_some hf
      refine ux_Vv (n := 2) (As := [.int (1 : Int32), .int (v_r_start v_r_next.toNatClampNeg)]) (rest := []) (wc := [(h_r, .inr (5, oX5 m_r h_g v_r_next v_r_codeLength v_r_ownCell v_r_stopped v_r_fault v_r_faultPlace v_r_laterFault v_r_laterPlace))]) (wr := [_, _]) ⟨hx, hb, hml, hown, hts⟩ hK hP hD hS hA hE [0] [1, 2] (sg_h [(0, 1)] 3 rfl sk_z15_5 rfl) (sg_h [(1, 2)] 3 rfl sk_z15_6 rfl) nd_z15_2 nd_z15_3 nj_z15_4 (c_X5_stop l dC dI cyI cyJ cyZ cyB cyO tO vF adK adV h_r m_r h_g m_g v_r_next v_r_codeLength v_r_ownCell v_r_stopped v_r_fault v_r_faultPlace v_r_laterFault v_r_laterPlace (1 : Int32) (v_r_start v_r_next.toNatClampNeg) _ _ ho_8) 5 0 rfl rfl wm_18_20 wm_18_21 wm_18_22 wm_1_18 wm_18_23 ⟨rfl, rfl⟩ (by decide +kernel) rfl ⟨Nat.le_of_ble_eq_true rfl, Nat.le_of_ble_eq_true rfl⟩ hl.1 rfl (Nat.le_of_ble_eq_true rfl) dX5_accept_33 ⟨Nat.le_of_ble_eq_true rfl, Nat.le_of_ble_eq_true rfl⟩ (fun H locs hP hD hS => ?_)
      have hP : va_P (dC, dI) vwCl [_, _, (h_r, .inr (5, oX5 m_r h_g v_r_next v_r_codeLength v_r_ownCell o_8_0 o_8_1 o_8_2 v_r_laterFault v_r_laterPlace))] H := hP
      have hD : va_D A [_, _, (h_r, .inr (5, oX5 m_r h_g v_r_next v_r_codeLength v_r_ownCell o_8_0 o_8_1 o_8_2 v_r_laterFault v_r_laterPlace))] := hD
      refine lv_iconst (v := (0 : Int32)) hx hb dX5_accept_36 (by decide) ?_
      exact hret _ _ _ _ (0 : Int32) (v_r_next, o_8_0, o_8_1, o_8_2) dX5_accept_37 (Option.some.inj hf) rfl (hP.sub [2, 0, 1] (ux_pick (sg_h [(2, 1), (0, 2)] 3 rfl sk_z15_7 rfl))) (hD.sub [2, 0, 1] nd_z15_4 (sg_h [(2, 1), (0, 2)] 3 rfl sk_z15_7 rfl)) hS
  · have hf := (if_neg c_1).symm.trans hf
    refine lv_iconst (v := (0 : Int32)) hx hb dX5_accept_7 (by decide) ?_
    exact hret _ _ _ _ (0 : Int32) (v_r_next, v_r_stopped, v_r_fault, v_r_faultPlace) dX5_accept_8 (Option.some.inj hf) rfl hP hD hS
def f_X5_opens (v_r_kind : (Nat → Int32)) (v_r_start : (Nat → Int32)) (v_r_next : Int32) (v_r_stopped : Int32) (v_r_fault : Int32) (v_r_faultPlace : Int32) (q1 : Int32) (q2 : Int32) : Option (Int32 × Int32 × Int32 × Int32 × Int32) := if q1 < q2 then (ck (inb v_r_next 403) (bd (f_X5_accept v_r_kind v_r_start v_r_next v_r_stopped v_r_fault v_r_faultPlace (v_r_kind v_r_next.toNatClampNeg)) (fun o_3 => un5 o_3 (fun o_3_0 o_3_1 o_3_2 o_3_3 o_3_4 => ck (isz o_3_0) (some (o_3_0, o_3_1, o_3_2, o_3_3, o_3_4)))))) else (ck (inb v_r_next 403) (bd (f_X5_stop v_r_stopped v_r_fault v_r_faultPlace (2 : Int32) (v_r_start v_r_next.toNatClampNeg)) (fun o_6 => un3 o_6 (fun o_6_0 o_6_1 o_6_2 => some ((0 : Int32), v_r_next, o_6_0, o_6_1, o_6_2)))))
set_option maxRecDepth 100000 in
set_option maxHeartbeats 8000000 in
theorem c_X5_opens (l : Launch) (dC : Nat → ClassId) (dI : Nat → Nat → Nat) (cyI cyJ cyZ cyB cyO : ClassId) (tO : Nat) (vF : Value) (adK adV : Nat → Nat) (h_r : Nat) (m_r : Nat → Nat) (h_g : Nat) (m_g : Nat → Nat) (v_r_next : Int32) (v_r_codeLength : Int32) (v_r_ownCell : Int32) (v_r_stopped : Int32) (v_r_fault : Int32) (v_r_faultPlace : Int32) (v_r_laterFault : Int32) (v_r_laterPlace : Int32) (v_r_kind : (Nat → Int32)) (v_r_start : (Nat → Int32)) (q1 : Int32) (q2 : Int32) (sz : Nat) (out : Int32 × Int32 × Int32 × Int32 × Int32) (hf : f_X5_opens v_r_kind v_r_start v_r_next v_r_stopped v_r_fault v_r_faultPlace q1 q2 = some out) : Met l yX5_opens (Cond.code yX5_opens cX5_opens 3 (some .boolean) :: wsL_law) ({ frames := 3, cells := 0, slots := 0, locals := 65 } : Room) (va_Pc [.ref h_r, .int q1, .int q2] (ux_pre (dC, dI) vwCl (tyG cyI cyJ cyZ cyB cyO) [(h_r, .inr (5, oX5 m_r h_g v_r_next v_r_codeLength v_r_ownCell v_r_stopped v_r_fault v_r_faultPlace v_r_laterFault v_r_laterPlace)), (m_r 0, .inl (cyI, 403, .inl v_r_kind)), (m_r 1, .inl (cyI, 403, .inl v_r_start))] sz (xE tO vF adK adV))) (va_Qi (fun (r : Int32) (u : Int32 × Int32 × Int32 × Int32) => (r, u) = out) (ux_at (dC, dI) vwCl (tyG cyI cyJ cyZ cyB cyO) [(h_r, .inr (5, oX5 m_r h_g v_r_next v_r_codeLength v_r_ownCell v_r_stopped v_r_fault v_r_faultPlace v_r_laterFault v_r_laterPlace)), (m_r 0, .inl (cyI, 403, .inl v_r_kind)), (m_r 1, .inl (cyI, 403, .inl v_r_start))] sz (fun u : Int32 × Int32 × Int32 × Int32 => [(h_r, .inr (5, oX5 m_r h_g u.1 v_r_codeLength v_r_ownCell u.2.1 u.2.2.1 u.2.2.2 v_r_laterFault v_r_laterPlace)), (m_r 0, .inl (cyI, 403, .inl v_r_kind)), (m_r 1, .inl (cyI, 403, .inl v_r_start))])) (va_A [(h_r, .inr (5, oX5 m_r h_g v_r_next v_r_codeLength v_r_ownCell v_r_stopped v_r_fault v_r_faultPlace v_r_laterFault v_r_laterPlace)), (m_r 0, .inl (cyI, 403, .inl v_r_kind)), (m_r 1, .inl (cyI, 403, .inl v_r_start))] sz)) 0 0 (va_A [(h_r, .inr (5, oX5 m_r h_g v_r_next v_r_codeLength v_r_ownCell v_r_stopped v_r_fault v_r_faultPlace v_r_laterFault v_r_laterPlace)), (m_r 0, .inl (cyI, 403, .inl v_r_kind)), (m_r 1, .inl (cyI, 403, .inl v_r_start))] sz) := by
  refine ux_metz (by decide +kernel) (Nat.le_of_ble_eq_true rfl) ?_
  intro p e s m below meth c A Q ls hx hb hml hts hown hA hP hK hD hE hl hret
  have hown : s.vm.findClass RX5 = some m.cls := hown
  have hS : va_S A s.heap s.heap [] := va_S.rf
  have hl : lv_has ls 3 [(0, .ref h_r), (1, .int q1), (2, .int q2)] := hl
  unfold f_X5_opens at hf
  refine lv_iload_n hx hb dX5_opens_0 rfl (lv_at hl 1 rfl) ?_
  refine lv_iload_n hx hb dX5_opens_1 rfl (lv_at hl 2 rfl) ?_
  refine lv_icmp_lt (tgt := 21) hx hb dX5_opens_2 (by decide) (fun c_1 => ?_) (fun c_1 => ?_)
  · have hf := (if_pos c_1).symm.trans hf
    refine lv_aload_n hx hb dX5_opens_21 rfl (lv_at hl 0 rfl) ?_
    refine lv_aload_n hx hb dX5_opens_22 rfl (lv_at hl 0 rfl) ?_
    refine va_get (D := (dC, dI)) (ci := 5) (v := .ref (m_r 0)) (C := RX5) (T := TX5) (N := 14) hx hb hts (g_c inlX5) hown hK hP 0 rfl rfl 0 (by decide) (hts _ (List.mem_cons_of_mem _ wm_3_0)) (fun _ h9 => h9) rfl dX5_opens_23 ?_
    refine lv_aload_n hx hb dX5_opens_26 rfl (lv_at hl 0 rfl) ?_
    refine va_get (D := (dC, dI)) (ci := 5) (v := .int v_r_next) (C := RX5) (T := TX5) (N := 14) hx hb hts (g_c inlX5) hown hK hP 0 rfl rfl 6 (by decide) (hts _ (List.mem_cons_of_mem _ wm_3_8)) (fun _ h9 => h9) rfl dX5_opens_27 ?_
    obtain ⟨h_2, hf⟩ := ck_some hf
    refine va_iald hx hb hK hP 1 0 rfl rfl (inb_in h_2) dX5_opens_30 ?_
    obtain ⟨o_3, ho_3, hf⟩ := bd_some hf
    obtain ⟨o_3_0, o_3_1, o_3_2, o_3_3, o_3_4⟩ := o_3
    have hf := un5_some hf
    refine ux_Vi (n := 1) (As := [.int (v_r_kind v_r_next.toNatClampNeg)]) (rest := []) (wc := [(h_r, .inr (5, oX5 m_r h_g v_r_next v_r_codeLength v_r_ownCell v_r_stopped v_r_fault v_r_faultPlace v_r_laterFault v_r_laterPlace)), (m_r 0, .inl (cyI, 403, .inl v_r_kind)), (m_r 1, .inl (cyI, 403, .inl v_r_start))]) (wr := []) ⟨hx, hb, hml, hown, hts⟩ hK hP hD hS hA hE [0, 1, 2] [] (sg_h [(0, 3)] 3 rfl sk_z15_8 rfl) (sg_h [] 3 rfl sk_z15_9 rfl) nd_z15_5 nd_z15_0 nj_z15_5 (c_X5_accept l dC dI cyI cyJ cyZ cyB cyO tO vF adK adV h_r m_r h_g m_g v_r_next v_r_codeLength v_r_ownCell v_r_stopped v_r_fault v_r_faultPlace v_r_laterFault v_r_laterPlace v_r_kind v_r_start (v_r_kind v_r_next.toNatClampNeg) _ _ ho_3) 5 0 rfl rfl wm_19_4 wm_19_5 wm_19_6 wm_1_18 wm_19_7 ⟨rfl, rfl⟩ (by decide +kernel) rfl ⟨Nat.le_of_ble_eq_true rfl, Nat.le_of_ble_eq_true rfl⟩ hl.1 rfl (Nat.le_of_ble_eq_true rfl) dX5_opens_31 ⟨Nat.le_of_ble_eq_true rfl, Nat.le_of_ble_eq_true rfl⟩ (fun H locs hP hD hS => ?_)
    have hP : va_P (dC, dI) vwCl [(h_r, .inr (5, oX5 m_r h_g o_3_1 v_r_codeLength v_r_ownCell o_3_2 o_3_3 o_3_4 v_r_laterFault v_r_laterPlace)), (m_r 0, .inl (cyI, 403, .inl v_r_kind)), (m_r 1, .inl (cyI, 403, .inl v_r_start))] H := hP
    have hD : va_D A [(h_r, .inr (5, oX5 m_r h_g o_3_1 v_r_codeLength v_r_ownCell o_3_2 o_3_3 o_3_4 v_r_laterFault v_r_laterPlace)), (m_r 0, .inl (cyI, 403, .inl v_r_kind)), (m_r 1, .inl (cyI, 403, .inl v_r_start))] := hD
    obtain ⟨h_4, hf⟩ := ck_some hf
    exact hret _ _ _ _ o_3_0 (o_3_1, o_3_2, o_3_3, o_3_4) dX5_opens_34 (Option.some.inj hf) h_4 hP hD hS
  · have hf := (if_neg c_1).symm.trans hf
    refine lv_aload_n hx hb dX5_opens_5 rfl (lv_at hl 0 rfl) ?_
    refine lv_iconst (v := (2 : Int32)) hx hb dX5_opens_6 (by decide) ?_
    refine lv_aload_n hx hb dX5_opens_7 rfl (lv_at hl 0 rfl) ?_
    refine va_get (D := (dC, dI)) (ci := 5) (v := .ref (m_r 1)) (C := RX5) (T := TX5) (N := 14) hx hb hts (g_c inlX5) hown hK hP 0 rfl rfl 1 (by decide) (hts _ (List.mem_cons_of_mem _ wm_3_1)) (fun _ h9 => h9) rfl dX5_opens_8 ?_
    refine lv_aload_n hx hb dX5_opens_11 rfl (lv_at hl 0 rfl) ?_
    refine va_get (D := (dC, dI)) (ci := 5) (v := .int v_r_next) (C := RX5) (T := TX5) (N := 14) hx hb hts (g_c inlX5) hown hK hP 0 rfl rfl 6 (by decide) (hts _ (List.mem_cons_of_mem _ wm_3_8)) (fun _ h9 => h9) rfl dX5_opens_12 ?_
    obtain ⟨h_5, hf⟩ := ck_some hf
    refine va_iald hx hb hK hP 2 0 rfl rfl (inb_in h_5) dX5_opens_15 ?_
    obtain ⟨o_6, ho_6, hf⟩ := bd_some hf
    obtain ⟨o_6_0, o_6_1, o_6_2⟩ := o_6
    have hf := un3_some hf
    refine ux_Vv (n := 2) (As := [.int (2 : Int32), .int (v_r_start v_r_next.toNatClampNeg)]) (rest := []) (wc := [(h_r, .inr (5, oX5 m_r h_g v_r_next v_r_codeLength v_r_ownCell v_r_stopped v_r_fault v_r_faultPlace v_r_laterFault v_r_laterPlace))]) (wr := [_, _]) ⟨hx, hb, hml, hown, hts⟩ hK hP hD hS hA hE [0] [1, 2] (sg_h [(0, 1)] 3 rfl sk_z15_5 rfl) (sg_h [(1, 2)] 3 rfl sk_z15_6 rfl) nd_z15_2 nd_z15_3 nj_z15_4 (c_X5_stop l dC dI cyI cyJ cyZ cyB cyO tO vF adK adV h_r m_r h_g m_g v_r_next v_r_codeLength v_r_ownCell v_r_stopped v_r_fault v_r_faultPlace v_r_laterFault v_r_laterPlace (2 : Int32) (v_r_start v_r_next.toNatClampNeg) _ _ ho_6) 5 0 rfl rfl wm_18_20 wm_18_21 wm_18_22 wm_1_18 wm_18_23 ⟨rfl, rfl⟩ (by decide +kernel) rfl ⟨Nat.le_of_ble_eq_true rfl, Nat.le_of_ble_eq_true rfl⟩ hl.1 rfl (Nat.le_of_ble_eq_true rfl) dX5_opens_16 ⟨Nat.le_of_ble_eq_true rfl, Nat.le_of_ble_eq_true rfl⟩ (fun H locs hP hD hS => ?_)
    have hP : va_P (dC, dI) vwCl [_, _, (h_r, .inr (5, oX5 m_r h_g v_r_next v_r_codeLength v_r_ownCell o_6_0 o_6_1 o_6_2 v_r_laterFault v_r_laterPlace))] H := hP
    have hD : va_D A [_, _, (h_r, .inr (5, oX5 m_r h_g v_r_next v_r_codeLength v_r_ownCell o_6_0 o_6_1 o_6_2 v_r_laterFault v_r_laterPlace))] := hD
    refine lv_iconst (v := (0 : Int32)) hx hb dX5_opens_19 (by decide) ?_
    exact hret _ _ _ _ (0 : Int32) (v_r_next, o_6_0, o_6_1, o_6_2) dX5_opens_20 (Option.some.inj hf) rfl (hP.sub [2, 0, 1] (ux_pick (sg_h [(2, 1), (0, 2)] 3 rfl sk_z15_7 rfl))) (hD.sub [2, 0, 1] nd_z15_4 (sg_h [(2, 1), (0, 2)] 3 rfl sk_z15_7 rfl)) hS
def f_X5_number_b33  (v_r_start : (Nat → Int32)) (v_r_next : Int32) (v_r_stopped : Int32) (v_r_fault : Int32) (v_r_faultPlace : Int32) (v_r_laterFault : Int32) (v_r_laterPlace : Int32) (x3 : Int32) : Option (Int32 × Int32 × Int32 × Int32 × Int32 × Int32 × Int32) := bd (f_X5_later v_r_next v_r_start v_r_laterFault v_r_laterPlace (5 : Int32)) (fun o_1 => un2 o_1 (fun o_1_0 o_1_1 => some (x3, v_r_next, v_r_stopped, v_r_fault, v_r_faultPlace, o_1_0, o_1_1)))
def f_X5_number (v_r_kind : (Nat → Int32)) (v_r_start : (Nat → Int32)) (v_r_value : (Nat → Int64)) (v_r_next : Int32) (v_r_stopped : Int32) (v_r_fault : Int32) (v_r_faultPlace : Int32) (v_r_laterFault : Int32) (v_r_laterPlace : Int32) (q1 : Int32) (q2 : Int32) : Option (Int32 × Int32 × Int32 × Int32 × Int32 × Int32 × Int32) := bd (f_X5_accept v_r_kind v_r_start v_r_next v_r_stopped v_r_fault v_r_faultPlace (2 : Int32)) (fun o_1 => un5 o_1 (fun o_1_0 o_1_1 o_1_2 o_1_3 o_1_4 => if o_1_0 = (0 : Int32) then (some (q1, o_1_1, o_1_2, o_1_3, o_1_4, v_r_laterFault, v_r_laterPlace)) else (ck (inb (o_1_1 - (1 : Int32)) 403) (nm ((v_r_value (o_1_1 - (1 : Int32)).toNatClampNeg).toInt32) (fun e_4 => if e_4 < q1 then (f_X5_number_b33 v_r_start o_1_1 o_1_2 o_1_3 o_1_4 v_r_laterFault v_r_laterPlace e_4) else (if e_4 ≤ q2 then (some (e_4, o_1_1, o_1_2, o_1_3, o_1_4, v_r_laterFault, v_r_laterPlace)) else (f_X5_number_b33 v_r_start o_1_1 o_1_2 o_1_3 o_1_4 v_r_laterFault v_r_laterPlace e_4)))))))
set_option maxRecDepth 100000 in
set_option maxHeartbeats 8000000 in
theorem c_X5_number (l : Launch) (dC : Nat → ClassId) (dI : Nat → Nat → Nat) (cyI cyJ cyZ cyB cyO : ClassId) (tO : Nat) (vF : Value) (adK adV : Nat → Nat) (h_r : Nat) (m_r : Nat → Nat) (h_g : Nat) (m_g : Nat → Nat) (v_r_next : Int32) (v_r_codeLength : Int32) (v_r_ownCell : Int32) (v_r_stopped : Int32) (v_r_fault : Int32) (v_r_faultPlace : Int32) (v_r_laterFault : Int32) (v_r_laterPlace : Int32) (v_r_kind : (Nat → Int32)) (v_r_start : (Nat → Int32)) (v_r_value : (Nat → Int64)) (q1 : Int32) (q2 : Int32) (sz : Nat) (out : Int32 × Int32 × Int32 × Int32 × Int32 × Int32 × Int32) (hf : f_X5_number v_r_kind v_r_start v_r_value v_r_next v_r_stopped v_r_fault v_r_faultPlace v_r_laterFault v_r_laterPlace q1 q2 = some out) : Met l yX5_number (Cond.code yX5_number cX5_number 4 (some .int) :: wsL_law) ({ frames := 3, cells := 0, slots := 0, locals := 65 } : Room) (va_Pc [.ref h_r, .int q1, .int q2] (ux_pre (dC, dI) vwCl (tyG cyI cyJ cyZ cyB cyO) [(h_r, .inr (5, oX5 m_r h_g v_r_next v_r_codeLength v_r_ownCell v_r_stopped v_r_fault v_r_faultPlace v_r_laterFault v_r_laterPlace)), (m_r 0, .inl (cyI, 403, .inl v_r_kind)), (m_r 1, .inl (cyI, 403, .inl v_r_start)), (m_r 2, .inl (cyJ, 403, .inr (.inl v_r_value)))] sz (xE tO vF adK adV))) (va_Qi (fun (r : Int32) (u : Int32 × Int32 × Int32 × Int32 × Int32 × Int32) => (r, u) = out) (ux_at (dC, dI) vwCl (tyG cyI cyJ cyZ cyB cyO) [(h_r, .inr (5, oX5 m_r h_g v_r_next v_r_codeLength v_r_ownCell v_r_stopped v_r_fault v_r_faultPlace v_r_laterFault v_r_laterPlace)), (m_r 0, .inl (cyI, 403, .inl v_r_kind)), (m_r 1, .inl (cyI, 403, .inl v_r_start)), (m_r 2, .inl (cyJ, 403, .inr (.inl v_r_value)))] sz (fun u : Int32 × Int32 × Int32 × Int32 × Int32 × Int32 => [(h_r, .inr (5, oX5 m_r h_g u.1 v_r_codeLength v_r_ownCell u.2.1 u.2.2.1 u.2.2.2.1 u.2.2.2.2.1 u.2.2.2.2.2)), (m_r 0, .inl (cyI, 403, .inl v_r_kind)), (m_r 1, .inl (cyI, 403, .inl v_r_start)), (m_r 2, .inl (cyJ, 403, .inr (.inl v_r_value)))])) (va_A [(h_r, .inr (5, oX5 m_r h_g v_r_next v_r_codeLength v_r_ownCell v_r_stopped v_r_fault v_r_faultPlace v_r_laterFault v_r_laterPlace)), (m_r 0, .inl (cyI, 403, .inl v_r_kind)), (m_r 1, .inl (cyI, 403, .inl v_r_start)), (m_r 2, .inl (cyJ, 403, .inr (.inl v_r_value)))] sz)) 0 0 (va_A [(h_r, .inr (5, oX5 m_r h_g v_r_next v_r_codeLength v_r_ownCell v_r_stopped v_r_fault v_r_faultPlace v_r_laterFault v_r_laterPlace)), (m_r 0, .inl (cyI, 403, .inl v_r_kind)), (m_r 1, .inl (cyI, 403, .inl v_r_start)), (m_r 2, .inl (cyJ, 403, .inr (.inl v_r_value)))] sz) := by
  refine ux_meti (by decide +kernel) (Nat.le_of_ble_eq_true rfl) ?_
  intro p e s m below meth c A Q ls hx hb hml hts hown hA hP hK hD hE hl hret
  have hown : s.vm.findClass RX5 = some m.cls := hown
  have hS : va_S A s.heap s.heap [] := va_S.rf
  have hl : lv_has ls 4 [(0, .ref h_r), (1, .int q1), (2, .int q2)] := hl
  have hb_33 : ∀ (v_r_next : Int32) (v_r_stopped : Int32) (v_r_fault : Int32) (v_r_faultPlace : Int32) (v_r_laterFault : Int32) (v_r_laterPlace : Int32) (x3 : Int32), f_X5_number_b33 v_r_start v_r_next v_r_stopped v_r_fault v_r_faultPlace v_r_laterFault v_r_laterPlace x3 = some out → ∀ (H : Heap) (locs : List Loc) (ls : Array Slot), va_P (dC, dI) vwCl [(h_r, .inr (5, oX5 m_r h_g v_r_next v_r_codeLength v_r_ownCell v_r_stopped v_r_fault v_r_faultPlace v_r_laterFault v_r_laterPlace)), (m_r 0, .inl (cyI, 403, .inl v_r_kind)), (m_r 1, .inl (cyI, 403, .inl v_r_start)), (m_r 2, .inl (cyJ, 403, .inr (.inl v_r_value)))] H → va_D A [(h_r, .inr (5, oX5 m_r h_g v_r_next v_r_codeLength v_r_ownCell v_r_stopped v_r_fault v_r_faultPlace v_r_laterFault v_r_laterPlace)), (m_r 0, .inl (cyI, 403, .inl v_r_kind)), (m_r 1, .inl (cyI, 403, .inl v_r_start)), (m_r 2, .inl (cyJ, 403, .inr (.inl v_r_value)))] → va_S A s.heap H locs → lv_has ls 4 [(0, .ref h_r), (3, .int x3)] → W p l e ({ frames := 3, cells := 0, slots := 0, locals := 65 } : Room) s m ([.ref h_r, .int q1, .int q2] : List Value).toArray below meth c H locs 0 0 Q (F0 m 33 ls []) := by
    intro  v_r_next v_r_stopped v_r_fault v_r_faultPlace v_r_laterFault v_r_laterPlace x3 hf H locs ls hP hD hS hl
    unfold f_X5_number_b33 at hf
    refine lv_aload_n hx hb dX5_number_33 rfl (lv_at hl 0 rfl) ?_
    refine lv_iconst (v := (5 : Int32)) hx hb dX5_number_34 (by decide) ?_
    obtain ⟨o_1, ho_1, hf⟩ := bd_some hf
    obtain ⟨o_1_0, o_1_1⟩ := o_1
    have hf := un2_some hf
    refine ux_Vv (n := 1) (As := [.int (5 : Int32)]) (rest := []) (wc := [(h_r, .inr (5, oX5 m_r h_g v_r_next v_r_codeLength v_r_ownCell v_r_stopped v_r_fault v_r_faultPlace v_r_laterFault v_r_laterPlace)), (m_r 1, .inl (cyI, 403, .inl v_r_start))]) (wr := [_, _]) ⟨hx, hb, hml, hown, hts⟩ hK hP hD hS hA hE [0, 2] [1, 3] (sg_h [(0, 1), (2, 1)] 4 rfl sk_z15_10 rfl) (sg_h [(1, 1), (3, 1)] 4 rfl sk_z15_11 rfl) nd_z15_6 nd_z15_7 nj_z15_6 (c_X5_later l dC dI cyI cyJ cyZ cyB cyO tO vF adK adV h_r m_r h_g m_g v_r_next v_r_codeLength v_r_ownCell v_r_stopped v_r_fault v_r_faultPlace v_r_laterFault v_r_laterPlace v_r_start (5 : Int32) _ _ ho_1) 5 0 rfl rfl wm_19_17 wm_19_18 wm_19_19 wm_1_18 wm_19_20 ⟨rfl, rfl⟩ (by decide +kernel) rfl ⟨Nat.le_of_ble_eq_true rfl, Nat.le_of_ble_eq_true rfl⟩ hl.1 rfl (Nat.le_of_ble_eq_true rfl) dX5_number_35 ⟨Nat.le_of_ble_eq_true rfl, Nat.le_of_ble_eq_true rfl⟩ (fun H locs hP hD hS => ?_)
    have hP : va_P (dC, dI) vwCl [_, _, (h_r, .inr (5, oX5 m_r h_g v_r_next v_r_codeLength v_r_ownCell v_r_stopped v_r_fault v_r_faultPlace o_1_0 o_1_1)), (m_r 1, .inl (cyI, 403, .inl v_r_start))] H := hP
    have hD : va_D A [_, _, (h_r, .inr (5, oX5 m_r h_g v_r_next v_r_codeLength v_r_ownCell v_r_stopped v_r_fault v_r_faultPlace o_1_0 o_1_1)), (m_r 1, .inl (cyI, 403, .inl v_r_start))] := hD
    refine lv_iload_n hx hb dX5_number_38 rfl (lv_at hl 1 rfl) ?_
    exact hret _ _ _ _ x3 (v_r_next, v_r_stopped, v_r_fault, v_r_faultPlace, o_1_0, o_1_1) dX5_number_39 (Option.some.inj hf) (hP.sub [2, 0, 3, 1] (ux_pick (sg_h [(2, 1), (0, 1), (3, 1), (1, 1)] 4 rfl sk_z15_12 rfl))) (hD.sub [2, 0, 3, 1] nd_z15_8 (sg_h [(2, 1), (0, 1), (3, 1), (1, 1)] 4 rfl sk_z15_12 rfl)) hS
  unfold f_X5_number at hf
  refine lv_aload_n hx hb dX5_number_0 rfl (lv_at hl 0 rfl) ?_
  refine lv_iconst (v := (2 : Int32)) hx hb dX5_number_1 (by decide) ?_
  obtain ⟨o_1, ho_1, hf⟩ := bd_some hf
  obtain ⟨o_1_0, o_1_1, o_1_2, o_1_3, o_1_4⟩ := o_1
  have hf := un5_some hf
  refine ux_Vi (n := 1) (As := [.int (2 : Int32)]) (rest := []) (wc := [(h_r, .inr (5, oX5 m_r h_g v_r_next v_r_codeLength v_r_ownCell v_r_stopped v_r_fault v_r_faultPlace v_r_laterFault v_r_laterPlace)), (m_r 0, .inl (cyI, 403, .inl v_r_kind)), (m_r 1, .inl (cyI, 403, .inl v_r_start))]) (wr := [_]) ⟨hx, hb, hml, hown, hts⟩ hK hP hD hS hA hE [0, 1, 2] [3] (sg_h [(0, 3)] 4 rfl sk_z15_13 rfl) (sg_h [(3, 1)] 4 rfl sk_z15_14 rfl) nd_z15_5 nd_z15_9 nj_z15_7 (c_X5_accept l dC dI cyI cyJ cyZ cyB cyO tO vF adK adV h_r m_r h_g m_g v_r_next v_r_codeLength v_r_ownCell v_r_stopped v_r_fault v_r_faultPlace v_r_laterFault v_r_laterPlace v_r_kind v_r_start (2 : Int32) _ _ ho_1) 5 0 rfl rfl wm_19_4 wm_19_5 wm_19_6 wm_1_18 wm_19_7 ⟨rfl, rfl⟩ (by decide +kernel) rfl ⟨Nat.le_of_ble_eq_true rfl, Nat.le_of_ble_eq_true rfl⟩ hl.1 rfl (Nat.le_of_ble_eq_true rfl) dX5_number_2 ⟨Nat.le_of_ble_eq_true rfl, Nat.le_of_ble_eq_true rfl⟩ (fun H locs hP hD hS => ?_)
  have hP : va_P (dC, dI) vwCl [_, (h_r, .inr (5, oX5 m_r h_g o_1_1 v_r_codeLength v_r_ownCell o_1_2 o_1_3 o_1_4 v_r_laterFault v_r_laterPlace)), (m_r 0, .inl (cyI, 403, .inl v_r_kind)), (m_r 1, .inl (cyI, 403, .inl v_r_start))] H := hP
  have hD : va_D A [_, (h_r, .inr (5, oX5 m_r h_g o_1_1 v_r_codeLength v_r_ownCell o_1_2 o_1_3 o_1_4 v_r_laterFault v_r_laterPlace)), (m_r 0, .inl (cyI, 403, .inl v_r_kind)), (m_r 1, .inl (cyI, 403, .inl v_r_start))] := hD
  refine lv_if_ne (tgt := 10) hx hb dX5_number_5 (by decide) (fun c_2 => ?_) (fun c_2 => ?_)
  · have hf := (if_neg c_2).symm.trans hf
    refine lv_aload_n hx hb dX5_number_10 rfl (lv_at hl 0 rfl) ?_
    refine va_get (D := (dC, dI)) (ci := 5) (v := .ref (m_r 2)) (C := RX5) (T := TX5) (N := 14) hx hb hts (g_c inlX5) hown hK hP 1 rfl rfl 2 (by decide) (hts _ (List.mem_cons_of_mem _ wm_3_3)) (fun _ h9 => h9) rfl dX5_number_11 ?_
    refine lv_aload_n hx hb dX5_number_14 rfl (lv_at hl 0 rfl) ?_
    refine va_get (D := (dC, dI)) (ci := 5) (v := .int o_1_1) (C := RX5) (T := TX5) (N := 14) hx hb hts (g_c inlX5) hown hK hP 1 rfl rfl 6 (by decide) (hts _ (List.mem_cons_of_mem _ wm_3_8)) (fun _ h9 => h9) rfl dX5_number_15 ?_
    refine lv_iconst (v := (1 : Int32)) hx hb dX5_number_18 (by decide) ?_
    refine lv_isub hx hb dX5_number_19 ?_
    obtain ⟨h_3, hf⟩ := ck_some hf
    refine va_lald hx hb hK hP 0 1 rfl rfl (inb_in h_3) dX5_number_20 ?_
    refine lv_l2i hx hb dX5_number_21 rfl ?_
    obtain ⟨e_4, ee_4, hf⟩ := nm_some hf
    rw [← ee_4]
    refine lv_istore_n (lv' := [(3, .int e_4), (0, .ref h_r), (1, .int q1), (2, .int q2)]) hx hb dX5_number_22 rfl hl (by decide) rfl (fun ls hl => ?_)
    refine lv_iload_n hx hb dX5_number_23 rfl (lv_at hl 0 rfl) ?_
    refine lv_iload_n hx hb dX5_number_24 rfl (lv_at hl 2 rfl) ?_
    refine lv_icmp_lt (tgt := 33) hx hb dX5_number_25 (by decide) (fun c_5 => ?_) (fun c_5 => ?_)
    · have hf := (if_pos c_5).symm.trans hf
      exact hb_33 _ _ _ _ _ _ _ hf _ _ _ (hP.sub [1, 2, 3, 0] (ux_pick (sg_h [(1, 3), (0, 1)] 4 rfl sk_z15_15 rfl))) (hD.sub [1, 2, 3, 0] nd_z15_10 (sg_h [(1, 3), (0, 1)] 4 rfl sk_z15_15 rfl)) hS (lv_sub hl [1, 0] rfl)
    · have hf := (if_neg c_5).symm.trans hf
      refine lv_iload_n hx hb dX5_number_28 rfl (lv_at hl 0 rfl) ?_
      refine lv_iload_n hx hb dX5_number_29 rfl (lv_at hl 3 rfl) ?_
      refine lv_icmp_le (tgt := 38) hx hb dX5_number_30 (by decide) (fun c_6 => ?_) (fun c_6 => ?_)
      · have hf := (if_pos c_6).symm.trans hf
        refine lv_iload_n hx hb dX5_number_38 rfl (lv_at hl 0 rfl) ?_
        exact hret _ _ _ _ e_4 (o_1_1, o_1_2, o_1_3, o_1_4, v_r_laterFault, v_r_laterPlace) dX5_number_39 (Option.some.inj hf) (hP.sub [1, 2, 3, 0] (ux_pick (sg_h [(1, 3), (0, 1)] 4 rfl sk_z15_15 rfl))) (hD.sub [1, 2, 3, 0] nd_z15_10 (sg_h [(1, 3), (0, 1)] 4 rfl sk_z15_15 rfl)) hS
      · have hf := (if_neg c_6).symm.trans hf
        exact hb_33 _ _ _ _ _ _ _ hf _ _ _ (hP.sub [1, 2, 3, 0] (ux_pick (sg_h [(1, 3), (0, 1)] 4 rfl sk_z15_15 rfl))) (hD.sub [1, 2, 3, 0] nd_z15_10 (sg_h [(1, 3), (0, 1)] 4 rfl sk_z15_15 rfl)) hS (lv_sub hl [1, 0] rfl)
  · have hf := (if_pos c_2).symm.trans hf
    refine lv_iload_n hx hb dX5_number_8 rfl (lv_at hl 1 rfl) ?_
    exact hret _ _ _ _ q1 (o_1_1, o_1_2, o_1_3, o_1_4, v_r_laterFault, v_r_laterPlace) dX5_number_9 (Option.some.inj hf) (hP.sub [1, 2, 3, 0] (ux_pick (sg_h [(1, 3), (0, 1)] 4 rfl sk_z15_15 rfl))) (hD.sub [1, 2, 3, 0] nd_z15_10 (sg_h [(1, 3), (0, 1)] 4 rfl sk_z15_15 rfl)) hS
def f_X5_findCell_b2_st (kr : Int64 → Int32 → Option (Int32))  (v_r_cellName : (Nat → Int64)) (v_g_cells : Int32) (x1 : Int64) (x3 : Int32) : Option (Int32) := if v_g_cells ≤ x3 then (some ((-1 : Int32))) else (ck (inb x3 12) (if (lg_cmp (v_r_cellName x3.toNatClampNeg) x1) = (0 : Int32) then (some (x3)) else (kr x1 (x3 + (1 : Int32)))))
def f_X5_findCell_b2  (v_r_cellName : (Nat → Int64)) (v_g_cells : Int32) : Nat → Int64 → Int32 → Option (Int32)
  | 0 => fun _ _ => none
  | n + 1 => f_X5_findCell_b2_st (f_X5_findCell_b2 v_r_cellName v_g_cells n) v_r_cellName v_g_cells
def f_X5_findCell (v_r_cellName : (Nat → Int64)) (v_g_cells : Int32) (q1 : Int64) : Option (Int32) := f_X5_findCell_b2 v_r_cellName v_g_cells fuel q1 (0 : Int32)
set_option maxRecDepth 100000 in
set_option maxHeartbeats 8000000 in
theorem c_X5_findCell (l : Launch) (dC : Nat → ClassId) (dI : Nat → Nat → Nat) (cyI cyJ cyZ cyB cyO : ClassId) (tO : Nat) (vF : Value) (adK adV : Nat → Nat) (h_r : Nat) (m_r : Nat → Nat) (h_g : Nat) (m_g : Nat → Nat) (v_r_next : Int32) (v_r_codeLength : Int32) (v_r_ownCell : Int32) (v_r_stopped : Int32) (v_r_fault : Int32) (v_r_faultPlace : Int32) (v_r_laterFault : Int32) (v_r_laterPlace : Int32) (v_r_cellName : (Nat → Int64)) (v_g_cells : Int32) (v_g_passes : Int32) (v_g_rivers : Int32) (v_g_villages : Int32) (v_g_rains : Int32) (q1 : Int64) (sz : Nat) (out : Int32) (hf : f_X5_findCell v_r_cellName v_g_cells q1 = some out) : Met l yX5_findCell (Cond.code yX5_findCell cX5_findCell 4 (some .int) :: wsL_law) ({ frames := 0, cells := 0, slots := 0, locals := 0 } : Room) (va_Pc [.ref h_r, .long q1] (ux_pre (dC, dI) vwCl (tyG cyI cyJ cyZ cyB cyO) [(h_r, .inr (5, oX5 m_r h_g v_r_next v_r_codeLength v_r_ownCell v_r_stopped v_r_fault v_r_faultPlace v_r_laterFault v_r_laterPlace)), (m_r 3, .inl (cyJ, 12, .inr (.inl v_r_cellName))), (h_g, .inr (3, oX3 m_g v_g_cells v_g_passes v_g_rivers v_g_villages v_g_rains))] sz (xE tO vF adK adV))) (va_Qi (fun (r : Int32) (_ : Unit) => r = out) (ux_at (dC, dI) vwCl (tyG cyI cyJ cyZ cyB cyO) [(h_r, .inr (5, oX5 m_r h_g v_r_next v_r_codeLength v_r_ownCell v_r_stopped v_r_fault v_r_faultPlace v_r_laterFault v_r_laterPlace)), (m_r 3, .inl (cyJ, 12, .inr (.inl v_r_cellName))), (h_g, .inr (3, oX3 m_g v_g_cells v_g_passes v_g_rivers v_g_villages v_g_rains))] sz (fun u : Unit => [(h_r, .inr (5, oX5 m_r h_g v_r_next v_r_codeLength v_r_ownCell v_r_stopped v_r_fault v_r_faultPlace v_r_laterFault v_r_laterPlace)), (m_r 3, .inl (cyJ, 12, .inr (.inl v_r_cellName))), (h_g, .inr (3, oX3 m_g v_g_cells v_g_passes v_g_rivers v_g_villages v_g_rains))])) (va_A [(h_r, .inr (5, oX5 m_r h_g v_r_next v_r_codeLength v_r_ownCell v_r_stopped v_r_fault v_r_faultPlace v_r_laterFault v_r_laterPlace)), (m_r 3, .inl (cyJ, 12, .inr (.inl v_r_cellName))), (h_g, .inr (3, oX3 m_g v_g_cells v_g_passes v_g_rivers v_g_villages v_g_rains))] sz)) 0 0 (va_A [(h_r, .inr (5, oX5 m_r h_g v_r_next v_r_codeLength v_r_ownCell v_r_stopped v_r_fault v_r_faultPlace v_r_laterFault v_r_laterPlace)), (m_r 3, .inl (cyJ, 12, .inr (.inl v_r_cellName))), (h_g, .inr (3, oX3 m_g v_g_cells v_g_passes v_g_rivers v_g_villages v_g_rains))] sz) := by
  refine ux_meti0 (by decide +kernel) (Nat.le_of_ble_eq_true rfl) ?_
  intro p e s m below meth c A Q ls hx hb hml hts hown hA hP hK hD hE hl hret
  have hown : s.vm.findClass RX5 = some m.cls := hown
  have hS : va_S A s.heap s.heap [] := va_S.rf
  have hl : lv_has ls 4 [(0, .ref h_r), (1, .long q1)] := hl
  have hb_2 : ∀ (n : Nat) (x1 : Int64) (x3 : Int32), f_X5_findCell_b2 v_r_cellName v_g_cells n x1 x3 = some out → ∀ (H : Heap) (locs : List Loc) (ls : Array Slot), va_P (dC, dI) vwCl [(h_r, .inr (5, oX5 m_r h_g v_r_next v_r_codeLength v_r_ownCell v_r_stopped v_r_fault v_r_faultPlace v_r_laterFault v_r_laterPlace)), (m_r 3, .inl (cyJ, 12, .inr (.inl v_r_cellName))), (h_g, .inr (3, oX3 m_g v_g_cells v_g_passes v_g_rivers v_g_villages v_g_rains))] H → va_D A [(h_r, .inr (5, oX5 m_r h_g v_r_next v_r_codeLength v_r_ownCell v_r_stopped v_r_fault v_r_faultPlace v_r_laterFault v_r_laterPlace)), (m_r 3, .inl (cyJ, 12, .inr (.inl v_r_cellName))), (h_g, .inr (3, oX3 m_g v_g_cells v_g_passes v_g_rivers v_g_villages v_g_rains))] → va_S A s.heap H locs → lv_has ls 4 [(0, .ref h_r), (1, .long x1), (3, .int x3)] → W p l e ({ frames := 0, cells := 0, slots := 0, locals := 0 } : Room) s m ([.ref h_r, .long q1] : List Value).toArray below meth c H locs 0 0 Q (F0 m 2 ls []) := by
    intro  n
    induction n with
    | zero =>
      intro x1 x3 hf
      exact no_some hf
    | succ n ih =>
      intro x1 x3 hf H locs ls hP hD hS hl
      have hf : f_X5_findCell_b2_st (f_X5_findCell_b2 v_r_cellName v_g_cells n) v_r_cellName v_g_cells x1 x3 = some out := hf
      unfold f_X5_findCell_b2_st at hf
      refine lv_iload_n hx hb dX5_findCell_2 rfl (lv_at hl 2 rfl) ?_
      refine lv_aload_n hx hb dX5_findCell_3 rfl (lv_at hl 0 rfl) ?_
      refine va_get (D := (dC, dI)) (ci := 5) (v := .ref h_g) (C := RX5) (T := TX5) (N := 14) hx hb hts (g_c inlX5) hown hK hP 0 rfl rfl 5 (by decide) (hts _ (List.mem_cons_of_mem _ wm_3_7)) (fun _ h9 => h9) rfl dX5_findCell_4 ?_
      refine va_get (D := (dC, dI)) (ci := 3) (v := .int v_g_cells) (C := RX3) (T := TX3) (N := 20) hx hb hts (g_c inlX3) hown hK hP 2 rfl rfl 0 (by decide) (hts _ (List.mem_cons_of_mem _ wm_18_13)) (fun _ h9 => h9) rfl dX5_findCell_7 ?_
      refine lv_icmp_ge (tgt := 32) hx hb dX5_findCell_10 (by decide) (fun c_1 => ?_) (fun c_1 => ?_)
      · have hf := (if_pos c_1).symm.trans hf
        refine lv_iconst (v := (-1 : Int32)) hx hb dX5_findCell_32 (by decide) ?_
        exact hret _ _ _ _ (-1 : Int32) dX5_findCell_33 (Option.some.inj hf) hP hD hS
      · have hf := (if_neg c_1).symm.trans hf
        refine lv_aload_n hx hb dX5_findCell_13 rfl (lv_at hl 0 rfl) ?_
        refine va_get (D := (dC, dI)) (ci := 5) (v := .ref (m_r 3)) (C := RX5) (T := TX5) (N := 14) hx hb hts (g_c inlX5) hown hK hP 0 rfl rfl 3 (by decide) (hts _ (List.mem_cons_of_mem _ wm_3_4)) (fun _ h9 => h9) rfl dX5_findCell_14 ?_
        refine lv_iload_n hx hb dX5_findCell_17 rfl (lv_at hl 2 rfl) ?_
        obtain ⟨h_2, hf⟩ := ck_some hf
        refine va_lald hx hb hK hP 1 1 rfl rfl (inb_in h_2) dX5_findCell_18 ?_
        refine lv_lload_n hx hb dX5_findCell_19 rfl (lv_at hl 1 rfl) ?_
        refine W.lcmp hx hb dX5_findCell_20 ?_
        refine lv_if_ne (tgt := 26) hx hb dX5_findCell_21 (by decide) (fun c_3 => ?_) (fun c_3 => ?_)
        · have hf := (if_neg c_3).symm.trans hf
          refine lv_iinc (v := x3 + (1 : Int32)) (lv' := [(3, .int (x3 + (1 : Int32))), (0, .ref h_r), (1, .long x1)]) hx hb dX5_findCell_26 hl (k := 2) rfl rfl (by decide) rfl (fun ls hl => ?_)
          refine lv_goto (tgt := 2) hx hb dX5_findCell_29 (by decide) ?_
          exact ih _ _ hf _ _ _ hP hD hS (lv_sub hl [1, 2, 0] rfl)
        · have hf := (if_pos c_3).symm.trans hf
          refine lv_iload_n hx hb dX5_findCell_24 rfl (lv_at hl 2 rfl) ?_
          exact hret _ _ _ _ x3 dX5_findCell_25 (Option.some.inj hf) hP hD hS
  unfold f_X5_findCell at hf
  refine lv_iconst (v := (0 : Int32)) hx hb dX5_findCell_0 (by decide) ?_
  refine lv_istore_n (lv' := [(3, .int (0 : Int32)), (0, .ref h_r), (1, .long q1)]) hx hb dX5_findCell_1 rfl hl (by decide) rfl (fun ls hl => ?_)
  exact hb_2 _ _ _ hf _ _ _ hP hD hS (lv_sub hl [1, 2, 0] rfl)
def f_X5_newName_b40_st (kr : Int32 → Int32 → Int32 → Int32 → Int32 → Int32 → Int64 → Int32 → Int32 → Option (Int64 × Int32 × Int32 × Int32 × Int32 × Int32 × Int32))  (v_r_start : (Nat → Int32)) (v_r_villageName : (Nat → Int64)) (v_g_villages : Int32) (v_r_next : Int32) (v_r_stopped : Int32) (v_r_fault : Int32) (v_r_faultPlace : Int32) (v_r_laterFault : Int32) (v_r_laterPlace : Int32) (x1 : Int64) (x3 : Int32) (x4 : Int32) : Option (Int64 × Int32 × Int32 × Int32 × Int32 × Int32 × Int32) := if v_g_villages ≤ x4 then (if x3 = (0 : Int32) then (some (x1, v_r_next, v_r_stopped, v_r_fault, v_r_faultPlace, v_r_laterFault, v_r_laterPlace)) else (bd (f_X5_later v_r_next v_r_start v_r_laterFault v_r_laterPlace (3 : Int32)) (fun o_3 => un2 o_3 (fun o_3_0 o_3_1 => some (x1, v_r_next, v_r_stopped, v_r_fault, v_r_faultPlace, o_3_0, o_3_1))))) else (if x3 = (0 : Int32) then (ck (inb x4 6) (if (lg_cmp (v_r_villageName x4.toNatClampNeg) x1) = (0 : Int32) then (kr v_r_next v_r_stopped v_r_fault v_r_faultPlace v_r_laterFault v_r_laterPlace x1 (1 : Int32) (x4 + (1 : Int32))) else (kr v_r_next v_r_stopped v_r_fault v_r_faultPlace v_r_laterFault v_r_laterPlace x1 (0 : Int32) (x4 + (1 : Int32))))) else (kr v_r_next v_r_stopped v_r_fault v_r_faultPlace v_r_laterFault v_r_laterPlace x1 (1 : Int32) (x4 + (1 : Int32))))
def f_X5_newName_b40  (v_r_start : (Nat → Int32)) (v_r_villageName : (Nat → Int64)) (v_g_villages : Int32) : Nat → Int32 → Int32 → Int32 → Int32 → Int32 → Int32 → Int64 → Int32 → Int32 → Option (Int64 × Int32 × Int32 × Int32 × Int32 × Int32 × Int32)
  | 0 => fun _ _ _ _ _ _ _ _ _ => none
  | n + 1 => f_X5_newName_b40_st (f_X5_newName_b40 v_r_start v_r_villageName v_g_villages n) v_r_start v_r_villageName v_g_villages
def f_X5_newName (v_r_kind : (Nat → Int32)) (v_r_start : (Nat → Int32)) (v_r_value : (Nat → Int64)) (v_r_cellName : (Nat → Int64)) (v_r_villageName : (Nat → Int64)) (v_g_cells : Int32) (v_g_villages : Int32) (v_r_next : Int32) (v_r_stopped : Int32) (v_r_fault : Int32) (v_r_faultPlace : Int32) (v_r_laterFault : Int32) (v_r_laterPlace : Int32) : Option (Int64 × Int32 × Int32 × Int32 × Int32 × Int32 × Int32) := bd (f_X5_accept v_r_kind v_r_start v_r_next v_r_stopped v_r_fault v_r_faultPlace (1 : Int32)) (fun o_1 => un5 o_1 (fun o_1_0 o_1_1 o_1_2 o_1_3 o_1_4 => if o_1_0 = (0 : Int32) then (some ((0 : Int64), o_1_1, o_1_2, o_1_3, o_1_4, v_r_laterFault, v_r_laterPlace)) else (ck (inb (o_1_1 - (1 : Int32)) 403) (bd (f_X5_findCell v_r_cellName v_g_cells (v_r_value (o_1_1 - (1 : Int32)).toNatClampNeg)) (fun o_4 => if o_4 = (-1 : Int32) then (f_X5_newName_b40 v_r_start v_r_villageName v_g_villages fuel o_1_1 o_1_2 o_1_3 o_1_4 v_r_laterFault v_r_laterPlace (v_r_value (o_1_1 - (1 : Int32)).toNatClampNeg) (0 : Int32) (0 : Int32)) else (f_X5_newName_b40 v_r_start v_r_villageName v_g_villages fuel o_1_1 o_1_2 o_1_3 o_1_4 v_r_laterFault v_r_laterPlace (v_r_value (o_1_1 - (1 : Int32)).toNatClampNeg) (1 : Int32) (0 : Int32)))))))
set_option maxRecDepth 100000 in
set_option maxHeartbeats 8000000 in
theorem c_X5_newName (l : Launch) (dC : Nat → ClassId) (dI : Nat → Nat → Nat) (cyI cyJ cyZ cyB cyO : ClassId) (tO : Nat) (vF : Value) (adK adV : Nat → Nat) (h_r : Nat) (m_r : Nat → Nat) (h_g : Nat) (m_g : Nat → Nat) (v_r_next : Int32) (v_r_codeLength : Int32) (v_r_ownCell : Int32) (v_r_stopped : Int32) (v_r_fault : Int32) (v_r_faultPlace : Int32) (v_r_laterFault : Int32) (v_r_laterPlace : Int32) (v_r_kind : (Nat → Int32)) (v_r_start : (Nat → Int32)) (v_r_value : (Nat → Int64)) (v_r_cellName : (Nat → Int64)) (v_r_villageName : (Nat → Int64)) (v_g_cells : Int32) (v_g_passes : Int32) (v_g_rivers : Int32) (v_g_villages : Int32) (v_g_rains : Int32)  (sz : Nat) (out : Int64 × Int32 × Int32 × Int32 × Int32 × Int32 × Int32) (hf : f_X5_newName v_r_kind v_r_start v_r_value v_r_cellName v_r_villageName v_g_cells v_g_villages v_r_next v_r_stopped v_r_fault v_r_faultPlace v_r_laterFault v_r_laterPlace = some out) : Met l yX5_newName (Cond.code yX5_newName cX5_newName 5 (some .long) :: wsL_law) ({ frames := 3, cells := 0, slots := 0, locals := 65 } : Room) (va_Pc [.ref h_r] (ux_pre (dC, dI) vwCl (tyG cyI cyJ cyZ cyB cyO) [(h_r, .inr (5, oX5 m_r h_g v_r_next v_r_codeLength v_r_ownCell v_r_stopped v_r_fault v_r_faultPlace v_r_laterFault v_r_laterPlace)), (m_r 0, .inl (cyI, 403, .inl v_r_kind)), (m_r 1, .inl (cyI, 403, .inl v_r_start)), (m_r 2, .inl (cyJ, 403, .inr (.inl v_r_value))), (m_r 3, .inl (cyJ, 12, .inr (.inl v_r_cellName))), (m_r 4, .inl (cyJ, 6, .inr (.inl v_r_villageName))), (h_g, .inr (3, oX3 m_g v_g_cells v_g_passes v_g_rivers v_g_villages v_g_rains))] sz (xE tO vF adK adV))) (va_Ql (fun (r : Int64) (u : Int32 × Int32 × Int32 × Int32 × Int32 × Int32) => (r, u) = out) (ux_at (dC, dI) vwCl (tyG cyI cyJ cyZ cyB cyO) [(h_r, .inr (5, oX5 m_r h_g v_r_next v_r_codeLength v_r_ownCell v_r_stopped v_r_fault v_r_faultPlace v_r_laterFault v_r_laterPlace)), (m_r 0, .inl (cyI, 403, .inl v_r_kind)), (m_r 1, .inl (cyI, 403, .inl v_r_start)), (m_r 2, .inl (cyJ, 403, .inr (.inl v_r_value))), (m_r 3, .inl (cyJ, 12, .inr (.inl v_r_cellName))), (m_r 4, .inl (cyJ, 6, .inr (.inl v_r_villageName))), (h_g, .inr (3, oX3 m_g v_g_cells v_g_passes v_g_rivers v_g_villages v_g_rains))] sz (fun u : Int32 × Int32 × Int32 × Int32 × Int32 × Int32 => [(h_r, .inr (5, oX5 m_r h_g u.1 v_r_codeLength v_r_ownCell u.2.1 u.2.2.1 u.2.2.2.1 u.2.2.2.2.1 u.2.2.2.2.2)), (m_r 0, .inl (cyI, 403, .inl v_r_kind)), (m_r 1, .inl (cyI, 403, .inl v_r_start)), (m_r 2, .inl (cyJ, 403, .inr (.inl v_r_value))), (m_r 3, .inl (cyJ, 12, .inr (.inl v_r_cellName))), (m_r 4, .inl (cyJ, 6, .inr (.inl v_r_villageName))), (h_g, .inr (3, oX3 m_g v_g_cells v_g_passes v_g_rivers v_g_villages v_g_rains))])) (va_A [(h_r, .inr (5, oX5 m_r h_g v_r_next v_r_codeLength v_r_ownCell v_r_stopped v_r_fault v_r_faultPlace v_r_laterFault v_r_laterPlace)), (m_r 0, .inl (cyI, 403, .inl v_r_kind)), (m_r 1, .inl (cyI, 403, .inl v_r_start)), (m_r 2, .inl (cyJ, 403, .inr (.inl v_r_value))), (m_r 3, .inl (cyJ, 12, .inr (.inl v_r_cellName))), (m_r 4, .inl (cyJ, 6, .inr (.inl v_r_villageName))), (h_g, .inr (3, oX3 m_g v_g_cells v_g_passes v_g_rivers v_g_villages v_g_rains))] sz)) 0 0 (va_A [(h_r, .inr (5, oX5 m_r h_g v_r_next v_r_codeLength v_r_ownCell v_r_stopped v_r_fault v_r_faultPlace v_r_laterFault v_r_laterPlace)), (m_r 0, .inl (cyI, 403, .inl v_r_kind)), (m_r 1, .inl (cyI, 403, .inl v_r_start)), (m_r 2, .inl (cyJ, 403, .inr (.inl v_r_value))), (m_r 3, .inl (cyJ, 12, .inr (.inl v_r_cellName))), (m_r 4, .inl (cyJ, 6, .inr (.inl v_r_villageName))), (h_g, .inr (3, oX3 m_g v_g_cells v_g_passes v_g_rivers v_g_villages v_g_rains))] sz) := by
  refine ux_metl (by decide +kernel) (Nat.le_of_ble_eq_true rfl) ?_
  intro p e s m below meth c A Q ls hx hb hml hts hown hA hP hK hD hE hl hret
  have hown : s.vm.findClass RX5 = some m.cls := hown
  have hS : va_S A s.heap s.heap [] := va_S.rf
  have hl : lv_has ls 5 [(0, .ref h_r)] := hl
  have hb_40 : ∀ (n : Nat) (v_r_next : Int32) (v_r_stopped : Int32) (v_r_fault : Int32) (v_r_faultPlace : Int32) (v_r_laterFault : Int32) (v_r_laterPlace : Int32) (x1 : Int64) (x3 : Int32) (x4 : Int32), f_X5_newName_b40 v_r_start v_r_villageName v_g_villages n v_r_next v_r_stopped v_r_fault v_r_faultPlace v_r_laterFault v_r_laterPlace x1 x3 x4 = some out → ∀ (H : Heap) (locs : List Loc) (ls : Array Slot), va_P (dC, dI) vwCl [(h_r, .inr (5, oX5 m_r h_g v_r_next v_r_codeLength v_r_ownCell v_r_stopped v_r_fault v_r_faultPlace v_r_laterFault v_r_laterPlace)), (m_r 0, .inl (cyI, 403, .inl v_r_kind)), (m_r 1, .inl (cyI, 403, .inl v_r_start)), (m_r 2, .inl (cyJ, 403, .inr (.inl v_r_value))), (m_r 3, .inl (cyJ, 12, .inr (.inl v_r_cellName))), (m_r 4, .inl (cyJ, 6, .inr (.inl v_r_villageName))), (h_g, .inr (3, oX3 m_g v_g_cells v_g_passes v_g_rivers v_g_villages v_g_rains))] H → va_D A [(h_r, .inr (5, oX5 m_r h_g v_r_next v_r_codeLength v_r_ownCell v_r_stopped v_r_fault v_r_faultPlace v_r_laterFault v_r_laterPlace)), (m_r 0, .inl (cyI, 403, .inl v_r_kind)), (m_r 1, .inl (cyI, 403, .inl v_r_start)), (m_r 2, .inl (cyJ, 403, .inr (.inl v_r_value))), (m_r 3, .inl (cyJ, 12, .inr (.inl v_r_cellName))), (m_r 4, .inl (cyJ, 6, .inr (.inl v_r_villageName))), (h_g, .inr (3, oX3 m_g v_g_cells v_g_passes v_g_rivers v_g_villages v_g_rains))] → va_S A s.heap H locs → lv_has ls 5 [(0, .ref h_r), (1, .long x1), (3, .int x3), (4, .int x4)] → W p l e ({ frames := 3, cells := 0, slots := 0, locals := 65 } : Room) s m ([.ref h_r] : List Value).toArray below meth c H locs 0 0 Q (F0 m 40 ls []) := by
    intro  n
    induction n with
    | zero =>
      intro v_r_next v_r_stopped v_r_fault v_r_faultPlace v_r_laterFault v_r_laterPlace x1 x3 x4 hf
      exact no_some hf
    | succ n ih =>
      intro v_r_next v_r_stopped v_r_fault v_r_faultPlace v_r_laterFault v_r_laterPlace x1 x3 x4 hf H locs ls hP hD hS hl
      have hf : f_X5_newName_b40_st (f_X5_newName_b40 v_r_start v_r_villageName v_g_villages n) v_r_start v_r_villageName v_g_villages v_r_next v_r_stopped v_r_fault v_r_faultPlace v_r_laterFault v_r_laterPlace x1 x3 x4 = some out := hf
      unfold f_X5_newName_b40_st at hf
      refine lv_iload hx hb dX5_newName_40 (lv_at hl 3 rfl) ?_
      refine lv_aload_n hx hb dX5_newName_42 rfl (lv_at hl 0 rfl) ?_
      refine va_get (D := (dC, dI)) (ci := 5) (v := .ref h_g) (C := RX5) (T := TX5) (N := 14) hx hb hts (g_c inlX5) hown hK hP 0 rfl rfl 5 (by decide) (hts _ (List.mem_cons_of_mem _ wm_3_7)) (fun _ h9 => h9) rfl dX5_newName_43 ?_
      refine va_get (D := (dC, dI)) (ci := 3) (v := .int v_g_villages) (C := RX3) (T := TX3) (N := 20) hx hb hts (g_c inlX3) hown hK hP 6 rfl rfl 13 (by decide) (hts _ (List.mem_cons_of_mem _ wm_19_12)) (fun _ h9 => h9) rfl dX5_newName_46 ?_
      refine lv_icmp_ge (tgt := 80) hx hb dX5_newName_49 (by decide) (fun c_1 => ?_) (fun c_1 => ?_)
      · have hf := (if_pos c_1).symm.trans hf
        refine lv_iload_n hx hb dX5_newName_80 rfl (lv_at hl 2 rfl) ?_
        refine lv_if_eq (tgt := 89) hx hb dX5_newName_81 (by decide) (fun c_2 => ?_) (fun c_2 => ?_)
        · have hf := (if_pos c_2).symm.trans hf
          refine lv_lload_n hx hb dX5_newName_89 rfl (lv_at hl 1 rfl) ?_
          exact hret _ _ _ _ x1 (v_r_next, v_r_stopped, v_r_fault, v_r_faultPlace, v_r_laterFault, v_r_laterPlace) dX5_newName_90 (Option.some.inj hf) hP hD hS
        · have hf := (if_neg c_2).symm.trans hf
          refine lv_aload_n hx hb dX5_newName_84 rfl (lv_at hl 0 rfl) ?_
          refine lv_iconst (v := (3 : Int32)) hx hb dX5_newName_85 (by decide) ?_
          obtain ⟨o_3, ho_3, hf⟩ := bd_some hf
          obtain ⟨o_3_0, o_3_1⟩ := o_3
          have hf := un2_some hf
          refine ux_Vv (n := 1) (As := [.int (3 : Int32)]) (rest := []) (wc := [(h_r, .inr (5, oX5 m_r h_g v_r_next v_r_codeLength v_r_ownCell v_r_stopped v_r_fault v_r_faultPlace v_r_laterFault v_r_laterPlace)), (m_r 1, .inl (cyI, 403, .inl v_r_start))]) (wr := [_, _, _, _, _]) ⟨hx, hb, hml, hown, hts⟩ hK hP hD hS hA hE [0, 2] [1, 3, 4, 5, 6] (sg_h [(0, 1), (2, 1)] 7 rfl sk_z15_16 rfl) (sg_h [(1, 1), (3, 4)] 7 rfl sk_z15_17 rfl) nd_z15_6 nd_z15_11 nj_z15_8 (c_X5_later l dC dI cyI cyJ cyZ cyB cyO tO vF adK adV h_r m_r h_g m_g v_r_next v_r_codeLength v_r_ownCell v_r_stopped v_r_fault v_r_faultPlace v_r_laterFault v_r_laterPlace v_r_start (3 : Int32) _ _ ho_3) 5 0 rfl rfl wm_19_17 wm_19_18 wm_19_19 wm_1_18 wm_19_20 ⟨rfl, rfl⟩ (by decide +kernel) rfl ⟨Nat.le_of_ble_eq_true rfl, Nat.le_of_ble_eq_true rfl⟩ hl.1 rfl (Nat.le_of_ble_eq_true rfl) dX5_newName_86 ⟨Nat.le_of_ble_eq_true rfl, Nat.le_of_ble_eq_true rfl⟩ (fun H locs hP hD hS => ?_)
          have hP : va_P (dC, dI) vwCl [_, _, _, _, _, (h_r, .inr (5, oX5 m_r h_g v_r_next v_r_codeLength v_r_ownCell v_r_stopped v_r_fault v_r_faultPlace o_3_0 o_3_1)), (m_r 1, .inl (cyI, 403, .inl v_r_start))] H := hP
          have hD : va_D A [_, _, _, _, _, (h_r, .inr (5, oX5 m_r h_g v_r_next v_r_codeLength v_r_ownCell v_r_stopped v_r_fault v_r_faultPlace o_3_0 o_3_1)), (m_r 1, .inl (cyI, 403, .inl v_r_start))] := hD
          refine lv_lload_n hx hb dX5_newName_89 rfl (lv_at hl 1 rfl) ?_
          exact hret _ _ _ _ x1 (v_r_next, v_r_stopped, v_r_fault, v_r_faultPlace, o_3_0, o_3_1) dX5_newName_90 (Option.some.inj hf) (hP.sub [5, 0, 6, 1, 2, 3, 4] (ux_pick (sg_h [(5, 1), (0, 1), (6, 1), (1, 4)] 7 rfl sk_z15_18 rfl))) (hD.sub [5, 0, 6, 1, 2, 3, 4] nd_z15_12 (sg_h [(5, 1), (0, 1), (6, 1), (1, 4)] 7 rfl sk_z15_18 rfl)) hS
      · have hf := (if_neg c_1).symm.trans hf
        refine lv_iload_n hx hb dX5_newName_52 rfl (lv_at hl 2 rfl) ?_
        refine lv_if_ne (tgt := 68) hx hb dX5_newName_53 (by decide) (fun c_4 => ?_) (fun c_4 => ?_)
        · have hf := (if_neg c_4).symm.trans hf
          refine lv_iconst (v := (1 : Int32)) hx hb dX5_newName_68 (by decide) ?_
          refine lv_goto (tgt := 73) hx hb dX5_newName_69 (by decide) ?_
          refine lv_istore_n (lv' := [(3, .int (1 : Int32)), (0, .ref h_r), (1, .long x1), (4, .int x4)]) hx hb dX5_newName_73 rfl hl (by decide) rfl (fun ls hl => ?_)
          refine lv_iinc (v := x4 + (1 : Int32)) (lv' := [(4, .int (x4 + (1 : Int32))), (3, .int (1 : Int32)), (0, .ref h_r), (1, .long x1)]) hx hb dX5_newName_74 hl (k := 3) rfl rfl (by decide) rfl (fun ls hl => ?_)
          refine lv_goto (tgt := 40) hx hb dX5_newName_77 (by decide) ?_
          exact ih _ _ _ _ _ _ _ _ _ hf _ _ _ hP hD hS (lv_sub hl [2, 3, 1, 0] rfl)
        · have hf := (if_pos c_4).symm.trans hf
          refine lv_aload_n hx hb dX5_newName_56 rfl (lv_at hl 0 rfl) ?_
          refine va_get (D := (dC, dI)) (ci := 5) (v := .ref (m_r 4)) (C := RX5) (T := TX5) (N := 14) hx hb hts (g_c inlX5) hown hK hP 0 rfl rfl 4 (by decide) (hts _ (List.mem_cons_of_mem _ wm_3_5)) (fun _ h9 => h9) rfl dX5_newName_57 ?_
          refine lv_iload hx hb dX5_newName_60 (lv_at hl 3 rfl) ?_
          obtain ⟨h_5, hf⟩ := ck_some hf
          refine va_lald hx hb hK hP 5 1 rfl rfl (inb_in h_5) dX5_newName_62 ?_
          refine lv_lload_n hx hb dX5_newName_63 rfl (lv_at hl 1 rfl) ?_
          refine W.lcmp hx hb dX5_newName_64 ?_
          refine lv_if_ne (tgt := 72) hx hb dX5_newName_65 (by decide) (fun c_6 => ?_) (fun c_6 => ?_)
          · have hf := (if_neg c_6).symm.trans hf
            refine lv_iconst (v := (0 : Int32)) hx hb dX5_newName_72 (by decide) ?_
            refine lv_istore_n (lv' := [(3, .int (0 : Int32)), (0, .ref h_r), (1, .long x1), (4, .int x4)]) hx hb dX5_newName_73 rfl hl (by decide) rfl (fun ls hl => ?_)
            refine lv_iinc (v := x4 + (1 : Int32)) (lv' := [(4, .int (x4 + (1 : Int32))), (3, .int (0 : Int32)), (0, .ref h_r), (1, .long x1)]) hx hb dX5_newName_74 hl (k := 3) rfl rfl (by decide) rfl (fun ls hl => ?_)
            refine lv_goto (tgt := 40) hx hb dX5_newName_77 (by decide) ?_
            exact ih _ _ _ _ _ _ _ _ _ hf _ _ _ hP hD hS (lv_sub hl [2, 3, 1, 0] rfl)
          · have hf := (if_pos c_6).symm.trans hf
            refine lv_iconst (v := (1 : Int32)) hx hb dX5_newName_68 (by decide) ?_
            refine lv_goto (tgt := 73) hx hb dX5_newName_69 (by decide) ?_
            refine lv_istore_n (lv' := [(3, .int (1 : Int32)), (0, .ref h_r), (1, .long x1), (4, .int x4)]) hx hb dX5_newName_73 rfl hl (by decide) rfl (fun ls hl => ?_)
            refine lv_iinc (v := x4 + (1 : Int32)) (lv' := [(4, .int (x4 + (1 : Int32))), (3, .int (1 : Int32)), (0, .ref h_r), (1, .long x1)]) hx hb dX5_newName_74 hl (k := 3) rfl rfl (by decide) rfl (fun ls hl => ?_)
            refine lv_goto (tgt := 40) hx hb dX5_newName_77 (by decide) ?_
            exact ih _ _ _ _ _ _ _ _ _ hf _ _ _ hP hD hS (lv_sub hl [2, 3, 1, 0] rfl)
  unfold f_X5_newName at hf
  refine lv_aload_n hx hb dX5_newName_0 rfl (lv_at hl 0 rfl) ?_
  refine lv_iconst (v := (1 : Int32)) hx hb dX5_newName_1 (by decide) ?_
  obtain ⟨o_1, ho_1, hf⟩ := bd_some hf
  obtain ⟨o_1_0, o_1_1, o_1_2, o_1_3, o_1_4⟩ := o_1
  have hf := un5_some hf
  refine ux_Vi (n := 1) (As := [.int (1 : Int32)]) (rest := []) (wc := [(h_r, .inr (5, oX5 m_r h_g v_r_next v_r_codeLength v_r_ownCell v_r_stopped v_r_fault v_r_faultPlace v_r_laterFault v_r_laterPlace)), (m_r 0, .inl (cyI, 403, .inl v_r_kind)), (m_r 1, .inl (cyI, 403, .inl v_r_start))]) (wr := [_, _, _, _]) ⟨hx, hb, hml, hown, hts⟩ hK hP hD hS hA hE [0, 1, 2] [3, 4, 5, 6] (sg_h [(0, 3)] 7 rfl sk_z15_19 rfl) (sg_h [(3, 4)] 7 rfl sk_z15_20 rfl) nd_z15_5 nd_z15_13 nj_z15_9 (c_X5_accept l dC dI cyI cyJ cyZ cyB cyO tO vF adK adV h_r m_r h_g m_g v_r_next v_r_codeLength v_r_ownCell v_r_stopped v_r_fault v_r_faultPlace v_r_laterFault v_r_laterPlace v_r_kind v_r_start (1 : Int32) _ _ ho_1) 5 0 rfl rfl wm_19_4 wm_19_5 wm_19_6 wm_1_18 wm_19_7 ⟨rfl, rfl⟩ (by decide +kernel) rfl ⟨Nat.le_of_ble_eq_true rfl, Nat.le_of_ble_eq_true rfl⟩ hl.1 rfl (Nat.le_of_ble_eq_true rfl) dX5_newName_2 ⟨Nat.le_of_ble_eq_true rfl, Nat.le_of_ble_eq_true rfl⟩ (fun H locs hP hD hS => ?_)
  have hP : va_P (dC, dI) vwCl [_, _, _, _, (h_r, .inr (5, oX5 m_r h_g o_1_1 v_r_codeLength v_r_ownCell o_1_2 o_1_3 o_1_4 v_r_laterFault v_r_laterPlace)), (m_r 0, .inl (cyI, 403, .inl v_r_kind)), (m_r 1, .inl (cyI, 403, .inl v_r_start))] H := hP
  have hD : va_D A [_, _, _, _, (h_r, .inr (5, oX5 m_r h_g o_1_1 v_r_codeLength v_r_ownCell o_1_2 o_1_3 o_1_4 v_r_laterFault v_r_laterPlace)), (m_r 0, .inl (cyI, 403, .inl v_r_kind)), (m_r 1, .inl (cyI, 403, .inl v_r_start))] := hD
  refine lv_if_ne (tgt := 10) hx hb dX5_newName_5 (by decide) (fun c_2 => ?_) (fun c_2 => ?_)
  · have hf := (if_neg c_2).symm.trans hf
    refine lv_aload_n hx hb dX5_newName_10 rfl (lv_at hl 0 rfl) ?_
    refine va_get (D := (dC, dI)) (ci := 5) (v := .ref (m_r 2)) (C := RX5) (T := TX5) (N := 14) hx hb hts (g_c inlX5) hown hK hP 4 rfl rfl 2 (by decide) (hts _ (List.mem_cons_of_mem _ wm_3_3)) (fun _ h9 => h9) rfl dX5_newName_11 ?_
    refine lv_aload_n hx hb dX5_newName_14 rfl (lv_at hl 0 rfl) ?_
    refine va_get (D := (dC, dI)) (ci := 5) (v := .int o_1_1) (C := RX5) (T := TX5) (N := 14) hx hb hts (g_c inlX5) hown hK hP 4 rfl rfl 6 (by decide) (hts _ (List.mem_cons_of_mem _ wm_3_8)) (fun _ h9 => h9) rfl dX5_newName_15 ?_
    refine lv_iconst (v := (1 : Int32)) hx hb dX5_newName_18 (by decide) ?_
    refine lv_isub hx hb dX5_newName_19 ?_
    obtain ⟨h_3, hf⟩ := ck_some hf
    refine va_lald hx hb hK hP 0 1 rfl rfl (inb_in h_3) dX5_newName_20 ?_
    refine lv_lstore_n (lv' := [(1, .long (v_r_value (o_1_1 - (1 : Int32)).toNatClampNeg)), (0, .ref h_r)]) hx hb dX5_newName_21 rfl hl (by decide) rfl (fun ls hl => ?_)
    refine lv_aload_n hx hb dX5_newName_22 rfl (lv_at hl 1 rfl) ?_
    refine lv_lload_n hx hb dX5_newName_23 rfl (lv_at hl 0 rfl) ?_
    obtain ⟨o_4, ho_4, hf⟩ := bd_some hf
    refine ux_Vi0 (n := 1) (As := [.long (v_r_value (o_1_1 - (1 : Int32)).toNatClampNeg)]) (rest := []) (wc := [(h_r, .inr (5, oX5 m_r h_g o_1_1 v_r_codeLength v_r_ownCell o_1_2 o_1_3 o_1_4 v_r_laterFault v_r_laterPlace)), (m_r 3, .inl (cyJ, 12, .inr (.inl v_r_cellName))), (h_g, .inr (3, oX3 m_g v_g_cells v_g_passes v_g_rivers v_g_villages v_g_rains))]) (wr := [_, _, _, _]) ⟨hx, hb, hml, hown, hts⟩ hK hP hD hS hA hE [4, 1, 3] [0, 2, 5, 6] (sg_h [(4, 1), (1, 1), (3, 1)] 7 rfl sk_z15_21 rfl) (sg_h [(0, 1), (2, 1), (5, 2)] 7 rfl sk_z15_22 rfl) nd_z15_14 nd_z15_15 nj_z15_10 (c_X5_findCell l dC dI cyI cyJ cyZ cyB cyO tO vF adK adV h_r m_r h_g m_g o_1_1 v_r_codeLength v_r_ownCell o_1_2 o_1_3 o_1_4 v_r_laterFault v_r_laterPlace v_r_cellName v_g_cells v_g_passes v_g_rivers v_g_villages v_g_rains (v_r_value (o_1_1 - (1 : Int32)).toNatClampNeg) _ _ ho_4) 5 0 rfl rfl wm_19_13 wm_19_14 wm_19_15 wm_1_18 wm_19_16 ⟨rfl, rfl⟩ (by decide +kernel) rfl ⟨Nat.le_of_ble_eq_true rfl, Nat.le_of_ble_eq_true rfl⟩ hl.1 rfl (Nat.le_of_ble_eq_true rfl) dX5_newName_24 ⟨Nat.le_of_ble_eq_true rfl, Nat.le_of_ble_eq_true rfl⟩ (fun H locs hP hD hS => ?_)
    have hP : va_P (dC, dI) vwCl [_, _, _, _, (h_r, .inr (5, oX5 m_r h_g o_1_1 v_r_codeLength v_r_ownCell o_1_2 o_1_3 o_1_4 v_r_laterFault v_r_laterPlace)), (m_r 3, .inl (cyJ, 12, .inr (.inl v_r_cellName))), (h_g, .inr (3, oX3 m_g v_g_cells v_g_passes v_g_rivers v_g_villages v_g_rains))] H := hP
    have hD : va_D A [_, _, _, _, (h_r, .inr (5, oX5 m_r h_g o_1_1 v_r_codeLength v_r_ownCell o_1_2 o_1_3 o_1_4 v_r_laterFault v_r_laterPlace)), (m_r 3, .inl (cyJ, 12, .inr (.inl v_r_cellName))), (h_g, .inr (3, oX3 m_g v_g_cells v_g_passes v_g_rivers v_g_villages v_g_rains))] := hD
    refine lv_iconst (v := (-1 : Int32)) hx hb dX5_newName_27 (by decide) ?_
    refine lv_icmp_eq (tgt := 35) hx hb dX5_newName_28 (by decide) (fun c_5 => ?_) (fun c_5 => ?_)
    · have hf := (if_pos c_5).symm.trans hf
      refine lv_iconst (v := (0 : Int32)) hx hb dX5_newName_35 (by decide) ?_
      refine lv_istore_n (lv' := [(3, .int (0 : Int32)), (1, .long (v_r_value (o_1_1 - (1 : Int32)).toNatClampNeg)), (0, .ref h_r)]) hx hb dX5_newName_36 rfl hl (by decide) rfl (fun ls hl => ?_)
      refine lv_iconst (v := (0 : Int32)) hx hb dX5_newName_37 (by decide) ?_
      refine lv_istore (lv' := [(4, .int (0 : Int32)), (3, .int (0 : Int32)), (1, .long (v_r_value (o_1_1 - (1 : Int32)).toNatClampNeg)), (0, .ref h_r)]) hx hb dX5_newName_38 hl (by decide) rfl (fun ls hl => ?_)
      exact hb_40 _ _ _ _ _ _ _ _ _ _ hf _ _ _ (hP.sub [4, 2, 3, 0, 5, 1, 6] (ux_pick (sg_h [(4, 1), (2, 2), (0, 1), (5, 1), (1, 1), (6, 1)] 7 rfl sk_z15_23 rfl))) (hD.sub [4, 2, 3, 0, 5, 1, 6] nd_z15_16 (sg_h [(4, 1), (2, 2), (0, 1), (5, 1), (1, 1), (6, 1)] 7 rfl sk_z15_23 rfl)) hS (lv_sub hl [3, 2, 1, 0] rfl)
    · have hf := (if_neg c_5).symm.trans hf
      refine lv_iconst (v := (1 : Int32)) hx hb dX5_newName_31 (by decide) ?_
      refine lv_goto (tgt := 36) hx hb dX5_newName_32 (by decide) ?_
      refine lv_istore_n (lv' := [(3, .int (1 : Int32)), (1, .long (v_r_value (o_1_1 - (1 : Int32)).toNatClampNeg)), (0, .ref h_r)]) hx hb dX5_newName_36 rfl hl (by decide) rfl (fun ls hl => ?_)
      refine lv_iconst (v := (0 : Int32)) hx hb dX5_newName_37 (by decide) ?_
      refine lv_istore (lv' := [(4, .int (0 : Int32)), (3, .int (1 : Int32)), (1, .long (v_r_value (o_1_1 - (1 : Int32)).toNatClampNeg)), (0, .ref h_r)]) hx hb dX5_newName_38 hl (by decide) rfl (fun ls hl => ?_)
      exact hb_40 _ _ _ _ _ _ _ _ _ _ hf _ _ _ (hP.sub [4, 2, 3, 0, 5, 1, 6] (ux_pick (sg_h [(4, 1), (2, 2), (0, 1), (5, 1), (1, 1), (6, 1)] 7 rfl sk_z15_23 rfl))) (hD.sub [4, 2, 3, 0, 5, 1, 6] nd_z15_16 (sg_h [(4, 1), (2, 2), (0, 1), (5, 1), (1, 1), (6, 1)] 7 rfl sk_z15_23 rfl)) hS (lv_sub hl [3, 2, 1, 0] rfl)
  · have hf := (if_pos c_2).symm.trans hf
    refine lv_lconst (v := (0 : Int64)) hx hb dX5_newName_8 (by decide) ?_
    exact hret _ _ _ _ (0 : Int64) (o_1_1, o_1_2, o_1_3, o_1_4, v_r_laterFault, v_r_laterPlace) dX5_newName_9 (Option.some.inj hf) (hP.sub [4, 5, 6, 0, 1, 2, 3] (ux_pick (sg_h [(4, 3), (0, 4)] 7 rfl sk_z15_24 rfl))) (hD.sub [4, 5, 6, 0, 1, 2, 3] nd_z15_17 (sg_h [(4, 3), (0, 4)] 7 rfl sk_z15_24 rfl)) hS
def f_X5_knownCell (v_r_kind : (Nat → Int32)) (v_r_start : (Nat → Int32)) (v_r_value : (Nat → Int64)) (v_r_cellName : (Nat → Int64)) (v_g_cells : Int32) (v_r_next : Int32) (v_r_stopped : Int32) (v_r_fault : Int32) (v_r_faultPlace : Int32) (v_r_laterFault : Int32) (v_r_laterPlace : Int32) : Option (Int32 × Int32 × Int32 × Int32 × Int32 × Int32 × Int32) := bd (f_X5_accept v_r_kind v_r_start v_r_next v_r_stopped v_r_fault v_r_faultPlace (1 : Int32)) (fun o_1 => un5 o_1 (fun o_1_0 o_1_1 o_1_2 o_1_3 o_1_4 => if o_1_0 = (0 : Int32) then (some ((-1 : Int32), o_1_1, o_1_2, o_1_3, o_1_4, v_r_laterFault, v_r_laterPlace)) else (ck (inb (o_1_1 - (1 : Int32)) 403) (bd (f_X5_findCell v_r_cellName v_g_cells (v_r_value (o_1_1 - (1 : Int32)).toNatClampNeg)) (fun o_4 => if o_4 = (-1 : Int32) then (bd (f_X5_later o_1_1 v_r_start v_r_laterFault v_r_laterPlace (4 : Int32)) (fun o_6 => un2 o_6 (fun o_6_0 o_6_1 => some (o_4, o_1_1, o_1_2, o_1_3, o_1_4, o_6_0, o_6_1)))) else (some (o_4, o_1_1, o_1_2, o_1_3, o_1_4, v_r_laterFault, v_r_laterPlace)))))))
set_option maxRecDepth 100000 in
set_option maxHeartbeats 8000000 in
theorem c_X5_knownCell (l : Launch) (dC : Nat → ClassId) (dI : Nat → Nat → Nat) (cyI cyJ cyZ cyB cyO : ClassId) (tO : Nat) (vF : Value) (adK adV : Nat → Nat) (h_r : Nat) (m_r : Nat → Nat) (h_g : Nat) (m_g : Nat → Nat) (v_r_next : Int32) (v_r_codeLength : Int32) (v_r_ownCell : Int32) (v_r_stopped : Int32) (v_r_fault : Int32) (v_r_faultPlace : Int32) (v_r_laterFault : Int32) (v_r_laterPlace : Int32) (v_r_kind : (Nat → Int32)) (v_r_start : (Nat → Int32)) (v_r_value : (Nat → Int64)) (v_r_cellName : (Nat → Int64)) (v_g_cells : Int32) (v_g_passes : Int32) (v_g_rivers : Int32) (v_g_villages : Int32) (v_g_rains : Int32)  (sz : Nat) (out : Int32 × Int32 × Int32 × Int32 × Int32 × Int32 × Int32) (hf : f_X5_knownCell v_r_kind v_r_start v_r_value v_r_cellName v_g_cells v_r_next v_r_stopped v_r_fault v_r_faultPlace v_r_laterFault v_r_laterPlace = some out) : Met l yX5_knownCell (Cond.code yX5_knownCell cX5_knownCell 2 (some .int) :: wsL_law) ({ frames := 3, cells := 0, slots := 0, locals := 65 } : Room) (va_Pc [.ref h_r] (ux_pre (dC, dI) vwCl (tyG cyI cyJ cyZ cyB cyO) [(h_r, .inr (5, oX5 m_r h_g v_r_next v_r_codeLength v_r_ownCell v_r_stopped v_r_fault v_r_faultPlace v_r_laterFault v_r_laterPlace)), (m_r 0, .inl (cyI, 403, .inl v_r_kind)), (m_r 1, .inl (cyI, 403, .inl v_r_start)), (m_r 2, .inl (cyJ, 403, .inr (.inl v_r_value))), (m_r 3, .inl (cyJ, 12, .inr (.inl v_r_cellName))), (h_g, .inr (3, oX3 m_g v_g_cells v_g_passes v_g_rivers v_g_villages v_g_rains))] sz (xE tO vF adK adV))) (va_Qi (fun (r : Int32) (u : Int32 × Int32 × Int32 × Int32 × Int32 × Int32) => (r, u) = out) (ux_at (dC, dI) vwCl (tyG cyI cyJ cyZ cyB cyO) [(h_r, .inr (5, oX5 m_r h_g v_r_next v_r_codeLength v_r_ownCell v_r_stopped v_r_fault v_r_faultPlace v_r_laterFault v_r_laterPlace)), (m_r 0, .inl (cyI, 403, .inl v_r_kind)), (m_r 1, .inl (cyI, 403, .inl v_r_start)), (m_r 2, .inl (cyJ, 403, .inr (.inl v_r_value))), (m_r 3, .inl (cyJ, 12, .inr (.inl v_r_cellName))), (h_g, .inr (3, oX3 m_g v_g_cells v_g_passes v_g_rivers v_g_villages v_g_rains))] sz (fun u : Int32 × Int32 × Int32 × Int32 × Int32 × Int32 => [(h_r, .inr (5, oX5 m_r h_g u.1 v_r_codeLength v_r_ownCell u.2.1 u.2.2.1 u.2.2.2.1 u.2.2.2.2.1 u.2.2.2.2.2)), (m_r 0, .inl (cyI, 403, .inl v_r_kind)), (m_r 1, .inl (cyI, 403, .inl v_r_start)), (m_r 2, .inl (cyJ, 403, .inr (.inl v_r_value))), (m_r 3, .inl (cyJ, 12, .inr (.inl v_r_cellName))), (h_g, .inr (3, oX3 m_g v_g_cells v_g_passes v_g_rivers v_g_villages v_g_rains))])) (va_A [(h_r, .inr (5, oX5 m_r h_g v_r_next v_r_codeLength v_r_ownCell v_r_stopped v_r_fault v_r_faultPlace v_r_laterFault v_r_laterPlace)), (m_r 0, .inl (cyI, 403, .inl v_r_kind)), (m_r 1, .inl (cyI, 403, .inl v_r_start)), (m_r 2, .inl (cyJ, 403, .inr (.inl v_r_value))), (m_r 3, .inl (cyJ, 12, .inr (.inl v_r_cellName))), (h_g, .inr (3, oX3 m_g v_g_cells v_g_passes v_g_rivers v_g_villages v_g_rains))] sz)) 0 0 (va_A [(h_r, .inr (5, oX5 m_r h_g v_r_next v_r_codeLength v_r_ownCell v_r_stopped v_r_fault v_r_faultPlace v_r_laterFault v_r_laterPlace)), (m_r 0, .inl (cyI, 403, .inl v_r_kind)), (m_r 1, .inl (cyI, 403, .inl v_r_start)), (m_r 2, .inl (cyJ, 403, .inr (.inl v_r_value))), (m_r 3, .inl (cyJ, 12, .inr (.inl v_r_cellName))), (h_g, .inr (3, oX3 m_g v_g_cells v_g_passes v_g_rivers v_g_villages v_g_rains))] sz) := by
  refine ux_meti (by decide +kernel) (Nat.le_of_ble_eq_true rfl) ?_
  intro p e s m below meth c A Q ls hx hb hml hts hown hA hP hK hD hE hl hret
  have hown : s.vm.findClass RX5 = some m.cls := hown
  have hS : va_S A s.heap s.heap [] := va_S.rf
  have hl : lv_has ls 2 [(0, .ref h_r)] := hl
  unfold f_X5_knownCell at hf
  refine lv_aload_n hx hb dX5_knownCell_0 rfl (lv_at hl 0 rfl) ?_
  refine lv_iconst (v := (1 : Int32)) hx hb dX5_knownCell_1 (by decide) ?_
  obtain ⟨o_1, ho_1, hf⟩ := bd_some hf
  obtain ⟨o_1_0, o_1_1, o_1_2, o_1_3, o_1_4⟩ := o_1
  have hf := un5_some hf
  refine ux_Vi (n := 1) (As := [.int (1 : Int32)]) (rest := []) (wc := [(h_r, .inr (5, oX5 m_r h_g v_r_next v_r_codeLength v_r_ownCell v_r_stopped v_r_fault v_r_faultPlace v_r_laterFault v_r_laterPlace)), (m_r 0, .inl (cyI, 403, .inl v_r_kind)), (m_r 1, .inl (cyI, 403, .inl v_r_start))]) (wr := [_, _, _]) ⟨hx, hb, hml, hown, hts⟩ hK hP hD hS hA hE [0, 1, 2] [3, 4, 5] (sg_h [(0, 3)] 6 rfl sk_z15_25 rfl) (sg_h [(3, 3)] 6 rfl sk_z15_26 rfl) nd_z15_5 nd_z15_18 nj_z15_11 (c_X5_accept l dC dI cyI cyJ cyZ cyB cyO tO vF adK adV h_r m_r h_g m_g v_r_next v_r_codeLength v_r_ownCell v_r_stopped v_r_fault v_r_faultPlace v_r_laterFault v_r_laterPlace v_r_kind v_r_start (1 : Int32) _ _ ho_1) 5 0 rfl rfl wm_19_4 wm_19_5 wm_19_6 wm_1_18 wm_19_7 ⟨rfl, rfl⟩ (by decide +kernel) rfl ⟨Nat.le_of_ble_eq_true rfl, Nat.le_of_ble_eq_true rfl⟩ hl.1 rfl (Nat.le_of_ble_eq_true rfl) dX5_knownCell_2 ⟨Nat.le_of_ble_eq_true rfl, Nat.le_of_ble_eq_true rfl⟩ (fun H locs hP hD hS => ?_)
  have hP : va_P (dC, dI) vwCl [_, _, _, (h_r, .inr (5, oX5 m_r h_g o_1_1 v_r_codeLength v_r_ownCell o_1_2 o_1_3 o_1_4 v_r_laterFault v_r_laterPlace)), (m_r 0, .inl (cyI, 403, .inl v_r_kind)), (m_r 1, .inl (cyI, 403, .inl v_r_start))] H := hP
  have hD : va_D A [_, _, _, (h_r, .inr (5, oX5 m_r h_g o_1_1 v_r_codeLength v_r_ownCell o_1_2 o_1_3 o_1_4 v_r_laterFault v_r_laterPlace)), (m_r 0, .inl (cyI, 403, .inl v_r_kind)), (m_r 1, .inl (cyI, 403, .inl v_r_start))] := hD
  refine lv_if_ne (tgt := 10) hx hb dX5_knownCell_5 (by decide) (fun c_2 => ?_) (fun c_2 => ?_)
  · have hf := (if_neg c_2).symm.trans hf
    refine lv_aload_n hx hb dX5_knownCell_10 rfl (lv_at hl 0 rfl) ?_
    refine lv_aload_n hx hb dX5_knownCell_11 rfl (lv_at hl 0 rfl) ?_
    refine va_get (D := (dC, dI)) (ci := 5) (v := .ref (m_r 2)) (C := RX5) (T := TX5) (N := 14) hx hb hts (g_c inlX5) hown hK hP 3 rfl rfl 2 (by decide) (hts _ (List.mem_cons_of_mem _ wm_3_3)) (fun _ h9 => h9) rfl dX5_knownCell_12 ?_
    refine lv_aload_n hx hb dX5_knownCell_15 rfl (lv_at hl 0 rfl) ?_
    refine va_get (D := (dC, dI)) (ci := 5) (v := .int o_1_1) (C := RX5) (T := TX5) (N := 14) hx hb hts (g_c inlX5) hown hK hP 3 rfl rfl 6 (by decide) (hts _ (List.mem_cons_of_mem _ wm_3_8)) (fun _ h9 => h9) rfl dX5_knownCell_16 ?_
    refine lv_iconst (v := (1 : Int32)) hx hb dX5_knownCell_19 (by decide) ?_
    refine lv_isub hx hb dX5_knownCell_20 ?_
    obtain ⟨h_3, hf⟩ := ck_some hf
    refine va_lald hx hb hK hP 0 1 rfl rfl (inb_in h_3) dX5_knownCell_21 ?_
    obtain ⟨o_4, ho_4, hf⟩ := bd_some hf
    refine ux_Vi0 (n := 1) (As := [.long (v_r_value (o_1_1 - (1 : Int32)).toNatClampNeg)]) (rest := []) (wc := [(h_r, .inr (5, oX5 m_r h_g o_1_1 v_r_codeLength v_r_ownCell o_1_2 o_1_3 o_1_4 v_r_laterFault v_r_laterPlace)), (m_r 3, .inl (cyJ, 12, .inr (.inl v_r_cellName))), (h_g, .inr (3, oX3 m_g v_g_cells v_g_passes v_g_rivers v_g_villages v_g_rains))]) (wr := [_, _, _]) ⟨hx, hb, hml, hown, hts⟩ hK hP hD hS hA hE [3, 1, 2] [0, 4, 5] (sg_h [(3, 1), (1, 2)] 6 rfl sk_z15_27 rfl) (sg_h [(0, 1), (4, 2)] 6 rfl sk_z15_28 rfl) nd_z15_19 nd_z15_20 nj_z15_12 (c_X5_findCell l dC dI cyI cyJ cyZ cyB cyO tO vF adK adV h_r m_r h_g m_g o_1_1 v_r_codeLength v_r_ownCell o_1_2 o_1_3 o_1_4 v_r_laterFault v_r_laterPlace v_r_cellName v_g_cells v_g_passes v_g_rivers v_g_villages v_g_rains (v_r_value (o_1_1 - (1 : Int32)).toNatClampNeg) _ _ ho_4) 5 0 rfl rfl wm_19_13 wm_19_14 wm_19_15 wm_1_18 wm_19_16 ⟨rfl, rfl⟩ (by decide +kernel) rfl ⟨Nat.le_of_ble_eq_true rfl, Nat.le_of_ble_eq_true rfl⟩ hl.1 rfl (Nat.le_of_ble_eq_true rfl) dX5_knownCell_22 ⟨Nat.le_of_ble_eq_true rfl, Nat.le_of_ble_eq_true rfl⟩ (fun H locs hP hD hS => ?_)
    have hP : va_P (dC, dI) vwCl [_, _, _, (h_r, .inr (5, oX5 m_r h_g o_1_1 v_r_codeLength v_r_ownCell o_1_2 o_1_3 o_1_4 v_r_laterFault v_r_laterPlace)), (m_r 3, .inl (cyJ, 12, .inr (.inl v_r_cellName))), (h_g, .inr (3, oX3 m_g v_g_cells v_g_passes v_g_rivers v_g_villages v_g_rains))] H := hP
    have hD : va_D A [_, _, _, (h_r, .inr (5, oX5 m_r h_g o_1_1 v_r_codeLength v_r_ownCell o_1_2 o_1_3 o_1_4 v_r_laterFault v_r_laterPlace)), (m_r 3, .inl (cyJ, 12, .inr (.inl v_r_cellName))), (h_g, .inr (3, oX3 m_g v_g_cells v_g_passes v_g_rivers v_g_villages v_g_rains))] := hD
    refine lv_istore_n (lv' := [(1, .int o_4), (0, .ref h_r)]) hx hb dX5_knownCell_25 rfl hl (by decide) rfl (fun ls hl => ?_)
    refine lv_iload_n hx hb dX5_knownCell_26 rfl (lv_at hl 0 rfl) ?_
    refine lv_iconst (v := (-1 : Int32)) hx hb dX5_knownCell_27 (by decide) ?_
    refine lv_icmp_ne (tgt := 36) hx hb dX5_knownCell_28 (by decide) (fun c_5 => ?_) (fun c_5 => ?_)
    · have hf := (if_neg c_5).symm.trans hf
      refine lv_iload_n hx hb dX5_knownCell_36 rfl (lv_at hl 0 rfl) ?_
      exact hret _ _ _ _ o_4 (o_1_1, o_1_2, o_1_3, o_1_4, v_r_laterFault, v_r_laterPlace) dX5_knownCell_37 (Option.some.inj hf) (hP.sub [3, 1, 2, 0, 4, 5] (ux_pick (sg_h [(3, 1), (1, 2), (0, 1), (4, 2)] 6 rfl sk_z15_29 rfl))) (hD.sub [3, 1, 2, 0, 4, 5] nd_z15_21 (sg_h [(3, 1), (1, 2), (0, 1), (4, 2)] 6 rfl sk_z15_29 rfl)) hS
    · have hf := (if_pos c_5).symm.trans hf
      refine lv_aload_n hx hb dX5_knownCell_31 rfl (lv_at hl 1 rfl) ?_
      refine lv_iconst (v := (4 : Int32)) hx hb dX5_knownCell_32 (by decide) ?_
      obtain ⟨o_6, ho_6, hf⟩ := bd_some hf
      obtain ⟨o_6_0, o_6_1⟩ := o_6
      have hf := un2_some hf
      refine ux_Vv (n := 1) (As := [.int (4 : Int32)]) (rest := []) (wc := [(h_r, .inr (5, oX5 m_r h_g o_1_1 v_r_codeLength v_r_ownCell o_1_2 o_1_3 o_1_4 v_r_laterFault v_r_laterPlace)), (m_r 1, .inl (cyI, 403, .inl v_r_start))]) (wr := [_, _, _, _]) ⟨hx, hb, hml, hown, hts⟩ hK hP hD hS hA hE [3, 2] [0, 1, 4, 5] (sg_h [(3, 1), (2, 1)] 6 rfl sk_z15_30 rfl) (sg_h [(0, 2), (4, 2)] 6 rfl sk_z15_31 rfl) nd_z15_22 nd_z15_23 nj_z15_13 (c_X5_later l dC dI cyI cyJ cyZ cyB cyO tO vF adK adV h_r m_r h_g m_g o_1_1 v_r_codeLength v_r_ownCell o_1_2 o_1_3 o_1_4 v_r_laterFault v_r_laterPlace v_r_start (4 : Int32) _ _ ho_6) 5 0 rfl rfl wm_19_17 wm_19_18 wm_19_19 wm_1_18 wm_19_20 ⟨rfl, rfl⟩ (by decide +kernel) rfl ⟨Nat.le_of_ble_eq_true rfl, Nat.le_of_ble_eq_true rfl⟩ hl.1 rfl (Nat.le_of_ble_eq_true rfl) dX5_knownCell_33 ⟨Nat.le_of_ble_eq_true rfl, Nat.le_of_ble_eq_true rfl⟩ (fun H locs hP hD hS => ?_)
      have hP : va_P (dC, dI) vwCl [_, _, _, _, (h_r, .inr (5, oX5 m_r h_g o_1_1 v_r_codeLength v_r_ownCell o_1_2 o_1_3 o_1_4 o_6_0 o_6_1)), (m_r 1, .inl (cyI, 403, .inl v_r_start))] H := hP
      have hD : va_D A [_, _, _, _, (h_r, .inr (5, oX5 m_r h_g o_1_1 v_r_codeLength v_r_ownCell o_1_2 o_1_3 o_1_4 o_6_0 o_6_1)), (m_r 1, .inl (cyI, 403, .inl v_r_start))] := hD
      refine lv_iload_n hx hb dX5_knownCell_36 rfl (lv_at hl 0 rfl) ?_
      exact hret _ _ _ _ o_4 (o_1_1, o_1_2, o_1_3, o_1_4, o_6_0, o_6_1) dX5_knownCell_37 (Option.some.inj hf) (hP.sub [4, 1, 5, 0, 2, 3] (ux_pick (sg_h [(4, 1), (1, 1), (5, 1), (0, 1), (2, 2)] 6 rfl sk_z15_32 rfl))) (hD.sub [4, 1, 5, 0, 2, 3] nd_z15_24 (sg_h [(4, 1), (1, 1), (5, 1), (0, 1), (2, 2)] 6 rfl sk_z15_32 rfl)) hS
  · have hf := (if_pos c_2).symm.trans hf
    refine lv_iconst (v := (-1 : Int32)) hx hb dX5_knownCell_8 (by decide) ?_
    exact hret _ _ _ _ (-1 : Int32) (o_1_1, o_1_2, o_1_3, o_1_4, v_r_laterFault, v_r_laterPlace) dX5_knownCell_9 (Option.some.inj hf) (hP.sub [3, 4, 5, 0, 1, 2] (ux_pick (sg_h [(3, 3), (0, 3)] 6 rfl sk_z15_33 rfl))) (hD.sub [3, 4, 5, 0, 1, 2] nd_z15_25 (sg_h [(3, 3), (0, 3)] 6 rfl sk_z15_33 rfl)) hS
def f_X5_addWay (v_r_stopped : Int32) (v_r_fault : Int32) (v_r_faultPlace : Int32) (v_g_ways : (Nat → Int32)) (q1 : Int32) (q2 : Int32) : Option (Int32 × Int32 × Int32 × (Nat → Int32)) := ck (inb q1 12) (if (v_g_ways q1.toNatClampNeg) < (8 : Int32) then (ck (inb q1 12) (ck (inb q1 12) (nm (upd v_g_ways q1.toNatClampNeg ((v_g_ways q1.toNatClampNeg) + (1 : Int32))) (fun a_5 => some (v_r_stopped, v_r_fault, v_r_faultPlace, a_5))))) else (bd (f_X5_stop v_r_stopped v_r_fault v_r_faultPlace (2 : Int32) q2) (fun o_6 => un3 o_6 (fun o_6_0 o_6_1 o_6_2 => some (o_6_0, o_6_1, o_6_2, v_g_ways)))))
set_option maxRecDepth 100000 in
set_option maxHeartbeats 8000000 in
theorem c_X5_addWay (l : Launch) (dC : Nat → ClassId) (dI : Nat → Nat → Nat) (cyI cyJ cyZ cyB cyO : ClassId) (tO : Nat) (vF : Value) (adK adV : Nat → Nat) (h_r : Nat) (m_r : Nat → Nat) (h_g : Nat) (m_g : Nat → Nat) (v_r_next : Int32) (v_r_codeLength : Int32) (v_r_ownCell : Int32) (v_r_stopped : Int32) (v_r_fault : Int32) (v_r_faultPlace : Int32) (v_r_laterFault : Int32) (v_r_laterPlace : Int32) (v_g_cells : Int32) (v_g_passes : Int32) (v_g_rivers : Int32) (v_g_villages : Int32) (v_g_rains : Int32) (v_g_ways : (Nat → Int32)) (q1 : Int32) (q2 : Int32) (sz : Nat) (out : Int32 × Int32 × Int32 × (Nat → Int32)) (hf : f_X5_addWay v_r_stopped v_r_fault v_r_faultPlace v_g_ways q1 q2 = some out) : Met l yX5_addWay (Cond.code yX5_addWay cX5_addWay 3 none :: wsL_law) ({ frames := 2, cells := 0, slots := 0, locals := 44 } : Room) (va_Pc [.ref h_r, .int q1, .int q2] (ux_pre (dC, dI) vwCl (tyG cyI cyJ cyZ cyB cyO) [(h_r, .inr (5, oX5 m_r h_g v_r_next v_r_codeLength v_r_ownCell v_r_stopped v_r_fault v_r_faultPlace v_r_laterFault v_r_laterPlace)), (h_g, .inr (3, oX3 m_g v_g_cells v_g_passes v_g_rivers v_g_villages v_g_rains)), (m_g 3, .inl (cyI, 12, .inl v_g_ways))] sz (xE tO vF adK adV))) (va_Qv (fun u : Int32 × Int32 × Int32 × (Nat → Int32) => u = out) (ux_at (dC, dI) vwCl (tyG cyI cyJ cyZ cyB cyO) [(h_r, .inr (5, oX5 m_r h_g v_r_next v_r_codeLength v_r_ownCell v_r_stopped v_r_fault v_r_faultPlace v_r_laterFault v_r_laterPlace)), (h_g, .inr (3, oX3 m_g v_g_cells v_g_passes v_g_rivers v_g_villages v_g_rains)), (m_g 3, .inl (cyI, 12, .inl v_g_ways))] sz (fun u : Int32 × Int32 × Int32 × (Nat → Int32) => [(h_r, .inr (5, oX5 m_r h_g v_r_next v_r_codeLength v_r_ownCell u.1 u.2.1 u.2.2.1 v_r_laterFault v_r_laterPlace)), (h_g, .inr (3, oX3 m_g v_g_cells v_g_passes v_g_rivers v_g_villages v_g_rains)), (m_g 3, .inl (cyI, 12, .inl u.2.2.2))])) (va_A [(h_r, .inr (5, oX5 m_r h_g v_r_next v_r_codeLength v_r_ownCell v_r_stopped v_r_fault v_r_faultPlace v_r_laterFault v_r_laterPlace)), (h_g, .inr (3, oX3 m_g v_g_cells v_g_passes v_g_rivers v_g_villages v_g_rains)), (m_g 3, .inl (cyI, 12, .inl v_g_ways))] sz)) 0 0 (va_A [(h_r, .inr (5, oX5 m_r h_g v_r_next v_r_codeLength v_r_ownCell v_r_stopped v_r_fault v_r_faultPlace v_r_laterFault v_r_laterPlace)), (h_g, .inr (3, oX3 m_g v_g_cells v_g_passes v_g_rivers v_g_villages v_g_rains)), (m_g 3, .inl (cyI, 12, .inl v_g_ways))] sz) := by
  refine ux_metv (by decide +kernel) (Nat.le_of_ble_eq_true rfl) ?_
  intro p e s m below meth c A Q ls hx hb hml hts hown hA hP hK hD hE hl hret
  have hown : s.vm.findClass RX5 = some m.cls := hown
  have hS : va_S A s.heap s.heap [] := va_S.rf
  have hl : lv_has ls 3 [(0, .ref h_r), (1, .int q1), (2, .int q2)] := hl
  unfold f_X5_addWay at hf
  refine lv_aload_n hx hb dX5_addWay_0 rfl (lv_at hl 0 rfl) ?_
  refine va_get (D := (dC, dI)) (ci := 5) (v := .ref h_g) (C := RX5) (T := TX5) (N := 14) hx hb hts (g_c inlX5) hown hK hP 0 rfl rfl 5 (by decide) (hts _ (List.mem_cons_of_mem _ wm_3_7)) (fun _ h9 => h9) rfl dX5_addWay_1 ?_
  refine va_get (D := (dC, dI)) (ci := 3) (v := .ref (m_g 3)) (C := RX3) (T := TX3) (N := 20) hx hb hts (g_c inlX3) hown hK hP 1 rfl rfl 3 (by decide) (hts _ (List.mem_cons_of_mem _ wm_20_17)) (fun _ h9 => h9) rfl dX5_addWay_4 ?_
  refine lv_iload_n hx hb dX5_addWay_7 rfl (lv_at hl 1 rfl) ?_
  obtain ⟨h_1, hf⟩ := ck_some hf
  refine va_iald hx hb hK hP 2 0 rfl rfl (inb_in h_1) dX5_addWay_8 ?_
  refine lv_bipush (v := (8 : Int32)) hx hb dX5_addWay_9 (by decide) ?_
  refine lv_icmp_lt (tgt := 23) hx hb dX5_addWay_11 (by decide) (fun c_2 => ?_) (fun c_2 => ?_)
  · have hf := (if_pos c_2).symm.trans hf
    refine lv_aload_n hx hb dX5_addWay_23 rfl (lv_at hl 0 rfl) ?_
    refine va_get (D := (dC, dI)) (ci := 5) (v := .ref h_g) (C := RX5) (T := TX5) (N := 14) hx hb hts (g_c inlX5) hown hK hP 0 rfl rfl 5 (by decide) (hts _ (List.mem_cons_of_mem _ wm_3_7)) (fun _ h9 => h9) rfl dX5_addWay_24 ?_
    refine va_get (D := (dC, dI)) (ci := 3) (v := .ref (m_g 3)) (C := RX3) (T := TX3) (N := 20) hx hb hts (g_c inlX3) hown hK hP 1 rfl rfl 3 (by decide) (hts _ (List.mem_cons_of_mem _ wm_20_17)) (fun _ h9 => h9) rfl dX5_addWay_27 ?_
    refine lv_iload_n hx hb dX5_addWay_30 rfl (lv_at hl 1 rfl) ?_
    refine lv_dup2_11 hx hb dX5_addWay_31 rfl rfl ?_
    obtain ⟨h_3, hf⟩ := ck_some hf
    refine va_iald hx hb hK hP 2 0 rfl rfl (inb_in h_3) dX5_addWay_32 ?_
    refine lv_iconst (v := (1 : Int32)) hx hb dX5_addWay_33 (by decide) ?_
    refine lv_iadd hx hb dX5_addWay_34 ?_
    obtain ⟨h_4, hf⟩ := ck_some hf
    obtain ⟨a_5, ea_5, hf⟩ := nm_some hf
    refine va_iast hx hb hK hP hD hS 2 0 rfl rfl (inb_in h_4) dX5_addWay_35 (fun H locs hP hD hS => ?_)
    have hP : va_P (dC, dI) vwCl [(h_r, .inr (5, oX5 m_r h_g v_r_next v_r_codeLength v_r_ownCell v_r_stopped v_r_fault v_r_faultPlace v_r_laterFault v_r_laterPlace)), (h_g, .inr (3, oX3 m_g v_g_cells v_g_passes v_g_rivers v_g_villages v_g_rains)), (m_g 3, .inl (cyI, 12, .inl a_5))] H := by rw [ea_5]; exact hP
    have hD : va_D A [(h_r, .inr (5, oX5 m_r h_g v_r_next v_r_codeLength v_r_ownCell v_r_stopped v_r_fault v_r_faultPlace v_r_laterFault v_r_laterPlace)), (h_g, .inr (3, oX3 m_g v_g_cells v_g_passes v_g_rivers v_g_villages v_g_rains)), (m_g 3, .inl (cyI, 12, .inl a_5))] := by rw [ea_5]; exact hD
    exact hret _ _ _ _ (v_r_stopped, v_r_fault, v_r_faultPlace, a_5) dX5_addWay_36 (Option.some.inj hf) hP hD hS
  · have hf := (if_neg c_2).symm.trans hf
    refine lv_aload_n hx hb dX5_addWay_14 rfl (lv_at hl 0 rfl) ?_
    refine lv_iconst (v := (2 : Int32)) hx hb dX5_addWay_15 (by decide) ?_
    refine lv_iload_n hx hb dX5_addWay_16 rfl (lv_at hl 2 rfl) ?_
    obtain ⟨o_6, ho_6, hf⟩ := bd_some hf
    obtain ⟨o_6_0, o_6_1, o_6_2⟩ := o_6
    have hf := un3_some hf
    refine ux_Vv (n := 2) (As := [.int (2 : Int32), .int q2]) (rest := []) (wc := [(h_r, .inr (5, oX5 m_r h_g v_r_next v_r_codeLength v_r_ownCell v_r_stopped v_r_fault v_r_faultPlace v_r_laterFault v_r_laterPlace))]) (wr := [_, _]) ⟨hx, hb, hml, hown, hts⟩ hK hP hD hS hA hE [0] [1, 2] (sg_h [(0, 1)] 3 rfl sk_z15_5 rfl) (sg_h [(1, 2)] 3 rfl sk_z15_6 rfl) nd_z15_2 nd_z15_3 nj_z15_4 (c_X5_stop l dC dI cyI cyJ cyZ cyB cyO tO vF adK adV h_r m_r h_g m_g v_r_next v_r_codeLength v_r_ownCell v_r_stopped v_r_fault v_r_faultPlace v_r_laterFault v_r_laterPlace (2 : Int32) q2 _ _ ho_6) 5 0 rfl rfl wm_18_20 wm_18_21 wm_18_22 wm_1_18 wm_18_23 ⟨rfl, rfl⟩ (by decide +kernel) rfl ⟨Nat.le_of_ble_eq_true rfl, Nat.le_of_ble_eq_true rfl⟩ hl.1 rfl (Nat.le_of_ble_eq_true rfl) dX5_addWay_17 ⟨Nat.le_of_ble_eq_true rfl, Nat.le_of_ble_eq_true rfl⟩ (fun H locs hP hD hS => ?_)
    have hP : va_P (dC, dI) vwCl [_, _, (h_r, .inr (5, oX5 m_r h_g v_r_next v_r_codeLength v_r_ownCell o_6_0 o_6_1 o_6_2 v_r_laterFault v_r_laterPlace))] H := hP
    have hD : va_D A [_, _, (h_r, .inr (5, oX5 m_r h_g v_r_next v_r_codeLength v_r_ownCell o_6_0 o_6_1 o_6_2 v_r_laterFault v_r_laterPlace))] := hD
    refine lv_goto (tgt := 36) hx hb dX5_addWay_20 (by decide) ?_
    exact hret _ _ _ _ (o_6_0, o_6_1, o_6_2, v_g_ways) dX5_addWay_36 (Option.some.inj hf) (hP.sub [2, 0, 1] (ux_pick (sg_h [(2, 1), (0, 2)] 3 rfl sk_z15_7 rfl))) (hD.sub [2, 0, 1] nd_z15_4 (sg_h [(2, 1), (0, 2)] 3 rfl sk_z15_7 rfl)) hS
def f_X5_emit (v_r_codeLength : Int32) (v_g_code : (Nat → Int32)) (q1 : Int32) : Option (Int32 × (Nat → Int32)) := if (400 : Int32) ≤ v_r_codeLength then (some (v_r_codeLength, v_g_code)) else (ck (inb v_r_codeLength 400) (nm (upd v_g_code v_r_codeLength.toNatClampNeg q1) (fun a_3 => some ((v_r_codeLength + (1 : Int32)), a_3))))
set_option maxRecDepth 100000 in
set_option maxHeartbeats 8000000 in
theorem c_X5_emit (l : Launch) (dC : Nat → ClassId) (dI : Nat → Nat → Nat) (cyI cyJ cyZ cyB cyO : ClassId) (tO : Nat) (vF : Value) (adK adV : Nat → Nat) (h_r : Nat) (m_r : Nat → Nat) (h_g : Nat) (m_g : Nat → Nat) (v_r_next : Int32) (v_r_codeLength : Int32) (v_r_ownCell : Int32) (v_r_stopped : Int32) (v_r_fault : Int32) (v_r_faultPlace : Int32) (v_r_laterFault : Int32) (v_r_laterPlace : Int32) (v_g_cells : Int32) (v_g_passes : Int32) (v_g_rivers : Int32) (v_g_villages : Int32) (v_g_rains : Int32) (v_g_code : (Nat → Int32)) (q1 : Int32) (sz : Nat) (out : Int32 × (Nat → Int32)) (hf : f_X5_emit v_r_codeLength v_g_code q1 = some out) : Met l yX5_emit (Cond.code yX5_emit cX5_emit 2 none :: wsL_law) ({ frames := 0, cells := 0, slots := 0, locals := 0 } : Room) (va_Pc [.ref h_r, .int q1] (ux_pre (dC, dI) vwCl (tyG cyI cyJ cyZ cyB cyO) [(h_r, .inr (5, oX5 m_r h_g v_r_next v_r_codeLength v_r_ownCell v_r_stopped v_r_fault v_r_faultPlace v_r_laterFault v_r_laterPlace)), (h_g, .inr (3, oX3 m_g v_g_cells v_g_passes v_g_rivers v_g_villages v_g_rains)), (m_g 17, .inl (cyI, 400, .inl v_g_code))] sz (xE tO vF adK adV))) (va_Qv (fun u : Int32 × (Nat → Int32) => u = out) (ux_at (dC, dI) vwCl (tyG cyI cyJ cyZ cyB cyO) [(h_r, .inr (5, oX5 m_r h_g v_r_next v_r_codeLength v_r_ownCell v_r_stopped v_r_fault v_r_faultPlace v_r_laterFault v_r_laterPlace)), (h_g, .inr (3, oX3 m_g v_g_cells v_g_passes v_g_rivers v_g_villages v_g_rains)), (m_g 17, .inl (cyI, 400, .inl v_g_code))] sz (fun u : Int32 × (Nat → Int32) => [(h_r, .inr (5, oX5 m_r h_g v_r_next u.1 v_r_ownCell v_r_stopped v_r_fault v_r_faultPlace v_r_laterFault v_r_laterPlace)), (h_g, .inr (3, oX3 m_g v_g_cells v_g_passes v_g_rivers v_g_villages v_g_rains)), (m_g 17, .inl (cyI, 400, .inl u.2))])) (va_A [(h_r, .inr (5, oX5 m_r h_g v_r_next v_r_codeLength v_r_ownCell v_r_stopped v_r_fault v_r_faultPlace v_r_laterFault v_r_laterPlace)), (h_g, .inr (3, oX3 m_g v_g_cells v_g_passes v_g_rivers v_g_villages v_g_rains)), (m_g 17, .inl (cyI, 400, .inl v_g_code))] sz)) 0 0 (va_A [(h_r, .inr (5, oX5 m_r h_g v_r_next v_r_codeLength v_r_ownCell v_r_stopped v_r_fault v_r_faultPlace v_r_laterFault v_r_laterPlace)), (h_g, .inr (3, oX3 m_g v_g_cells v_g_passes v_g_rivers v_g_villages v_g_rains)), (m_g 17, .inl (cyI, 400, .inl v_g_code))] sz) := by
  refine ux_metv (by decide +kernel) (Nat.le_of_ble_eq_true rfl) ?_
  intro p e s m below meth c A Q ls hx hb hml hts hown hA hP hK hD hE hl hret
  have hown : s.vm.findClass RX5 = some m.cls := hown
  have hS : va_S A s.heap s.heap [] := va_S.rf
  have hl : lv_has ls 2 [(0, .ref h_r), (1, .int q1)] := hl
  unfold f_X5_emit at hf
  refine lv_aload_n hx hb dX5_emit_0 rfl (lv_at hl 0 rfl) ?_
  refine va_get (D := (dC, dI)) (ci := 5) (v := .int v_r_codeLength) (C := RX5) (T := TX5) (N := 14) hx hb hts (g_c inlX5) hown hK hP 0 rfl rfl 7 (by decide) (hts _ (List.mem_cons_of_mem _ wm_3_9)) (fun _ h9 => h9) rfl dX5_emit_1 ?_
  refine lv_aload_n hx hb dX5_emit_4 rfl (lv_at hl 0 rfl) ?_
  refine va_get (D := (dC, dI)) (ci := 5) (v := .ref h_g) (C := RX5) (T := TX5) (N := 14) hx hb hts (g_c inlX5) hown hK hP 0 rfl rfl 5 (by decide) (hts _ (List.mem_cons_of_mem _ wm_3_7)) (fun _ h9 => h9) rfl dX5_emit_5 ?_
  refine va_get (D := (dC, dI)) (ci := 3) (v := .ref (m_g 17)) (C := RX3) (T := TX3) (N := 20) hx hb hts (g_c inlX3) hown hK hP 1 rfl rfl 17 (by decide) (hts _ (List.mem_cons_of_mem _ wm_22_3)) (fun _ h9 => h9) rfl dX5_emit_8 ?_
  refine va_alen (v := (400 : Int32)) hx hb hK hP 2 0 rfl rfl rfl dX5_emit_11 ?_
  refine lv_icmp_ge (tgt := 38) hx hb dX5_emit_12 (by decide) (fun c_1 => ?_) (fun c_1 => ?_)
  · have hf := (if_pos c_1).symm.trans hf
    exact hret _ _ _ _ (v_r_codeLength, v_g_code) dX5_emit_38 (Option.some.inj hf) hP hD hS
  · have hf := (if_neg c_1).symm.trans hf
    refine lv_aload_n hx hb dX5_emit_15 rfl (lv_at hl 0 rfl) ?_
    refine va_get (D := (dC, dI)) (ci := 5) (v := .ref h_g) (C := RX5) (T := TX5) (N := 14) hx hb hts (g_c inlX5) hown hK hP 0 rfl rfl 5 (by decide) (hts _ (List.mem_cons_of_mem _ wm_3_7)) (fun _ h9 => h9) rfl dX5_emit_16 ?_
    refine va_get (D := (dC, dI)) (ci := 3) (v := .ref (m_g 17)) (C := RX3) (T := TX3) (N := 20) hx hb hts (g_c inlX3) hown hK hP 1 rfl rfl 17 (by decide) (hts _ (List.mem_cons_of_mem _ wm_22_3)) (fun _ h9 => h9) rfl dX5_emit_19 ?_
    refine lv_aload_n hx hb dX5_emit_22 rfl (lv_at hl 0 rfl) ?_
    refine va_get (D := (dC, dI)) (ci := 5) (v := .int v_r_codeLength) (C := RX5) (T := TX5) (N := 14) hx hb hts (g_c inlX5) hown hK hP 0 rfl rfl 7 (by decide) (hts _ (List.mem_cons_of_mem _ wm_3_9)) (fun _ h9 => h9) rfl dX5_emit_23 ?_
    refine lv_iload_n hx hb dX5_emit_26 rfl (lv_at hl 1 rfl) ?_
    obtain ⟨h_2, hf⟩ := ck_some hf
    obtain ⟨a_3, ea_3, hf⟩ := nm_some hf
    refine va_iast hx hb hK hP hD hS 2 0 rfl rfl (inb_in h_2) dX5_emit_27 (fun H locs hP hD hS => ?_)
    have hP : va_P (dC, dI) vwCl [(h_r, .inr (5, oX5 m_r h_g v_r_next v_r_codeLength v_r_ownCell v_r_stopped v_r_fault v_r_faultPlace v_r_laterFault v_r_laterPlace)), (h_g, .inr (3, oX3 m_g v_g_cells v_g_passes v_g_rivers v_g_villages v_g_rains)), (m_g 17, .inl (cyI, 400, .inl a_3))] H := by rw [ea_3]; exact hP
    have hD : va_D A [(h_r, .inr (5, oX5 m_r h_g v_r_next v_r_codeLength v_r_ownCell v_r_stopped v_r_fault v_r_faultPlace v_r_laterFault v_r_laterPlace)), (h_g, .inr (3, oX3 m_g v_g_cells v_g_passes v_g_rivers v_g_villages v_g_rains)), (m_g 17, .inl (cyI, 400, .inl a_3))] := by rw [ea_3]; exact hD
    refine lv_aload_n hx hb dX5_emit_28 rfl (lv_at hl 0 rfl) ?_
    refine lv_dup hx hb dX5_emit_29 rfl ?_
    refine va_get (D := (dC, dI)) (ci := 5) (v := .int v_r_codeLength) (C := RX5) (T := TX5) (N := 14) hx hb hts (g_c inlX5) hown hK hP 0 rfl rfl 7 (by decide) (hts _ (List.mem_cons_of_mem _ wm_3_9)) (fun _ h9 => h9) rfl dX5_emit_30 ?_
    refine lv_iconst (v := (1 : Int32)) hx hb dX5_emit_33 (by decide) ?_
    refine lv_iadd hx hb dX5_emit_34 ?_
    refine va_put (D := (dC, dI)) (ci := 5) (v := .int (v_r_codeLength + (1 : Int32))) (ty := .int) (C := RX5) (T := TX5) (N := 14) hx hb hts (g_c inlX5) tyX5 tyX5_ok nmX5 hown hK hP hD hS 0 rfl rfl 7 (by decide) (hts _ (List.mem_cons_of_mem _ wm_3_9)) (fun _ h9 => h9) rfl (by decide +kernel) rfl rfl (Nat.le_of_ble_eq_true rfl) dX5_emit_35 (fun H locs hP hD hS => ?_)
    have hP : va_P (dC, dI) vwCl [(h_r, .inr (5, oX5 m_r h_g v_r_next (v_r_codeLength + (1 : Int32)) v_r_ownCell v_r_stopped v_r_fault v_r_faultPlace v_r_laterFault v_r_laterPlace)), (h_g, .inr (3, oX3 m_g v_g_cells v_g_passes v_g_rivers v_g_villages v_g_rains)), (m_g 17, .inl (cyI, 400, .inl a_3))] H := hP
    have hD : va_D A [(h_r, .inr (5, oX5 m_r h_g v_r_next (v_r_codeLength + (1 : Int32)) v_r_ownCell v_r_stopped v_r_fault v_r_faultPlace v_r_laterFault v_r_laterPlace)), (h_g, .inr (3, oX3 m_g v_g_cells v_g_passes v_g_rivers v_g_villages v_g_rains)), (m_g 17, .inl (cyI, 400, .inl a_3))] := hD
    exact hret _ _ _ _ ((v_r_codeLength + (1 : Int32)), a_3) dX5_emit_38 (Option.some.inj hf) hP hD hS
