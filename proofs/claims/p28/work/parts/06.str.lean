def f_J3_checkIndex_8e157_b9   (x0 : Int32) (x1 : Int32) : Option (Int32) := none
def f_J3_checkIndex_8e157 (q0 : Int32) (q1 : Int32) : Option (Int32) := if q0 < (0 : Int32) then (f_J3_checkIndex_8e157_b9 q0 q1) else (if q0 < q1 then (some (q0)) else (f_J3_checkIndex_8e157_b9 q0 q1))
set_option maxRecDepth 100000 in
set_option maxHeartbeats 8000000 in
theorem c_J3_checkIndex_8e157 (l : Launch) (dC : Nat → ClassId) (dI : Nat → Nat → Nat) (cyI cyJ cyZ cyB cyO : ClassId) (tO : Nat) (vF : Value) (adK adV : Nat → Nat)   (hvF : vF = .null ∨ ∃ t, vF = .ref t) (q0 : Int32) (q1 : Int32) (sz : Nat) (out : Int32) (hf : f_J3_checkIndex_8e157 q0 q1 = some out) : Met l yJ3_checkIndex_8e157 (Cond.code yJ3_checkIndex_8e157 cJ3_checkIndex_8e157 3 (some .int) :: wsL_law) ({ frames := 0, cells := 0, slots := 0, locals := 0 } : Room) (va_Pc [.int q0, .int q1, vF] (ux_pre (dC, dI) vwCl (tyG cyI cyJ cyZ cyB cyO) [] sz (xE tO vF adK adV))) (va_Qi (fun (r : Int32) (_ : Unit) => r = out) (ux_at (dC, dI) vwCl (tyG cyI cyJ cyZ cyB cyO) [] sz (fun u : Unit => [])) (va_A [] sz)) 0 0 (va_A [] sz) := by
  rcases hvF with rfl | ⟨tF, rfl⟩
  · refine ux_meti0 (by decide +kernel) (Nat.le_of_ble_eq_true rfl) ?_
    intro p e s m below meth c A Q ls hx hb hml hts hown hA hP hK hD hE hl hret
    have hown : s.vm.findClass RJ3 = some m.cls := hown
    have hS : va_S A s.heap s.heap [] := va_S.rf
    have hl : lv_has ls 3 [(0, .int q0), (1, .int q1), (2, .null)] := hl
    have hb_9 : ∀ (x0 : Int32) (x1 : Int32), f_J3_checkIndex_8e157_b9 x0 x1 = some out → ∀ (H : Heap) (locs : List Loc) (ls : Array Slot), va_P (dC, dI) vwCl [] H → va_D A [] → va_S A s.heap H locs → lv_has ls 3 [(0, .int x0), (1, .int x1), (2, .null)] → W p l e ({ frames := 0, cells := 0, slots := 0, locals := 0 } : Room) s m ([.int q0, .int q1, .null] : List Value).toArray below meth c H locs 0 0 Q (F0 m 9 ls []) := by
      intro  x0 x1 hf H locs ls hP hD hS hl
      unfold f_J3_checkIndex_8e157_b9 at hf
      exact no_some hf
    unfold f_J3_checkIndex_8e157 at hf
    refine lv_iload_n hx hb dJ3_checkIndex_8e157_0 rfl (lv_at hl 0 rfl) ?_
    refine lv_if_lt (tgt := 9) hx hb dJ3_checkIndex_8e157_1 (by decide) (fun c_1 => ?_) (fun c_1 => ?_)
    · have hf := (if_pos c_1).symm.trans hf
      exact hb_9 _ _ hf _ _ _ hP hD hS (lv_sub hl [0, 1, 2] rfl)
    · have hf := (if_neg c_1).symm.trans hf
      refine lv_iload_n hx hb dJ3_checkIndex_8e157_4 rfl (lv_at hl 0 rfl) ?_
      refine lv_iload_n hx hb dJ3_checkIndex_8e157_5 rfl (lv_at hl 1 rfl) ?_
      refine lv_icmp_lt (tgt := 16) hx hb dJ3_checkIndex_8e157_6 (by decide) (fun c_2 => ?_) (fun c_2 => ?_)
      · have hf := (if_pos c_2).symm.trans hf
        refine lv_iload_n hx hb dJ3_checkIndex_8e157_16 rfl (lv_at hl 0 rfl) ?_
        exact hret _ _ _ _ q0 dJ3_checkIndex_8e157_17 (Option.some.inj hf) hP hD hS
      · have hf := (if_neg c_2).symm.trans hf
        exact hb_9 _ _ hf _ _ _ hP hD hS (lv_sub hl [0, 1, 2] rfl)
  · refine ux_meti0 (by decide +kernel) (Nat.le_of_ble_eq_true rfl) ?_
    intro p e s m below meth c A Q ls hx hb hml hts hown hA hP hK hD hE hl hret
    have hown : s.vm.findClass RJ3 = some m.cls := hown
    have hS : va_S A s.heap s.heap [] := va_S.rf
    have hl : lv_has ls 3 [(0, .int q0), (1, .int q1), (2, (.ref tF))] := hl
    have hb_9 : ∀ (x0 : Int32) (x1 : Int32), f_J3_checkIndex_8e157_b9 x0 x1 = some out → ∀ (H : Heap) (locs : List Loc) (ls : Array Slot), va_P (dC, dI) vwCl [] H → va_D A [] → va_S A s.heap H locs → lv_has ls 3 [(0, .int x0), (1, .int x1), (2, (.ref tF))] → W p l e ({ frames := 0, cells := 0, slots := 0, locals := 0 } : Room) s m ([.int q0, .int q1, (.ref tF)] : List Value).toArray below meth c H locs 0 0 Q (F0 m 9 ls []) := by
      intro  x0 x1 hf H locs ls hP hD hS hl
      unfold f_J3_checkIndex_8e157_b9 at hf
      exact no_some hf
    unfold f_J3_checkIndex_8e157 at hf
    refine lv_iload_n hx hb dJ3_checkIndex_8e157_0 rfl (lv_at hl 0 rfl) ?_
    refine lv_if_lt (tgt := 9) hx hb dJ3_checkIndex_8e157_1 (by decide) (fun c_1 => ?_) (fun c_1 => ?_)
    · have hf := (if_pos c_1).symm.trans hf
      exact hb_9 _ _ hf _ _ _ hP hD hS (lv_sub hl [0, 1, 2] rfl)
    · have hf := (if_neg c_1).symm.trans hf
      refine lv_iload_n hx hb dJ3_checkIndex_8e157_4 rfl (lv_at hl 0 rfl) ?_
      refine lv_iload_n hx hb dJ3_checkIndex_8e157_5 rfl (lv_at hl 1 rfl) ?_
      refine lv_icmp_lt (tgt := 16) hx hb dJ3_checkIndex_8e157_6 (by decide) (fun c_2 => ?_) (fun c_2 => ?_)
      · have hf := (if_pos c_2).symm.trans hf
        refine lv_iload_n hx hb dJ3_checkIndex_8e157_16 rfl (lv_at hl 0 rfl) ?_
        exact hret _ _ _ _ q0 dJ3_checkIndex_8e157_17 (Option.some.inj hf) hP hD hS
      · have hf := (if_neg c_2).symm.trans hf
        exact hb_9 _ _ hf _ _ _ hP hD hS (lv_sub hl [0, 1, 2] rfl)
def f_J0_checkIndex_df160 (q0 : Int32) (q1 : Int32) : Option (Unit) := bd (f_J3_checkIndex_8e157 q0 q1) (fun o_1 => some ())
set_option maxRecDepth 100000 in
set_option maxHeartbeats 8000000 in
theorem c_J0_checkIndex_df160 (l : Launch) (dC : Nat → ClassId) (dI : Nat → Nat → Nat) (cyI cyJ cyZ cyB cyO : ClassId) (tO : Nat) (vF : Value) (adK adV : Nat → Nat)   (q0 : Int32) (q1 : Int32) (sz : Nat) (out : Unit) (hf : f_J0_checkIndex_df160 q0 q1 = some out) : Met l yJ0_checkIndex_df160 (Cond.code yJ0_checkIndex_df160 cJ0_checkIndex_df160 2 none :: wsL_law) ({ frames := 1, cells := 0, slots := 0, locals := 22 } : Room) (va_Pc [.int q0, .int q1] (ux_pre (dC, dI) vwCl (tyG cyI cyJ cyZ cyB cyO) [] sz (xE tO vF adK adV))) (va_Qv (fun u : Unit => u = out) (ux_at (dC, dI) vwCl (tyG cyI cyJ cyZ cyB cyO) [] sz (fun u : Unit => [])) (va_A [] sz)) 0 0 (va_A [] sz) := by
  refine ux_metv0 (by decide +kernel) (Nat.le_of_ble_eq_true rfl) ?_
  intro p e s m below meth c A Q ls hx hb hml hts hown hA hP hK hD hE hl hret
  have hown : s.vm.findClass RJ0 = some m.cls := hown
  have hS : va_S A s.heap s.heap [] := va_S.rf
  have hl : lv_has ls 2 [(0, .int q0), (1, .int q1)] := hl
  unfold f_J0_checkIndex_df160 at hf
  refine lv_iload_n hx hb dJ0_checkIndex_df160_0 rfl (lv_at hl 0 rfl) ?_
  refine lv_iload_n hx hb dJ0_checkIndex_df160_1 rfl (lv_at hl 1 rfl) ?_
  refine va_gets hx hb hE.2.2.1.2.1 hS hown (hts _ (List.mem_cons_of_mem _ wm_14_19)) (fun _ h9 => h9) dJ0_checkIndex_df160_2 ?_
  obtain ⟨o_1, ho_1, hf⟩ := bd_some hf
  refine ux_Si0 (n := 3) (As := [.int q0, .int q1, vF]) (rest := []) (wc := []) (wr := []) ⟨hx, hb, hml, hown, hts⟩ hK hP hD hS hA hE [] [] rfl rfl (by decide +kernel) (by decide +kernel) (by decide +kernel) (c_J3_checkIndex_8e157 l dC dI cyI cyJ cyZ cyB cyO tO vF adK adV hE.2.2.1.2.2 q0 q1 _ _ ho_1) wm_14_20 wm_14_21 wm_14_22 wm_14_23 ⟨rfl, rfl⟩ (by decide +kernel) rfl ⟨Nat.le_of_ble_eq_true rfl, Nat.le_of_ble_eq_true rfl⟩ hl.1 rfl (Nat.le_of_ble_eq_true rfl) dJ0_checkIndex_df160_5 ⟨Nat.le_of_ble_eq_true rfl, Nat.le_of_ble_eq_true rfl⟩ (fun H locs hP hD hS => ?_)
  have hP : va_P (dC, dI) vwCl [] H := hP
  have hD : va_D A [] := hD
  refine lv_pop hx hb dJ0_checkIndex_df160_8 rfl ?_
  exact hret _ _ _ _ () dJ0_checkIndex_df160_9 (Option.some.inj hf) hP hD hS
def f_J1_charAt_3b067 (si : Nat) (q1 : Int32) : Option (Int32) := bd (f_J0_checkIndex_df160 q1 (Int32.ofNat (xLen.getD si 0))) (fun o_1 => ck (inb q1 (xLen.getD si 0)) (ck (isc (((((xByt.getD si []).getD q1.toNatClampNeg 0) &&& (255 : Int32)).toUInt32 % 65536).toInt32)) (some (((((xByt.getD si []).getD q1.toNatClampNeg 0) &&& (255 : Int32)).toUInt32 % 65536).toInt32))))
set_option maxRecDepth 100000 in
set_option maxHeartbeats 8000000 in
theorem c_J1_charAt_3b067 (l : Launch) (dC : Nat → ClassId) (dI : Nat → Nat → Nat) (cyI cyJ cyZ cyB cyO : ClassId) (tO : Nat) (vF : Value) (adK adV : Nat → Nat)   (si : Nat) (hsi : si < 12) (q1 : Int32) (sz : Nat) (out : Int32) (hf : f_J1_charAt_3b067 si q1 = some out) : Met l yJ1_charAt_3b067 (Cond.code yJ1_charAt_3b067 cJ1_charAt_3b067 2 (some .char) :: wsL_law) ({ frames := 2, cells := 0, slots := 0, locals := 43 } : Room) (va_Pc [.ref (adV si), .int q1] (ux_pre (dC, dI) vwCl (tyG cyI cyJ cyZ cyB cyO) [] sz (xE tO vF adK adV))) (va_Qi (fun (r : Int32) (_ : Unit) => r = out) (ux_at (dC, dI) vwCl (tyG cyI cyJ cyZ cyB cyO) [] sz (fun u : Unit => [])) (va_A [] sz)) 0 0 (va_A [] sz) := by
  refine ux_metc0 (by decide +kernel) (Nat.le_of_ble_eq_true rfl) ?_
  intro p e s m below meth c A Q ls hx hb hml hts hown hA hP hK hD hE hl hret
  have hown : s.vm.findClass RJ1 = some m.cls := hown
  have hS : va_S A s.heap s.heap [] := va_S.rf
  have hl : lv_has ls 2 [(0, .ref (adV si)), (1, .int q1)] := hl
  unfold f_J1_charAt_3b067 at hf
  refine lv_iload_n hx hb dJ1_charAt_3b067_0 rfl (lv_at hl 1 rfl) ?_
  refine lv_aload_n hx hb dJ1_charAt_3b067_1 rfl (lv_at hl 0 rfl) ?_
  refine va_tlen hx hb (hE.2.2.2.1.1 si hsi).2.2.2 hS (v := (Int32.ofNat (xLen.getD si 0))) rfl dJ1_charAt_3b067_2 ?_
  obtain ⟨o_1, ho_1, hf⟩ := bd_some hf
  refine ux_Sv0 (n := 2) (As := [.int q1, .int (Int32.ofNat (xLen.getD si 0))]) (rest := []) (wc := []) (wr := []) ⟨hx, hb, hml, hown, hts⟩ hK hP hD hS hA hE [] [] rfl rfl (by decide +kernel) (by decide +kernel) (by decide +kernel) (c_J0_checkIndex_df160 l dC dI cyI cyJ cyZ cyB cyO tO vF adK adV q1 (Int32.ofNat (xLen.getD si 0)) _ _ ho_1) wm_14_16 wm_14_17 wm_13_19 wm_14_18 ⟨rfl, rfl⟩ (by decide +kernel) rfl ⟨Nat.le_of_ble_eq_true rfl, Nat.le_of_ble_eq_true rfl⟩ hl.1 rfl (Nat.le_of_ble_eq_true rfl) dJ1_charAt_3b067_3 ⟨Nat.le_of_ble_eq_true rfl, Nat.le_of_ble_eq_true rfl⟩ (fun H locs hP hD hS => ?_)
  have hP : va_P (dC, dI) vwCl [] H := hP
  have hD : va_D A [] := hD
  refine lv_aload_n hx hb dJ1_charAt_3b067_6 rfl (lv_at hl 0 rfl) ?_
  refine lv_iload_n hx hb dJ1_charAt_3b067_7 rfl (lv_at hl 1 rfl) ?_
  obtain ⟨h_2, hf⟩ := ck_some hf
  refine va_tb hx hb (hE.2.2.2.1.1 si hsi).2.2.2 hS (inb_in h_2) (v := .int ((xByt.getD si []).getD q1.toNatClampNeg 0)) rfl dJ1_charAt_3b067_8 ?_
  refine lv_sipush (v := (255 : Int32)) hx hb dJ1_charAt_3b067_9 (by decide) ?_
  refine lv_iand hx hb dJ1_charAt_3b067_12 ?_
  refine lv_i2c hx hb dJ1_charAt_3b067_13 rfl ?_
  obtain ⟨h_3, hf⟩ := ck_some hf
  exact hret _ _ _ _ (((((xByt.getD si []).getD q1.toNatClampNeg 0) &&& (255 : Int32)).toUInt32 % 65536).toInt32) dJ1_charAt_3b067_14 (Option.some.inj hf) h_3 hP hD hS
def f_J0_isLatin1_aae02 (si : Nat) : Option (Int32) := if (1 : Int32) = (0 : Int32) then (some ((0 : Int32))) else (if (0 : Int32) = (0 : Int32) then (some ((1 : Int32))) else (some ((0 : Int32))))
set_option maxRecDepth 100000 in
set_option maxHeartbeats 8000000 in
theorem c_J0_isLatin1_aae02 (l : Launch) (dC : Nat → ClassId) (dI : Nat → Nat → Nat) (cyI cyJ cyZ cyB cyO : ClassId) (tO : Nat) (vF : Value) (adK adV : Nat → Nat)   (si : Nat) (hsi : si < 12) (sz : Nat) (out : Int32) (hf : f_J0_isLatin1_aae02 si = some out) : Met l yJ0_isLatin1_aae02 (Cond.code yJ0_isLatin1_aae02 cJ0_isLatin1_aae02 1 (some .boolean) :: wsL_law) ({ frames := 0, cells := 0, slots := 0, locals := 0 } : Room) (va_Pc [.ref (adK si)] (ux_pre (dC, dI) vwCl (tyG cyI cyJ cyZ cyB cyO) [] sz (xE tO vF adK adV))) (va_Qi (fun (r : Int32) (_ : Unit) => r = out) (ux_at (dC, dI) vwCl (tyG cyI cyJ cyZ cyB cyO) [] sz (fun u : Unit => [])) (va_A [] sz)) 0 0 (va_A [] sz) := by
  refine ux_metz0 (by decide +kernel) (Nat.le_of_ble_eq_true rfl) ?_
  intro p e s m below meth c A Q ls hx hb hml hts hown hA hP hK hD hE hl hret
  have hown : s.vm.findClass RJ0 = some m.cls := hown
  have hS : va_S A s.heap s.heap [] := va_S.rf
  have hl : lv_has ls 1 [(0, .ref (adK si))] := hl
  unfold f_J0_isLatin1_aae02 at hf
  refine va_gets hx hb hE.2.2.1.1 hS hown (hts _ (List.mem_cons_of_mem _ wm_14_2)) (fun _ h9 => h9) dJ0_isLatin1_aae02_0 ?_
  refine lv_if_eq (tgt := 17) hx hb dJ0_isLatin1_aae02_3 (by decide) (fun c_1 => ?_) (fun c_1 => ?_)
  · have hf := (if_pos c_1).symm.trans hf
    refine lv_iconst (v := (0 : Int32)) hx hb dJ0_isLatin1_aae02_17 (by decide) ?_
    exact hret _ _ _ _ (0 : Int32) dJ0_isLatin1_aae02_18 (Option.some.inj hf) rfl hP hD hS
  · have hf := (if_neg c_1).symm.trans hf
    refine lv_aload_n hx hb dJ0_isLatin1_aae02_6 rfl (lv_at hl 0 rfl) ?_
    refine vk_getf hx hb (hE.2.2.2.1.1 si hsi).2.1 hS hown (hts _ (List.mem_cons_of_mem _ wm_14_3)) (fun _ h9 => h9) dJ0_isLatin1_aae02_7 ?_
    refine lv_if_ne (tgt := 17) hx hb dJ0_isLatin1_aae02_10 (by decide) (fun c_2 => ?_) (fun c_2 => ?_)
    · have hf := (if_neg c_2).symm.trans hf
      refine lv_iconst (v := (0 : Int32)) hx hb dJ0_isLatin1_aae02_17 (by decide) ?_
      exact hret _ _ _ _ (0 : Int32) dJ0_isLatin1_aae02_18 (Option.some.inj hf) rfl hP hD hS
    · have hf := (if_pos c_2).symm.trans hf
      refine lv_iconst (v := (1 : Int32)) hx hb dJ0_isLatin1_aae02_13 (by decide) ?_
      refine lv_goto (tgt := 18) hx hb dJ0_isLatin1_aae02_14 (by decide) ?_
      exact hret _ _ _ _ (1 : Int32) dJ0_isLatin1_aae02_18 (Option.some.inj hf) rfl hP hD hS
def f_J0_coder_7d493 (si : Nat) : Option (Int32) := if (1 : Int32) = (0 : Int32) then (ck (isb (1 : Int32)) (some ((1 : Int32)))) else (ck (isb (0 : Int32)) (some ((0 : Int32))))
set_option maxRecDepth 100000 in
set_option maxHeartbeats 8000000 in
theorem c_J0_coder_7d493 (l : Launch) (dC : Nat → ClassId) (dI : Nat → Nat → Nat) (cyI cyJ cyZ cyB cyO : ClassId) (tO : Nat) (vF : Value) (adK adV : Nat → Nat)   (si : Nat) (hsi : si < 12) (sz : Nat) (out : Int32) (hf : f_J0_coder_7d493 si = some out) : Met l yJ0_coder_7d493 (Cond.code yJ0_coder_7d493 cJ0_coder_7d493 1 (some .byte) :: wsL_law) ({ frames := 0, cells := 0, slots := 0, locals := 0 } : Room) (va_Pc [.ref (adK si)] (ux_pre (dC, dI) vwCl (tyG cyI cyJ cyZ cyB cyO) [] sz (xE tO vF adK adV))) (va_Qi (fun (r : Int32) (_ : Unit) => r = out) (ux_at (dC, dI) vwCl (tyG cyI cyJ cyZ cyB cyO) [] sz (fun u : Unit => [])) (va_A [] sz)) 0 0 (va_A [] sz) := by
  refine ux_metb0 (by decide +kernel) (Nat.le_of_ble_eq_true rfl) ?_
  intro p e s m below meth c A Q ls hx hb hml hts hown hA hP hK hD hE hl hret
  have hown : s.vm.findClass RJ0 = some m.cls := hown
  have hS : va_S A s.heap s.heap [] := va_S.rf
  have hl : lv_has ls 1 [(0, .ref (adK si))] := hl
  unfold f_J0_coder_7d493 at hf
  refine va_gets hx hb hE.2.2.1.1 hS hown (hts _ (List.mem_cons_of_mem _ wm_14_2)) (fun _ h9 => h9) dJ0_coder_7d493_0 ?_
  refine lv_if_eq (tgt := 13) hx hb dJ0_coder_7d493_3 (by decide) (fun c_1 => ?_) (fun c_1 => ?_)
  · have hf := (if_pos c_1).symm.trans hf
    refine lv_iconst (v := (1 : Int32)) hx hb dJ0_coder_7d493_13 (by decide) ?_
    obtain ⟨h_2, hf⟩ := ck_some hf
    exact hret _ _ _ _ (1 : Int32) dJ0_coder_7d493_14 (Option.some.inj hf) h_2 hP hD hS
  · have hf := (if_neg c_1).symm.trans hf
    refine lv_aload_n hx hb dJ0_coder_7d493_6 rfl (lv_at hl 0 rfl) ?_
    refine vk_getf hx hb (hE.2.2.2.1.1 si hsi).2.1 hS hown (hts _ (List.mem_cons_of_mem _ wm_14_3)) (fun _ h9 => h9) dJ0_coder_7d493_7 ?_
    refine lv_goto (tgt := 14) hx hb dJ0_coder_7d493_10 (by decide) ?_
    obtain ⟨h_3, hf⟩ := ck_some hf
    exact hret _ _ _ _ (0 : Int32) dJ0_coder_7d493_14 (Option.some.inj hf) h_3 hP hD hS
def f_J0_length_8abf5 (si : Nat) : Option (Int32) := bd (f_J0_coder_7d493 si) (fun o_1 => some (((Int32.ofNat (xLen.getD si 0)) >>> (o_1 &&& 31))))
set_option maxRecDepth 100000 in
set_option maxHeartbeats 8000000 in
theorem c_J0_length_8abf5 (l : Launch) (dC : Nat → ClassId) (dI : Nat → Nat → Nat) (cyI cyJ cyZ cyB cyO : ClassId) (tO : Nat) (vF : Value) (adK adV : Nat → Nat)   (si : Nat) (hsi : si < 12) (sz : Nat) (out : Int32) (hf : f_J0_length_8abf5 si = some out) : Met l yJ0_length_8abf5 (Cond.code yJ0_length_8abf5 cJ0_length_8abf5 1 (some .int) :: wsL_law) ({ frames := 1, cells := 0, slots := 0, locals := 20 } : Room) (va_Pc [.ref (adK si)] (ux_pre (dC, dI) vwCl (tyG cyI cyJ cyZ cyB cyO) [] sz (xE tO vF adK adV))) (va_Qi (fun (r : Int32) (_ : Unit) => r = out) (ux_at (dC, dI) vwCl (tyG cyI cyJ cyZ cyB cyO) [] sz (fun u : Unit => [])) (va_A [] sz)) 0 0 (va_A [] sz) := by
  refine ux_meti0 (by decide +kernel) (Nat.le_of_ble_eq_true rfl) ?_
  intro p e s m below meth c A Q ls hx hb hml hts hown hA hP hK hD hE hl hret
  have hown : s.vm.findClass RJ0 = some m.cls := hown
  have hS : va_S A s.heap s.heap [] := va_S.rf
  have hl : lv_has ls 1 [(0, .ref (adK si))] := hl
  unfold f_J0_length_8abf5 at hf
  refine lv_aload_n hx hb dJ0_length_8abf5_0 rfl (lv_at hl 0 rfl) ?_
  refine vk_getf hx hb (hE.2.2.2.1.1 si hsi).2.2.1 hS hown (hts _ (List.mem_cons_of_mem _ wm_13_21)) (fun _ h9 => h9) dJ0_length_8abf5_1 ?_
  refine va_tlen hx hb (hE.2.2.2.1.1 si hsi).2.2.2 hS (v := (Int32.ofNat (xLen.getD si 0))) rfl dJ0_length_8abf5_4 ?_
  refine lv_aload_n hx hb dJ0_length_8abf5_5 rfl (lv_at hl 0 rfl) ?_
  obtain ⟨o_1, ho_1, hf⟩ := bd_some hf
  refine ux_Ki0 (n := 0) (As := []) (rest := [.int (Int32.ofNat (xLen.getD si 0))]) (wc := []) (wr := []) ⟨hx, hb, hml, hown, hts⟩ hK hP hD hS hA hE [] [] rfl rfl (by decide +kernel) (by decide +kernel) (by decide +kernel) (c_J0_coder_7d493 l dC dI cyI cyJ cyZ cyB cyO tO vF adK adV si hsi _ _ ho_1) (vk_recv hE.2.2.2.1 hsi hS) wm_13_22 wm_13_23 wm_14_0 wm_13_19 wm_14_1 ⟨rfl, rfl⟩ (by decide +kernel) rfl ⟨Nat.le_of_ble_eq_true rfl, Nat.le_of_ble_eq_true rfl⟩ hl.1 rfl (Nat.le_of_ble_eq_true rfl) dJ0_length_8abf5_6 ⟨Nat.le_of_ble_eq_true rfl, Nat.le_of_ble_eq_true rfl⟩ (fun H locs hP hD hS => ?_)
  have hP : va_P (dC, dI) vwCl [] H := hP
  have hD : va_D A [] := hD
  refine lv_ishr hx hb dJ0_length_8abf5_9 ?_
  exact hret _ _ _ _ ((Int32.ofNat (xLen.getD si 0)) >>> (o_1 &&& 31)) dJ0_length_8abf5_10 (Option.some.inj hf) hP hD hS
def f_J0_charAt_5068e (si : Nat) (q1 : Int32) : Option (Int32) := bd (f_J0_isLatin1_aae02 si) (fun o_1 => if o_1 = (0 : Int32) then (none) else (bd (f_J1_charAt_3b067 si q1) (fun o_3 => ck (isc o_3) (some (o_3)))))
set_option maxRecDepth 100000 in
set_option maxHeartbeats 8000000 in
theorem c_J0_charAt_5068e (l : Launch) (dC : Nat → ClassId) (dI : Nat → Nat → Nat) (cyI cyJ cyZ cyB cyO : ClassId) (tO : Nat) (vF : Value) (adK adV : Nat → Nat)   (si : Nat) (hsi : si < 12) (q1 : Int32) (sz : Nat) (out : Int32) (hf : f_J0_charAt_5068e si q1 = some out) : Met l yJ0_charAt_5068e (Cond.code yJ0_charAt_5068e cJ0_charAt_5068e 2 (some .char) :: wsL_law) ({ frames := 3, cells := 0, slots := 0, locals := 64 } : Room) (va_Pc [.ref (adK si), .int q1] (ux_pre (dC, dI) vwCl (tyG cyI cyJ cyZ cyB cyO) [] sz (xE tO vF adK adV))) (va_Qi (fun (r : Int32) (_ : Unit) => r = out) (ux_at (dC, dI) vwCl (tyG cyI cyJ cyZ cyB cyO) [] sz (fun u : Unit => [])) (va_A [] sz)) 0 0 (va_A [] sz) := by
  refine ux_metc0 (by decide +kernel) (Nat.le_of_ble_eq_true rfl) ?_
  intro p e s m below meth c A Q ls hx hb hml hts hown hA hP hK hD hE hl hret
  have hown : s.vm.findClass RJ0 = some m.cls := hown
  have hS : va_S A s.heap s.heap [] := va_S.rf
  have hl : lv_has ls 2 [(0, .ref (adK si)), (1, .int q1)] := hl
  unfold f_J0_charAt_5068e at hf
  refine lv_aload_n hx hb dJ0_charAt_5068e_0 rfl (lv_at hl 0 rfl) ?_
  obtain ⟨o_1, ho_1, hf⟩ := bd_some hf
  refine ux_Ki0 (n := 0) (As := []) (rest := []) (wc := []) (wr := []) ⟨hx, hb, hml, hown, hts⟩ hK hP hD hS hA hE [] [] rfl rfl (by decide +kernel) (by decide +kernel) (by decide +kernel) (c_J0_isLatin1_aae02 l dC dI cyI cyJ cyZ cyB cyO tO vF adK adV si hsi _ _ ho_1) (vk_recv hE.2.2.2.1 hsi hS) wm_14_8 wm_14_9 wm_14_10 wm_13_19 wm_14_11 ⟨rfl, rfl⟩ (by decide +kernel) rfl ⟨Nat.le_of_ble_eq_true rfl, Nat.le_of_ble_eq_true rfl⟩ hl.1 rfl (Nat.le_of_ble_eq_true rfl) dJ0_charAt_5068e_1 ⟨Nat.le_of_ble_eq_true rfl, Nat.le_of_ble_eq_true rfl⟩ (fun H locs hP hD hS => ?_)
  have hP : va_P (dC, dI) vwCl [] H := hP
  have hD : va_D A [] := hD
  refine lv_if_eq (tgt := 16) hx hb dJ0_charAt_5068e_4 (by decide) (fun c_2 => ?_) (fun c_2 => ?_)
  · have hf := (if_pos c_2).symm.trans hf
    refine lv_aload_n hx hb dJ0_charAt_5068e_16 rfl (lv_at hl 0 rfl) ?_
    refine vk_getf hx hb (hE.2.2.2.1.1 si hsi).2.2.1 hS hown (hts _ (List.mem_cons_of_mem _ wm_13_21)) (fun _ h9 => h9) dJ0_charAt_5068e_17 ?_
    refine lv_iload_n hx hb dJ0_charAt_5068e_20 rfl (lv_at hl 1 rfl) ?_
    exact no_some hf
  · have hf := (if_neg c_2).symm.trans hf
    refine lv_aload_n hx hb dJ0_charAt_5068e_7 rfl (lv_at hl 0 rfl) ?_
    refine vk_getf hx hb (hE.2.2.2.1.1 si hsi).2.2.1 hS hown (hts _ (List.mem_cons_of_mem _ wm_13_21)) (fun _ h9 => h9) dJ0_charAt_5068e_8 ?_
    refine lv_iload_n hx hb dJ0_charAt_5068e_11 rfl (lv_at hl 1 rfl) ?_
    obtain ⟨o_3, ho_3, hf⟩ := bd_some hf
    refine ux_Si0 (n := 2) (As := [.ref (adV si), .int q1]) (rest := []) (wc := []) (wr := []) ⟨hx, hb, hml, hown, hts⟩ hK hP hD hS hA hE [] [] rfl rfl (by decide +kernel) (by decide +kernel) (by decide +kernel) (c_J1_charAt_3b067 l dC dI cyI cyJ cyZ cyB cyO tO vF adK adV si hsi q1 _ _ ho_3) wm_14_12 wm_14_13 wm_14_14 wm_14_15 ⟨rfl, rfl⟩ (by decide +kernel) rfl ⟨Nat.le_of_ble_eq_true rfl, Nat.le_of_ble_eq_true rfl⟩ hl.1 rfl (Nat.le_of_ble_eq_true rfl) dJ0_charAt_5068e_12 ⟨Nat.le_of_ble_eq_true rfl, Nat.le_of_ble_eq_true rfl⟩ (fun H locs hP hD hS => ?_)
    have hP : va_P (dC, dI) vwCl [] H := hP
    have hD : va_D A [] := hD
    obtain ⟨h_4, hf⟩ := ck_some hf
    exact hret _ _ _ _ o_3 dJ0_charAt_5068e_15 (Option.some.inj hf) h_4 hP hD hS
def f_J1_canEncode_9a6ad (q0 : Int32) : Option (Int32) := if q0 < (0 : Int32) then (some ((0 : Int32))) else (if (255 : Int32) < q0 then (some ((0 : Int32))) else (some ((1 : Int32))))
set_option maxRecDepth 100000 in
set_option maxHeartbeats 8000000 in
theorem c_J1_canEncode_9a6ad (l : Launch) (dC : Nat → ClassId) (dI : Nat → Nat → Nat) (cyI cyJ cyZ cyB cyO : ClassId) (tO : Nat) (vF : Value) (adK adV : Nat → Nat)   (q0 : Int32) (sz : Nat) (out : Int32) (hf : f_J1_canEncode_9a6ad q0 = some out) : Met l yJ1_canEncode_9a6ad (Cond.code yJ1_canEncode_9a6ad cJ1_canEncode_9a6ad 1 (some .boolean) :: wsL_law) ({ frames := 0, cells := 0, slots := 0, locals := 0 } : Room) (va_Pc [.int q0] (ux_pre (dC, dI) vwCl (tyG cyI cyJ cyZ cyB cyO) [] sz (xE tO vF adK adV))) (va_Qi (fun (r : Int32) (_ : Unit) => r = out) (ux_at (dC, dI) vwCl (tyG cyI cyJ cyZ cyB cyO) [] sz (fun u : Unit => [])) (va_A [] sz)) 0 0 (va_A [] sz) := by
  refine ux_metz0 (by decide +kernel) (Nat.le_of_ble_eq_true rfl) ?_
  intro p e s m below meth c A Q ls hx hb hml hts hown hA hP hK hD hE hl hret
  have hown : s.vm.findClass RJ1 = some m.cls := hown
  have hS : va_S A s.heap s.heap [] := va_S.rf
  have hl : lv_has ls 1 [(0, .int q0)] := hl
  unfold f_J1_canEncode_9a6ad at hf
  refine lv_iload_n hx hb dJ1_canEncode_9a6ad_0 rfl (lv_at hl 0 rfl) ?_
  refine lv_if_lt (tgt := 15) hx hb dJ1_canEncode_9a6ad_1 (by decide) (fun c_1 => ?_) (fun c_1 => ?_)
  · have hf := (if_pos c_1).symm.trans hf
    refine lv_iconst (v := (0 : Int32)) hx hb dJ1_canEncode_9a6ad_15 (by decide) ?_
    exact hret _ _ _ _ (0 : Int32) dJ1_canEncode_9a6ad_16 (Option.some.inj hf) rfl hP hD hS
  · have hf := (if_neg c_1).symm.trans hf
    refine lv_iload_n hx hb dJ1_canEncode_9a6ad_4 rfl (lv_at hl 0 rfl) ?_
    refine lv_sipush (v := (255 : Int32)) hx hb dJ1_canEncode_9a6ad_5 (by decide) ?_
    refine lv_icmp_gt (tgt := 15) hx hb dJ1_canEncode_9a6ad_8 (by decide) (fun c_2 => ?_) (fun c_2 => ?_)
    · have hf := (if_pos c_2).symm.trans hf
      refine lv_iconst (v := (0 : Int32)) hx hb dJ1_canEncode_9a6ad_15 (by decide) ?_
      exact hret _ _ _ _ (0 : Int32) dJ1_canEncode_9a6ad_16 (Option.some.inj hf) rfl hP hD hS
    · have hf := (if_neg c_2).symm.trans hf
      refine lv_iconst (v := (1 : Int32)) hx hb dJ1_canEncode_9a6ad_11 (by decide) ?_
      refine lv_goto (tgt := 16) hx hb dJ1_canEncode_9a6ad_12 (by decide) ?_
      exact hret _ _ _ _ (1 : Int32) dJ1_canEncode_9a6ad_16 (Option.some.inj hf) rfl hP hD hS
def f_J1_indexOfChar_4cfef_b7_st (kr : Int32 → Int32 → Int32 → Option (Int32)) (si : Nat)   (x3 : Int32) (x4 : Int32) (x5 : Int32) : Option (Int32) := if x3 ≤ x5 then (some ((-1 : Int32))) else (ck (inb x5 (xLen.getD si 0)) (if ((xByt.getD si []).getD x5.toNatClampNeg 0) = x4 then (some (x5)) else (kr x3 x4 (x5 + (1 : Int32)))))
def f_J1_indexOfChar_4cfef_b7 (si : Nat)   : Nat → Int32 → Int32 → Int32 → Option (Int32)
  | 0 => fun _ _ _ => none
  | n + 1 => f_J1_indexOfChar_4cfef_b7_st (f_J1_indexOfChar_4cfef_b7 si  n) si 
def f_J1_indexOfChar_4cfef (si : Nat) (q1 : Int32) (q2 : Int32) (q3 : Int32) : Option (Int32) := f_J1_indexOfChar_4cfef_b7 si fuel q3 q1.toInt8.toInt32 q2
set_option maxRecDepth 100000 in
set_option maxHeartbeats 8000000 in
theorem c_J1_indexOfChar_4cfef (l : Launch) (dC : Nat → ClassId) (dI : Nat → Nat → Nat) (cyI cyJ cyZ cyB cyO : ClassId) (tO : Nat) (vF : Value) (adK adV : Nat → Nat)   (si : Nat) (hsi : si < 12) (q1 : Int32) (q2 : Int32) (q3 : Int32) (sz : Nat) (out : Int32) (hf : f_J1_indexOfChar_4cfef si q1 q2 q3 = some out) : Met l yJ1_indexOfChar_4cfef (Cond.code yJ1_indexOfChar_4cfef cJ1_indexOfChar_4cfef 6 (some .int) :: wsL_law) ({ frames := 0, cells := 0, slots := 0, locals := 0 } : Room) (va_Pc [.ref (adV si), .int q1, .int q2, .int q3] (ux_pre (dC, dI) vwCl (tyG cyI cyJ cyZ cyB cyO) [] sz (xE tO vF adK adV))) (va_Qi (fun (r : Int32) (_ : Unit) => r = out) (ux_at (dC, dI) vwCl (tyG cyI cyJ cyZ cyB cyO) [] sz (fun u : Unit => [])) (va_A [] sz)) 0 0 (va_A [] sz) := by
  refine ux_meti0 (by decide +kernel) (Nat.le_of_ble_eq_true rfl) ?_
  intro p e s m below meth c A Q ls hx hb hml hts hown hA hP hK hD hE hl hret
  have hown : s.vm.findClass RJ1 = some m.cls := hown
  have hS : va_S A s.heap s.heap [] := va_S.rf
  have hl : lv_has ls 6 [(0, .ref (adV si)), (1, .int q1), (2, .int q2), (3, .int q3)] := hl
  have hb_7 : ∀ (n : Nat) (x3 : Int32) (x4 : Int32) (x5 : Int32), f_J1_indexOfChar_4cfef_b7 si n x3 x4 x5 = some out → ∀ (H : Heap) (locs : List Loc) (ls : Array Slot), va_P (dC, dI) vwCl [] H → va_D A [] → va_S A s.heap H locs → lv_has ls 6 [(0, .ref (adV si)), (3, .int x3), (4, .int x4), (5, .int x5)] → W p l e ({ frames := 0, cells := 0, slots := 0, locals := 0 } : Room) s m ([.ref (adV si), .int q1, .int q2, .int q3] : List Value).toArray below meth c H locs 0 0 Q (F0 m 7 ls []) := by
    intro  n
    induction n with
    | zero =>
      intro x3 x4 x5 hf
      exact no_some hf
    | succ n ih =>
      intro x3 x4 x5 hf H locs ls hP hD hS hl
      have hf : f_J1_indexOfChar_4cfef_b7_st (f_J1_indexOfChar_4cfef_b7 si  n) si  x3 x4 x5 = some out := hf
      unfold f_J1_indexOfChar_4cfef_b7_st at hf
      refine lv_iload hx hb dJ1_indexOfChar_4cfef_7 (lv_at hl 3 rfl) ?_
      refine lv_iload_n hx hb dJ1_indexOfChar_4cfef_9 rfl (lv_at hl 1 rfl) ?_
      refine lv_icmp_ge (tgt := 31) hx hb dJ1_indexOfChar_4cfef_10 (by decide) (fun c_1 => ?_) (fun c_1 => ?_)
      · have hf := (if_pos c_1).symm.trans hf
        refine lv_iconst (v := (-1 : Int32)) hx hb dJ1_indexOfChar_4cfef_31 (by decide) ?_
        exact hret _ _ _ _ (-1 : Int32) dJ1_indexOfChar_4cfef_32 (Option.some.inj hf) hP hD hS
      · have hf := (if_neg c_1).symm.trans hf
        refine lv_aload_n hx hb dJ1_indexOfChar_4cfef_13 rfl (lv_at hl 0 rfl) ?_
        refine lv_iload hx hb dJ1_indexOfChar_4cfef_14 (lv_at hl 3 rfl) ?_
        obtain ⟨h_2, hf⟩ := ck_some hf
        refine va_tb hx hb (hE.2.2.2.1.1 si hsi).2.2.2 hS (inb_in h_2) (v := .int ((xByt.getD si []).getD x5.toNatClampNeg 0)) rfl dJ1_indexOfChar_4cfef_16 ?_
        refine lv_iload hx hb dJ1_indexOfChar_4cfef_17 (lv_at hl 2 rfl) ?_
        refine lv_icmp_ne (tgt := 25) hx hb dJ1_indexOfChar_4cfef_19 (by decide) (fun c_3 => ?_) (fun c_3 => ?_)
        · have hf := (if_neg c_3).symm.trans hf
          refine lv_iinc (v := x5 + (1 : Int32)) (lv' := [(5, .int (x5 + (1 : Int32))), (0, .ref (adV si)), (3, .int x3), (4, .int x4)]) hx hb dJ1_indexOfChar_4cfef_25 hl (k := 3) rfl rfl (by decide) rfl (fun ls hl => ?_)
          refine lv_goto (tgt := 7) hx hb dJ1_indexOfChar_4cfef_28 (by decide) ?_
          exact ih _ _ _ hf _ _ _ hP hD hS (lv_sub hl [1, 2, 3, 0] rfl)
        · have hf := (if_pos c_3).symm.trans hf
          refine lv_iload hx hb dJ1_indexOfChar_4cfef_22 (lv_at hl 3 rfl) ?_
          exact hret _ _ _ _ x5 dJ1_indexOfChar_4cfef_24 (Option.some.inj hf) hP hD hS
  unfold f_J1_indexOfChar_4cfef at hf
  refine lv_iload_n hx hb dJ1_indexOfChar_4cfef_0 rfl (lv_at hl 1 rfl) ?_
  refine lv_i2b hx hb dJ1_indexOfChar_4cfef_1 rfl ?_
  refine lv_istore (lv' := [(4, .int q1.toInt8.toInt32), (0, .ref (adV si)), (1, .int q1), (2, .int q2), (3, .int q3)]) hx hb dJ1_indexOfChar_4cfef_2 hl (by decide) rfl (fun ls hl => ?_)
  refine lv_iload_n hx hb dJ1_indexOfChar_4cfef_4 rfl (lv_at hl 3 rfl) ?_
  refine lv_istore (lv' := [(5, .int q2), (4, .int q1.toInt8.toInt32), (0, .ref (adV si)), (1, .int q1), (2, .int q2), (3, .int q3)]) hx hb dJ1_indexOfChar_4cfef_5 hl (by decide) rfl (fun ls hl => ?_)
  exact hb_7 _ _ _ _ hf _ _ _ hP hD hS (lv_sub hl [2, 5, 1, 0] rfl)
def f_J1_indexOf_4cfef (si : Nat) (q1 : Int32) (q2 : Int32) (q3 : Int32) : Option (Int32) := bd (f_J1_canEncode_9a6ad q1) (fun o_1 => if o_1 = (0 : Int32) then (some ((-1 : Int32))) else (nm ((if (Int32.ofNat (xLen.getD si 0)) < q3 then (Int32.ofNat (xLen.getD si 0)) else q3)) (fun e_3 => if (if q2 < (0 : Int32) then (0 : Int32) else q2) < e_3 then (bd (f_J1_indexOfChar_4cfef si q1 (if q2 < (0 : Int32) then (0 : Int32) else q2) e_3) (fun o_5 => some (o_5))) else (some ((-1 : Int32))))))
set_option maxRecDepth 100000 in
set_option maxHeartbeats 8000000 in
theorem c_J1_indexOf_4cfef (l : Launch) (dC : Nat → ClassId) (dI : Nat → Nat → Nat) (cyI cyJ cyZ cyB cyO : ClassId) (tO : Nat) (vF : Value) (adK adV : Nat → Nat)   (si : Nat) (hsi : si < 12) (q1 : Int32) (q2 : Int32) (q3 : Int32) (sz : Nat) (out : Int32) (hf : f_J1_indexOf_4cfef si q1 q2 q3 = some out) : Met l yJ1_indexOf_4cfef (Cond.code yJ1_indexOf_4cfef cJ1_indexOf_4cfef 4 (some .int) :: wsL_law) ({ frames := 1, cells := 0, slots := 0, locals := 25 } : Room) (va_Pc [.ref (adV si), .int q1, .int q2, .int q3] (ux_pre (dC, dI) vwCl (tyG cyI cyJ cyZ cyB cyO) [] sz (xE tO vF adK adV))) (va_Qi (fun (r : Int32) (_ : Unit) => r = out) (ux_at (dC, dI) vwCl (tyG cyI cyJ cyZ cyB cyO) [] sz (fun u : Unit => [])) (va_A [] sz)) 0 0 (va_A [] sz) := by
  refine ux_meti0 (by decide +kernel) (Nat.le_of_ble_eq_true rfl) ?_
  intro p e s m below meth c A Q ls hx hb hml hts hown hA hP hK hD hE hl hret
  have hown : s.vm.findClass RJ1 = some m.cls := hown
  have hS : va_S A s.heap s.heap [] := va_S.rf
  have hl : lv_has ls 4 [(0, .ref (adV si)), (1, .int q1), (2, .int q2), (3, .int q3)] := hl
  unfold f_J1_indexOf_4cfef at hf
  refine lv_iload_n hx hb dJ1_indexOf_4cfef_0 rfl (lv_at hl 1 rfl) ?_
  obtain ⟨o_1, ho_1, hf⟩ := bd_some hf
  refine ux_Si0 (n := 1) (As := [.int q1]) (rest := []) (wc := []) (wr := []) ⟨hx, hb, hml, hown, hts⟩ hK hP hD hS hA hE [] [] rfl rfl (by decide +kernel) (by decide +kernel) (by decide +kernel) (c_J1_canEncode_9a6ad l dC dI cyI cyJ cyZ cyB cyO tO vF adK adV q1 _ _ ho_1) wm_16_15 wm_16_16 wm_14_14 wm_16_17 ⟨rfl, rfl⟩ (by decide +kernel) rfl ⟨Nat.le_of_ble_eq_true rfl, Nat.le_of_ble_eq_true rfl⟩ hl.1 rfl (Nat.le_of_ble_eq_true rfl) dJ1_indexOf_4cfef_1 ⟨Nat.le_of_ble_eq_true rfl, Nat.le_of_ble_eq_true rfl⟩ (fun H locs hP hD hS => ?_)
  have hP : va_P (dC, dI) vwCl [] H := hP
  have hD : va_D A [] := hD
  refine lv_if_ne (tgt := 9) hx hb dJ1_indexOf_4cfef_4 (by decide) (fun c_2 => ?_) (fun c_2 => ?_)
  · have hf := (if_neg c_2).symm.trans hf
    refine lv_iload_n hx hb dJ1_indexOf_4cfef_9 rfl (lv_at hl 2 rfl) ?_
    refine lv_iconst (v := (0 : Int32)) hx hb dJ1_indexOf_4cfef_10 (by decide) ?_
    refine va_mmax hx hb (hml.trans hl.1.symm) hown (hts _ (List.mem_cons_of_mem _ wm_16_11)) (hts _ (List.mem_cons_of_mem _ wm_16_12)) (hts _ (List.mem_cons_of_mem _ wm_12_7)) (hts _ (List.mem_cons_of_mem _ wm_16_13)) (Nat.le_of_ble_eq_true rfl) (Nat.le_of_ble_eq_true rfl) (Nat.le_of_ble_eq_true rfl) (Nat.le_of_ble_eq_true rfl) dJ1_indexOf_4cfef_11 ?_
    refine lv_istore_n (lv' := [(2, .int (if q2 < (0 : Int32) then (0 : Int32) else q2)), (0, .ref (adV si)), (1, .int q1), (3, .int q3)]) hx hb dJ1_indexOf_4cfef_14 rfl hl (by decide) rfl (fun ls hl => ?_)
    refine lv_iload_n hx hb dJ1_indexOf_4cfef_15 rfl (lv_at hl 3 rfl) ?_
    refine lv_aload_n hx hb dJ1_indexOf_4cfef_16 rfl (lv_at hl 1 rfl) ?_
    refine va_tlen hx hb (hE.2.2.2.1.1 si hsi).2.2.2 hS (v := (Int32.ofNat (xLen.getD si 0))) rfl dJ1_indexOf_4cfef_17 ?_
    refine va_mmin hx hb (hml.trans hl.1.symm) hown (hts _ (List.mem_cons_of_mem _ wm_16_14)) (hts _ (List.mem_cons_of_mem _ wm_12_6)) (hts _ (List.mem_cons_of_mem _ wm_12_7)) (hts _ (List.mem_cons_of_mem _ wm_12_8)) (Nat.le_of_ble_eq_true rfl) (Nat.le_of_ble_eq_true rfl) (Nat.le_of_ble_eq_true rfl) (Nat.le_of_ble_eq_true rfl) dJ1_indexOf_4cfef_18 ?_
    obtain ⟨e_3, ee_3, hf⟩ := nm_some hf
    rw [← ee_3]
    refine lv_istore_n (lv' := [(3, .int e_3), (2, .int (if q2 < (0 : Int32) then (0 : Int32) else q2)), (0, .ref (adV si)), (1, .int q1)]) hx hb dJ1_indexOf_4cfef_21 rfl hl (by decide) rfl (fun ls hl => ?_)
    refine lv_iload_n hx hb dJ1_indexOf_4cfef_22 rfl (lv_at hl 1 rfl) ?_
    refine lv_iload_n hx hb dJ1_indexOf_4cfef_23 rfl (lv_at hl 0 rfl) ?_
    refine lv_icmp_lt (tgt := 29) hx hb dJ1_indexOf_4cfef_24 (by decide) (fun c_4 => ?_) (fun c_4 => ?_)
    · have hf := (if_pos c_4).symm.trans hf
      refine lv_aload_n hx hb dJ1_indexOf_4cfef_29 rfl (lv_at hl 2 rfl) ?_
      refine lv_iload_n hx hb dJ1_indexOf_4cfef_30 rfl (lv_at hl 3 rfl) ?_
      refine lv_iload_n hx hb dJ1_indexOf_4cfef_31 rfl (lv_at hl 1 rfl) ?_
      refine lv_iload_n hx hb dJ1_indexOf_4cfef_32 rfl (lv_at hl 0 rfl) ?_
      obtain ⟨o_5, ho_5, hf⟩ := bd_some hf
      refine ux_Si0 (n := 4) (As := [.ref (adV si), .int q1, .int (if q2 < (0 : Int32) then (0 : Int32) else q2), .int e_3]) (rest := []) (wc := []) (wr := []) ⟨hx, hb, hml, hown, hts⟩ hK hP hD hS hA hE [] [] rfl rfl (by decide +kernel) (by decide +kernel) (by decide +kernel) (c_J1_indexOfChar_4cfef l dC dI cyI cyJ cyZ cyB cyO tO vF adK adV si hsi q1 (if q2 < (0 : Int32) then (0 : Int32) else q2) e_3 _ _ ho_5) wm_16_18 wm_16_19 wm_14_14 wm_16_20 ⟨rfl, rfl⟩ (by decide +kernel) rfl ⟨Nat.le_of_ble_eq_true rfl, Nat.le_of_ble_eq_true rfl⟩ hl.1 rfl (Nat.le_of_ble_eq_true rfl) dJ1_indexOf_4cfef_33 ⟨Nat.le_of_ble_eq_true rfl, Nat.le_of_ble_eq_true rfl⟩ (fun H locs hP hD hS => ?_)
      have hP : va_P (dC, dI) vwCl [] H := hP
      have hD : va_D A [] := hD
      exact hret _ _ _ _ o_5 dJ1_indexOf_4cfef_36 (Option.some.inj hf) hP hD hS
    · have hf := (if_neg c_4).symm.trans hf
      refine lv_iconst (v := (-1 : Int32)) hx hb dJ1_indexOf_4cfef_27 (by decide) ?_
      exact hret _ _ _ _ (-1 : Int32) dJ1_indexOf_4cfef_28 (Option.some.inj hf) hP hD hS
  · have hf := (if_pos c_2).symm.trans hf
    refine lv_iconst (v := (-1 : Int32)) hx hb dJ1_indexOf_4cfef_7 (by decide) ?_
    exact hret _ _ _ _ (-1 : Int32) dJ1_indexOf_4cfef_8 (Option.some.inj hf) hP hD hS
def f_J0_indexOf_7cf53 (si : Nat) (q1 : Int32) (q2 : Int32) : Option (Int32) := bd (f_J0_isLatin1_aae02 si) (fun o_1 => if o_1 = (0 : Int32) then (bd (f_J0_length_8abf5 si) (fun o_3 => none)) else (bd (f_J0_length_8abf5 si) (fun o_4 => bd (f_J1_indexOf_4cfef si q1 q2 o_4) (fun o_5 => some (o_5)))))
set_option maxRecDepth 100000 in
set_option maxHeartbeats 8000000 in
theorem c_J0_indexOf_7cf53 (l : Launch) (dC : Nat → ClassId) (dI : Nat → Nat → Nat) (cyI cyJ cyZ cyB cyO : ClassId) (tO : Nat) (vF : Value) (adK adV : Nat → Nat)   (si : Nat) (hsi : si < 12) (q1 : Int32) (q2 : Int32) (sz : Nat) (out : Int32) (hf : f_J0_indexOf_7cf53 si q1 q2 = some out) : Met l yJ0_indexOf_7cf53 (Cond.code yJ0_indexOf_7cf53 cJ0_indexOf_7cf53 3 (some .int) :: wsL_law) ({ frames := 2, cells := 0, slots := 0, locals := 48 } : Room) (va_Pc [.ref (adK si), .int q1, .int q2] (ux_pre (dC, dI) vwCl (tyG cyI cyJ cyZ cyB cyO) [] sz (xE tO vF adK adV))) (va_Qi (fun (r : Int32) (_ : Unit) => r = out) (ux_at (dC, dI) vwCl (tyG cyI cyJ cyZ cyB cyO) [] sz (fun u : Unit => [])) (va_A [] sz)) 0 0 (va_A [] sz) := by
  refine ux_meti0 (by decide +kernel) (Nat.le_of_ble_eq_true rfl) ?_
  intro p e s m below meth c A Q ls hx hb hml hts hown hA hP hK hD hE hl hret
  have hown : s.vm.findClass RJ0 = some m.cls := hown
  have hS : va_S A s.heap s.heap [] := va_S.rf
  have hl : lv_has ls 3 [(0, .ref (adK si)), (1, .int q1), (2, .int q2)] := hl
  unfold f_J0_indexOf_7cf53 at hf
  refine lv_aload_n hx hb dJ0_indexOf_7cf53_0 rfl (lv_at hl 0 rfl) ?_
  obtain ⟨o_1, ho_1, hf⟩ := bd_some hf
  refine ux_Ki0 (n := 0) (As := []) (rest := []) (wc := []) (wr := []) ⟨hx, hb, hml, hown, hts⟩ hK hP hD hS hA hE [] [] rfl rfl (by decide +kernel) (by decide +kernel) (by decide +kernel) (c_J0_isLatin1_aae02 l dC dI cyI cyJ cyZ cyB cyO tO vF adK adV si hsi _ _ ho_1) (vk_recv hE.2.2.2.1 hsi hS) wm_14_8 wm_14_9 wm_14_10 wm_13_19 wm_14_11 ⟨rfl, rfl⟩ (by decide +kernel) rfl ⟨Nat.le_of_ble_eq_true rfl, Nat.le_of_ble_eq_true rfl⟩ hl.1 rfl (Nat.le_of_ble_eq_true rfl) dJ0_indexOf_7cf53_1 ⟨Nat.le_of_ble_eq_true rfl, Nat.le_of_ble_eq_true rfl⟩ (fun H locs hP hD hS => ?_)
  have hP : va_P (dC, dI) vwCl [] H := hP
  have hD : va_D A [] := hD
  refine lv_if_eq (tgt := 23) hx hb dJ0_indexOf_7cf53_4 (by decide) (fun c_2 => ?_) (fun c_2 => ?_)
  · have hf := (if_pos c_2).symm.trans hf
    refine lv_aload_n hx hb dJ0_indexOf_7cf53_23 rfl (lv_at hl 0 rfl) ?_
    refine vk_getf hx hb (hE.2.2.2.1.1 si hsi).2.2.1 hS hown (hts _ (List.mem_cons_of_mem _ wm_13_21)) (fun _ h9 => h9) dJ0_indexOf_7cf53_24 ?_
    refine lv_iload_n hx hb dJ0_indexOf_7cf53_27 rfl (lv_at hl 1 rfl) ?_
    refine lv_iload_n hx hb dJ0_indexOf_7cf53_28 rfl (lv_at hl 2 rfl) ?_
    refine lv_aload_n hx hb dJ0_indexOf_7cf53_29 rfl (lv_at hl 0 rfl) ?_
    obtain ⟨o_3, ho_3, hf⟩ := bd_some hf
    refine ux_Ki0 (n := 0) (As := []) (rest := [.int q2, .int q1, .ref (adV si)]) (wc := []) (wr := []) ⟨hx, hb, hml, hown, hts⟩ hK hP hD hS hA hE [] [] rfl rfl (by decide +kernel) (by decide +kernel) (by decide +kernel) (c_J0_length_8abf5 l dC dI cyI cyJ cyZ cyB cyO tO vF adK adV si hsi _ _ ho_3) (vk_recv hE.2.2.2.1 hsi hS) wm_16_7 wm_13_17 wm_13_18 wm_13_19 wm_13_20 ⟨rfl, rfl⟩ (by decide +kernel) rfl ⟨Nat.le_of_ble_eq_true rfl, Nat.le_of_ble_eq_true rfl⟩ hl.1 rfl (Nat.le_of_ble_eq_true rfl) dJ0_indexOf_7cf53_30 ⟨Nat.le_of_ble_eq_true rfl, Nat.le_of_ble_eq_true rfl⟩ (fun H locs hP hD hS => ?_)
    have hP : va_P (dC, dI) vwCl [] H := hP
    have hD : va_D A [] := hD
    exact no_some hf
  · have hf := (if_neg c_2).symm.trans hf
    refine lv_aload_n hx hb dJ0_indexOf_7cf53_7 rfl (lv_at hl 0 rfl) ?_
    refine vk_getf hx hb (hE.2.2.2.1.1 si hsi).2.2.1 hS hown (hts _ (List.mem_cons_of_mem _ wm_13_21)) (fun _ h9 => h9) dJ0_indexOf_7cf53_8 ?_
    refine lv_iload_n hx hb dJ0_indexOf_7cf53_11 rfl (lv_at hl 1 rfl) ?_
    refine lv_iload_n hx hb dJ0_indexOf_7cf53_12 rfl (lv_at hl 2 rfl) ?_
    refine lv_aload_n hx hb dJ0_indexOf_7cf53_13 rfl (lv_at hl 0 rfl) ?_
    obtain ⟨o_4, ho_4, hf⟩ := bd_some hf
    refine ux_Ki0 (n := 0) (As := []) (rest := [.int q2, .int q1, .ref (adV si)]) (wc := []) (wr := []) ⟨hx, hb, hml, hown, hts⟩ hK hP hD hS hA hE [] [] rfl rfl (by decide +kernel) (by decide +kernel) (by decide +kernel) (c_J0_length_8abf5 l dC dI cyI cyJ cyZ cyB cyO tO vF adK adV si hsi _ _ ho_4) (vk_recv hE.2.2.2.1 hsi hS) wm_16_7 wm_13_17 wm_13_18 wm_13_19 wm_13_20 ⟨rfl, rfl⟩ (by decide +kernel) rfl ⟨Nat.le_of_ble_eq_true rfl, Nat.le_of_ble_eq_true rfl⟩ hl.1 rfl (Nat.le_of_ble_eq_true rfl) dJ0_indexOf_7cf53_14 ⟨Nat.le_of_ble_eq_true rfl, Nat.le_of_ble_eq_true rfl⟩ (fun H locs hP hD hS => ?_)
    have hP : va_P (dC, dI) vwCl [] H := hP
    have hD : va_D A [] := hD
    obtain ⟨o_5, ho_5, hf⟩ := bd_some hf
    refine ux_Si0 (n := 4) (As := [.ref (adV si), .int q1, .int q2, .int o_4]) (rest := []) (wc := []) (wr := []) ⟨hx, hb, hml, hown, hts⟩ hK hP hD hS hA hE [] [] rfl rfl (by decide +kernel) (by decide +kernel) (by decide +kernel) (c_J1_indexOf_4cfef l dC dI cyI cyJ cyZ cyB cyO tO vF adK adV si hsi q1 q2 o_4 _ _ ho_5) wm_16_8 wm_16_9 wm_14_14 wm_16_10 ⟨rfl, rfl⟩ (by decide +kernel) rfl ⟨Nat.le_of_ble_eq_true rfl, Nat.le_of_ble_eq_true rfl⟩ hl.1 rfl (Nat.le_of_ble_eq_true rfl) dJ0_indexOf_7cf53_17 ⟨Nat.le_of_ble_eq_true rfl, Nat.le_of_ble_eq_true rfl⟩ (fun H locs hP hD hS => ?_)
    have hP : va_P (dC, dI) vwCl [] H := hP
    have hD : va_D A [] := hD
    refine lv_goto (tgt := 36) hx hb dJ0_indexOf_7cf53_20 (by decide) ?_
    exact hret _ _ _ _ o_5 dJ0_indexOf_7cf53_36 (Option.some.inj hf) hP hD hS
def f_J0_indexOf_0f7a4 (si : Nat) (q1 : Int32) : Option (Int32) := bd (f_J0_indexOf_7cf53 si q1 (0 : Int32)) (fun o_1 => some (o_1))
set_option maxRecDepth 100000 in
set_option maxHeartbeats 8000000 in
theorem c_J0_indexOf_0f7a4 (l : Launch) (dC : Nat → ClassId) (dI : Nat → Nat → Nat) (cyI cyJ cyZ cyB cyO : ClassId) (tO : Nat) (vF : Value) (adK adV : Nat → Nat)   (si : Nat) (hsi : si < 12) (q1 : Int32) (sz : Nat) (out : Int32) (hf : f_J0_indexOf_0f7a4 si q1 = some out) : Met l yJ0_indexOf_0f7a4 (Cond.code yJ0_indexOf_0f7a4 cJ0_indexOf_0f7a4 2 (some .int) :: wsL_law) ({ frames := 3, cells := 0, slots := 0, locals := 70 } : Room) (va_Pc [.ref (adK si), .int q1] (ux_pre (dC, dI) vwCl (tyG cyI cyJ cyZ cyB cyO) [] sz (xE tO vF adK adV))) (va_Qi (fun (r : Int32) (_ : Unit) => r = out) (ux_at (dC, dI) vwCl (tyG cyI cyJ cyZ cyB cyO) [] sz (fun u : Unit => [])) (va_A [] sz)) 0 0 (va_A [] sz) := by
  refine ux_meti0 (by decide +kernel) (Nat.le_of_ble_eq_true rfl) ?_
  intro p e s m below meth c A Q ls hx hb hml hts hown hA hP hK hD hE hl hret
  have hown : s.vm.findClass RJ0 = some m.cls := hown
  have hS : va_S A s.heap s.heap [] := va_S.rf
  have hl : lv_has ls 2 [(0, .ref (adK si)), (1, .int q1)] := hl
  unfold f_J0_indexOf_0f7a4 at hf
  refine lv_aload_n hx hb dJ0_indexOf_0f7a4_0 rfl (lv_at hl 0 rfl) ?_
  refine lv_iload_n hx hb dJ0_indexOf_0f7a4_1 rfl (lv_at hl 1 rfl) ?_
  refine lv_iconst (v := (0 : Int32)) hx hb dJ0_indexOf_0f7a4_2 (by decide) ?_
  obtain ⟨o_1, ho_1, hf⟩ := bd_some hf
  refine ux_Ki0 (n := 2) (As := [.int q1, .int (0 : Int32)]) (rest := []) (wc := []) (wr := []) ⟨hx, hb, hml, hown, hts⟩ hK hP hD hS hA hE [] [] rfl rfl (by decide +kernel) (by decide +kernel) (by decide +kernel) (c_J0_indexOf_7cf53 l dC dI cyI cyJ cyZ cyB cyO tO vF adK adV si hsi q1 (0 : Int32) _ _ ho_1) (vk_recv hE.2.2.2.1 hsi hS) wm_16_3 wm_16_4 wm_16_5 wm_13_19 wm_16_6 ⟨rfl, rfl⟩ (by decide +kernel) rfl ⟨Nat.le_of_ble_eq_true rfl, Nat.le_of_ble_eq_true rfl⟩ hl.1 rfl (Nat.le_of_ble_eq_true rfl) dJ0_indexOf_0f7a4_3 ⟨Nat.le_of_ble_eq_true rfl, Nat.le_of_ble_eq_true rfl⟩ (fun H locs hP hD hS => ?_)
  have hP : va_P (dC, dI) vwCl [] H := hP
  have hD : va_D A [] := hD
  exact hret _ _ _ _ o_1 dJ0_indexOf_0f7a4_6 (Option.some.inj hf) hP hD hS
