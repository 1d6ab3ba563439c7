def f_J7_fill_53178_6_b5_st (kr : (Nat → Int32) → Int32 → Int32 → Int32 → Option ((Nat → Int32)))   (v_tp_0 : (Nat → Int32)) (x1 : Int32) (x2 : Int32) (x3 : Int32) : Option ((Nat → Int32)) := if x3 ≤ x2 then (some (v_tp_0)) else (ck (inb x2 6) (nm (upd v_tp_0 x2.toNatClampNeg x1) (fun a_3 => kr a_3 x1 (x2 + (1 : Int32)) x3)))
def f_J7_fill_53178_6_b5   : Nat → (Nat → Int32) → Int32 → Int32 → Int32 → Option ((Nat → Int32))
  | 0 => fun _ _ _ _ => none
  | n + 1 => f_J7_fill_53178_6_b5_st (f_J7_fill_53178_6_b5  n) 
def f_J7_fill_53178_6 (v_tp_0 : (Nat → Int32)) (q1 : Int32) : Option ((Nat → Int32)) := f_J7_fill_53178_6_b5 fuel v_tp_0 q1 (0 : Int32) (6 : Int32)
set_option maxRecDepth 100000 in
set_option maxHeartbeats 8000000 in
theorem c_J7_fill_53178_6 (l : Launch) (dC : Nat → ClassId) (dI : Nat → Nat → Nat) (cyI cyJ cyZ cyB cyO : ClassId) (tO : Nat) (vF : Value) (adK adV : Nat → Nat) (m_tp : Nat → Nat) (v_tp_0 : (Nat → Int32)) (q1 : Int32) (sz : Nat) (out : (Nat → Int32)) (hf : f_J7_fill_53178_6 v_tp_0 q1 = some out) : Met l yJ7_fill_53178 (Cond.code yJ7_fill_53178 cJ7_fill_53178 4 none :: wsL_law) ({ frames := 0, cells := 0, slots := 0, locals := 0 } : Room) (va_Pc [.ref (m_tp 0), .int q1] (ux_pre (dC, dI) vwCl (tyG cyI cyJ cyZ cyB cyO) [(m_tp 0, .inl (cyI, 6, .inl v_tp_0))] sz (xE tO vF adK adV))) (va_Qv (fun u : (Nat → Int32) => u = out) (ux_at (dC, dI) vwCl (tyG cyI cyJ cyZ cyB cyO) [(m_tp 0, .inl (cyI, 6, .inl v_tp_0))] sz (fun u : (Nat → Int32) => [(m_tp 0, .inl (cyI, 6, .inl u))])) (va_A [(m_tp 0, .inl (cyI, 6, .inl v_tp_0))] sz)) 0 0 (va_A [(m_tp 0, .inl (cyI, 6, .inl v_tp_0))] sz) := by
  refine ux_metv (by decide +kernel) (Nat.le_of_ble_eq_true rfl) ?_
  intro p e s m below meth c A Q ls hx hb hml hts hown hA hP hK hD hE hl hret
  have hown : s.vm.findClass RJ7 = some m.cls := hown
  have hS : va_S A s.heap s.heap [] := va_S.rf
  have hl : lv_has ls 4 [(0, .ref (m_tp 0)), (1, .int q1)] := hl
  have hb_5 : ∀ (n : Nat) (v_tp_0 : (Nat → Int32)) (x1 : Int32) (x2 : Int32) (x3 : Int32), f_J7_fill_53178_6_b5 n v_tp_0 x1 x2 x3 = some out → ∀ (H : Heap) (locs : List Loc) (ls : Array Slot), va_P (dC, dI) vwCl [(m_tp 0, .inl (cyI, 6, .inl v_tp_0))] H → va_D A [(m_tp 0, .inl (cyI, 6, .inl v_tp_0))] → va_S A s.heap H locs → lv_has ls 4 [(0, .ref (m_tp 0)), (1, .int x1), (2, .int x2), (3, .int x3)] → W p l e ({ frames := 0, cells := 0, slots := 0, locals := 0 } : Room) s m ([.ref (m_tp 0), .int q1] : List Value).toArray below meth c H locs 0 0 Q (F0 m 5 ls []) := by
    intro  n
    induction n with
    | zero =>
      intro v_tp_0 x1 x2 x3 hf
      exact no_some hf
    | succ n ih =>
      intro v_tp_0 x1 x2 x3 hf H locs ls hP hD hS hl
      have hf : f_J7_fill_53178_6_b5_st (f_J7_fill_53178_6_b5  n)  v_tp_0 x1 x2 x3 = some out := hf
      unfold f_J7_fill_53178_6_b5_st at hf
      refine lv_iload_n hx hb dJ7_fill_53178_5 rfl (lv_at hl 2 rfl) ?_
      refine lv_iload_n hx hb dJ7_fill_53178_6 rfl (lv_at hl 3 rfl) ?_
      refine lv_icmp_ge (tgt := 20) hx hb dJ7_fill_53178_7 (by decide) (fun c_1 => ?_) (fun c_1 => ?_)
      · have hf := (if_pos c_1).symm.trans hf
        exact hret _ _ _ _ v_tp_0 dJ7_fill_53178_20 (Option.some.inj hf) hP hD hS
      · have hf := (if_neg c_1).symm.trans hf
        refine lv_aload_n hx hb dJ7_fill_53178_10 rfl (lv_at hl 0 rfl) ?_
        refine lv_iload_n hx hb dJ7_fill_53178_11 rfl (lv_at hl 2 rfl) ?_
        refine lv_iload_n hx hb dJ7_fill_53178_12 rfl (lv_at hl 1 rfl) ?_
        obtain ⟨h_2, hf⟩ := ck_some hf
        obtain ⟨a_3, ea_3, hf⟩ := nm_some hf
        refine va_iast hx hb hK hP hD hS 0 0 rfl rfl (inb_in h_2) dJ7_fill_53178_13 (fun H locs hP hD hS => ?_)
        have hP : va_P (dC, dI) vwCl [(m_tp 0, .inl (cyI, 6, .inl a_3))] H := by rw [ea_3]; exact hP
        have hD : va_D A [(m_tp 0, .inl (cyI, 6, .inl a_3))] := by rw [ea_3]; exact hD
        refine lv_iinc (v := x2 + (1 : Int32)) (lv' := [(2, .int (x2 + (1 : Int32))), (0, .ref (m_tp 0)), (1, .int x1), (3, .int x3)]) hx hb dJ7_fill_53178_14 hl (k := 2) rfl rfl (by decide) rfl (fun ls hl => ?_)
        refine lv_goto (tgt := 5) hx hb dJ7_fill_53178_17 (by decide) ?_
        exact ih _ _ _ _ hf _ _ _ hP hD hS (lv_sub hl [1, 2, 0, 3] rfl)
  unfold f_J7_fill_53178_6 at hf
  refine lv_iconst (v := (0 : Int32)) hx hb dJ7_fill_53178_0 (by decide) ?_
  refine lv_istore_n (lv' := [(2, .int (0 : Int32)), (0, .ref (m_tp 0)), (1, .int q1)]) hx hb dJ7_fill_53178_1 rfl hl (by decide) rfl (fun ls hl => ?_)
  refine lv_aload_n hx hb dJ7_fill_53178_2 rfl (lv_at hl 1 rfl) ?_
  refine va_alen (v := (6 : Int32)) hx hb hK hP 0 0 rfl rfl rfl dJ7_fill_53178_3 ?_
  refine lv_istore_n (lv' := [(3, .int (6 : Int32)), (2, .int (0 : Int32)), (0, .ref (m_tp 0)), (1, .int q1)]) hx hb dJ7_fill_53178_4 rfl hl (by decide) rfl (fun ls hl => ?_)
  exact hb_5 _ _ _ _ _ hf _ _ _ hP hD hS (lv_sub hl [2, 3, 1, 0] rfl)
def f_J7_fill_53178_12_b5_st (kr : (Nat → Int32) → Int32 → Int32 → Int32 → Option ((Nat → Int32)))   (v_tp_0 : (Nat → Int32)) (x1 : Int32) (x2 : Int32) (x3 : Int32) : Option ((Nat → Int32)) := if x3 ≤ x2 then (some (v_tp_0)) else (ck (inb x2 12) (nm (upd v_tp_0 x2.toNatClampNeg x1) (fun a_3 => kr a_3 x1 (x2 + (1 : Int32)) x3)))
def f_J7_fill_53178_12_b5   : Nat → (Nat → Int32) → Int32 → Int32 → Int32 → Option ((Nat → Int32))
  | 0 => fun _ _ _ _ => none
  | n + 1 => f_J7_fill_53178_12_b5_st (f_J7_fill_53178_12_b5  n) 
def f_J7_fill_53178_12 (v_tp_0 : (Nat → Int32)) (q1 : Int32) : Option ((Nat → Int32)) := f_J7_fill_53178_12_b5 fuel v_tp_0 q1 (0 : Int32) (12 : Int32)
set_option maxRecDepth 100000 in
set_option maxHeartbeats 8000000 in
theorem c_J7_fill_53178_12 (l : Launch) (dC : Nat → ClassId) (dI : Nat → Nat → Nat) (cyI cyJ cyZ cyB cyO : ClassId) (tO : Nat) (vF : Value) (adK adV : Nat → Nat) (m_tp : Nat → Nat) (v_tp_0 : (Nat → Int32)) (q1 : Int32) (sz : Nat) (out : (Nat → Int32)) (hf : f_J7_fill_53178_12 v_tp_0 q1 = some out) : Met l yJ7_fill_53178 (Cond.code yJ7_fill_53178 cJ7_fill_53178 4 none :: wsL_law) ({ frames := 0, cells := 0, slots := 0, locals := 0 } : Room) (va_Pc [.ref (m_tp 0), .int q1] (ux_pre (dC, dI) vwCl (tyG cyI cyJ cyZ cyB cyO) [(m_tp 0, .inl (cyI, 12, .inl v_tp_0))] sz (xE tO vF adK adV))) (va_Qv (fun u : (Nat → Int32) => u = out) (ux_at (dC, dI) vwCl (tyG cyI cyJ cyZ cyB cyO) [(m_tp 0, .inl (cyI, 12, .inl v_tp_0))] sz (fun u : (Nat → Int32) => [(m_tp 0, .inl (cyI, 12, .inl u))])) (va_A [(m_tp 0, .inl (cyI, 12, .inl v_tp_0))] sz)) 0 0 (va_A [(m_tp 0, .inl (cyI, 12, .inl v_tp_0))] sz) := by
  refine ux_metv (by decide +kernel) (Nat.le_of_ble_eq_true rfl) ?_
  intro p e s m below meth c A Q ls hx hb hml hts hown hA hP hK hD hE hl hret
  have hown : s.vm.findClass RJ7 = some m.cls := hown
  have hS : va_S A s.heap s.heap [] := va_S.rf
  have hl : lv_has ls 4 [(0, .ref (m_tp 0)), (1, .int q1)] := hl
  have hb_5 : ∀ (n : Nat) (v_tp_0 : (Nat → Int32)) (x1 : Int32) (x2 : Int32) (x3 : Int32), f_J7_fill_53178_12_b5 n v_tp_0 x1 x2 x3 = some out → ∀ (H : Heap) (locs : List Loc) (ls : Array Slot), va_P (dC, dI) vwCl [(m_tp 0, .inl (cyI, 12, .inl v_tp_0))] H → va_D A [(m_tp 0, .inl (cyI, 12, .inl v_tp_0))] → va_S A s.heap H locs → lv_has ls 4 [(0, .ref (m_tp 0)), (1, .int x1), (2, .int x2), (3, .int x3)] → W p l e ({ frames := 0, cells := 0, slots := 0, locals := 0 } : Room) s m ([.ref (m_tp 0), .int q1] : List Value).toArray below meth c H locs 0 0 Q (F0 m 5 ls []) := by
    intro  n
    induction n with
    | zero =>
      intro v_tp_0 x1 x2 x3 hf
      exact no_some hf
    | succ n ih =>
      intro v_tp_0 x1 x2 x3 hf H locs ls hP hD hS hl
      have hf : f_J7_fill_53178_12_b5_st (f_J7_fill_53178_12_b5  n)  v_tp_0 x1 x2 x3 = some out := hf
      unfold f_J7_fill_53178_12_b5_st at hf
      refine lv_iload_n hx hb dJ7_fill_53178_5 rfl (lv_at hl 2 rfl) ?_
      refine lv_iload_n hx hb dJ7_fill_53178_6 rfl (lv_at hl 3 rfl) ?_
      refine lv_icmp_ge (tgt := 20) hx hb dJ7_fill_53178_7 (by decide) (fun c_1 => ?_) (fun c_1 => ?_)
      · have hf := (if_pos c_1).symm.trans hf
        exact hret _ _ _ _ v_tp_0 dJ7_fill_53178_20 (Option.some.inj hf) hP hD hS
      · have hf := (if_neg c_1).symm.trans hf
        refine lv_aload_n hx hb dJ7_fill_53178_10 rfl (lv_at hl 0 rfl) ?_
        refine lv_iload_n hx hb dJ7_fill_53178_11 rfl (lv_at hl 2 rfl) ?_
        refine lv_iload_n hx hb dJ7_fill_53178_12 rfl (lv_at hl 1 rfl) ?_
        obtain ⟨h_2, hf⟩ := ck_some hf
        obtain ⟨a_3, ea_3, hf⟩ := nm_some hf
        refine va_iast hx hb hK hP hD hS 0 0 rfl rfl (inb_in h_2) dJ7_fill_53178_13 (fun H locs hP hD hS => ?_)
        have hP : va_P (dC, dI) vwCl [(m_tp 0, .inl (cyI, 12, .inl a_3))] H := by rw [ea_3]; exact hP
        have hD : va_D A [(m_tp 0, .inl (cyI, 12, .inl a_3))] := by rw [ea_3]; exact hD
        refine lv_iinc (v := x2 + (1 : Int32)) (lv' := [(2, .int (x2 + (1 : Int32))), (0, .ref (m_tp 0)), (1, .int x1), (3, .int x3)]) hx hb dJ7_fill_53178_14 hl (k := 2) rfl rfl (by decide) rfl (fun ls hl => ?_)
        refine lv_goto (tgt := 5) hx hb dJ7_fill_53178_17 (by decide) ?_
        exact ih _ _ _ _ hf _ _ _ hP hD hS (lv_sub hl [1, 2, 0, 3] rfl)
  unfold f_J7_fill_53178_12 at hf
  refine lv_iconst (v := (0 : Int32)) hx hb dJ7_fill_53178_0 (by decide) ?_
  refine lv_istore_n (lv' := [(2, .int (0 : Int32)), (0, .ref (m_tp 0)), (1, .int q1)]) hx hb dJ7_fill_53178_1 rfl hl (by decide) rfl (fun ls hl => ?_)
  refine lv_aload_n hx hb dJ7_fill_53178_2 rfl (lv_at hl 1 rfl) ?_
  refine va_alen (v := (12 : Int32)) hx hb hK hP 0 0 rfl rfl rfl dJ7_fill_53178_3 ?_
  refine lv_istore_n (lv' := [(3, .int (12 : Int32)), (2, .int (0 : Int32)), (0, .ref (m_tp 0)), (1, .int q1)]) hx hb dJ7_fill_53178_4 rfl hl (by decide) rfl (fun ls hl => ?_)
  exact hb_5 _ _ _ _ _ hf _ _ _ hP hD hS (lv_sub hl [2, 3, 1, 0] rfl)
def f_J7_fill_53178_84_b5_st (kr : (Nat → Int32) → Int32 → Int32 → Int32 → Option ((Nat → Int32)))   (v_tp_0 : (Nat → Int32)) (x1 : Int32) (x2 : Int32) (x3 : Int32) : Option ((Nat → Int32)) := if x3 ≤ x2 then (some (v_tp_0)) else (ck (inb x2 84) (nm (upd v_tp_0 x2.toNatClampNeg x1) (fun a_3 => kr a_3 x1 (x2 + (1 : Int32)) x3)))
def f_J7_fill_53178_84_b5   : Nat → (Nat → Int32) → Int32 → Int32 → Int32 → Option ((Nat → Int32))
  | 0 => fun _ _ _ _ => none
  | n + 1 => f_J7_fill_53178_84_b5_st (f_J7_fill_53178_84_b5  n) 
def f_J7_fill_53178_84 (v_tp_0 : (Nat → Int32)) (q1 : Int32) : Option ((Nat → Int32)) := f_J7_fill_53178_84_b5 fuel v_tp_0 q1 (0 : Int32) (84 : Int32)
set_option maxRecDepth 100000 in
set_option maxHeartbeats 8000000 in
theorem c_J7_fill_53178_84 (l : Launch) (dC : Nat → ClassId) (dI : Nat → Nat → Nat) (cyI cyJ cyZ cyB cyO : ClassId) (tO : Nat) (vF : Value) (adK adV : Nat → Nat) (m_tp : Nat → Nat) (v_tp_0 : (Nat → Int32)) (q1 : Int32) (sz : Nat) (out : (Nat → Int32)) (hf : f_J7_fill_53178_84 v_tp_0 q1 = some out) : Met l yJ7_fill_53178 (Cond.code yJ7_fill_53178 cJ7_fill_53178 4 none :: wsL_law) ({ frames := 0, cells := 0, slots := 0, locals := 0 } : Room) (va_Pc [.ref (m_tp 0), .int q1] (ux_pre (dC, dI) vwCl (tyG cyI cyJ cyZ cyB cyO) [(m_tp 0, .inl (cyI, 84, .inl v_tp_0))] sz (xE tO vF adK adV))) (va_Qv (fun u : (Nat → Int32) => u = out) (ux_at (dC, dI) vwCl (tyG cyI cyJ cyZ cyB cyO) [(m_tp 0, .inl (cyI, 84, .inl v_tp_0))] sz (fun u : (Nat → Int32) => [(m_tp 0, .inl (cyI, 84, .inl u))])) (va_A [(m_tp 0, .inl (cyI, 84, .inl v_tp_0))] sz)) 0 0 (va_A [(m_tp 0, .inl (cyI, 84, .inl v_tp_0))] sz) := by
  refine ux_metv (by decide +kernel) (Nat.le_of_ble_eq_true rfl) ?_
  intro p e s m below meth c A Q ls hx hb hml hts hown hA hP hK hD hE hl hret
  have hown : s.vm.findClass RJ7 = some m.cls := hown
  have hS : va_S A s.heap s.heap [] := va_S.rf
  have hl : lv_has ls 4 [(0, .ref (m_tp 0)), (1, .int q1)] := hl
  have hb_5 : ∀ (n : Nat) (v_tp_0 : (Nat → Int32)) (x1 : Int32) (x2 : Int32) (x3 : Int32), f_J7_fill_53178_84_b5 n v_tp_0 x1 x2 x3 = some out → ∀ (H : Heap) (locs : List Loc) (ls : Array Slot), va_P (dC, dI) vwCl [(m_tp 0, .inl (cyI, 84, .inl v_tp_0))] H → va_D A [(m_tp 0, .inl (cyI, 84, .inl v_tp_0))] → va_S A s.heap H locs → lv_has ls 4 [(0, .ref (m_tp 0)), (1, .int x1), (2, .int x2), (3, .int x3)] → W p l e ({ frames := 0, cells := 0, slots := 0, locals := 0 } : Room) s m ([.ref (m_tp 0), .int q1] : List Value).toArray below meth c H locs 0 0 Q (F0 m 5 ls []) := by
    intro  n
    induction n with
    | zero =>
      intro v_tp_0 x1 x2 x3 hf
      exact no_some hf
    | succ n ih =>
      intro v_tp_0 x1 x2 x3 hf H locs ls hP hD hS hl
      have hf : f_J7_fill_53178_84_b5_st (f_J7_fill_53178_84_b5  n)  v_tp_0 x1 x2 x3 = some out := hf
      unfold f_J7_fill_53178_84_b5_st at hf
      refine lv_iload_n hx hb dJ7_fill_53178_5 rfl (lv_at hl 2 rfl) ?_
      refine lv_iload_n hx hb dJ7_fill_53178_6 rfl (lv_at hl 3 rfl) ?_
      refine lv_icmp_ge (tgt := 20) hx hb dJ7_fill_53178_7 (by decide) (fun c_1 => ?_) (fun c_1 => ?_)
      · have hf := (if_pos c_1).symm.trans hf
        exact hret _ _ _ _ v_tp_0 dJ7_fill_53178_20 (Option.some.inj hf) hP hD hS
      · have hf := (if_neg c_1).symm.trans hf
        refine lv_aload_n hx hb dJ7_fill_53178_10 rfl (lv_at hl 0 rfl) ?_
        refine lv_iload_n hx hb dJ7_fill_53178_11 rfl (lv_at hl 2 rfl) ?_
        refine lv_iload_n hx hb dJ7_fill_53178_12 rfl (lv_at hl 1 rfl) ?_
        obtain ⟨h_2, hf⟩ := ck_some hf
        obtain ⟨a_3, ea_3, hf⟩ := nm_some hf
        refine va_iast hx hb hK hP hD hS 0 0 rfl rfl (inb_in h_2) dJ7_fill_53178_13 (fun H locs hP hD hS => ?_)
        have hP : va_P (dC, dI) vwCl [(m_tp 0, .inl (cyI, 84, .inl a_3))] H := by rw [ea_3]; exact hP
        have hD : va_D A [(m_tp 0, .inl (cyI, 84, .inl a_3))] := by rw [ea_3]; exact hD
        refine lv_iinc (v := x2 + (1 : Int32)) (lv' := [(2, .int (x2 + (1 : Int32))), (0, .ref (m_tp 0)), (1, .int x1), (3, .int x3)]) hx hb dJ7_fill_53178_14 hl (k := 2) rfl rfl (by decide) rfl (fun ls hl => ?_)
        refine lv_goto (tgt := 5) hx hb dJ7_fill_53178_17 (by decide) ?_
        exact ih _ _ _ _ hf _ _ _ hP hD hS (lv_sub hl [1, 2, 0, 3] rfl)
  unfold f_J7_fill_53178_84 at hf
  refine lv_iconst (v := (0 : Int32)) hx hb dJ7_fill_53178_0 (by decide) ?_
  refine lv_istore_n (lv' := [(2, .int (0 : Int32)), (0, .ref (m_tp 0)), (1, .int q1)]) hx hb dJ7_fill_53178_1 rfl hl (by decide) rfl (fun ls hl => ?_)
  refine lv_aload_n hx hb dJ7_fill_53178_2 rfl (lv_at hl 1 rfl) ?_
  refine va_alen (v := (84 : Int32)) hx hb hK hP 0 0 rfl rfl rfl dJ7_fill_53178_3 ?_
  refine lv_istore_n (lv' := [(3, .int (84 : Int32)), (2, .int (0 : Int32)), (0, .ref (m_tp 0)), (1, .int q1)]) hx hb dJ7_fill_53178_4 rfl hl (by decide) rfl (fun ls hl => ?_)
  exact hb_5 _ _ _ _ _ hf _ _ _ hP hD hS (lv_sub hl [2, 3, 1, 0] rfl)
def f_J7_fill_d0a16_12_b6_st (kr : (Nat → Int64) → Int64 → Int32 → Int32 → Option ((Nat → Int64)))   (v_tp_0 : (Nat → Int64)) (x1 : Int64) (x3 : Int32) (x4 : Int32) : Option ((Nat → Int64)) := if x4 ≤ x3 then (some (v_tp_0)) else (ck (inb x3 12) (nm (vp_updL v_tp_0 x3.toNatClampNeg x1) (fun a_3 => kr a_3 x1 (x3 + (1 : Int32)) x4)))
def f_J7_fill_d0a16_12_b6   : Nat → (Nat → Int64) → Int64 → Int32 → Int32 → Option ((Nat → Int64))
  | 0 => fun _ _ _ _ => none
  | n + 1 => f_J7_fill_d0a16_12_b6_st (f_J7_fill_d0a16_12_b6  n) 
def f_J7_fill_d0a16_12 (v_tp_0 : (Nat → Int64)) (q1 : Int64) : Option ((Nat → Int64)) := f_J7_fill_d0a16_12_b6 fuel v_tp_0 q1 (0 : Int32) (12 : Int32)
set_option maxRecDepth 100000 in
set_option maxHeartbeats 8000000 in
theorem c_J7_fill_d0a16_12 (l : Launch) (dC : Nat → ClassId) (dI : Nat → Nat → Nat) (cyI cyJ cyZ cyB cyO : ClassId) (tO : Nat) (vF : Value) (adK adV : Nat → Nat) (m_tp : Nat → Nat) (v_tp_0 : (Nat → Int64)) (q1 : Int64) (sz : Nat) (out : (Nat → Int64)) (hf : f_J7_fill_d0a16_12 v_tp_0 q1 = some out) : Met l yJ7_fill_d0a16 (Cond.code yJ7_fill_d0a16 cJ7_fill_d0a16 5 none :: wsL_law) ({ frames := 0, cells := 0, slots := 0, locals := 0 } : Room) (va_Pc [.ref (m_tp 0), .long q1] (ux_pre (dC, dI) vwCl (tyG cyI cyJ cyZ cyB cyO) [(m_tp 0, .inl (cyJ, 12, .inr (.inl v_tp_0)))] sz (xE tO vF adK adV))) (va_Qv (fun u : (Nat → Int64) => u = out) (ux_at (dC, dI) vwCl (tyG cyI cyJ cyZ cyB cyO) [(m_tp 0, .inl (cyJ, 12, .inr (.inl v_tp_0)))] sz (fun u : (Nat → Int64) => [(m_tp 0, .inl (cyJ, 12, .inr (.inl u)))])) (va_A [(m_tp 0, .inl (cyJ, 12, .inr (.inl v_tp_0)))] sz)) 0 0 (va_A [(m_tp 0, .inl (cyJ, 12, .inr (.inl v_tp_0)))] sz) := by
  refine ux_metv (by decide +kernel) (Nat.le_of_ble_eq_true rfl) ?_
  intro p e s m below meth c A Q ls hx hb hml hts hown hA hP hK hD hE hl hret
  have hown : s.vm.findClass RJ7 = some m.cls := hown
  have hS : va_S A s.heap s.heap [] := va_S.rf
  have hl : lv_has ls 5 [(0, .ref (m_tp 0)), (1, .long q1)] := hl
  have hb_6 : ∀ (n : Nat) (v_tp_0 : (Nat → Int64)) (x1 : Int64) (x3 : Int32) (x4 : Int32), f_J7_fill_d0a16_12_b6 n v_tp_0 x1 x3 x4 = some out → ∀ (H : Heap) (locs : List Loc) (ls : Array Slot), va_P (dC, dI) vwCl [(m_tp 0, .inl (cyJ, 12, .inr (.inl v_tp_0)))] H → va_D A [(m_tp 0, .inl (cyJ, 12, .inr (.inl v_tp_0)))] → va_S A s.heap H locs → lv_has ls 5 [(0, .ref (m_tp 0)), (1, .long x1), (3, .int x3), (4, .int x4)] → W p l e ({ frames := 0, cells := 0, slots := 0, locals := 0 } : Room) s m ([.ref (m_tp 0), .long q1] : List Value).toArray below meth c H locs 0 0 Q (F0 m 6 ls []) := by
    intro  n
    induction n with
    | zero =>
      intro v_tp_0 x1 x3 x4 hf
      exact no_some hf
    | succ n ih =>
      intro v_tp_0 x1 x3 x4 hf H locs ls hP hD hS hl
      have hf : f_J7_fill_d0a16_12_b6_st (f_J7_fill_d0a16_12_b6  n)  v_tp_0 x1 x3 x4 = some out := hf
      unfold f_J7_fill_d0a16_12_b6_st at hf
      refine lv_iload_n hx hb dJ7_fill_d0a16_6 rfl (lv_at hl 2 rfl) ?_
      refine lv_iload hx hb dJ7_fill_d0a16_7 (lv_at hl 3 rfl) ?_
      refine lv_icmp_ge (tgt := 22) hx hb dJ7_fill_d0a16_9 (by decide) (fun c_1 => ?_) (fun c_1 => ?_)
      · have hf := (if_pos c_1).symm.trans hf
        exact hret _ _ _ _ v_tp_0 dJ7_fill_d0a16_22 (Option.some.inj hf) hP hD hS
      · have hf := (if_neg c_1).symm.trans hf
        refine lv_aload_n hx hb dJ7_fill_d0a16_12 rfl (lv_at hl 0 rfl) ?_
        refine lv_iload_n hx hb dJ7_fill_d0a16_13 rfl (lv_at hl 2 rfl) ?_
        refine lv_lload_n hx hb dJ7_fill_d0a16_14 rfl (lv_at hl 1 rfl) ?_
        obtain ⟨h_2, hf⟩ := ck_some hf
        obtain ⟨a_3, ea_3, hf⟩ := nm_some hf
        refine va_last hx hb hK hP hD hS 0 1 rfl rfl (inb_in h_2) dJ7_fill_d0a16_15 (fun H locs hP hD hS => ?_)
        have hP : va_P (dC, dI) vwCl [(m_tp 0, .inl (cyJ, 12, .inr (.inl a_3)))] H := by rw [ea_3]; exact hP
        have hD : va_D A [(m_tp 0, .inl (cyJ, 12, .inr (.inl a_3)))] := by rw [ea_3]; exact hD
        refine lv_iinc (v := x3 + (1 : Int32)) (lv' := [(3, .int (x3 + (1 : Int32))), (0, .ref (m_tp 0)), (1, .long x1), (4, .int x4)]) hx hb dJ7_fill_d0a16_16 hl (k := 2) rfl rfl (by decide) rfl (fun ls hl => ?_)
        refine lv_goto (tgt := 6) hx hb dJ7_fill_d0a16_19 (by decide) ?_
        exact ih _ _ _ _ hf _ _ _ hP hD hS (lv_sub hl [1, 2, 0, 3] rfl)
  unfold f_J7_fill_d0a16_12 at hf
  refine lv_iconst (v := (0 : Int32)) hx hb dJ7_fill_d0a16_0 (by decide) ?_
  refine lv_istore_n (lv' := [(3, .int (0 : Int32)), (0, .ref (m_tp 0)), (1, .long q1)]) hx hb dJ7_fill_d0a16_1 rfl hl (by decide) rfl (fun ls hl => ?_)
  refine lv_aload_n hx hb dJ7_fill_d0a16_2 rfl (lv_at hl 1 rfl) ?_
  refine va_alen (v := (12 : Int32)) hx hb hK hP 0 1 rfl rfl rfl dJ7_fill_d0a16_3 ?_
  refine lv_istore (lv' := [(4, .int (12 : Int32)), (3, .int (0 : Int32)), (0, .ref (m_tp 0)), (1, .long q1)]) hx hb dJ7_fill_d0a16_4 hl (by decide) rfl (fun ls hl => ?_)
  exact hb_6 _ _ _ _ _ hf _ _ _ hP hD hS (lv_sub hl [2, 3, 1, 0] rfl)
def f_J9_floorMod_7cf53 (q0 : Int32) (q1 : Int32) : Option (Int32) := ck (nz q1) (if (0 : Int32) ≤ (q0 ^^^ q1) then (some ((q0 - q0 / q1 * q1))) else (if (q0 - q0 / q1 * q1) = (0 : Int32) then (some ((q0 - q0 / q1 * q1))) else (some (((q0 - q0 / q1 * q1) + q1)))))
set_option maxRecDepth 100000 in
set_option maxHeartbeats 8000000 in
theorem c_J9_floorMod_7cf53 (l : Launch) (dC : Nat → ClassId) (dI : Nat → Nat → Nat) (cyI cyJ cyZ cyB cyO : ClassId) (tO : Nat) (vF : Value) (adK adV : Nat → Nat)   (q0 : Int32) (q1 : Int32) (sz : Nat) (out : Int32) (hf : f_J9_floorMod_7cf53 q0 q1 = some out) : Met l yJ9_floorMod_7cf53 (Cond.code yJ9_floorMod_7cf53 cJ9_floorMod_7cf53 3 (some .int) :: wsL_law) ({ frames := 0, cells := 0, slots := 0, locals := 0 } : Room) (va_Pc [.int q0, .int q1] (ux_pre (dC, dI) vwCl (tyG cyI cyJ cyZ cyB cyO) [] sz (xE tO vF adK adV))) (va_Qi (fun (r : Int32) (_ : Unit) => r = out) (ux_at (dC, dI) vwCl (tyG cyI cyJ cyZ cyB cyO) [] sz (fun u : Unit => [])) (va_A [] sz)) 0 0 (va_A [] sz) := by
  refine ux_meti0 (by decide +kernel) (Nat.le_of_ble_eq_true rfl) ?_
  intro p e s m below meth c A Q ls hx hb hml hts hown hA hP hK hD hE hl hret
  have hown : s.vm.findClass RJ9 = some m.cls := hown
  have hS : va_S A s.heap s.heap [] := va_S.rf
  have hl : lv_has ls 3 [(0, .int q0), (1, .int q1)] := hl
  unfold f_J9_floorMod_7cf53 at hf
  refine lv_iload_n hx hb dJ9_floorMod_7cf53_0 rfl (lv_at hl 0 rfl) ?_
  refine lv_iload_n hx hb dJ9_floorMod_7cf53_1 rfl (lv_at hl 1 rfl) ?_
  obtain ⟨h_1, hf⟩ := ck_some hf
  refine lv_irem hx hb dJ9_floorMod_7cf53_2 (nz_ne h_1) ?_
  refine lv_istore_n (lv' := [(2, .int (q0 - q0 / q1 * q1)), (0, .int q0), (1, .int q1)]) hx hb dJ9_floorMod_7cf53_3 rfl hl (by decide) rfl (fun ls hl => ?_)
  refine lv_iload_n hx hb dJ9_floorMod_7cf53_4 rfl (lv_at hl 1 rfl) ?_
  refine lv_iload_n hx hb dJ9_floorMod_7cf53_5 rfl (lv_at hl 2 rfl) ?_
  refine lv_ixor hx hb dJ9_floorMod_7cf53_6 ?_
  refine lv_if_ge (tgt := 18) hx hb dJ9_floorMod_7cf53_7 (by decide) (fun c_2 => ?_) (fun c_2 => ?_)
  · have hf := (if_pos c_2).symm.trans hf
    refine lv_iload_n hx hb dJ9_floorMod_7cf53_18 rfl (lv_at hl 0 rfl) ?_
    exact hret _ _ _ _ (q0 - q0 / q1 * q1) dJ9_floorMod_7cf53_19 (Option.some.inj hf) hP hD hS
  · have hf := (if_neg c_2).symm.trans hf
    refine lv_iload_n hx hb dJ9_floorMod_7cf53_10 rfl (lv_at hl 0 rfl) ?_
    refine lv_if_eq (tgt := 18) hx hb dJ9_floorMod_7cf53_11 (by decide) (fun c_3 => ?_) (fun c_3 => ?_)
    · have hf := (if_pos c_3).symm.trans hf
      refine lv_iload_n hx hb dJ9_floorMod_7cf53_18 rfl (lv_at hl 0 rfl) ?_
      exact hret _ _ _ _ (q0 - q0 / q1 * q1) dJ9_floorMod_7cf53_19 (Option.some.inj hf) hP hD hS
    · have hf := (if_neg c_3).symm.trans hf
      refine lv_iload_n hx hb dJ9_floorMod_7cf53_14 rfl (lv_at hl 0 rfl) ?_
      refine lv_iload_n hx hb dJ9_floorMod_7cf53_15 rfl (lv_at hl 2 rfl) ?_
      refine lv_iadd hx hb dJ9_floorMod_7cf53_16 ?_
      exact hret _ _ _ _ ((q0 - q0 / q1 * q1) + q1) dJ9_floorMod_7cf53_17 (Option.some.inj hf) hP hD hS
def f_J6_bitCount_0f7a4 (q0 : Int32) : Option (Int32) := nm ((q0 - (((q0.toUInt32 >>> ((1 : Int32).toUInt32 &&& Int32.toUInt32 31)).toInt32) &&& (1431655765 : Int32)))) (fun e_1 => nm (((e_1 &&& (858993459 : Int32)) + (((e_1.toUInt32 >>> ((2 : Int32).toUInt32 &&& Int32.toUInt32 31)).toInt32) &&& (858993459 : Int32)))) (fun e_2 => nm (((e_2 + ((e_2.toUInt32 >>> ((4 : Int32).toUInt32 &&& Int32.toUInt32 31)).toInt32)) &&& (252645135 : Int32))) (fun e_3 => nm ((e_3 + ((e_3.toUInt32 >>> ((8 : Int32).toUInt32 &&& Int32.toUInt32 31)).toInt32))) (fun e_4 => nm ((e_4 + ((e_4.toUInt32 >>> ((16 : Int32).toUInt32 &&& Int32.toUInt32 31)).toInt32))) (fun e_5 => some ((e_5 &&& (63 : Int32))))))))
set_option maxRecDepth 100000 in
set_option maxHeartbeats 8000000 in
theorem c_J6_bitCount_0f7a4 (l : Launch) (dC : Nat → ClassId) (dI : Nat → Nat → Nat) (cyI cyJ cyZ cyB cyO : ClassId) (tO : Nat) (vF : Value) (adK adV : Nat → Nat)   (q0 : Int32) (sz : Nat) (out : Int32) (hf : f_J6_bitCount_0f7a4 q0 = some out) : Met l yJ6_bitCount_0f7a4 (Cond.code yJ6_bitCount_0f7a4 cJ6_bitCount_0f7a4 1 (some .int) :: wsL_law) ({ frames := 0, cells := 0, slots := 0, locals := 0 } : Room) (va_Pc [.int q0] (ux_pre (dC, dI) vwCl (tyG cyI cyJ cyZ cyB cyO) [] sz (xE tO vF adK adV))) (va_Qi (fun (r : Int32) (_ : Unit) => r = out) (ux_at (dC, dI) vwCl (tyG cyI cyJ cyZ cyB cyO) [] sz (fun u : Unit => [])) (va_A [] sz)) 0 0 (va_A [] sz) := by
  refine ux_meti0 (by decide +kernel) (Nat.le_of_ble_eq_true rfl) ?_
  intro p e s m below meth c A Q ls hx hb hml hts hown hA hP hK hD hE hl hret
  have hown : s.vm.findClass RJ6 = some m.cls := hown
  have hS : va_S A s.heap s.heap [] := va_S.rf
  have hl : lv_has ls 1 [(0, .int q0)] := hl
  unfold f_J6_bitCount_0f7a4 at hf
  refine lv_iload_n hx hb dJ6_bitCount_0f7a4_0 rfl (lv_at hl 0 rfl) ?_
  refine lv_iload_n hx hb dJ6_bitCount_0f7a4_1 rfl (lv_at hl 0 rfl) ?_
  refine lv_iconst (v := (1 : Int32)) hx hb dJ6_bitCount_0f7a4_2 (by decide) ?_
  refine lv_iushr hx hb dJ6_bitCount_0f7a4_3 rfl ?_
  refine lv_ldcw (v := (1431655765 : Int32)) hx hb hown (hts _ (List.mem_cons_of_mem _ wm_47_17)) dJ6_bitCount_0f7a4_4 ?_
  refine lv_iand hx hb dJ6_bitCount_0f7a4_7 ?_
  refine lv_isub hx hb dJ6_bitCount_0f7a4_8 ?_
  obtain ⟨e_1, ee_1, hf⟩ := nm_some hf
  rw [← ee_1]
  refine lv_istore_n (lv' := [(0, .int e_1)]) hx hb dJ6_bitCount_0f7a4_9 rfl hl (by decide) rfl (fun ls hl => ?_)
  refine lv_iload_n hx hb dJ6_bitCount_0f7a4_10 rfl (lv_at hl 0 rfl) ?_
  refine lv_ldcw (v := (858993459 : Int32)) hx hb hown (hts _ (List.mem_cons_of_mem _ wm_47_18)) dJ6_bitCount_0f7a4_11 ?_
  refine lv_iand hx hb dJ6_bitCount_0f7a4_14 ?_
  refine lv_iload_n hx hb dJ6_bitCount_0f7a4_15 rfl (lv_at hl 0 rfl) ?_
  refine lv_iconst (v := (2 : Int32)) hx hb dJ6_bitCount_0f7a4_16 (by decide) ?_
  refine lv_iushr hx hb dJ6_bitCount_0f7a4_17 rfl ?_
  refine lv_ldcw (v := (858993459 : Int32)) hx hb hown (hts _ (List.mem_cons_of_mem _ wm_47_18)) dJ6_bitCount_0f7a4_18 ?_
  refine lv_iand hx hb dJ6_bitCount_0f7a4_21 ?_
  refine lv_iadd hx hb dJ6_bitCount_0f7a4_22 ?_
  obtain ⟨e_2, ee_2, hf⟩ := nm_some hf
  rw [← ee_2]
  refine lv_istore_n (lv' := [(0, .int e_2)]) hx hb dJ6_bitCount_0f7a4_23 rfl hl (by decide) rfl (fun ls hl => ?_)
  refine lv_iload_n hx hb dJ6_bitCount_0f7a4_24 rfl (lv_at hl 0 rfl) ?_
  refine lv_iload_n hx hb dJ6_bitCount_0f7a4_25 rfl (lv_at hl 0 rfl) ?_
  refine lv_iconst (v := (4 : Int32)) hx hb dJ6_bitCount_0f7a4_26 (by decide) ?_
  refine lv_iushr hx hb dJ6_bitCount_0f7a4_27 rfl ?_
  refine lv_iadd hx hb dJ6_bitCount_0f7a4_28 ?_
  refine lv_ldcw (v := (252645135 : Int32)) hx hb hown (hts _ (List.mem_cons_of_mem _ wm_47_19)) dJ6_bitCount_0f7a4_29 ?_
  refine lv_iand hx hb dJ6_bitCount_0f7a4_32 ?_
  obtain ⟨e_3, ee_3, hf⟩ := nm_some hf
  rw [← ee_3]
  refine lv_istore_n (lv' := [(0, .int e_3)]) hx hb dJ6_bitCount_0f7a4_33 rfl hl (by decide) rfl (fun ls hl => ?_)
  refine lv_iload_n hx hb dJ6_bitCount_0f7a4_34 rfl (lv_at hl 0 rfl) ?_
  refine lv_iload_n hx hb dJ6_bitCount_0f7a4_35 rfl (lv_at hl 0 rfl) ?_
  refine lv_bipush (v := (8 : Int32)) hx hb dJ6_bitCount_0f7a4_36 (by decide) ?_
  refine lv_iushr hx hb dJ6_bitCount_0f7a4_38 rfl ?_
  refine lv_iadd hx hb dJ6_bitCount_0f7a4_39 ?_
  obtain ⟨e_4, ee_4, hf⟩ := nm_some hf
  rw [← ee_4]
  refine lv_istore_n (lv' := [(0, .int e_4)]) hx hb dJ6_bitCount_0f7a4_40 rfl hl (by decide) rfl (fun ls hl => ?_)
  refine lv_iload_n hx hb dJ6_bitCount_0f7a4_41 rfl (lv_at hl 0 rfl) ?_
  refine lv_iload_n hx hb dJ6_bitCount_0f7a4_42 rfl (lv_at hl 0 rfl) ?_
  refine lv_bipush (v := (16 : Int32)) hx hb dJ6_bitCount_0f7a4_43 (by decide) ?_
  refine lv_iushr hx hb dJ6_bitCount_0f7a4_45 rfl ?_
  refine lv_iadd hx hb dJ6_bitCount_0f7a4_46 ?_
  obtain ⟨e_5, ee_5, hf⟩ := nm_some hf
  rw [← ee_5]
  refine lv_istore_n (lv' := [(0, .int e_5)]) hx hb dJ6_bitCount_0f7a4_47 rfl hl (by decide) rfl (fun ls hl => ?_)
  refine lv_iload_n hx hb dJ6_bitCount_0f7a4_48 rfl (lv_at hl 0 rfl) ?_
  refine lv_bipush (v := (63 : Int32)) hx hb dJ6_bitCount_0f7a4_49 (by decide) ?_
  refine lv_iand hx hb dJ6_bitCount_0f7a4_51 ?_
  exact hret _ _ _ _ (e_5 &&& (63 : Int32)) dJ6_bitCount_0f7a4_52 (Option.some.inj hf) hP hD hS
