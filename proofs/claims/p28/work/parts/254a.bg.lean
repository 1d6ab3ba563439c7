
def f_X2_makeBegins_BS  : Option (Unit) := some ()
set_option maxRecDepth 100000 in
set_option maxHeartbeats 8000000 in
theorem c_X2_makeBegins_BS (l : Launch) (dC : Nat → ClassId) (dI : Nat → Nat → Nat) (cyI cyJ cyZ cyB cyO : ClassId) (tO : Nat) (vF : Value) (adK adV : Nat → Nat) (h_e : Nat) (m_e : Nat → Nat) (h_g : Nat) (m_g : Nat → Nat) (h_p : Nat) (m_p : Nat → Nat) (h_c : Nat) (m_c : Nat → Nat) (h_d : Nat) (m_d : Nat → Nat) (hB : Nat → Nat) (mB : Nat → Nat → Nat) (m_bg : Nat → Nat) (v_e_told : Int32) (v_e_fitting : Int32) (v_e_firstPair : Int32) (v_e_pairLevels : Value)  (sz : Nat) (out : Unit) (hf : f_X2_makeBegins_BS  = some out) : Met l yX2_makeBegins (Cond.code yX2_makeBegins cX2_makeBegins 2 none :: wsL_law) ({ frames := 0, cells := 0, slots := 0, locals := 0 } : Room) (va_Pc [.ref h_e] (ux_pre (dC, dI) vwCl (tyG cyI cyJ cyZ cyB cyO) [(h_e, .inr (2, oX2 m_e v_e_told v_e_fitting v_e_firstPair h_g h_p h_c h_d v_e_pairLevels (.ref (m_bg 0))))] sz (xE tO vF adK adV))) (va_Qv (fun u : Unit => u = out) (ux_at (dC, dI) vwCl (tyG cyI cyJ cyZ cyB cyO) [(h_e, .inr (2, oX2 m_e v_e_told v_e_fitting v_e_firstPair h_g h_p h_c h_d v_e_pairLevels (.ref (m_bg 0))))] sz (fun u : Unit => [(h_e, .inr (2, oX2 m_e v_e_told v_e_fitting v_e_firstPair h_g h_p h_c h_d v_e_pairLevels (.ref (m_bg 0))))])) (va_A [(h_e, .inr (2, oX2 m_e v_e_told v_e_fitting v_e_firstPair h_g h_p h_c h_d v_e_pairLevels (.ref (m_bg 0))))] sz)) 0 0 (va_A [(h_e, .inr (2, oX2 m_e v_e_told v_e_fitting v_e_firstPair h_g h_p h_c h_d v_e_pairLevels (.ref (m_bg 0))))] sz) := by
  refine ux_metv0 (by decide +kernel) (Nat.le_of_ble_eq_true rfl) ?_
  intro p e s m below meth c A Q ls hx hb hml hts hown hA hP hK hD hE hl hret
  have hown : s.vm.findClass RX2 = some m.cls := hown
  have hS : va_S A s.heap s.heap [] := va_S.rf
  have hl : lv_has ls 2 [(0, .ref h_e)] := hl
  unfold f_X2_makeBegins_BS at hf
  refine lv_aload_n hx hb dX2_makeBegins_0 rfl (lv_at hl 0 rfl) ?_
  refine va_get (D := (dC, dI)) (ci := 2) (v := .ref (m_bg 0)) (C := RX2) (T := TX2) (N := 13) hx hb hts (g_c inlX2) hown hK hP 0 rfl rfl 11 (by decide) (hts _ (List.mem_cons_of_mem _ wm_6_17)) (fun _ h9 => h9) rfl dX2_makeBegins_1 ?_
  refine lv_ifnonnull (tgt := 43) hx hb dX2_makeBegins_4 (by decide) ?_
  exact hret _ _ _ _ () dX2_makeBegins_43 (Option.some.inj hf) hP hD hS
