section
variable {p : Program} {l : Launch} {e : Env} {s : State} {m : MethodId} {below : List Frame} {meth : Method} {c : Code} {b : Nat} {xs : Nat → Int32} {dC : Nat → ClassId} {dI : Nat → Nat → Nat} {cyI cyJ cyZ cyB cyO : ClassId} {tO : Nat} {vF : Value} {adK adV : Nat → Nat} {h_w : Nat} {m_w : Nat → Nat} {h_r : Nat} {m_r : Nat → Nat} {h_rg : Nat} {m_rg : Nat → Nat} {h_g : Nat} {m_g : Nat → Nat} {h_p : Nat} {m_p : Nat → Nat} {h_c : Nat} {m_c : Nat → Nat} {h_n : Nat} {m_n : Nat → Nat} {h_d : Nat} {m_d : Nat → Nat} {h_e : Nat} {m_e : Nat → Nat} {h_ep : Nat} {m_ep : Nat → Nat} {h_ed : Nat} {m_ed : Nat → Nat} {h_ec : Nat} {m_ec : Nat → Nat} {h_s0 : Nat} {m_s0 : Nat → Nat} {h_s1 : Nat} {m_s1 : Nat → Nat} {h_s2 : Nat} {m_s2 : Nat → Nat} {h_m : Nat} {m_m : Nat → Nat} {H : Heap} {locs : List Loc} {ls : Array Slot}
theorem p1_exit (hx : p.tables.exec = Jvm.exec) (hb : c.code = cL_law) (hr : meth.sig.returnType = ret) (hlocks : meth.locks = false) (hS : va_S (fun q : Nat => s.heap.size ≤ q) s.heap H locs) : W p l e room_1 s m #[Value.ref b] below meth c H locs 1000 100000 (lw_Z below #[Value.ref b] s) (F0 m 1352 ls []) := by
  refine lv_iconst (v := (1 : Int32)) hx hb dL_law_1352 (by decide) ?_
  refine va_forget (fun q hq => hS.2.2 q hq) ?_
  refine W.widen (k := 600000) (n := 7302250) (by decide) (by decide) ?_
  exact lw_ret hx hb hr hlocks dL_law_1353
theorem p1_end (hx : p.tables.exec = Jvm.exec) (hb : c.code = cL_law) (hr : meth.sig.returnType = ret) (hlocks : meth.locks = false) (hX : va_X b 6 xs s s.heap) (hbl : b < s.heap.size) (hS : va_S (fun q : Nat => s.heap.size ≤ q) s.heap H locs) (hl : lv_has ls 4 [(3, .int (0 : Int32)), (2, .ref h_m), (1, .ref h_w), (0, .ref b)]) : W p l e room_1 s m #[Value.ref b] below meth c H locs 1000 100000 (lw_Z below #[Value.ref b] s) (F0 m 1346 ls []) := by
  have hbA : ¬ (fun q : Nat => s.heap.size ≤ q) b := Nat.not_le.mpr hbl
  refine lv_iinc (v := (0 : Int32) + (6 : Int32)) (lv' := [(3, .int ((0 : Int32) + (6 : Int32))), (2, .ref h_m), (1, .ref h_w), (0, .ref b)]) hx hb dL_law_1346 hl (k := 0) rfl rfl (by decide) rfl (fun ls hl => ?_)
  refine lv_goto (tgt := 18) hx hb dL_law_1349 (by decide) ?_
  refine lv_iload_n hx hb dL_law_18 rfl (lv_at hl 0 rfl) ?_
  refine lv_aload_n hx hb dL_law_19 rfl (lv_at hl 3 rfl) ?_
  refine va_slen hx hb hX hbl hbA hS dL_law_20 ?_
  refine lv_bipush (v := (6 : Int32)) hx hb dL_law_21 (by decide) ?_
  refine lv_isub hx hb dL_law_23 ?_
  refine lv_icmp_gt (tgt := 1352) hx hb dL_law_24 (by decide) (fun _ => ?_) (fun c_ => absurd (by decide) c_)
  exact p1_exit hx hb hr hlocks hS
end
theorem p1_len : ∀ k, k ≤ 6 → ¬ (Int32.ofNat k - 6 < 0) → k = 6 := by decide
set_option maxRecDepth 100000 in
set_option maxHeartbeats 8000000 in
theorem p1_start {p : Program} {e : Env} {s : State} {m : MethodId} {below : List Frame} {meth : Method} {c : Code} (l : Launch) {b L : Nat} {xs : Nat → Int32} (hL : L ≤ 6) (C0 : lw_At p s m meth c b L xs) : W p l e room_1 s m #[Value.ref b] below meth c s.heap [] 0 0 (lw_Z below #[Value.ref b] s) (entryFrame m ([Value.ref b] : List Value).toArray 4) := by
  obtain ⟨hx, hb, hr, hml, hown, hts0, hX, hbl, hlocks, hgv⟩ := id C0
  have hb : c.code = cL_law := hb
  have hown : s.vm.findClass RL = some m.cls := hown
  obtain ⟨dC, dI, cyI, cyJ, cyZ, cyB, cyO, hK⟩ := st_K hts0
  obtain ⟨tO, vF, adK, adV, hE⟩ := st_E hts0 hgv (A := fun q : Nat => s.heap.size ≤ q) (fun a h => Nat.not_le.mpr h)
  have hts : ∀ w ∈ (Cond.classLink RL 7 RX6 :: wsL_law), w.before #[Value.ref b] s = true := fun w h => (List.mem_cons.mp h).elim (fun q => by rw [q]; exact hts0 _ wl_1_0) (fun q => hts0 w (wsL_law_in w q))
  have hA : ∀ q : Nat, s.heap.size ≤ q → (fun q : Nat => s.heap.size ≤ q) q := fun _ h => h
  have hbA : ¬ (fun q : Nat => s.heap.size ≤ q) b := Nat.not_le.mpr hbl
  have hS : va_S (fun q : Nat => s.heap.size ≤ q) s.heap s.heap [] := va_S.rf
  have hP : va_P (dC, dI) vwCl [] s.heap := fun k q h => by simp at h
  have hD : va_D (fun q : Nat => s.heap.size ≤ q) [] := ⟨fun i j p q h => by simp at h, fun k q h => by simp at h⟩
  have hl := lv_entry ([.ref b]) (n := 4) (Nat.le_of_ble_eq_true rfl)
  rw [lg_entry_eq]
  generalize (lg_sl ([.ref b]) ++ List.replicate (4 - (lg_sl ([.ref b])).length) Slot.unset).toArray = ls at hl ⊢
  have hl : lv_has ls 4 [(0, .ref b)] := hl
  refine va_new (ci := 6) (fs := [.null, .int 0, .int 0, .null, .null, .null, .null, .null, .null, .null, .null, .null]) (C := RX6) (T := TX6) (N := 12) hx hb hts (g_c inlX6) tyX6 tyX6_ok hown (hts _ (List.mem_cons_of_mem _ wm_1_0)) (hts _ (List.mem_cons_of_mem _ wm_1_1)) (hts _ (List.mem_cons_of_mem _ wm_1_2)) hK hP hD hS hA rfl (fun j hj => by rcases (show j = 0 ∨ j = 1 ∨ j = 2 ∨ j = 3 ∨ j = 4 ∨ j = 5 ∨ j = 6 ∨ j = 7 ∨ j = 8 ∨ j = 9 ∨ j = 10 ∨ j = 11 by omega) with rfl | rfl | rfl | rfl | rfl | rfl | rfl | rfl | rfl | rfl | rfl | rfl <;> rfl) (Nat.le_of_ble_eq_true rfl) (Nat.le_of_ble_eq_true rfl) dL_law_0 (fun h_w H hP hD hS => ?_)
  have hP : va_P (dC, dI) vwCl [(h_w, .inr (6, [.null, .int 0, .int 0, .null, .null, .null, .null, .null, .null, .null, .null, .null]))] H := hP
  have hD : va_D (fun q : Nat => s.heap.size ≤ q) [(h_w, .inr (6, [.null, .int 0, .int 0, .null, .null, .null, .null, .null, .null, .null, .null, .null]))] := hD
  refine lv_dup hx hb dL_law_3 rfl ?_
  refine ux_I (n := 0) (As := []) (rest := [.ref h_w]) (wc := [(h_w, .inr (6, [.null, .int 0, .int 0, .null, .null, .null, .null, .null, .null, .null, .null, .null]))]) (wr := []) ⟨hx, hb, hml, hown, hts⟩ hK hP hD hS hA hE [0] [] rfl rfl (by decide +kernel) (by decide +kernel) (by decide +kernel) (c_X6_init l dC dI cyI cyJ cyZ cyB cyO tO vF adK adV h_w _ _ e6) wm_1_6 wm_1_7 wm_1_2 wm_1_8 ⟨rfl, rfl⟩ rfl (by decide +kernel) rfl ⟨Nat.le_of_ble_eq_true rfl, Nat.le_of_ble_eq_true rfl⟩ hl.1 rfl (Nat.le_of_ble_eq_true rfl) dL_law_4 ⟨Nat.le_of_ble_eq_true rfl, Nat.le_of_ble_eq_true rfl⟩ (fun u6 H locs _ hP hD hS => ?_)
  obtain ⟨m_w, h_r, m_r, h_rg, m_rg, h_g, m_g, h_p, m_p, h_c, m_c, h_n, m_n, h_d, m_d, h_e, m_e, h_ep, m_ep, h_ed, m_ed, h_ec, m_ec, h_s0, m_s0, h_s1, m_s1, h_s2, m_s2⟩ := u6
  have hP : va_P (dC, dI) vwCl (wX0 cyI cyJ cyZ cyB cyO h_w m_w h_r m_r h_rg m_rg h_g m_g h_p m_p h_c m_c h_n m_n h_d m_d h_e m_e h_ep m_ep h_ed m_ed h_ec m_ec h_s0 m_s0 h_s1 m_s1 h_s2 m_s2) H := hP
  have hD : va_D (fun q : Nat => s.heap.size ≤ q) (wX0 cyI cyJ cyZ cyB cyO h_w m_w h_r m_r h_rg m_rg h_g m_g h_p m_p h_c m_c h_n m_n h_d m_d h_e m_e h_ep m_ep h_ed m_ed h_ec m_ec h_s0 m_s0 h_s1 m_s1 h_s2 m_s2) := hD
  refine lv_astore_n (lv' := [(1, .ref h_w), (0, .ref b)]) hx hb dL_law_7 rfl hl (by decide) rfl (fun ls hl => ?_)
  refine va_new (ci := 7) (fs := [.int 0, .null, .int 0, .null, .int 0, .null, .null, .null, .null, .null, .int 0, .int 0, .int 0, .int 0, .int 0, .int 0, .int 0, .int 0, .int 0, .int 0, .int 0, .null, .null, .null, .null, .null, .null, .null, .null, .null, .null, .null, .null, .null, .null, .null, .null, .null, .null, .null, .null, .null, .null, .int 0, .null, .null, .null, .int 0, .null, .null, .int 0, .null, .int 0, .null, .null, .null, .null, .int 0, .int 0, .int 0, .null, .null, .int 0, .int 0, .int 0, .int 0, .null, .null, .null, .null, .null, .long 0, .long 0, .null, .null, .null, .int 0, .null, .null, .null, .null, .null, .null]) (C := RX7) (T := TX7) (N := 83) hx hb hts (g_c inlX7) tyX7 tyX7_ok hown (hts _ (List.mem_cons_of_mem _ wm_1_3)) (hts _ (List.mem_cons_of_mem _ wm_1_4)) (hts _ (List.mem_cons_of_mem _ wm_1_5)) hK hP hD hS hA rfl (fun j hj => by rcases (show j = 0 ∨ j = 1 ∨ j = 2 ∨ j = 3 ∨ j = 4 ∨ j = 5 ∨ j = 6 ∨ j = 7 ∨ j = 8 ∨ j = 9 ∨ j = 10 ∨ j = 11 ∨ j = 12 ∨ j = 13 ∨ j = 14 ∨ j = 15 ∨ j = 16 ∨ j = 17 ∨ j = 18 ∨ j = 19 ∨ j = 20 ∨ j = 21 ∨ j = 22 ∨ j = 23 ∨ j = 24 ∨ j = 25 ∨ j = 26 ∨ j = 27 ∨ j = 28 ∨ j = 29 ∨ j = 30 ∨ j = 31 ∨ j = 32 ∨ j = 33 ∨ j = 34 ∨ j = 35 ∨ j = 36 ∨ j = 37 ∨ j = 38 ∨ j = 39 ∨ j = 40 ∨ j = 41 ∨ j = 42 ∨ j = 43 ∨ j = 44 ∨ j = 45 ∨ j = 46 ∨ j = 47 ∨ j = 48 ∨ j = 49 ∨ j = 50 ∨ j = 51 ∨ j = 52 ∨ j = 53 ∨ j = 54 ∨ j = 55 ∨ j = 56 ∨ j = 57 ∨ j = 58 ∨ j = 59 ∨ j = 60 ∨ j = 61 ∨ j = 62 ∨ j = 63 ∨ j = 64 ∨ j = 65 ∨ j = 66 ∨ j = 67 ∨ j = 68 ∨ j = 69 ∨ j = 70 ∨ j = 71 ∨ j = 72 ∨ j = 73 ∨ j = 74 ∨ j = 75 ∨ j = 76 ∨ j = 77 ∨ j = 78 ∨ j = 79 ∨ j = 80 ∨ j = 81 ∨ j = 82 by omega) with rfl | rfl | rfl | rfl | rfl | rfl | rfl | rfl | rfl | rfl | rfl | rfl | rfl | rfl | rfl | rfl | rfl | rfl | rfl | rfl | rfl | rfl | rfl | rfl | rfl | rfl | rfl | rfl | rfl | rfl | rfl | rfl | rfl | rfl | rfl | rfl | rfl | rfl | rfl | rfl | rfl | rfl | rfl | rfl | rfl | rfl | rfl | rfl | rfl | rfl | rfl | rfl | rfl | rfl | rfl | rfl | rfl | rfl | rfl | rfl | rfl | rfl | rfl | rfl | rfl | rfl | rfl | rfl | rfl | rfl | rfl | rfl | rfl | rfl | rfl | rfl | rfl | rfl | rfl | rfl | rfl | rfl | rfl <;> rfl) (Nat.le_of_ble_eq_true rfl) (Nat.le_of_ble_eq_true rfl) dL_law_8 (fun h_m H hP hD hS => ?_)
  refine lv_dup hx hb dL_law_11 rfl ?_
  refine ux_I (n := 0) (As := []) (rest := [.ref h_m]) (wc := [(h_m, .inr (7, [.int 0, .null, .int 0, .null, .int 0, .null, .null, .null, .null, .null, .int 0, .int 0, .int 0, .int 0, .int 0, .int 0, .int 0, .int 0, .int 0, .int 0, .int 0, .null, .null, .null, .null, .null, .null, .null, .null, .null, .null, .null, .null, .null, .null, .null, .null, .null, .null, .null, .null, .null, .null, .int 0, .null, .null, .null, .int 0, .null, .null, .int 0, .null, .int 0, .null, .null, .null, .null, .int 0, .int 0, .int 0, .null, .null, .int 0, .int 0, .int 0, .int 0, .null, .null, .null, .null, .null, .long 0, .long 0, .null, .null, .null, .int 0, .null, .null, .null, .null, .null, .null]))]) (wr := (wX0 cyI cyJ cyZ cyB cyO h_w m_w h_r m_r h_rg m_rg h_g m_g h_p m_p h_c m_c h_n m_n h_d m_d h_e m_e h_ep m_ep h_ed m_ed h_ec m_ec h_s0 m_s0 h_s1 m_s1 h_s2 m_s2)) ⟨hx, hb, hml, hown, hts⟩ hK hP hD hS hA hE [117] [0, 1, 2, 3, 4, 5, 6, 7, 8, 9, 10, 11, 12, 13, 14, 15, 16, 17, 18, 19, 20, 21, 22, 23, 24, 25, 26, 27, 28, 29, 30, 31, 32, 33, 34, 35, 36, 37, 38, 39, 40, 41, 42, 43, 44, 45, 46, 47, 48, 49, 50, 51, 52, 53, 54, 55, 56, 57, 58, 59, 60, 61, 62, 63, 64, 65, 66, 67, 68, 69, 70, 71, 72, 73, 74, 75, 76, 77, 78, 79, 80, 81, 82, 83, 84, 85, 86, 87, 88, 89, 90, 91, 92, 93, 94, 95, 96, 97, 98, 99, 100, 101, 102, 103, 104, 105, 106, 107, 108, 109, 110, 111, 112, 113, 114, 115, 116] rfl rfl (by decide +kernel) (by decide +kernel) (by decide +kernel) (c_X7_init l dC dI cyI cyJ cyZ cyB cyO tO vF adK adV h_m _ _ e7) wm_8_0 wm_8_1 wm_1_5 wm_8_2 ⟨rfl, rfl⟩ rfl (by decide +kernel) rfl ⟨Nat.le_of_ble_eq_true rfl, Nat.le_of_ble_eq_true rfl⟩ hl.1 rfl (Nat.le_of_ble_eq_true rfl) dL_law_12 ⟨Nat.le_of_ble_eq_true rfl, Nat.le_of_ble_eq_true rfl⟩ (fun u7 H locs _ hP hD hS => ?_)
  have hP : va_P (dC, dI) vwCl ((wX0 cyI cyJ cyZ cyB cyO h_w m_w h_r m_r h_rg m_rg h_g m_g h_p m_p h_c m_c h_n m_n h_d m_d h_e m_e h_ep m_ep h_ed m_ed h_ec m_ec h_s0 m_s0 h_s1 m_s1 h_s2 m_s2) ++ (wM0 cyI cyJ cyZ cyB cyO h_m u7)) H := hP
  have hD : va_D (fun q : Nat => s.heap.size ≤ q) ((wX0 cyI cyJ cyZ cyB cyO h_w m_w h_r m_r h_rg m_rg h_g m_g h_p m_p h_c m_c h_n m_n h_d m_d h_e m_e h_ep m_ep h_ed m_ed h_ec m_ec h_s0 m_s0 h_s1 m_s1 h_s2 m_s2) ++ (wM0 cyI cyJ cyZ cyB cyO h_m u7)) := hD
  refine lv_astore_n (lv' := [(2, .ref h_m), (1, .ref h_w), (0, .ref b)]) hx hb dL_law_15 rfl hl (by decide) rfl (fun ls hl => ?_)
  refine lv_iconst (v := (0 : Int32)) hx hb dL_law_16 (by decide) ?_
  refine lv_istore_n (lv' := [(3, .int (0 : Int32)), (2, .ref h_m), (1, .ref h_w), (0, .ref b)]) hx hb dL_law_17 rfl hl (by decide) rfl (fun ls hl => ?_)
  refine W.widen (k := 173) (n := 15331) (by decide) (by decide) ?_
  refine lv_iload_n hx hb dL_law_18 rfl (lv_at hl 0 rfl) ?_
  refine lv_aload_n hx hb dL_law_19 rfl (lv_at hl 3 rfl) ?_
  refine va_slen hx hb hX hbl hbA hS dL_law_20 ?_
  refine lv_bipush (v := (6 : Int32)) hx hb dL_law_21 (by decide) ?_
  refine lv_isub hx hb dL_law_23 ?_
  refine lv_icmp_gt (tgt := 1352) hx hb dL_law_24 (by decide) (fun _ => ?_) (fun c_ => ?_)
  · refine W.widen (k := 1000) (n := 100000) (by decide) (by decide) ?_
    exact p1_exit hx hb hr hlocks hS
  have hL6 : L = 6 := p1_len L hL c_
  subst hL6
  have kk : ∀ (H : Heap) (locs : List Loc), va_S (fun q : Nat => s.heap.size ≤ q) s.heap H locs → W p l e room_1 s m #[Value.ref b] below meth c H locs 1000 100000 (lw_Z below #[Value.ref b] s) (F0 m 1346 ls []) := fun H locs hS => p1_end hx hb hr hlocks hX hbl hS hl
  refine lv_aload_n hx hb dL_law_27 rfl (lv_at hl 3 rfl) ?_
  refine lv_iload_n hx hb dL_law_28 rfl (lv_at hl 0 rfl) ?_
  refine va_sld (i := (0 : Int32)) hx hb hX hbl hbA hS (inb_in (by decide)) dL_law_29 ?_
  refine lv_bipush (v := (63 : Int32)) hx hb dL_law_30 (by decide) ?_
  refine lv_iand hx hb dL_law_32 ?_
  generalize (xs (0 : Int32).toNatClampNeg) &&& (63 : Int32) = y
  by_cases c0 : y = (0 : Int32)
  · have t : y.toInt = 0 := by rw [c0]; rfl
    refine lv_tableIn (off := 159) (tgt := 192) hx hb dL_law_33 (by omega) (by omega) (by rw [t]; rfl) (by decide) ?_
    exact p1_c0 hx hb hml hown hts hX hbl hK hE hP hD hS hl kk
  by_cases c1 : y = (1 : Int32)
  · have t : y.toInt = 1 := by rw [c1]; rfl
    refine lv_tableIn (off := 222) (tgt := 255) hx hb dL_law_33 (by omega) (by omega) (by rw [t]; rfl) (by decide) ?_
    exact p1_c1 hx hb hml hown hts hX hbl hK hE hP hD hS hl kk
  by_cases c2 : y = (2 : Int32)
  · have t : y.toInt = 2 := by rw [c2]; rfl
    refine lv_tableIn (off := 245) (tgt := 278) hx hb dL_law_33 (by omega) (by omega) (by rw [t]; rfl) (by decide) ?_
    exact p1_c2 hx hb hml hown hts hX hbl hK hE hP hD hS hl kk
  by_cases c3 : y = (3 : Int32)
  · have t : y.toInt = 3 := by rw [c3]; rfl
    refine lv_tableIn (off := 258) (tgt := 291) hx hb dL_law_33 (by omega) (by omega) (by rw [t]; rfl) (by decide) ?_
    exact p1_c3 hx hb hml hown hts hX hbl hK hE hP hD hS hl kk
  by_cases c4 : y = (4 : Int32)
  · have t : y.toInt = 4 := by rw [c4]; rfl
    refine lv_tableIn (off := 271) (tgt := 304) hx hb dL_law_33 (by omega) (by omega) (by rw [t]; rfl) (by decide) ?_
    exact p1_c4 hx hb hml hown hts hX hbl hK hE hP hD hS hl kk
  by_cases c5 : y = (5 : Int32)
  · have t : y.toInt = 5 := by rw [c5]; rfl
    refine lv_tableIn (off := 304) (tgt := 337) hx hb dL_law_33 (by omega) (by omega) (by rw [t]; rfl) (by decide) ?_
    exact p1_c5 hx hb hml hown hts hX hbl hK hE hP hD hS hl kk
  by_cases c6 : y = (6 : Int32)
  · have t : y.toInt = 6 := by rw [c6]; rfl
    refine lv_tableIn (off := 337) (tgt := 370) hx hb dL_law_33 (by omega) (by omega) (by rw [t]; rfl) (by decide) ?_
    exact p1_c6 hx hb hml hown hts hX hbl hK hE hP hD hS hl kk
  by_cases c7 : y = (7 : Int32)
  · have t : y.toInt = 7 := by rw [c7]; rfl
    refine lv_tableIn (off := 360) (tgt := 393) hx hb dL_law_33 (by omega) (by omega) (by rw [t]; rfl) (by decide) ?_
    exact p1_c7 hx hb hml hown hts hX hbl hK hE hP hD hS hl kk
  by_cases c8 : y = (8 : Int32)
  · have t : y.toInt = 8 := by rw [c8]; rfl
    refine lv_tableIn (off := 383) (tgt := 416) hx hb dL_law_33 (by omega) (by omega) (by rw [t]; rfl) (by decide) ?_
    exact p1_c8 hx hb hml hown hts hX hbl hK hE hP hD hS hl kk
  by_cases c9 : y = (9 : Int32)
  · have t : y.toInt = 9 := by rw [c9]; rfl
    refine lv_tableIn (off := 432) (tgt := 465) hx hb dL_law_33 (by omega) (by omega) (by rw [t]; rfl) (by decide) ?_
    exact p1_c9 hx hb hml hown hts hX hbl hK hE hP hD hS hl kk
  by_cases c10 : y = (10 : Int32)
  · have t : y.toInt = 10 := by rw [c10]; rfl
    refine lv_tableIn (off := 465) (tgt := 498) hx hb dL_law_33 (by omega) (by omega) (by rw [t]; rfl) (by decide) ?_
    exact p1_c10 hx hb hml hown hts hX hbl hK hE hP hD hS hl kk
  by_cases c11 : y = (11 : Int32)
  · have t : y.toInt = 11 := by rw [c11]; rfl
    refine lv_tableIn (off := 498) (tgt := 531) hx hb dL_law_33 (by omega) (by omega) (by rw [t]; rfl) (by decide) ?_
    exact p1_c11 hx hb hml hown hts hX hbl hK hE hP hD hS hl kk
  by_cases c12 : y = (12 : Int32)
  · have t : y.toInt = 12 := by rw [c12]; rfl
    refine lv_tableIn (off := 531) (tgt := 564) hx hb dL_law_33 (by omega) (by omega) (by rw [t]; rfl) (by decide) ?_
    exact p1_c12 hx hb hml hown hts hX hbl hK hE hP hD hS hl kk
  by_cases c13 : y = (13 : Int32)
  · have t : y.toInt = 13 := by rw [c13]; rfl
    refine lv_tableIn (off := 574) (tgt := 607) hx hb dL_law_33 (by omega) (by omega) (by rw [t]; rfl) (by decide) ?_
    exact p1_c13 hx hb hml hown hts hX hbl hK hE hP hD hS hl kk
  by_cases c14 : y = (14 : Int32)
  · have t : y.toInt = 14 := by rw [c14]; rfl
    refine lv_tableIn (off := 627) (tgt := 660) hx hb dL_law_33 (by omega) (by omega) (by rw [t]; rfl) (by decide) ?_
    exact p1_c14 hx hb hml hown hts hX hbl hK hE hP hD hS hl kk
  by_cases c15 : y = (15 : Int32)
  · have t : y.toInt = 15 := by rw [c15]; rfl
    refine lv_tableIn (off := 680) (tgt := 713) hx hb dL_law_33 (by omega) (by omega) (by rw [t]; rfl) (by decide) ?_
    exact p1_c15 hx hb hml hown hts hX hbl hK hE hP hD hS hl kk
  by_cases c16 : y = (16 : Int32)
  · have t : y.toInt = 16 := by rw [c16]; rfl
    refine lv_tableIn (off := 703) (tgt := 736) hx hb dL_law_33 (by omega) (by omega) (by rw [t]; rfl) (by decide) ?_
    exact p1_c16 hx hb hml hown hts hX hbl hK hE hP hD hS hl kk
  by_cases c17 : y = (17 : Int32)
  · have t : y.toInt = 17 := by rw [c17]; rfl
    refine lv_tableIn (off := 736) (tgt := 769) hx hb dL_law_33 (by omega) (by omega) (by rw [t]; rfl) (by decide) ?_
    exact p1_c17 hx hb hml hown hts hX hbl hK hE hP hD hS hl kk
  by_cases c18 : y = (18 : Int32)
  · have t : y.toInt = 18 := by rw [c18]; rfl
    refine lv_tableIn (off := 759) (tgt := 792) hx hb dL_law_33 (by omega) (by omega) (by rw [t]; rfl) (by decide) ?_
    exact p1_c18 hx hb hml hown hts hX hbl hK hE hP hD hS hl kk
  by_cases c19 : y = (19 : Int32)
  · have t : y.toInt = 19 := by rw [c19]; rfl
    refine lv_tableIn (off := 782) (tgt := 815) hx hb dL_law_33 (by omega) (by omega) (by rw [t]; rfl) (by decide) ?_
    exact p1_c19 hx hb hml hown hts hX hbl hK hE hP hD hS hl kk
  by_cases c20 : y = (20 : Int32)
  · have t : y.toInt = 20 := by rw [c20]; rfl
    refine lv_tableIn (off := 815) (tgt := 848) hx hb dL_law_33 (by omega) (by omega) (by rw [t]; rfl) (by decide) ?_
    exact p1_c20 hx hb hml hown hts hX hbl hK hE hP hD hS hl kk
  by_cases c21 : y = (21 : Int32)
  · have t : y.toInt = 21 := by rw [c21]; rfl
    refine lv_tableIn (off := 848) (tgt := 881) hx hb dL_law_33 (by omega) (by omega) (by rw [t]; rfl) (by decide) ?_
    exact p1_c21 hx hb hml hown hts hX hbl hK hE hP hD hS hl kk
  by_cases c22 : y = (22 : Int32)
  · have t : y.toInt = 22 := by rw [c22]; rfl
    refine lv_tableIn (off := 861) (tgt := 894) hx hb dL_law_33 (by omega) (by omega) (by rw [t]; rfl) (by decide) ?_
    exact p1_c22 hx hb hml hown hts hX hbl hK hE hP hD hS hl kk
  by_cases c23 : y = (23 : Int32)
  · have t : y.toInt = 23 := by rw [c23]; rfl
    refine lv_tableIn (off := 874) (tgt := 907) hx hb dL_law_33 (by omega) (by omega) (by rw [t]; rfl) (by decide) ?_
    exact p1_c23 hx hb hml hown hts hX hbl hK hE hP hD hS hl kk
  by_cases c24 : y = (24 : Int32)
  · have t : y.toInt = 24 := by rw [c24]; rfl
    refine lv_tableIn (off := 917) (tgt := 950) hx hb dL_law_33 (by omega) (by omega) (by rw [t]; rfl) (by decide) ?_
    exact p1_c24 hx hb hml hown hts hX hbl hK hE hP hD hS hl kk
  by_cases c25 : y = (25 : Int32)
  · have t : y.toInt = 25 := by rw [c25]; rfl
    refine lv_tableIn (off := 960) (tgt := 993) hx hb dL_law_33 (by omega) (by omega) (by rw [t]; rfl) (by decide) ?_
    exact p1_c25 hx hb hml hown hts hX hbl hK hE hP hD hS hl kk
  by_cases c26 : y = (26 : Int32)
  · have t : y.toInt = 26 := by rw [c26]; rfl
    refine lv_tableIn (off := 1003) (tgt := 1036) hx hb dL_law_33 (by omega) (by omega) (by rw [t]; rfl) (by decide) ?_
    exact p1_c26 hx hb hml hown hts hX hbl hK hE hP hD hS hl kk
  by_cases c27 : y = (27 : Int32)
  · have t : y.toInt = 27 := by rw [c27]; rfl
    refine lv_tableIn (off := 1016) (tgt := 1049) hx hb dL_law_33 (by omega) (by omega) (by rw [t]; rfl) (by decide) ?_
    exact p1_c27 hx hb hml hown hts hX hbl hK hE hP hD hS hl kk
  by_cases c28 : y = (28 : Int32)
  · have t : y.toInt = 28 := by rw [c28]; rfl
    refine lv_tableIn (off := 1039) (tgt := 1072) hx hb dL_law_33 (by omega) (by omega) (by rw [t]; rfl) (by decide) ?_
    exact p1_c28 hx hb hml hown hts hX hbl hK hE hP hD hS hl kk
  by_cases c29 : y = (29 : Int32)
  · have t : y.toInt = 29 := by rw [c29]; rfl
    refine lv_tableIn (off := 1072) (tgt := 1105) hx hb dL_law_33 (by omega) (by omega) (by rw [t]; rfl) (by decide) ?_
    exact p1_c29 hx hb hml hown hts hX hbl hK hE hP hD hS hl kk
  by_cases c30 : y = (30 : Int32)
  · have t : y.toInt = 30 := by rw [c30]; rfl
    refine lv_tableIn (off := 1105) (tgt := 1138) hx hb dL_law_33 (by omega) (by omega) (by rw [t]; rfl) (by decide) ?_
    exact p1_c30 hx hb hml hown hts hX hbl hK hE hP hD hS hl kk
  by_cases c31 : y = (31 : Int32)
  · have t : y.toInt = 31 := by rw [c31]; rfl
    refine lv_tableIn (off := 1158) (tgt := 1191) hx hb dL_law_33 (by omega) (by omega) (by rw [t]; rfl) (by decide) ?_
    exact p1_c31 hx hb hml hown hts hX hbl hK hE hP hD hS hl kk
  by_cases c32 : y = (32 : Int32)
  · have t : y.toInt = 32 := by rw [c32]; rfl
    refine lv_tableIn (off := 1211) (tgt := 1244) hx hb dL_law_33 (by omega) (by omega) (by rw [t]; rfl) (by decide) ?_
    exact p1_c32 hx hb hml hown hts hX hbl hK hE hP hD hS hl kk
  by_cases c33 : y = (33 : Int32)
  · have t : y.toInt = 33 := by rw [c33]; rfl
    refine lv_tableIn (off := 1244) (tgt := 1277) hx hb dL_law_33 (by omega) (by omega) (by rw [t]; rfl) (by decide) ?_
    exact p1_c33 hx hb hml hown hts hX hbl hK hE hP hD hS hl kk
  by_cases c34 : y = (34 : Int32)
  · have t : y.toInt = 34 := by rw [c34]; rfl
    refine lv_tableIn (off := 1267) (tgt := 1300) hx hb dL_law_33 (by omega) (by omega) (by rw [t]; rfl) (by decide) ?_
    exact p1_c34 hx hb hml hown hts hX hbl hK hE hP hD hS hl kk
  by_cases c35 : y = (35 : Int32)
  · have t : y.toInt = 35 := by rw [c35]; rfl
    refine lv_tableIn (off := 1290) (tgt := 1323) hx hb dL_law_33 (by omega) (by omega) (by rw [t]; rfl) (by decide) ?_
    exact p1_c35 hx hb hml hown hts hX hbl hK hE hP hD hS hl kk
  have n0 : ¬ y.toInt = 0 := lv_neT c0 rfl
  have n1 : ¬ y.toInt = 1 := lv_neT c1 rfl
  have n2 : ¬ y.toInt = 2 := lv_neT c2 rfl
  have n3 : ¬ y.toInt = 3 := lv_neT c3 rfl
  have n4 : ¬ y.toInt = 4 := lv_neT c4 rfl
  have n5 : ¬ y.toInt = 5 := lv_neT c5 rfl
  have n6 : ¬ y.toInt = 6 := lv_neT c6 rfl
  have n7 : ¬ y.toInt = 7 := lv_neT c7 rfl
  have n8 : ¬ y.toInt = 8 := lv_neT c8 rfl
  have n9 : ¬ y.toInt = 9 := lv_neT c9 rfl
  have n10 : ¬ y.toInt = 10 := lv_neT c10 rfl
  have n11 : ¬ y.toInt = 11 := lv_neT c11 rfl
  have n12 : ¬ y.toInt = 12 := lv_neT c12 rfl
  have n13 : ¬ y.toInt = 13 := lv_neT c13 rfl
  have n14 : ¬ y.toInt = 14 := lv_neT c14 rfl
  have n15 : ¬ y.toInt = 15 := lv_neT c15 rfl
  have n16 : ¬ y.toInt = 16 := lv_neT c16 rfl
  have n17 : ¬ y.toInt = 17 := lv_neT c17 rfl
  have n18 : ¬ y.toInt = 18 := lv_neT c18 rfl
  have n19 : ¬ y.toInt = 19 := lv_neT c19 rfl
  have n20 : ¬ y.toInt = 20 := lv_neT c20 rfl
  have n21 : ¬ y.toInt = 21 := lv_neT c21 rfl
  have n22 : ¬ y.toInt = 22 := lv_neT c22 rfl
  have n23 : ¬ y.toInt = 23 := lv_neT c23 rfl
  have n24 : ¬ y.toInt = 24 := lv_neT c24 rfl
  have n25 : ¬ y.toInt = 25 := lv_neT c25 rfl
  have n26 : ¬ y.toInt = 26 := lv_neT c26 rfl
  have n27 : ¬ y.toInt = 27 := lv_neT c27 rfl
  have n28 : ¬ y.toInt = 28 := lv_neT c28 rfl
  have n29 : ¬ y.toInt = 29 := lv_neT c29 rfl
  have n30 : ¬ y.toInt = 30 := lv_neT c30 rfl
  have n31 : ¬ y.toInt = 31 := lv_neT c31 rfl
  have n32 : ¬ y.toInt = 32 := lv_neT c32 rfl
  have n33 : ¬ y.toInt = 33 := lv_neT c33 rfl
  have n34 : ¬ y.toInt = 34 := lv_neT c34 rfl
  have n35 : ¬ y.toInt = 35 := lv_neT c35 rfl
  refine lv_tableOut (tgt := 1346) hx hb dL_law_33 (by omega) (by decide) ?_
  refine W.widen (k := 1000) (n := 100000) (by decide) (by decide) ?_
  exact kk _ _ hS
