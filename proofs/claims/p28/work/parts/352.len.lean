/-! want; the class's feed and back by the length -/
theorem t_X7_want (live : Int32) (day : Int32) (cells : Nat → Int32) (room : Nat → Int32) (passWide : Nat → Int32) (rains : Nat → Int32) (rain : Nat → Int32) (villages : Nat → Int32) (home : Nat → Int32) (lawFrom : Nat → Int32) (lawTo : Nat → Int32) (code : Nat → Int32) (codeInt : Nat → Int32) (now : Nat → Int64) (isBroken : Int32) (rowDay : Int32) (changed : Int32) (pumpCell : Int32) (takenAll : Int64) (riversAll : Int64) (variables : Nat → Int32) (pile : Nat → Int32) (row : Nat → Int64) (wants : Nat → Int32) (isOff : Nat → Int32) (wide : Nat → Int32) (rainNow : Nat → Int32) (q1 : Int32) {passes passOne passOther rivers riverCell riverLevel riverWide : Nat → Int32} {B_ : Int} (y : DY live cells room passes passOne passOther rivers riverCell riverLevel riverWide rains villages home lawFrom lawTo code codeInt) (x : GX live passes passWide rains rain) (h : RD live cells room now day B_) (hB : B_ ≤ 2000000) : ok (f_X7_want live day cells room passWide rains rain villages home lawFrom lawTo code codeInt now isBroken rowDay changed pumpCell takenAll riversAll variables pile row wants isOff wide rainNow q1) (fun _ => True) := by
  unfold f_X7_want
  refine ok_bd (s_X7_isVillage live villages q1 y.1.1 y.2.2.2.1) (fun o1 p1 => ok_if (fun _ => ok_some trivial) (fun c => ?_))
  obtain ⟨_, p2, _⟩ := p1
  obtain ⟨i1, i2⟩ := p2.resolve_left c
  refine ok_bd10 (t_X7_goesFrom live day passWide rain now rowDay changed pumpCell takenAll riversAll row wants isOff wide rainNow (pm := 0) y x h) (fun a0 a1 a2 a3 a4 a5 a6 a7 a8 a9 hp => ?_)
  obtain ⟨h1, h2, _⟩ := hp
  refine ok_bd (t_X7_sees live a0 cells room rains a9 a5 y h1 h2 hB) (fun o4 _ => ?_)
  exact ok_bd4 (t_X7_wantOf live a0 rains home lawFrom lawTo code codeInt o4 a6 a9 isBroken variables pile q1 y h1 h2.1 i1.1 i2) (fun b0 b1 b2 b3 _ => ok_some trivial)
theorem s_ap3 {x1 : Int32} : ∀ (n : Nat) (k : Nat) (taped : Int32) (tape : Nat → Int32) (x2 : Int32), k ≤ 4 → x2.toInt = 8 * k - 8 → 0 ≤ taped.toInt → taped.toInt + k ≤ 2000 → k < n → ok (f_X6_append_b3 n taped tape x1 x2) (fun o => o.1.toInt = taped.toInt + k) := by
  intro n
  induction n with
  | zero => intro k taped tape x2 _ _ _ _ h; exact absurd h (Nat.not_lt_zero _)
  | succ n ih =>
    intro k taped tape x2 hk hx h0 h1 hn
    show ok (f_X6_append_b3_st (f_X6_append_b3 n) taped tape x1 x2) _
    unfold f_X6_append_b3_st
    refine ok_if (fun c => ok_some ?_) (fun c => ok_if (fun d => ?_) (fun d => ?_))
    · have c2 := lt_k (k := 0) rfl c
      show taped.toInt = taped.toInt + k
      omega
    · have c2 := nlt_k (k := 0) rfl c
      have d2 := k_le (k := 2000) rfl d
      omega
    · have c2 := nlt_k (k := 0) rfl c
      obtain ⟨j, rfl⟩ : ∃ j, k = j + 1 := ⟨k - 1, by omega⟩
      have em : (-8 : Int32).toInt = -8 := by decide
      have t1 := add_k (x := taped) (v := 1) (k := 1) rfl (by omega) (by omega)
      have t2 := add_k (x := x2) (v := -8) (k := -8) em (by omega) (by omega)
      refine ok_ck (inb_k h0 (by omega)) (ok_nm (fun a _ => ?_))
      exact ok_w (ih j (taped + 1) a (x2 + -8) (by omega) (by rw [t2]; omega) (by omega) (by omega) (by omega)) (fun o ho => by rw [ho]; omega)
theorem x_X6_append (taped : Int32) (tape : Nat → Int32) (q1 : Int32) (h0 : 0 ≤ taped.toInt) (h1 : taped.toInt + 4 ≤ 2000) : ok (f_X6_append taped tape q1) (fun o => o.1.toInt = taped.toInt + 4) := by
  unfold f_X6_append
  have e : (24 : Int32).toInt = 24 := rfl
  exact s_ap3 fuel 4 taped tape 24 (by omega) (by omega) h0 (by omega) (by unfold fuel; omega)
theorem x_X6_feed (taped : Int32) (tape : Nat → Int32) (q1 q2 q3 q4 q5 : Int32) (h : rg taped 0 2000) : ok (f_X6_feed taped tape q1 q2 q3 q4 q5) (fun o => FD taped o.1 o.2.1) := by
  unfold f_X6_feed
  have a := h.1
  have b := h.2
  refine ok_if (fun c => ?_) (fun c => ok_some (Or.inr ⟨?_, rfl, rfl⟩))
  · have c2 := le_k (k := 1980) rfl c
    refine ok_bd2 (x_X6_append taped tape q1 (by omega) (by omega)) (fun a1 b1 h1 => ?_)
    change a1.toInt = taped.toInt + 4 at h1
    refine ok_bd2 (x_X6_append a1 b1 q2 (by omega) (by omega)) (fun a2 b2 h2 => ?_)
    change a2.toInt = a1.toInt + 4 at h2
    refine ok_bd2 (x_X6_append a2 b2 q3 (by omega) (by omega)) (fun a3 b3 h3 => ?_)
    change a3.toInt = a2.toInt + 4 at h3
    refine ok_bd2 (x_X6_append a3 b3 q4 (by omega) (by omega)) (fun a4 b4 h4 => ?_)
    change a4.toInt = a3.toInt + 4 at h4
    refine ok_bd2 (x_X6_append a4 b4 q5 (by omega) (by omega)) (fun a5 b5 h5 => ok_some (Or.inl ⟨by omega, rfl, ?_⟩))
    change a5.toInt = a4.toInt + 4 at h5
    show a5.toInt = taped.toInt + 20
    omega
  · have c2 := nle_k (k := 1980) rfl c
    omega
theorem x_X6_back (taped q1 : Int32) : ok (f_X6_back taped q1) (fun o => BK taped q1 o.1 o.2) := by
  unfold f_X6_back
  refine ok_if (fun c => ok_some (Or.inr ⟨Or.inl (lt_k (k := 0) rfl c), rfl, rfl⟩)) (fun c => ok_if (fun d => ok_some (Or.inl ⟨nlt_k (k := 0) rfl c, ti_le d, rfl, rfl⟩)) (fun d => ok_some (Or.inr ⟨Or.inr (ti_nle d), rfl, rfl⟩)))
