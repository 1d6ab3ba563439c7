theorem st_eqi {args : Array Value} {s : State} {tm : Term} {z : Int32} (h : (Cond.eq tm (.int z)).before args s = true) : tm.eval args s none [] s = some (.int z) := by
  cases hv : tm.eval args s none [] s with
  | none => simp [Cond.before, Cond.holds, Cond.value, hv] at h
  | some w =>
    have hz : (Term.int z).eval args s none [] s = some (.int z) := rfl
    simp only [Cond.before, Cond.holds, Cond.value, hv, hz] at h
    cases w <;> simp_all
theorem st_aI {args : Array Value} {s : State} (h : (Cond.arrayClass .int).before args s = true) : ∃ cA : ClassId, ArrOfT s cA .int ∧ va_RA s cA .int := by
  obtain ⟨cA, kA, comp, h1, h2, h3⟩ := Cond.arrayClass_spec h
  exact ⟨cA, fun n z => ⟨fun k h => (by cases h), kA, h2, comp, h3⟩, h1⟩
theorem st_aJ {args : Array Value} {s : State} (h : (Cond.arrayClass .long).before args s = true) : ∃ cA : ClassId, ArrOfT s cA .long ∧ va_RA s cA .long := by
  obtain ⟨cA, kA, comp, h1, h2, h3⟩ := Cond.arrayClass_spec h
  exact ⟨cA, fun n z => ⟨fun k h => (by cases h), kA, h2, comp, h3⟩, h1⟩
theorem st_aZ {args : Array Value} {s : State} (h : (Cond.arrayClass .boolean).before args s = true) : ∃ cA : ClassId, ArrOfT s cA .boolean ∧ va_RA s cA .boolean := by
  obtain ⟨cA, kA, comp, h1, h2, h3⟩ := Cond.arrayClass_spec h
  exact ⟨cA, fun n z => ⟨fun k h => (by cases h), kA, h2, comp, h3⟩, h1⟩
theorem st_aB {args : Array Value} {s : State} (h : (Cond.arrayClass .byte).before args s = true) : ∃ cA : ClassId, ArrOfT s cA .byte ∧ va_RA s cA .byte := by
  obtain ⟨cA, kA, comp, h1, h2, h3⟩ := Cond.arrayClass_spec h
  exact ⟨cA, fun n z => ⟨fun k h => (by cases h), kA, h2, comp, h3⟩, h1⟩
theorem st_aO {args : Array Value} {s : State} (h : (Cond.arrayOver (.object "WellVillages$Days")).before args s = true) : ∃ cA : ClassId, ArrOfT s cA (.object "WellVillages$Days") ∧ va_RA s cA (.object "WellVillages$Days") := by
  obtain ⟨comp, cA, kA, hcomp, hidx, hkA, hkindA, hnameA⟩ := Cond.arrayOver_spec h
  exact ⟨cA, fun N z => ⟨(fun k h => by cases h), kA, hkA, comp, hkindA⟩, kA, comp, hkA, hkindA, hcomp, hnameA⟩
set_option maxRecDepth 20000 in
theorem st_K {s : State} {args : Array Value} (hts : ∀ w ∈ lw_tbl, w.before args s = true) : ∃ (dC : Nat → ClassId) (dI : Nat → Nat → Nat) (cyI cyJ cyZ cyB cyO : ClassId), va_K (dC, dI) vwCl (tyG cyI cyJ cyZ cyB cyO) s := by
  have htl : ∀ w ∈ wsL_law, w.before args s = true := fun w h => hts w (wsL_law_in w h)
  obtain ⟨c0, i0, h0⟩ := u_known (C := RX0) (T := TX0) (N := 9) (n := 9) htl inlX0 (hts (.instantiable RX0 9) (List.mem_of_getElem? (i := 361) (by decide +kernel)))
  obtain ⟨c1, i1, h1⟩ := u_known (C := RX1) (T := TX1) (N := 8) (n := 8) htl inlX1 (hts (.instantiable RX1 8) (List.mem_of_getElem? (i := 398) (by decide +kernel)))
  obtain ⟨c2, i2, h2⟩ := u_known (C := RX2) (T := TX2) (N := 13) (n := 13) htl inlX2 (hts (.instantiable RX2 13) (List.mem_of_getElem? (i := 447) (by decide +kernel)))
  obtain ⟨c3, i3, h3⟩ := u_known (C := RX3) (T := TX3) (N := 20) (n := 20) htl inlX3 (hts (.instantiable RX3 20) (List.mem_of_getElem? (i := 153) (by decide +kernel)))
  obtain ⟨c4, i4, h4⟩ := u_known (C := RX4) (T := TX4) (N := 8) (n := 8) htl inlX4 (hts (.instantiable RX4 8) (List.mem_of_getElem? (i := 317) (by decide +kernel)))
  obtain ⟨c5, i5, h5⟩ := u_known (C := RX5) (T := TX5) (N := 14) (n := 14) htl inlX5 (hts (.instantiable RX5 14) (List.mem_of_getElem? (i := 147) (by decide +kernel)))
  obtain ⟨c6, i6, h6⟩ := u_known (C := RX6) (T := TX6) (N := 12) (n := 12) htl inlX6 (hts (.instantiable RX6 12) (List.mem_of_getElem? (i := 139) (by decide +kernel)))
  obtain ⟨c7, i7, h7⟩ := u_known (C := RX7) (T := TX7) (N := 83) (n := 83) htl inlX7 (hts (.instantiable RX7 83) (List.mem_of_getElem? (i := 1258) (by decide +kernel)))
  obtain ⟨cyI, aI⟩ := st_aI (hts (.arrayClass .int) (List.mem_of_getElem? (i := 268) (by decide +kernel)))
  obtain ⟨cyJ, aJ⟩ := st_aJ (hts (.arrayClass .long) (List.mem_of_getElem? (i := 269) (by decide +kernel)))
  obtain ⟨cyZ, aZ⟩ := st_aZ (hts (.arrayClass .boolean) (List.mem_of_getElem? (i := 396) (by decide +kernel)))
  obtain ⟨cyB, aB⟩ := st_aB (hts (.arrayClass .byte) (List.mem_of_getElem? (i := 267) (by decide +kernel)))
  obtain ⟨cyO, aO⟩ := st_aO (hts (.arrayOver (.object "WellVillages$Days")) (List.mem_of_getElem? (i := 445) (by decide +kernel)))
  refine ⟨fun k => match k with | 0 => c0 | 1 => c1 | 2 => c2 | 3 => c3 | 4 => c4 | 5 => c5 | 6 => c6 | _ => c7, fun k => match k with | 0 => i0 | 1 => i1 | 2 => i2 | 3 => i3 | 4 => i4 | 5 => i5 | 6 => i6 | _ => i7, cyI, cyJ, cyZ, cyB, cyO, ?_, ?_⟩
  · intro k q hq
    match k, hq with
    | 0, hq => cases hq; exact h0
    | 1, hq => cases hq; exact h1
    | 2, hq => cases hq; exact h2
    | 3, hq => cases hq; exact h3
    | 4, hq => cases hq; exact h4
    | 5, hq => cases hq; exact h5
    | 6, hq => cases hq; exact h6
    | 7, hq => cases hq; exact h7
    | k + 8, hq => exact absurd hq (by intro h; cases h)
  · intro k q hq
    match k, hq with
    | 0, hq => cases hq; exact aI
    | 1, hq => cases hq; exact aJ
    | 2, hq => cases hq; exact aZ
    | 3, hq => cases hq; exact aB
    | 4, hq => cases hq; exact aO
    | k + 5, hq => exact absurd hq (by intro h; cases h)
theorem st_n0 : (Cond.methodLinkNest (xNo 0) (xNi 0) (xNy 0) "WellVillages") ∈ lw_tbl := List.mem_of_getElem? (i := 148) (by decide +kernel)
theorem st_n1 : (Cond.methodLinkNest (xNo 1) (xNi 1) (xNy 1) "WellVillages") ∈ lw_tbl := List.mem_of_getElem? (i := 315) (by decide +kernel)
theorem st_n2 : (Cond.methodLinkNest (xNo 2) (xNi 2) (xNy 2) "WellVillages") ∈ lw_tbl := List.mem_of_getElem? (i := 318) (by decide +kernel)
theorem st_n3 : (Cond.methodLinkNest (xNo 3) (xNi 3) (xNy 3) "WellVillages") ∈ lw_tbl := List.mem_of_getElem? (i := 399) (by decide +kernel)
theorem st_n4 : (Cond.methodLinkNest (xNo 4) (xNi 4) (xNy 4) "WellVillages") ∈ lw_tbl := List.mem_of_getElem? (i := 453) (by decide +kernel)
theorem st_n5 : (Cond.methodLinkNest (xNo 5) (xNi 5) (xNy 5) "WellVillages") ∈ lw_tbl := List.mem_of_getElem? (i := 455) (by decide +kernel)
theorem st_n6 : (Cond.methodLinkNest (xNo 6) (xNi 6) (xNy 6) "WellVillages") ∈ lw_tbl := List.mem_of_getElem? (i := 1104) (by decide +kernel)
theorem st_n7 : (Cond.methodLinkNest (xNo 7) (xNi 7) (xNy 7) "WellVillages") ∈ lw_tbl := List.mem_of_getElem? (i := 1090) (by decide +kernel)
theorem st_n8 : (Cond.methodLinkNest (xNo 8) (xNi 8) (xNy 8) "WellVillages") ∈ lw_tbl := List.mem_of_getElem? (i := 154) (by decide +kernel)
theorem st_s0 : (Cond.stringRef "WellVillages$Reader" (xSi 0) (xSt 0)) ∈ lw_tbl := List.mem_of_getElem? (i := 679) (by decide +kernel)
theorem st_s1 : (Cond.stringRef "WellVillages$Reader" (xSi 1) (xSt 1)) ∈ lw_tbl := List.mem_of_getElem? (i := 610) (by decide +kernel)
theorem st_s2 : (Cond.stringRef "WellVillages$Reader" (xSi 2) (xSt 2)) ∈ lw_tbl := List.mem_of_getElem? (i := 662) (by decide +kernel)
theorem st_s3 : (Cond.stringRef "WellVillages$Reader" (xSi 3) (xSt 3)) ∈ lw_tbl := List.mem_of_getElem? (i := 663) (by decide +kernel)
theorem st_s4 : (Cond.stringRef "WellVillages$Reader" (xSi 4) (xSt 4)) ∈ lw_tbl := List.mem_of_getElem? (i := 664) (by decide +kernel)
theorem st_s5 : (Cond.stringRef "WellVillages$Reader" (xSi 5) (xSt 5)) ∈ lw_tbl := List.mem_of_getElem? (i := 665) (by decide +kernel)
theorem st_s6 : (Cond.stringRef "WellVillages$Reader" (xSi 6) (xSt 6)) ∈ lw_tbl := List.mem_of_getElem? (i := 666) (by decide +kernel)
theorem st_s7 : (Cond.stringRef "WellVillages$Reader" (xSi 7) (xSt 7)) ∈ lw_tbl := List.mem_of_getElem? (i := 667) (by decide +kernel)
theorem st_s8 : (Cond.stringRef "WellVillages$Reader" (xSi 8) (xSt 8)) ∈ lw_tbl := List.mem_of_getElem? (i := 668) (by decide +kernel)
theorem st_s9 : (Cond.stringRef "WellVillages$Reader" (xSi 9) (xSt 9)) ∈ lw_tbl := List.mem_of_getElem? (i := 669) (by decide +kernel)
theorem st_s10 : (Cond.stringRef "WellVillages$Reader" (xSi 10) (xSt 10)) ∈ lw_tbl := List.mem_of_getElem? (i := 670) (by decide +kernel)
theorem st_s11 : (Cond.stringRef "WellVillages$Reader" (xSi 11) (xSt 11)) ∈ lw_tbl := List.mem_of_getElem? (i := 671) (by decide +kernel)
abbrev st_F : List Cond := flatC (Jvm.Cond.and given_1 narrow_1)
abbrev st_tm (i : Nat) : Term := .string "WellVillages$Reader" (xSi i)
set_option maxRecDepth 100000 in
set_option maxHeartbeats 4000000 in
theorem st_E {s : State} {args : Array Value} (hts : ∀ w ∈ lw_tbl, w.before args s = true) (hgv : (Jvm.Cond.and given_1 narrow_1).before args s = true) {A : Nat → Prop} (hA : ∀ a : Nat, a < s.heap.size → ¬ A a) : ∃ (tO : Nat) (vF : Value) (adK adV : Nat → Nat), xE tO vF adK adV A s s.heap := by
  have hs : ∀ w ∈ st_F, w.before args s = true := flat_of_before _ hgv
  have m1 : ∀ i, i < 12 → Cond.exactly (st_tm i) "java/lang/String" ∈ st_F := by decide +kernel
  have m2 : ∀ i, i < 12 → Cond.eq (.field (st_tm i) "java/lang/String" "coder" "B") (.int 0) ∈ st_F := by decide +kernel
  have m3 : ∀ i, i < 12 → Cond.arrayOf (.field (st_tm i) "java/lang/String" "value" "[B") .byte ∈ st_F := by decide +kernel
  have m4 : ∀ i, i < 12 → Cond.eq (.length (.field (st_tm i) "java/lang/String" "value" "[B")) (.int (Int32.ofNat (xLen.getD i 0))) ∈ st_F := by decide +kernel
  have m5 : ∀ i, i < 12 → ∀ j, j < xLen.getD i 0 → Cond.eq (.elem (.field (st_tm i) "java/lang/String" "value" "[B") (.int (Int32.ofNat j))) (.int ((xByt.getD i []).getD j 0)) ∈ st_F := by decide +kernel
  have m6 : ∀ i, i < 12 → ∀ j, j < 12 → i ≠ j → Cond.not (Cond.eq (st_tm i) (st_tm j)) ∈ st_F ∨ Cond.not (Cond.eq (st_tm j) (st_tm i)) ∈ st_F := by decide +kernel
  have m7 : ∀ i, i < 12 → xLen.getD i 0 < 2 ^ 31 := by decide +kernel
  obtain ⟨adK, adV, hS1, hS2⟩ := vk_Sof (args := args) (s := s) (N := 12) (tm := st_tm) (len := xLen) (byt := xByt) (A := A) m7 (fun i hi => hs _ (m1 i hi)) (fun i hi => hs _ (m2 i hi)) (fun i hi => hs _ (m3 i hi)) (fun i hi => hs _ (m4 i hi)) (fun i hi j hj => hs _ (m5 i hi j hj)) (fun i j hi hj hne => (m6 i hi j hj hne).imp (hs _) (hs _)) hA
  have o1 : ∀ j, j < 7 → Cond.eq (.elem (.static "WellVillages" "ORDERS" "[I") (.int (Int32.ofNat j))) (.int (xOI j)) ∈ st_F := by decide +kernel
  obtain ⟨tO, hT1, hT2⟩ := va_Tof (args := args) (s := s) (tm := .static "WellVillages" "ORDERS" "[I") (ty := .int) (N := 7) (f := xOrd) (A := A) (by decide) (hs _ (by decide +kernel)) (st_eqi (hs _ (by decide +kernel))) (fun j hj => st_eqi (hs _ (o1 j hj))) hA
  have z1 := va_Zof (A := A) (hts (.laysStatic "WellVillages" "ORDERS" "[I") (List.mem_of_getElem? (i := 1130) (by decide +kernel))) (hts (.initialized "WellVillages") (List.mem_of_getElem? (i := 121) (by decide +kernel))) hT1 hA
  have z2 := va_Zof (A := A) (hts (.laysStatic "java/lang/String" "COMPACT_STRINGS" "Z") (List.mem_of_getElem? (i := 623) (by decide +kernel))) (hts (.initialized "java/lang/String") (List.mem_of_getElem? (i := 132) (by decide +kernel))) (va_eqi (z := 1) (hs _ (by decide +kernel))) hA
  have z3 := va_Zqof (A := A) (hts (.laysStatic "jdk/internal/util/Preconditions" "SIOOBE_FORMATTER" "Ljava/util/function/BiFunction;") (List.mem_of_getElem? (i := 639) (by decide +kernel))) (hts (.initialized "jdk/internal/util/Preconditions") (List.mem_of_getElem? (i := 134) (by decide +kernel))) (hs _ (by decide +kernel)) hA
  have hN : ∀ i, i < 9 → va_Nw (.methodLinkNest (xNo i) (xNi i) (xNy i) "WellVillages") s := by
    intro i hi
    match i, hi with
    | 0, _ => exact va_Nw.of rfl (hts _ st_n0)
    | 1, _ => exact va_Nw.of rfl (hts _ st_n1)
    | 2, _ => exact va_Nw.of rfl (hts _ st_n2)
    | 3, _ => exact va_Nw.of rfl (hts _ st_n3)
    | 4, _ => exact va_Nw.of rfl (hts _ st_n4)
    | 5, _ => exact va_Nw.of rfl (hts _ st_n5)
    | 6, _ => exact va_Nw.of rfl (hts _ st_n6)
    | 7, _ => exact va_Nw.of rfl (hts _ st_n7)
    | 8, _ => exact va_Nw.of rfl (hts _ st_n8)
    | i + 9, hi => omega
  have hR : ∀ i, i < 12 → vk_R "WellVillages$Reader" (xSi i) (xSt i) (adK i) s := by
    intro i hi
    match i, hi with
    | 0, _ => exact vk_R.of (hts _ st_s0) (hS2 0 (by decide))
    | 1, _ => exact vk_R.of (hts _ st_s1) (hS2 1 (by decide))
    | 2, _ => exact vk_R.of (hts _ st_s2) (hS2 2 (by decide))
    | 3, _ => exact vk_R.of (hts _ st_s3) (hS2 3 (by decide))
    | 4, _ => exact vk_R.of (hts _ st_s4) (hS2 4 (by decide))
    | 5, _ => exact vk_R.of (hts _ st_s5) (hS2 5 (by decide))
    | 6, _ => exact vk_R.of (hts _ st_s6) (hS2 6 (by decide))
    | 7, _ => exact vk_R.of (hts _ st_s7) (hS2 7 (by decide))
    | 8, _ => exact vk_R.of (hts _ st_s8) (hS2 8 (by decide))
    | 9, _ => exact vk_R.of (hts _ st_s9) (hS2 9 (by decide))
    | 10, _ => exact vk_R.of (hts _ st_s10) (hS2 10 (by decide))
    | 11, _ => exact vk_R.of (hts _ st_s11) (hS2 11 (by decide))
    | i + 12, hi => omega
  have hO : va_AO "WellVillages$Days" s := va_AO.of (hts (.arrayOver (.object "WellVillages$Days")) (List.mem_of_getElem? (i := 445) (by decide +kernel)))
  rcases z3 with z3 | ⟨t, z3⟩
  · exact ⟨tO, .null, adK, adV, hN, ⟨z1, hT2⟩, ⟨z2, z3, Or.inl rfl⟩, hS1, hR, hO⟩
  · exact ⟨tO, .ref t, adK, adV, hN, ⟨z1, hT2⟩, ⟨z2, z3, Or.inr ⟨t, rfl⟩⟩, hS1, hR, hO⟩
