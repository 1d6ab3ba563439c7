/-! the villages' turns on both sides -/
theorem px_ng {α β γ δ : Type} {x : δ} {k : δ → Option α} {K : α → Option β} {g : Option γ} {R : β → γ → Prop} (h : ∀ y, y = x → px (k y) K g R) : px (nm x k) K g R := h x rfl
theorem pj_nlg {α β δ : Type} {x : δ} {k : δ → Option α} {g : Option β} {R : α → β → Prop} (h : ∀ y, y = x → pj (k y) g R) : pj (nm x k) g R := h x rfl
theorem pj_nrg {α β δ : Type} {x : δ} {k : δ → Option β} {f : Option α} {R : α → β → Prop} (h : ∀ y, y = x → pj f (k y) R) : pj f (nm x k) R := h x rfl
theorem l_z (s w : Int64) : s - s * 0 / w = s := by rw [Int64.mul_zero, Int64.zero_div, Int64.sub_zero]
theorem l_0 {u : Int32} (h : u.toInt = 0) : u.toInt64 = 0 := by rw [z_of (v := 0) rfl h]; rfl
theorem upL_at {m : Nat → Int64} {i : Nat} {v : Int64} : vp_updL m i v i = v := if_pos rfl
theorem upL_ne {m : Nat → Int64} {i j : Nat} {v : Int64} (h : ¬ j = i) : vp_updL m i v j = m j := if_neg h
theorem c_draw {water : Nat → Int32} {salt : Nat → Int64} {c u : Int32} (h0 : 0 ≤ u.toInt) (h1 : u.toInt ≤ (water c.toNatClampNeg).toInt) : pa (f_X1_draw water salt c u) (fun o => (∀ j, ¬ j = c.toNatClampNeg → o.1 j = water j ∧ o.2 j = salt j) ∧ o.1 c.toNatClampNeg = water c.toNatClampNeg - u ∧ o.2 c.toNatClampNeg = salt c.toNatClampNeg - salt c.toNatClampNeg * u.toInt64 / (water c.toNatClampNeg).toInt64) := by
  unfold f_X1_draw
  refine pa_if (fun z => pa_some ⟨fun j _ => ⟨rfl, rfl⟩, ?_, ?_⟩) (fun z => pa_ck (fun _ => pa_if (fun y => ?_) (fun y => ?_)))
  · have g := lt_k (k := 1) rfl z
    have e : u = 0 := z_of (k := 0) rfl (by omega)
    rw [e]
    exact (Int32.sub_zero _).symm
  · have g := lt_k (k := 1) rfl z
    rw [l_0 (by omega)]
    exact (l_z _ _).symm
  · refine pa_ck (fun _ => pa_ck (fun _ => pa_ck (fun _ => pa_ck (fun _ => pa_ck (fun _ => pa_nm (fun a9 e9 => pa_ck (fun _ => pa_ck (fun _ => pa_nm (fun a12 e12 => pa_some ⟨fun j hj => ⟨?_, ?_⟩, ?_, ?_⟩)))))))))
    · show a12 j = _
      rw [e12, up_ne hj]
    · show a9 j = _
      rw [e9, upL_ne hj]
    · show a12 _ = _
      rw [e12, up_at]
    · show a9 _ = _
      rw [e9, upL_at]
  · have g := k_nle (k := 1) rfl y
    have g2 := nlt_k (k := 1) rfl z
    omega
theorem c_countDry {day : Int32} {dry first : Nat → Int32} {x : Int32} : pa (f_X1_countDry day dry first x) (fun o => (∀ j, ¬ j = x.toNatClampNeg → o.1 j = dry j ∧ o.2 j = first j) ∧ o.1 x.toNatClampNeg = dry x.toNatClampNeg + 1 ∧ (dry x.toNatClampNeg = 0 → o.2 x.toNatClampNeg = day) ∧ (¬ dry x.toNatClampNeg = 0 → o.2 x.toNatClampNeg = first x.toNatClampNeg)) := by
  unfold f_X1_countDry
  refine pa_ck (fun _ => pa_if (fun z => pa_ck (fun _ => pa_nm (fun a4 e4 => ?_))) (fun z => ?_))
  · unfold f_X1_countDry_b19
    refine pa_ck (fun _ => pa_ck (fun _ => pa_nm (fun a3 e3 => pa_some ⟨fun j hj => ⟨?_, ?_⟩, ?_, fun _ => ?_, fun q => absurd z q⟩)))
    · show a3 j = _
      rw [e3, up_ne hj]
    · show a4 j = _
      rw [e4, up_ne hj]
    · show a3 _ = _
      rw [e3, up_at]
    · show a4 _ = _
      rw [e4, up_at]
  · unfold f_X1_countDry_b19
    refine pa_ck (fun _ => pa_ck (fun _ => pa_nm (fun a3 e3 => pa_some ⟨fun j hj => ⟨?_, rfl⟩, ?_, fun q => absurd q z, fun _ => rfl⟩)))
    · show a3 j = _
      rw [e3, up_ne hj]
    · show a3 _ = _
      rw [e3, up_at]
/-- the lesser one, as the class says it -/
def mi2 (a b : Int32) : Int32 := if a < b then a else b
theorem mi2_ti (a b : Int32) : (mi2 a b).toInt = if a.toInt < b.toInt then a.toInt else b.toInt := by
  unfold mi2
  by_cases h : a < b
  · rw [if_pos h, if_pos (ti_lt h)]
  · rw [if_neg h, if_neg (Int.not_lt.mpr (ti_nlt h))]
/-- a village's turn, in the class: u is what it takes, d whether it counts as DRY -/
def SC (X C : Nat) (e u day : Int32) (d : Prop) (nd lacked water : Nat → Int32) (salt : Nat → Int64) (took dry first total lacked' water' : Nat → Int32) (salt' : Nat → Int64) (took' dry' first' total' : Nat → Int32) : Prop :=
  (∀ j, ¬ j = X → lacked' j = lacked j ∧ took' j = took j ∧ total' j = total j ∧ dry' j = dry j ∧ first' j = first j) ∧ (∀ j, ¬ j = C → water' j = water j ∧ salt' j = salt j) ∧ (lacked' X = 0 ↔ nd X ≤ e) ∧ water' C = water C - u ∧ salt' C = salt C - salt C * u.toInt64 / (water C).toInt64 ∧ took' X = u ∧ total' X = total X + u ∧ (d → dry' X = dry X + 1 ∧ (dry X = 0 → first' X = day) ∧ (¬ dry X = 0 → first' X = first X)) ∧ (¬ d → dry' X = dry X ∧ first' X = first X)
abbrev CT : Type := (Nat → Int32) × (Nat → Int32) × (Nat → Int32) × (Nat → Int64) × (Nat → Int32) × (Nat → Int32) × (Nat → Int32) × (Nat → Int32)
abbrev KCt : Type := (Nat → Int32) → (Nat → Int32) → (Nat → Int32) → (Nat → Int64) → (Nat → Int32) → (Nat → Int32) → (Nat → Int32) → (Nat → Int32) → Int32 → Option CT
set_option maxHeartbeats 4000000 in
theorem px_61 {β γ : Type} {kr : KCt} {K : CT → Option β} {g : Option γ} {R : β → γ → Prop} {today vi day x c x4 t u : Int32} {vc nd le code wanting seen lacked stack water took dry first total : Nat → Int32} {salt : Nat → Int64} (h0 : 0 ≤ t.toInt) (hw : 0 ≤ (water c.toNatClampNeg).toInt) (hu0 : x4 = 0 → u = 0) (hu1 : ¬ x4 = 0 → u = mi2 (water c.toNatClampNeg) t) (hk : ∀ lacked' water' salt' took' dry' first' total', SC x.toNatClampNeg c.toNatClampNeg (mi2 (water c.toNatClampNeg) t) u day (¬ x4 = 0 ∧ ¬ nd x.toNatClampNeg ≤ mi2 (water c.toNatClampNeg) t) nd lacked water salt took dry first total lacked' water' salt' took' dry' first' total' → px (kr lacked' stack water' salt' took' dry' first' total' (x + 1)) K g R) : px (f_X0_takeTurns_b61 kr today vi vc nd le code wanting day seen lacked stack water salt took dry first total x c x4 t) K g R := by
  have me := mi2_ti (water c.toNatClampNeg) t
  have hu : 0 ≤ u.toInt ∧ u.toInt ≤ (water c.toNatClampNeg).toInt := by
    by_cases q : x4 = 0
    · rw [hu0 q]
      exact ⟨Int.le_refl _, hw⟩
    · rw [hu1 q, me]
      by_cases z : (water c.toNatClampNeg).toInt < t.toInt
      · rw [if_pos z]; exact ⟨hw, Int.le_refl _⟩
      · rw [if_neg z]; exact ⟨h0, by omega⟩
  have b113 : ∀ (e : Int32) (lk : Nat → Int32), e = mi2 (water c.toNatClampNeg) t → (∀ j, ¬ j = x.toNatClampNeg → lk j = lacked j) → (lk x.toNatClampNeg = 0 ↔ nd x.toNatClampNeg ≤ e) → px (f_X0_takeTurns_b113 kr today vi vc nd le code wanting day seen lk stack water salt took dry first total x c x4 x u) K g R := by
    intro e lk he hlk1 hlk2
    subst he
    unfold f_X0_takeTurns_b113
    refine px_ck (fun _ => px_ng (fun tk htk => px_ck (fun _ => px_ck (fun _ => px_ck (fun _ => px_ng (fun to hto => px_ck (fun _ => ?_)))))))
    have t1 : tk x.toNatClampNeg = u := by rw [htk, up_at]
    have t2 : ∀ j, ¬ j = x.toNatClampNeg → tk j = took j := fun j hj => by rw [htk, up_ne hj]
    have t3 : to x.toNatClampNeg = total x.toNatClampNeg + u := by rw [hto, up_at, t1]
    have t4 : ∀ j, ¬ j = x.toNatClampNeg → to j = total j := fun j hj => by rw [hto, up_ne hj]
    refine px_bd2 (c_draw (by rw [t1]; exact hu.1) (by rw [t1]; exact hu.2)) (fun w' s' hd => ?_)
    obtain ⟨d1, d2, d3⟩ := hd
    rw [t1] at d2 d3
    refine px_if (fun z => hk lk w' s' tk dry first to ⟨fun j hj => ⟨hlk1 j hj, t2 j hj, t4 j hj, rfl, rfl⟩, d1, hlk2, d2, d3, t1, t3, fun q => absurd z q.1, fun _ => ⟨rfl, rfl⟩⟩) (fun z => px_ck (fun _ => px_if (fun y => ?_) (fun y => ?_)))
    · exact hk lk w' s' tk dry first to ⟨fun j hj => ⟨hlk1 j hj, t2 j hj, t4 j hj, rfl, rfl⟩, d1, hlk2, d2, d3, t1, t3, fun q => absurd (hlk2.mp y) q.2, fun _ => ⟨rfl, rfl⟩⟩
    · refine px_bd2 c_countDry (fun dr fi hc => ?_)
      obtain ⟨c1, c2, c3, c4⟩ := hc
      exact hk lk w' s' tk dr fi to ⟨fun j hj => ⟨hlk1 j hj, t2 j hj, t4 j hj, (c1 j hj).1, (c1 j hj).2⟩, d1, hlk2, d2, d3, t1, t3, fun _ => ⟨c2, c3, c4⟩, fun q => absurd ⟨z, fun w => y (hlk2.mpr w)⟩ q⟩
  have b96 : ∀ (e t2 : Int32), e = mi2 (water c.toNatClampNeg) t → (vp_nar .boolean t2 = 0 ↔ nd x.toNatClampNeg ≤ e) → px (f_X0_takeTurns_b96 kr today vi vc nd le code wanting day seen lacked stack water salt took dry first total x c x4 e x t2) K g R := by
    intro e t2 he hn
    unfold f_X0_takeTurns_b96
    refine px_ck (fun _ => px_ng (fun lk hlk => ?_))
    have l1 : ∀ j, ¬ j = x.toNatClampNeg → lk j = lacked j := fun j hj => by rw [hlk, up_ne hj]
    have l2 : lk x.toNatClampNeg = 0 ↔ nd x.toNatClampNeg ≤ e := by rw [hlk, up_at]; exact hn
    refine px_if (fun z => ?_) (fun z => ?_)
    · have k := b113 e lk he l1 l2
      rw [hu0 z] at k
      exact k
    · have k := b113 e lk he l1 l2
      rw [hu1 z, ← he] at k
      exact k
  unfold f_X0_takeTurns_b61
  refine px_ck (fun _ => px_ng (fun e he => px_ck (fun _ => px_if (fun z => b96 e 0 he ⟨fun _ => z, fun _ => nar0⟩) (fun z => b96 e 1 he ⟨fun q => absurd (nar1.symm.trans q) (by decide), fun q => absurd q z⟩))))
theorem m_takesOut {row : Nat → Int64} {c : Int32} {u : Int64} (hc : 0 ≤ c.toInt ∧ c.toInt ≤ 11) : pa (f_X7_takesOut row c u) (fun o => (∀ j, ¬ j = c.toNatClampNeg → ¬ j = 12 + c.toNatClampNeg → o j = row j) ∧ o c.toNatClampNeg = row c.toNatClampNeg - u ∧ o (12 + c.toNatClampNeg) = row (12 + c.toNatClampNeg) - row (12 + c.toNatClampNeg) * u / row c.toNatClampNeg) := by
  have e : (c.toNatClampNeg : Int) = c.toInt := cl_k hc.1
  have e12 : ((12 : Int32) + c).toNatClampNeg = 12 + c.toNatClampNeg := cl_K (k := 12) rfl (by decide) hc.1 (by omega)
  unfold f_X7_takesOut
  refine pa_if (fun z => pa_some ⟨fun j _ _ => rfl, ?_, ?_⟩) (fun z => ?_)
  · rw [(lg_cmp_eq _ _).mp z]
    exact (Int64.sub_zero _).symm
  · rw [(lg_cmp_eq _ _).mp z]
    exact (l_z _ _).symm
  · rw [e12]
    refine pa_ck (fun _ => pa_ck (fun _ => pa_ck (fun _ => pa_ck (fun _ => pa_ck (fun _ => pa_nm (fun a7 e7 => pa_ck (fun _ => pa_ck (fun _ => pa_nm (fun a10 e10 => pa_some ⟨fun j h1 h2 => ?_, ?_, ?_⟩)))))))))
    · show a10 j = _
      rw [e10, upL_ne h1, e7, upL_ne h2]
    · show a10 _ = _
      rw [e10, upL_at, e7, upL_ne (by omega)]
    · show a10 _ = _
      rw [e10, upL_ne (by omega), e7, upL_at]
/-- a village's turn, in the reference -/
def SR (X C : Nat) (u : Int64) (rd : Int32) (d : Prop) (row tk : Nat → Int64) (di : Nat → Int32) (row' tk' : Nat → Int64) (di' : Nat → Int32) : Prop :=
  (∀ j, ¬ j = C → ¬ j = 12 + C → ¬ j = 36 + X → ¬ j = 42 + X → ¬ j = 48 + X → ¬ j = 54 + X → row' j = row j) ∧ row' C = row C - u ∧ row' (12 + C) = row (12 + C) - row (12 + C) * u / row C ∧ row' (36 + X) = u ∧ row' (54 + X) = row (54 + X) + u ∧ (d → row' (42 + X) = row (42 + X) + 1 ∧ (row (48 + X) = -2 → row' (48 + X) = rd.toInt64) ∧ (¬ row (48 + X) = -2 → row' (48 + X) = row (48 + X))) ∧ (¬ d → row' (42 + X) = row (42 + X) ∧ row' (48 + X) = row (48 + X)) ∧ (∀ j, ¬ j = X → tk' j = tk j ∧ di' j = di j) ∧ tk' X = u ∧ (di' X = 0 ↔ ¬ d)
abbrev MT : Type := Int32 × Int64 × (Nat → Int32) × (Nat → Int32) × (Nat → Int64) × (Nat → Int64) × (Nat → Int32) × (Nat → Int32)
set_option maxHeartbeats 4000000 in
theorem pj_166 {α : Type} {f : Option α} {R : α → MT → Prop} {live rd ch ca_ pc pm pf pt : Int32} {rains villages home need lf lt_ code ci wants off rain : Nat → Int32} {ib : Int32} {ta : Int64} {va pi : Nat → Int32} {row tk : Nat → Int64} {di wl : Nat → Int32} {x1 : Int32} {x4 : Int64} {t2 : Int32} (k2 : K2) (hx : 0 ≤ x1.toInt ∧ x1.toInt ≤ 5) (hk : ∀ (row' : Nat → Int64) (di' : Nat → Int32), (∀ j, ¬ j = 36 + x1.toNatClampNeg → ¬ j = 42 + x1.toNatClampNeg → ¬ j = 48 + x1.toNatClampNeg → ¬ j = 54 + x1.toNatClampNeg → row' j = row j) → row' (36 + x1.toNatClampNeg) = x4 → row' (54 + x1.toNatClampNeg) = row (54 + x1.toNatClampNeg) + x4 → (¬ vp_nar .boolean t2 = 0 → row' (42 + x1.toNatClampNeg) = row (42 + x1.toNatClampNeg) + 1 ∧ (row (48 + x1.toNatClampNeg) = -2 → row' (48 + x1.toNatClampNeg) = rd.toInt64) ∧ (¬ row (48 + x1.toNatClampNeg) = -2 → row' (48 + x1.toNatClampNeg) = row (48 + x1.toNatClampNeg))) → (vp_nar .boolean t2 = 0 → row' (42 + x1.toNatClampNeg) = row (42 + x1.toNatClampNeg) ∧ row' (48 + x1.toNatClampNeg) = row (48 + x1.toNatClampNeg)) → (∀ j, ¬ j = x1.toNatClampNeg → di' j = di j) → di' x1.toNatClampNeg = vp_nar .boolean t2 → pj f (k2 ib ta va pi row' tk di' wl (x1 + 1)) R) : pj f (f_X7_takes_b166 k2 live rd ch ca_ pc pm pf pt rains villages home need lf lt_ code ci wants off rain ib ta va pi row tk di wl x1 x4 x1 t2) R := by
  have e : (x1.toNatClampNeg : Int) = x1.toInt := cl_k hx.1
  have e36 : ((36 : Int32) + x1).toNatClampNeg = 36 + x1.toNatClampNeg := cl_K (k := 36) rfl (by decide) hx.1 (by omega)
  have e42 : ((42 : Int32) + x1).toNatClampNeg = 42 + x1.toNatClampNeg := cl_K (k := 42) rfl (by decide) hx.1 (by omega)
  have e48 : ((48 : Int32) + x1).toNatClampNeg = 48 + x1.toNatClampNeg := cl_K (k := 48) rfl (by decide) hx.1 (by omega)
  have e54 : ((54 : Int32) + x1).toNatClampNeg = 54 + x1.toNatClampNeg := cl_K (k := 54) rfl (by decide) hx.1 (by omega)
  unfold f_X7_takes_b166
  rw [e36, e42, e48, e54]
  refine pj_ckr (fun _ => pj_nrg (fun a2 e2 => pj_ckr (fun _ => pj_nrg (fun a4 e4 => pj_ckr (fun _ => pj_ckr (fun _ => pj_nrg (fun a7 e7 => pj_ckr (fun _ => ?_))))))))
  have d1 : a2 x1.toNatClampNeg = vp_nar .boolean t2 := by rw [e2, up_at]
  have d2 : ∀ j, ¬ j = x1.toNatClampNeg → a2 j = di j := fun j hj => by rw [e2, up_ne hj]
  have r7 : ∀ j, ¬ j = 36 + x1.toNatClampNeg → ¬ j = 54 + x1.toNatClampNeg → a7 j = row j := fun j h1 h2 => by rw [e7, upL_ne h2, e4, upL_ne h1]
  have r36 : a7 (36 + x1.toNatClampNeg) = x4 := by rw [e7, upL_ne (by omega), e4, upL_at]
  have r54 : a7 (54 + x1.toNatClampNeg) = row (54 + x1.toNatClampNeg) + x4 := by rw [e7, upL_at, e4, upL_ne (by omega)]
  rw [d1]
  refine pj_ifr (fun z => hk a7 a2 (fun j h1 _ _ h4 => r7 j h1 h4) r36 r54 (fun q => absurd z q) (fun _ => ⟨r7 _ (by omega) (by omega), r7 _ (by omega) (by omega)⟩) d2 d1) (fun z => pj_ckr (fun _ => pj_ckr (fun _ => pj_nrg (fun a12 e12 => pj_ckr (fun _ => ?_)))))
  have r12 : ∀ j, ¬ j = 42 + x1.toNatClampNeg → a12 j = a7 j := fun j h => by rw [e12, upL_ne h]
  have r42 : a12 (42 + x1.toNatClampNeg) = row (42 + x1.toNatClampNeg) + 1 := by rw [e12, upL_at, r7 _ (by omega) (by omega)]
  have r48 : a12 (48 + x1.toNatClampNeg) = row (48 + x1.toNatClampNeg) := by rw [r12 _ (by omega), r7 _ (by omega) (by omega)]
  refine pj_ifr (fun y => pj_ckr (fun _ => pj_nrg (fun a16 e16 => ?_))) (fun y => ?_)
  · have y2 := (lg_cmp_eq _ _).mp y
    rw [r48] at y2
    have r16 : ∀ j, ¬ j = 48 + x1.toNatClampNeg → a16 j = a12 j := fun j h => by rw [e16, upL_ne h]
    refine hk a16 a2 (fun j h1 h2 h3 h4 => by rw [r16 j h3, r12 j h2, r7 j h1 h4]) (by rw [r16 _ (by omega), r12 _ (by omega), r36]) (by rw [r16 _ (by omega), r12 _ (by omega), r54]) (fun _ => ⟨by rw [r16 _ (by omega), r42], fun _ => by rw [e16, upL_at], fun q => absurd y2 q⟩) (fun q => absurd q z) d2 d1
  · have y2 : ¬ row (48 + x1.toNatClampNeg) = -2 := fun q => y ((lg_cmp_eq _ _).mpr (r48.trans q))
    exact hk a12 a2 (fun j h1 h2 h3 h4 => by rw [r12 j h2, r7 j h1 h4]) (by rw [r12 _ (by omega), r36]) (by rw [r12 _ (by omega), r54]) (fun _ => ⟨r42, fun q => absurd q y2, fun _ => r48⟩) (fun q => absurd q z) d2 d1
set_option maxHeartbeats 4000000 in
theorem pj_92 {α : Type} {f : Option α} {R : α → MT → Prop} {live rd ch ca_ pc pm pf pt : Int32} {rains villages home need lf lt_ code ci wants off rain : Nat → Int32} {ib : Int32} {ta : Int64} {va pi : Nat → Int32} {row tk : Nat → Int64} {di wl : Nat → Int32} {x1 x2 x3 ndx : Int32} {t0 u : Int64} (k2 : K2) (hx : 0 ≤ x1.toInt ∧ x1.toInt ≤ 5) (hc : 0 ≤ x2.toInt ∧ x2.toInt ≤ 11) (hnd : pa (f_X7_needOf live need x1) (fun o => o = ndx)) (hu0 : t0 ≤ row x2.toNatClampNeg → u = t0) (hu1 : ¬ t0 ≤ row x2.toNatClampNeg → u = row x2.toNatClampNeg) (hk : ∀ (row' tk' : Nat → Int64) (di' : Nat → Int32), SR x1.toNatClampNeg x2.toNatClampNeg u rd (x3 = 0 ∧ ¬ ndx.toInt64 ≤ u) row tk di row' tk' di' → pj f (k2 ib (ta + u) va pi row' tk' di' wl (x1 + 1)) R) : pj f (f_X7_takes_b92 k2 live rd ch ca_ pc pm pf pt rains villages home need lf lt_ code ci wants off rain ib ta va pi row tk di wl x1 x2 x3 t0) R := by
  have e1 : (x1.toNatClampNeg : Int) = x1.toInt := cl_k hx.1
  have e2 : (x2.toNatClampNeg : Int) = x2.toInt := cl_k hc.1
  have b114 : pj f (f_X7_takes_b114 k2 live rd ch ca_ pc pm pf pt rains villages home need lf lt_ code ci wants off rain ib ta va pi row tk di wl x1 x2 x3 u) R := by
    unfold f_X7_takes_b114
    refine pj_br (m_takesOut hc) (fun r1 hr => pj_ckr (fun _ => pj_nrg (fun a3 e3 => ?_)))
    obtain ⟨h1, h2, h3⟩ := hr
    have k1 : ∀ j, ¬ j = x1.toNatClampNeg → a3 j = tk j := fun j hj => by rw [e3, upL_ne hj]
    have k0 : a3 x1.toNatClampNeg = u := by rw [e3, upL_at]
    have fin : ∀ t2 : Int32, (vp_nar .boolean t2 = 0 ↔ ¬ (x3 = 0 ∧ ¬ ndx.toInt64 ≤ u)) → pj f (f_X7_takes_b166 k2 live rd ch ca_ pc pm pf pt rains villages home need lf lt_ code ci wants off rain ib (ta + u) va pi r1 a3 di wl x1 u x1 t2) R := by
      intro t2 ht
      refine pj_166 k2 hx (fun row' di' g1 g2 g3 g4 g5 g6 g7 => hk row' a3 di' ⟨fun j j1 j2 j3 j4 j5 j6 => ?_, ?_, ?_, g2, ?_, fun q => ?_, fun q => ?_, fun j hj => ⟨k1 j hj, g6 j hj⟩, k0, ?_⟩)
      · rw [g1 j j3 j4 j5 j6, h1 j j1 j2]
      · rw [g1 _ (by omega) (by omega) (by omega) (by omega), h2]
      · rw [g1 _ (by omega) (by omega) (by omega) (by omega), h3]
      · rw [g3, h1 _ (by omega) (by omega)]
      · have g := g4 (fun w => absurd q (ht.mp w))
        rw [h1 _ (by omega) (by omega), h1 _ (by omega) (by omega)] at g
        exact g
      · have g := g5 (ht.mpr q)
        rw [h1 _ (by omega) (by omega), h1 _ (by omega) (by omega)] at g
        exact g
      · rw [g7]
        exact ht
    refine pj_ifr (fun z => pj_br hnd (fun o5 h5 => pj_ifr (fun y => fin 0 ?_) (fun y => fin 1 ?_))) (fun z => fin 0 ?_)
    · have y2 := (lg_cmp_ge _ _).mp y
      rw [h5] at y2
      exact ⟨fun _ q => q.2 y2, fun _ => nar0⟩
    · have y2 : ¬ ndx.toInt64 ≤ u := fun q => y ((lg_cmp_ge _ _).mpr (by rw [h5]; exact q))
      exact ⟨fun q => absurd (nar1.symm.trans q) (by decide), fun q => absurd ⟨z, y2⟩ q⟩
    · exact ⟨fun _ q => z q.1, fun _ => nar0⟩
  unfold f_X7_takes_b92
  refine pj_ckr (fun _ => pj_ifr (fun z => ?_) (fun z => pj_ckr (fun _ => ?_)))
  · rw [hu0 ((lg_cmp_le _ _).mp z)] at b114
    exact b114
  · rw [hu1 (fun q => z ((lg_cmp_le _ _).mpr q))] at b114
    exact b114
/-- a village that takes nothing by what is changed -/
def OF (ch ca_ : Int32) (off : Nat → Int32) (y : Int32) : Prop := ¬ off y.toNatClampNeg = 0 ∨ (ch = 0 ∧ ca_ = y)
/-- what both sides note of a village's turn -/
def FG (o : Prop) (v : Nat) (lacked took : Nat → Int32) (tk : Nat → Int64) (di wl : Nat → Int32) : Prop := (o → (lacked v = 0 ↔ wl v = 0) ∧ di v = 0 ∧ took v = 0) ∧ (¬ o → (lacked v = 0 ↔ di v = 0)) ∧ tk v = (took v).toInt64
def IV (ce vi B : Int) (ch ca_ : Int32) (off : Nat → Int32) (X : Int) (lacked water : Nat → Int32) (salt : Nat → Int64) (seen took dry first total : Nat → Int32) (row tk : Nat → Int64) (di wl : Nat → Int32) : Prop :=
  DC ce water salt row ∧ (∀ c : Nat, (c : Int) < ce → 0 ≤ (water c).toInt) ∧ (∀ c : Nat, c < 12 → row (24 + c) = (seen c).toInt64) ∧ (∀ v : Nat, (v : Int) < vi → DV (if (v : Int) < X then B + 1 else B) v took dry first total row) ∧ ∀ y : Int32, 0 ≤ y.toInt → y.toInt < X → FG (OF ch ca_ off y) y.toNatClampNeg lacked took tk di wl
theorem DV_mono {B C : Int} {v : Nat} {took dry first total : Nat → Int32} {row : Nat → Int64} (h : DV B v took dry first total row) (hB : B ≤ C) : DV C v took dry first total row := by
  obtain ⟨a, b, c, d, e, f, g⟩ := h
  exact ⟨a, b, c, d, e, by omega, g⟩
theorem l_m2 {x : Int32} : x.toInt64 = -2 ↔ x = -2 := by
  have e2 : (-2 : Int32).toInt = -2 := by decide
  have e4 : (-2 : Int64).toInt = -2 := by decide
  refine ⟨fun h => Int32.toInt_inj.mp ?_, fun h => by rw [h]; decide⟩
  have := Jvm.Kit.i64_of_i32 x
  rw [h, e4] at this
  rw [e2]
  exact this.symm
set_option maxHeartbeats 4000000 in
theorem IV_step {ce vi B : Int} {ch ca_ x e u day : Int32} {d d' : Prop} {off nd lacked water seen took dry first total di wl lacked' water' took' dry' first' total' di' wl' : Nat → Int32} {salt row tk salt' row' tk' : Nat → Int64} {C : Nat} (hce : ce ≤ 12) (hv6 : vi ≤ 6) (hx : 0 ≤ x.toInt ∧ x.toInt < 6) (hC : (C : Int) < ce) (hB : 0 ≤ B ∧ B ≤ 2000000000) (hd0 : 0 ≤ day.toInt) (h : IV ce vi B ch ca_ off x.toInt lacked water salt seen took dry first total row tk di wl) (s : SC x.toNatClampNeg C e u day d nd lacked water salt took dry first total lacked' water' salt' took' dry' first' total') (r : SR x.toNatClampNeg C u.toInt64 day d' row tk di row' tk' di') (hdd : d ↔ d') (hu : 0 ≤ u.toInt ∧ u.toInt ≤ (water C).toInt) (hf : FG (OF ch ca_ off x) x.toNatClampNeg lacked' took' tk' di' wl') (hwl : ∀ j, ¬ j = x.toNatClampNeg → wl' j = wl j) : IV ce vi B ch ca_ off (x.toInt + 1) lacked' water' salt' seen took' dry' first' total' row' tk' di' wl' := by
  have ex : (x.toNatClampNeg : Int) = x.toInt := cl_k hx.1
  obtain ⟨i1, i2, i3, i4, i5⟩ := h
  obtain ⟨s1, s2, s3, s4, s5, s6, s7, s8, s9⟩ := s
  obtain ⟨r1, r2, r3, r4, r5, r6, r7, r8, r9, r10⟩ := r
  refine ⟨fun c hc => ?_, fun c hc => ?_, fun c hc => ?_, fun v hv => ?_, fun y y0 y1 => ?_⟩
  · by_cases q : c = C
    · subst q
      have wb := (rg_any (water c)).2
      rw [r2, s4, r3, s5, (i1 c hc).1, (i1 c hc).2, l_sub (by omega) (by omega)]
      exact ⟨rfl, rfl⟩
    · rw [r1 c q (by omega) (by omega) (by omega) (by omega) (by omega), r1 (12 + c) (by omega) (by omega) (by omega) (by omega) (by omega) (by omega), (s2 c q).1, (s2 c q).2]
      exact i1 c hc
  · by_cases q : c = C
    · subst q
      have wb := (rg_any (water c)).2
      rw [s4, Jvm.Kit.i32_sub (by omega) (by omega)]
      omega
    · rw [(s2 c q).1]
      exact i2 c hc
  · rw [r1 (24 + c) (by omega) (by omega) (by omega) (by omega) (by omega) (by omega)]
    exact i3 c hc
  · have D := i4 v hv
    by_cases q : v = x.toNatClampNeg
    · subst q
      rw [if_neg (by omega)] at D
      rw [if_pos (by omega)]
      obtain ⟨a1, a2, a3, a4, a5, a6, a7⟩ := D
      have t54 : (row' (54 + x.toNatClampNeg)).toInt32 = total' x.toNatClampNeg := by rw [r5, Int64.toInt32_add, l_32, a4, s7]
      by_cases z : d
      · obtain ⟨z1, z2, z3⟩ := s8 z
        obtain ⟨w1, w2, w3⟩ := r6 (hdd.mp z)
        have t1 : (dry x.toNatClampNeg + 1).toInt = (dry x.toNatClampNeg).toInt + 1 := add_k rfl (by omega) (by omega)
        refine ⟨by rw [r4, s6], by rw [w1, z1, a2, l_add (by show _ ≤ _ + (1 : Int); omega) (by show _ + (1 : Int) ≤ _; omega)]; rfl, ?_, t54, by rw [z1]; omega, by rw [z1]; omega, ?_⟩
        · by_cases y : dry x.toNatClampNeg = 0
          · rw [z2 y, w2 (a3.trans (l_m2.mpr (a7.mp y)))]
          · rw [z3 y, w3 (fun k => y (a7.mpr (l_m2.mp (a3.symm.trans k))))]
            exact a3
        · refine ⟨fun k => ?_, fun k => ?_⟩
          · have := z_eq (k := 0) rfl k
            rw [z1] at this
            omega
          · by_cases y : dry x.toNatClampNeg = 0
            · rw [z2 y] at k
              have := z_eq (k := -2) (by decide) k
              omega
            · rw [z3 y] at k
              exact absurd (a7.mpr k) y
      · obtain ⟨z1, z2⟩ := s9 z
        obtain ⟨w1, w2⟩ := r7 (fun k => z (hdd.mpr k))
        refine ⟨by rw [r4, s6], by rw [w1, z1]; exact a2, by rw [w2, z2]; exact a3, t54, by rw [z1]; exact a5, by rw [z1]; omega, by rw [z1, z2]; exact a7⟩
    · obtain ⟨q1, q2, q3, q4, q5⟩ := s1 v q
      obtain ⟨a1, a2, a3, a4, a5, a6, a7⟩ := D
      refine ⟨?_, ?_, ?_, ?_, by rw [q4]; exact a5, ?_, by rw [q4, q5]; exact a7⟩
      · rw [r1 (36 + v) (by omega) (by omega) (by omega) (by omega) (by omega) (by omega), q2]; exact a1
      · rw [r1 (42 + v) (by omega) (by omega) (by omega) (by omega) (by omega) (by omega), q4]; exact a2
      · rw [r1 (48 + v) (by omega) (by omega) (by omega) (by omega) (by omega) (by omega), q5]; exact a3
      · rw [r1 (54 + v) (by omega) (by omega) (by omega) (by omega) (by omega) (by omega), q3]; exact a4
      · rw [q4]
        by_cases w : (v : Int) < x.toInt
        · rw [if_pos w] at a6
          rw [if_pos (by omega)]
          exact a6
        · rw [if_neg w] at a6
          rw [if_neg (by omega)]
          exact a6
  · by_cases q : y = x
    · rw [q]; exact hf
    · have ey : (y.toNatClampNeg : Int) = y.toInt := cl_k y0
      have q2 : ¬ y.toInt = x.toInt := fun k => q (Int32.toInt_inj.mp k)
      have q3 : ¬ y.toNatClampNeg = x.toNatClampNeg := fun k => q2 (by omega)
      have k := i5 y y0 (by omega)
      unfold FG at k ⊢
      rw [(s1 _ q3).1, (s1 _ q3).2.1, (r8 _ q3).1, (r8 _ q3).2, hwl _ q3]
      exact k
