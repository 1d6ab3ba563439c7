set_option maxRecDepth 100000 in
theorem s6 : f_X6_init.isSome = true := by decide +kernel
def o6 : (Nat → Int32) × Int32 × (Nat → Int32) × (Nat → Int64) × (Nat → Int32) × (Nat → Int32) × (Nat → Int32) × (Nat → Int32) × (Nat → Int32) × Int32 × (Nat → Int32) := f_X6_init.get s6
theorem e6 : f_X6_init = some o6 := (Option.some_get s6).symm
set_option maxRecDepth 100000 in
theorem s7 : f_X7_init.isSome = true := by decide +kernel
def o7 : (Nat → Int64) := f_X7_init.get s7
theorem e7 : f_X7_init = some o7 := (Option.some_get s7).symm
set_option maxRecDepth 100000 in
theorem o6_pumps : ∀ k, k < 84 → o6.2.2.2.2.2.2.2.2.2.2 k = (-4 : Int32) := by decide +kernel
set_option maxRecDepth 100000 in
theorem o6_told : o6.2.2.2.2.2.2.2.2.2.1 = (0 : Int32) := by decide +kernel
theorem o6_an : an o6.2.2.2.2.2.2.2.2.2.2 84 (-4) (-4) := fun k hk => by
  rw [o6_pumps k hk]
  exact ⟨by decide, by decide⟩
theorem J6_0 : J6 (0 : Int32) (fun _ => 0) (0 : Int32) (0 : Int32) (-1 : Int32) (0 : Int32) (0 : Int32) (0 : Int32) (0 : Int32) (0 : Int32) (fun _ => 0) (0 : Int32) (0 : Int32) (0 : Int32) (0 : Int32) (0 : Int32) (fun _ => 0) (fun _ => 0) (fun _ => 0) (fun _ => 0) (fun _ => 0) (-1 : Int32) (0 : Int32) o6.2.2.2.2.2.2.2.2.2.1 (0 : Int32) (fun _ => 0) (fun _ => 0) (-1 : Int32) (0 : Int32) := ⟨⟨by decide, by decide⟩, (fun _ => (show rg (0 : Int32) (-128) 127 from ⟨by decide, by decide⟩)), ⟨by decide, by decide⟩, ⟨by decide, by decide⟩, ⟨by decide, by decide⟩, ⟨by decide, by decide⟩, ⟨by decide, by decide⟩, ⟨by decide, by decide⟩, ⟨by decide, by decide⟩, ⟨by decide, by decide⟩, (fun _ => (show rg (0 : Int32) 0 400 from ⟨by decide, by decide⟩)), ⟨by decide, by decide⟩, ⟨by decide, by decide⟩, ⟨by decide, by decide⟩, ⟨by decide, by decide⟩, ⟨by decide, by decide⟩, (fun _ _ => (show rg (0 : Int32) 0 11 from ⟨by decide, by decide⟩)), (fun _ _ => (show rg (0 : Int32) 0 11 from ⟨by decide, by decide⟩)), (fun _ _ => (show rg (0 : Int32) 0 11 from ⟨by decide, by decide⟩)), (fun _ _ => (show rg (0 : Int32) 0 11 from ⟨by decide, by decide⟩)), (fun _ => (show rg (0 : Int32) 0 400 from ⟨by decide, by decide⟩)), ⟨by decide, by decide⟩, ⟨by decide, by decide⟩, (by rw [o6_told]; exact ⟨by decide, by decide⟩), ⟨by decide, by decide⟩, (fun _ => (show rg (0 : Int32) 0 199 from ⟨by decide, by decide⟩)), (fun _ => (show rg (0 : Int32) 0 11 from ⟨by decide, by decide⟩)), ⟨by decide, by decide⟩, ⟨by decide, by decide⟩⟩
theorem SD_0 : SD 0 (fun _ => 0) (fun _ => 0) (fun _ => 0) (fun _ => 0) (fun _ => 0) (fun _ => 0) (fun _ => 0) (fun _ => 0) (fun _ => 0) (fun _ => 0) (fun _ => 0) (fun _ => 0) (fun _ => 0) (fun _ => 0) (fun _ => 0) (fun _ => 0) (fun _ => 0) (fun _ => 0) (fun _ => 0) (fun _ => 0) := by
  have e0 : (0 : Int32).toInt = 0 := rfl
  have no : ∀ {P : Prop} (x : Int32), 0 ≤ x.toInt → x.toInt < (0 : Int32).toInt → P := fun x h0 h1 => absurd h1 (by omega)
  exact ⟨⟨⟨⟨by decide, by decide⟩, ⟨by decide, by decide⟩, fun x h0 h1 => no x h0 h1⟩, ⟨⟨by decide, by decide⟩, ⟨by decide, by decide⟩, fun x h0 h1 => no x h0 h1, fun x h0 h1 => no x h0 h1, fun c => by show (0 : Int) + 0 ≤ 8; decide⟩, ⟨by decide, by decide⟩, ⟨by decide, by decide⟩, fun x h0 h1 => no x h0 h1⟩, ⟨fun x h0 h1 => no x h0 h1, fun x h0 h1 => no x h0 h1⟩, fun x h0 h1 => no x h0 h1, fun x h0 h1 => no x h0 h1, fun x h0 h1 => no x h0 h1⟩
theorem J7_0 : J7 0 (fun _ => 0) (fun _ => 0) (fun _ => 0) (fun _ => 0) (fun _ => 0) (fun _ => 0) (fun _ => 0) (fun _ => 0) (fun _ => 0) (fun _ => 0) (fun _ => 0) (fun _ => 0) (fun _ => 0) (fun _ => 0) (fun _ => 0) (fun _ => 0) (fun _ => 0) (fun _ => 0) (fun _ => 0) (fun _ => 0) (fun _ => 0) 0 0 (fun _ => 0) (fun _ => 0) 0 (fun _ => 0) (fun _ => 0) (fun _ => 0) 0 := by
  have e0 : (0 : Int32).toInt = 0 := rfl
  have no : ∀ {P : Prop} (x : Int32), 0 ≤ x.toInt → x.toInt < (0 : Int32).toInt → P := fun x h0 h1 => absurd h1 (by omega)
  exact ⟨⟨by decide, by decide⟩, SD_0, ⟨by decide, by decide, fun x h0 h1 => no x h0 h1⟩, ⟨by decide, by decide⟩, fun x h0 h1 => no x h0 h1, fun _ => (show rg (0 : Int32) 0 199 from ⟨by decide, by decide⟩), ⟨by decide, by decide⟩, fun x h0 h1 hx => absurd rfl hx⟩
set_option maxRecDepth 100000 in
theorem o7_ky : ∀ j, j < 11 → o7 j = Int64.ofInt (NL 27 (lx_w j)) := by decide +kernel
theorem p27_0 : ∀ j : Fin 11, (Int64.ofInt (NL 27 (lx_w j.val))).toInt = NL 27 (lx_w j.val) := by decide +kernel
set_option maxRecDepth 100000 in
theorem o6_day : o6.2.1 = (0 : Int32) := by decide +kernel
set_option maxRecDepth 100000 in
theorem o6_held : ∀ k, k < 3 → o6.1 k = (0 : Int32) := by decide +kernel
theorem RE_0 : RE5 (fun _ => 0) (0 : Int32) (fun _ => 0) o7 0 0 (0 : Int32) (0 : Int32) (0 : Int32) (0 : Int32) (0 : Int32) (fun _ => 0) (fun _ => 0) (fun _ => 0) (fun _ => 0) (fun _ => 0) (fun _ => 0) (fun _ => 0) (fun _ => 0) (fun _ => 0) (fun _ => 0) (fun _ => 0) (fun _ => 0) (fun _ => 0) (fun _ => 0) (fun _ => 0) (fun _ => 0) (fun _ => 0) (fun _ => 0) (fun _ => 0) (fun _ => 0) (fun _ => 0) (fun _ => 0) (fun _ => 0) (fun _ => 0) (fun _ => 0) (fun _ => 0) (fun _ => 0) o6.2.2.2.2.2.2.2.2.2.1 0 o6.2.1 0 o6.1 (fun _ => 0) (fun _ => 0) (0 : Int32) (0 : Int32) (0 : Int32) := ⟨rfl, TA_0 rfl, fun j hj => by rw [o7_ky j hj]; exact p27_0 ⟨j, hj⟩, ⟨⟨by decide, by decide⟩, rfl, ⟨by decide, by decide⟩, rfl, ⟨by decide, by decide⟩, rfl, ⟨by decide, by decide⟩, rfl, ⟨by decide, by decide⟩, rfl, ⟨by decide, by decide⟩, AL_0 (Int.le_refl _), AL_0 (Int.le_refl _), AL_0 (Int.le_refl _), AL_0 (Int.le_refl _), AL_0 (Int.le_refl _), AL_0 (Int.le_refl _), AL_0 (Int.le_refl _), AL_0 (Int.le_refl _), AL_0 (Int.le_refl _), AL_0 (Int.le_refl _), AL_0 (Int.le_refl _)⟩, o6_told, o6_day, fun i hi => o6_held i hi, fun z => absurd (o6_held 0 (by decide)) z, fun z => absurd (o6_held 1 (by decide)) z, fun z => absurd (o6_held 2 (by decide)) z⟩
theorem MD_0 {cyI cyJ cyO : ClassId} : MD cyI cyJ cyO .null .null o6.2.2.2.2.2.2.2.2.2.2 [] := ⟨[], [], rfl, Or.inl ⟨rfl, rfl⟩, Or.inl ⟨rfl, rfl, o6_an⟩⟩
