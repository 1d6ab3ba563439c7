/-! LEVEL 7: the days on both sides; the left one goes on (px) -/
theorem pj_be {α β γ : Type} {f : Option α} {k : α → Option β} {g : Option γ} {R : β → γ → Prop} (q : ∀ a, f = some a → pj (k a) g R) : pj (bd f k) g R := by
  cases f with
  | none => exact pj_nl
  | some v => exact q v rfl
theorem pj_bre {α β γ : Type} {f : Option α} {k : α → Option γ} {g : Option β} {R : β → γ → Prop} (q : ∀ a, f = some a → pj g (k a) R) : pj g (bd f k) R := by
  cases f with
  | none => exact pj_nr
  | some v => exact q v rfl
theorem pj_gr {α β : Type} {f : Option α} {g : Option β} {a : α} {R : α → β → Prop} (h : pj f g R) (e : f = some a) : pa g (fun b => R a b) := fun b e2 => h a b e e2
theorem pa_and {α : Type} {f : Option α} {P Q : α → Prop} (h : pa f P) (k : pa f Q) : pa f (fun o => P o ∧ Q o) := fun o e => ⟨h o e, k o e⟩
theorem pa_ok {α : Type} {f : Option α} {P : α → Prop} (h : ok f P) : pa f P := by
  obtain ⟨o, e, p⟩ := h
  intro o2 e2
  rw [e] at e2
  exact Option.some.inj e2 ▸ p
theorem ok_pa {α : Type} {f : Option α} {P Q : α → Prop} (h : ok f P) (k : pa f Q) : ∃ o, P o ∧ Q o := by
  obtain ⟨o, e, p⟩ := h
  exact ⟨o, p, k o e⟩
def px {α β γ : Type} (f : Option α) (K : α → Option β) (g : Option γ) (R : β → γ → Prop) : Prop := pj (bd f K) g R
theorem px_some {α β γ : Type} {a : α} {K : α → Option β} {g : Option γ} {R : β → γ → Prop} (h : pj (K a) g R) : px (some a) K g R := h
theorem px_none {α β γ : Type} {K : α → Option β} {g : Option γ} {R : β → γ → Prop} : px (none : Option α) K g R := pj_nl
theorem px_nr {α β γ : Type} {f : Option α} {K : α → Option β} {R : β → γ → Prop} : px f K (none : Option γ) R := pj_nr
theorem px_ck {α β γ : Type} {c : Bool} {f : Option α} {K : α → Option β} {g : Option γ} {R : β → γ → Prop} (h : c = true → px f K g R) : px (ck c f) K g R := by
  cases c
  · exact pj_nl
  · exact h rfl
theorem px_nm {α β γ δ : Type} {x : δ} {k : δ → Option α} {K : α → Option β} {g : Option γ} {R : β → γ → Prop} (h : px (k x) K g R) : px (nm x k) K g R := h
theorem px_if {α β γ : Type} {c : Prop} [Decidable c] {a b : Option α} {K : α → Option β} {g : Option γ} {R : β → γ → Prop} (ht : c → px a K g R) (he : ¬ c → px b K g R) : px (if c then a else b) K g R := by
  by_cases h : c
  · rw [if_pos h]; exact ht h
  · rw [if_neg h]; exact he h
theorem px_bd {α β γ δ : Type} {f : Option δ} {k : δ → Option α} {K : α → Option β} {g : Option γ} {P : δ → Prop} {R : β → γ → Prop} (h : pa f P) (q : ∀ a, P a → px (k a) K g R) : px (bd f k) K g R := by
  cases f with
  | none => exact pj_nl
  | some v => exact q v (h v rfl)
theorem px_bd2 {A0 A1 α β γ : Type} {f : Option (A0 × A1)} {k : A0 → A1 → Option α} {K : α → Option β} {g : Option γ} {P : A0 × A1 → Prop} {R : β → γ → Prop} (h : pa f P) (q : ∀ a0 a1, P (a0, a1) → px (k a0 a1) K g R) : px (bd f (fun o => un2 o k)) K g R := px_bd h (fun o ho => q o.1 o.2 ho)
theorem px_be {α β γ δ : Type} {f : Option δ} {k : δ → Option α} {K : α → Option β} {g : Option γ} {R : β → γ → Prop} (q : ∀ a, f = some a → px (k a) K g R) : px (bd f k) K g R := by
  cases f with
  | none => exact pj_nl
  | some v => exact q v rfl
/-! whole numbers of 32 and of 64 bits -/
theorem l_of {x : Int64} {y : Int32} (h : x.toInt = y.toInt) : x = y.toInt64 := Int64.toInt_inj.mp (h.trans (Jvm.Kit.i64_of_i32 y).symm)
theorem l_ti {x : Int64} {y : Int32} (h : x = y.toInt64) : x.toInt = y.toInt := by rw [h]; exact Jvm.Kit.i64_of_i32 y
theorem l_add {x y : Int32} (h1 : -2147483648 ≤ x.toInt + y.toInt) (h2 : x.toInt + y.toInt ≤ 2147483647) : (x + y).toInt64 = x.toInt64 + y.toInt64 := by
  have a := Jvm.Kit.i64_of_i32 x
  have b := Jvm.Kit.i64_of_i32 y
  refine (l_of ?_).symm
  rw [Jvm.Kit.i64_add (by omega) (by omega), Jvm.Kit.i32_add (by omega) (by omega), a, b]
theorem l_sub {x y : Int32} (h1 : -2147483648 ≤ x.toInt - y.toInt) (h2 : x.toInt - y.toInt ≤ 2147483647) : (x - y).toInt64 = x.toInt64 - y.toInt64 := by
  have a := Jvm.Kit.i64_of_i32 x
  have b := Jvm.Kit.i64_of_i32 y
  refine (l_of ?_).symm
  rw [Jvm.Kit.i64_sub (by omega) (by omega), Jvm.Kit.i32_sub (by omega) (by omega), a, b]
theorem l_div {x y : Int32} (hy : 1 ≤ y.toInt) : (x / y).toInt64 = x.toInt64 / y.toInt64 := by
  have a := Jvm.Kit.i64_of_i32 x
  have b := Jvm.Kit.i64_of_i32 y
  refine (l_of ?_).symm
  rw [Jvm.Kit.i64_div (by omega), Jvm.Kit.i32_div (by omega), a, b]
theorem l_32 (x : Int32) : x.toInt64.toInt32 = x := Int32.toInt32_toInt64 x
theorem nar0 : vp_nar .boolean (0 : Int32) = 0 := rfl
theorem nar1 : vp_nar .boolean (1 : Int32) = 1 := rfl
theorem cl_K {x K : Int32} {k : Nat} (hK : K.toInt = (k : Int)) (hk : k ≤ 100) (h0 : 0 ≤ x.toInt) (h1 : x.toInt ≤ 100) : (K + x).toNatClampNeg = k + x.toNatClampNeg := by
  have t : (K + x).toInt = K.toInt + x.toInt := Jvm.Kit.i32_add (by omega) (by omega)
  have e : (x.toNatClampNeg : Int) = x.toInt := cl_k h0
  have e2 : ((K + x).toNatClampNeg : Int) = (K + x).toInt := cl_k (by omega)
  omega
theorem cl_S {x live K : Int32} {k : Nat} (hK : K.toInt = (k : Int)) (hk : k ≤ 100) (hl : 0 ≤ live.toInt ∧ live.toInt ≤ 1) (h0 : 0 ≤ x.toInt) (h1 : x.toInt ≤ 100) : ((K * live) + x).toNatClampNeg = k * live.toNatClampNeg + x.toNatClampNeg := by
  have el : (live.toNatClampNeg : Int) = live.toInt := cl_k hl.1
  have e : (x.toNatClampNeg : Int) = x.toInt := cl_k h0
  rcases (show live.toInt = 0 ∨ live.toInt = 1 by omega) with q | q
  · have t1 : (K * live).toInt = 0 := by
      rw [Jvm.Kit.i32_mul (by rw [q]; omega) (by rw [q]; omega), q]; omega
    have t : ((K * live) + x).toInt = (K * live).toInt + x.toInt := Jvm.Kit.i32_add (by omega) (by omega)
    have e2 : (((K * live) + x).toNatClampNeg : Int) = ((K * live) + x).toInt := cl_k (by omega)
    have z : live.toNatClampNeg = 0 := by omega
    rw [z]
    omega
  · have t1 : (K * live).toInt = k := by
      rw [Jvm.Kit.i32_mul (by rw [q]; omega) (by rw [q]; omega), q]; omega
    have t : ((K * live) + x).toInt = (K * live).toInt + x.toInt := Jvm.Kit.i32_add (by omega) (by omega)
    have e2 : (((K * live) + x).toNatClampNeg : Int) = ((K * live) + x).toInt := cl_k (by omega)
    have z : live.toNatClampNeg = 1 := by omega
    rw [z]
    omega
/-- one village's numbers alike -/
def DV (B : Int) (v : Nat) (took dry first total : Nat → Int32) (row : Nat → Int64) : Prop := row (36 + v) = (took v).toInt64 ∧ row (42 + v) = (dry v).toInt64 ∧ row (48 + v) = (first v).toInt64 ∧ (row (54 + v)).toInt32 = total v ∧ 0 ≤ (dry v).toInt ∧ (dry v).toInt ≤ B ∧ (dry v = 0 ↔ first v = -2)
/-- the cells alike -/
def DC (ce : Int) (water : Nat → Int32) (salt : Nat → Int64) (row : Nat → Int64) : Prop := ∀ c : Nat, (c : Int) < ce → row c = (water c).toInt64 ∧ row (12 + c) = salt c
/-- the days alike: the class's rows against the reference's one row -/
def DA (ce vi B : Int) (water : Nat → Int32) (salt : Nat → Int64) (seen took dry first total : Nat → Int32) (row : Nat → Int64) : Prop := DC ce water salt row ∧ (∀ c : Nat, c < 12 → row (24 + c) = (seen c).toInt64) ∧ ∀ v : Nat, (v : Int) < vi → DV B v took dry first total row
/-! LEVEL on both sides -/
theorem c_lev {room : Nat → Int32} {q w : Int32} (h : 1 ≤ (room q.toNatClampNeg).toInt) : pa (f_X3_levelOf room q w) (fun o => o = w / room q.toNatClampNeg) := by
  unfold f_X3_levelOf
  refine pa_ck (fun _ => pa_if (fun _ => pa_ck (fun _ => pa_ck (fun _ => pa_some rfl))) (fun z => ?_))
  have := k_nle (k := 1) rfl z
  omega
theorem m_room {live : Int32} {room : Nat → Int32} {q : Int32} (hl : 0 ≤ live.toInt ∧ live.toInt ≤ 1) (h0 : 0 ≤ q.toInt) (h1 : q.toInt ≤ 100) : pa (f_X7_roomOf live room q) (fun o => o = room (12 * live.toNatClampNeg + q.toNatClampNeg)) := by
  unfold f_X7_roomOf
  refine pa_ck (fun _ => pa_some ?_)
  rw [cl_S (k := 12) rfl (by decide) hl h0 h1]
theorem m_lev {live : Int32} {room : Nat → Int32} {row : Nat → Int64} {q : Int32} (hl : 0 ≤ live.toInt ∧ live.toInt ≤ 1) (h0 : 0 ≤ q.toInt) (h1 : q.toInt ≤ 100) : pa (f_X7_level live room row q) (fun o => o = row q.toNatClampNeg / (room (12 * live.toNatClampNeg + q.toNatClampNeg)).toInt64) := by
  unfold f_X7_level
  refine pa_ck (fun _ => pa_bd (m_room hl h0 h1) (fun o ho => pa_ck (fun _ => pa_some ?_)))
  rw [ho]
/-! the morning on both sides -/
theorem c_mo30 {ce t : Int32} {room water0 seen0 : Nat → Int32} (hc : 0 ≤ ce.toInt ∧ ce.toInt ≤ 12) (hr : ∀ c : Nat, (c : Int) < ce.toInt → 1 ≤ (room c).toInt) : ∀ (n : Nat) (water seen : Nat → Int32) (x2 x3 : Int32) (i : Nat), x3.toInt = (i : Int) → (i : Int) ≤ ce.toInt → (∀ c, water c = if c < i then water0 c + t else water0 c) → (∀ c, seen c = if c < i ∧ ¬ x2 = 0 then water0 c / room c else seen0 c) → pa (f_X0_morning_b30 ce room n t water seen x2 x3) (fun o => o.1 = t ∧ (∀ c : Nat, o.2.1 c = if (c : Int) < ce.toInt then water0 c + t else water0 c) ∧ ∀ c : Nat, o.2.2 c = if (c : Int) < ce.toInt ∧ ¬ x2 = 0 then water0 c / room c else seen0 c) := by
  intro n
  induction n with
  | zero => intro water seen x2 x3 i _ _ _ _; exact pa_none
  | succ n ih =>
    intro water seen x2 x3 i h3 hi hw hs
    show pa (f_X0_morning_b30_st (f_X0_morning_b30 ce room n) ce room t water seen x2 x3) _
    unfold f_X0_morning_b30_st
    refine pa_if (fun z => pa_some ⟨rfl, fun c => ?_, fun c => ?_⟩) (fun z => ?_)
    · have g := ti_le z
      rw [show (water, seen).1 c = water c from rfl, hw c]
      by_cases q : c < i
      · rw [if_pos q, if_pos (by omega)]
      · rw [if_neg q, if_neg (by omega)]
    · have g := ti_le z
      rw [show (water, seen).2 c = seen c from rfl, hs c]
      by_cases q : c < i ∧ ¬ x2 = 0
      · rw [if_pos q, if_pos ⟨by omega, q.2⟩]
      · rw [if_neg q, if_neg (fun w => q ⟨by omega, w.2⟩)]
    · have g := ti_nle z
      have t3 := add_k (x := x3) (v := 1) (k := 1) rfl (by omega) (by omega)
      have e : x3.toNatClampNeg = i := by have : (x3.toNatClampNeg : Int) = x3.toInt := cl_k (by omega); omega
      have wi : water i = water0 i := by rw [hw i, if_neg (Nat.lt_irrefl i)]
      have tail : ∀ seen', (∀ c, seen' c = if c < i + 1 ∧ ¬ x2 = 0 then water0 c / room c else seen0 c) → pa (f_X0_morning_b65 (f_X0_morning_b30 ce room n) ce room t water seen' x2 x3) (fun o => o.1 = t ∧ (∀ c : Nat, o.2.1 c = if (c : Int) < ce.toInt then water0 c + t else water0 c) ∧ ∀ c : Nat, o.2.2 c = if (c : Int) < ce.toInt ∧ ¬ x2 = 0 then water0 c / room c else seen0 c) := by
        intro seen' hs'
        unfold f_X0_morning_b65
        refine pa_ck (fun _ => pa_ck (fun _ => pa_nx (ih _ _ _ _ (i + 1) (by omega) (by omega) (fun c => ?_) hs')))
        unfold upd
        rw [e]
        by_cases q : c = i
        · subst q
          rw [if_pos rfl, if_pos (by omega), wi]
        · rw [if_neg q, hw c]
          by_cases r : c < i
          · rw [if_pos r, if_pos (by omega)]
          · rw [if_neg r, if_neg (by omega)]
      refine pa_if (fun y => tail _ (fun c => ?_)) (fun y => pa_ck (fun _ => pa_bd (c_lev (by rw [e]; exact hr i (by omega))) (fun o ho => pa_ck (fun _ => pa_nx (tail _ (fun c => ?_))))))
      · rw [hs c, if_neg (fun w => w.2 y), if_neg (fun w => w.2 y)]
      · unfold upd
        rw [e] at ho ⊢
        by_cases q : c = i
        · subst q
          rw [if_pos rfl, if_pos ⟨by omega, y⟩, ho, wi]
        · rw [if_neg q, hs c]
          by_cases r : c < i ∧ ¬ x2 = 0
          · rw [if_pos r, if_pos ⟨by omega, r.2⟩]
          · rw [if_neg r, if_neg (fun w => r ⟨by omega, w.2⟩)]
theorem m_nn {live ce : Int32} {mc : Nat → Int32} (h : mc live.toNatClampNeg = ce) : pa (f_X7_n live mc) (fun o => o = ce) := by
  unfold f_X7_n
  exact pa_ck (fun _ => pa_some h)
theorem m_se42 {live rd ce t : Int32} {mc mra rnow : Nat → Int32} {row0 : Nat → Int64} (hm : mc live.toNatClampNeg = ce) (hc : 0 ≤ ce.toInt ∧ ce.toInt ≤ 12) (hT : pa (f_X7_rainOf live mra rnow rd) (fun o => o = t)) : ∀ (n : Nat) (row : Nat → Int64) (x1 : Int32) (i : Nat), x1.toInt = (i : Int) → (i : Int) ≤ ce.toInt → (∀ j, row j = if j < i then row0 j + t.toInt64 else row0 j) → pa (f_X7_sees_b42 live rd mc mra rnow n row x1) (fun o => ∀ j : Nat, o j = if (j : Int) < ce.toInt then row0 j + t.toInt64 else row0 j) := by
  intro n
  induction n with
  | zero => intro row x1 i _ _ _; exact pa_none
  | succ n ih =>
    intro row x1 i h1 hi hr
    show pa (f_X7_sees_b42_st (f_X7_sees_b42 live rd mc mra rnow n) live rd mc mra rnow row x1) _
    unfold f_X7_sees_b42_st
    refine pa_bd (m_nn hm) (fun o ho => ?_)
    subst ho
    refine pa_if (fun z => pa_some (fun j => ?_)) (fun z => ?_)
    · have g := ti_le z
      rw [hr j]
      by_cases q : j < i
      · rw [if_pos q, if_pos (by omega)]
      · rw [if_neg q, if_neg (by omega)]
    · have g := ti_nle z
      have t1 := add_k (x := x1) (v := 1) (k := 1) rfl (by omega) (by omega)
      have e : x1.toNatClampNeg = i := by have : (x1.toNatClampNeg : Int) = x1.toInt := cl_k (by omega); omega
      refine pa_ck (fun _ => pa_bd hT (fun o ho => pa_ck (fun _ => pa_nx (ih _ _ (i + 1) (by omega) (by omega) (fun j => ?_)))))
      unfold vp_updL
      rw [e, ho]
      by_cases q : j = i
      · subst q
        rw [if_pos rfl, if_pos (by omega), hr j, if_neg (Nat.lt_irrefl j)]
      · rw [if_neg q, hr j]
        by_cases r : j < i
        · rw [if_pos r, if_pos (by omega)]
        · rw [if_neg r, if_neg (by omega)]
/-- what is SEEN on a Monday -/
def SE (live : Int32) (mro : Nat → Int32) (i : Nat) (row : Nat → Int64) (j : Nat) : Int64 := if 24 ≤ j ∧ j < 24 + i then row (j - 24) / (mro (12 * live.toNatClampNeg + (j - 24))).toInt64 else row j
theorem m_se12 {live rd ce t : Int32} {mc mro mra rnow : Nat → Int32} {row0 : Nat → Int64} (hl : 0 ≤ live.toInt ∧ live.toInt ≤ 1) (hm : mc live.toNatClampNeg = ce) (hc : 0 ≤ ce.toInt ∧ ce.toInt ≤ 12) (hT : pa (f_X7_rainOf live mra rnow rd) (fun o => o = t)) : ∀ (n : Nat) (row : Nat → Int64) (x1 : Int32) (i : Nat), x1.toInt = (i : Int) → (i : Int) ≤ ce.toInt → (∀ j, row j = SE live mro i row0 j) → pa (f_X7_sees_b12 live rd mc mro mra rnow n row x1) (fun o => ∀ j : Nat, o j = if (j : Int) < ce.toInt then row0 j + t.toInt64 else SE live mro ce.toNatClampNeg row0 j) := by
  intro n
  have ec : (ce.toNatClampNeg : Int) = ce.toInt := cl_k hc.1
  induction n with
  | zero => intro row x1 i _ _ _; exact pa_none
  | succ n ih =>
    intro row x1 i h1 hi hr
    show pa (f_X7_sees_b12_st (f_X7_sees_b12 live rd mc mro mra rnow n) live rd mc mro mra rnow row x1) _
    unfold f_X7_sees_b12_st
    refine pa_bd (m_nn hm) (fun o ho => ?_)
    subst ho
    refine pa_if (fun z => ?_) (fun z => ?_)
    · have g := ti_le z
      have ei : i = o.toNatClampNeg := by omega
      rw [ei] at hr
      refine pa_w (m_se42 (row0 := row) hm hc hT fuel row 0 0 rfl hc.1 (fun j => by rw [if_neg (Nat.not_lt_zero j)])) (fun o2 ho2 j => ?_)
      rw [ho2 j]
      by_cases q : (j : Int) < o.toInt
      · rw [if_pos q, if_pos q, hr j]
        unfold SE
        rw [if_neg (by omega)]
      · rw [if_neg q, if_neg q, hr j]
    · have g := ti_nle z
      have t1 := add_k (x := x1) (v := 1) (k := 1) rfl (by omega) (by omega)
      have e : x1.toNatClampNeg = i := by have : (x1.toNatClampNeg : Int) = x1.toInt := cl_k (by omega); omega
      have e24 : ((24 : Int32) + x1).toNatClampNeg = 24 + i := by rw [cl_K (k := 24) rfl (by decide) (by omega) (by omega), e]
      refine pa_bd (m_lev hl (by omega) (by omega)) (fun o3 ho3 => pa_ck (fun _ => pa_nx (ih _ _ (i + 1) (by omega) (by omega) (fun j => ?_))))
      rw [e24]
      unfold vp_updL
      rw [e] at ho3
      by_cases q : j = 24 + i
      · rw [if_pos q, ho3, hr i, q]
        unfold SE
        rw [if_neg (by omega), if_pos (by omega), show 24 + i - 24 = i by omega]
      · rw [if_neg q, hr j]
        unfold SE
        by_cases r : 24 ≤ j ∧ j < 24 + i
        · rw [if_pos r, if_pos (by omega)]
        · rw [if_neg r, if_neg (by omega)]
set_option maxHeartbeats 4000000 in
theorem j_morning {live ce ra rd today : Int32} {vi B : Int} {room water seen took dry first total prain mc mro mra rnow : Nat → Int32} {salt row : Nat → Int64} (hl : 0 ≤ live.toInt ∧ live.toInt ≤ 1) (hm : mc live.toNatClampNeg = ce) (hc : 0 ≤ ce.toInt ∧ ce.toInt ≤ 12) (hra : mra live.toNatClampNeg = ra) (h0 : 0 ≤ ra.toInt) (hd : 0 ≤ rd.toInt) (hn : ∀ i : Nat, (i : Int) < ra.toInt → prain i = rnow i) (ht : ok (f_X7_rainOf live mra rnow rd) (fun o => rg o 0 99)) (hro : AL room mro (12 * live.toNatClampNeg) ce.toInt) (hr : ∀ c : Nat, (c : Int) < ce.toInt → 1 ≤ (room c).toInt) (hw : ∀ c : Nat, (c : Int) < ce.toInt → 0 ≤ (water c).toInt ∧ (water c).toInt ≤ 2147483000) (hA : DA ce.toInt vi B water salt seen took dry first total row) : pj (f_X0_morning ce ra room prain rd today water seen) (f_X7_sees live rd mc mro mra rnow row) (fun a b => pa (f_X7_rainOf live mra rnow rd) (fun o => o = a.1) ∧ rg a.1 0 99 ∧ DA ce.toInt vi B a.2.1 salt a.2.2 took dry first total b ∧ ∀ c : Nat, (c : Int) < ce.toInt → 0 ≤ (a.2.1 c).toInt) := by
  have ec : (ce.toNatClampNeg : Int) = ce.toInt := cl_k hc.1
  have hrem : 0 < ra.toInt → 0 ≤ (rd - rd / ra * ra).toInt ∧ (rd - rd / ra * ra).toInt < ra.toInt := by
    intro q
    have r := rem_toInt rd ra
    have r1 := Int.tmod_nonneg ra.toInt hd
    have r2 := Int.tmod_lt_of_pos rd.toInt q
    omega
  have jr := j_rain (live := live) (rn := prain) hra h0 hd hn hrem
  have main : ∀ x2 : Int32, ∀ g : Option (Nat → Int64), (∀ t : Int32, pa (f_X7_rainOf live mra rnow rd) (fun o => o = t) → pa g (fun o => ∀ j : Nat, o j = if (j : Int) < ce.toInt then row j + t.toInt64 else if x2 = 0 then row j else SE live mro ce.toNatClampNeg row j)) → pj (f_X0_morning_b15 ce ra room prain rd today water seen x2) g (fun a b => pa (f_X7_rainOf live mra rnow rd) (fun o => o = a.1) ∧ rg a.1 0 99 ∧ DA ce.toInt vi B a.2.1 salt a.2.2 took dry first total b ∧ ∀ c : Nat, (c : Int) < ce.toInt → 0 ≤ (a.2.1 c).toInt) := by
    intro x2 g hg
    unfold f_X0_morning_b15
    refine pj_be (fun t et => ?_)
    have hT : pa (f_X7_rainOf live mra rnow rd) (fun o => o = t) := pa_w (pj_gr jr et) (fun o ho => ho.symm)
    have ht2 : rg t 0 99 := by
      obtain ⟨o, p1, p2⟩ := ok_pa ht hT
      rw [← p2]; exact p1
    have t0 := ht2.1
    have t9 := ht2.2
    refine pj_of (c_mo30 (t := t) (water0 := water) (seen0 := seen) hc hr fuel water seen x2 0 0 rfl hc.1 (fun c => by rw [if_neg (Nat.not_lt_zero c)]) (fun c => by rw [if_neg (fun w => Nat.not_lt_zero c w.1)])) (hg t hT) (fun a b ha hb => ?_)
    obtain ⟨a1, a2, a3⟩ := ha
    obtain ⟨D1, D2, D3⟩ := hA
    refine ⟨by rw [a1]; exact hT, by rw [a1]; exact ht2, ⟨fun c hc2 => ⟨?_, ?_⟩, fun c hc2 => ?_, fun v hv => ?_⟩, fun c hc2 => ?_⟩
    · have w := hw c hc2
      rw [hb c, if_pos hc2, a2 c, if_pos hc2, (D1 c hc2).1, l_add (by omega) (by omega)]
    · rw [hb (12 + c), if_neg (by omega)]
      unfold SE
      rw [if_neg (by omega : ¬ (24 ≤ 12 + c ∧ 12 + c < 24 + ce.toNatClampNeg)), ite_self]
      exact (D1 c hc2).2
    · rw [hb (24 + c), if_neg (by omega), a3 c]
      unfold SE
      by_cases q : x2 = 0
      · rw [if_pos q, if_neg (fun w => w.2 q)]
        exact D2 c hc2
      · rw [if_neg q]
        by_cases r : (c : Int) < ce.toInt
        · rw [if_pos ⟨by omega, by omega⟩, if_pos ⟨r, q⟩, show 24 + c - 24 = c by omega, (D1 c r).1, ← hro c r, l_div (hr c r)]
        · rw [if_neg (by omega), if_neg (fun w => r w.1)]
          exact D2 c hc2
    · have k : ∀ s : Nat, 36 ≤ s → b s = row s := by
        intro s hs
        rw [hb s, if_neg (by omega)]
        unfold SE
        rw [if_neg (by omega : ¬ (24 ≤ s ∧ s < 24 + ce.toNatClampNeg)), ite_self]
      obtain ⟨v1, v2, v3, v4, v5⟩ := D3 v hv
      exact ⟨(k _ (by omega)).trans v1, (k _ (by omega)).trans v2, (k _ (by omega)).trans v3, by rw [k _ (by omega)]; exact v4, v5⟩
    · have w := hw c hc2
      rw [a2 c, if_pos hc2, Jvm.Kit.i32_add (by omega) (by omega)]
      omega
  unfold f_X0_morning f_X7_sees
  refine pj_ifl (fun z => pj_ifr (fun _ => main 1 _ (fun t hT => ?_)) (fun y => absurd z y)) (fun z => pj_ifr (fun y => absurd y z) (fun _ => main 0 _ (fun t hT => ?_)))
  · refine pa_w (m_se12 (row0 := row) (t := t) hl hm hc hT fuel row 0 0 rfl hc.1 (fun j => ?_)) (fun o ho j => ?_)
    · unfold SE
      rw [if_neg (by omega)]
    · rw [ho j, if_neg (by decide : ¬ (1 : Int32) = 0)]
  · refine pa_w (m_se42 (row0 := row) (t := t) hm hc hT fuel row 0 0 rfl hc.1 (fun j => ?_)) (fun o ho j => ?_)
    · rw [if_neg (Nat.not_lt_zero j)]
    · rw [ho j, if_pos rfl]
