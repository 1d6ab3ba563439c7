/-! a call on some cells of a world: the others stay where they are -/
def mg : Nat → va_W → List Nat → va_W → va_W
  | _, [], _, _ => []
  | _, w :: ws, [], _ => w :: ws
  | _, w :: ws, _ :: _, [] => w :: ws
  | k, w :: ws, i :: is, c :: cs => if i = k then c :: mg (k + 1) ws is cs else w :: mg (k + 1) ws (i :: is) (c :: cs)
theorem mg_len : ∀ (ws : va_W) (k : Nat) (is : List Nat) (cs : va_W), (mg k ws is cs).length = ws.length := by
  intro ws
  induction ws with
  | nil => intro k is cs; rfl
  | cons w ws ih =>
    intro k is cs
    cases is with
    | nil => rfl
    | cons i is =>
      cases cs with
      | nil => rfl
      | cons c cs =>
        show (if i = k then c :: mg (k + 1) ws is cs else w :: mg (k + 1) ws (i :: is) (c :: cs)).length = ws.length + 1
        split
        · rw [List.length_cons, ih]
        · rw [List.length_cons, ih]
theorem mg_get : ∀ (ws : va_W) (k : Nat) (is : List Nat) (cs : va_W) (j : Nat) (q : Nat × va_E), is.Pairwise (· < ·) → (∀ i ∈ is, k ≤ i) → is.length ≤ cs.length → (mg k ws is cs)[j]? = some q → (∃ a : Nat, is[a]? = some (k + j) ∧ cs[a]? = some q) ∨ ((k + j) ∉ is ∧ ws[j]? = some q) := by
  intro ws
  induction ws with
  | nil => intro k is cs j q _ _ _ h; cases h
  | cons w ws ih =>
    intro k is cs j q hp hk hl h
    cases is with
    | nil => exact Or.inr ⟨by simp, h⟩
    | cons i is =>
      cases cs with
      | nil => simp at hl
      | cons c cs =>
        have hp' := List.pairwise_cons.mp hp
        have h' : (if i = k then c :: mg (k + 1) ws is cs else w :: mg (k + 1) ws (i :: is) (c :: cs))[j]? = some q := h
        have hki := hk i (List.mem_cons_self ..)
        by_cases e : i = k
        · rw [if_pos e] at h'
          cases j with
          | zero => exact Or.inl ⟨0, by simp [e], by simpa using h'⟩
          | succ j =>
            have h2 : (mg (k + 1) ws is cs)[j]? = some q := by simpa using h'
            rcases ih (k + 1) is cs j q hp'.2 (fun x hx => by have := hp'.1 x hx; omega) (by simpa using hl) h2 with ⟨a, g1, g2⟩ | ⟨g1, g2⟩
            · refine Or.inl ⟨a + 1, ?_, by simpa using g2⟩
              rw [show k + (j + 1) = k + 1 + j by omega]
              simpa using g1
            · refine Or.inr ⟨?_, by simpa using g2⟩
              rw [show k + (j + 1) = k + 1 + j by omega]
              intro hm
              rcases List.mem_cons.mp hm with z | z
              · omega
              · exact g1 z
        · rw [if_neg e] at h'
          cases j with
          | zero =>
            refine Or.inr ⟨?_, by simpa using h'⟩
            intro hm
            rcases List.mem_cons.mp hm with z | z
            · omega
            · have := hp'.1 _ z
              omega
          | succ j =>
            have h2 : (mg (k + 1) ws (i :: is) (c :: cs))[j]? = some q := by simpa using h'
            rcases ih (k + 1) (i :: is) (c :: cs) j q hp (fun x hx => by
              rcases List.mem_cons.mp hx with z | z
              · omega
              · have := hp'.1 x z; omega) hl h2 with ⟨a, g1, g2⟩ | ⟨g1, g2⟩
            · refine Or.inl ⟨a, ?_, g2⟩
              rw [show k + (j + 1) = k + 1 + j by omega]
              exact g1
            · refine Or.inr ⟨?_, by simpa using g2⟩
              rw [show k + (j + 1) = k + 1 + j by omega]
              exact g1
theorem mg_nil (k : Nat) (ws cs : va_W) : mg k ws [] cs = ws := by cases ws <;> rfl
theorem mg_app0 : ∀ (X : va_W) (k : Nat) (is : List Nat) (cs Y : va_W), is.Pairwise (· < ·) → (∀ i ∈ is, k ≤ i ∧ i < k + X.length) → mg k (X ++ Y) is cs = mg k X is cs ++ Y := by
  intro X
  induction X with
  | nil =>
    intro k is cs Y _ h
    cases is with
    | nil => exact mg_nil k Y cs
    | cons i is =>
      have := h i (List.mem_cons_self ..)
      simp at this
      omega
  | cons x X ih =>
    intro k is cs Y hp h
    cases is with
    | nil => rfl
    | cons i is =>
      cases cs with
      | nil => rfl
      | cons c cs =>
        have hp' := List.pairwise_cons.mp hp
        have hi := h i (List.mem_cons_self ..)
        show (if i = k then c :: mg (k + 1) (X ++ Y) is cs else x :: mg (k + 1) (X ++ Y) (i :: is) (c :: cs)) = (if i = k then c :: mg (k + 1) X is cs else x :: mg (k + 1) X (i :: is) (c :: cs)) ++ Y
        by_cases e : i = k
        · rw [if_pos e, if_pos e, ih (k + 1) is cs Y hp'.2 (fun j hj => by
            have a := hp'.1 j hj
            have b := h j (List.mem_cons_of_mem _ hj)
            simp at b
            omega)]
          rfl
        · rw [if_neg e, if_neg e, ih (k + 1) (i :: is) (c :: cs) Y hp (fun j hj => by
            have b := h j hj
            simp at b
            rcases List.mem_cons.mp hj with z | z
            · omega
            · have a := hp'.1 j z
              omega)]
          rfl
theorem mg_app {X cs Y : va_W} (is : List Nat) (N : Nat) (hp : is.Pairwise (· < ·)) (hN : X.length = N) (h : ∀ i ∈ is, i < N) : mg 0 (X ++ Y) is cs = mg 0 X is cs ++ Y := mg_app0 X 0 is cs Y hp (fun i hi => ⟨Nat.zero_le _, by have := h i hi; omega⟩)
theorem put_len (is : List Nat) (ws cs : va_W) : (mg 0 ws is cs).length = ws.length := mg_len ws 0 is cs
theorem put_get (is : List Nat) (ws cs : va_W) (hp : is.Pairwise (· < ·)) (k : Nat) (q : Nat × va_E) (h : (mg 0 ws is cs)[k]? = some q) (hl : is.length ≤ cs.length) : (∃ j : Nat, is[j]? = some k ∧ cs[j]? = some q) ∨ (k ∉ is ∧ ws[k]? = some q) := by
  have := mg_get ws 0 is cs k q hp (fun _ _ => Nat.zero_le _) hl h
  rw [Nat.zero_add] at this
  exact this
theorem va_joinS {A0 : Nat → Prop} {D : va_G} {cl : List vw_C} {ws wc w1 nw : va_W} {H H1 : Heap} (hP : va_P D cl ws H) (hD : va_D A0 ws) (isC : List Nat) (hC : isC.map (fun i => ws[i]?) = wc.map some) (hn : isC.Pairwise (· < ·)) (hl : isC.length = w1.length)
    (hk : ∀ q : Nat, q < H.size → ¬ va_A wc H.size q → H1[q]? = H[q]?) (hF : ∀ q, va_A wc H.size q → A0 q) (hP1 : va_P D cl (w1 ++ nw) H1) (hD1 : va_D (va_A wc H.size) (w1 ++ nw)) : va_P D cl (mg 0 ws isC w1 ++ nw) H1 ∧ va_D A0 (mg 0 ws isC w1 ++ nw) := by
  have at' : ∀ (k : Nat) (q : Nat × va_E), wc[k]? = some q → ∃ i : Nat, isC[k]? = some i ∧ ws[i]? = some q := by
    intro k q hq
    have h1 : (isC.map (fun i => ws[i]?))[k]? = some (some q) := by rw [hC, List.getElem?_map, hq]; rfl
    rw [List.getElem?_map] at h1
    cases hi : isC[k]? with
    | none => rw [hi] at h1; cases h1
    | some i => rw [hi] at h1; exact ⟨i, rfl, Option.some.inj h1⟩
  have apart : ∀ (k : Nat) (q : Nat × va_E), k ∉ isC → ws[k]? = some q → q.1 < H.size ∧ ¬ va_A wc H.size q.1 := by
    intro k q hk2 hq
    have hlt := (hP k q hq).lt
    refine ⟨hlt, fun h => ?_⟩
    rcases h with ⟨k2, e, h⟩ | h
    · obtain ⟨j, h3, h4⟩ := at' k2 (q.1, e) h
      have hij := hD.1 k j q (q.1, e) hq h4 rfl
      subst hij
      exact hk2 (List.mem_of_getElem? h3)
    · omega
  have len := put_len isC ws w1
  -- where an entry comes from
  have from_ : ∀ (k : Nat) (q : Nat × va_E), (mg 0 ws isC w1 ++ nw)[k]? = some q → (∃ a : Nat, (w1 ++ nw)[a]? = some q ∧ ((isC[a]? = some k ∧ k < ws.length) ∨ (w1.length ≤ a ∧ k = ws.length + (a - w1.length)))) ∨ (k ∉ isC ∧ ws[k]? = some q) := by
    intro k q h
    rcases Nat.lt_or_ge k ws.length with hlt | hge
    · rw [List.getElem?_append_left (by omega)] at h
      rcases put_get isC ws w1 hn k q h (by omega) with ⟨j, h1, h2⟩ | h1
      · refine Or.inl ⟨j, ?_, Or.inl ⟨h1, hlt⟩⟩
        have : j < w1.length := (List.getElem?_eq_some_iff.mp h2).1
        rw [List.getElem?_append_left this]
        exact h2
      · exact Or.inr h1
    · rw [List.getElem?_append_right (by omega), len] at h
      refine Or.inl ⟨w1.length + (k - ws.length), ?_, Or.inr ⟨by omega, by omega⟩⟩
      rw [List.getElem?_append_right (by omega)]
      rw [show w1.length + (k - ws.length) - w1.length = k - ws.length by omega]
      exact h
  refine ⟨fun k q h => ?_, fun i j x y hx hy hxy => ?_, fun k q h => ?_⟩
  · rcases from_ k q h with ⟨a, h1, _⟩ | ⟨h1, h2⟩
    · exact hP1 a q h1
    · obtain ⟨g1, g2⟩ := apart k q h1 h2
      exact (hP k q h2).kept (hk q.1 g1 g2)
  · rcases from_ i x hx with ⟨a, h1, h2⟩ | ⟨h1, h2⟩ <;> rcases from_ j y hy with ⟨b, g1, g2⟩ | ⟨g1, g2⟩
    · have e := hD1.1 a b x y h1 g1 hxy
      subst e
      rcases h2 with ⟨u, u'⟩ | ⟨u, u'⟩ <;> rcases g2 with ⟨v, v'⟩ | ⟨v, v'⟩
      · rw [u] at v; exact Option.some.inj v
      · have : a < isC.length := (List.getElem?_eq_some_iff.mp u).1
        omega
      · have : a < isC.length := (List.getElem?_eq_some_iff.mp v).1
        omega
      · omega
    · exact absurd (by rw [← hxy]; exact hD1.2 a x h1) (apart j y g1 g2).2
    · exact absurd (by rw [hxy]; exact hD1.2 b y g1) (apart i x h1 h2).2
    · exact hD.1 i j x y h2 g2 hxy
  · rcases from_ k q h with ⟨a, h1, _⟩ | ⟨h1, h2⟩
    · exact hF q.1 (hD1.2 a q h1)
    · exact hD.2 k q h2
section
variable {p : Program} {l : Launch} {e : Env} {R : Room} {s : State} {m : MethodId} {args : Array Value} {below : List Frame} {meth : Method} {c : Code} {H : Heap} {locs : List Loc} {cells slots : Nat} {Q : State → Prop} {cc : ByteArray} {pc : Nat} {ls : Array Slot} {rest st0 : List Value} {D : va_G} {cl : List vw_C} {A : Nat → Prop} {tys : List (ClassId × FieldType)} {ws wc : va_W} {y : MethodName} {bytes : ByteArray} {maxL nL n index : Nat} {ret : Option FieldType} {rm : Room} {own C : String} {b : Addr} {As : List Value} {c0 : Cond} {S : Type} {w1 : S → va_W} {tO : Nat} {vF : Value} {adK adV : Nat → Nat} {mc ms : Nat}
theorem ux_VS {out : Int32 × S} {ws' : va_W} (F : CallFix p m c cc nL s args (c0 :: wsL_law) own) (hK : va_K D cl tys s) (hP : va_P D cl ws H) (hD : va_D A ws) (hS : va_S A s.heap H locs) (hA : ∀ q, s.heap.size ≤ q → A q) (hE : xE tO vF adK adV A s s.heap) (isC : List Nat) (hC : isC.map (fun i => ws[i]?) = wc.map some) (hn1 : va_nd isC = true) (hpw : isC.Pairwise (· < ·))
    (hM : Met l y (Cond.code y bytes maxL ret :: wsL_law) rm (va_Pc (.ref b :: As) (ux_pre D cl tys wc H.size (xE tO vF adK adV))) (va_Qi (fun (r : Int32) (u : S) => (r, u) = out) (ux_at D cl tys wc H.size w1) (va_A wc H.size)) 0 0 (va_A wc H.size))
    {q : vw_C} (ci q0 : Nat) {fs : List Value} (hc : cl[ci]? = some q) (he : wc[q0]? = some (b, .inr (ci, fs))) (g1 : Cond.methodLink own index y ∈ wsL_law) (g2 : Cond.instanceMethod y ∈ wsL_law) (g3 : Cond.selects q.1 y y ∈ wsL_law) (g4 : Cond.initialized q.1 ∈ wsL_law) (g5 : Cond.code y bytes maxL ret ∈ wsL_law) (hrm : rm.cells = 0 ∧ rm.slots = 0)
    (hd : y.cls = q.1 ∧ y.cls ≠ "java/lang/invoke/MethodHandle" ∧ y.cls ≠ "java/lang/invoke/VarHandle" ∧ (parseMethodDescriptor y.desc).map (fun d => d.parameters.length) = some n) (hn : As.length = n) (hRm : rm.frames + 1 ≤ R.frames ∧ 8 + (maxL + 11) + rm.locals ≤ R.locals) (hls : ls.size = nL) (hst : st0 = As.reverse ++ .ref b :: rest) (hcat : (rest.map fun v => v.category).sum ≤ 8) (hdg : decode cc pc = .ok (.invokevirtual index, 3)) (hcs : cells ≤ R.cells ∧ slots ≤ R.slots)
    (hl1 : isC.length = (w1 out.2).length) (hw' : ws' = mg 0 ws isC (w1 out.2))
    (kk : ∀ (H1 : Heap) (locs1 : List Loc), va_P D cl ws' H1 → va_D A ws' → va_S A s.heap H1 locs1 → W p l e R s m args below meth c H1 locs1 cells slots Q (F0 m (pc + 3) ls (.int out.1 :: rest))) : W p l e R s m args below meth c H locs cells slots Q (F0 m pc ls st0) := by
  have hPc := hP.sub isC (ux_pick hC)
  have hDc := hD.sub isC hn1 hC
  have hFc := va_free hD hS hA isC hC
  refine va_calli (va_runV (As := As) (rest := rest) F hM (cwV n F.2.2.2.2 (gd_V g1 g2 g3 g4 g5) rfl hrm.1 hrm.2 hd hRm) (ux_preV hK hPc hDc hE hS hFc hc he) rfl hn hls hst (lv_room hcat) hdg ⟨hcs.1, hcs.2⟩) hS (fun q _ h => hFc q h) hFc (fun r u t H1 locs ht hvm hw hB hz1 hk1 hS => ?_)
  obtain ⟨hP1, -, hD1⟩ := hB
  rw [ht] at hP1
  subst hw
  obtain ⟨hP2, hD2⟩ := va_joinS (nw := []) hP hD isC hC hpw hl1 hk1 hFc (by rw [List.append_nil]; exact hP1) (by rw [List.append_nil]; exact hD1)
  rw [List.append_nil] at hP2 hD2
  subst hw'
  exact kk H1 locs hP2 hD2 hS
theorem ux_VS0 {w1 : Unit → va_W} {out : Int32} {ws' : va_W} (F : CallFix p m c cc nL s args (c0 :: wsL_law) own) (hK : va_K D cl tys s) (hP : va_P D cl ws H) (hD : va_D A ws) (hS : va_S A s.heap H locs) (hA : ∀ q, s.heap.size ≤ q → A q) (hE : xE tO vF adK adV A s s.heap) (isC : List Nat) (hC : isC.map (fun i => ws[i]?) = wc.map some) (hn1 : va_nd isC = true) (hpw : isC.Pairwise (· < ·))
    (hM : Met l y (Cond.code y bytes maxL ret :: wsL_law) rm (va_Pc (.ref b :: As) (ux_pre D cl tys wc H.size (xE tO vF adK adV))) (va_Qi (fun (r : Int32) (_ : Unit) => r = out) (ux_at D cl tys wc H.size w1) (va_A wc H.size)) 0 0 (va_A wc H.size))
    {q : vw_C} (ci q0 : Nat) {fs : List Value} (hc : cl[ci]? = some q) (he : wc[q0]? = some (b, .inr (ci, fs))) (g1 : Cond.methodLink own index y ∈ wsL_law) (g2 : Cond.instanceMethod y ∈ wsL_law) (g3 : Cond.selects q.1 y y ∈ wsL_law) (g4 : Cond.initialized q.1 ∈ wsL_law) (g5 : Cond.code y bytes maxL ret ∈ wsL_law) (hrm : rm.cells = 0 ∧ rm.slots = 0)
    (hd : y.cls = q.1 ∧ y.cls ≠ "java/lang/invoke/MethodHandle" ∧ y.cls ≠ "java/lang/invoke/VarHandle" ∧ (parseMethodDescriptor y.desc).map (fun d => d.parameters.length) = some n) (hn : As.length = n) (hRm : rm.frames + 1 ≤ R.frames ∧ 8 + (maxL + 11) + rm.locals ≤ R.locals) (hls : ls.size = nL) (hst : st0 = As.reverse ++ .ref b :: rest) (hcat : (rest.map fun v => v.category).sum ≤ 8) (hdg : decode cc pc = .ok (.invokevirtual index, 3)) (hcs : cells ≤ R.cells ∧ slots ≤ R.slots)
    (hl1 : isC.length = (w1 ()).length) (hw' : ws' = mg 0 ws isC (w1 ()))
    (kk : ∀ (H1 : Heap) (locs1 : List Loc), va_P D cl ws' H1 → va_D A ws' → va_S A s.heap H1 locs1 → W p l e R s m args below meth c H1 locs1 cells slots Q (F0 m (pc + 3) ls (.int out :: rest))) : W p l e R s m args below meth c H locs cells slots Q (F0 m pc ls st0) := by
  have hPc := hP.sub isC (ux_pick hC)
  have hDc := hD.sub isC hn1 hC
  have hFc := va_free hD hS hA isC hC
  refine va_calli (va_runV (As := As) (rest := rest) F hM (cwV n F.2.2.2.2 (gd_V g1 g2 g3 g4 g5) rfl hrm.1 hrm.2 hd hRm) (ux_preV hK hPc hDc hE hS hFc hc he) rfl hn hls hst (lv_room hcat) hdg ⟨hcs.1, hcs.2⟩) hS (fun q _ h => hFc q h) hFc (fun r u t H1 locs ht hvm hw hB hz1 hk1 hS => ?_)
  obtain ⟨hP1, -, hD1⟩ := hB
  rw [ht] at hP1
  subst hw
  obtain ⟨hP2, hD2⟩ := va_joinS (nw := []) hP hD isC hC hpw hl1 hk1 hFc (by rw [List.append_nil]; exact hP1) (by rw [List.append_nil]; exact hD1)
  rw [List.append_nil] at hP2 hD2
  subst hw'
  exact kk H1 locs hP2 hD2 hS
theorem ux_VMS {post : Int32 → S → Prop} {wk wn : S → va_W} (F : CallFix p m c cc nL s args (c0 :: wsL_law) own) (hK : va_K D cl tys s) (hP : va_P D cl ws H) (hD : va_D A ws) (hS : va_S A s.heap H locs) (hA : ∀ q, s.heap.size ≤ q → A q) (hE : xE tO vF adK adV A s s.heap) (isC : List Nat) (hC : isC.map (fun i => ws[i]?) = wc.map some) (hn1 : va_nd isC = true) (hpw : isC.Pairwise (· < ·))
    (hM : Met l y (Cond.code y bytes maxL ret :: wsL_law) rm (va_Pc (.ref b :: As) (ux_pre D cl tys wc H.size (xE tO vF adK adV))) (va_Qi post (ux_at D cl tys wc H.size w1) (va_A wc H.size)) mc ms (va_A wc H.size))
    {q : vw_C} (ci q0 : Nat) {fs : List Value} (hc : cl[ci]? = some q) (he : wc[q0]? = some (b, .inr (ci, fs))) (g1 : Cond.methodLink own index y ∈ wsL_law) (g2 : Cond.instanceMethod y ∈ wsL_law) (g3 : Cond.selects q.1 y y ∈ wsL_law) (g4 : Cond.initialized q.1 ∈ wsL_law) (g5 : Cond.code y bytes maxL ret ∈ wsL_law) (hrm : rm.cells = mc ∧ rm.slots = ms)
    (hd : y.cls = q.1 ∧ y.cls ≠ "java/lang/invoke/MethodHandle" ∧ y.cls ≠ "java/lang/invoke/VarHandle" ∧ (parseMethodDescriptor y.desc).map (fun d => d.parameters.length) = some n) (hn : As.length = n) (hRm : rm.frames + 1 ≤ R.frames ∧ 8 + (maxL + 11) + rm.locals ≤ R.locals) (hls : ls.size = nL) (hst : st0 = As.reverse ++ .ref b :: rest) (hcat : (rest.map fun v => v.category).sum ≤ 8) (hdg : decode cc pc = .ok (.invokevirtual index, 3)) (hcs : cells + mc ≤ R.cells ∧ slots + ms ≤ R.slots)
    (hl1 : ∀ u, isC.length = (wk u).length) (hw1 : ∀ u, w1 u = wk u ++ wn u)
    (kk : ∀ (r : Int32) (u : S) (H1 : Heap) (locs1 : List Loc), post r u → va_P D cl (mg 0 ws isC (wk u) ++ wn u) H1 → va_D A (mg 0 ws isC (wk u) ++ wn u) → va_S A s.heap H1 locs1 → W p l e R s m args below meth c H1 locs1 (cells + mc) (slots + ms) Q (F0 m (pc + 3) ls (.int r :: rest))) : W p l e R s m args below meth c H locs cells slots Q (F0 m pc ls st0) := by
  have hPc := hP.sub isC (ux_pick hC)
  have hDc := hD.sub isC hn1 hC
  have hFc := va_free hD hS hA isC hC
  refine va_calli (va_runV (As := As) (rest := rest) F hM (cwV n F.2.2.2.2 (gd_V g1 g2 g3 g4 g5) rfl hrm.1 hrm.2 hd hRm) (ux_preV hK hPc hDc hE hS hFc hc he) rfl hn hls hst (lv_room hcat) hdg ⟨hcs.1, hcs.2⟩) hS (fun q _ h => hFc q h) hFc (fun r u t H1 locs ht hvm hw hB hz1 hk1 hS => ?_)
  obtain ⟨hP1, -, hD1⟩ := hB
  rw [ht] at hP1
  obtain ⟨hP2, hD2⟩ := va_joinS (w1 := wk u) (nw := wn u) hP hD isC hC hpw (hl1 u) hk1 hFc (by rw [← hw1]; exact hP1) (by rw [← hw1]; exact hD1)
  exact kk r u H1 locs hw hP2 hD2 hS
end
