def bs {α β γ : Type} (x : Option (α ⊕ β)) (k1 : α → Option γ) (k2 : β → Option γ) : Option γ := match x with
  | some (.inl a) => k1 a
  | some (.inr b) => k2 b
  | none => none
theorem bs_some {α β γ : Type} {x : Option (α ⊕ β)} {k1 : α → Option γ} {k2 : β → Option γ} {o : γ} (h : bs x k1 k2 = some o) : (∃ a, x = some (.inl a) ∧ k1 a = some o) ∨ (∃ b, x = some (.inr b) ∧ k2 b = some o) := by
  cases x with
  | none => exact absurd h (by simp [bs])
  | some z => cases z with
    | inl a => exact Or.inl ⟨a, rfl, h⟩
    | inr b => exact Or.inr ⟨b, rfl, h⟩
def mapS {α β : Type} (x : Option β) : Option (α ⊕ β) := match x with
  | some b => some (.inr b)
  | none => none
theorem mapS_inl {α β : Type} {x : Option β} {a : α} {P : Prop} (h : (mapS x : Option (α ⊕ β)) = some (.inl a)) : P := by
  cases x <;> simp [mapS] at h
theorem mapS_inr {α β : Type} {x : Option β} {b : β} (h : (mapS x : Option (α ⊕ β)) = some (.inr b)) : x = some b := by
  cases x with
  | none => simp [mapS] at h
  | some z => simp only [mapS, Option.some.injEq, Sum.inr.injEq] at h; rw [h]
theorem inl_inj {α β : Type} {a b : α} (h : (some (Sum.inl a) : Option (α ⊕ β)) = some (.inl b)) : a = b := by
  simp only [Option.some.injEq, Sum.inl.injEq] at h; exact h
theorem inl_inr {α β : Type} {a : α} {b : β} {P : Prop} (h : (some (Sum.inl a) : Option (α ⊕ β)) = some (.inr b)) : P := by simp at h

section
variable {p : Program} {l : Launch} {e : Env} {R : Room} {s : State} {m : MethodId} {args : Array Value} {below : List Frame} {meth : Method} {c : Code} {H : Heap} {locs : List Loc} {cells slots : Nat} {Q : State → Prop} {cc : ByteArray} {pc : Nat} {ls : Array Slot} {rest st0 : List Value} {D : va_G} {cl : List vw_C} {A : Nat → Prop} {tys : List (ClassId × FieldType)} {ws wc wr : va_W} {y : MethodName} {bytes : ByteArray} {maxL nL n index : Nat} {ret : Option FieldType} {rm : Room} {own C : String} {b : Addr} {As : List Value} {c0 : Cond} {S : Type} {w1 : S → va_W} {tO : Nat} {vF : Value} {adK adV : Nat → Nat} {mc ms : Nat}
theorem ux_VMi {post : Int32 → S → Prop} (F : CallFix p m c cc nL s args (c0 :: wsL_law) own) (hK : va_K D cl tys s) (hP : va_P D cl ws H) (hD : va_D A ws) (hS : va_S A s.heap H locs) (hA : ∀ q, s.heap.size ≤ q → A q) (hE : xE tO vF adK adV A s s.heap) (isC isR : List Nat) (hC : isC.map (fun i => ws[i]?) = wc.map some) (hR : isR.map (fun i => ws[i]?) = wr.map some) (hn1 : va_nd isC = true) (hn2 : va_nd isR = true) (hn3 : ∀ i ∈ isR, i ∉ isC)
    (hM : Met l y (Cond.code y bytes maxL ret :: wsL_law) rm (va_Pc (.ref b :: As) (ux_pre D cl tys wc H.size (xE tO vF adK adV))) (va_Qi post (ux_at D cl tys wc H.size w1) (va_A wc H.size)) mc ms (va_A wc H.size))
    {q : vw_C} (ci q0 : Nat) {fs : List Value} (hc : cl[ci]? = some q) (he : wc[q0]? = some (b, .inr (ci, fs))) (g1 : Cond.methodLink own index y ∈ wsL_law) (g2 : Cond.instanceMethod y ∈ wsL_law) (g3 : Cond.selects q.1 y y ∈ wsL_law) (g4 : Cond.initialized q.1 ∈ wsL_law) (g5 : Cond.code y bytes maxL ret ∈ wsL_law) (hrm : rm.cells = mc ∧ rm.slots = ms)
    (hd : y.cls = q.1 ∧ y.cls ≠ "java/lang/invoke/MethodHandle" ∧ y.cls ≠ "java/lang/invoke/VarHandle" ∧ (parseMethodDescriptor y.desc).map (fun d => d.parameters.length) = some n) (hn : As.length = n) (hRm : rm.frames + 1 ≤ R.frames ∧ 8 + (maxL + 11) + rm.locals ≤ R.locals) (hls : ls.size = nL) (hst : st0 = As.reverse ++ .ref b :: rest) (hcat : (rest.map fun v => v.category).sum ≤ 8) (hdg : decode cc pc = .ok (.invokevirtual index, 3)) (hcs : cells + mc ≤ R.cells ∧ slots + ms ≤ R.slots)
    (kk : ∀ (r : Int32) (u : S) (H1 : Heap) (locs1 : List Loc), post r u → va_P D cl (wr ++ w1 u) H1 → va_D A (wr ++ w1 u) → va_S A s.heap H1 locs1 → W p l e R s m args below meth c H1 locs1 (cells + mc) (slots + ms) Q (F0 m (pc + 3) ls (.int r :: rest))) : W p l e R s m args below meth c H locs cells slots Q (F0 m pc ls st0) := by
  have hPc := hP.sub isC (ux_pick hC)
  have hDc := hD.sub isC hn1 hC
  have hFc := va_free hD hS hA isC hC
  refine va_calli (va_runV (As := As) (rest := rest) F hM (cwV n F.2.2.2.2 (gd_V g1 g2 g3 g4 g5) rfl hrm.1 hrm.2 hd hRm) (ux_preV hK hPc hDc hE hS hFc hc he) rfl hn hls hst (lv_room hcat) hdg ⟨hcs.1, hcs.2⟩) hS (fun q _ h => hFc q h) hFc (fun r u t H1 locs ht hvm hw hB hz1 hk1 hS => ?_)
  obtain ⟨hP1, -, hD1⟩ := hB
  rw [ht] at hP1
  obtain ⟨hP2, hD2⟩ := va_join hP hD isC isR hC hR hn2 hn3 hk1 hFc hP1 hD1
  exact kk r u H1 locs hw hP2 hD2 hS
theorem ux_VMv {post : S → Prop} (F : CallFix p m c cc nL s args (c0 :: wsL_law) own) (hK : va_K D cl tys s) (hP : va_P D cl ws H) (hD : va_D A ws) (hS : va_S A s.heap H locs) (hA : ∀ q, s.heap.size ≤ q → A q) (hE : xE tO vF adK adV A s s.heap) (isC isR : List Nat) (hC : isC.map (fun i => ws[i]?) = wc.map some) (hR : isR.map (fun i => ws[i]?) = wr.map some) (hn1 : va_nd isC = true) (hn2 : va_nd isR = true) (hn3 : ∀ i ∈ isR, i ∉ isC)
    (hM : Met l y (Cond.code y bytes maxL ret :: wsL_law) rm (va_Pc (.ref b :: As) (ux_pre D cl tys wc H.size (xE tO vF adK adV))) (va_Qv post (ux_at D cl tys wc H.size w1) (va_A wc H.size)) mc ms (va_A wc H.size))
    {q : vw_C} (ci q0 : Nat) {fs : List Value} (hc : cl[ci]? = some q) (he : wc[q0]? = some (b, .inr (ci, fs))) (g1 : Cond.methodLink own index y ∈ wsL_law) (g2 : Cond.instanceMethod y ∈ wsL_law) (g3 : Cond.selects q.1 y y ∈ wsL_law) (g4 : Cond.initialized q.1 ∈ wsL_law) (g5 : Cond.code y bytes maxL ret ∈ wsL_law) (hrm : rm.cells = mc ∧ rm.slots = ms)
    (hd : y.cls = q.1 ∧ y.cls ≠ "java/lang/invoke/MethodHandle" ∧ y.cls ≠ "java/lang/invoke/VarHandle" ∧ (parseMethodDescriptor y.desc).map (fun d => d.parameters.length) = some n) (hn : As.length = n) (hRm : rm.frames + 1 ≤ R.frames ∧ 8 + (maxL + 11) + rm.locals ≤ R.locals) (hls : ls.size = nL) (hst : st0 = As.reverse ++ .ref b :: rest) (hcat : (rest.map fun v => v.category).sum ≤ 8) (hdg : decode cc pc = .ok (.invokevirtual index, 3)) (hcs : cells + mc ≤ R.cells ∧ slots + ms ≤ R.slots)
    (kk : ∀ (u : S) (H1 : Heap) (locs1 : List Loc), post u → va_P D cl (wr ++ w1 u) H1 → va_D A (wr ++ w1 u) → va_S A s.heap H1 locs1 → W p l e R s m args below meth c H1 locs1 (cells + mc) (slots + ms) Q (F0 m (pc + 3) ls (rest))) : W p l e R s m args below meth c H locs cells slots Q (F0 m pc ls st0) := by
  have hPc := hP.sub isC (ux_pick hC)
  have hDc := hD.sub isC hn1 hC
  have hFc := va_free hD hS hA isC hC
  refine va_callv (va_runV (As := As) (rest := rest) F hM (cwV n F.2.2.2.2 (gd_V g1 g2 g3 g4 g5) rfl hrm.1 hrm.2 hd hRm) (ux_preV hK hPc hDc hE hS hFc hc he) rfl hn hls hst (lv_room hcat) hdg ⟨hcs.1, hcs.2⟩) hS (fun q _ h => hFc q h) hFc (fun u t H1 locs ht hvm hw hB hz1 hk1 hS => ?_)
  obtain ⟨hP1, -, hD1⟩ := hB
  rw [ht] at hP1
  obtain ⟨hP2, hD2⟩ := va_join hP hD isC isR hC hR hn2 hn3 hk1 hFc hP1 hD1
  exact kk u H1 locs hw hP2 hD2 hS
end
theorem ux_metGi {l : Launch} {y : MethodName} {cc : ByteArray} {maxL : Nat} {rm : Room} {D : va_G} {cl : List vw_C} {tys : List (ClassId × FieldType)} {w0 : va_W} {sz : Nat} {S : Type} {w1 : S → va_W} {post : Int32 → S → Prop} {av : List Value} {tO : Nat} {vF : Value} {adK adV : Nat → Nat} {mc ms : Nat} (hy : plainFor y = true) (hlen : (lg_sl av).length ≤ maxL)
    (body : ∀ (p : Program) (e : Env) (s : State) (m : MethodId) (below : List Frame) (meth : Method) (c : Code) (A : Nat → Prop) (Q : State → Prop) (ls : Array Slot), p.tables.exec = Jvm.exec → c.code = cc → c.maxLocals = maxL → (∀ w ∈ (Cond.code y cc maxL (some .int) :: wsL_law), w.before av.toArray s = true) → s.vm.findClass y.cls = some m.cls → (∀ q, s.heap.size ≤ q → A q) → va_P D cl w0 s.heap → va_K D cl tys s → va_D A w0 → xE tO vF adK adV A s s.heap → lv_has ls maxL (lv_args 0 av) →
      (∀ (H : Heap) (locs : List Loc) (pc : Nat) (ls : Array Slot) (v : Int32) (u : S), decode cc pc = .ok (.ireturn, 1) → post v u → va_P D cl (w1 u) H → va_D A (w1 u) → va_S A s.heap H locs → W p l e rm s m av.toArray below meth c H locs mc ms Q (F0 m pc ls [.int v])) →
      W p l e rm s m av.toArray below meth c s.heap [] 0 0 Q (F0 m 0 ls [])) :
    Met l y (Cond.code y cc maxL (some .int) :: wsL_law) rm (va_Pc av (ux_pre D cl tys w0 sz (xE tO vF adK adV))) (va_Qi post (ux_at D cl tys w0 sz w1) (va_A w0 sz)) mc ms (va_A w0 sz) := by
  refine va_MetF (cc := cc) (maxL := maxL) (ret := (some .int)) hy rfl ?_
  intro p e s m args below meth c s₁ B hml hv
  obtain ⟨rfl, hsz, hP, hK, hD0, hE⟩ := hv
  have hx := B.exec
  have hb := B.bytes
  have hr := B.returns
  have hts := atoms_spec (ws := Cond.code y cc maxL (some .int) :: wsL_law) B.pre
  have hown : s.vm.findClass y.cls = some m.cls := findClass_of_methodNamed B.named
  have hlocks := B.notSynchronized
  subst hsz
  have hD := hD0.self (sz := s.heap.size)
  have hA : ∀ q : Nat, s.heap.size ≤ q → va_A w0 s.heap.size q := fun q h => Or.inr h
  have hl := lv_entry av (n := maxL) hlen
  rw [lg_entry_eq]
  refine body p e s m below meth c _ _ _ hx hb hml hts hown hA hP hK hD hE hl ?_
  intro H locs pc ls v u hdg hu hP hD hS
  exact W.iret hx hb hr (fun t ht hWm => ⟨⟨v, u, rfl, hu, by rw [ht]; exact hP, va_K.moved hWm.alike hK, hD⟩, hS.F ht⟩) hS.2.2 hdg
theorem ux_metGz {l : Launch} {y : MethodName} {cc : ByteArray} {maxL : Nat} {rm : Room} {D : va_G} {cl : List vw_C} {tys : List (ClassId × FieldType)} {w0 : va_W} {sz : Nat} {S : Type} {w1 : S → va_W} {post : Int32 → S → Prop} {av : List Value} {tO : Nat} {vF : Value} {adK adV : Nat → Nat} {mc ms : Nat} (hy : plainFor y = true) (hlen : (lg_sl av).length ≤ maxL)
    (body : ∀ (p : Program) (e : Env) (s : State) (m : MethodId) (below : List Frame) (meth : Method) (c : Code) (A : Nat → Prop) (Q : State → Prop) (ls : Array Slot), p.tables.exec = Jvm.exec → c.code = cc → c.maxLocals = maxL → (∀ w ∈ (Cond.code y cc maxL (some .boolean) :: wsL_law), w.before av.toArray s = true) → s.vm.findClass y.cls = some m.cls → (∀ q, s.heap.size ≤ q → A q) → va_P D cl w0 s.heap → va_K D cl tys s → va_D A w0 → xE tO vF adK adV A s s.heap → lv_has ls maxL (lv_args 0 av) →
      (∀ (H : Heap) (locs : List Loc) (pc : Nat) (ls : Array Slot) (v : Int32) (u : S), decode cc pc = .ok (.ireturn, 1) → post v u → isz v = true → va_P D cl (w1 u) H → va_D A (w1 u) → va_S A s.heap H locs → W p l e rm s m av.toArray below meth c H locs mc ms Q (F0 m pc ls [.int v])) →
      W p l e rm s m av.toArray below meth c s.heap [] 0 0 Q (F0 m 0 ls [])) :
    Met l y (Cond.code y cc maxL (some .boolean) :: wsL_law) rm (va_Pc av (ux_pre D cl tys w0 sz (xE tO vF adK adV))) (va_Qi post (ux_at D cl tys w0 sz w1) (va_A w0 sz)) mc ms (va_A w0 sz) := by
  refine va_MetF (cc := cc) (maxL := maxL) (ret := (some .boolean)) hy rfl ?_
  intro p e s m args below meth c s₁ B hml hv
  obtain ⟨rfl, hsz, hP, hK, hD0, hE⟩ := hv
  have hx := B.exec
  have hb := B.bytes
  have hr := B.returns
  have hts := atoms_spec (ws := Cond.code y cc maxL (some .boolean) :: wsL_law) B.pre
  have hown : s.vm.findClass y.cls = some m.cls := findClass_of_methodNamed B.named
  have hlocks := B.notSynchronized
  subst hsz
  have hD := hD0.self (sz := s.heap.size)
  have hA : ∀ q : Nat, s.heap.size ≤ q → va_A w0 s.heap.size q := fun q h => Or.inr h
  have hl := lv_entry av (n := maxL) hlen
  rw [lg_entry_eq]
  refine body p e s m below meth c _ _ _ hx hb hml hts hown hA hP hK hD hE hl ?_
  intro H locs pc ls v u hdg hu hz hP hD hS
  exact W.zret hx hb hr (isz_nar hz) (fun t ht hWm => ⟨⟨v, u, rfl, hu, by rw [ht]; exact hP, va_K.moved hWm.alike hK, hD⟩, hS.F ht⟩) hS.2.2 hdg
theorem ux_metGv {l : Launch} {y : MethodName} {cc : ByteArray} {maxL : Nat} {rm : Room} {D : va_G} {cl : List vw_C} {tys : List (ClassId × FieldType)} {w0 : va_W} {sz : Nat} {S : Type} {w1 : S → va_W} {post : S → Prop} {av : List Value} {tO : Nat} {vF : Value} {adK adV : Nat → Nat} {mc ms : Nat} (hy : plainFor y = true) (hlen : (lg_sl av).length ≤ maxL)
    (body : ∀ (p : Program) (e : Env) (s : State) (m : MethodId) (below : List Frame) (meth : Method) (c : Code) (A : Nat → Prop) (Q : State → Prop) (ls : Array Slot), p.tables.exec = Jvm.exec → c.code = cc → c.maxLocals = maxL → (∀ w ∈ (Cond.code y cc maxL none :: wsL_law), w.before av.toArray s = true) → s.vm.findClass y.cls = some m.cls → (∀ q, s.heap.size ≤ q → A q) → va_P D cl w0 s.heap → va_K D cl tys s → va_D A w0 → xE tO vF adK adV A s s.heap → lv_has ls maxL (lv_args 0 av) →
      (∀ (H : Heap) (locs : List Loc) (pc : Nat) (ls : Array Slot) (u : S), decode cc pc = .ok (.return_, 1) → post u → va_P D cl (w1 u) H → va_D A (w1 u) → va_S A s.heap H locs → W p l e rm s m av.toArray below meth c H locs mc ms Q (F0 m pc ls [])) →
      W p l e rm s m av.toArray below meth c s.heap [] 0 0 Q (F0 m 0 ls [])) :
    Met l y (Cond.code y cc maxL none :: wsL_law) rm (va_Pc av (ux_pre D cl tys w0 sz (xE tO vF adK adV))) (va_Qv post (ux_at D cl tys w0 sz w1) (va_A w0 sz)) mc ms (va_A w0 sz) := by
  refine va_MetF (cc := cc) (maxL := maxL) (ret := none) hy rfl ?_
  intro p e s m args below meth c s₁ B hml hv
  obtain ⟨rfl, hsz, hP, hK, hD0, hE⟩ := hv
  have hx := B.exec
  have hb := B.bytes
  have hr := B.returns
  have hts := atoms_spec (ws := Cond.code y cc maxL none :: wsL_law) B.pre
  have hown : s.vm.findClass y.cls = some m.cls := findClass_of_methodNamed B.named
  have hlocks := B.notSynchronized
  subst hsz
  have hD := hD0.self (sz := s.heap.size)
  have hA : ∀ q : Nat, s.heap.size ≤ q → va_A w0 s.heap.size q := fun q h => Or.inr h
  have hl := lv_entry av (n := maxL) hlen
  rw [lg_entry_eq]
  refine body p e s m below meth c _ _ _ hx hb hml hts hown hA hP hK hD hE hl ?_
  intro H locs pc ls u hdg hu hP hD hS
  exact W.vret hx hb hr (fun t ht hWm => ⟨⟨u, rfl, hu, by rw [ht]; exact hP, va_K.moved hWm.alike hK, hD⟩, hS.F ht⟩) hS.2.2 hdg
def xbl (hB : Nat → Nat) : Nat → Option Nat := va_up (va_up (va_up (va_up (va_up (va_up (va_up (va_up (va_up (va_up (va_up (va_up (va_up (va_up (fun _ => none) (0 : Int32).toNatClampNeg (some (hB 0))) (1 : Int32).toNatClampNeg (some (hB 1))) (2 : Int32).toNatClampNeg (some (hB 2))) (3 : Int32).toNatClampNeg (some (hB 3))) (4 : Int32).toNatClampNeg (some (hB 4))) (5 : Int32).toNatClampNeg (some (hB 5))) (6 : Int32).toNatClampNeg (some (hB 6))) (7 : Int32).toNatClampNeg (some (hB 7))) (8 : Int32).toNatClampNeg (some (hB 8))) (9 : Int32).toNatClampNeg (some (hB 9))) (10 : Int32).toNatClampNeg (some (hB 10))) (11 : Int32).toNatClampNeg (some (hB 11))) (12 : Int32).toNatClampNeg (some (hB 12))) (13 : Int32).toNatClampNeg (some (hB 13))
