/-! the pure side: checks, names, bindings; the call rows over one list of words -/
def ck {α : Type} (b : Bool) (k : Option α) : Option α := match b with
  | true => k
  | false => none
theorem ck_some {α : Type} {b : Bool} {k : Option α} {o : α} (h : ck b k = some o) : b = true ∧ k = some o := by
  cases b
  · exact absurd h (by simp [ck])
  · exact ⟨rfl, h⟩
def inb (i : Int32) (n : Nat) : Bool := decide (¬ (i < 0 ∨ n ≤ i.toNatClampNeg))
theorem inb_in {i : Int32} {n : Nat} (h : inb i n = true) : vp_in i n := by
  have h1 : ¬ (i < 0 ∨ n ≤ i.toNatClampNeg) := of_decide_eq_true h
  exact h1
def nz (y : Int32) : Bool := decide (¬ y = 0)
theorem nz_ne {y : Int32} (h : nz y = true) : ¬ y = 0 := of_decide_eq_true h
def nzl (y : Int64) : Bool := decide (¬ y = 0)
theorem nzl_ne {y : Int64} (h : nzl y = true) : ¬ y = 0 := of_decide_eq_true h
def isz (y : Int32) : Bool := decide (y = 0 ∨ y = 1)
theorem isz_nar {y : Int32} (h : isz y = true) : narrow .boolean (.int y) = .int y := by
  rcases (of_decide_eq_true h : y = 0 ∨ y = 1) with rfl | rfl <;> rfl
theorem isz_fit {y : Int32} (h : isz y = true) : fits .boolean (.int y) = true := by
  rcases (of_decide_eq_true h : y = 0 ∨ y = 1) with rfl | rfl <;> rfl
def isc (y : Int32) : Bool := decide ((y.toUInt32 % 65536).toInt32 = y)
theorem isc_nar {y : Int32} (h : isc y = true) : narrow .char (.int y) = .int y := by
  have h1 : (y.toUInt32 % 65536).toInt32 = y := of_decide_eq_true h
  have h2 := pk_nc y
  rw [h1] at h2
  exact h2
def isb (y : Int32) : Bool := decide (y.toInt8.toInt32 = y)
theorem isb_nar {y : Int32} (h : isb y = true) : narrow .byte (.int y) = .int y := by
  have h1 : y.toInt8.toInt32 = y := of_decide_eq_true h
  have h2 := pk_nb y
  rw [h1] at h2
  exact h2
/-- a value gets a name -/
def nm {α β : Type} (x : α) (k : α → Option β) : Option β := k x
theorem nm_some {α β : Type} {x : α} {k : α → Option β} {o : β} (h : nm x k = some o) : ∃ y : α, y = x ∧ k y = some o := ⟨x, rfl, h⟩
def bd {α β : Type} (x : Option α) (k : α → Option β) : Option β := match x with
  | some a => k a
  | none => none
theorem bd_some {α β : Type} {x : Option α} {k : α → Option β} {o : β} (h : bd x k = some o) : ∃ a : α, x = some a ∧ k a = some o := by
  cases x with
  | none => exact absurd h (by simp [bd])
  | some a => exact ⟨a, rfl, h⟩
theorem no_some {α : Type} {o : α} {P : Prop} (h : (none : Option α) = some o) : P := by cases h
theorem gd_L {c0 : Cond} {w : Cond} (h : w ∈ wsL_law) : w ∈ (c0 :: wsL_law) ∧ ((w.onTables && w.keeps) = true ∨ ∃ ty, w = .arrayClass ty) := ⟨List.mem_cons_of_mem _ h, good_of_word (wL_good w h)⟩
theorem gd_V {c0 : Cond} {own C : String} {idx n : Nat} {y : MethodName} {bytes : ByteArray} {ret : Option FieldType} (h1 : Cond.methodLink own idx y ∈ wsL_law) (h2 : Cond.instanceMethod y ∈ wsL_law) (h3 : Cond.selects C y y ∈ wsL_law) (h4 : Cond.initialized C ∈ wsL_law) (h5 : Cond.code y bytes n ret ∈ wsL_law) : GoodIn (c0 :: wsL_law) (wsV own idx C y (Cond.code y bytes n ret :: wsL_law)) := by
  intro w hw
  rcases List.mem_append.mp hw with hw | hw
  · rcases List.mem_cons.mp hw with rfl | hw
    · exact gd_L h1
    rcases List.mem_cons.mp hw with rfl | hw
    · exact gd_L h2
    rcases List.mem_cons.mp hw with rfl | hw
    · exact gd_L h3
    rcases List.mem_cons.mp hw with rfl | hw
    · exact gd_L h4
    · exact absurd hw List.not_mem_nil
  · rcases List.mem_cons.mp hw with rfl | hw
    · exact gd_L h5
    · exact gd_L hw
theorem gd_S {c0 : Cond} {own : String} {idx n : Nat} {y : MethodName} {bytes : ByteArray} {ret : Option FieldType} (h1 : Cond.methodLink own idx y ∈ wsL_law) (h2 : Cond.static y ∈ wsL_law) (h4 : Cond.initialized y.cls ∈ wsL_law) (h5 : Cond.code y bytes n ret ∈ wsL_law) : GoodIn (c0 :: wsL_law) (va_wsS own idx y (Cond.code y bytes n ret :: wsL_law)) := by
  intro w hw
  rcases List.mem_append.mp hw with hw | hw
  · rcases List.mem_cons.mp hw with rfl | hw
    · exact gd_L h1
    rcases List.mem_cons.mp hw with rfl | hw
    · exact gd_L h2
    rcases List.mem_cons.mp hw with rfl | hw
    · exact gd_L h4
    · exact absurd hw List.not_mem_nil
  · rcases List.mem_cons.mp hw with rfl | hw
    · exact gd_L h5
    · exact gd_L hw
theorem gd_I {c0 : Cond} {n : Nat} {y : MethodName} {bytes : ByteArray} {ret : Option FieldType} (h5 : Cond.code y bytes n ret ∈ wsL_law) : GoodIn (c0 :: wsL_law) (Cond.code y bytes n ret :: wsL_law) := by
  intro w hw
  rcases List.mem_cons.mp hw with rfl | hw
  · exact gd_L h5
  · exact gd_L hw
/-! what stays as it was at the start: nest links, the static table, the texts -/
def xOI (j : Nat) : Int32 := ([1, 1, 2, 6, 24, 120, 720] : List Int32).getD j 0
def xOrd : Nat → Value := fun j => .int (xOI j)
def xLen : List Nat := [8, 4, 4, 5, 4, 7, 2, 4, 3, 5, 4, 3]
def xByt : List (List Int32) := [[59, 61, 43, 45, 42, 47, 40, 41], [99, 101, 108, 108], [112, 97, 115, 115], [114, 105, 118, 101, 114], [114, 97, 105, 110], [118, 105, 108, 108, 97, 103, 101], [97, 116], [115, 101, 101, 110], [100, 97, 121], [116, 111, 100, 97, 121], [116, 111, 111, 107], [100, 114, 121]]
def xSi (i : Nat) : Nat := ([121, 129, 135, 137, 139, 141, 143, 145, 147, 149, 151, 153] : List Nat).getD i 0
def xSt (i : Nat) : String := ([";=+-*/()", "cell", "pass", "river", "rain", "village", "at", "seen", "day", "today", "took", "dry"] : List String).getD i ""
def xNo (i : Nat) : String := (["WellVillages", "WellVillages", "WellVillages", "WellVillages", "WellVillages$Evidence", "WellVillages$Evidence", "WellVillages$Ground", "WellVillages$Plan", "WellVillages$Reader"] : List String).getD i ""
def xNi (i : Nat) : Nat := ([22, 29, 36, 52, 33, 40, 85, 54, 30] : List Nat).getD i 0
def xNy (i : Nat) : MethodName := ([⟨"WellVillages$Reader", "<init>", "()V"⟩, ⟨"WellVillages$Ground", "<init>", "()V"⟩, ⟨"WellVillages$Plan", "<init>", "()V"⟩, ⟨"WellVillages$Days", "<init>", "()V"⟩, ⟨"WellVillages$Plan", "<init>", "()V"⟩, ⟨"WellVillages$Days", "<init>", "()V"⟩, ⟨"WellVillages", "has", "(II)Z"⟩, ⟨"WellVillages", "has", "(II)Z"⟩, ⟨"WellVillages$Ground", "<init>", "()V"⟩] : List MethodName).getD i ⟨"", "", ""⟩
def xE (tO : Nat) (vF : Value) (adK adV : Nat → Nat) (A : Nat → Prop) (U : State) (H : Heap) : Prop :=
  (∀ i, i < 9 → va_Nw (.methodLinkNest (xNo i) (xNi i) (xNy i) "WellVillages") U) ∧ (va_Z "WellVillages" "ORDERS" "[I" (.ref tO) A U H ∧ va_T .int tO 7 xOrd A U H) ∧ (va_Z "java/lang/String" "COMPACT_STRINGS" "Z" (.int 1) A U H ∧ va_Z "jdk/internal/util/Preconditions" "SIOOBE_FORMATTER" "Ljava/util/function/BiFunction;" vF A U H ∧ (vF = .null ∨ ∃ t, vF = .ref t)) ∧ vk_S 12 xLen xByt adK adV A U H ∧ (∀ i, i < 12 → vk_R "WellVillages$Reader" (xSi i) (xSt i) (adK i) U) ∧ va_AO "WellVillages$Days" U
section
variable {tO : Nat} {vF : Value} {adK adV : Nat → Nat} {A B : Nat → Prop} {s U : State} {H H1 : Heap}
theorem xE.moved (hW : s.WarmedH U.vm) (h : xE tO vF adK adV A s H) : xE tO vF adK adV A U H :=
  ⟨fun i hi => va_Nw.warmM hW (h.1 i hi), ⟨va_Z.moved hW.alike h.2.1.1, va_T.moved hW.alike h.2.1.2⟩, ⟨va_Z.moved hW.alike h.2.2.1.1, va_Z.moved hW.alike h.2.2.1.2.1, h.2.2.1.2.2⟩, vk_S.moved hW.alike h.2.2.2.1, fun i hi => vk_R.warm hW (h.2.2.2.2.1 i hi), va_AO.moved hW.alike h.2.2.2.2.2⟩
theorem xE.kept (h : xE tO vF adK adV A U H) (hq : ∀ a : Nat, a < H.size → ¬ A a → H1[a]? = H[a]?) : xE tO vF adK adV A U H1 :=
  ⟨h.1, ⟨va_Z.kept h.2.1.1 hq, va_T.kept h.2.1.2 hq⟩, ⟨va_Z.kept h.2.2.1.1 hq, va_Z.kept h.2.2.1.2.1 hq, h.2.2.1.2.2⟩, vk_S.kept h.2.2.2.1 hq, h.2.2.2.2⟩
theorem xE.narrow (h : xE tO vF adK adV A U H) (hAB : ∀ q, B q → A q) : xE tO vF adK adV B U H :=
  ⟨h.1, ⟨va_Z.narrow h.2.1.1 hAB, va_T.narrow h.2.1.2 hAB⟩, ⟨va_Z.narrow h.2.2.1.1 hAB, va_Z.narrow h.2.2.1.2.1 hAB, h.2.2.1.2.2⟩, vk_S.narrow h.2.2.2.1 hAB, h.2.2.2.2⟩
theorem xE.calling (h : xE tO vF adK adV A U U.heap) (g : JFrame) (mk : MethodId) (a : Array Value) : xE tO vF adK adV A (U.calling g mk a) (U.calling g mk a).heap :=
  ⟨fun i hi => va_Nw.same rfl (u := U) rfl (h.1 i hi), ⟨va_Z.moved (u := U) (Vm.Alike.refl U.vm) h.2.1.1, va_T.moved (u := U) (Vm.Alike.refl U.vm) h.2.1.2⟩, ⟨va_Z.moved (u := U) (Vm.Alike.refl U.vm) h.2.2.1.1, va_Z.moved (u := U) (Vm.Alike.refl U.vm) h.2.2.1.2.1, h.2.2.1.2.2⟩, vk_S.moved (u := U) (Vm.Alike.refl U.vm) h.2.2.2.1, fun i hi => vk_R.same (u := U) rfl (h.2.2.2.2.1 i hi), va_AO.moved (u := U) (Vm.Alike.refl U.vm) h.2.2.2.2.2⟩
end
/-- the world of a contract: what the callee is given, and what it hands back -/
abbrev ux_pre (D : va_G) (cl : List vw_C) (tys : List (ClassId × FieldType)) (wc : va_W) (sz : Nat) (E : (Nat → Prop) → State → Heap → Prop) : State → Prop := fun U => U.heap.size = sz ∧ va_P D cl wc U.heap ∧ va_K D cl tys U ∧ va_D (fun _ => True) wc ∧ E (va_A wc sz) U U.heap
abbrev ux_at {S : Type} (D : va_G) (cl : List vw_C) (tys : List (ClassId × FieldType)) (wc : va_W) (sz : Nat) (w1 : S → va_W) : S → State → Prop := fun u t => va_P D cl (w1 u) t.heap ∧ va_K D cl tys t ∧ va_D (va_A wc sz) (w1 u)
section
variable {p : Program} {l : Launch} {e : Env} {R : Room} {s : State} {m : MethodId} {args : Array Value} {below : List Frame} {meth : Method} {c : Code} {H : Heap} {locs : List Loc} {cells slots : Nat} {Q : State → Prop} {cc : ByteArray} {pc : Nat} {ls : Array Slot} {rest st0 : List Value} {D : va_G} {cl : List vw_C} {A : Nat → Prop} {tys : List (ClassId × FieldType)} {ws wc wr : va_W} {y : MethodName} {bytes : ByteArray} {maxL nL n index : Nat} {ret : Option FieldType} {rm : Room} {own C : String} {b : Addr} {As : List Value} {c0 : Cond} {S : Type} {w1 : S → va_W} {tO : Nat} {vF : Value} {adK adV : Nat → Nat} {mc ms : Nat}
theorem ux_blind {av : List Value} {sz : Nat} : FrameBlind (va_Pc av (ux_pre D cl tys wc sz (xE tO vF adK adV))) := fun a U g mk q => by
  obtain ⟨q0, q1, qP, qK, qD, qE⟩ := q
  exact ⟨q0, q1, qP, va_K.moved (u := U) (U := U.calling g mk a) (Vm.Alike.refl U.vm) qK, qD, qE.calling g mk a⟩
theorem ux_Eof (hE : xE tO vF adK adV A s s.heap) (hS : va_S A s.heap H locs) (hF : ∀ q, va_A wc H.size q → A q) {U : State} (hU : U.heap = H) (hW : s.WarmedH U.vm) : xE tO vF adK adV (va_A wc H.size) U U.heap := by
  rw [hU]
  exact ((hE.kept (fun a h1 h2 => hS.2.1 a h1 h2)).narrow hF).moved hW
theorem ux_preV (hK : va_K D cl tys s) (hPc : va_P D cl wc H) (hDc : va_D A wc) (hE : xE tO vF adK adV A s s.heap) (hS : va_S A s.heap H locs) (hF : ∀ q, va_A wc H.size q → A q) {q : vw_C} {ci q0 : Nat} {fs : List Value} (hc : cl[ci]? = some q) (he : wc[q0]? = some (b, .inr (ci, fs))) : PreV s H q.1 b (va_Pc (.ref b :: As) (ux_pre D cl tys wc H.size (xE tO vF adK adV))) As :=
  ⟨ux_blind, va_recv hK hPc hc he, fun U hU hW => ⟨rfl, by rw [hU], by rw [hU]; exact hPc, va_K.moved hW.alike hK, hDc.weaken (fun _ _ _ _ => trivial), ux_Eof hE hS hF hU hW⟩⟩
theorem ux_preS (hK : va_K D cl tys s) (hPc : va_P D cl wc H) (hDc : va_D A wc) (hE : xE tO vF adK adV A s s.heap) (hS : va_S A s.heap H locs) (hF : ∀ q, va_A wc H.size q → A q) : PreS s H (va_Pc As (ux_pre D cl tys wc H.size (xE tO vF adK adV))) As :=
  ⟨ux_blind, fun U hU hW => ⟨rfl, by rw [hU], by rw [hU]; exact hPc, va_K.moved hW.alike hK, hDc.weaken (fun _ _ _ _ => trivial), ux_Eof hE hS hF hU hW⟩⟩
/-- places into parts: the callee's cells and the rest -/
theorem ux_pick {is : List Nat} {wx : va_W} (h : is.map (fun i => ws[i]?) = wx.map some) : is.filterMap (fun i => ws[i]?) = wx := by
  induction is generalizing wx with
  | nil => cases wx with
    | nil => rfl
    | cons a t => simp at h
  | cons i t ih => cases wx with
    | nil => simp at h
    | cons a u =>
      simp only [List.map_cons, List.cons.injEq] at h
      rw [List.filterMap_cons, h.1]
      simp only
      rw [ih h.2]

theorem ux_Vi {out : Int32 × S} (F : CallFix p m c cc nL s args (c0 :: wsL_law) own) (hK : va_K D cl tys s) (hP : va_P D cl ws H) (hD : va_D A ws) (hS : va_S A s.heap H locs) (hA : ∀ q, s.heap.size ≤ q → A q) (hE : xE tO vF adK adV A s s.heap) (isC isR : List Nat) (hC : isC.map (fun i => ws[i]?) = wc.map some) (hR : isR.map (fun i => ws[i]?) = wr.map some) (hn1 : va_nd isC = true) (hn2 : va_nd isR = true) (hn3 : ∀ i ∈ isR, i ∉ isC)
    (hM : Met l y (Cond.code y bytes maxL ret :: wsL_law) rm (va_Pc (.ref b :: As) (ux_pre D cl tys wc H.size (xE tO vF adK adV))) (va_Qi (fun (r : Int32) (u : S) => (r, u) = out) (ux_at D cl tys wc H.size w1) (va_A wc H.size)) 0 0 (va_A wc H.size))
    {q : vw_C} (ci q0 : Nat) {fs : List Value} (hc : cl[ci]? = some q) (he : wc[q0]? = some (b, .inr (ci, fs))) (g1 : Cond.methodLink own index y ∈ wsL_law) (g2 : Cond.instanceMethod y ∈ wsL_law) (g3 : Cond.selects q.1 y y ∈ wsL_law) (g4 : Cond.initialized q.1 ∈ wsL_law) (g5 : Cond.code y bytes maxL ret ∈ wsL_law) (hrm : rm.cells = 0 ∧ rm.slots = 0)
    (hd : y.cls = q.1 ∧ y.cls ≠ "java/lang/invoke/MethodHandle" ∧ y.cls ≠ "java/lang/invoke/VarHandle" ∧ (parseMethodDescriptor y.desc).map (fun d => d.parameters.length) = some n) (hn : As.length = n) (hRm : rm.frames + 1 ≤ R.frames ∧ 8 + (maxL + 11) + rm.locals ≤ R.locals) (hls : ls.size = nL) (hst : st0 = As.reverse ++ .ref b :: rest) (hcat : (rest.map fun v => v.category).sum ≤ 8) (hdg : decode cc pc = .ok (.invokevirtual index, 3)) (hcs : cells ≤ R.cells ∧ slots ≤ R.slots)
    (kk : ∀ (H1 : Heap) (locs1 : List Loc), va_P D cl (wr ++ w1 out.2) H1 → va_D A (wr ++ w1 out.2) → va_S A s.heap H1 locs1 → W p l e R s m args below meth c H1 locs1 cells slots Q (F0 m (pc + 3) ls (.int out.1 :: rest))) : W p l e R s m args below meth c H locs cells slots Q (F0 m pc ls st0) := by
  have hPc := hP.sub isC (ux_pick hC)
  have hDc := hD.sub isC hn1 hC
  have hFc := va_free hD hS hA isC hC
  refine va_calli (va_runV (As := As) (rest := rest) F hM (cwV n F.2.2.2.2 (gd_V g1 g2 g3 g4 g5) rfl hrm.1 hrm.2 hd hRm) (ux_preV hK hPc hDc hE hS hFc hc he) rfl hn hls hst (lv_room hcat) hdg ⟨hcs.1, hcs.2⟩) hS (fun q _ h => hFc q h) hFc (fun r u t H1 locs ht hvm hw hB hz1 hk1 hS => ?_)
  obtain ⟨hP1, -, hD1⟩ := hB
  rw [ht] at hP1
  obtain ⟨hP2, hD2⟩ := va_join hP hD isC isR hC hR hn2 hn3 hk1 hFc hP1 hD1
  subst hw
  exact kk H1 locs hP2 hD2 hS
theorem ux_Vi0 {w1 : Unit → va_W} {out : Int32} (F : CallFix p m c cc nL s args (c0 :: wsL_law) own) (hK : va_K D cl tys s) (hP : va_P D cl ws H) (hD : va_D A ws) (hS : va_S A s.heap H locs) (hA : ∀ q, s.heap.size ≤ q → A q) (hE : xE tO vF adK adV A s s.heap) (isC isR : List Nat) (hC : isC.map (fun i => ws[i]?) = wc.map some) (hR : isR.map (fun i => ws[i]?) = wr.map some) (hn1 : va_nd isC = true) (hn2 : va_nd isR = true) (hn3 : ∀ i ∈ isR, i ∉ isC)
    (hM : Met l y (Cond.code y bytes maxL ret :: wsL_law) rm (va_Pc (.ref b :: As) (ux_pre D cl tys wc H.size (xE tO vF adK adV))) (va_Qi (fun (r : Int32) (_ : Unit) => r = out) (ux_at D cl tys wc H.size w1) (va_A wc H.size)) 0 0 (va_A wc H.size))
    {q : vw_C} (ci q0 : Nat) {fs : List Value} (hc : cl[ci]? = some q) (he : wc[q0]? = some (b, .inr (ci, fs))) (g1 : Cond.methodLink own index y ∈ wsL_law) (g2 : Cond.instanceMethod y ∈ wsL_law) (g3 : Cond.selects q.1 y y ∈ wsL_law) (g4 : Cond.initialized q.1 ∈ wsL_law) (g5 : Cond.code y bytes maxL ret ∈ wsL_law) (hrm : rm.cells = 0 ∧ rm.slots = 0)
    (hd : y.cls = q.1 ∧ y.cls ≠ "java/lang/invoke/MethodHandle" ∧ y.cls ≠ "java/lang/invoke/VarHandle" ∧ (parseMethodDescriptor y.desc).map (fun d => d.parameters.length) = some n) (hn : As.length = n) (hRm : rm.frames + 1 ≤ R.frames ∧ 8 + (maxL + 11) + rm.locals ≤ R.locals) (hls : ls.size = nL) (hst : st0 = As.reverse ++ .ref b :: rest) (hcat : (rest.map fun v => v.category).sum ≤ 8) (hdg : decode cc pc = .ok (.invokevirtual index, 3)) (hcs : cells ≤ R.cells ∧ slots ≤ R.slots)
    (kk : ∀ (H1 : Heap) (locs1 : List Loc), va_P D cl (wr ++ w1 ()) H1 → va_D A (wr ++ w1 ()) → va_S A s.heap H1 locs1 → W p l e R s m args below meth c H1 locs1 cells slots Q (F0 m (pc + 3) ls (.int out :: rest))) : W p l e R s m args below meth c H locs cells slots Q (F0 m pc ls st0) := by
  have hPc := hP.sub isC (ux_pick hC)
  have hDc := hD.sub isC hn1 hC
  have hFc := va_free hD hS hA isC hC
  refine va_calli (va_runV (As := As) (rest := rest) F hM (cwV n F.2.2.2.2 (gd_V g1 g2 g3 g4 g5) rfl hrm.1 hrm.2 hd hRm) (ux_preV hK hPc hDc hE hS hFc hc he) rfl hn hls hst (lv_room hcat) hdg ⟨hcs.1, hcs.2⟩) hS (fun q _ h => hFc q h) hFc (fun r u t H1 locs ht hvm hw hB hz1 hk1 hS => ?_)
  obtain ⟨hP1, -, hD1⟩ := hB
  rw [ht] at hP1
  obtain ⟨hP2, hD2⟩ := va_join hP hD isC isR hC hR hn2 hn3 hk1 hFc hP1 hD1
  subst hw
  exact kk H1 locs hP2 hD2 hS
theorem ux_Vl {out : Int64 × S} (F : CallFix p m c cc nL s args (c0 :: wsL_law) own) (hK : va_K D cl tys s) (hP : va_P D cl ws H) (hD : va_D A ws) (hS : va_S A s.heap H locs) (hA : ∀ q, s.heap.size ≤ q → A q) (hE : xE tO vF adK adV A s s.heap) (isC isR : List Nat) (hC : isC.map (fun i => ws[i]?) = wc.map some) (hR : isR.map (fun i => ws[i]?) = wr.map some) (hn1 : va_nd isC = true) (hn2 : va_nd isR = true) (hn3 : ∀ i ∈ isR, i ∉ isC)
    (hM : Met l y (Cond.code y bytes maxL ret :: wsL_law) rm (va_Pc (.ref b :: As) (ux_pre D cl tys wc H.size (xE tO vF adK adV))) (va_Ql (fun (r : Int64) (u : S) => (r, u) = out) (ux_at D cl tys wc H.size w1) (va_A wc H.size)) 0 0 (va_A wc H.size))
    {q : vw_C} (ci q0 : Nat) {fs : List Value} (hc : cl[ci]? = some q) (he : wc[q0]? = some (b, .inr (ci, fs))) (g1 : Cond.methodLink own index y ∈ wsL_law) (g2 : Cond.instanceMethod y ∈ wsL_law) (g3 : Cond.selects q.1 y y ∈ wsL_law) (g4 : Cond.initialized q.1 ∈ wsL_law) (g5 : Cond.code y bytes maxL ret ∈ wsL_law) (hrm : rm.cells = 0 ∧ rm.slots = 0)
    (hd : y.cls = q.1 ∧ y.cls ≠ "java/lang/invoke/MethodHandle" ∧ y.cls ≠ "java/lang/invoke/VarHandle" ∧ (parseMethodDescriptor y.desc).map (fun d => d.parameters.length) = some n) (hn : As.length = n) (hRm : rm.frames + 1 ≤ R.frames ∧ 8 + (maxL + 11) + rm.locals ≤ R.locals) (hls : ls.size = nL) (hst : st0 = As.reverse ++ .ref b :: rest) (hcat : (rest.map fun v => v.category).sum ≤ 8) (hdg : decode cc pc = .ok (.invokevirtual index, 3)) (hcs : cells ≤ R.cells ∧ slots ≤ R.slots)
    (kk : ∀ (H1 : Heap) (locs1 : List Loc), va_P D cl (wr ++ w1 out.2) H1 → va_D A (wr ++ w1 out.2) → va_S A s.heap H1 locs1 → W p l e R s m args below meth c H1 locs1 cells slots Q (F0 m (pc + 3) ls (.long out.1 :: rest))) : W p l e R s m args below meth c H locs cells slots Q (F0 m pc ls st0) := by
  have hPc := hP.sub isC (ux_pick hC)
  have hDc := hD.sub isC hn1 hC
  have hFc := va_free hD hS hA isC hC
  refine va_calll (va_runV (As := As) (rest := rest) F hM (cwV n F.2.2.2.2 (gd_V g1 g2 g3 g4 g5) rfl hrm.1 hrm.2 hd hRm) (ux_preV hK hPc hDc hE hS hFc hc he) rfl hn hls hst (lv_room hcat) hdg ⟨hcs.1, hcs.2⟩) hS (fun q _ h => hFc q h) hFc (fun r u t H1 locs ht hvm hw hB hz1 hk1 hS => ?_)
  obtain ⟨hP1, -, hD1⟩ := hB
  rw [ht] at hP1
  obtain ⟨hP2, hD2⟩ := va_join hP hD isC isR hC hR hn2 hn3 hk1 hFc hP1 hD1
  subst hw
  exact kk H1 locs hP2 hD2 hS
theorem ux_Vl0 {w1 : Unit → va_W} {out : Int64} (F : CallFix p m c cc nL s args (c0 :: wsL_law) own) (hK : va_K D cl tys s) (hP : va_P D cl ws H) (hD : va_D A ws) (hS : va_S A s.heap H locs) (hA : ∀ q, s.heap.size ≤ q → A q) (hE : xE tO vF adK adV A s s.heap) (isC isR : List Nat) (hC : isC.map (fun i => ws[i]?) = wc.map some) (hR : isR.map (fun i => ws[i]?) = wr.map some) (hn1 : va_nd isC = true) (hn2 : va_nd isR = true) (hn3 : ∀ i ∈ isR, i ∉ isC)
    (hM : Met l y (Cond.code y bytes maxL ret :: wsL_law) rm (va_Pc (.ref b :: As) (ux_pre D cl tys wc H.size (xE tO vF adK adV))) (va_Ql (fun (r : Int64) (_ : Unit) => r = out) (ux_at D cl tys wc H.size w1) (va_A wc H.size)) 0 0 (va_A wc H.size))
    {q : vw_C} (ci q0 : Nat) {fs : List Value} (hc : cl[ci]? = some q) (he : wc[q0]? = some (b, .inr (ci, fs))) (g1 : Cond.methodLink own index y ∈ wsL_law) (g2 : Cond.instanceMethod y ∈ wsL_law) (g3 : Cond.selects q.1 y y ∈ wsL_law) (g4 : Cond.initialized q.1 ∈ wsL_law) (g5 : Cond.code y bytes maxL ret ∈ wsL_law) (hrm : rm.cells = 0 ∧ rm.slots = 0)
    (hd : y.cls = q.1 ∧ y.cls ≠ "java/lang/invoke/MethodHandle" ∧ y.cls ≠ "java/lang/invoke/VarHandle" ∧ (parseMethodDescriptor y.desc).map (fun d => d.parameters.length) = some n) (hn : As.length = n) (hRm : rm.frames + 1 ≤ R.frames ∧ 8 + (maxL + 11) + rm.locals ≤ R.locals) (hls : ls.size = nL) (hst : st0 = As.reverse ++ .ref b :: rest) (hcat : (rest.map fun v => v.category).sum ≤ 8) (hdg : decode cc pc = .ok (.invokevirtual index, 3)) (hcs : cells ≤ R.cells ∧ slots ≤ R.slots)
    (kk : ∀ (H1 : Heap) (locs1 : List Loc), va_P D cl (wr ++ w1 ()) H1 → va_D A (wr ++ w1 ()) → va_S A s.heap H1 locs1 → W p l e R s m args below meth c H1 locs1 cells slots Q (F0 m (pc + 3) ls (.long out :: rest))) : W p l e R s m args below meth c H locs cells slots Q (F0 m pc ls st0) := by
  have hPc := hP.sub isC (ux_pick hC)
  have hDc := hD.sub isC hn1 hC
  have hFc := va_free hD hS hA isC hC
  refine va_calll (va_runV (As := As) (rest := rest) F hM (cwV n F.2.2.2.2 (gd_V g1 g2 g3 g4 g5) rfl hrm.1 hrm.2 hd hRm) (ux_preV hK hPc hDc hE hS hFc hc he) rfl hn hls hst (lv_room hcat) hdg ⟨hcs.1, hcs.2⟩) hS (fun q _ h => hFc q h) hFc (fun r u t H1 locs ht hvm hw hB hz1 hk1 hS => ?_)
  obtain ⟨hP1, -, hD1⟩ := hB
  rw [ht] at hP1
  obtain ⟨hP2, hD2⟩ := va_join hP hD isC isR hC hR hn2 hn3 hk1 hFc hP1 hD1
  subst hw
  exact kk H1 locs hP2 hD2 hS
theorem ux_Vv {out : S} (F : CallFix p m c cc nL s args (c0 :: wsL_law) own) (hK : va_K D cl tys s) (hP : va_P D cl ws H) (hD : va_D A ws) (hS : va_S A s.heap H locs) (hA : ∀ q, s.heap.size ≤ q → A q) (hE : xE tO vF adK adV A s s.heap) (isC isR : List Nat) (hC : isC.map (fun i => ws[i]?) = wc.map some) (hR : isR.map (fun i => ws[i]?) = wr.map some) (hn1 : va_nd isC = true) (hn2 : va_nd isR = true) (hn3 : ∀ i ∈ isR, i ∉ isC)
    (hM : Met l y (Cond.code y bytes maxL ret :: wsL_law) rm (va_Pc (.ref b :: As) (ux_pre D cl tys wc H.size (xE tO vF adK adV))) (va_Qv (fun u : S => u = out) (ux_at D cl tys wc H.size w1) (va_A wc H.size)) 0 0 (va_A wc H.size))
    {q : vw_C} (ci q0 : Nat) {fs : List Value} (hc : cl[ci]? = some q) (he : wc[q0]? = some (b, .inr (ci, fs))) (g1 : Cond.methodLink own index y ∈ wsL_law) (g2 : Cond.instanceMethod y ∈ wsL_law) (g3 : Cond.selects q.1 y y ∈ wsL_law) (g4 : Cond.initialized q.1 ∈ wsL_law) (g5 : Cond.code y bytes maxL ret ∈ wsL_law) (hrm : rm.cells = 0 ∧ rm.slots = 0)
    (hd : y.cls = q.1 ∧ y.cls ≠ "java/lang/invoke/MethodHandle" ∧ y.cls ≠ "java/lang/invoke/VarHandle" ∧ (parseMethodDescriptor y.desc).map (fun d => d.parameters.length) = some n) (hn : As.length = n) (hRm : rm.frames + 1 ≤ R.frames ∧ 8 + (maxL + 11) + rm.locals ≤ R.locals) (hls : ls.size = nL) (hst : st0 = As.reverse ++ .ref b :: rest) (hcat : (rest.map fun v => v.category).sum ≤ 8) (hdg : decode cc pc = .ok (.invokevirtual index, 3)) (hcs : cells ≤ R.cells ∧ slots ≤ R.slots)
    (kk : ∀ (H1 : Heap) (locs1 : List Loc), va_P D cl (wr ++ w1 out) H1 → va_D A (wr ++ w1 out) → va_S A s.heap H1 locs1 → W p l e R s m args below meth c H1 locs1 cells slots Q (F0 m (pc + 3) ls (rest))) : W p l e R s m args below meth c H locs cells slots Q (F0 m pc ls st0) := by
  have hPc := hP.sub isC (ux_pick hC)
  have hDc := hD.sub isC hn1 hC
  have hFc := va_free hD hS hA isC hC
  refine va_callv (va_runV (As := As) (rest := rest) F hM (cwV n F.2.2.2.2 (gd_V g1 g2 g3 g4 g5) rfl hrm.1 hrm.2 hd hRm) (ux_preV hK hPc hDc hE hS hFc hc he) rfl hn hls hst (lv_room hcat) hdg ⟨hcs.1, hcs.2⟩) hS (fun q _ h => hFc q h) hFc (fun u t H1 locs ht hvm hw hB hz1 hk1 hS => ?_)
  obtain ⟨hP1, -, hD1⟩ := hB
  rw [ht] at hP1
  obtain ⟨hP2, hD2⟩ := va_join hP hD isC isR hC hR hn2 hn3 hk1 hFc hP1 hD1
  subst hw
  exact kk H1 locs hP2 hD2 hS
theorem ux_Vv0 {w1 : Unit → va_W} {out : Unit} (F : CallFix p m c cc nL s args (c0 :: wsL_law) own) (hK : va_K D cl tys s) (hP : va_P D cl ws H) (hD : va_D A ws) (hS : va_S A s.heap H locs) (hA : ∀ q, s.heap.size ≤ q → A q) (hE : xE tO vF adK adV A s s.heap) (isC isR : List Nat) (hC : isC.map (fun i => ws[i]?) = wc.map some) (hR : isR.map (fun i => ws[i]?) = wr.map some) (hn1 : va_nd isC = true) (hn2 : va_nd isR = true) (hn3 : ∀ i ∈ isR, i ∉ isC)
    (hM : Met l y (Cond.code y bytes maxL ret :: wsL_law) rm (va_Pc (.ref b :: As) (ux_pre D cl tys wc H.size (xE tO vF adK adV))) (va_Qv (fun u : Unit => u = out) (ux_at D cl tys wc H.size w1) (va_A wc H.size)) 0 0 (va_A wc H.size))
    {q : vw_C} (ci q0 : Nat) {fs : List Value} (hc : cl[ci]? = some q) (he : wc[q0]? = some (b, .inr (ci, fs))) (g1 : Cond.methodLink own index y ∈ wsL_law) (g2 : Cond.instanceMethod y ∈ wsL_law) (g3 : Cond.selects q.1 y y ∈ wsL_law) (g4 : Cond.initialized q.1 ∈ wsL_law) (g5 : Cond.code y bytes maxL ret ∈ wsL_law) (hrm : rm.cells = 0 ∧ rm.slots = 0)
    (hd : y.cls = q.1 ∧ y.cls ≠ "java/lang/invoke/MethodHandle" ∧ y.cls ≠ "java/lang/invoke/VarHandle" ∧ (parseMethodDescriptor y.desc).map (fun d => d.parameters.length) = some n) (hn : As.length = n) (hRm : rm.frames + 1 ≤ R.frames ∧ 8 + (maxL + 11) + rm.locals ≤ R.locals) (hls : ls.size = nL) (hst : st0 = As.reverse ++ .ref b :: rest) (hcat : (rest.map fun v => v.category).sum ≤ 8) (hdg : decode cc pc = .ok (.invokevirtual index, 3)) (hcs : cells ≤ R.cells ∧ slots ≤ R.slots)
    (kk : ∀ (H1 : Heap) (locs1 : List Loc), va_P D cl (wr ++ w1 out) H1 → va_D A (wr ++ w1 out) → va_S A s.heap H1 locs1 → W p l e R s m args below meth c H1 locs1 cells slots Q (F0 m (pc + 3) ls (rest))) : W p l e R s m args below meth c H locs cells slots Q (F0 m pc ls st0) := by
  have hPc := hP.sub isC (ux_pick hC)
  have hDc := hD.sub isC hn1 hC
  have hFc := va_free hD hS hA isC hC
  refine va_callv (va_runV (As := As) (rest := rest) F hM (cwV n F.2.2.2.2 (gd_V g1 g2 g3 g4 g5) rfl hrm.1 hrm.2 hd hRm) (ux_preV hK hPc hDc hE hS hFc hc he) rfl hn hls hst (lv_room hcat) hdg ⟨hcs.1, hcs.2⟩) hS (fun q _ h => hFc q h) hFc (fun u t H1 locs ht hvm hw hB hz1 hk1 hS => ?_)
  obtain ⟨hP1, -, hD1⟩ := hB
  rw [ht] at hP1
  obtain ⟨hP2, hD2⟩ := va_join hP hD isC isR hC hR hn2 hn3 hk1 hFc hP1 hD1
  subst hw
  exact kk H1 locs hP2 hD2 hS
theorem ux_Si {out : Int32 × S} (F : CallFix p m c cc nL s args (c0 :: wsL_law) own) (hK : va_K D cl tys s) (hP : va_P D cl ws H) (hD : va_D A ws) (hS : va_S A s.heap H locs) (hA : ∀ q, s.heap.size ≤ q → A q) (hE : xE tO vF adK adV A s s.heap) (isC isR : List Nat) (hC : isC.map (fun i => ws[i]?) = wc.map some) (hR : isR.map (fun i => ws[i]?) = wr.map some) (hn1 : va_nd isC = true) (hn2 : va_nd isR = true) (hn3 : ∀ i ∈ isR, i ∉ isC)
    (hM : Met l y (Cond.code y bytes maxL ret :: wsL_law) rm (va_Pc As (ux_pre D cl tys wc H.size (xE tO vF adK adV))) (va_Qi (fun (r : Int32) (u : S) => (r, u) = out) (ux_at D cl tys wc H.size w1) (va_A wc H.size)) 0 0 (va_A wc H.size))
    (g1 : Cond.methodLink own index y ∈ wsL_law) (g2 : Cond.static y ∈ wsL_law) (g4 : Cond.initialized y.cls ∈ wsL_law) (g5 : Cond.code y bytes maxL ret ∈ wsL_law) (hrm : rm.cells = 0 ∧ rm.slots = 0)
    (hd : y.cls ≠ "java/lang/invoke/MethodHandle" ∧ y.cls ≠ "java/lang/invoke/VarHandle" ∧ (parseMethodDescriptor y.desc).map (fun d => d.parameters.length) = some n) (hn : As.length = n) (hRm : rm.frames + 1 ≤ R.frames ∧ 8 + (maxL + 11) + rm.locals ≤ R.locals) (hls : ls.size = nL) (hst : st0 = As.reverse ++ rest) (hcat : (rest.map fun v => v.category).sum ≤ 8) (hdg : decode cc pc = .ok (.invokestatic index, 3)) (hcs : cells ≤ R.cells ∧ slots ≤ R.slots)
    (kk : ∀ (H1 : Heap) (locs1 : List Loc), va_P D cl (wr ++ w1 out.2) H1 → va_D A (wr ++ w1 out.2) → va_S A s.heap H1 locs1 → W p l e R s m args below meth c H1 locs1 cells slots Q (F0 m (pc + 3) ls (.int out.1 :: rest))) : W p l e R s m args below meth c H locs cells slots Q (F0 m pc ls st0) := by
  have hPc := hP.sub isC (ux_pick hC)
  have hDc := hD.sub isC hn1 hC
  have hFc := va_free hD hS hA isC hC
  refine va_calli (va_runS (As := As) (rest := rest) F hM (va_cwS n F.2.2.2.2 (gd_S g1 g2 g4 g5) rfl hrm.1 hrm.2 hd hRm) (ux_preS hK hPc hDc hE hS hFc) rfl hn hls hst (lv_room hcat) hdg ⟨hcs.1, hcs.2⟩) hS (fun q _ h => hFc q h) hFc (fun r u t H1 locs ht hvm hw hB hz1 hk1 hS => ?_)
  obtain ⟨hP1, -, hD1⟩ := hB
  rw [ht] at hP1
  obtain ⟨hP2, hD2⟩ := va_join hP hD isC isR hC hR hn2 hn3 hk1 hFc hP1 hD1
  subst hw
  exact kk H1 locs hP2 hD2 hS
theorem ux_Si0 {w1 : Unit → va_W} {out : Int32} (F : CallFix p m c cc nL s args (c0 :: wsL_law) own) (hK : va_K D cl tys s) (hP : va_P D cl ws H) (hD : va_D A ws) (hS : va_S A s.heap H locs) (hA : ∀ q, s.heap.size ≤ q → A q) (hE : xE tO vF adK adV A s s.heap) (isC isR : List Nat) (hC : isC.map (fun i => ws[i]?) = wc.map some) (hR : isR.map (fun i => ws[i]?) = wr.map some) (hn1 : va_nd isC = true) (hn2 : va_nd isR = true) (hn3 : ∀ i ∈ isR, i ∉ isC)
    (hM : Met l y (Cond.code y bytes maxL ret :: wsL_law) rm (va_Pc As (ux_pre D cl tys wc H.size (xE tO vF adK adV))) (va_Qi (fun (r : Int32) (_ : Unit) => r = out) (ux_at D cl tys wc H.size w1) (va_A wc H.size)) 0 0 (va_A wc H.size))
    (g1 : Cond.methodLink own index y ∈ wsL_law) (g2 : Cond.static y ∈ wsL_law) (g4 : Cond.initialized y.cls ∈ wsL_law) (g5 : Cond.code y bytes maxL ret ∈ wsL_law) (hrm : rm.cells = 0 ∧ rm.slots = 0)
    (hd : y.cls ≠ "java/lang/invoke/MethodHandle" ∧ y.cls ≠ "java/lang/invoke/VarHandle" ∧ (parseMethodDescriptor y.desc).map (fun d => d.parameters.length) = some n) (hn : As.length = n) (hRm : rm.frames + 1 ≤ R.frames ∧ 8 + (maxL + 11) + rm.locals ≤ R.locals) (hls : ls.size = nL) (hst : st0 = As.reverse ++ rest) (hcat : (rest.map fun v => v.category).sum ≤ 8) (hdg : decode cc pc = .ok (.invokestatic index, 3)) (hcs : cells ≤ R.cells ∧ slots ≤ R.slots)
    (kk : ∀ (H1 : Heap) (locs1 : List Loc), va_P D cl (wr ++ w1 ()) H1 → va_D A (wr ++ w1 ()) → va_S A s.heap H1 locs1 → W p l e R s m args below meth c H1 locs1 cells slots Q (F0 m (pc + 3) ls (.int out :: rest))) : W p l e R s m args below meth c H locs cells slots Q (F0 m pc ls st0) := by
  have hPc := hP.sub isC (ux_pick hC)
  have hDc := hD.sub isC hn1 hC
  have hFc := va_free hD hS hA isC hC
  refine va_calli (va_runS (As := As) (rest := rest) F hM (va_cwS n F.2.2.2.2 (gd_S g1 g2 g4 g5) rfl hrm.1 hrm.2 hd hRm) (ux_preS hK hPc hDc hE hS hFc) rfl hn hls hst (lv_room hcat) hdg ⟨hcs.1, hcs.2⟩) hS (fun q _ h => hFc q h) hFc (fun r u t H1 locs ht hvm hw hB hz1 hk1 hS => ?_)
  obtain ⟨hP1, -, hD1⟩ := hB
  rw [ht] at hP1
  obtain ⟨hP2, hD2⟩ := va_join hP hD isC isR hC hR hn2 hn3 hk1 hFc hP1 hD1
  subst hw
  exact kk H1 locs hP2 hD2 hS
theorem ux_Sl {out : Int64 × S} (F : CallFix p m c cc nL s args (c0 :: wsL_law) own) (hK : va_K D cl tys s) (hP : va_P D cl ws H) (hD : va_D A ws) (hS : va_S A s.heap H locs) (hA : ∀ q, s.heap.size ≤ q → A q) (hE : xE tO vF adK adV A s s.heap) (isC isR : List Nat) (hC : isC.map (fun i => ws[i]?) = wc.map some) (hR : isR.map (fun i => ws[i]?) = wr.map some) (hn1 : va_nd isC = true) (hn2 : va_nd isR = true) (hn3 : ∀ i ∈ isR, i ∉ isC)
    (hM : Met l y (Cond.code y bytes maxL ret :: wsL_law) rm (va_Pc As (ux_pre D cl tys wc H.size (xE tO vF adK adV))) (va_Ql (fun (r : Int64) (u : S) => (r, u) = out) (ux_at D cl tys wc H.size w1) (va_A wc H.size)) 0 0 (va_A wc H.size))
    (g1 : Cond.methodLink own index y ∈ wsL_law) (g2 : Cond.static y ∈ wsL_law) (g4 : Cond.initialized y.cls ∈ wsL_law) (g5 : Cond.code y bytes maxL ret ∈ wsL_law) (hrm : rm.cells = 0 ∧ rm.slots = 0)
    (hd : y.cls ≠ "java/lang/invoke/MethodHandle" ∧ y.cls ≠ "java/lang/invoke/VarHandle" ∧ (parseMethodDescriptor y.desc).map (fun d => d.parameters.length) = some n) (hn : As.length = n) (hRm : rm.frames + 1 ≤ R.frames ∧ 8 + (maxL + 11) + rm.locals ≤ R.locals) (hls : ls.size = nL) (hst : st0 = As.reverse ++ rest) (hcat : (rest.map fun v => v.category).sum ≤ 8) (hdg : decode cc pc = .ok (.invokestatic index, 3)) (hcs : cells ≤ R.cells ∧ slots ≤ R.slots)
    (kk : ∀ (H1 : Heap) (locs1 : List Loc), va_P D cl (wr ++ w1 out.2) H1 → va_D A (wr ++ w1 out.2) → va_S A s.heap H1 locs1 → W p l e R s m args below meth c H1 locs1 cells slots Q (F0 m (pc + 3) ls (.long out.1 :: rest))) : W p l e R s m args below meth c H locs cells slots Q (F0 m pc ls st0) := by
  have hPc := hP.sub isC (ux_pick hC)
  have hDc := hD.sub isC hn1 hC
  have hFc := va_free hD hS hA isC hC
  refine va_calll (va_runS (As := As) (rest := rest) F hM (va_cwS n F.2.2.2.2 (gd_S g1 g2 g4 g5) rfl hrm.1 hrm.2 hd hRm) (ux_preS hK hPc hDc hE hS hFc) rfl hn hls hst (lv_room hcat) hdg ⟨hcs.1, hcs.2⟩) hS (fun q _ h => hFc q h) hFc (fun r u t H1 locs ht hvm hw hB hz1 hk1 hS => ?_)
  obtain ⟨hP1, -, hD1⟩ := hB
  rw [ht] at hP1
  obtain ⟨hP2, hD2⟩ := va_join hP hD isC isR hC hR hn2 hn3 hk1 hFc hP1 hD1
  subst hw
  exact kk H1 locs hP2 hD2 hS
theorem ux_Sl0 {w1 : Unit → va_W} {out : Int64} (F : CallFix p m c cc nL s args (c0 :: wsL_law) own) (hK : va_K D cl tys s) (hP : va_P D cl ws H) (hD : va_D A ws) (hS : va_S A s.heap H locs) (hA : ∀ q, s.heap.size ≤ q → A q) (hE : xE tO vF adK adV A s s.heap) (isC isR : List Nat) (hC : isC.map (fun i => ws[i]?) = wc.map some) (hR : isR.map (fun i => ws[i]?) = wr.map some) (hn1 : va_nd isC = true) (hn2 : va_nd isR = true) (hn3 : ∀ i ∈ isR, i ∉ isC)
    (hM : Met l y (Cond.code y bytes maxL ret :: wsL_law) rm (va_Pc As (ux_pre D cl tys wc H.size (xE tO vF adK adV))) (va_Ql (fun (r : Int64) (_ : Unit) => r = out) (ux_at D cl tys wc H.size w1) (va_A wc H.size)) 0 0 (va_A wc H.size))
    (g1 : Cond.methodLink own index y ∈ wsL_law) (g2 : Cond.static y ∈ wsL_law) (g4 : Cond.initialized y.cls ∈ wsL_law) (g5 : Cond.code y bytes maxL ret ∈ wsL_law) (hrm : rm.cells = 0 ∧ rm.slots = 0)
    (hd : y.cls ≠ "java/lang/invoke/MethodHandle" ∧ y.cls ≠ "java/lang/invoke/VarHandle" ∧ (parseMethodDescriptor y.desc).map (fun d => d.parameters.length) = some n) (hn : As.length = n) (hRm : rm.frames + 1 ≤ R.frames ∧ 8 + (maxL + 11) + rm.locals ≤ R.locals) (hls : ls.size = nL) (hst : st0 = As.reverse ++ rest) (hcat : (rest.map fun v => v.category).sum ≤ 8) (hdg : decode cc pc = .ok (.invokestatic index, 3)) (hcs : cells ≤ R.cells ∧ slots ≤ R.slots)
    (kk : ∀ (H1 : Heap) (locs1 : List Loc), va_P D cl (wr ++ w1 ()) H1 → va_D A (wr ++ w1 ()) → va_S A s.heap H1 locs1 → W p l e R s m args below meth c H1 locs1 cells slots Q (F0 m (pc + 3) ls (.long out :: rest))) : W p l e R s m args below meth c H locs cells slots Q (F0 m pc ls st0) := by
  have hPc := hP.sub isC (ux_pick hC)
  have hDc := hD.sub isC hn1 hC
  have hFc := va_free hD hS hA isC hC
  refine va_calll (va_runS (As := As) (rest := rest) F hM (va_cwS n F.2.2.2.2 (gd_S g1 g2 g4 g5) rfl hrm.1 hrm.2 hd hRm) (ux_preS hK hPc hDc hE hS hFc) rfl hn hls hst (lv_room hcat) hdg ⟨hcs.1, hcs.2⟩) hS (fun q _ h => hFc q h) hFc (fun r u t H1 locs ht hvm hw hB hz1 hk1 hS => ?_)
  obtain ⟨hP1, -, hD1⟩ := hB
  rw [ht] at hP1
  obtain ⟨hP2, hD2⟩ := va_join hP hD isC isR hC hR hn2 hn3 hk1 hFc hP1 hD1
  subst hw
  exact kk H1 locs hP2 hD2 hS
theorem ux_Sv {out : S} (F : CallFix p m c cc nL s args (c0 :: wsL_law) own) (hK : va_K D cl tys s) (hP : va_P D cl ws H) (hD : va_D A ws) (hS : va_S A s.heap H locs) (hA : ∀ q, s.heap.size ≤ q → A q) (hE : xE tO vF adK adV A s s.heap) (isC isR : List Nat) (hC : isC.map (fun i => ws[i]?) = wc.map some) (hR : isR.map (fun i => ws[i]?) = wr.map some) (hn1 : va_nd isC = true) (hn2 : va_nd isR = true) (hn3 : ∀ i ∈ isR, i ∉ isC)
    (hM : Met l y (Cond.code y bytes maxL ret :: wsL_law) rm (va_Pc As (ux_pre D cl tys wc H.size (xE tO vF adK adV))) (va_Qv (fun u : S => u = out) (ux_at D cl tys wc H.size w1) (va_A wc H.size)) 0 0 (va_A wc H.size))
    (g1 : Cond.methodLink own index y ∈ wsL_law) (g2 : Cond.static y ∈ wsL_law) (g4 : Cond.initialized y.cls ∈ wsL_law) (g5 : Cond.code y bytes maxL ret ∈ wsL_law) (hrm : rm.cells = 0 ∧ rm.slots = 0)
    (hd : y.cls ≠ "java/lang/invoke/MethodHandle" ∧ y.cls ≠ "java/lang/invoke/VarHandle" ∧ (parseMethodDescriptor y.desc).map (fun d => d.parameters.length) = some n) (hn : As.length = n) (hRm : rm.frames + 1 ≤ R.frames ∧ 8 + (maxL + 11) + rm.locals ≤ R.locals) (hls : ls.size = nL) (hst : st0 = As.reverse ++ rest) (hcat : (rest.map fun v => v.category).sum ≤ 8) (hdg : decode cc pc = .ok (.invokestatic index, 3)) (hcs : cells ≤ R.cells ∧ slots ≤ R.slots)
    (kk : ∀ (H1 : Heap) (locs1 : List Loc), va_P D cl (wr ++ w1 out) H1 → va_D A (wr ++ w1 out) → va_S A s.heap H1 locs1 → W p l e R s m args below meth c H1 locs1 cells slots Q (F0 m (pc + 3) ls (rest))) : W p l e R s m args below meth c H locs cells slots Q (F0 m pc ls st0) := by
  have hPc := hP.sub isC (ux_pick hC)
  have hDc := hD.sub isC hn1 hC
  have hFc := va_free hD hS hA isC hC
  refine va_callv (va_runS (As := As) (rest := rest) F hM (va_cwS n F.2.2.2.2 (gd_S g1 g2 g4 g5) rfl hrm.1 hrm.2 hd hRm) (ux_preS hK hPc hDc hE hS hFc) rfl hn hls hst (lv_room hcat) hdg ⟨hcs.1, hcs.2⟩) hS (fun q _ h => hFc q h) hFc (fun u t H1 locs ht hvm hw hB hz1 hk1 hS => ?_)
  obtain ⟨hP1, -, hD1⟩ := hB
  rw [ht] at hP1
  obtain ⟨hP2, hD2⟩ := va_join hP hD isC isR hC hR hn2 hn3 hk1 hFc hP1 hD1
  subst hw
  exact kk H1 locs hP2 hD2 hS
theorem ux_Sv0 {w1 : Unit → va_W} {out : Unit} (F : CallFix p m c cc nL s args (c0 :: wsL_law) own) (hK : va_K D cl tys s) (hP : va_P D cl ws H) (hD : va_D A ws) (hS : va_S A s.heap H locs) (hA : ∀ q, s.heap.size ≤ q → A q) (hE : xE tO vF adK adV A s s.heap) (isC isR : List Nat) (hC : isC.map (fun i => ws[i]?) = wc.map some) (hR : isR.map (fun i => ws[i]?) = wr.map some) (hn1 : va_nd isC = true) (hn2 : va_nd isR = true) (hn3 : ∀ i ∈ isR, i ∉ isC)
    (hM : Met l y (Cond.code y bytes maxL ret :: wsL_law) rm (va_Pc As (ux_pre D cl tys wc H.size (xE tO vF adK adV))) (va_Qv (fun u : Unit => u = out) (ux_at D cl tys wc H.size w1) (va_A wc H.size)) 0 0 (va_A wc H.size))
    (g1 : Cond.methodLink own index y ∈ wsL_law) (g2 : Cond.static y ∈ wsL_law) (g4 : Cond.initialized y.cls ∈ wsL_law) (g5 : Cond.code y bytes maxL ret ∈ wsL_law) (hrm : rm.cells = 0 ∧ rm.slots = 0)
    (hd : y.cls ≠ "java/lang/invoke/MethodHandle" ∧ y.cls ≠ "java/lang/invoke/VarHandle" ∧ (parseMethodDescriptor y.desc).map (fun d => d.parameters.length) = some n) (hn : As.length = n) (hRm : rm.frames + 1 ≤ R.frames ∧ 8 + (maxL + 11) + rm.locals ≤ R.locals) (hls : ls.size = nL) (hst : st0 = As.reverse ++ rest) (hcat : (rest.map fun v => v.category).sum ≤ 8) (hdg : decode cc pc = .ok (.invokestatic index, 3)) (hcs : cells ≤ R.cells ∧ slots ≤ R.slots)
    (kk : ∀ (H1 : Heap) (locs1 : List Loc), va_P D cl (wr ++ w1 out) H1 → va_D A (wr ++ w1 out) → va_S A s.heap H1 locs1 → W p l e R s m args below meth c H1 locs1 cells slots Q (F0 m (pc + 3) ls (rest))) : W p l e R s m args below meth c H locs cells slots Q (F0 m pc ls st0) := by
  have hPc := hP.sub isC (ux_pick hC)
  have hDc := hD.sub isC hn1 hC
  have hFc := va_free hD hS hA isC hC
  refine va_callv (va_runS (As := As) (rest := rest) F hM (va_cwS n F.2.2.2.2 (gd_S g1 g2 g4 g5) rfl hrm.1 hrm.2 hd hRm) (ux_preS hK hPc hDc hE hS hFc) rfl hn hls hst (lv_room hcat) hdg ⟨hcs.1, hcs.2⟩) hS (fun q _ h => hFc q h) hFc (fun u t H1 locs ht hvm hw hB hz1 hk1 hS => ?_)
  obtain ⟨hP1, -, hD1⟩ := hB
  rw [ht] at hP1
  obtain ⟨hP2, hD2⟩ := va_join hP hD isC isR hC hR hn2 hn3 hk1 hFc hP1 hD1
  subst hw
  exact kk H1 locs hP2 hD2 hS
theorem ux_Ki0 {w1 : Unit → va_W} {out : Int32} (F : CallFix p m c cc nL s args (c0 :: wsL_law) own) (hK : va_K D cl tys s) (hP : va_P D cl ws H) (hD : va_D A ws) (hS : va_S A s.heap H locs) (hA : ∀ q, s.heap.size ≤ q → A q) (hE : xE tO vF adK adV A s s.heap) (isC isR : List Nat) (hC : isC.map (fun i => ws[i]?) = wc.map some) (hR : isR.map (fun i => ws[i]?) = wr.map some) (hn1 : va_nd isC = true) (hn2 : va_nd isR = true) (hn3 : ∀ i ∈ isR, i ∉ isC)
    (hM : Met l y (Cond.code y bytes maxL ret :: wsL_law) rm (va_Pc (.ref b :: As) (ux_pre D cl tys wc H.size (xE tO vF adK adV))) (va_Qi (fun (r : Int32) (_ : Unit) => r = out) (ux_at D cl tys wc H.size w1) (va_A wc H.size)) 0 0 (va_A wc H.size))
    (hrecv : ∃ cell : Cell, H[b]? = some cell ∧ cell.vm.isStatics = false ∧ s.vm.findClass C = some cell.cls) (g1 : Cond.methodLink own index y ∈ wsL_law) (g2 : Cond.instanceMethod y ∈ wsL_law) (g3 : Cond.selects C y y ∈ wsL_law) (g4 : Cond.initialized C ∈ wsL_law) (g5 : Cond.code y bytes maxL ret ∈ wsL_law) (hrm : rm.cells = 0 ∧ rm.slots = 0)
    (hd : y.cls = C ∧ y.cls ≠ "java/lang/invoke/MethodHandle" ∧ y.cls ≠ "java/lang/invoke/VarHandle" ∧ (parseMethodDescriptor y.desc).map (fun d => d.parameters.length) = some n) (hn : As.length = n) (hRm : rm.frames + 1 ≤ R.frames ∧ 8 + (maxL + 11) + rm.locals ≤ R.locals) (hls : ls.size = nL) (hst : st0 = As.reverse ++ .ref b :: rest) (hcat : (rest.map fun v => v.category).sum ≤ 8) (hdg : decode cc pc = .ok (.invokevirtual index, 3)) (hcs : cells ≤ R.cells ∧ slots ≤ R.slots)
    (kk : ∀ (H1 : Heap) (locs1 : List Loc), va_P D cl (wr ++ w1 ()) H1 → va_D A (wr ++ w1 ()) → va_S A s.heap H1 locs1 → W p l e R s m args below meth c H1 locs1 cells slots Q (F0 m (pc + 3) ls (.int out :: rest))) : W p l e R s m args below meth c H locs cells slots Q (F0 m pc ls st0) := by
  have hPc := hP.sub isC (ux_pick hC)
  have hDc := hD.sub isC hn1 hC
  have hFc := va_free hD hS hA isC hC
  refine va_calli (va_runV (As := As) (rest := rest) F hM (cwV n F.2.2.2.2 (gd_V g1 g2 g3 g4 g5) rfl hrm.1 hrm.2 hd hRm) ⟨ux_blind, hrecv, fun U hU hW => ⟨rfl, by rw [hU], by rw [hU]; exact hPc, va_K.moved hW.alike hK, hDc.weaken (fun _ _ _ _ => trivial), ux_Eof hE hS hFc hU hW⟩⟩ rfl hn hls hst (lv_room hcat) hdg ⟨hcs.1, hcs.2⟩) hS (fun q _ h => hFc q h) hFc (fun r u t H1 locs ht hvm hw hB hz1 hk1 hS => ?_)
  obtain ⟨hP1, -, hD1⟩ := hB
  rw [ht] at hP1
  obtain ⟨hP2, hD2⟩ := va_join hP hD isC isR hC hR hn2 hn3 hk1 hFc hP1 hD1
  subst hw
  exact kk H1 locs hP2 hD2 hS
theorem ux_SNi0 {w1 : Unit → va_W} {out : Int32} {host : String} (F : CallFix p m c cc nL s args (c0 :: wsL_law) own) (hK : va_K D cl tys s) (hP : va_P D cl ws H) (hD : va_D A ws) (hS : va_S A s.heap H locs) (hA : ∀ q, s.heap.size ≤ q → A q) (hE : xE tO vF adK adV A s s.heap) (isC isR : List Nat) (hC : isC.map (fun i => ws[i]?) = wc.map some) (hR : isR.map (fun i => ws[i]?) = wr.map some) (hn1 : va_nd isC = true) (hn2 : va_nd isR = true) (hn3 : ∀ i ∈ isR, i ∉ isC)
    (hM : Met l y (Cond.code y bytes maxL ret :: wsL_law) rm (va_Pc As (ux_pre D cl tys wc H.size (xE tO vF adK adV))) (va_Qi (fun (r : Int32) (_ : Unit) => r = out) (ux_at D cl tys wc H.size w1) (va_A wc H.size)) 0 0 (va_A wc H.size))
    (g1 : va_Nw (.methodLinkNest own index y host) s) (g2 : Cond.static y ∈ wsL_law) (g4 : Cond.initialized y.cls ∈ wsL_law) (g5 : Cond.code y bytes maxL ret ∈ wsL_law) (hrm : rm.cells = 0 ∧ rm.slots = 0)
    (hd : y.cls ≠ "java/lang/invoke/MethodHandle" ∧ y.cls ≠ "java/lang/invoke/VarHandle" ∧ (parseMethodDescriptor y.desc).map (fun d => d.parameters.length) = some n) (hn : As.length = n) (hRm : rm.frames + 1 ≤ R.frames ∧ 8 + (maxL + 11) + rm.locals ≤ R.locals) (hls : ls.size = nL) (hst : st0 = As.reverse ++ rest) (hcat : (rest.map fun v => v.category).sum ≤ 8) (hdg : decode cc pc = .ok (.invokestatic index, 3)) (hcs : cells ≤ R.cells ∧ slots ≤ R.slots)
    (kk : ∀ (H1 : Heap) (locs1 : List Loc), va_P D cl (wr ++ w1 ()) H1 → va_D A (wr ++ w1 ()) → va_S A s.heap H1 locs1 → W p l e R s m args below meth c H1 locs1 cells slots Q (F0 m (pc + 3) ls (.int out :: rest))) : W p l e R s m args below meth c H locs cells slots Q (F0 m pc ls st0) := by
  have hPc := hP.sub isC (ux_pick hC)
  have hDc := hD.sub isC hn1 hC
  have hFc := va_free hD hS hA isC hC
  refine va_calli (va_runSN (As := As) (rest := rest) F hM ⟨va_cnB n F.2.2.2.2 (gd_I g5) rfl hrm.1 hrm.2 g1 (F.2.2.2.2 _ (List.mem_cons_of_mem _ g4)) hd hRm, F.2.2.2.2 _ (List.mem_cons_of_mem _ g2), trivial⟩ (ux_preS hK hPc hDc hE hS hFc) rfl hn hls hst (lv_room hcat) hdg ⟨hcs.1, hcs.2⟩) hS (fun q _ h => hFc q h) hFc (fun r u t H1 locs ht hvm hw hB hz1 hk1 hS => ?_)
  obtain ⟨hP1, -, hD1⟩ := hB
  rw [ht] at hP1
  obtain ⟨hP2, hD2⟩ := va_join hP hD isC isR hC hR hn2 hn3 hk1 hFc hP1 hD1
  subst hw
  exact kk H1 locs hP2 hD2 hS
end
theorem ux_meti {l : Launch} {y : MethodName} {cc : ByteArray} {maxL : Nat} {rm : Room} {D : va_G} {cl : List vw_C} {tys : List (ClassId × FieldType)} {w0 : va_W} {sz : Nat} {S : Type} {w1 : S → va_W} {av : List Value} {out : Int32 × S} {tO : Nat} {vF : Value} {adK adV : Nat → Nat} (hy : plainFor y = true) (hlen : (lg_sl av).length ≤ maxL)
    (body : ∀ (p : Program) (e : Env) (s : State) (m : MethodId) (below : List Frame) (meth : Method) (c : Code) (A : Nat → Prop) (Q : State → Prop) (ls : Array Slot), p.tables.exec = Jvm.exec → c.code = cc → c.maxLocals = maxL → (∀ w ∈ (Cond.code y cc maxL (some .int) :: wsL_law), w.before av.toArray s = true) → s.vm.findClass y.cls = some m.cls → (∀ q, s.heap.size ≤ q → A q) → va_P D cl w0 s.heap → va_K D cl tys s → va_D A w0 → xE tO vF adK adV A s s.heap → lv_has ls maxL (lv_args 0 av) →
      (∀ (H : Heap) (locs : List Loc) (pc : Nat) (ls : Array Slot) (v : Int32) (u : S), decode cc pc = .ok (.ireturn, 1) → (v, u) = out → va_P D cl (w1 u) H → va_D A (w1 u) → va_S A s.heap H locs → W p l e rm s m av.toArray below meth c H locs 0 0 Q (F0 m pc ls [.int v])) →
      W p l e rm s m av.toArray below meth c s.heap [] 0 0 Q (F0 m 0 ls [])) :
    Met l y (Cond.code y cc maxL (some .int) :: wsL_law) rm (va_Pc av (ux_pre D cl tys w0 sz (xE tO vF adK adV))) (va_Qi (fun (r : Int32) (u : S) => (r, u) = out) (ux_at D cl tys w0 sz w1) (va_A w0 sz)) 0 0 (va_A w0 sz) := by
  refine va_MetF (cc := cc) (maxL := maxL) (ret := (some .int)) hy rfl ?_
  intro p e s m args below meth c s₁ B hml hv
  obtain ⟨rfl, hsz, hP, hK, hD0, hE⟩ := hv
  have hx := B.exec
  have hb := B.bytes
  have hr := B.returns
  have hts := atoms_spec (ws := Cond.code y cc maxL (some .int) :: wsL_law) B.pre
  have hown : s.vm.findClass y.cls = some m.cls := findClass_of_methodNamed B.named
  have hlocks := B.notSynchronized
  subst hsz
  have hD := hD0.self (sz := s.heap.size)
  have hA : ∀ q : Nat, s.heap.size ≤ q → va_A w0 s.heap.size q := fun q h => Or.inr h
  have hl := lv_entry av (n := maxL) hlen
  rw [lg_entry_eq]
  refine body p e s m below meth c _ _ _ hx hb hml hts hown hA hP hK hD hE hl ?_
  intro H locs pc ls v u hdg hu hP hD hS
  exact W.iret hx hb hr (fun t ht hWm => ⟨⟨v, u, rfl, hu, by rw [ht]; exact hP, va_K.moved hWm.alike hK, hD⟩, hS.F ht⟩) hS.2.2 hdg
theorem ux_meti0 {l : Launch} {y : MethodName} {cc : ByteArray} {maxL : Nat} {rm : Room} {D : va_G} {cl : List vw_C} {tys : List (ClassId × FieldType)} {w0 : va_W} {sz : Nat} {w1 : Unit → va_W} {av : List Value} {out : Int32} {tO : Nat} {vF : Value} {adK adV : Nat → Nat} (hy : plainFor y = true) (hlen : (lg_sl av).length ≤ maxL)
    (body : ∀ (p : Program) (e : Env) (s : State) (m : MethodId) (below : List Frame) (meth : Method) (c : Code) (A : Nat → Prop) (Q : State → Prop) (ls : Array Slot), p.tables.exec = Jvm.exec → c.code = cc → c.maxLocals = maxL → (∀ w ∈ (Cond.code y cc maxL (some .int) :: wsL_law), w.before av.toArray s = true) → s.vm.findClass y.cls = some m.cls → (∀ q, s.heap.size ≤ q → A q) → va_P D cl w0 s.heap → va_K D cl tys s → va_D A w0 → xE tO vF adK adV A s s.heap → lv_has ls maxL (lv_args 0 av) →
      (∀ (H : Heap) (locs : List Loc) (pc : Nat) (ls : Array Slot) (v : Int32), decode cc pc = .ok (.ireturn, 1) → v = out → va_P D cl (w1 ()) H → va_D A (w1 ()) → va_S A s.heap H locs → W p l e rm s m av.toArray below meth c H locs 0 0 Q (F0 m pc ls [.int v])) →
      W p l e rm s m av.toArray below meth c s.heap [] 0 0 Q (F0 m 0 ls [])) :
    Met l y (Cond.code y cc maxL (some .int) :: wsL_law) rm (va_Pc av (ux_pre D cl tys w0 sz (xE tO vF adK adV))) (va_Qi (fun (r : Int32) (_ : Unit) => r = out) (ux_at D cl tys w0 sz w1) (va_A w0 sz)) 0 0 (va_A w0 sz) := by
  refine va_MetF (cc := cc) (maxL := maxL) (ret := (some .int)) hy rfl ?_
  intro p e s m args below meth c s₁ B hml hv
  obtain ⟨rfl, hsz, hP, hK, hD0, hE⟩ := hv
  have hx := B.exec
  have hb := B.bytes
  have hr := B.returns
  have hts := atoms_spec (ws := Cond.code y cc maxL (some .int) :: wsL_law) B.pre
  have hown : s.vm.findClass y.cls = some m.cls := findClass_of_methodNamed B.named
  have hlocks := B.notSynchronized
  subst hsz
  have hD := hD0.self (sz := s.heap.size)
  have hA : ∀ q : Nat, s.heap.size ≤ q → va_A w0 s.heap.size q := fun q h => Or.inr h
  have hl := lv_entry av (n := maxL) hlen
  rw [lg_entry_eq]
  refine body p e s m below meth c _ _ _ hx hb hml hts hown hA hP hK hD hE hl ?_
  intro H locs pc ls v hdg hu hP hD hS
  exact W.iret hx hb hr (fun t ht hWm => ⟨⟨v, (), rfl, hu, by rw [ht]; exact hP, va_K.moved hWm.alike hK, hD⟩, hS.F ht⟩) hS.2.2 hdg
theorem ux_metz {l : Launch} {y : MethodName} {cc : ByteArray} {maxL : Nat} {rm : Room} {D : va_G} {cl : List vw_C} {tys : List (ClassId × FieldType)} {w0 : va_W} {sz : Nat} {S : Type} {w1 : S → va_W} {av : List Value} {out : Int32 × S} {tO : Nat} {vF : Value} {adK adV : Nat → Nat} (hy : plainFor y = true) (hlen : (lg_sl av).length ≤ maxL)
    (body : ∀ (p : Program) (e : Env) (s : State) (m : MethodId) (below : List Frame) (meth : Method) (c : Code) (A : Nat → Prop) (Q : State → Prop) (ls : Array Slot), p.tables.exec = Jvm.exec → c.code = cc → c.maxLocals = maxL → (∀ w ∈ (Cond.code y cc maxL (some .boolean) :: wsL_law), w.before av.toArray s = true) → s.vm.findClass y.cls = some m.cls → (∀ q, s.heap.size ≤ q → A q) → va_P D cl w0 s.heap → va_K D cl tys s → va_D A w0 → xE tO vF adK adV A s s.heap → lv_has ls maxL (lv_args 0 av) →
      (∀ (H : Heap) (locs : List Loc) (pc : Nat) (ls : Array Slot) (v : Int32) (u : S), decode cc pc = .ok (.ireturn, 1) → (v, u) = out → isz v = true → va_P D cl (w1 u) H → va_D A (w1 u) → va_S A s.heap H locs → W p l e rm s m av.toArray below meth c H locs 0 0 Q (F0 m pc ls [.int v])) →
      W p l e rm s m av.toArray below meth c s.heap [] 0 0 Q (F0 m 0 ls [])) :
    Met l y (Cond.code y cc maxL (some .boolean) :: wsL_law) rm (va_Pc av (ux_pre D cl tys w0 sz (xE tO vF adK adV))) (va_Qi (fun (r : Int32) (u : S) => (r, u) = out) (ux_at D cl tys w0 sz w1) (va_A w0 sz)) 0 0 (va_A w0 sz) := by
  refine va_MetF (cc := cc) (maxL := maxL) (ret := (some .boolean)) hy rfl ?_
  intro p e s m args below meth c s₁ B hml hv
  obtain ⟨rfl, hsz, hP, hK, hD0, hE⟩ := hv
  have hx := B.exec
  have hb := B.bytes
  have hr := B.returns
  have hts := atoms_spec (ws := Cond.code y cc maxL (some .boolean) :: wsL_law) B.pre
  have hown : s.vm.findClass y.cls = some m.cls := findClass_of_methodNamed B.named
  have hlocks := B.notSynchronized
  subst hsz
  have hD := hD0.self (sz := s.heap.size)
  have hA : ∀ q : Nat, s.heap.size ≤ q → va_A w0 s.heap.size q := fun q h => Or.inr h
  have hl := lv_entry av (n := maxL) hlen
  rw [lg_entry_eq]
  refine body p e s m below meth c _ _ _ hx hb hml hts hown hA hP hK hD hE hl ?_
  intro H locs pc ls v u hdg hu hz hP hD hS
  exact W.zret hx hb hr (isz_nar hz) (fun t ht hWm => ⟨⟨v, u, rfl, hu, by rw [ht]; exact hP, va_K.moved hWm.alike hK, hD⟩, hS.F ht⟩) hS.2.2 hdg
theorem ux_metz0 {l : Launch} {y : MethodName} {cc : ByteArray} {maxL : Nat} {rm : Room} {D : va_G} {cl : List vw_C} {tys : List (ClassId × FieldType)} {w0 : va_W} {sz : Nat} {w1 : Unit → va_W} {av : List Value} {out : Int32} {tO : Nat} {vF : Value} {adK adV : Nat → Nat} (hy : plainFor y = true) (hlen : (lg_sl av).length ≤ maxL)
    (body : ∀ (p : Program) (e : Env) (s : State) (m : MethodId) (below : List Frame) (meth : Method) (c : Code) (A : Nat → Prop) (Q : State → Prop) (ls : Array Slot), p.tables.exec = Jvm.exec → c.code = cc → c.maxLocals = maxL → (∀ w ∈ (Cond.code y cc maxL (some .boolean) :: wsL_law), w.before av.toArray s = true) → s.vm.findClass y.cls = some m.cls → (∀ q, s.heap.size ≤ q → A q) → va_P D cl w0 s.heap → va_K D cl tys s → va_D A w0 → xE tO vF adK adV A s s.heap → lv_has ls maxL (lv_args 0 av) →
      (∀ (H : Heap) (locs : List Loc) (pc : Nat) (ls : Array Slot) (v : Int32), decode cc pc = .ok (.ireturn, 1) → v = out → isz v = true → va_P D cl (w1 ()) H → va_D A (w1 ()) → va_S A s.heap H locs → W p l e rm s m av.toArray below meth c H locs 0 0 Q (F0 m pc ls [.int v])) →
      W p l e rm s m av.toArray below meth c s.heap [] 0 0 Q (F0 m 0 ls [])) :
    Met l y (Cond.code y cc maxL (some .boolean) :: wsL_law) rm (va_Pc av (ux_pre D cl tys w0 sz (xE tO vF adK adV))) (va_Qi (fun (r : Int32) (_ : Unit) => r = out) (ux_at D cl tys w0 sz w1) (va_A w0 sz)) 0 0 (va_A w0 sz) := by
  refine va_MetF (cc := cc) (maxL := maxL) (ret := (some .boolean)) hy rfl ?_
  intro p e s m args below meth c s₁ B hml hv
  obtain ⟨rfl, hsz, hP, hK, hD0, hE⟩ := hv
  have hx := B.exec
  have hb := B.bytes
  have hr := B.returns
  have hts := atoms_spec (ws := Cond.code y cc maxL (some .boolean) :: wsL_law) B.pre
  have hown : s.vm.findClass y.cls = some m.cls := findClass_of_methodNamed B.named
  have hlocks := B.notSynchronized
  subst hsz
  have hD := hD0.self (sz := s.heap.size)
  have hA : ∀ q : Nat, s.heap.size ≤ q → va_A w0 s.heap.size q := fun q h => Or.inr h
  have hl := lv_entry av (n := maxL) hlen
  rw [lg_entry_eq]
  refine body p e s m below meth c _ _ _ hx hb hml hts hown hA hP hK hD hE hl ?_
  intro H locs pc ls v hdg hu hz hP hD hS
  exact W.zret hx hb hr (isz_nar hz) (fun t ht hWm => ⟨⟨v, (), rfl, hu, by rw [ht]; exact hP, va_K.moved hWm.alike hK, hD⟩, hS.F ht⟩) hS.2.2 hdg
theorem ux_metl {l : Launch} {y : MethodName} {cc : ByteArray} {maxL : Nat} {rm : Room} {D : va_G} {cl : List vw_C} {tys : List (ClassId × FieldType)} {w0 : va_W} {sz : Nat} {S : Type} {w1 : S → va_W} {av : List Value} {out : Int64 × S} {tO : Nat} {vF : Value} {adK adV : Nat → Nat} (hy : plainFor y = true) (hlen : (lg_sl av).length ≤ maxL)
    (body : ∀ (p : Program) (e : Env) (s : State) (m : MethodId) (below : List Frame) (meth : Method) (c : Code) (A : Nat → Prop) (Q : State → Prop) (ls : Array Slot), p.tables.exec = Jvm.exec → c.code = cc → c.maxLocals = maxL → (∀ w ∈ (Cond.code y cc maxL (some .long) :: wsL_law), w.before av.toArray s = true) → s.vm.findClass y.cls = some m.cls → (∀ q, s.heap.size ≤ q → A q) → va_P D cl w0 s.heap → va_K D cl tys s → va_D A w0 → xE tO vF adK adV A s s.heap → lv_has ls maxL (lv_args 0 av) →
      (∀ (H : Heap) (locs : List Loc) (pc : Nat) (ls : Array Slot) (v : Int64) (u : S), decode cc pc = .ok (.lreturn, 1) → (v, u) = out → va_P D cl (w1 u) H → va_D A (w1 u) → va_S A s.heap H locs → W p l e rm s m av.toArray below meth c H locs 0 0 Q (F0 m pc ls [.long v])) →
      W p l e rm s m av.toArray below meth c s.heap [] 0 0 Q (F0 m 0 ls [])) :
    Met l y (Cond.code y cc maxL (some .long) :: wsL_law) rm (va_Pc av (ux_pre D cl tys w0 sz (xE tO vF adK adV))) (va_Ql (fun (r : Int64) (u : S) => (r, u) = out) (ux_at D cl tys w0 sz w1) (va_A w0 sz)) 0 0 (va_A w0 sz) := by
  refine va_MetF (cc := cc) (maxL := maxL) (ret := (some .long)) hy rfl ?_
  intro p e s m args below meth c s₁ B hml hv
  obtain ⟨rfl, hsz, hP, hK, hD0, hE⟩ := hv
  have hx := B.exec
  have hb := B.bytes
  have hr := B.returns
  have hts := atoms_spec (ws := Cond.code y cc maxL (some .long) :: wsL_law) B.pre
  have hown : s.vm.findClass y.cls = some m.cls := findClass_of_methodNamed B.named
  have hlocks := B.notSynchronized
  subst hsz
  have hD := hD0.self (sz := s.heap.size)
  have hA : ∀ q : Nat, s.heap.size ≤ q → va_A w0 s.heap.size q := fun q h => Or.inr h
  have hl := lv_entry av (n := maxL) hlen
  rw [lg_entry_eq]
  refine body p e s m below meth c _ _ _ hx hb hml hts hown hA hP hK hD hE hl ?_
  intro H locs pc ls v u hdg hu hP hD hS
  exact W.lret hx hb hr (fun t ht hWm => ⟨⟨v, u, rfl, hu, by rw [ht]; exact hP, va_K.moved hWm.alike hK, hD⟩, hS.F ht⟩) hS.2.2 hdg
theorem ux_metl0 {l : Launch} {y : MethodName} {cc : ByteArray} {maxL : Nat} {rm : Room} {D : va_G} {cl : List vw_C} {tys : List (ClassId × FieldType)} {w0 : va_W} {sz : Nat} {w1 : Unit → va_W} {av : List Value} {out : Int64} {tO : Nat} {vF : Value} {adK adV : Nat → Nat} (hy : plainFor y = true) (hlen : (lg_sl av).length ≤ maxL)
    (body : ∀ (p : Program) (e : Env) (s : State) (m : MethodId) (below : List Frame) (meth : Method) (c : Code) (A : Nat → Prop) (Q : State → Prop) (ls : Array Slot), p.tables.exec = Jvm.exec → c.code = cc → c.maxLocals = maxL → (∀ w ∈ (Cond.code y cc maxL (some .long) :: wsL_law), w.before av.toArray s = true) → s.vm.findClass y.cls = some m.cls → (∀ q, s.heap.size ≤ q → A q) → va_P D cl w0 s.heap → va_K D cl tys s → va_D A w0 → xE tO vF adK adV A s s.heap → lv_has ls maxL (lv_args 0 av) →
      (∀ (H : Heap) (locs : List Loc) (pc : Nat) (ls : Array Slot) (v : Int64), decode cc pc = .ok (.lreturn, 1) → v = out → va_P D cl (w1 ()) H → va_D A (w1 ()) → va_S A s.heap H locs → W p l e rm s m av.toArray below meth c H locs 0 0 Q (F0 m pc ls [.long v])) →
      W p l e rm s m av.toArray below meth c s.heap [] 0 0 Q (F0 m 0 ls [])) :
    Met l y (Cond.code y cc maxL (some .long) :: wsL_law) rm (va_Pc av (ux_pre D cl tys w0 sz (xE tO vF adK adV))) (va_Ql (fun (r : Int64) (_ : Unit) => r = out) (ux_at D cl tys w0 sz w1) (va_A w0 sz)) 0 0 (va_A w0 sz) := by
  refine va_MetF (cc := cc) (maxL := maxL) (ret := (some .long)) hy rfl ?_
  intro p e s m args below meth c s₁ B hml hv
  obtain ⟨rfl, hsz, hP, hK, hD0, hE⟩ := hv
  have hx := B.exec
  have hb := B.bytes
  have hr := B.returns
  have hts := atoms_spec (ws := Cond.code y cc maxL (some .long) :: wsL_law) B.pre
  have hown : s.vm.findClass y.cls = some m.cls := findClass_of_methodNamed B.named
  have hlocks := B.notSynchronized
  subst hsz
  have hD := hD0.self (sz := s.heap.size)
  have hA : ∀ q : Nat, s.heap.size ≤ q → va_A w0 s.heap.size q := fun q h => Or.inr h
  have hl := lv_entry av (n := maxL) hlen
  rw [lg_entry_eq]
  refine body p e s m below meth c _ _ _ hx hb hml hts hown hA hP hK hD hE hl ?_
  intro H locs pc ls v hdg hu hP hD hS
  exact W.lret hx hb hr (fun t ht hWm => ⟨⟨v, (), rfl, hu, by rw [ht]; exact hP, va_K.moved hWm.alike hK, hD⟩, hS.F ht⟩) hS.2.2 hdg
theorem ux_metv {l : Launch} {y : MethodName} {cc : ByteArray} {maxL : Nat} {rm : Room} {D : va_G} {cl : List vw_C} {tys : List (ClassId × FieldType)} {w0 : va_W} {sz : Nat} {S : Type} {w1 : S → va_W} {av : List Value} {out : S} {tO : Nat} {vF : Value} {adK adV : Nat → Nat} (hy : plainFor y = true) (hlen : (lg_sl av).length ≤ maxL)
    (body : ∀ (p : Program) (e : Env) (s : State) (m : MethodId) (below : List Frame) (meth : Method) (c : Code) (A : Nat → Prop) (Q : State → Prop) (ls : Array Slot), p.tables.exec = Jvm.exec → c.code = cc → c.maxLocals = maxL → (∀ w ∈ (Cond.code y cc maxL none :: wsL_law), w.before av.toArray s = true) → s.vm.findClass y.cls = some m.cls → (∀ q, s.heap.size ≤ q → A q) → va_P D cl w0 s.heap → va_K D cl tys s → va_D A w0 → xE tO vF adK adV A s s.heap → lv_has ls maxL (lv_args 0 av) →
      (∀ (H : Heap) (locs : List Loc) (pc : Nat) (ls : Array Slot) (u : S), decode cc pc = .ok (.return_, 1) → u = out → va_P D cl (w1 u) H → va_D A (w1 u) → va_S A s.heap H locs → W p l e rm s m av.toArray below meth c H locs 0 0 Q (F0 m pc ls [])) →
      W p l e rm s m av.toArray below meth c s.heap [] 0 0 Q (F0 m 0 ls [])) :
    Met l y (Cond.code y cc maxL none :: wsL_law) rm (va_Pc av (ux_pre D cl tys w0 sz (xE tO vF adK adV))) (va_Qv (fun u : S => u = out) (ux_at D cl tys w0 sz w1) (va_A w0 sz)) 0 0 (va_A w0 sz) := by
  refine va_MetF (cc := cc) (maxL := maxL) (ret := none) hy rfl ?_
  intro p e s m args below meth c s₁ B hml hv
  obtain ⟨rfl, hsz, hP, hK, hD0, hE⟩ := hv
  have hx := B.exec
  have hb := B.bytes
  have hr := B.returns
  have hts := atoms_spec (ws := Cond.code y cc maxL none :: wsL_law) B.pre
  have hown : s.vm.findClass y.cls = some m.cls := findClass_of_methodNamed B.named
  have hlocks := B.notSynchronized
  subst hsz
  have hD := hD0.self (sz := s.heap.size)
  have hA : ∀ q : Nat, s.heap.size ≤ q → va_A w0 s.heap.size q := fun q h => Or.inr h
  have hl := lv_entry av (n := maxL) hlen
  rw [lg_entry_eq]
  refine body p e s m below meth c _ _ _ hx hb hml hts hown hA hP hK hD hE hl ?_
  intro H locs pc ls u hdg hu hP hD hS
  exact W.vret hx hb hr (fun t ht hWm => ⟨⟨u, rfl, hu, by rw [ht]; exact hP, va_K.moved hWm.alike hK, hD⟩, hS.F ht⟩) hS.2.2 hdg
theorem ux_metv0 {l : Launch} {y : MethodName} {cc : ByteArray} {maxL : Nat} {rm : Room} {D : va_G} {cl : List vw_C} {tys : List (ClassId × FieldType)} {w0 : va_W} {sz : Nat} {w1 : Unit → va_W} {av : List Value} {out : Unit} {tO : Nat} {vF : Value} {adK adV : Nat → Nat} (hy : plainFor y = true) (hlen : (lg_sl av).length ≤ maxL)
    (body : ∀ (p : Program) (e : Env) (s : State) (m : MethodId) (below : List Frame) (meth : Method) (c : Code) (A : Nat → Prop) (Q : State → Prop) (ls : Array Slot), p.tables.exec = Jvm.exec → c.code = cc → c.maxLocals = maxL → (∀ w ∈ (Cond.code y cc maxL none :: wsL_law), w.before av.toArray s = true) → s.vm.findClass y.cls = some m.cls → (∀ q, s.heap.size ≤ q → A q) → va_P D cl w0 s.heap → va_K D cl tys s → va_D A w0 → xE tO vF adK adV A s s.heap → lv_has ls maxL (lv_args 0 av) →
      (∀ (H : Heap) (locs : List Loc) (pc : Nat) (ls : Array Slot) (u : Unit), decode cc pc = .ok (.return_, 1) → u = out → va_P D cl (w1 u) H → va_D A (w1 u) → va_S A s.heap H locs → W p l e rm s m av.toArray below meth c H locs 0 0 Q (F0 m pc ls [])) →
      W p l e rm s m av.toArray below meth c s.heap [] 0 0 Q (F0 m 0 ls [])) :
    Met l y (Cond.code y cc maxL none :: wsL_law) rm (va_Pc av (ux_pre D cl tys w0 sz (xE tO vF adK adV))) (va_Qv (fun u : Unit => u = out) (ux_at D cl tys w0 sz w1) (va_A w0 sz)) 0 0 (va_A w0 sz) := by
  refine va_MetF (cc := cc) (maxL := maxL) (ret := none) hy rfl ?_
  intro p e s m args below meth c s₁ B hml hv
  obtain ⟨rfl, hsz, hP, hK, hD0, hE⟩ := hv
  have hx := B.exec
  have hb := B.bytes
  have hr := B.returns
  have hts := atoms_spec (ws := Cond.code y cc maxL none :: wsL_law) B.pre
  have hown : s.vm.findClass y.cls = some m.cls := findClass_of_methodNamed B.named
  have hlocks := B.notSynchronized
  subst hsz
  have hD := hD0.self (sz := s.heap.size)
  have hA : ∀ q : Nat, s.heap.size ≤ q → va_A w0 s.heap.size q := fun q h => Or.inr h
  have hl := lv_entry av (n := maxL) hlen
  rw [lg_entry_eq]
  refine body p e s m below meth c _ _ _ hx hb hml hts hown hA hP hK hD hE hl ?_
  intro H locs pc ls u hdg hu hP hD hS
  exact W.vret hx hb hr (fun t ht hWm => ⟨⟨u, rfl, hu, by rw [ht]; exact hP, va_K.moved hWm.alike hK, hD⟩, hS.F ht⟩) hS.2.2 hdg
theorem ux_metc0 {l : Launch} {y : MethodName} {cc : ByteArray} {maxL : Nat} {rm : Room} {D : va_G} {cl : List vw_C} {tys : List (ClassId × FieldType)} {w0 : va_W} {sz : Nat} {w1 : Unit → va_W} {av : List Value} {out : Int32} {tO : Nat} {vF : Value} {adK adV : Nat → Nat} (hy : plainFor y = true) (hlen : (lg_sl av).length ≤ maxL)
    (body : ∀ (p : Program) (e : Env) (s : State) (m : MethodId) (below : List Frame) (meth : Method) (c : Code) (A : Nat → Prop) (Q : State → Prop) (ls : Array Slot), p.tables.exec = Jvm.exec → c.code = cc → c.maxLocals = maxL → (∀ w ∈ (Cond.code y cc maxL (some .char) :: wsL_law), w.before av.toArray s = true) → s.vm.findClass y.cls = some m.cls → (∀ q, s.heap.size ≤ q → A q) → va_P D cl w0 s.heap → va_K D cl tys s → va_D A w0 → xE tO vF adK adV A s s.heap → lv_has ls maxL (lv_args 0 av) →
      (∀ (H : Heap) (locs : List Loc) (pc : Nat) (ls : Array Slot) (v : Int32), decode cc pc = .ok (.ireturn, 1) → v = out → isc v = true → va_P D cl (w1 ()) H → va_D A (w1 ()) → va_S A s.heap H locs → W p l e rm s m av.toArray below meth c H locs 0 0 Q (F0 m pc ls [.int v])) →
      W p l e rm s m av.toArray below meth c s.heap [] 0 0 Q (F0 m 0 ls [])) :
    Met l y (Cond.code y cc maxL (some .char) :: wsL_law) rm (va_Pc av (ux_pre D cl tys w0 sz (xE tO vF adK adV))) (va_Qi (fun (r : Int32) (_ : Unit) => r = out) (ux_at D cl tys w0 sz w1) (va_A w0 sz)) 0 0 (va_A w0 sz) := by
  refine va_MetF (cc := cc) (maxL := maxL) (ret := (some .char)) hy rfl ?_
  intro p e s m args below meth c s₁ B hml hv
  obtain ⟨rfl, hsz, hP, hK, hD0, hE⟩ := hv
  have hx := B.exec
  have hb := B.bytes
  have hr := B.returns
  have hts := atoms_spec (ws := Cond.code y cc maxL (some .char) :: wsL_law) B.pre
  have hown : s.vm.findClass y.cls = some m.cls := findClass_of_methodNamed B.named
  have hlocks := B.notSynchronized
  subst hsz
  have hD := hD0.self (sz := s.heap.size)
  have hA : ∀ q : Nat, s.heap.size ≤ q → va_A w0 s.heap.size q := fun q h => Or.inr h
  have hl := lv_entry av (n := maxL) hlen
  rw [lg_entry_eq]
  refine body p e s m below meth c _ _ _ hx hb hml hts hown hA hP hK hD hE hl ?_
  intro H locs pc ls v hdg hu hz hP hD hS
  exact W.zret hx hb hr (isc_nar hz) (fun t ht hWm => ⟨⟨v, (), rfl, hu, by rw [ht]; exact hP, va_K.moved hWm.alike hK, hD⟩, hS.F ht⟩) hS.2.2 hdg
theorem ux_metb0 {l : Launch} {y : MethodName} {cc : ByteArray} {maxL : Nat} {rm : Room} {D : va_G} {cl : List vw_C} {tys : List (ClassId × FieldType)} {w0 : va_W} {sz : Nat} {w1 : Unit → va_W} {av : List Value} {out : Int32} {tO : Nat} {vF : Value} {adK adV : Nat → Nat} (hy : plainFor y = true) (hlen : (lg_sl av).length ≤ maxL)
    (body : ∀ (p : Program) (e : Env) (s : State) (m : MethodId) (below : List Frame) (meth : Method) (c : Code) (A : Nat → Prop) (Q : State → Prop) (ls : Array Slot), p.tables.exec = Jvm.exec → c.code = cc → c.maxLocals = maxL → (∀ w ∈ (Cond.code y cc maxL (some .byte) :: wsL_law), w.before av.toArray s = true) → s.vm.findClass y.cls = some m.cls → (∀ q, s.heap.size ≤ q → A q) → va_P D cl w0 s.heap → va_K D cl tys s → va_D A w0 → xE tO vF adK adV A s s.heap → lv_has ls maxL (lv_args 0 av) →
      (∀ (H : Heap) (locs : List Loc) (pc : Nat) (ls : Array Slot) (v : Int32), decode cc pc = .ok (.ireturn, 1) → v = out → isb v = true → va_P D cl (w1 ()) H → va_D A (w1 ()) → va_S A s.heap H locs → W p l e rm s m av.toArray below meth c H locs 0 0 Q (F0 m pc ls [.int v])) →
      W p l e rm s m av.toArray below meth c s.heap [] 0 0 Q (F0 m 0 ls [])) :
    Met l y (Cond.code y cc maxL (some .byte) :: wsL_law) rm (va_Pc av (ux_pre D cl tys w0 sz (xE tO vF adK adV))) (va_Qi (fun (r : Int32) (_ : Unit) => r = out) (ux_at D cl tys w0 sz w1) (va_A w0 sz)) 0 0 (va_A w0 sz) := by
  refine va_MetF (cc := cc) (maxL := maxL) (ret := (some .byte)) hy rfl ?_
  intro p e s m args below meth c s₁ B hml hv
  obtain ⟨rfl, hsz, hP, hK, hD0, hE⟩ := hv
  have hx := B.exec
  have hb := B.bytes
  have hr := B.returns
  have hts := atoms_spec (ws := Cond.code y cc maxL (some .byte) :: wsL_law) B.pre
  have hown : s.vm.findClass y.cls = some m.cls := findClass_of_methodNamed B.named
  have hlocks := B.notSynchronized
  subst hsz
  have hD := hD0.self (sz := s.heap.size)
  have hA : ∀ q : Nat, s.heap.size ≤ q → va_A w0 s.heap.size q := fun q h => Or.inr h
  have hl := lv_entry av (n := maxL) hlen
  rw [lg_entry_eq]
  refine body p e s m below meth c _ _ _ hx hb hml hts hown hA hP hK hD hE hl ?_
  intro H locs pc ls v hdg hu hz hP hD hS
  exact W.zret hx hb hr (isb_nar hz) (fun t ht hWm => ⟨⟨v, (), rfl, hu, by rw [ht]; exact hP, va_K.moved hWm.alike hK, hD⟩, hS.F ht⟩) hS.2.2 hdg
