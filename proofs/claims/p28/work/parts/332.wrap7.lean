/-! the reference's day, with the day's number and a bound for it -/
theorem RW_mono {live : Int32} {cells room : Nat → Int32} {row : Nat → Int64} {M N : Int} (g : GC live cells room) (h : RW live cells room row M) (hM : M ≤ N) : RW live cells room row N := by
  intro x h0 h1
  have r := g.2.2 x h0 h1
  have w := h x h0 h1
  refine ⟨w.1, Int.lt_of_lt_of_le w.2 ?_⟩
  exact Int.mul_le_mul_of_nonneg_right (by omega) (by have := r.1; omega)
def RD (live : Int32) (cells room : Nat → Int32) (row : Nat → Int64) (rd : Int32) (B : Int) : Prop := 0 ≤ rd.toInt ∧ rd.toInt ≤ B ∧ RW live cells room row (10000 + 99 * rd.toInt)
theorem RD_mono {live : Int32} {cells room : Nat → Int32} {row : Nat → Int64} {rd : Int32} {B C : Int} (h : RD live cells room row rd B) (hB : B ≤ C) : RD live cells room row rd C := ⟨h.1, Int.le_trans h.2.1 hB, h.2.2⟩
def RE (live : Int32) (cells room : Nat → Int32) (row : Nat → Int64) : Prop := RW live cells room row 900000000
theorem RE_of {live : Int32} {cells room : Nat → Int32} {row : Nat → Int64} {rd : Int32} {B : Int} (g : GC live cells room) (h : RD live cells room row rd B) (hB : B ≤ 2000000) : RE live cells room row := RW_mono g h.2.2 (by have := h.2.1; omega)
def WA (live : Int32) (cells water : Nat → Int32) : Prop := ∀ x : Int32, 0 ≤ x.toInt → x.toInt < nC live cells → rg (rO live water x) 0 9999
def NE (live : Int32) (villages need : Nat → Int32) : Prop := ∀ x : Int32, 0 ≤ x.toInt → x.toInt < (villages live.toNatClampNeg).toInt → rg (hA live need x) 0 99
def PO (live : Int32) (cells passes one oth : Nat → Int32) : Prop := ∀ x : Int32, 0 ≤ x.toInt → x.toInt < (passes live.toNatClampNeg).toInt → rg (pA live one x) 0 11 ∧ rg (pA live oth x) 0 11
/-- the cells that were told, up to k -/
def TK (live : Int32) (cells tc : Nat → Int32) (k : Int32) : Prop := ∀ x : Int32, 0 ≤ x.toInt → x.toInt < k.toInt → 0 ≤ (tc x.toNatClampNeg).toInt ∧ (tc x.toNatClampNeg).toInt < nC live cells
theorem TK_le {live : Int32} {cells tc : Nat → Int32} {k l : Int32} (h : TK live cells tc k) (hl : l.toInt ≤ k.toInt) : TK live cells tc l := fun x h0 h1 => h x h0 (by omega)
theorem t_X7_goesBy (live ch ca_ pc pm pf pt : Int32) (cells room passes one oth rivers rc rl rw rs rains villages home need lf lt_ code ci wants off wide rain : Nat → Int32) (ib rd : Int32) (ta ra : Int64) (vars pile : Nat → Int32) (row tk : Nat → Int64) (di wl : Nat → Int32) (more ms : Nat → Int64) {B : Int} (y : DY live cells room passes one oth rivers rc rl rw rains villages home lf lt_ code ci) (p : PN live cells passes rains wants wide rain pc pm) (hr : RD live cells room row rd B) (hB : B ≤ 2000000) : ok (f_X7_goesBy live ch ca_ pc pm pf pt cells room passes one oth rivers rc rl rw rs rains villages home need lf lt_ code ci wants off wide rain ib rd ta ra vars pile row tk di wl more ms) (fun o => RD live cells room o.2.2.2.2.2.2.1 o.2.1 (B + 1) ∧ True) := by
  obtain ⟨h0, h1, h2⟩ := hr
  refine ok_w (s_X7_goesBy live ch ca_ pc pm pf pt cells room passes one oth rivers rc rl rw rs rains villages home need lf lt_ code ci wants off wide rain ib rd ta ra vars pile row tk di wl more ms y p h2 (by omega) (by omega) h0) (fun o ho => ⟨?_, trivial⟩)
  obtain ⟨e, w⟩ := ho
  have t : (rd + 1).toInt = rd.toInt + 1 := ti_add (x := rd) (y := 1) (a := 0) (b := 2000000) ⟨h0, by omega⟩ (show rg (1 : Int32) 1 1 from ⟨by decide, by decide⟩) (by decide) (by decide)
  unfold RD
  rw [e, t]
  refine ⟨by omega, by omega, ?_⟩
  have q : 10000 + 99 * (rd.toInt + 1) = 10000 + 99 * rd.toInt + 99 := by omega
  rw [q]
  exact w
theorem t_X7_sees (live rd : Int32) (cells room rains rain : Nat → Int32) (row : Nat → Int64) {passes one oth rivers rc rl rw villages home lf lt_ code ci wants wide : Nat → Int32} {pc pm : Int32} {B : Int} (y : DY live cells room passes one oth rivers rc rl rw rains villages home lf lt_ code ci) (p : PN live cells passes rains wants wide rain pc pm) (hr : RD live cells room row rd B) (hB : B ≤ 2000000) : ok (f_X7_sees live rd cells room rains rain row) (fun o => RE live cells room o ∧ True) := by
  obtain ⟨h0, h1, h2⟩ := hr
  exact ok_w (s_X7_sees live rd cells room rains rain row y.1 (by omega) h2 y.2.2.1 h0 p.2.1) (fun o ho => ⟨RW_mono y.1 ho (by omega), trivial⟩)
theorem t_X7_wantOf (live rd : Int32) (rains home lf lt_ code ci : Nat → Int32) (row : Nat → Int64) (wants rain : Nat → Int32) (ib : Int32) (vars pile : Nat → Int32) (q1 : Int32) {cells room passes one oth rivers rc rl rw villages wide : Nat → Int32} {pc pm : Int32} (y : DY live cells room passes one oth rivers rc rl rw rains villages home lf lt_ code ci) (p : PN live cells passes rains wants wide rain pc pm) (hd : 0 ≤ rd.toInt) (h0 : 0 ≤ q1.toInt) (h1 : q1.toInt < (villages live.toNatClampNeg).toInt) : ok (f_X7_wantOf live rd rains home lf lt_ code ci row wants rain ib vars pile q1) (fun o => rg o.1 0 9999) := by
  have k := y.2.2.2.2 q1 h0 h1
  have hv := y.2.2.2.1.2
  have hq : rg q1 0 5 := ⟨h0, by omega⟩
  exact s_X7_wantOf live rd rains home lf lt_ code ci row wants rain ib vars pile q1 y.1.1 hq (y.1.lt k.1 k.2.1) k.2.2 (p.2.2.1 q1 hq) y.2.2.1 hd p.2.1
theorem t_X7_takes (live rd ch ca_ pc pm pf pt : Int32) (rains villages home need lf lt_ code ci wants off rain : Nat → Int32) (ib : Int32) (ta : Int64) (va pi : Nat → Int32) (row tk : Nat → Int64) (di wl : Nat → Int32) {cells room passes one oth rivers rc rl rw wide : Nat → Int32} (y : DY live cells room passes one oth rivers rc rl rw rains villages home lf lt_ code ci) (p : PN live cells passes rains wants wide rain pc pm) (hd : 0 ≤ rd.toInt) (hr : RE live cells room row) : ok (f_X7_takes live rd ch ca_ pc pm pf pt rains villages home need lf lt_ code ci wants off rain ib ta va pi row tk di wl) (fun o => RE live cells room o.2.2.2.2.1 ∧ True) :=
  ok_w (s_X7_takes live rd ch ca_ pc pm pf pt cells room rains villages home need lf lt_ code ci wants off rain ib ta va pi row tk di wl y.1 (by decide) hr y.2.2.2.1 (fun x h0 h1 => ⟨(y.2.2.2.2 x h0 h1).1, (y.2.2.2.2 x h0 h1).2.1⟩) (fun x row ib va pi h0 h1 => t_X7_wantOf live rd rains home lf lt_ code ci row wants rain ib va pi x y p hd h0 h1) p.2.2.2.1 p.2.2.2.2) (fun o ho => ⟨ho, trivial⟩)
theorem t_X7_overPass (live changed changedAt : Int32) (room one oth : Nat → Int32) (row : Nat → Int64) (wide : Nat → Int32) (q1 : Int32) {cells passes rivers rc rl rw rains villages home lf lt_ code ci wants rain : Nat → Int32} {pc pm : Int32} (y : DY live cells room passes one oth rivers rc rl rw rains villages home lf lt_ code ci) (p : PN live cells passes rains wants wide rain pc pm) (hr : RE live cells room row) (h0 : 0 ≤ q1.toInt) (h1 : q1.toInt < (passes live.toNatClampNeg).toInt) : ok (f_X7_overPass live changed changedAt room one oth row wide q1) (fun o => True) := by
  have k := y.2.1.2.2.1 q1 h0 h1
  have hv := y.2.1.1.2
  exact ok_w (s_X7_overPass live changed changedAt cells room one oth row wide q1 y.1 hr (by decide) ⟨h0, by omega⟩ ⟨k.1, k.2.1⟩ ⟨k.2.2.1, k.2.2.2.1⟩ (p.1 q1 h0 h1)) (fun _ _ => trivial)
theorem t_X7_byRiver (live changed changedAt : Int32) (room rc rl rw : Nat → Int32) (row : Nat → Int64) (q1 : Int32) {cells passes one oth rivers rains villages home lf lt_ code ci : Nat → Int32} (y : DY live cells room passes one oth rivers rc rl rw rains villages home lf lt_ code ci) (hr : RE live cells room row) (h0 : 0 ≤ q1.toInt) (h1 : q1.toInt < (rivers live.toNatClampNeg).toInt) : ok (f_X7_byRiver live changed changedAt room rc rl rw row q1) (fun o => True) := by
  have k := y.2.1.2.2.2.1 q1 h0 h1
  have hv := y.2.1.2.1.2
  exact ok_w (s_X7_byRiver live changed changedAt cells room rc rl rw row q1 y.1 hr (by decide) ⟨h0, by omega⟩ ⟨k.1, k.2.1⟩ k.2.2.1 k.2.2.2) (fun _ _ => trivial)
theorem t_X7_level (live : Int32) (room : Nat → Int32) (row : Nat → Int64) (q1 : Int32) {cells : Nat → Int32} (g : GC live cells room) (hr : RE live cells room row) (h0 : 0 ≤ q1.toInt) (h1 : q1.toInt < (cells live.toNatClampNeg).toInt) : ok (f_X7_level live room row q1) (fun _ => True) :=
  ok_w (s_X7_level live room row q1 g.1 (g.lt h0 h1) (g.2.2 q1 h0 h1) (hr q1 h0 h1).1) (fun _ _ => trivial)
theorem t_X7_rainOf (live : Int32) (rains rain : Nat → Int32) (q1 : Int32) {cells passes wants wide : Nat → Int32} {pc pm : Int32} (hl : rg live 0 1) (hn : rg (rains live.toNatClampNeg) 0 14) (p : PN live cells passes rains wants wide rain pc pm) (hq : 0 ≤ q1.toInt) : ok (f_X7_rainOf live rains rain q1) (fun o => rg o 0 99 ∧ True) := ok_w (s_X7_rainOf live rains rain q1 hl hn hq p.2.1) (fun o h => ⟨h, trivial⟩)
theorem t_X7_keeps (rd : Int32) (row : Nat → Int64) (day : Int32) (now : Nat → Int64) {live : Int32} {cells room : Nat → Int32} {B : Int} (g : GC live cells room) (hr : RD live cells room row rd B) : ok (f_X7_keeps rd row day now) (fun o => RD live cells room o.2 o.1 B ∧ True) := by
  refine ok_w (s_X7_keeps live rd cells room row day now g hr.2.2) (fun o ho => ⟨?_, trivial⟩)
  obtain ⟨e, w⟩ := ho
  unfold RD
  rw [e]
  exact ⟨hr.1, hr.2.1, w⟩
theorem t_X7_goesFrom (live day : Int32) (pw rn : Nat → Int32) (now : Nat → Int64) (rd ch pc : Int32) (ta ra : Int64) (row : Nat → Int64) (wants off wide rain : Nat → Int32) {cells room passes one oth rivers rc rl rw rains villages home lf lt_ code ci : Nat → Int32} {B : Int} {pm : Int32} (y : DY live cells room passes one oth rivers rc rl rw rains villages home lf lt_ code ci) (x : GX live passes pw rains rn) (h : RD live cells room now day B) : ok (f_X7_goesFrom live day pw rn now rd ch pc ta ra row wants off wide rain) (fun o => PN live cells passes rains o.2.2.2.2.2.2.1 o.2.2.2.2.2.2.2.2.1 o.2.2.2.2.2.2.2.2.2 o.2.2.1 pm ∧ RD live cells room o.2.2.2.2.2.1 o.1 B ∧ True) := by
  refine ok_w (s_X7_goesFrom live day cells room passes rains pw rn now rd ch pc ta ra row wants off wide rain (pm := pm) y.1 y.2.1.1 y.2.2.1 x h.2.2) (fun o ho => ?_)
  obtain ⟨e, _, _, p, w⟩ := ho
  refine ⟨p, ?_, trivial⟩
  unfold RD
  rw [e]
  exact ⟨h.1, h.2.1, w⟩
theorem t_X7_begins (live : Int32) (cells water pw rn : Nat → Int32) (rd ch pc : Int32) (ta ra : Int64) (row : Nat → Int64) (wants off wide rain : Nat → Int32) {room passes one oth rivers rc rl rw rains villages home lf lt_ code ci : Nat → Int32} {pm : Int32} (y : DY live cells room passes one oth rivers rc rl rw rains villages home lf lt_ code ci) (x : GX live passes pw rains rn) (hw : WA live cells water) : ok (f_X7_begins live cells water pw rn rd ch pc ta ra row wants off wide rain) (fun o => PN live cells passes rains o.2.2.2.2.2.2.1 o.2.2.2.2.2.2.2.2.1 o.2.2.2.2.2.2.2.2.2 o.2.2.1 pm ∧ RD live cells room o.2.2.2.2.2.1 o.1 0 ∧ True) := by
  refine ok_w (s_X7_begins live cells room passes rains water pw rn rd ch pc ta ra row wants off wide rain (M := 10000) (pm := pm) y.1 y.2.1.1 y.2.2.1 x (fun z h0 h1 => ?_)) (fun o ho => ?_)
  · have a := hw z h0 h1
    have r := y.1.2.2 z h0 h1
    have a1 := a.1
    have a2 := a.2
    have r1 := r.1
    exact ⟨a1, by omega⟩
  · obtain ⟨e, _, _, p, w⟩ := ho
    refine ⟨p, ?_, trivial⟩
    unfold RD
    rw [e]
    have e0 : (0 : Int32).toInt = 0 := rfl
    rw [e0]
    exact ⟨by decide, by decide, w⟩
theorem PN_wide {live : Int32} {cells passes rains wants wide rain y : Nat → Int32} {pc pm v : Int32} {i : Nat} (e : y = upd wide i v) (h : PN live cells passes rains wants wide rain pc pm) (hv : rg v 0 10) : PN live cells passes rains wants y rain pc pm := by
  refine ⟨fun x h0 h1 => ?_, h.2⟩
  rw [e, upd]
  by_cases q : x.toNatClampNeg = i
  · rw [if_pos q]; exact hv
  · rw [if_neg q]; exact h.1 x h0 h1
theorem PN_rain {live : Int32} {cells passes rains wants wide rain y : Nat → Int32} {pc pm v : Int32} {i : Nat} (e : y = upd rain i v) (h : PN live cells passes rains wants wide rain pc pm) (hv : rg v 0 99) : PN live cells passes rains wants wide y pc pm := by
  refine ⟨h.1, fun x h0 h1 => ?_, h.2.2⟩
  rw [e, upd]
  by_cases q : x.toNatClampNeg = i
  · rw [if_pos q]; exact hv
  · rw [if_neg q]; exact h.2.1 x h0 h1
theorem PN_wants {live : Int32} {cells passes rains wants wide rain y : Nat → Int32} {pc pm v : Int32} {i : Nat} (e : y = upd wants i v) (h : PN live cells passes rains wants wide rain pc pm) (hv : rg v (-1) 9999) : PN live cells passes rains y wide rain pc pm := by
  refine ⟨h.1, h.2.1, fun x h0 => ?_, h.2.2.2⟩
  rw [e, upd]
  by_cases q : x.toNatClampNeg = i
  · rw [if_pos q]; exact hv
  · rw [if_neg q]; exact h.2.2.1 x h0
theorem PN_pump {live : Int32} {cells passes rains wants wide rain : Nat → Int32} {pc pm pc' pm' : Int32} (h : PN live cells passes rains wants wide rain pc pm) (h1 : pc'.toInt < (cells live.toNatClampNeg).toInt) (h2 : 0 ≤ pm'.toInt) : PN live cells passes rains wants wide rain pc' pm' := ⟨h.1, h.2.1, h.2.2.1, h1, fun _ => h2⟩
theorem lt_pred {x a : Int32} {l h : Int} (ha : rg a l h) (hl : -2147483647 ≤ l) (q : x.toInt ≤ (a - 1).toInt) : x.toInt < a.toInt := by
  have h1 := ha.1
  have h2 := (rg_any a).2
  have t : (a - 1).toInt = a.toInt - 1 := ti_sub (x := a) (y := 1) (a := l) (b := 2147483647) ⟨h1, h2⟩ (show rg (1 : Int32) 1 1 from ⟨by decide, by decide⟩) (by omega) (by decide)
  omega
theorem rg_div {x c : Int32} {a b k e f : Int} (h : rg x a b) (ha : 0 ≤ a) (hc : c.toInt = k) (hk : 0 < k) (he : e = a / k) (hf : f = b / k) (hb : b ≤ 2147483647) : rg (x / c) e f := by
  have h1 := h.1
  have h2 := h.2
  have t : (x / c).toInt = x.toInt / k := by
    rw [Jvm.Kit.i32_div (by omega), hc, Int.tdiv_eq_ediv_of_nonneg (by omega)]
  unfold rg
  rw [t, he, hf]
  exact ⟨Int.ediv_le_ediv hk h1, Int.ediv_le_ediv hk h2⟩
