/-! the reference's reader: tokens, places, faults -/
theorem z_eq {x v : Int32} {k : Int} (hv : v.toInt = k) (h : x = v) : x.toInt = k := by rw [h, hv]
theorem z_ne {x v : Int32} {k : Int} (hv : v.toInt = k) (h : ¬ x = v) : ¬ x.toInt = k := fun q => h (Int32.toInt_inj.mp (by rw [q, hv]))
theorem z_of {x v : Int32} {k : Int} (hv : v.toInt = k) (h : x.toInt = k) : x = v := Int32.toInt_inj.mp (by rw [h, hv])
theorem le_k {x v : Int32} {k : Int} (hv : v.toInt = k) (h : x ≤ v) : x.toInt ≤ k := by have := ti_le h; omega
theorem k_le {x v : Int32} {k : Int} (hv : v.toInt = k) (h : v ≤ x) : k ≤ x.toInt := by have := ti_le h; omega
theorem lt_k {x v : Int32} {k : Int} (hv : v.toInt = k) (h : x < v) : x.toInt < k := by have := ti_lt h; omega
theorem k_lt {x v : Int32} {k : Int} (hv : v.toInt = k) (h : v < x) : k < x.toInt := by have := ti_lt h; omega
theorem nle_k {x v : Int32} {k : Int} (hv : v.toInt = k) (h : ¬ x ≤ v) : k < x.toInt := by have := ti_nle h; omega
theorem k_nle {x v : Int32} {k : Int} (hv : v.toInt = k) (h : ¬ v ≤ x) : x.toInt < k := by have := ti_nle h; omega
theorem nlt_k {x v : Int32} {k : Int} (hv : v.toInt = k) (h : ¬ x < v) : k ≤ x.toInt := by have := ti_nlt h; omega
theorem k_nlt {x v : Int32} {k : Int} (hv : v.toInt = k) (h : ¬ v < x) : x.toInt ≤ k := by have := ti_nlt h; omega
theorem add_k {x v : Int32} {k : Int} (hv : v.toInt = k) (h1 : -2147483648 ≤ x.toInt + k) (h2 : x.toInt + k ≤ 2147483647) : (x + v).toInt = x.toInt + k := by
  rw [Jvm.Kit.i32_add (by omega) (by omega), hv]
theorem sub_k {x v : Int32} {k : Int} (hv : v.toInt = k) (h1 : -2147483648 ≤ x.toInt - k) (h2 : x.toInt - k ≤ 2147483647) : (x - v).toInt = x.toInt - k := by
  rw [Jvm.Kit.i32_sub (by omega) (by omega), hv]
theorem inb_k {x : Int32} {n : Nat} (h0 : 0 ≤ x.toInt) (h1 : x.toInt < n) : inb x n = true := inb_rg (a := 0) (b := x.toInt) ⟨h0, Int.le_refl _⟩ (by decide) h1
theorem cl_k {x : Int32} (h0 : 0 ≤ x.toInt) : (x.toNatClampNeg : Int) = x.toInt := cl_e (a := 0) (b := x.toInt) ⟨h0, Int.le_refl _⟩ (by decide)
