/-! numbers that the machine holds, as integers -/
abbrev zo (x : Int) : Int32 := Int32.ofInt x
def zBd (x : Int) : Prop := -2000000000 ≤ x ∧ x ≤ 2000000000
theorem zo_add (x y : Int) : zo x + zo y = zo (x + y) := (Int32.ofInt_add x y).symm
theorem zo_mul (x y : Int) : zo x * zo y = zo (x * y) := (Int32.ofInt_mul x y).symm
theorem zo_sub (x y : Int) : zo x - zo y = zo (x - y) := (Int32.ofInt_sub x y).symm
theorem zo_toInt {x : Int} (h : zBd x) : (zo x).toInt = x := by
  obtain ⟨h1, h2⟩ := h
  exact Int32.toInt_ofInt_of_le (by omega) (by omega)
theorem zo_le {x y : Int} (hx : zBd x) (hy : zBd y) : (zo x ≤ zo y ↔ x ≤ y) := by rw [Int32.le_iff_toInt_le, zo_toInt hx, zo_toInt hy]
theorem zo_lt {x y : Int} (hx : zBd x) (hy : zBd y) : (zo x < zo y ↔ x < y) := by rw [Int32.lt_iff_toInt_lt, zo_toInt hx, zo_toInt hy]
theorem zo_eq {x y : Int} (hx : zBd x) (hy : zBd y) : (zo x = zo y ↔ x = y) := by rw [← Int32.toInt_inj, zo_toInt hx, zo_toInt hy]
theorem zo_self (v : Int32) : zo v.toInt = v := Int32.ofInt_toInt v
theorem zo_div {x y : Int} (hx : 0 ≤ x ∧ x ≤ 2000000000) (hy : 0 < y ∧ y ≤ 2000000000) : zo x / zo y = zo (x / y) := by
  have e := Int32.toInt_div_of_ne_right (zo x) (zo y) (fun z => by
    have := congrArg Int32.toInt z
    rw [zo_toInt ⟨by omega, by omega⟩] at this
    have e1 : (-1 : Int32).toInt = -1 := rfl
    omega)
  rw [zo_toInt ⟨by omega, by omega⟩, zo_toInt ⟨by omega, by omega⟩, Int.tdiv_eq_ediv_of_nonneg hx.1] at e
  have hq : 0 ≤ x / y := Int.ediv_nonneg hx.1 (by omega)
  have hq2 : x / y ≤ x := Int.ediv_le_self y hx.1
  rw [← Int32.toInt_inj, e, zo_toInt ⟨by omega, by omega⟩]
theorem zmb {a l A L : Int} (ha : 0 ≤ a ∧ a ≤ A) (hl : 0 ≤ l ∧ l ≤ L) : 0 ≤ a * l ∧ a * l ≤ A * L := by
  refine ⟨Int.mul_nonneg ha.1 hl.1, ?_⟩
  have h1 := Int.mul_le_mul_of_nonneg_right ha.2 hl.1
  have h2 := Int.mul_le_mul_of_nonneg_left hl.2 (show 0 ≤ A by omega)
  omega
