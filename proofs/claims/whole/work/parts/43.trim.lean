/-! one bar, as it would be pressed -/
def zA (la : Nat → Int32) (b ra : Int32) : Int32 := (((if 0 < b - la 0 then b - la 0 else 0) * ra) * (1000 + la 5)) / 1000
def zmi (l x : Int32) : Int32 := if x < l then x else l
def zH (la : Nat → Int32) (A : Int32) : Int32 := zmi (la 1) A
def zTl (la : Nat → Int32) (A : Int32) : Int32 := zmi (la 2) (A - zH la A)
def zW (la : Nat → Int32) (A w : Int32) : Int32 := if w = 0 then 0 else zmi (la 3) (A - zH la A - zTl la A)
def zU (la : Nat → Int32) (A w : Int32) : Int32 := A - zH la A - zTl la A - zW la A w
theorem zall {la : Nat → Int32} {b ra : Int32} (hb : 200 ≤ b ∧ b ≤ 1200) (h0 : 0 ≤ la 0 ∧ la 0 ≤ 100) (hr : 5 ≤ ra ∧ ra ≤ 80) (h5 : 0 ≤ la 5 ∧ la 5 ≤ 20) : ((((b - la 0).toInt64 * ra.toInt64) * (1000 + la 5).toInt64 / 1000)).toInt32 = zA la b ra ∧ (0 ≤ zA la b ra ∧ zA la b ra ≤ 97920) := by
  have kb := ztoI hb
  have k0 := ztoI h0
  have kr := ztoI hr
  have k5 := ztoI h5
  have e1 : (200 : Int32).toInt = 200 := rfl
  have e2 : (1200 : Int32).toInt = 1200 := rfl
  have e3 : (0 : Int32).toInt = 0 := rfl
  have e4 : (100 : Int32).toInt = 100 := rfl
  have e5 : (5 : Int32).toInt = 5 := rfl
  have e6 : (80 : Int32).toInt = 80 := rfl
  have e7 : (20 : Int32).toInt = 20 := rfl
  rw [e1, e2] at kb
  rw [e3, e4] at k0
  rw [e5, e6] at kr
  rw [e3, e7] at k5
  have z0 : (0 : Int32) = zo 0 := rfl
  have z1 : (1000 : Int32) = zo 1000 := rfl
  have t1 := zmb (a := b.toInt - (la 0).toInt) (l := ra.toInt) (A := 1200) (L := 80) ⟨by omega, by omega⟩ ⟨by omega, by omega⟩
  have t2 := zmb (a := (b.toInt - (la 0).toInt) * ra.toInt) (l := 1000 + (la 5).toInt) (A := 96000) (L := 1020) ⟨by omega, by omega⟩ ⟨by omega, by omega⟩
  have eb : b - la 0 = zo (b.toInt - (la 0).toInt) := by rw [← zo_sub, zo_self, zo_self]
  have es : 1000 + la 5 = zo (1000 + (la 5).toInt) := by rw [← zo_add, zo_self, ← z1]
  have er : ra = zo ra.toInt := (zo_self ra).symm
  have eA : zA la b ra = zo ((b.toInt - (la 0).toInt) * ra.toInt * (1000 + (la 5).toInt) / 1000) := by
    unfold zA
    rw [eb, z0, if_pos ((zo_lt ⟨by omega, by omega⟩ ⟨by omega, by omega⟩).mpr (by omega)), es]
    conv => lhs; rw [er]
    rw [z1, zo_mul, zo_mul, zo_div ⟨t2.1, by omega⟩ ⟨by omega, by omega⟩]
  have hq : 0 ≤ (b.toInt - (la 0).toInt) * ra.toInt * (1000 + (la 5).toInt) / 1000 := Int.ediv_nonneg t2.1 (by omega)
  have hq2 : (b.toInt - (la 0).toInt) * ra.toInt * (1000 + (la 5).toInt) / 1000 ≤ 97920 := by omega
  have z9 : (97920 : Int32) = zo 97920 := rfl
  have i1 : Int32.minValue.toInt = -2147483648 := rfl
  have i2 : Int32.maxValue.toInt = 2147483647 := rfl
  have i3 : Int64.minValue.toInt = -9223372036854775808 := rfl
  have i4 : Int64.maxValue.toInt = 9223372036854775807 := rfl
  refine ⟨?_, ?_, ?_⟩
  · rw [eA, eb, es]
    conv => lhs; rw [er]
    rw [Int32.toInt64_ofInt (by omega) (by omega), Int32.toInt64_ofInt (by omega) (by omega), Int32.toInt64_ofInt (by omega) (by omega), ← Int64.ofInt_mul, ← Int64.ofInt_mul]
    have z8 : (1000 : Int64) = Int64.ofInt 1000 := rfl
    rw [z8, ← Int64.ofInt_tdiv (by omega) (by omega) (by omega) (by omega), Int64.toInt32_ofInt, Int.tdiv_eq_ediv_of_nonneg t2.1]
  · rw [eA, z0]; exact (zo_le ⟨by omega, by omega⟩ ⟨by omega, by omega⟩).mpr hq
  · rw [eA, z9]; exact (zo_le ⟨by omega, by omega⟩ ⟨by omega, by omega⟩).mpr hq2
theorem zmi_b {l x : Int32} (hl : 0 ≤ l) (hx : 0 ≤ x) : 0 ≤ zmi l x ∧ zmi l x ≤ x := by
  unfold zmi
  split <;> grind
theorem zU_b {la : Nat → Int32} {A w : Int32} (hA : 0 ≤ A ∧ A ≤ 97920) (h1 : 0 ≤ la 1) (h2 : 0 ≤ la 2) (h3 : 0 ≤ la 3) : 0 ≤ zU la A w ∧ zU la A w ≤ 97920 := by
  have k1 : 0 ≤ zH la A ∧ zH la A ≤ A := zmi_b h1 hA.1
  have k2 : 0 ≤ zTl la A ∧ zTl la A ≤ A - zH la A := zmi_b h2 (by grind)
  have k3 : 0 ≤ zW la A w ∧ zW la A w ≤ A - zH la A - zTl la A := by
    unfold zW
    split
    · grind
    · exact zmi_b h3 (by grind)
  unfold zU
  generalize zH la A = x at *
  generalize zTl la A = y at *
  generalize zW la A w = z at *
  grind
set_option maxHeartbeats 2000000 in
theorem w_trim (d : Nat) (I : Nat → Nat → Int32) (J : Nat → Nat → Int64) (b ra w : Int32) (Q : Option Value → zM → Prop) (K : ∀ I' : Nat → Nat → Int32, (∀ c, c ≠ 17 → I' c = I c) → I' 17 0 = b → I' 17 1 = zA (I 16) b ra → I' 17 2 = zH (I 16) (zA (I 16) b ra) → I' 17 3 = zTl (I 16) (zA (I 16) b ra) → I' 17 4 = zW (I 16) (zA (I 16) b ra) w → I' 17 5 = zU (I 16) (zA (I 16) b ra) w → Q none (I', J, zR, 81)) : zT (d + 2) 50 81 [.ref 17, .ref 16, .int b, .int ra, .int w] (I, J, zR, 81) Q := by
  refine w_X8_trim d I J b ra w Q rfl (fun q => ?_) (fun q => ?_)
  · refine K _ (fun c h => ?_) rfl rfl rfl rfl (by unfold zW; rw [if_pos q]; rfl) (by unfold zU zW; rw [if_pos q]; rfl)
    show va_up (va_up (va_up (va_up (va_up (va_up I 17 _) 17 _) 17 _) 17 _) 17 _) 17 _ c = I c
    rw [zup_ne h, zup_ne h, zup_ne h, zup_ne h, zup_ne h, zup_ne h]
  · refine K _ (fun c h => ?_) rfl rfl rfl rfl (by unfold zW; rw [if_neg q]; rfl) (by unfold zU zW; rw [if_neg q]; rfl)
    show va_up (va_up (va_up (va_up (va_up (va_up I 17 _) 17 _) 17 _) 17 _) 17 _) 17 _ c = I c
    rw [zup_ne h, zup_ne h, zup_ne h, zup_ne h, zup_ne h, zup_ne h]
/-- the class's cells that a bar foreseen may change -/
def zC5 (I I' : Nat → Nat → Int32) : Prop := ∀ c, c ≠ 17 → c ≠ 18 → c ≠ 19 → c ≠ 20 → c ≠ 21 → I' c = I c
set_option maxHeartbeats 2000000 in
theorem w_foresee (d : Nat) (P : zPar) (I : Nat → Nat → Int32) (J : Nat → Nat → Int64) (p b w n : Int32) (Q : Option Value → zM → Prop) (hp : 0 ≤ p ∧ p < n) (hn : n ≤ 8) (ho : 0 ≤ I 7 p.toNatClampNeg ∧ I 7 p.toNatClampNeg ≤ 3) (hP : zPp P (I 7) (I 8) (I 9) (I 16) p (zU (I 16) (zA (I 16) b (I 3 p.toNatClampNeg)) w)) (K : ∀ I' : Nat → Nat → Int32, zC5 I I' → I' 17 0 = b → I' 17 1 = zA (I 16) b (I 3 p.toNatClampNeg) → I' 17 2 = zH (I 16) (zA (I 16) b (I 3 p.toNatClampNeg)) → I' 17 3 = zTl (I 16) (zA (I 16) b (I 3 p.toNatClampNeg)) → I' 17 4 = zW (I 16) (zA (I 16) b (I 3 p.toNatClampNeg)) w → I' 17 6 = zo P.S.1 → I' 17 7 = zU (I 16) (zA (I 16) b (I 3 p.toNatClampNeg)) w - zo P.S.1 → (I' 19 0 = zo P.S.2.1 ∧ I' 19 1 = zo P.S.2.2.1 ∧ I' 19 2 = zo P.S.2.2.2) → Q none (I', J, zR, 81)) : zT (d + 5) 91 81 [.ref 0, .int p, .int b, .int w] (I, J, zR, 81) Q := by
  have hp8 : 0 ≤ p ∧ p < 8 := by clear K; grind
  refine ⟨rfl, fun E At hE hC => ?_⟩
  replace hC : ∀ pc st L M', zX 81 E Q At (zlk B_X9_foresee pc) st L M' → At pc st L M' := hC
  refine hC 0 [] [some (.ref 0), some (.int p), some (.int b), some (.int w)] _ ?_
  refine And.intro (zvp hp8 rfl) ?_
  refine hE _ _ _ _ _ (w_trim (d + 2) I J b (I 3 p.toNatClampNeg) w _ (fun I1 f1 t0 t1 t2 t3 t4 t5 => ?_))
  refine And.intro zvl_4_6 ?_
  have e7 := f1 7 (by decide)
  have e8 := f1 8 (by decide)
  have e9 := f1 9 (by decide)
  have e16 := f1 16 (by decide)
  refine hE _ _ _ _ _ (w_seek d P I1 J p (I1 17 5) _ n _ hp hn (by rw [e7]; exact ho) rfl (by rw [e7, e8, e9, e16, t5]; exact hP) (fun I2 f2 s2 => ?_))
  have g17 := f2 17 (by decide) (by decide) (by decide) (by decide)
  refine hE _ _ _ _ _ (w_X8_share (d + 3) I2 J _ _ (show _ = I2 17 5 from rfl) ?_)
  refine K _ (fun c h17 h18 h19 h20 h21 => ?_) ?_ ?_ ?_ ?_ ?_ ?_ ?_ ?_
  · show va_up (va_up I2 17 _) 17 _ c = I c
    rw [zup_ne h17, zup_ne h17, f2 c h18 h19 h20 h21, f1 c h17]
  · show I2 17 0 = b
    rw [g17]; exact t0
  · show I2 17 1 = _
    rw [g17]; exact t1
  · show I2 17 2 = _
    rw [g17]; exact t2
  · show I2 17 3 = _
    rw [g17]; exact t3
  · show I2 17 4 = _
    rw [g17]; exact t4
  · exact s2.1
  · show I2 17 5 - I2 18 1 = _
    rw [g17, t5, s2.1]
  · exact s2.2
