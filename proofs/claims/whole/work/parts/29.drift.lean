theorem w_J9_floorDiv_7cf53 (d : Nat) (I : Nat → Nat → Int32) (J : Nat → Nat → Int64) (a1 : Int32) (a2 : Int32) (Q : Option Value → zM → Prop) (z1 : ¬ a2 = 0) (l1 : ((0 : Int32) ≤ (a1 ^^^ a2)) → Q (some (.int (a1 / a2))) (I, J, zR, 81)) (l2 : (¬ ((0 : Int32) ≤ (a1 ^^^ a2))) → (((a1 / a2) * a2) = a1) → Q (some (.int (a1 / a2))) (I, J, zR, 81)) (l3 : (¬ ((0 : Int32) ≤ (a1 ^^^ a2))) → (¬ (((a1 / a2) * a2) = a1)) → Q (some (.int ((a1 / a2) - 1))) (I, J, zR, 81)) : zT (d + 1) 148 81 [.int a1, .int a2] (I, J, zR, 81) Q := by
  refine ⟨rfl, fun E At hE hC => ?_⟩
  replace hC : ∀ pc st L M', zX 81 E Q At (zlk B_J9_floorDiv_7cf53 pc) st L M' → At pc st L M' := hC
  refine hC 0 [] [some (.int a1), some (.int a2), none] _ ?_
  refine And.intro (z1) ?_
  refine And.intro (fun q1 => ?_) (fun q1 => ?_)
  · skip
    refine hC 21 [] [some (.int a1), some (.int a2), some (.int (a1 / a2))] _ ?_
    exact l1 q1
  · skip
    refine And.intro (fun q2 => ?_) (fun q2 => ?_)
    · skip
      refine hC 21 [] [some (.int a1), some (.int a2), some (.int (a1 / a2))] _ ?_
      exact l2 q1 q2
    · skip
      exact l3 q1 q2
theorem g_X9_drift_0 (d : Nat) (E : zE) (At : Nat → zC) (Q : Option Value → zM → Prop) (hE : ∀ y n a M' Q', zT (d + 1) y n a M' Q' → E y n a M' Q') (hC : ∀ pc st L M', zX 81 E Q At (zlk B_X9_drift pc) st L M' → At pc st L M') (I : Nat → Nat → Int32) (J : Nat → Nat → Int64) (v1 : Int32) (v2 : Int32) {s22_10 : Int32} (e22_10 : I 22 10 = s22_10) (k1 : (((0 : Int32) ≤ v1 ∧ v1 < s22_10)) → (((0 : Int32) ≤ v2 ∧ v2 < s22_10)) → (v1 ≤ v2) → At 39 [] [some (.ref 0), some (.int v1), some (.int v2), some (.int 0), some (.int 0), some (.int v1), none] (I, J, zR, 81)) (l1 : (((0 : Int32) ≤ v1 ∧ v1 < s22_10)) → (((0 : Int32) ≤ v2 ∧ v2 < s22_10)) → (¬ (v1 ≤ v2)) → Q (some (.int (-100000))) (I, J, zR, 81)) (l2 : (((0 : Int32) ≤ v1 ∧ v1 < s22_10)) → (¬ (((0 : Int32) ≤ v2 ∧ v2 < s22_10))) → Q (some (.int (-100000))) (I, J, zR, 81)) (l3 : (¬ (((0 : Int32) ≤ v1 ∧ v1 < s22_10))) → Q (some (.int (-100000))) (I, J, zR, 81)) : At 0 [] [some (.ref 0), some (.int v1), some (.int v2), none, none, none, none] (I, J, zR, 81) := by
  subst e22_10
  refine hC 0 [] [some (.ref 0), some (.int v1), some (.int v2), none, none, none, none] _ ?_
  refine hE _ _ _ _ _ (w_X1_has _ _ _ _ _ rfl  (fun q1 => ?_) (fun q2 => ?_))
  · skip
    refine And.intro (fun qz => absurd qz (by decide)) (fun _ => ?_)
    refine hE _ _ _ _ _ (w_X1_has _ _ _ _ _ rfl  (fun q3 => ?_) (fun q4 => ?_))
    · skip
      refine And.intro (fun qz => absurd qz (by decide)) (fun _ => ?_)
      refine And.intro (fun q5 => ?_) (fun q5 => ?_)
      · skip
        refine hC 31 [] [some (.ref 0), some (.int v1), some (.int v2), none, none, none, none] _ ?_
        exact k1 q1 q3 q5
      · skip
        refine hC 27 [] [some (.ref 0), some (.int v1), some (.int v2), none, none, none, none] _ ?_
        exact l1 q1 q3 q5
    · skip
      refine And.intro (fun _ => ?_) (fun qz => absurd qz (by decide))
      refine hC 27 [] [some (.ref 0), some (.int v1), some (.int v2), none, none, none, none] _ ?_
      exact l2 q1 q4
  · skip
    refine And.intro (fun _ => ?_) (fun qz => absurd qz (by decide))
    refine hC 27 [] [some (.ref 0), some (.int v1), some (.int v2), none, none, none, none] _ ?_
    exact l3 q2
theorem g_X9_drift_39o (d : Nat) (E : zE) (At : Nat → zC) (Q : Option Value → zM → Prop) (hE : ∀ y n a M' Q', zT (d + 2) y n a M' Q' → E y n a M' Q') (hC : ∀ pc st L M', zX 81 E Q At (zlk B_X9_drift pc) st L M' → At pc st L M') (I : Nat → Nat → Int32) (J : Nat → Nat → Int64) (o6 : Option Value) (v1 : Int32) (v2 : Int32) (v3 : Int32) (v4 : Int32) (v5 : Int32) {f31 : Nat → Int32} (e31 : I 31 = f31) {f43 : Nat → Int32} (e43 : I 43 = f43) {f45 : Nat → Int32} (e45 : I 45 = f45) (b1 : (¬ (v2 < v5)) → (¬ (v5 < 0)) → (v5 < (f45 (0 : Int32).toNatClampNeg)) → 0 ≤ v5 ∧ v5 < 800) (b2 : (¬ (v2 < v5)) → (¬ (v5 < 0)) → (v5 < (f45 (0 : Int32).toNatClampNeg)) → (((1 : Int32) ≤ (f43 (v5 : Int32).toNatClampNeg) ∧ (f43 (v5 : Int32).toNatClampNeg) ≤ 20000)) → (¬ ((f43 (v5 : Int32).toNatClampNeg) = (-1))) → 0 ≤ v5 ∧ v5 < 200) (k1 : (v2 < v5) → At 89 [] [some (.ref 0), some (.int v1), some (.int v2), some (.int v3), some (.int v4), some (.int v5), o6] (I, J, zR, 81)) (k2 : (¬ (v2 < v5)) → (v5 < 0) → At 39 [] [some (.ref 0), some (.int v1), some (.int v2), some (.int v3), some (.int v4), some (.int (v5 + 1)), some (.int (-1))] (I, J, zR, 81)) (k3 : (¬ (v2 < v5)) → (¬ (v5 < 0)) → (v5 < (f45 (0 : Int32).toNatClampNeg)) → (((1 : Int32) ≤ (f43 (v5 : Int32).toNatClampNeg) ∧ (f43 (v5 : Int32).toNatClampNeg) ≤ 20000)) → ((f43 (v5 : Int32).toNatClampNeg) = (-1)) → At 39 [] [some (.ref 0), some (.int v1), some (.int v2), some (.int v3), some (.int v4), some (.int (v5 + 1)), some (.int (f43 (v5 : Int32).toNatClampNeg))] (I, J, zR, 81)) (k4 : (¬ (v2 < v5)) → (¬ (v5 < 0)) → (v5 < (f45 (0 : Int32).toNatClampNeg)) → (((1 : Int32) ≤ (f43 (v5 : Int32).toNatClampNeg) ∧ (f43 (v5 : Int32).toNatClampNeg) ≤ 20000)) → (¬ ((f43 (v5 : Int32).toNatClampNeg) = (-1))) → At 39 [] [some (.ref 0), some (.int v1), some (.int v2), some (.int (v3 + 1)), some (.int (v4 + ((f43 (v5 : Int32).toNatClampNeg) - (f31 (v5 : Int32).toNatClampNeg)))), some (.int (v5 + 1)), some (.int (f43 (v5 : Int32).toNatClampNeg))] (I, J, zR, 81)) (k5 : (¬ (v2 < v5)) → (¬ (v5 < 0)) → (v5 < (f45 (0 : Int32).toNatClampNeg)) → (¬ (((1 : Int32) ≤ (f43 (v5 : Int32).toNatClampNeg) ∧ (f43 (v5 : Int32).toNatClampNeg) ≤ 20000))) → At 39 [] [some (.ref 0), some (.int v1), some (.int v2), some (.int v3), some (.int v4), some (.int (v5 + 1)), some (.int (-1))] (I, J, zR, 81)) (k6 : (¬ (v2 < v5)) → (¬ (v5 < 0)) → (¬ (v5 < (f45 (0 : Int32).toNatClampNeg))) → At 39 [] [some (.ref 0), some (.int v1), some (.int v2), some (.int v3), some (.int v4), some (.int (v5 + 1)), some (.int (-1))] (I, J, zR, 81)) : At 39 [] [some (.ref 0), some (.int v1), some (.int v2), some (.int v3), some (.int v4), some (.int v5), o6] (I, J, zR, 81) := by
  subst e31 e43 e45
  refine hC 39 [] [some (.ref 0), some (.int v1), some (.int v2), some (.int v3), some (.int v4), some (.int v5), o6] _ ?_
  refine And.intro (fun q1 => ?_) (fun q1 => ?_)
  · skip
    exact k1 q1
  · skip
    refine hE _ _ _ _ _ (w_X7_weight _ _ _ _ _ rfl rfl (fun x0 x1 => b1 q1 x0 x1) (fun q2 => ?_) (fun q3 q4 q5 => ?_) (fun q6 q7 q8 => ?_) (fun q9 q10 => ?_))
    · skip
      refine And.intro (fun _ => ?_) (fun qz => absurd qz (by decide))
      refine hC 83 [] [some (.ref 0), some (.int v1), some (.int v2), some (.int v3), some (.int v4), some (.int v5), some (.int (-1))] _ ?_
      exact k2 q1 q2
    · skip
      refine And.intro (fun q11 => ?_) (fun q11 => ?_)
      · skip
        refine hC 83 [] [some (.ref 0), some (.int v1), some (.int v2), some (.int v3), some (.int v4), some (.int v5), some (.int (I 43 (v5 : Int32).toNatClampNeg))] _ ?_
        exact k3 q1 q3 q4 q5 q11
      · skip
        refine And.intro (zvp (b2 q1 q3 q4 q5 q11) rfl) ?_
        refine hC 83 [] [some (.ref 0), some (.int v1), some (.int v2), some (.int (v3 + 1)), some (.int (v4 + ((I 43 (v5 : Int32).toNatClampNeg) - (I 31 (v5 : Int32).toNatClampNeg)))), some (.int v5), some (.int (I 43 (v5 : Int32).toNatClampNeg))] _ ?_
        exact k4 q1 q3 q4 q5 q11
    · skip
      refine And.intro (fun _ => ?_) (fun qz => absurd qz (by decide))
      refine hC 83 [] [some (.ref 0), some (.int v1), some (.int v2), some (.int v3), some (.int v4), some (.int v5), some (.int (-1))] _ ?_
      exact k5 q1 q6 q7 q8
    · skip
      refine And.intro (fun _ => ?_) (fun qz => absurd qz (by decide))
      refine hC 83 [] [some (.ref 0), some (.int v1), some (.int v2), some (.int v3), some (.int v4), some (.int v5), some (.int (-1))] _ ?_
      exact k6 q1 q9 q10
theorem g_X10_drift_32o (d : Nat) (E : zE) (At : Nat → zC) (Q : Option Value → zM → Prop) (hE : ∀ y n a M' Q', zT (d + 1) y n a M' Q' → E y n a M' Q') (hC : ∀ pc st L M', zX 81 E Q At (zlk B_X10_drift pc) st L M' → At pc st L M') (I : Nat → Nat → Int32) (J : Nat → Nat → Int64) (o6 : Option Value) (v1 : Int32) (v2 : Int32) (v3 : Int32) (v4 : Int32) (v5 : Int32) {f51 : Nat → Int32} (e51 : I 51 = f51) {f52 : Nat → Int32} (e52 : I 52 = f52) {f57 : Nat → Int32} (e57 : I 57 = f57) {f77 : Nat → Int32} (e77 : I 77 = f77) {f78 : Nat → Int32} (e78 : I 78 = f78) {f79 : Nat → Int32} (e79 : I 79 = f79) (b1 : (¬ (v2 < v5)) → (¬ ((f77 (0 : Int32).toNatClampNeg) < 0)) → (v5 < (f78 (0 : Int32).toNatClampNeg)) → 0 ≤ v5 ∧ v5 < 800) (b2 : (¬ (v2 < v5)) → (¬ ((f77 (0 : Int32).toNatClampNeg) < 0)) → (v5 < (f78 (0 : Int32).toNatClampNeg)) → (((1 : Int32) ≤ (f79 (v5 : Int32).toNatClampNeg) ∧ (f79 (v5 : Int32).toNatClampNeg) ≤ 20000)) → 0 ≤ v5 ∧ v5 < 200) (b3 : (¬ (v2 < v5)) → (¬ ((f77 (0 : Int32).toNatClampNeg) < 0)) → (v5 < (f78 (0 : Int32).toNatClampNeg)) → (((1 : Int32) ≤ (f79 (v5 : Int32).toNatClampNeg) ∧ (f79 (v5 : Int32).toNatClampNeg) ≤ 20000)) → 0 ≤ (f57 (v5 : Int32).toNatClampNeg) ∧ (f57 (v5 : Int32).toNatClampNeg) < 12) (b4 : (¬ (v2 < v5)) → (¬ ((f77 (0 : Int32).toNatClampNeg) < 0)) → (v5 < (f78 (0 : Int32).toNatClampNeg)) → (((1 : Int32) ≤ (f79 (v5 : Int32).toNatClampNeg) ∧ (f79 (v5 : Int32).toNatClampNeg) ≤ 20000)) → 0 ≤ (f52 ((f57 (v5 : Int32).toNatClampNeg) : Int32).toNatClampNeg) ∧ (f52 ((f57 (v5 : Int32).toNatClampNeg) : Int32).toNatClampNeg) < 8) (z1 : (v2 < v5) → (¬ (v4 = 0)) → ¬ v4 = 0) (k1 : (¬ (v2 < v5)) → ((f77 (0 : Int32).toNatClampNeg) < 0) → At 32 [] [some (.ref 46), some (.int v1), some (.int v2), some (.int v3), some (.int v4), some (.int (v5 + 1)), some (.int (-1))] (I, J, zR, 81)) (k2 : (¬ (v2 < v5)) → (¬ ((f77 (0 : Int32).toNatClampNeg) < 0)) → (v5 < (f78 (0 : Int32).toNatClampNeg)) → (((1 : Int32) ≤ (f79 (v5 : Int32).toNatClampNeg) ∧ (f79 (v5 : Int32).toNatClampNeg) ≤ 20000)) → At 32 [] [some (.ref 46), some (.int v1), some (.int v2), some (.int (v3 + ((f79 (v5 : Int32).toNatClampNeg) - (f51 ((f52 ((f57 (v5 : Int32).toNatClampNeg) : Int32).toNatClampNeg) : Int32).toNatClampNeg)))), some (.int (v4 + 1)), some (.int (v5 + 1)), some (.int (f79 (v5 : Int32).toNatClampNeg))] (I, J, zR, 81)) (k3 : (¬ (v2 < v5)) → (¬ ((f77 (0 : Int32).toNatClampNeg) < 0)) → (v5 < (f78 (0 : Int32).toNatClampNeg)) → (¬ (((1 : Int32) ≤ (f79 (v5 : Int32).toNatClampNeg) ∧ (f79 (v5 : Int32).toNatClampNeg) ≤ 20000))) → At 32 [] [some (.ref 46), some (.int v1), some (.int v2), some (.int v3), some (.int v4), some (.int (v5 + 1)), some (.int (f79 (v5 : Int32).toNatClampNeg))] (I, J, zR, 81)) (k4 : (¬ (v2 < v5)) → (¬ ((f77 (0 : Int32).toNatClampNeg) < 0)) → (¬ (v5 < (f78 (0 : Int32).toNatClampNeg))) → At 32 [] [some (.ref 46), some (.int v1), some (.int v2), some (.int v3), some (.int v4), some (.int (v5 + 1)), some (.int (-1))] (I, J, zR, 81)) (l1 : (v2 < v5) → (¬ (v4 = 0)) → (((v3 / v4) * v4) ≤ v3) → Q (some (.int (v3 / v4))) (I, J, zR, 81)) (l2 : (v2 < v5) → (¬ (v4 = 0)) → (¬ (((v3 / v4) * v4) ≤ v3)) → Q (some (.int ((v3 / v4) - 1))) (I, J, zR, 81)) (l3 : (v2 < v5) → (v4 = 0) → Q (some (.int (-100001))) (I, J, zR, 81)) : At 32 [] [some (.ref 46), some (.int v1), some (.int v2), some (.int v3), some (.int v4), some (.int v5), o6] (I, J, zR, 81) := by
  subst e51 e52 e57 e77 e78 e79
  refine hC 32 [] [some (.ref 46), some (.int v1), some (.int v2), some (.int v3), some (.int v4), some (.int v5), o6] _ ?_
  refine And.intro (fun q1 => ?_) (fun q1 => ?_)
  · skip
    refine hC 116 [] [some (.ref 46), some (.int v1), some (.int v2), some (.int v3), some (.int v4), some (.int v5), o6] _ ?_
    refine And.intro (fun q2 => ?_) (fun q2 => ?_)
    · skip
      refine hC 125 [] [some (.ref 46), some (.int v1), some (.int v2), some (.int v3), some (.int v4), some (.int v5), o6] _ ?_
      refine And.intro (z1 q1 q2) ?_
      refine And.intro (fun q3 => ?_) (fun q3 => ?_)
      · skip
        refine hC 147 [] [some (.ref 46), some (.int v1), some (.int v2), some (.int v3), some (.int v4), some (.int (v3 / v4)), o6] _ ?_
        refine hC 149 [.int (v3 / v4)] [some (.ref 46), some (.int v1), some (.int v2), some (.int v3), some (.int v4), some (.int (v3 / v4)), o6] _ ?_
        exact l1 q1 q2 q3
      · skip
        refine hC 149 [.int ((v3 / v4) - 1)] [some (.ref 46), some (.int v1), some (.int v2), some (.int v3), some (.int v4), some (.int (v3 / v4)), o6] _ ?_
        exact l2 q1 q2 q3
    · skip
      exact l3 q1 q2
  · skip
    refine And.intro zvl_0_4 ?_
    refine And.intro (fun q4 => ?_) (fun q4 => ?_)
    · skip
      refine hC 58 [] [some (.ref 46), some (.int v1), some (.int v2), some (.int v3), some (.int v4), some (.int v5), o6] _ ?_
      refine hC 69 [.int (-1)] [some (.ref 46), some (.int v1), some (.int v2), some (.int v3), some (.int v4), some (.int v5), o6] _ ?_
      refine hE _ _ _ _ _ (w_in32 _ _ _ ((-1)) (1) (20000) _   (fun q5 => ?_) (fun q6 => ?_))
      · skip
        exact absurd q5 (by decide)
      · skip
        refine And.intro (fun _ => ?_) (fun qz => absurd qz (by decide))
        refine hC 110 [] [some (.ref 46), some (.int v1), some (.int v2), some (.int v3), some (.int v4), some (.int v5), some (.int (-1))] _ ?_
        exact k1 q1 q4
    · skip
      refine And.intro zvl_0_4 ?_
      refine And.intro (fun q7 => ?_) (fun q7 => ?_)
      · skip
        refine hC 62 [] [some (.ref 46), some (.int v1), some (.int v2), some (.int v3), some (.int v4), some (.int v5), o6] _ ?_
        refine And.intro (zvp (b1 q1 q4 q7) rfl) ?_
        refine hC 69 [.int (I 79 (v5 : Int32).toNatClampNeg)] [some (.ref 46), some (.int v1), some (.int v2), some (.int v3), some (.int v4), some (.int v5), o6] _ ?_
        refine hE _ _ _ _ _ (w_in32 _ _ _ ((I 79 (v5 : Int32).toNatClampNeg)) (1) (20000) _   (fun q8 => ?_) (fun q9 => ?_))
        · skip
          refine And.intro (fun qz => absurd qz (by decide)) (fun _ => ?_)
          refine And.intro (zvp (b2 q1 q4 q7 q8) rfl) ?_
          refine And.intro (zvp (b3 q1 q4 q7 q8) rfl) ?_
          refine And.intro (zvp (b4 q1 q4 q7 q8) rfl) ?_
          refine hC 110 [] [some (.ref 46), some (.int v1), some (.int v2), some (.int (v3 + ((I 79 (v5 : Int32).toNatClampNeg) - (I 51 ((I 52 ((I 57 (v5 : Int32).toNatClampNeg) : Int32).toNatClampNeg) : Int32).toNatClampNeg)))), some (.int (v4 + 1)), some (.int v5), some (.int (I 79 (v5 : Int32).toNatClampNeg))] _ ?_
          exact k2 q1 q4 q7 q8
        · skip
          refine And.intro (fun _ => ?_) (fun qz => absurd qz (by decide))
          refine hC 110 [] [some (.ref 46), some (.int v1), some (.int v2), some (.int v3), some (.int v4), some (.int v5), some (.int (I 79 (v5 : Int32).toNatClampNeg))] _ ?_
          exact k3 q1 q4 q7 q9
      · skip
        refine hC 58 [] [some (.ref 46), some (.int v1), some (.int v2), some (.int v3), some (.int v4), some (.int v5), o6] _ ?_
        refine hC 69 [.int (-1)] [some (.ref 46), some (.int v1), some (.int v2), some (.int v3), some (.int v4), some (.int v5), o6] _ ?_
        refine hE _ _ _ _ _ (w_in32 _ _ _ ((-1)) (1) (20000) _   (fun q10 => ?_) (fun q11 => ?_))
        · skip
          exact absurd q10 (by decide)
        · skip
          refine And.intro (fun _ => ?_) (fun qz => absurd qz (by decide))
          refine hC 110 [] [some (.ref 46), some (.int v1), some (.int v2), some (.int v3), some (.int v4), some (.int v5), some (.int (-1))] _ ?_
          exact k4 q1 q4 q7
/-! drift -/
theorem zxor_sg {s n : Int32} (hn : 0 ≤ n) : (0 ≤ s ^^^ n ↔ 0 ≤ s) := by
  have k : ∀ x : Int32, (0 ≤ x ↔ x.toBitVec.msb = false) := fun x => by
    rw [BitVec.msb_eq_toInt, Int32.le_iff_toInt_le]
    show (0 : Int) ≤ x.toBitVec.toInt ↔ _
    rw [decide_eq_false_iff_not]
    omega
  rw [k, k, Int32.toBitVec_xor, BitVec.msb_xor, (k n).mp hn, Bool.xor_false]
theorem zdvm {s n : Int32} (hn : 1 ≤ n) : (0 ≤ s → (s / n) * n ≤ s) ∧ (¬ 0 ≤ s → s ≤ (s / n) * n) := by
  have h1 : 1 ≤ n.toInt := Int32.le_iff_toInt_le.mp hn
  have hne : n ≠ -1 := fun z => by rw [z] at h1; revert h1; decide
  have e := Int32.toInt_div_of_ne_right s n hne
  have b1 := Int32.le_toInt s
  have b2 := Int32.toInt_lt s
  have m := Int.mul_tdiv_add_tmod s.toInt n.toInt
  have t1 := Int.tmod_lt_of_pos s.toInt (show 0 < n.toInt by omega)
  have t2 := Int.lt_tmod_of_pos s.toInt (show 0 < n.toInt by omega)
  have em : (s / n * n).toInt = (s.toInt.tdiv n.toInt * n.toInt).bmod (2 ^ 32) := by rw [Int32.toInt_mul, e]
  rw [Int.mul_comm] at m
  refine ⟨fun h => ?_, fun h => ?_⟩
  · have h0 : 0 ≤ s.toInt := Int32.le_iff_toInt_le.mp h
    have t3 := Int.tmod_nonneg n.toInt h0
    have t4 := Int.mul_nonneg (Int.tdiv_nonneg h0 (show 0 ≤ n.toInt by omega)) (show 0 ≤ n.toInt by omega)
    rw [Int32.le_iff_toInt_le, em, Int.bmod_eq_of_le (by omega) (by omega)]
    omega
  · have h0 : ¬ 0 ≤ s.toInt := fun z => h (Int32.le_iff_toInt_le.mpr z)
    have t3 : s.toInt.tmod n.toInt ≤ 0 := by
      have := Int.tmod_nonneg n.toInt (show 0 ≤ -s.toInt by omega)
      rw [Int.neg_tmod] at this
      omega
    have t4 : s.toInt.tdiv n.toInt * n.toInt ≤ 0 := by
      have := Int.mul_nonneg (Int.tdiv_nonneg (show 0 ≤ -s.toInt by omega) (show 0 ≤ n.toInt by omega)) (show 0 ≤ n.toInt by omega)
      rw [Int.neg_tdiv, Int.neg_mul] at this
      omega
    rw [Int32.le_iff_toInt_le, em, Int.bmod_eq_of_le (by omega) (by omega)]
    omega
def zfd (s n : Int32) : Int32 := if (s / n) * n ≤ s then s / n else s / n - 1
theorem w_floorDiv (d : Nat) (I : Nat → Nat → Int32) (J : Nat → Nat → Int64) (s n : Int32) (Q : Option Value → zM → Prop) (hn : 1 ≤ n) (l : Q (some (.int (zfd s n))) (I, J, zR, 81)) : zT (d + 1) 148 81 [.int s, .int n] (I, J, zR, 81) Q := by
  have k := zdvm (s := s) hn
  have x := zxor_sg (s := s) (n := n) (by grind)
  unfold zfd at l
  refine w_J9_floorDiv_7cf53 d I J s n Q (by clear l k x; grind) (fun q => ?_) (fun q1 q2 => ?_) (fun q1 q2 => ?_)
  · rw [if_pos (k.1 (x.mp q))] at l; exact l
  · rw [if_pos (by rw [q2]; exact Int32.le_refl s)] at l; exact l
  · have := k.2 (fun z => q1 (x.mpr z))
    rw [if_neg (fun z => q2 (Int32.le_antisymm z this))] at l; exact l
def zdr (it gm : Nat → Int32) (z : Int32) : Nat → Int32 → Int32 → Int32 → Int32 × Int32
  | 0, _, n, s => (n, s)
  | r + 1, k, n, s => if k < z then (if 1 ≤ it k.toNatClampNeg ∧ it k.toNatClampNeg ≤ 20000 then zdr it gm z r (k + 1) (n + 1) (s + (it k.toNatClampNeg - gm k.toNatClampNeg)) else zdr it gm z r (k + 1) n s) else zdr it gm z r (k + 1) n s
def zdv (p : Int32 × Int32) : Int32 := if p.1 = 0 then -100001 else zfd p.2 p.1
theorem zjn {j k : Int32} (hj : 0 ≤ j ∧ j < 200) : (j < k ↔ j + 1 ≤ k) := by
  constructor <;> intro h <;> grind
set_option maxHeartbeats 2000000 in
theorem g_drift9 (d : Nat) (E : zE) (At : Nat → zC) (Q : Option Value → zM → Prop) (hE : ∀ y n a M' Q', zT (d + 2) y n a M' Q' → E y n a M' Q') (hC : ∀ pc st L M', zX 81 E Q At (zlk B_X9_drift pc) st L M' → At pc st L M') (I : Nat → Nat → Int32) (J : Nat → Nat → Int64) (i j : Int32) (hj : 0 ≤ j ∧ j < 200) : ∀ (r : Nat) (k n s : Int32) (o : Option Value), 0 ≤ k → (j + 1).toNatClampNeg = k.toNatClampNeg + r → (0 ≤ n ∧ n ≤ k) → Q (some (.int (zdv (zdr (I 43) (I 31) (I 45 0) r k n s)))) (I, J, zR, 81) → At 39 [] [some (.ref 0), some (.int i), some (.int j), some (.int n), some (.int s), some (.int k), o] (I, J, zR, 81)
  | 0, k, n, s, o, h0, hr, hn, hQ => by
    have hl : j < k := (zjn hj).mpr (zlast h0 (by clear hE hC hQ; grind) hr)
    refine g_X9_drift_39o d E At Q hE hC I J o i j n s k (show _ = I 31 from rfl) (show _ = I 43 from rfl) (show _ = I 45 from rfl) (fun q => absurd hl q) (fun q => absurd hl q) (fun _ => ?_) (fun q => absurd hl q) (fun q => absurd hl q) (fun q => absurd hl q) (fun q => absurd hl q) (fun q => absurd hl q)
    refine hC 89 [] [some (.ref 0), some (.int i), some (.int j), some (.int n), some (.int s), some (.int k), o] _ ?_
    unfold zdv at hQ
    refine And.intro (fun q => ?_) (fun q => ?_)
    · rw [zdr, if_neg (show ¬ n = 0 from q)] at hQ
      refine hC 99 [] [some (.ref 0), some (.int i), some (.int j), some (.int n), some (.int s), some (.int k), o] _ ?_
      exact hE _ _ _ _ _ (w_floorDiv (d + 1) I J s n _ (by clear hE hC hQ; grind) (hC 105 [.int (zfd s n)] [some (.ref 0), some (.int i), some (.int j), some (.int n), some (.int s), some (.int k), o] _ hQ))
    · rw [zdr, if_pos (show n = 0 from q)] at hQ
      exact hC 105 [.int (-100001)] [some (.ref 0), some (.int i), some (.int j), some (.int n), some (.int s), some (.int k), o] _ hQ
  | r + 1, k, n, s, o, h0, hr, hn, hQ => by
    obtain ⟨h1, h2, h3⟩ := znext h0 (n := j + 1) (by clear hE hC hQ; grind) hr
    have hbi : 0 ≤ k ∧ k < 200 := by clear hE hC hQ; grind
    have hb8 : 0 ≤ k ∧ k < 800 := by clear hE hC hQ; grind
    have hn2 : 0 ≤ n ∧ n ≤ k + 1 := by clear hE hC hQ; grind
    have hn3 : 0 ≤ n + 1 ∧ n + 1 ≤ k + 1 := by clear hE hC hQ; grind
    have hnl : ¬ j < k := by clear hE hC hQ; grind
    have hk0 : ¬ k < 0 := by clear hE hC hQ; grind
    refine g_X9_drift_39o d E At Q hE hC I J o i j n s k (show _ = I 31 from rfl) (show _ = I 43 from rfl) (show _ = I 45 from rfl) (fun _ _ _ => hb8) (fun _ _ _ _ _ => hbi) (fun q => absurd q hnl) (fun _ q => absurd q hk0) (fun _ _ q3 q4 q5 => ?_) (fun _ _ q3 q4 q5 => ?_) (fun _ _ q3 q4 => ?_) (fun _ _ q3 => ?_)
    · exfalso; rw [q5] at q4; revert q4; decide
    · rw [zdr, if_pos (show k < I 45 0 from q3), if_pos q4] at hQ; exact g_drift9 d E At Q hE hC I J i j hj r (k + 1) _ _ _ h2 h3 hn3 hQ
    · rw [zdr, if_pos (show k < I 45 0 from q3), if_neg q4] at hQ; exact g_drift9 d E At Q hE hC I J i j hj r (k + 1) _ _ _ h2 h3 hn2 hQ
    · rw [zdr, if_neg (show ¬ k < I 45 0 from q3)] at hQ; exact g_drift9 d E At Q hE hC I J i j hj r (k + 1) _ _ _ h2 h3 hn2 hQ
set_option maxHeartbeats 2000000 in
theorem g_drift10 (d : Nat) (E : zE) (At : Nat → zC) (Q : Option Value → zM → Prop) (hE : ∀ y n a M' Q', zT (d + 1) y n a M' Q' → E y n a M' Q') (hC : ∀ pc st L M', zX 81 E Q At (zlk B_X10_drift pc) st L M' → At pc st L M') (I : Nat → Nat → Int32) (J : Nat → Nat → Int64) (i j z nb : Int32) (it gm di pr gr fo sz : Nat → Int32) (e51 : I 51 = gr) (e52 : I 52 = pr) (e57 : I 57 = di) (e77 : I 77 = fo) (e78 : I 78 = sz) (e79 : I 79 = it) (hz : (z = -1 ∧ fo 0 = -1) ∨ ((0 ≤ z ∧ z ≤ 200) ∧ sz 0 = z ∧ 0 ≤ fo 0)) (hnb : nb ≤ 200) (hj : 0 ≤ j ∧ j < nb) (hb : ∀ i : Int32, 0 ≤ i → i < nb → (0 ≤ di i.toNatClampNeg ∧ di i.toNatClampNeg < 12) ∧ (0 ≤ pr (di i.toNatClampNeg).toNatClampNeg ∧ pr (di i.toNatClampNeg).toNatClampNeg < 8) ∧ gr (pr (di i.toNatClampNeg).toNatClampNeg).toNatClampNeg = gm i.toNatClampNeg) : ∀ (r : Nat) (k n s : Int32) (o : Option Value), 0 ≤ k → (j + 1).toNatClampNeg = k.toNatClampNeg + r → (0 ≤ n ∧ n ≤ k) → Q (some (.int (zdv (zdr it gm z r k n s)))) (I, J, zR, 81) → At 32 [] [some (.ref 46), some (.int i), some (.int j), some (.int s), some (.int n), some (.int k), o] (I, J, zR, 81)
  | 0, k, n, s, o, h0, hr, hn, hQ => by
    have hl : j < k := (zjn (by clear hE hC hQ hb hz; grind)).mpr (zlast h0 (by clear hE hC hQ hb hz; grind) hr)
    unfold zdv at hQ
    refine g_X10_drift_32o d E At Q hE hC I J o i j s n k e51 e52 e57 e77 e78 e79 (fun q => absurd hl q) (fun q => absurd hl q) (fun q => absurd hl q) (fun q => absurd hl q) (fun _ q => q) (fun q => absurd hl q) (fun q => absurd hl q) (fun q => absurd hl q) (fun q => absurd hl q) (fun _ q1 q2 => ?_) (fun _ q1 q2 => ?_) (fun _ q1 => ?_)
    · rw [zdr, if_neg (show ¬ n = 0 from q1), zfd, if_pos q2] at hQ; exact hQ
    · rw [zdr, if_neg (show ¬ n = 0 from q1), zfd, if_neg q2] at hQ; exact hQ
    · rw [zdr, if_pos (show n = 0 from q1)] at hQ; exact hQ
  | r + 1, k, n, s, o, h0, hr, hn, hQ => by
    obtain ⟨h1, h2, h3⟩ := znext h0 (n := j + 1) (by clear hE hC hQ hb hz; grind) hr
    have hbi : 0 ≤ k ∧ k < 200 := by clear hE hC hQ hb hz; grind
    have hb8 : 0 ≤ k ∧ k < 800 := by clear hE hC hQ hb hz; grind
    have hn2 : 0 ≤ n ∧ n ≤ k + 1 := by clear hE hC hQ hb hz; grind
    have hn3 : 0 ≤ n + 1 ∧ n + 1 ≤ k + 1 := by clear hE hC hQ hb hz; grind
    have hnl : ¬ j < k := by clear hE hC hQ hb hz; grind
    obtain ⟨w1, w2, w3⟩ := hb k h0 (by clear hE hC hQ hb hz; grind)
    have hzk : ¬ fo 0 < 0 → sz 0 = z := fun q => by
      rcases hz with y | y
      · rw [y.2] at q; exact absurd (by decide) q
      · exact y.2.1
    have hzn : fo 0 < 0 → ¬ k < z := fun q => by
      rcases hz with y | y
      · rw [y.1]; clear hE hC hQ hb; grind
      · exact absurd q (by have := y.2.2; clear hE hC hQ hb y; grind)
    refine g_X10_drift_32o d E At Q hE hC I J o i j s n k e51 e52 e57 e77 e78 e79 (fun _ _ _ => hb8) (fun _ _ _ _ => hbi) (fun _ _ _ _ => w1) (fun _ _ _ _ => w2) (fun _ q => q) (fun _ q2 => ?_) (fun _ q2 q3 q4 => ?_) (fun _ q2 q3 q4 => ?_) (fun _ q2 q3 => ?_) (fun q => absurd q hnl) (fun q => absurd q hnl) (fun q => absurd q hnl)
    · rw [zdr, if_neg (hzn q2)] at hQ; exact g_drift10 d E At Q hE hC I J i j z nb it gm di pr gr fo sz e51 e52 e57 e77 e78 e79 hz hnb hj hb r (k + 1) _ _ _ h2 h3 hn2 hQ
    · have q5 : k < sz 0 := q3
      rw [hzk q2] at q5
      rw [zdr, if_pos q5, if_pos q4, ← w3] at hQ; exact g_drift10 d E At Q hE hC I J i j z nb it gm di pr gr fo sz e51 e52 e57 e77 e78 e79 hz hnb hj hb r (k + 1) _ _ _ h2 h3 hn3 hQ
    · have q5 : k < sz 0 := q3
      rw [hzk q2] at q5
      rw [zdr, if_pos q5, if_neg q4] at hQ; exact g_drift10 d E At Q hE hC I J i j z nb it gm di pr gr fo sz e51 e52 e57 e77 e78 e79 hz hnb hj hb r (k + 1) _ _ _ h2 h3 hn2 hQ
    · have q5 : ¬ k < sz 0 := q3
      rw [hzk q2] at q5
      rw [zdr, if_neg q5] at hQ; exact g_drift10 d E At Q hE hC I J i j z nb it gm di pr gr fo sz e51 e52 e57 e77 e78 e79 hz hnb hj hb r (k + 1) _ _ _ h2 h3 hn2 hQ
theorem zRbg {I : Nat → Nat → Int32} {J : Nat → Nat → Int64} (hR : zRel I J) : ∀ i : Int32, 0 ≤ i → i < I 22 10 → (0 ≤ I 23 i.toNatClampNeg ∧ I 23 i.toNatClampNeg < 12) ∧ (0 ≤ I 11 (I 23 i.toNatClampNeg).toNatClampNeg ∧ I 11 (I 23 i.toNatClampNeg).toNatClampNeg < 8) ∧ I 5 (I 11 (I 23 i.toNatClampNeg).toNatClampNeg).toNatClampNeg = I 31 i.toNatClampNeg := fun i h1 h2 =>
  ⟨(zRbb hR i h1 h2).1, (zRbb hR i h1 h2).2.1, (hR.2.2.2.2.1.2.2.2 i h1 h2).2.2.1.symm⟩
theorem op_drift (I : Nat → Nat → Int32) (J : Nat → Nat → Int64) (hR : zRel I J) (a1 a2 : Int32) (Q : Option Value → zM → Prop) (h : ∀ r I1 J1, (∀ Q' : Option Value → zM → Prop, (∀ I2 J2, zRel I2 J2 → Q' (some (.int r)) (I2, J2, zR, 81)) → zT 60 136 81 [.ref 46, .int a1, .int a2] (I1, J1, zR, 81) Q') → Q (some (.int r)) (I1, J1, zR, 81)) : zT 60 80 81 [.ref 0, .int a1, .int a2] (I, J, zR, 81) Q := by
  have hbg := zRbg hR
  obtain ⟨hp, hd, ho, hl, hb, hk, hq, ha, hs, hj, hc, hh, ht⟩ := id hR
  have b2 := hb.2.1
  have hz : (I 45 0 = -1 ∧ I 77 0 = -1) ∨ ((0 ≤ I 45 0 ∧ I 45 0 ≤ 200) ∧ I 78 0 = I 45 0 ∧ 0 ≤ I 77 0) := by
    rcases hh.2.2 0 (by decide) (by decide) with z | z
    · exact Or.inl z
    · refine Or.inr ⟨z.1, z.2.1, ?_⟩
      have := z.2.2.2.1
      rw [← z.2.2.1] at this
      exact this
  have hm : ∀ (Q' : Option Value → zM → Prop), ((0 ≤ a1 ∧ a1 < I 22 10) ∧ (0 ≤ a2 ∧ a2 < I 22 10) ∧ a1 ≤ a2 → Q' (some (.int (zdv (zdr (I 43) (I 31) (I 45 0) ((a2 + 1).toNatClampNeg - a1.toNatClampNeg) a1 0 0)))) (I, J, zR, 81)) → (¬ ((0 ≤ a1 ∧ a1 < I 22 10) ∧ (0 ≤ a2 ∧ a2 < I 22 10) ∧ a1 ≤ a2) → Q' (some (.int (-100000))) (I, J, zR, 81)) → zT 60 136 81 [.ref 46, .int a1, .int a2] (I, J, zR, 81) Q' := by
    intro Q' k1 k2
    refine ⟨rfl, fun E At hE hC => ?_⟩
    refine g_X10_drift_0 57 E At Q' hE hC I J a1 a2 hb.1 (fun q1 q2 q3 => ?_) (fun q1 q2 q3 => k2 (fun z => q3 z.2.2)) (fun q1 q2 => k2 (fun z => q2 ?_)) (fun q1 => k2 (fun z => q1 ?_))
    · have c : (0 ≤ a1 ∧ a1 < I 22 10) ∧ (0 ≤ a2 ∧ a2 < I 22 10) ∧ a1 ≤ a2 := by clear h k1 k2 hE hC hR hp hd ho hl hb hk hq ha hs hj hc hh ht hbg hz; grind
      have c9 : a1.toNatClampNeg ≤ (a2 + 1).toNatClampNeg := (zle_nat c.1.1 (by clear h k1 k2 hE hC hR hp hd ho hl hb hk hq ha hs hj hc hh ht hbg hz; grind)).mp (by clear h k1 k2 hE hC hR hp hd ho hl hb hk hq ha hs hj hc hh ht hbg hz; grind)
      exact g_drift10 58 E At Q' hE hC I J a1 a2 (I 45 0) (I 22 10) (I 43) (I 31) (I 23) (I 11) (I 5) (I 77) (I 78) hp.2.2.1.2.2.2 hd.2.2.1.1 hb.2.2.1.1 rfl rfl hh.2.1 hz b2.2 c.2.1 hbg _ a1 0 0 none c.1.1 (by omega) ⟨by decide, c.1.1⟩ (k1 c)
    · clear h k1 k2 hE hC hR hp hd ho hl hb hk hq ha hs hj hc hh ht hbg hz; grind
    · clear h k1 k2 hE hC hR hp hd ho hl hb hk hq ha hs hj hc hh ht hbg hz; grind
  refine ⟨rfl, fun E At hE hC => ?_⟩
  refine g_X9_drift_0 58 E At Q hE hC I J a1 a2 rfl (fun q1 q2 q3 => ?_) (fun q1 q2 q3 => h _ _ _ (fun Q' hQ => hm Q' (fun z => absurd z.2.2 q3) (fun _ => hQ _ _ hR))) (fun q1 q2 => h _ _ _ (fun Q' hQ => hm Q' (fun z => absurd z.2.1 q2) (fun _ => hQ _ _ hR))) (fun q1 => h _ _ _ (fun Q' hQ => hm Q' (fun z => absurd z.1 q1) (fun _ => hQ _ _ hR)))
  have hj2 : 0 ≤ a2 ∧ a2 < 200 := by clear h hm hE hC hR hp hd ho hl hb hk hq ha hs hj hc hh ht hbg hz; grind
  have c9 : a1.toNatClampNeg ≤ (a2 + 1).toNatClampNeg := (zle_nat q1.1 (by clear h hm hE hC hR hp hd ho hl hb hk hq ha hs hj hc hh ht hbg hz; grind)).mp (by clear h hm hE hC hR hp hd ho hl hb hk hq ha hs hj hc hh ht hbg hz; grind)
  refine g_drift9 57 E At Q hE hC I J a1 a2 hj2 ((a2 + 1).toNatClampNeg - a1.toNatClampNeg) a1 0 0 none q1.1 (by omega) ⟨by decide, q1.1⟩ ?_
  exact h _ _ _ (fun Q' hQ => hm Q' (fun _ => hQ _ _ hR) (fun z => absurd ⟨q1, q2, q3⟩ z))
