theorem zvl_0_7 : vp_in 0 7 := by rw [vp_in_iff]; decide
theorem zvl_1_7 : vp_in 1 7 := by rw [vp_in_iff]; decide
theorem zvl_2_7 : vp_in 2 7 := by rw [vp_in_iff]; decide
theorem zvl_3_7 : vp_in 3 7 := by rw [vp_in_iff]; decide
theorem zvl_4_7 : vp_in 4 7 := by rw [vp_in_iff]; decide
theorem zvl_5_7 : vp_in 5 7 := by rw [vp_in_iff]; decide
theorem zvl_6_7 : vp_in 6 7 := by rw [vp_in_iff]; decide
theorem g_X10_press_91 (d : Nat) (E : zE) (At : Nat → zC) (Q : Option Value → zM → Prop) (hE : ∀ y n a M' Q', zT (d + 0) y n a M' Q' → E y n a M' Q') (hC : ∀ pc st L M', zX 81 E Q At (zlk B_X10_press pc) st L M' → At pc st L M') (I : Nat → Nat → Int32) (J : Nat → Nat → Int64) (v1 : Int32) (v2 : Int32) (v3 : Int32) (v4 : Int32) {f66 : Nat → Int32} (e66 : I 66 = f66) {f68 : Nat → Int32} (e68 : I 68 = f68) {f69 : Nat → Int32} (e69 : I 69 = f69) (b1 : 0 ≤ v3 ∧ v3 < 8) (b2 : (¬ ((f66 (v3 : Int32).toNatClampNeg) ≤ v4)) → 0 ≤ ((3 * v3) + v4) ∧ ((3 * v3) + v4) < 24) (b3 : (¬ ((f66 (v3 : Int32).toNatClampNeg) ≤ v4)) → 0 ≤ v4 ∧ v4 < 3) (b4 : (¬ ((f66 (v3 : Int32).toNatClampNeg) ≤ v4)) → 0 ≤ ((3 * v3) + v4) ∧ ((3 * v3) + v4) < 24) (k1 : ((f66 (v3 : Int32).toNatClampNeg) ≤ v4) → At 129 [] [some (.ref 46), some (.int v1), some (.int v2), some (.int v3), some (.int v4)] (I, J, zR, 81)) (k2 : (¬ ((f66 (v3 : Int32).toNatClampNeg) ≤ v4)) → At 91 [] [some (.ref 46), some (.int v1), some (.int v2), some (.int v3), some (.int (v4 + 1))] (zwI (I, J, zR, 81) 68 (((3 * v3) + v4) : Int32).toNatClampNeg ((f68 (((3 * v3) + v4) : Int32).toNatClampNeg) - (f69 (v4 : Int32).toNatClampNeg)))) : At 91 [] [some (.ref 46), some (.int v1), some (.int v2), some (.int v3), some (.int v4)] (I, J, zR, 81) := by
  subst e66 e68 e69
  refine hC 91 [] [some (.ref 46), some (.int v1), some (.int v2), some (.int v3), some (.int v4)] _ ?_
  refine And.intro (zvp (b1) rfl) ?_
  refine And.intro (fun q1 => ?_) (fun q1 => ?_)
  · skip
    exact k1 q1
  · skip
    refine And.intro (zvp (b2 q1) rfl) ?_
    refine And.intro (zvp (b3 q1) rfl) ?_
    refine And.intro (zvp (b4 q1) rfl) ?_
    exact k2 q1
theorem p_X10_press_129_0 (E : zE) (At : Nat → zC) (Q : Option Value → zM → Prop) (I : Nat → Nat → Int32) (J : Nat → Nat → Int64) (v1 : Int32) (v2 : Int32) (v3 : Int32) (v4 : Int32) {s46_13 : Int32} (e46_13 : I 46 13 = s46_13) (b1 : 0 ≤ s46_13 ∧ s46_13 < 200) (b2 : 0 ≤ s46_13 ∧ s46_13 < 200) (k : zX 81 E Q At (List.drop 12 (zlk B_X10_press 129)) [] [some (.ref 46), some (.int v1), some (.int v2), some (.int v3), some (.int v4)] (zwI (zwI (I, J, zR, 81) 57 (s46_13 : Int32).toNatClampNeg v1) 58 (s46_13 : Int32).toNatClampNeg v2)) : zX 81 E Q At (List.drop 0 (zlk B_X10_press 129)) [] [some (.ref 46), some (.int v1), some (.int v2), some (.int v3), some (.int v4)] (I, J, zR, 81) := by
  subst e46_13
  refine And.intro (zvp (b1) rfl) ?_
  refine And.intro (zvp (b2) rfl) ?_
  exact k
theorem p_X10_press_129_12 (E : zE) (At : Nat → zC) (Q : Option Value → zM → Prop) (I : Nat → Nat → Int32) (J : Nat → Nat → Int64) (v1 : Int32) (v2 : Int32) (v3 : Int32) (v4 : Int32) {s46_13 : Int32} (e46_13 : I 46 13 = s46_13) {s46_29 : Int32} (e46_29 : I 46 29 = s46_29) {s46_30 : Int32} (e46_30 : I 46 30 = s46_30) (b1 : 0 ≤ s46_13 ∧ s46_13 < 200) (b2 : 0 ≤ s46_13 ∧ s46_13 < 200) (k : zX 81 E Q At (List.drop 26 (zlk B_X10_press 129)) [] [some (.ref 46), some (.int v1), some (.int v2), some (.int v3), some (.int v4)] (zwI (zwI (I, J, zR, 81) 59 (s46_13 : Int32).toNatClampNeg s46_30) 60 (s46_13 : Int32).toNatClampNeg s46_29)) : zX 81 E Q At (List.drop 12 (zlk B_X10_press 129)) [] [some (.ref 46), some (.int v1), some (.int v2), some (.int v3), some (.int v4)] (I, J, zR, 81) := by
  subst e46_13 e46_29 e46_30
  refine And.intro (zvp (b1) rfl) ?_
  refine And.intro (zvp (b2) rfl) ?_
  exact k
theorem p_X10_press_129_26 (E : zE) (At : Nat → zC) (Q : Option Value → zM → Prop) (I : Nat → Nat → Int32) (J : Nat → Nat → Int64) (v1 : Int32) (v2 : Int32) (v3 : Int32) (v4 : Int32) {s46_13 : Int32} (e46_13 : I 46 13 = s46_13) {s46_29 : Int32} (e46_29 : I 46 29 = s46_29) {s46_33 : Int32} (e46_33 : I 46 33 = s46_33) {s46_34 : Int32} (e46_34 : I 46 34 = s46_34) (b1 : 0 ≤ s46_13 ∧ s46_13 < 200) (b2 : 0 ≤ s46_13 ∧ s46_13 < 200) (k : zX 81 E Q At (List.drop 43 (zlk B_X10_press 129)) [] [some (.ref 46), some (.int v1), some (.int v2), some (.int v3), some (.int v4)] (zwI (zwI (I, J, zR, 81) 61 (s46_13 : Int32).toNatClampNeg (s46_34 - s46_29)) 62 (s46_13 : Int32).toNatClampNeg s46_33)) : zX 81 E Q At (List.drop 26 (zlk B_X10_press 129)) [] [some (.ref 46), some (.int v1), some (.int v2), some (.int v3), some (.int v4)] (I, J, zR, 81) := by
  subst e46_13 e46_29 e46_33 e46_34
  refine And.intro (zvp (b1) rfl) ?_
  refine And.intro (zvp (b2) rfl) ?_
  exact k
theorem p_X10_press_129_43 (E : zE) (At : Nat → zC) (Q : Option Value → zM → Prop) (I : Nat → Nat → Int32) (J : Nat → Nat → Int64) (v1 : Int32) (v2 : Int32) (v3 : Int32) (v4 : Int32) {s46_13 : Int32} (e46_13 : I 46 13 = s46_13) (b1 : 0 ≤ s46_13 ∧ s46_13 < 200) (b2 : 0 ≤ s46_13 ∧ s46_13 < 200) (k : zX 81 E Q At (List.drop 55 (zlk B_X10_press 129)) [] [some (.ref 46), some (.int v1), some (.int v2), some (.int v3), some (.int v4)] (zwI (zwI (I, J, zR, 81) 63 (s46_13 : Int32).toNatClampNeg (-1)) 64 (s46_13 : Int32).toNatClampNeg (-1))) : zX 81 E Q At (List.drop 43 (zlk B_X10_press 129)) [] [some (.ref 46), some (.int v1), some (.int v2), some (.int v3), some (.int v4)] (I, J, zR, 81) := by
  subst e46_13
  refine And.intro (zvp (b1) rfl) ?_
  refine And.intro (zvp (b2) rfl) ?_
  exact k
theorem p_X10_press_129_55 (E : zE) (At : Nat → zC) (Q : Option Value → zM → Prop) (I : Nat → Nat → Int32) (J : Nat → Nat → Int64) (v1 : Int32) (v2 : Int32) (v3 : Int32) (v4 : Int32) {g65 : Nat → Int64} (e65 : J 65 = g65) {s46_13 : Int32} (e46_13 : I 46 13 = s46_13) {s46_31 : Int32} (e46_31 : I 46 31 = s46_31) (k : zX 81 E Q At (List.drop 71 (zlk B_X10_press 129)) [] [some (.ref 46), some (.int v1), some (.int v2), some (.int v3), some (.int v4)] (zwJ (zwI (I, J, zR, 81) 46 13 (s46_13 + 1)) 65 (0 : Int32).toNatClampNeg ((g65 (0 : Int32).toNatClampNeg) + (s46_31 : Int32).toInt64))) : zX 81 E Q At (List.drop 55 (zlk B_X10_press 129)) [] [some (.ref 46), some (.int v1), some (.int v2), some (.int v3), some (.int v4)] (I, J, zR, 81) := by
  subst e65 e46_13 e46_31
  refine And.intro zvl_0_7 ?_
  refine And.intro zvl_0_7 ?_
  exact k
theorem p_X10_press_129_71 (E : zE) (At : Nat → zC) (Q : Option Value → zM → Prop) (I : Nat → Nat → Int32) (J : Nat → Nat → Int64) (v1 : Int32) (v2 : Int32) (v3 : Int32) (v4 : Int32) {g65 : Nat → Int64} (e65 : J 65 = g65) {s46_32 : Int32} (e46_32 : I 46 32 = s46_32) {s46_33 : Int32} (e46_33 : I 46 33 = s46_33) (k : zX 81 E Q At (List.drop 91 (zlk B_X10_press 129)) [] [some (.ref 46), some (.int v1), some (.int v2), some (.int v3), some (.int v4)] (zwJ (zwJ (I, J, zR, 81) 65 (1 : Int32).toNatClampNeg ((g65 (1 : Int32).toNatClampNeg) + (s46_32 : Int32).toInt64)) 65 (2 : Int32).toNatClampNeg ((g65 (2 : Int32).toNatClampNeg) + (s46_33 : Int32).toInt64))) : zX 81 E Q At (List.drop 71 (zlk B_X10_press 129)) [] [some (.ref 46), some (.int v1), some (.int v2), some (.int v3), some (.int v4)] (I, J, zR, 81) := by
  subst e65 e46_32 e46_33
  refine And.intro zvl_1_7 ?_
  refine And.intro zvl_1_7 ?_
  refine And.intro zvl_2_7 ?_
  refine And.intro zvl_2_7 ?_
  exact k
theorem p_X10_press_129_91 (E : zE) (At : Nat → zC) (Q : Option Value → zM → Prop) (I : Nat → Nat → Int32) (J : Nat → Nat → Int64) (v1 : Int32) (v2 : Int32) (v3 : Int32) (v4 : Int32) {g65 : Nat → Int64} (e65 : J 65 = g65) {s46_29 : Int32} (e46_29 : I 46 29 = s46_29) {s46_34 : Int32} (e46_34 : I 46 34 = s46_34) (k : zX 81 E Q At (List.drop 114 (zlk B_X10_press 129)) [] [some (.ref 46), some (.int v1), some (.int v2), some (.int v3), some (.int v4)] (zwJ (zwJ (I, J, zR, 81) 65 (3 : Int32).toNatClampNeg ((g65 (3 : Int32).toNatClampNeg) + (s46_29 : Int32).toInt64)) 65 (4 : Int32).toNatClampNeg ((g65 (4 : Int32).toNatClampNeg) + ((s46_34 - s46_29) : Int32).toInt64))) : zX 81 E Q At (List.drop 91 (zlk B_X10_press 129)) [] [some (.ref 46), some (.int v1), some (.int v2), some (.int v3), some (.int v4)] (I, J, zR, 81) := by
  subst e65 e46_29 e46_34
  refine And.intro zvl_3_7 ?_
  refine And.intro zvl_3_7 ?_
  refine And.intro zvl_4_7 ?_
  refine And.intro zvl_4_7 ?_
  exact k
theorem p_X10_press_129_114 (E : zE) (At : Nat → zC) (Q : Option Value → zM → Prop) (I : Nat → Nat → Int32) (J : Nat → Nat → Int64) (v1 : Int32) (v2 : Int32) (v3 : Int32) (v4 : Int32) {g65 : Nat → Int64} (e65 : J 65 = g65) {s46_30 : Int32} (e46_30 : I 46 30 = s46_30) (k : zX 81 E Q At (List.drop 133 (zlk B_X10_press 129)) [] [some (.ref 46), some (.int v1), some (.int v2), some (.int v3), some (.int v4)] (zwJ (zwJ (I, J, zR, 81) 65 (5 : Int32).toNatClampNeg ((g65 (5 : Int32).toNatClampNeg) + (s46_30 : Int32).toInt64)) 65 (6 : Int32).toNatClampNeg ((g65 (6 : Int32).toNatClampNeg) + (v2 : Int32).toInt64))) : zX 81 E Q At (List.drop 114 (zlk B_X10_press 129)) [] [some (.ref 46), some (.int v1), some (.int v2), some (.int v3), some (.int v4)] (I, J, zR, 81) := by
  subst e65 e46_30
  refine And.intro zvl_5_7 ?_
  refine And.intro zvl_5_7 ?_
  refine And.intro zvl_6_7 ?_
  refine And.intro zvl_6_7 ?_
  exact k
theorem p_X10_press_129_133 (E : zE) (At : Nat → zC) (Q : Option Value → zM → Prop) (I : Nat → Nat → Int32) (J : Nat → Nat → Int64) (v1 : Int32) (v2 : Int32) (v3 : Int32) (v4 : Int32) {f54 : Nat → Int32} (e54 : I 54 = f54) {f55 : Nat → Int32} (e55 : I 55 = f55) (b1 : 0 ≤ v1 ∧ v1 < 12) (b2 : 0 ≤ v1 ∧ v1 < 12) (b3 : 0 ≤ v1 ∧ v1 < 12) (b4 : 0 ≤ v1 ∧ v1 < 12) (k : zX 81 E Q At (List.drop 149 (zlk B_X10_press 129)) [] [some (.ref 46), some (.int v1), some (.int v2), some (.int v3), some (.int v4)] (zwI (zwI (I, J, zR, 81) 54 (v1 : Int32).toNatClampNeg ((f54 (v1 : Int32).toNatClampNeg) + 1)) 55 (v1 : Int32).toNatClampNeg ((f55 (v1 : Int32).toNatClampNeg) + 1))) : zX 81 E Q At (List.drop 133 (zlk B_X10_press 129)) [] [some (.ref 46), some (.int v1), some (.int v2), some (.int v3), some (.int v4)] (I, J, zR, 81) := by
  subst e54 e55
  refine And.intro (zvp (b1) rfl) ?_
  refine And.intro (zvp (b2) rfl) ?_
  refine And.intro (zvp (b3) rfl) ?_
  refine And.intro (zvp (b4) rfl) ?_
  exact k
theorem p_X10_press_129_149 (E : zE) (At : Nat → zC) (Q : Option Value → zM → Prop) (I : Nat → Nat → Int32) (J : Nat → Nat → Int64) (v1 : Int32) (v2 : Int32) (v3 : Int32) (v4 : Int32) {s46_12 : Int32} (e46_12 : I 46 12 = s46_12) (k : zX 81 E Q At (List.drop 156 (zlk B_X10_press 129)) [] [some (.ref 46), some (.int v1), some (.int v2), some (.int v3), some (.int v4)] (zwI (zwI (I, J, zR, 81) 46 22 v1) 46 23 s46_12)) : zX 81 E Q At (List.drop 149 (zlk B_X10_press 129)) [] [some (.ref 46), some (.int v1), some (.int v2), some (.int v3), some (.int v4)] (I, J, zR, 81) := by
  subst e46_12
  exact k
theorem p_X10_press_129_156 (E : zE) (At : Nat → zC) (Q : Option Value → zM → Prop) (I : Nat → Nat → Int32) (J : Nat → Nat → Int64) (v1 : Int32) (v2 : Int32) (v3 : Int32) (v4 : Int32) {s46_12 : Int32} (e46_12 : I 46 12 = s46_12) {s46_29 : Int32} (e46_29 : I 46 29 = s46_29) (l1 : Q (some (.int s46_29)) (zwI (I, J, zR, 81) 46 12 (s46_12 + 1))) : zX 81 E Q At (List.drop 156 (zlk B_X10_press 129)) [] [some (.ref 46), some (.int v1), some (.int v2), some (.int v3), some (.int v4)] (I, J, zR, 81) := by
  subst e46_12 e46_29
  exact l1
