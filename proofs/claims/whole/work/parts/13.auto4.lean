theorem w_X9_get (d : Nat) (I : Nat → Nat → Int32) (J : Nat → Nat → Int64) (a1 : Int32) (a2 : Int32) (a3 : Int32) (Q : Option Value → zM → Prop) {f43 : Nat → Int32} (e43 : I 43 = f43) {f44 : Nat → Int32} (e44 : I 44 = f44) {f45 : Nat → Int32} (e45 : I 45 = f45) (b1 : (((0 : Int32) ≤ a1 ∧ a1 ≤ 3)) → (((0 : Int32) ≤ a2 ∧ a2 ≤ 2)) → 0 ≤ a1 ∧ a1 < 4) (b2 : (((0 : Int32) ≤ a1 ∧ a1 ≤ 3)) → (((0 : Int32) ≤ a2 ∧ a2 ≤ 2)) → (¬ ((f45 (a1 : Int32).toNatClampNeg) = (-1))) → 0 ≤ a1 ∧ a1 < 4) (b3 : (((0 : Int32) ≤ a1 ∧ a1 ≤ 3)) → (((0 : Int32) ≤ a2 ∧ a2 ≤ 2)) → (¬ ((f45 (a1 : Int32).toNatClampNeg) = (-1))) → ((f44 (a1 : Int32).toNatClampNeg) = a2) → (¬ (a3 < 0)) → 0 ≤ a1 ∧ a1 < 4) (b4 : (((0 : Int32) ≤ a1 ∧ a1 ≤ 3)) → (((0 : Int32) ≤ a2 ∧ a2 ≤ 2)) → (¬ ((f45 (a1 : Int32).toNatClampNeg) = (-1))) → ((f44 (a1 : Int32).toNatClampNeg) = a2) → (¬ (a3 < 0)) → (a3 < (f45 (a1 : Int32).toNatClampNeg)) → 0 ≤ ((a1 * 200) + a3) ∧ ((a1 * 200) + a3) < 800) (l1 : (((0 : Int32) ≤ a1 ∧ a1 ≤ 3)) → (((0 : Int32) ≤ a2 ∧ a2 ≤ 2)) → (¬ ((f45 (a1 : Int32).toNatClampNeg) = (-1))) → ((f44 (a1 : Int32).toNatClampNeg) = a2) → (a3 < 0) → Q (some (.int (-2147483648))) (zwI (I, J, zR, 81) 42 1 2)) (l2 : (((0 : Int32) ≤ a1 ∧ a1 ≤ 3)) → (((0 : Int32) ≤ a2 ∧ a2 ≤ 2)) → (¬ ((f45 (a1 : Int32).toNatClampNeg) = (-1))) → ((f44 (a1 : Int32).toNatClampNeg) = a2) → (¬ (a3 < 0)) → (a3 < (f45 (a1 : Int32).toNatClampNeg)) → Q (some (.int (f43 (((a1 * 200) + a3) : Int32).toNatClampNeg))) (I, J, zR, 81)) (l3 : (((0 : Int32) ≤ a1 ∧ a1 ≤ 3)) → (((0 : Int32) ≤ a2 ∧ a2 ≤ 2)) → (¬ ((f45 (a1 : Int32).toNatClampNeg) = (-1))) → ((f44 (a1 : Int32).toNatClampNeg) = a2) → (¬ (a3 < 0)) → (¬ (a3 < (f45 (a1 : Int32).toNatClampNeg))) → Q (some (.int (-2147483648))) (zwI (I, J, zR, 81) 42 1 2)) (l4 : (((0 : Int32) ≤ a1 ∧ a1 ≤ 3)) → (((0 : Int32) ≤ a2 ∧ a2 ≤ 2)) → (¬ ((f45 (a1 : Int32).toNatClampNeg) = (-1))) → (¬ ((f44 (a1 : Int32).toNatClampNeg) = a2)) → Q (some (.int (-2147483648))) (zwI (I, J, zR, 81) 42 1 3)) (l5 : (((0 : Int32) ≤ a1 ∧ a1 ≤ 3)) → (((0 : Int32) ≤ a2 ∧ a2 ≤ 2)) → ((f45 (a1 : Int32).toNatClampNeg) = (-1)) → Q (some (.int (-2147483648))) (zwI (I, J, zR, 81) 42 1 1)) (l6 : (((0 : Int32) ≤ a1 ∧ a1 ≤ 3)) → (¬ (((0 : Int32) ≤ a2 ∧ a2 ≤ 2))) → Q (some (.int (-2147483648))) (I, J, zR, 81)) (l7 : (¬ (((0 : Int32) ≤ a1 ∧ a1 ≤ 3))) → Q (some (.int (-2147483648))) (I, J, zR, 81)) : zT (d + 3) 84 81 [.ref 0, .int a1, .int a2, .int a3] (I, J, zR, 81) Q := by
  subst e43 e44 e45
  refine ⟨rfl, fun E At hE hC => ?_⟩
  replace hC : ∀ pc st L M', zX 81 E Q At (zlk B_X9_get pc) st L M' → At pc st L M' := hC
  refine hC 0 [] [some (.ref 0), some (.int a1), some (.int a2), some (.int a3), none] _ ?_
  refine hE _ _ _ _ _ (w_X9_isSheet _ _ _ _ _   (fun q1 => ?_) (fun q2 => ?_))
  · skip
    refine And.intro (fun qz => absurd qz (by decide)) (fun _ => ?_)
    refine hE _ _ _ _ _ (w_X9_isForm _ _ _ _ _   (fun q3 => ?_) (fun q4 => ?_))
    · skip
      refine And.intro (fun _ => ?_) (fun qz => absurd qz (by decide))
      refine hC 18 [] [some (.ref 0), some (.int a1), some (.int a2), some (.int a3), none] _ ?_
      refine hE _ _ _ _ _ (w_X7_faultOf _ _ _ _ _ _ _ rfl rfl (b1 q1 q3) (fun x0 => b2 q1 q3 x0) (fun x0 x1 x2 => b3 q1 q3 x0 x1 x2) (fun q5 q6 q7 => ?_) (fun q8 q9 q10 q11 => ?_) (fun q12 q13 q14 q15 => ?_) (fun q16 q17 => ?_) (fun q18 => ?_))
      · skip
        refine And.intro (fun qz => absurd qz (by decide)) (fun _ => ?_)
        refine hE _ _ _ _ _ (w_X7_found _ _ _ (2) _   (?_))
        · skip
          exact l1 q1 q3 q5 q6 q7
      · skip
        refine And.intro (fun _ => ?_) (fun qz => absurd qz (by decide))
        refine hC 49 [] [some (.ref 0), some (.int a1), some (.int a2), some (.int a3), some (.int 0)] _ ?_
        refine And.intro (zvp (b4 q1 q3 q8 q9 q10 q11) rfl) ?_
        exact l2 q1 q3 q8 q9 q10 q11
      · skip
        refine And.intro (fun qz => absurd qz (by decide)) (fun _ => ?_)
        refine hE _ _ _ _ _ (w_X7_found _ _ _ (2) _   (?_))
        · skip
          exact l3 q1 q3 q12 q13 q14 q15
      · skip
        refine And.intro (fun qz => absurd qz (by decide)) (fun _ => ?_)
        refine hE _ _ _ _ _ (w_X7_found _ _ _ (3) _   (?_))
        · skip
          exact l4 q1 q3 q16 q17
      · skip
        refine And.intro (fun qz => absurd qz (by decide)) (fun _ => ?_)
        refine hE _ _ _ _ _ (w_X7_found _ _ _ (1) _   (?_))
        · skip
          exact l5 q1 q3 q18
    · skip
      refine And.intro (fun qz => absurd qz (by decide)) (fun _ => ?_)
      refine hC 14 [] [some (.ref 0), some (.int a1), some (.int a2), some (.int a3), none] _ ?_
      exact l6 q1 q4
  · skip
    refine And.intro (fun _ => ?_) (fun qz => absurd qz (by decide))
    refine hC 14 [] [some (.ref 0), some (.int a1), some (.int a2), some (.int a3), none] _ ?_
    exact l7 q2
theorem w_X10_profile (d : Nat) (I : Nat → Nat → Int32) (J : Nat → Nat → Int64) (a1 : Int32) (a2 : Int32) (a3 : Int32) (a4 : Int32) (Q : Option Value → zM → Prop) {s46_1 : Int32} (e46_1 : I 46 1 = s46_1) (b1 : (((0 : Int32) ≤ a1 ∧ a1 ≤ 2)) → (((5 : Int32) ≤ a2 ∧ a2 ≤ 80)) → (((0 : Int32) ≤ a3 ∧ a3 ≤ 3)) → (((100 : Int32) ≤ a4 ∧ a4 ≤ 9999)) → (¬ (s46_1 = 8)) → 0 ≤ s46_1 ∧ s46_1 < 8) (b2 : (((0 : Int32) ≤ a1 ∧ a1 ≤ 2)) → (((5 : Int32) ≤ a2 ∧ a2 ≤ 80)) → (((0 : Int32) ≤ a3 ∧ a3 ≤ 3)) → (((100 : Int32) ≤ a4 ∧ a4 ≤ 9999)) → (¬ (s46_1 = 8)) → 0 ≤ s46_1 ∧ s46_1 < 8) (b3 : (((0 : Int32) ≤ a1 ∧ a1 ≤ 2)) → (((5 : Int32) ≤ a2 ∧ a2 ≤ 80)) → (((0 : Int32) ≤ a3 ∧ a3 ≤ 3)) → (((100 : Int32) ≤ a4 ∧ a4 ≤ 9999)) → (¬ (s46_1 = 8)) → 0 ≤ s46_1 ∧ s46_1 < 8) (b4 : (((0 : Int32) ≤ a1 ∧ a1 ≤ 2)) → (((5 : Int32) ≤ a2 ∧ a2 ≤ 80)) → (((0 : Int32) ≤ a3 ∧ a3 ≤ 3)) → (((100 : Int32) ≤ a4 ∧ a4 ≤ 9999)) → (¬ (s46_1 = 8)) → 0 ≤ s46_1 ∧ s46_1 < 8) (b5 : (((0 : Int32) ≤ a1 ∧ a1 ≤ 2)) → (((5 : Int32) ≤ a2 ∧ a2 ≤ 80)) → (((0 : Int32) ≤ a3 ∧ a3 ≤ 3)) → (((100 : Int32) ≤ a4 ∧ a4 ≤ 9999)) → (¬ (s46_1 = 8)) → 0 ≤ s46_1 ∧ s46_1 < 8) (l1 : (((0 : Int32) ≤ a1 ∧ a1 ≤ 2)) → (((5 : Int32) ≤ a2 ∧ a2 ≤ 80)) → (((0 : Int32) ≤ a3 ∧ a3 ≤ 3)) → (((100 : Int32) ≤ a4 ∧ a4 ≤ 9999)) → (¬ (s46_1 = 8)) → Q (some (.int ((s46_1 + 1) - 1))) (zwI (zwI (zwI (zwI (zwI (zwI (I, J, zR, 81) 48 (s46_1 : Int32).toNatClampNeg a1) 49 (s46_1 : Int32).toNatClampNeg a2) 50 (s46_1 : Int32).toNatClampNeg a3) 51 (s46_1 : Int32).toNatClampNeg a4) 66 (s46_1 : Int32).toNatClampNeg 0) 46 1 (s46_1 + 1))) (l2 : (((0 : Int32) ≤ a1 ∧ a1 ≤ 2)) → (((5 : Int32) ≤ a2 ∧ a2 ≤ 80)) → (((0 : Int32) ≤ a3 ∧ a3 ≤ 3)) → (((100 : Int32) ≤ a4 ∧ a4 ≤ 9999)) → (s46_1 = 8) → Q (some (.int (-4))) (I, J, zR, 81)) (l3 : (((0 : Int32) ≤ a1 ∧ a1 ≤ 2)) → (((5 : Int32) ≤ a2 ∧ a2 ≤ 80)) → (((0 : Int32) ≤ a3 ∧ a3 ≤ 3)) → (¬ (((100 : Int32) ≤ a4 ∧ a4 ≤ 9999))) → Q (some (.int (-2))) (I, J, zR, 81)) (l4 : (((0 : Int32) ≤ a1 ∧ a1 ≤ 2)) → (((5 : Int32) ≤ a2 ∧ a2 ≤ 80)) → (¬ (((0 : Int32) ≤ a3 ∧ a3 ≤ 3))) → Q (some (.int (-2))) (I, J, zR, 81)) (l5 : (((0 : Int32) ≤ a1 ∧ a1 ≤ 2)) → (¬ (((5 : Int32) ≤ a2 ∧ a2 ≤ 80))) → Q (some (.int (-2))) (I, J, zR, 81)) (l6 : (¬ (((0 : Int32) ≤ a1 ∧ a1 ≤ 2))) → Q (some (.int (-2))) (I, J, zR, 81)) : zT (d + 2) 97 81 [.ref 46, .int a1, .int a2, .int a3, .int a4] (I, J, zR, 81) Q := by
  subst e46_1
  refine ⟨rfl, fun E At hE hC => ?_⟩
  replace hC : ∀ pc st L M', zX 81 E Q At (zlk B_X10_profile pc) st L M' → At pc st L M' := hC
  refine hC 0 [] [some (.ref 46), some (.int a1), some (.int a2), some (.int a3), some (.int a4)] _ ?_
  refine hE _ _ _ _ _ (w_in32 _ _ _ (a1) (0) (2) _   (fun q1 => ?_) (fun q2 => ?_))
  · skip
    refine And.intro (fun qz => absurd qz (by decide)) (fun _ => ?_)
    refine hE _ _ _ _ _ (w_in32 _ _ _ (a2) (5) (80) _   (fun q3 => ?_) (fun q4 => ?_))
    · skip
      refine And.intro (fun qz => absurd qz (by decide)) (fun _ => ?_)
      refine hE _ _ _ _ _ (w_in32 _ _ _ (a3) (0) (3) _   (fun q5 => ?_) (fun q6 => ?_))
      · skip
        refine And.intro (fun qz => absurd qz (by decide)) (fun _ => ?_)
        refine hE _ _ _ _ _ (w_in32 _ _ _ (a4) (100) (9999) _   (fun q7 => ?_) (fun q8 => ?_))
        · skip
          refine And.intro (fun _ => ?_) (fun qz => absurd qz (by decide))
          refine hC 56 [] [some (.ref 46), some (.int a1), some (.int a2), some (.int a3), some (.int a4)] _ ?_
          refine And.intro (fun q9 => ?_) (fun q9 => ?_)
          · skip
            refine hC 68 [] [some (.ref 46), some (.int a1), some (.int a2), some (.int a3), some (.int a4)] _ ?_
            refine And.intro (zvp (b1 q1 q3 q5 q7 q9) rfl) ?_
            refine And.intro (zvp (b2 q1 q3 q5 q7 q9) rfl) ?_
            refine And.intro (zvp (b3 q1 q3 q5 q7 q9) rfl) ?_
            refine And.intro (zvp (b4 q1 q3 q5 q7 q9) rfl) ?_
            refine And.intro (zvp (b5 q1 q3 q5 q7 q9) rfl) ?_
            exact l1 q1 q3 q5 q7 q9
          · skip
            exact l2 q1 q3 q5 q7 q9
        · skip
          refine And.intro (fun qz => absurd qz (by decide)) (fun _ => ?_)
          refine hC 53 [] [some (.ref 46), some (.int a1), some (.int a2), some (.int a3), some (.int a4)] _ ?_
          exact l3 q1 q3 q5 q8
      · skip
        refine And.intro (fun _ => ?_) (fun qz => absurd qz (by decide))
        refine hC 53 [] [some (.ref 46), some (.int a1), some (.int a2), some (.int a3), some (.int a4)] _ ?_
        exact l4 q1 q3 q6
    · skip
      refine And.intro (fun _ => ?_) (fun qz => absurd qz (by decide))
      refine hC 53 [] [some (.ref 46), some (.int a1), some (.int a2), some (.int a3), some (.int a4)] _ ?_
      exact l5 q1 q4
  · skip
    refine And.intro (fun _ => ?_) (fun qz => absurd qz (by decide))
    refine hC 53 [] [some (.ref 46), some (.int a1), some (.int a2), some (.int a3), some (.int a4)] _ ?_
    exact l6 q2
theorem w_X10_die (d : Nat) (I : Nat → Nat → Int32) (J : Nat → Nat → Int64) (a1 : Int32) (a2 : Int32) (Q : Option Value → zM → Prop) {s46_1 : Int32} (e46_1 : I 46 1 = s46_1) {s46_6 : Int32} (e46_6 : I 46 6 = s46_6) (b1 : (((0 : Int32) ≤ a1 ∧ a1 ≤ (s46_1 - 1))) → (((1 : Int32) ≤ a2 ∧ a2 ≤ 50)) → (¬ (s46_6 = 12)) → 0 ≤ s46_6 ∧ s46_6 < 12) (b2 : (((0 : Int32) ≤ a1 ∧ a1 ≤ (s46_1 - 1))) → (((1 : Int32) ≤ a2 ∧ a2 ≤ 50)) → (¬ (s46_6 = 12)) → 0 ≤ s46_6 ∧ s46_6 < 12) (b3 : (((0 : Int32) ≤ a1 ∧ a1 ≤ (s46_1 - 1))) → (((1 : Int32) ≤ a2 ∧ a2 ≤ 50)) → (¬ (s46_6 = 12)) → 0 ≤ s46_6 ∧ s46_6 < 12) (b4 : (((0 : Int32) ≤ a1 ∧ a1 ≤ (s46_1 - 1))) → (((1 : Int32) ≤ a2 ∧ a2 ≤ 50)) → (¬ (s46_6 = 12)) → 0 ≤ s46_6 ∧ s46_6 < 12) (b5 : (((0 : Int32) ≤ a1 ∧ a1 ≤ (s46_1 - 1))) → (((1 : Int32) ≤ a2 ∧ a2 ≤ 50)) → (¬ (s46_6 = 12)) → 0 ≤ s46_6 ∧ s46_6 < 12) (l1 : (((0 : Int32) ≤ a1 ∧ a1 ≤ (s46_1 - 1))) → (((1 : Int32) ≤ a2 ∧ a2 ≤ 50)) → (¬ (s46_6 = 12)) → Q (some (.int ((s46_6 + 1) - 1))) (zwI (zwI (zwI (zwI (zwI (zwI (I, J, zR, 81) 52 (s46_6 : Int32).toNatClampNeg a1) 53 (s46_6 : Int32).toNatClampNeg a2) 54 (s46_6 : Int32).toNatClampNeg 0) 55 (s46_6 : Int32).toNatClampNeg 0) 56 (s46_6 : Int32).toNatClampNeg (-1)) 46 6 (s46_6 + 1))) (l2 : (((0 : Int32) ≤ a1 ∧ a1 ≤ (s46_1 - 1))) → (((1 : Int32) ≤ a2 ∧ a2 ≤ 50)) → (s46_6 = 12) → Q (some (.int (-4))) (I, J, zR, 81)) (l3 : (((0 : Int32) ≤ a1 ∧ a1 ≤ (s46_1 - 1))) → (¬ (((1 : Int32) ≤ a2 ∧ a2 ≤ 50))) → Q (some (.int (-2))) (I, J, zR, 81)) (l4 : (¬ (((0 : Int32) ≤ a1 ∧ a1 ≤ (s46_1 - 1)))) → Q (some (.int (-2))) (I, J, zR, 81)) : zT (d + 3) 98 81 [.ref 46, .int a1, .int a2] (I, J, zR, 81) Q := by
  subst e46_1 e46_6
  refine ⟨rfl, fun E At hE hC => ?_⟩
  replace hC : ∀ pc st L M', zX 81 E Q At (zlk B_X10_die pc) st L M' → At pc st L M' := hC
  refine hC 0 [] [some (.ref 46), some (.int a1), some (.int a2)] _ ?_
  refine hE _ _ _ _ _ (w_X10_isProfile _ _ _ _ _ rfl  (fun q1 => ?_) (fun q2 => ?_))
  · skip
    refine And.intro (fun qz => absurd qz (by decide)) (fun _ => ?_)
    refine hE _ _ _ _ _ (w_in32 _ _ _ (a2) (1) (50) _   (fun q3 => ?_) (fun q4 => ?_))
    · skip
      refine And.intro (fun _ => ?_) (fun qz => absurd qz (by decide))
      refine hC 23 [] [some (.ref 46), some (.int a1), some (.int a2)] _ ?_
      refine And.intro (fun q5 => ?_) (fun q5 => ?_)
      · skip
        refine hC 35 [] [some (.ref 46), some (.int a1), some (.int a2)] _ ?_
        refine And.intro (zvp (b1 q1 q3 q5) rfl) ?_
        refine And.intro (zvp (b2 q1 q3 q5) rfl) ?_
        refine And.intro (zvp (b3 q1 q3 q5) rfl) ?_
        refine And.intro (zvp (b4 q1 q3 q5) rfl) ?_
        refine And.intro (zvp (b5 q1 q3 q5) rfl) ?_
        exact l1 q1 q3 q5
      · skip
        exact l2 q1 q3 q5
    · skip
      refine And.intro (fun qz => absurd qz (by decide)) (fun _ => ?_)
      refine hC 20 [] [some (.ref 46), some (.int a1), some (.int a2)] _ ?_
      exact l3 q1 q4
  · skip
    refine And.intro (fun _ => ?_) (fun qz => absurd qz (by decide))
    refine hC 20 [] [some (.ref 46), some (.int a1), some (.int a2)] _ ?_
    exact l4 q2
theorem w_X10_warm (d : Nat) (I : Nat → Nat → Int32) (J : Nat → Nat → Int64) (a1 : Int32) (Q : Option Value → zM → Prop) {f56 : Nat → Int32} (e56 : I 56 = f56) {s46_12 : Int32} (e46_12 : I 46 12 = s46_12) {s46_6 : Int32} (e46_6 : I 46 6 = s46_6) (b1 : (((0 : Int32) ≤ a1 ∧ a1 ≤ (s46_6 - 1))) → 0 ≤ a1 ∧ a1 < 12) (b2 : (((0 : Int32) ≤ a1 ∧ a1 ≤ (s46_6 - 1))) → ((f56 (a1 : Int32).toNatClampNeg) = (-1)) → 0 ≤ a1 ∧ a1 < 12) (l1 : (((0 : Int32) ≤ a1 ∧ a1 ≤ (s46_6 - 1))) → ((f56 (a1 : Int32).toNatClampNeg) = (-1)) → Q (some (.int 1)) (zwI (I, J, zR, 81) 56 (a1 : Int32).toNatClampNeg s46_12)) (l2 : (((0 : Int32) ≤ a1 ∧ a1 ≤ (s46_6 - 1))) → (¬ ((f56 (a1 : Int32).toNatClampNeg) = (-1))) → Q (some (.int (-3))) (I, J, zR, 81)) (l3 : (¬ (((0 : Int32) ≤ a1 ∧ a1 ≤ (s46_6 - 1)))) → Q (some (.int (-2))) (I, J, zR, 81)) : zT (d + 3) 99 81 [.ref 46, .int a1] (I, J, zR, 81) Q := by
  subst e56 e46_12 e46_6
  refine ⟨rfl, fun E At hE hC => ?_⟩
  replace hC : ∀ pc st L M', zX 81 E Q At (zlk B_X10_warm pc) st L M' → At pc st L M' := hC
  refine hC 0 [] [some (.ref 46), some (.int a1)] _ ?_
  refine hE _ _ _ _ _ (w_X10_isDie _ _ _ _ _ rfl  (fun q1 => ?_) (fun q2 => ?_))
  · skip
    refine And.intro (fun _ => ?_) (fun qz => absurd qz (by decide))
    refine hC 11 [] [some (.ref 46), some (.int a1)] _ ?_
    refine And.intro (zvp (b1 q1) rfl) ?_
    refine And.intro (fun q3 => ?_) (fun q3 => ?_)
    · skip
      refine hC 24 [] [some (.ref 46), some (.int a1)] _ ?_
      refine And.intro (zvp (b2 q1 q3) rfl) ?_
      exact l1 q1 q3
    · skip
      exact l2 q1 q3
  · skip
    refine And.intro (fun qz => absurd qz (by decide)) (fun _ => ?_)
    exact l3 q2
theorem w_X10_cool (d : Nat) (I : Nat → Nat → Int32) (J : Nat → Nat → Int64) (a1 : Int32) (Q : Option Value → zM → Prop) {f56 : Nat → Int32} (e56 : I 56 = f56) {s46_12 : Int32} (e46_12 : I 46 12 = s46_12) {s46_6 : Int32} (e46_6 : I 46 6 = s46_6) (b1 : (((0 : Int32) ≤ a1 ∧ a1 ≤ (s46_6 - 1))) → 0 ≤ a1 ∧ a1 < 12) (b2 : (((0 : Int32) ≤ a1 ∧ a1 ≤ (s46_6 - 1))) → (¬ ((f56 (a1 : Int32).toNatClampNeg) = (-1))) → 0 ≤ a1 ∧ a1 < 12) (b3 : (((0 : Int32) ≤ a1 ∧ a1 ≤ (s46_6 - 1))) → (¬ ((f56 (a1 : Int32).toNatClampNeg) = (-1))) → 0 ≤ a1 ∧ a1 < 12) (l1 : (((0 : Int32) ≤ a1 ∧ a1 ≤ (s46_6 - 1))) → (¬ ((f56 (a1 : Int32).toNatClampNeg) = (-1))) → Q (some (.int (s46_12 - (f56 (a1 : Int32).toNatClampNeg)))) (zwI (I, J, zR, 81) 56 (a1 : Int32).toNatClampNeg (-1))) (l2 : (((0 : Int32) ≤ a1 ∧ a1 ≤ (s46_6 - 1))) → ((f56 (a1 : Int32).toNatClampNeg) = (-1)) → Q (some (.int (-3))) (I, J, zR, 81)) (l3 : (¬ (((0 : Int32) ≤ a1 ∧ a1 ≤ (s46_6 - 1)))) → Q (some (.int (-2))) (I, J, zR, 81)) : zT (d + 3) 100 81 [.ref 46, .int a1] (I, J, zR, 81) Q := by
  subst e56 e46_12 e46_6
  refine ⟨rfl, fun E At hE hC => ?_⟩
  replace hC : ∀ pc st L M', zX 81 E Q At (zlk B_X10_cool pc) st L M' → At pc st L M' := hC
  refine hC 0 [] [some (.ref 46), some (.int a1), none] _ ?_
  refine hE _ _ _ _ _ (w_X10_isDie _ _ _ _ _ rfl  (fun q1 => ?_) (fun q2 => ?_))
  · skip
    refine And.intro (fun _ => ?_) (fun qz => absurd qz (by decide))
    refine hC 11 [] [some (.ref 46), some (.int a1), none] _ ?_
    refine And.intro (zvp (b1 q1) rfl) ?_
    refine And.intro (fun q3 => ?_) (fun q3 => ?_)
    · skip
      refine hC 24 [] [some (.ref 46), some (.int a1), none] _ ?_
      refine And.intro (zvp (b2 q1 q3) rfl) ?_
      refine And.intro (zvp (b3 q1 q3) rfl) ?_
      exact l1 q1 q3
    · skip
      exact l2 q1 q3
  · skip
    refine And.intro (fun qz => absurd qz (by decide)) (fun _ => ?_)
    exact l3 q2
theorem w_X10_nitride (d : Nat) (I : Nat → Nat → Int32) (J : Nat → Nat → Int64) (a1 : Int32) (Q : Option Value → zM → Prop) {f54 : Nat → Int32} (e54 : I 54 = f54) {f56 : Nat → Int32} (e56 : I 56 = f56) {s46_6 : Int32} (e46_6 : I 46 6 = s46_6) (b1 : (((0 : Int32) ≤ a1 ∧ a1 ≤ (s46_6 - 1))) → 0 ≤ a1 ∧ a1 < 12) (b2 : (((0 : Int32) ≤ a1 ∧ a1 ≤ (s46_6 - 1))) → ((f56 (a1 : Int32).toNatClampNeg) = (-1)) → 0 ≤ a1 ∧ a1 < 12) (b3 : (((0 : Int32) ≤ a1 ∧ a1 ≤ (s46_6 - 1))) → ((f56 (a1 : Int32).toNatClampNeg) = (-1)) → 0 ≤ a1 ∧ a1 < 12) (l1 : (((0 : Int32) ≤ a1 ∧ a1 ≤ (s46_6 - 1))) → ((f56 (a1 : Int32).toNatClampNeg) = (-1)) → Q (some (.int (f54 (a1 : Int32).toNatClampNeg))) (zwI (I, J, zR, 81) 54 (a1 : Int32).toNatClampNeg 0)) (l2 : (((0 : Int32) ≤ a1 ∧ a1 ≤ (s46_6 - 1))) → (¬ ((f56 (a1 : Int32).toNatClampNeg) = (-1))) → Q (some (.int (-3))) (I, J, zR, 81)) (l3 : (¬ (((0 : Int32) ≤ a1 ∧ a1 ≤ (s46_6 - 1)))) → Q (some (.int (-2))) (I, J, zR, 81)) : zT (d + 3) 101 81 [.ref 46, .int a1] (I, J, zR, 81) Q := by
  subst e54 e56 e46_6
  refine ⟨rfl, fun E At hE hC => ?_⟩
  replace hC : ∀ pc st L M', zX 81 E Q At (zlk B_X10_nitride pc) st L M' → At pc st L M' := hC
  refine hC 0 [] [some (.ref 46), some (.int a1), none] _ ?_
  refine hE _ _ _ _ _ (w_X10_isDie _ _ _ _ _ rfl  (fun q1 => ?_) (fun q2 => ?_))
  · skip
    refine And.intro (fun _ => ?_) (fun qz => absurd qz (by decide))
    refine hC 11 [] [some (.ref 46), some (.int a1), none] _ ?_
    refine And.intro (zvp (b1 q1) rfl) ?_
    refine And.intro (fun q3 => ?_) (fun q3 => ?_)
    · skip
      refine hC 24 [] [some (.ref 46), some (.int a1), none] _ ?_
      refine And.intro (zvp (b2 q1 q3) rfl) ?_
      refine And.intro (zvp (b3 q1 q3) rfl) ?_
      exact l1 q1 q3
    · skip
      exact l2 q1 q3
  · skip
    refine And.intro (fun qz => absurd qz (by decide)) (fun _ => ?_)
    exact l3 q2
theorem w_X10_mayPress (d : Nat) (I : Nat → Nat → Int32) (J : Nat → Nat → Int64) (a1 : Int32) (Q : Option Value → zM → Prop) {f53 : Nat → Int32} (e53 : I 53 = f53) {f54 : Nat → Int32} (e54 : I 54 = f54) {f56 : Nat → Int32} (e56 : I 56 = f56) {s46_12 : Int32} (e46_12 : I 46 12 = s46_12) (b1 : 0 ≤ a1 ∧ a1 < 12) (b2 : (¬ ((f56 (a1 : Int32).toNatClampNeg) = (-1))) → 0 ≤ a1 ∧ a1 < 12) (b3 : (¬ ((f56 (a1 : Int32).toNatClampNeg) = (-1))) → (((3 : Int32) ≤ (s46_12 - (f56 (a1 : Int32).toNatClampNeg)) ∧ (s46_12 - (f56 (a1 : Int32).toNatClampNeg)) ≤ 12)) → 0 ≤ a1 ∧ a1 < 12) (b4 : (¬ ((f56 (a1 : Int32).toNatClampNeg) = (-1))) → (((3 : Int32) ≤ (s46_12 - (f56 (a1 : Int32).toNatClampNeg)) ∧ (s46_12 - (f56 (a1 : Int32).toNatClampNeg)) ≤ 12)) → 0 ≤ a1 ∧ a1 < 12) (l1 : ((f56 (a1 : Int32).toNatClampNeg) = (-1)) → Q (some (.int 0)) (I, J, zR, 81)) (l2 : (¬ ((f56 (a1 : Int32).toNatClampNeg) = (-1))) → (((3 : Int32) ≤ (s46_12 - (f56 (a1 : Int32).toNatClampNeg)) ∧ (s46_12 - (f56 (a1 : Int32).toNatClampNeg)) ≤ 12)) → ((f53 (a1 : Int32).toNatClampNeg) ≤ (f54 (a1 : Int32).toNatClampNeg)) → Q (some (.int 0)) (I, J, zR, 81)) (l3 : (¬ ((f56 (a1 : Int32).toNatClampNeg) = (-1))) → (((3 : Int32) ≤ (s46_12 - (f56 (a1 : Int32).toNatClampNeg)) ∧ (s46_12 - (f56 (a1 : Int32).toNatClampNeg)) ≤ 12)) → (¬ ((f53 (a1 : Int32).toNatClampNeg) ≤ (f54 (a1 : Int32).toNatClampNeg))) → Q (some (.int 1)) (I, J, zR, 81)) (l4 : (¬ ((f56 (a1 : Int32).toNatClampNeg) = (-1))) → (¬ (((3 : Int32) ≤ (s46_12 - (f56 (a1 : Int32).toNatClampNeg)) ∧ (s46_12 - (f56 (a1 : Int32).toNatClampNeg)) ≤ 12))) → Q (some (.int 0)) (I, J, zR, 81)) : zT (d + 2) 102 81 [.ref 46, .int a1] (I, J, zR, 81) Q := by
  subst e53 e54 e56 e46_12
  refine ⟨rfl, fun E At hE hC => ?_⟩
  replace hC : ∀ pc st L M', zX 81 E Q At (zlk B_X10_mayPress pc) st L M' → At pc st L M' := hC
  refine hC 0 [] [some (.ref 46), some (.int a1)] _ ?_
  refine And.intro (zvp (b1) rfl) ?_
  refine And.intro (fun q1 => ?_) (fun q1 => ?_)
  · skip
    refine hC 53 [] [some (.ref 46), some (.int a1)] _ ?_
    refine hC 54 [.int 0] [some (.ref 46), some (.int a1)] _ ?_
    exact And.intro (Or.inl rfl) (l1 q1)
  · skip
    refine And.intro (zvp (b2 q1) rfl) ?_
    refine hE _ _ _ _ _ (w_in32 _ _ _ (((I 46 12) - (I 56 (a1 : Int32).toNatClampNeg))) (3) (12) _   (fun q2 => ?_) (fun q3 => ?_))
    · skip
      refine And.intro (fun qz => absurd qz (by decide)) (fun _ => ?_)
      refine And.intro (zvp (b3 q1 q2) rfl) ?_
      refine And.intro (zvp (b4 q1 q2) rfl) ?_
      refine And.intro (fun q4 => ?_) (fun q4 => ?_)
      · skip
        refine hC 53 [] [some (.ref 46), some (.int a1)] _ ?_
        refine hC 54 [.int 0] [some (.ref 46), some (.int a1)] _ ?_
        exact And.intro (Or.inl rfl) (l2 q1 q2 q4)
      · skip
        refine hC 54 [.int 1] [some (.ref 46), some (.int a1)] _ ?_
        exact And.intro (Or.inr rfl) (l3 q1 q2 q4)
    · skip
      refine And.intro (fun _ => ?_) (fun qz => absurd qz (by decide))
      refine hC 53 [] [some (.ref 46), some (.int a1)] _ ?_
      refine hC 54 [.int 0] [some (.ref 46), some (.int a1)] _ ?_
      exact And.intro (Or.inl rfl) (l4 q1 q3)
theorem w_X10_about (d : Nat) (I : Nat → Nat → Int32) (J : Nat → Nat → Int64) (a1 : Int32) (a2 : Int32) (Q : Option Value → zM → Prop) {f52 : Nat → Int32} (e52 : I 52 = f52) {f53 : Nat → Int32} (e53 : I 53 = f53) {f54 : Nat → Int32} (e54 : I 54 = f54) {f55 : Nat → Int32} (e55 : I 55 = f55) {f56 : Nat → Int32} (e56 : I 56 = f56) {s46_12 : Int32} (e46_12 : I 46 12 = s46_12) {s46_6 : Int32} (e46_6 : I 46 6 = s46_6) (b1 : (((0 : Int32) ≤ a1 ∧ a1 ≤ (s46_6 - 1))) → ((a2 : Int32).toInt = 0) → 0 ≤ a1 ∧ a1 < 12) (b2 : (((0 : Int32) ≤ a1 ∧ a1 ≤ (s46_6 - 1))) → ((a2 : Int32).toInt = 1) → 0 ≤ a1 ∧ a1 < 12) (b3 : (((0 : Int32) ≤ a1 ∧ a1 ≤ (s46_6 - 1))) → ((a2 : Int32).toInt = 2) → 0 ≤ a1 ∧ a1 < 12) (b4 : (((0 : Int32) ≤ a1 ∧ a1 ≤ (s46_6 - 1))) → ((a2 : Int32).toInt = 3) → 0 ≤ a1 ∧ a1 < 12) (b5 : (((0 : Int32) ≤ a1 ∧ a1 ≤ (s46_6 - 1))) → ((a2 : Int32).toInt = 3) → (¬ ((f56 (a1 : Int32).toNatClampNeg) = (-1))) → 0 ≤ a1 ∧ a1 < 12) (b6 : (((0 : Int32) ≤ a1 ∧ a1 ≤ (s46_6 - 1))) → ((a2 : Int32).toInt = 4) → 0 ≤ a1 ∧ a1 < 12) (b7 : (((0 : Int32) ≤ a1 ∧ a1 ≤ (s46_6 - 1))) → ((a2 : Int32).toInt = 4) → (¬ ((f56 (a1 : Int32).toNatClampNeg) = (-1))) → 0 ≤ a1 ∧ a1 < 12) (b8 : (((0 : Int32) ≤ a1 ∧ a1 ≤ (s46_6 - 1))) → ((a2 : Int32).toInt = 4) → (¬ ((f56 (a1 : Int32).toNatClampNeg) = (-1))) → (((3 : Int32) ≤ (s46_12 - (f56 (a1 : Int32).toNatClampNeg)) ∧ (s46_12 - (f56 (a1 : Int32).toNatClampNeg)) ≤ 12)) → 0 ≤ a1 ∧ a1 < 12) (b9 : (((0 : Int32) ≤ a1 ∧ a1 ≤ (s46_6 - 1))) → ((a2 : Int32).toInt = 4) → (¬ ((f56 (a1 : Int32).toNatClampNeg) = (-1))) → (((3 : Int32) ≤ (s46_12 - (f56 (a1 : Int32).toNatClampNeg)) ∧ (s46_12 - (f56 (a1 : Int32).toNatClampNeg)) ≤ 12)) → 0 ≤ a1 ∧ a1 < 12) (b10 : (((0 : Int32) ≤ a1 ∧ a1 ≤ (s46_6 - 1))) → ((a2 : Int32).toInt = 5) → 0 ≤ a1 ∧ a1 < 12) (l1 : (((0 : Int32) ≤ a1 ∧ a1 ≤ (s46_6 - 1))) → ((a2 : Int32).toInt < 0 ∨ (6 : Int) ≤ (a2 : Int32).toInt) → Q (some (.int (-2))) (I, J, zR, 81)) (l2 : (((0 : Int32) ≤ a1 ∧ a1 ≤ (s46_6 - 1))) → ((a2 : Int32).toInt = 0) → Q (some (.int (f52 (a1 : Int32).toNatClampNeg))) (I, J, zR, 81)) (l3 : (((0 : Int32) ≤ a1 ∧ a1 ≤ (s46_6 - 1))) → ((a2 : Int32).toInt = 1) → Q (some (.int (f53 (a1 : Int32).toNatClampNeg))) (I, J, zR, 81)) (l4 : (((0 : Int32) ≤ a1 ∧ a1 ≤ (s46_6 - 1))) → ((a2 : Int32).toInt = 2) → Q (some (.int (f54 (a1 : Int32).toNatClampNeg))) (I, J, zR, 81)) (l5 : (((0 : Int32) ≤ a1 ∧ a1 ≤ (s46_6 - 1))) → ((a2 : Int32).toInt = 3) → (¬ ((f56 (a1 : Int32).toNatClampNeg) = (-1))) → Q (some (.int (s46_12 - (f56 (a1 : Int32).toNatClampNeg)))) (I, J, zR, 81)) (l6 : (((0 : Int32) ≤ a1 ∧ a1 ≤ (s46_6 - 1))) → ((a2 : Int32).toInt = 3) → ((f56 (a1 : Int32).toNatClampNeg) = (-1)) → Q (some (.int (-1))) (I, J, zR, 81)) (l7 : (((0 : Int32) ≤ a1 ∧ a1 ≤ (s46_6 - 1))) → ((a2 : Int32).toInt = 4) → ((f56 (a1 : Int32).toNatClampNeg) = (-1)) → Q (some (.int 0)) (I, J, zR, 81)) (l8 : (((0 : Int32) ≤ a1 ∧ a1 ≤ (s46_6 - 1))) → ((a2 : Int32).toInt = 4) → (¬ ((f56 (a1 : Int32).toNatClampNeg) = (-1))) → (((3 : Int32) ≤ (s46_12 - (f56 (a1 : Int32).toNatClampNeg)) ∧ (s46_12 - (f56 (a1 : Int32).toNatClampNeg)) ≤ 12)) → ((f53 (a1 : Int32).toNatClampNeg) ≤ (f54 (a1 : Int32).toNatClampNeg)) → Q (some (.int 0)) (I, J, zR, 81)) (l9 : (((0 : Int32) ≤ a1 ∧ a1 ≤ (s46_6 - 1))) → ((a2 : Int32).toInt = 4) → (¬ ((f56 (a1 : Int32).toNatClampNeg) = (-1))) → (((3 : Int32) ≤ (s46_12 - (f56 (a1 : Int32).toNatClampNeg)) ∧ (s46_12 - (f56 (a1 : Int32).toNatClampNeg)) ≤ 12)) → (¬ ((f53 (a1 : Int32).toNatClampNeg) ≤ (f54 (a1 : Int32).toNatClampNeg))) → Q (some (.int 1)) (I, J, zR, 81)) (l10 : (((0 : Int32) ≤ a1 ∧ a1 ≤ (s46_6 - 1))) → ((a2 : Int32).toInt = 4) → (¬ ((f56 (a1 : Int32).toNatClampNeg) = (-1))) → (¬ (((3 : Int32) ≤ (s46_12 - (f56 (a1 : Int32).toNatClampNeg)) ∧ (s46_12 - (f56 (a1 : Int32).toNatClampNeg)) ≤ 12))) → Q (some (.int 0)) (I, J, zR, 81)) (l11 : (((0 : Int32) ≤ a1 ∧ a1 ≤ (s46_6 - 1))) → ((a2 : Int32).toInt = 5) → Q (some (.int (f55 (a1 : Int32).toNatClampNeg))) (I, J, zR, 81)) (l12 : (¬ (((0 : Int32) ≤ a1 ∧ a1 ≤ (s46_6 - 1)))) → Q (some (.int (-2))) (I, J, zR, 81)) : zT (d + 3) 103 81 [.ref 46, .int a1, .int a2] (I, J, zR, 81) Q := by
  subst e52 e53 e54 e55 e56 e46_12 e46_6
  refine ⟨rfl, fun E At hE hC => ?_⟩
  replace hC : ∀ pc st L M', zX 81 E Q At (zlk B_X10_about pc) st L M' → At pc st L M' := hC
  refine hC 0 [] [some (.ref 46), some (.int a1), some (.int a2)] _ ?_
  refine hE _ _ _ _ _ (w_X10_isDie _ _ _ _ _ rfl  (fun q1 => ?_) (fun q2 => ?_))
  · skip
    refine And.intro (fun _ => ?_) (fun qz => absurd qz (by decide))
    refine hC 11 [] [some (.ref 46), some (.int a1), some (.int a2)] _ ?_
    refine And.intro (fun q3 => ?_) (And.intro (fun q3 => ?_) (And.intro (fun q3 => ?_) (And.intro (fun q3 => ?_) (And.intro (fun q3 => ?_) (And.intro (fun q3 => ?_) (And.intro (fun q3 => ?_) (trivial)))))))
    · skip
      refine hC 120 [] [some (.ref 46), some (.int a1), some (.int a2)] _ ?_
      exact l1 q1 q3
    · skip
      refine hC 52 [] [some (.ref 46), some (.int a1), some (.int a2)] _ ?_
      refine And.intro (zvp (b1 q1 q3) rfl) ?_
      exact l2 q1 q3
    · skip
      refine hC 59 [] [some (.ref 46), some (.int a1), some (.int a2)] _ ?_
      refine And.intro (zvp (b2 q1 q3) rfl) ?_
      exact l3 q1 q3
    · skip
      refine hC 66 [] [some (.ref 46), some (.int a1), some (.int a2)] _ ?_
      refine And.intro (zvp (b3 q1 q3) rfl) ?_
      exact l4 q1 q3
    · skip
      refine hC 73 [] [some (.ref 46), some (.int a1), some (.int a2)] _ ?_
      refine And.intro (zvp (b4 q1 q3) rfl) ?_
      refine And.intro (fun q4 => ?_) (fun q4 => ?_)
      · skip
        refine hC 87 [] [some (.ref 46), some (.int a1), some (.int a2)] _ ?_
        refine And.intro (zvp (b5 q1 q3 q4) rfl) ?_
        refine hC 98 [.int ((I 46 12) - (I 56 (a1 : Int32).toNatClampNeg))] [some (.ref 46), some (.int a1), some (.int a2)] _ ?_
        exact l5 q1 q3 q4
      · skip
        refine hC 98 [.int (-1)] [some (.ref 46), some (.int a1), some (.int a2)] _ ?_
        exact l6 q1 q3 q4
    · skip
      refine hC 99 [] [some (.ref 46), some (.int a1), some (.int a2)] _ ?_
      refine hE _ _ _ _ _ (w_X10_mayPress _ _ _ _ _ rfl rfl rfl rfl (b6 q1 q3) (fun x0 => b7 q1 q3 x0) (fun x0 x1 => b8 q1 q3 x0 x1) (fun x0 x1 => b9 q1 q3 x0 x1) (fun q5 => ?_) (fun q6 q7 q8 => ?_) (fun q9 q10 q11 => ?_) (fun q12 q13 => ?_))
      · skip
        refine And.intro (fun _ => ?_) (fun qz => absurd qz (by decide))
        refine hC 111 [] [some (.ref 46), some (.int a1), some (.int a2)] _ ?_
        refine hC 112 [.int 0] [some (.ref 46), some (.int a1), some (.int a2)] _ ?_
        exact l7 q1 q3 q5
      · skip
        refine And.intro (fun _ => ?_) (fun qz => absurd qz (by decide))
        refine hC 111 [] [some (.ref 46), some (.int a1), some (.int a2)] _ ?_
        refine hC 112 [.int 0] [some (.ref 46), some (.int a1), some (.int a2)] _ ?_
        exact l8 q1 q3 q6 q7 q8
      · skip
        refine And.intro (fun qz => absurd qz (by decide)) (fun _ => ?_)
        refine hC 112 [.int 1] [some (.ref 46), some (.int a1), some (.int a2)] _ ?_
        exact l9 q1 q3 q9 q10 q11
      · skip
        refine And.intro (fun _ => ?_) (fun qz => absurd qz (by decide))
        refine hC 111 [] [some (.ref 46), some (.int a1), some (.int a2)] _ ?_
        refine hC 112 [.int 0] [some (.ref 46), some (.int a1), some (.int a2)] _ ?_
        exact l10 q1 q3 q12 q13
    · skip
      refine hC 113 [] [some (.ref 46), some (.int a1), some (.int a2)] _ ?_
      refine And.intro (zvp (b10 q1 q3) rfl) ?_
      exact l11 q1 q3
  · skip
    refine And.intro (fun qz => absurd qz (by decide)) (fun _ => ?_)
    exact l12 q2
