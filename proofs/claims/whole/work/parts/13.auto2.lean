theorem w_X8_share (d : Nat) (I : Nat → Nat → Int32) (J : Nat → Nat → Int64) (a1 : Int32) (Q : Option Value → zM → Prop) {s17_5 : Int32} (e17_5 : I 17 5 = s17_5) (l1 : Q none (zwI (zwI (I, J, zR, 81) 17 6 a1) 17 7 (s17_5 - a1))) : zT (d + 1) 51 81 [.ref 17, .int a1] (I, J, zR, 81) Q := by
  subst e17_5
  refine ⟨rfl, fun E At hE hC => ?_⟩
  replace hC : ∀ pc st L M', zX 81 E Q At (zlk B_X8_share pc) st L M' → At pc st L M' := hC
  refine hC 0 [] [some (.ref 17), some (.int a1)] _ ?_
  exact l1
theorem w_X9_profile (d : Nat) (I : Nat → Nat → Int32) (J : Nat → Nat → Int64) (a1 : Int32) (a2 : Int32) (a3 : Int32) (a4 : Int32) (Q : Option Value → zM → Prop) {s1_4 : Int32} (e1_4 : I 1 4 = s1_4) (b1 : (((0 : Int32) ≤ a1 ∧ a1 ≤ 2)) → (((5 : Int32) ≤ a2 ∧ a2 ≤ 80)) → (((0 : Int32) ≤ a3 ∧ a3 ≤ 3)) → (((100 : Int32) ≤ a4 ∧ a4 ≤ 9999)) → (s1_4 < 8) → 0 ≤ s1_4 ∧ s1_4 < 8) (b2 : (((0 : Int32) ≤ a1 ∧ a1 ≤ 2)) → (((5 : Int32) ≤ a2 ∧ a2 ≤ 80)) → (((0 : Int32) ≤ a3 ∧ a3 ≤ 3)) → (((100 : Int32) ≤ a4 ∧ a4 ≤ 9999)) → (s1_4 < 8) → 0 ≤ s1_4 ∧ s1_4 < 8) (b3 : (((0 : Int32) ≤ a1 ∧ a1 ≤ 2)) → (((5 : Int32) ≤ a2 ∧ a2 ≤ 80)) → (((0 : Int32) ≤ a3 ∧ a3 ≤ 3)) → (((100 : Int32) ≤ a4 ∧ a4 ≤ 9999)) → (s1_4 < 8) → 0 ≤ s1_4 ∧ s1_4 < 8) (b4 : (((0 : Int32) ≤ a1 ∧ a1 ≤ 2)) → (((5 : Int32) ≤ a2 ∧ a2 ≤ 80)) → (((0 : Int32) ≤ a3 ∧ a3 ≤ 3)) → (((100 : Int32) ≤ a4 ∧ a4 ≤ 9999)) → (s1_4 < 8) → 0 ≤ s1_4 ∧ s1_4 < 8) (l1 : (((0 : Int32) ≤ a1 ∧ a1 ≤ 2)) → (((5 : Int32) ≤ a2 ∧ a2 ≤ 80)) → (((0 : Int32) ≤ a3 ∧ a3 ≤ 3)) → (((100 : Int32) ≤ a4 ∧ a4 ≤ 9999)) → (s1_4 < 8) → Q (some (.int ((s1_4 + 1) - 1))) (zwI (zwI (zwI (zwI (zwI (I, J, zR, 81) 2 (s1_4 : Int32).toNatClampNeg a1) 3 (s1_4 : Int32).toNatClampNeg a2) 4 (s1_4 : Int32).toNatClampNeg a3) 5 (s1_4 : Int32).toNatClampNeg a4) 1 4 (s1_4 + 1))) (l2 : (((0 : Int32) ≤ a1 ∧ a1 ≤ 2)) → (((5 : Int32) ≤ a2 ∧ a2 ≤ 80)) → (((0 : Int32) ≤ a3 ∧ a3 ≤ 3)) → (((100 : Int32) ≤ a4 ∧ a4 ≤ 9999)) → (¬ (s1_4 < 8)) → Q (some (.int (-4))) (I, J, zR, 81)) (l3 : (((0 : Int32) ≤ a1 ∧ a1 ≤ 2)) → (((5 : Int32) ≤ a2 ∧ a2 ≤ 80)) → (((0 : Int32) ≤ a3 ∧ a3 ≤ 3)) → (¬ (((100 : Int32) ≤ a4 ∧ a4 ≤ 9999))) → Q (some (.int (-2))) (I, J, zR, 81)) (l4 : (((0 : Int32) ≤ a1 ∧ a1 ≤ 2)) → (((5 : Int32) ≤ a2 ∧ a2 ≤ 80)) → (¬ (((0 : Int32) ≤ a3 ∧ a3 ≤ 3))) → Q (some (.int (-2))) (I, J, zR, 81)) (l5 : (((0 : Int32) ≤ a1 ∧ a1 ≤ 2)) → (¬ (((5 : Int32) ≤ a2 ∧ a2 ≤ 80))) → Q (some (.int (-2))) (I, J, zR, 81)) (l6 : (¬ (((0 : Int32) ≤ a1 ∧ a1 ≤ 2))) → Q (some (.int (-2))) (I, J, zR, 81)) : zT (d + 2) 53 81 [.ref 0, .int a1, .int a2, .int a3, .int a4] (I, J, zR, 81) Q := by
  subst e1_4
  refine ⟨rfl, fun E At hE hC => ?_⟩
  replace hC : ∀ pc st L M', zX 81 E Q At (zlk B_X9_profile pc) st L M' → At pc st L M' := hC
  refine hC 0 [] [some (.ref 0), some (.int a1), some (.int a2), some (.int a3), some (.int a4)] _ ?_
  refine hE _ _ _ _ _ (w_within _ _ _ _ (0) (2) _   (fun q1 => ?_) (fun q2 => ?_))
  · skip
    refine And.intro (fun qz => absurd qz (by decide)) (fun _ => ?_)
    refine hE _ _ _ _ _ (w_within _ _ _ _ (5) (80) _   (fun q3 => ?_) (fun q4 => ?_))
    · skip
      refine And.intro (fun _ => ?_) (fun qz => absurd qz (by decide))
      refine hC 22 [] [some (.ref 0), some (.int a1), some (.int a2), some (.int a3), some (.int a4)] _ ?_
      refine hE _ _ _ _ _ (w_within _ _ _ _ (0) (3) _   (fun q5 => ?_) (fun q6 => ?_))
      · skip
        refine And.intro (fun qz => absurd qz (by decide)) (fun _ => ?_)
        refine hE _ _ _ _ _ (w_within _ _ _ _ (100) (9999) _   (fun q7 => ?_) (fun q8 => ?_))
        · skip
          refine And.intro (fun _ => ?_) (fun qz => absurd qz (by decide))
          refine hC 47 [] [some (.ref 0), some (.int a1), some (.int a2), some (.int a3), some (.int a4)] _ ?_
          refine hE _ _ _ _ _ (w_X6_add _ _ _ _ _ _ _ _ rfl (fun x0 => b1 q1 q3 q5 q7 x0) (fun x0 => b2 q1 q3 q5 q7 x0) (fun x0 => b3 q1 q3 q5 q7 x0) (fun x0 => b4 q1 q3 q5 q7 x0) (fun q9 => ?_) (fun q10 => ?_))
          · skip
            exact l1 q1 q3 q5 q7 q9
          · skip
            exact l2 q1 q3 q5 q7 q10
        · skip
          refine And.intro (fun qz => absurd qz (by decide)) (fun _ => ?_)
          refine hC 44 [] [some (.ref 0), some (.int a1), some (.int a2), some (.int a3), some (.int a4)] _ ?_
          exact l3 q1 q3 q5 q8
      · skip
        refine And.intro (fun _ => ?_) (fun qz => absurd qz (by decide))
        refine hC 44 [] [some (.ref 0), some (.int a1), some (.int a2), some (.int a3), some (.int a4)] _ ?_
        exact l4 q1 q3 q6
    · skip
      refine And.intro (fun qz => absurd qz (by decide)) (fun _ => ?_)
      refine hC 19 [] [some (.ref 0), some (.int a1), some (.int a2), some (.int a3), some (.int a4)] _ ?_
      exact l5 q1 q4
  · skip
    refine And.intro (fun _ => ?_) (fun qz => absurd qz (by decide))
    refine hC 19 [] [some (.ref 0), some (.int a1), some (.int a2), some (.int a3), some (.int a4)] _ ?_
    exact l6 q2
theorem w_X9_die (d : Nat) (I : Nat → Nat → Int32) (J : Nat → Nat → Int64) (a1 : Int32) (a2 : Int32) (Q : Option Value → zM → Prop) {s1_4 : Int32} (e1_4 : I 1 4 = s1_4) {s10_5 : Int32} (e10_5 : I 10 5 = s10_5) (b1 : (((0 : Int32) ≤ a1 ∧ a1 < s1_4)) → (((1 : Int32) ≤ a2 ∧ a2 ≤ 50)) → (s10_5 < 12) → 0 ≤ s10_5 ∧ s10_5 < 12) (b2 : (((0 : Int32) ≤ a1 ∧ a1 < s1_4)) → (((1 : Int32) ≤ a2 ∧ a2 ≤ 50)) → (s10_5 < 12) → 0 ≤ s10_5 ∧ s10_5 < 12) (b3 : (((0 : Int32) ≤ a1 ∧ a1 < s1_4)) → (((1 : Int32) ≤ a2 ∧ a2 ≤ 50)) → (s10_5 < 12) → 0 ≤ s10_5 ∧ s10_5 < 12) (l1 : (((0 : Int32) ≤ a1 ∧ a1 < s1_4)) → (((1 : Int32) ≤ a2 ∧ a2 ≤ 50)) → (s10_5 < 12) → Q (some (.int ((s10_5 + 1) - 1))) (zwI (zwI (zwI (zwI (I, J, zR, 81) 11 (s10_5 : Int32).toNatClampNeg a1) 12 (s10_5 : Int32).toNatClampNeg a2) 15 (s10_5 : Int32).toNatClampNeg (-1)) 10 5 (s10_5 + 1))) (l2 : (((0 : Int32) ≤ a1 ∧ a1 < s1_4)) → (((1 : Int32) ≤ a2 ∧ a2 ≤ 50)) → (¬ (s10_5 < 12)) → Q (some (.int (-4))) (I, J, zR, 81)) (l3 : (((0 : Int32) ≤ a1 ∧ a1 < s1_4)) → (¬ (((1 : Int32) ≤ a2 ∧ a2 ≤ 50))) → Q (some (.int (-2))) (I, J, zR, 81)) (l4 : (¬ (((0 : Int32) ≤ a1 ∧ a1 < s1_4))) → Q (some (.int (-2))) (I, J, zR, 81)) : zT (d + 2) 54 81 [.ref 0, .int a1, .int a2] (I, J, zR, 81) Q := by
  subst e1_4 e10_5
  refine ⟨rfl, fun E At hE hC => ?_⟩
  replace hC : ∀ pc st L M', zX 81 E Q At (zlk B_X9_die pc) st L M' → At pc st L M' := hC
  refine hC 0 [] [some (.ref 0), some (.int a1), some (.int a2)] _ ?_
  refine hE _ _ _ _ _ (w_X6_has _ _ _ _ _ rfl  (fun q1 => ?_) (fun q2 => ?_))
  · skip
    refine And.intro (fun qz => absurd qz (by decide)) (fun _ => ?_)
    refine hE _ _ _ _ _ (w_within _ _ _ _ (1) (50) _   (fun q3 => ?_) (fun q4 => ?_))
    · skip
      refine And.intro (fun _ => ?_) (fun qz => absurd qz (by decide))
      refine hC 24 [] [some (.ref 0), some (.int a1), some (.int a2)] _ ?_
      refine hE _ _ _ _ _ (w_X2_add _ _ _ _ _ _ rfl (fun x0 => b1 q1 q3 x0) (fun x0 => b2 q1 q3 x0) (fun x0 => b3 q1 q3 x0) (fun q5 => ?_) (fun q6 => ?_))
      · skip
        exact l1 q1 q3 q5
      · skip
        exact l2 q1 q3 q6
    · skip
      refine And.intro (fun qz => absurd qz (by decide)) (fun _ => ?_)
      refine hC 21 [] [some (.ref 0), some (.int a1), some (.int a2)] _ ?_
      exact l3 q1 q4
  · skip
    refine And.intro (fun _ => ?_) (fun qz => absurd qz (by decide))
    refine hC 21 [] [some (.ref 0), some (.int a1), some (.int a2)] _ ?_
    exact l4 q2
theorem w_X9_warm (d : Nat) (I : Nat → Nat → Int32) (J : Nat → Nat → Int64) (a1 : Int32) (Q : Option Value → zM → Prop) {f15 : Nat → Int32} (e15 : I 15 = f15) {s0_11 : Int32} (e0_11 : I 0 11 = s0_11) {s10_5 : Int32} (e10_5 : I 10 5 = s10_5) (b1 : (((0 : Int32) ≤ a1 ∧ a1 < s10_5)) → 0 ≤ a1 ∧ a1 < 12) (b2 : (((0 : Int32) ≤ a1 ∧ a1 < s10_5)) → ((f15 (a1 : Int32).toNatClampNeg) = (-1)) → 0 ≤ a1 ∧ a1 < 12) (l1 : (((0 : Int32) ≤ a1 ∧ a1 < s10_5)) → ((f15 (a1 : Int32).toNatClampNeg) = (-1)) → Q (some (.int 1)) (zwI (I, J, zR, 81) 15 (a1 : Int32).toNatClampNeg s0_11)) (l2 : (((0 : Int32) ≤ a1 ∧ a1 < s10_5)) → (¬ ((f15 (a1 : Int32).toNatClampNeg) = (-1))) → Q (some (.int (-3))) (I, J, zR, 81)) (l3 : (¬ (((0 : Int32) ≤ a1 ∧ a1 < s10_5))) → Q (some (.int (-2))) (I, J, zR, 81)) : zT (d + 2) 55 81 [.ref 0, .int a1] (I, J, zR, 81) Q := by
  subst e15 e0_11 e10_5
  refine ⟨rfl, fun E At hE hC => ?_⟩
  replace hC : ∀ pc st L M', zX 81 E Q At (zlk B_X9_warm pc) st L M' → At pc st L M' := hC
  refine hC 0 [] [some (.ref 0), some (.int a1)] _ ?_
  refine hE _ _ _ _ _ (w_X2_has _ _ _ _ _ rfl  (fun q1 => ?_) (fun q2 => ?_))
  · skip
    refine And.intro (fun _ => ?_) (fun qz => absurd qz (by decide))
    refine hC 14 [] [some (.ref 0), some (.int a1)] _ ?_
    refine hE _ _ _ _ _ (w_X2_isWarm _ _ _ _ _ rfl (b1 q1) (fun q3 => ?_) (fun q4 => ?_))
    · skip
      refine And.intro (fun _ => ?_) (fun qz => absurd qz (by decide))
      refine hC 28 [] [some (.ref 0), some (.int a1)] _ ?_
      refine And.intro (zvp (b2 q1 q3) rfl) ?_
      exact l1 q1 q3
    · skip
      refine And.intro (fun qz => absurd qz (by decide)) (fun _ => ?_)
      exact l2 q1 q4
  · skip
    refine And.intro (fun qz => absurd qz (by decide)) (fun _ => ?_)
    exact l3 q2
theorem w_X9_cool (d : Nat) (I : Nat → Nat → Int32) (J : Nat → Nat → Int64) (a1 : Int32) (Q : Option Value → zM → Prop) {f15 : Nat → Int32} (e15 : I 15 = f15) {s0_11 : Int32} (e0_11 : I 0 11 = s0_11) {s10_5 : Int32} (e10_5 : I 10 5 = s10_5) (b1 : (((0 : Int32) ≤ a1 ∧ a1 < s10_5)) → 0 ≤ a1 ∧ a1 < 12) (b2 : (((0 : Int32) ≤ a1 ∧ a1 < s10_5)) → (¬ ((f15 (a1 : Int32).toNatClampNeg) = (-1))) → 0 ≤ a1 ∧ a1 < 12) (b3 : (((0 : Int32) ≤ a1 ∧ a1 < s10_5)) → (¬ ((f15 (a1 : Int32).toNatClampNeg) = (-1))) → (¬ ((f15 (a1 : Int32).toNatClampNeg) = (-1))) → 0 ≤ a1 ∧ a1 < 12) (b4 : (((0 : Int32) ≤ a1 ∧ a1 < s10_5)) → (¬ ((f15 (a1 : Int32).toNatClampNeg) = (-1))) → ((f15 (a1 : Int32).toNatClampNeg) = (-1)) → 0 ≤ a1 ∧ a1 < 12) (b5 : (((0 : Int32) ≤ a1 ∧ a1 < s10_5)) → (¬ ((f15 (a1 : Int32).toNatClampNeg) = (-1))) → (¬ ((f15 (a1 : Int32).toNatClampNeg) = (-1))) → 0 ≤ a1 ∧ a1 < 12) (l1 : (((0 : Int32) ≤ a1 ∧ a1 < s10_5)) → ((f15 (a1 : Int32).toNatClampNeg) = (-1)) → Q (some (.int (-3))) (I, J, zR, 81)) (l2 : (((0 : Int32) ≤ a1 ∧ a1 < s10_5)) → (¬ ((f15 (a1 : Int32).toNatClampNeg) = (-1))) → ((f15 (a1 : Int32).toNatClampNeg) = (-1)) → Q (some (.int (-1))) (zwI (I, J, zR, 81) 15 (a1 : Int32).toNatClampNeg (-1))) (l3 : (((0 : Int32) ≤ a1 ∧ a1 < s10_5)) → (¬ ((f15 (a1 : Int32).toNatClampNeg) = (-1))) → (¬ ((f15 (a1 : Int32).toNatClampNeg) = (-1))) → Q (some (.int (s0_11 - (f15 (a1 : Int32).toNatClampNeg)))) (zwI (I, J, zR, 81) 15 (a1 : Int32).toNatClampNeg (-1))) (l4 : (¬ (((0 : Int32) ≤ a1 ∧ a1 < s10_5))) → Q (some (.int (-2))) (I, J, zR, 81)) : zT (d + 3) 56 81 [.ref 0, .int a1] (I, J, zR, 81) Q := by
  subst e15 e0_11 e10_5
  refine ⟨rfl, fun E At hE hC => ?_⟩
  replace hC : ∀ pc st L M', zX 81 E Q At (zlk B_X9_cool pc) st L M' → At pc st L M' := hC
  refine hC 0 [] [some (.ref 0), some (.int a1), none] _ ?_
  refine hE _ _ _ _ _ (w_X2_has _ _ _ _ _ rfl  (fun q1 => ?_) (fun q2 => ?_))
  · skip
    refine And.intro (fun _ => ?_) (fun qz => absurd qz (by decide))
    refine hC 14 [] [some (.ref 0), some (.int a1), none] _ ?_
    refine hE _ _ _ _ _ (w_X2_isWarm _ _ _ _ _ rfl (b1 q1) (fun q3 => ?_) (fun q4 => ?_))
    · skip
      refine And.intro (fun qz => absurd qz (by decide)) (fun _ => ?_)
      exact l1 q1 q3
    · skip
      refine And.intro (fun _ => ?_) (fun qz => absurd qz (by decide))
      refine hC 28 [] [some (.ref 0), some (.int a1), none] _ ?_
      refine hE _ _ _ _ _ (w_X2_ticksWarm _ _ _ _ _ _ rfl (b2 q1 q4) (fun x0 => b3 q1 q4 x0) (fun q5 => ?_) (fun q6 => ?_))
      · skip
        refine And.intro (zvp (b4 q1 q4 q5) rfl) ?_
        exact l2 q1 q4 q5
      · skip
        refine And.intro (zvp (b5 q1 q4 q6) rfl) ?_
        exact l3 q1 q4 q6
  · skip
    refine And.intro (fun qz => absurd qz (by decide)) (fun _ => ?_)
    exact l4 q2
theorem w_X9_nitride (d : Nat) (I : Nat → Nat → Int32) (J : Nat → Nat → Int64) (a1 : Int32) (Q : Option Value → zM → Prop) {f13 : Nat → Int32} (e13 : I 13 = f13) {f15 : Nat → Int32} (e15 : I 15 = f15) {s10_5 : Int32} (e10_5 : I 10 5 = s10_5) (b1 : (((0 : Int32) ≤ a1 ∧ a1 < s10_5)) → 0 ≤ a1 ∧ a1 < 12) (b2 : (((0 : Int32) ≤ a1 ∧ a1 < s10_5)) → ((f15 (a1 : Int32).toNatClampNeg) = (-1)) → 0 ≤ a1 ∧ a1 < 12) (b3 : (((0 : Int32) ≤ a1 ∧ a1 < s10_5)) → ((f15 (a1 : Int32).toNatClampNeg) = (-1)) → 0 ≤ a1 ∧ a1 < 12) (l1 : (((0 : Int32) ≤ a1 ∧ a1 < s10_5)) → ((f15 (a1 : Int32).toNatClampNeg) = (-1)) → Q (some (.int (f13 (a1 : Int32).toNatClampNeg))) (zwI (I, J, zR, 81) 13 (a1 : Int32).toNatClampNeg 0)) (l2 : (((0 : Int32) ≤ a1 ∧ a1 < s10_5)) → (¬ ((f15 (a1 : Int32).toNatClampNeg) = (-1))) → Q (some (.int (-3))) (I, J, zR, 81)) (l3 : (¬ (((0 : Int32) ≤ a1 ∧ a1 < s10_5))) → Q (some (.int (-2))) (I, J, zR, 81)) : zT (d + 2) 57 81 [.ref 0, .int a1] (I, J, zR, 81) Q := by
  subst e13 e15 e10_5
  refine ⟨rfl, fun E At hE hC => ?_⟩
  replace hC : ∀ pc st L M', zX 81 E Q At (zlk B_X9_nitride pc) st L M' → At pc st L M' := hC
  refine hC 0 [] [some (.ref 0), some (.int a1), none] _ ?_
  refine hE _ _ _ _ _ (w_X2_has _ _ _ _ _ rfl  (fun q1 => ?_) (fun q2 => ?_))
  · skip
    refine And.intro (fun _ => ?_) (fun qz => absurd qz (by decide))
    refine hC 14 [] [some (.ref 0), some (.int a1), none] _ ?_
    refine hE _ _ _ _ _ (w_X2_isWarm _ _ _ _ _ rfl (b1 q1) (fun q3 => ?_) (fun q4 => ?_))
    · skip
      refine And.intro (fun _ => ?_) (fun qz => absurd qz (by decide))
      refine hC 28 [] [some (.ref 0), some (.int a1), none] _ ?_
      refine And.intro (zvp (b2 q1 q3) rfl) ?_
      refine And.intro (zvp (b3 q1 q3) rfl) ?_
      exact l1 q1 q3
    · skip
      refine And.intro (fun qz => absurd qz (by decide)) (fun _ => ?_)
      exact l2 q1 q4
  · skip
    refine And.intro (fun qz => absurd qz (by decide)) (fun _ => ?_)
    exact l3 q2
theorem w_X9_about (d : Nat) (I : Nat → Nat → Int32) (J : Nat → Nat → Int64) (a1 : Int32) (a2 : Int32) (Q : Option Value → zM → Prop) {f11 : Nat → Int32} (e11 : I 11 = f11) {f12 : Nat → Int32} (e12 : I 12 = f12) {f13 : Nat → Int32} (e13 : I 13 = f13) {f14 : Nat → Int32} (e14 : I 14 = f14) {f15 : Nat → Int32} (e15 : I 15 = f15) {s0_11 : Int32} (e0_11 : I 0 11 = s0_11) {s10_5 : Int32} (e10_5 : I 10 5 = s10_5) (b1 : (((0 : Int32) ≤ a1 ∧ a1 < s10_5)) → ((a2 : Int32).toInt = 0) → 0 ≤ a1 ∧ a1 < 12) (b2 : (((0 : Int32) ≤ a1 ∧ a1 < s10_5)) → ((a2 : Int32).toInt = 1) → 0 ≤ a1 ∧ a1 < 12) (b3 : (((0 : Int32) ≤ a1 ∧ a1 < s10_5)) → ((a2 : Int32).toInt = 2) → 0 ≤ a1 ∧ a1 < 12) (b4 : (((0 : Int32) ≤ a1 ∧ a1 < s10_5)) → ((a2 : Int32).toInt = 3) → 0 ≤ a1 ∧ a1 < 12) (b5 : (((0 : Int32) ≤ a1 ∧ a1 < s10_5)) → ((a2 : Int32).toInt = 3) → (¬ ((f15 (a1 : Int32).toNatClampNeg) = (-1))) → 0 ≤ a1 ∧ a1 < 12) (b6 : (((0 : Int32) ≤ a1 ∧ a1 < s10_5)) → ((a2 : Int32).toInt = 4) → 0 ≤ a1 ∧ a1 < 12) (b7 : (((0 : Int32) ≤ a1 ∧ a1 < s10_5)) → ((a2 : Int32).toInt = 4) → (¬ ((f15 (a1 : Int32).toNatClampNeg) = (-1))) → 0 ≤ a1 ∧ a1 < 12) (b8 : (((0 : Int32) ≤ a1 ∧ a1 < s10_5)) → ((a2 : Int32).toInt = 4) → (¬ ((f15 (a1 : Int32).toNatClampNeg) = (-1))) → (((3 : Int32) ≤ (s0_11 - (f15 (a1 : Int32).toNatClampNeg)) ∧ (s0_11 - (f15 (a1 : Int32).toNatClampNeg)) ≤ 12)) → 0 ≤ a1 ∧ a1 < 12) (b9 : (((0 : Int32) ≤ a1 ∧ a1 < s10_5)) → ((a2 : Int32).toInt = 4) → (¬ ((f15 (a1 : Int32).toNatClampNeg) = (-1))) → (((3 : Int32) ≤ (s0_11 - (f15 (a1 : Int32).toNatClampNeg)) ∧ (s0_11 - (f15 (a1 : Int32).toNatClampNeg)) ≤ 12)) → 0 ≤ a1 ∧ a1 < 12) (b10 : (((0 : Int32) ≤ a1 ∧ a1 < s10_5)) → ((a2 : Int32).toInt = 5) → 0 ≤ a1 ∧ a1 < 12) (l1 : (((0 : Int32) ≤ a1 ∧ a1 < s10_5)) → ((a2 : Int32).toInt < 0 ∨ (6 : Int) ≤ (a2 : Int32).toInt) → Q (some (.int (-2))) (I, J, zR, 81)) (l2 : (((0 : Int32) ≤ a1 ∧ a1 < s10_5)) → ((a2 : Int32).toInt = 0) → Q (some (.int (f11 (a1 : Int32).toNatClampNeg))) (I, J, zR, 81)) (l3 : (((0 : Int32) ≤ a1 ∧ a1 < s10_5)) → ((a2 : Int32).toInt = 1) → Q (some (.int (f12 (a1 : Int32).toNatClampNeg))) (I, J, zR, 81)) (l4 : (((0 : Int32) ≤ a1 ∧ a1 < s10_5)) → ((a2 : Int32).toInt = 2) → Q (some (.int (f13 (a1 : Int32).toNatClampNeg))) (I, J, zR, 81)) (l5 : (((0 : Int32) ≤ a1 ∧ a1 < s10_5)) → ((a2 : Int32).toInt = 3) → ((f15 (a1 : Int32).toNatClampNeg) = (-1)) → Q (some (.int (-1))) (I, J, zR, 81)) (l6 : (((0 : Int32) ≤ a1 ∧ a1 < s10_5)) → ((a2 : Int32).toInt = 3) → (¬ ((f15 (a1 : Int32).toNatClampNeg) = (-1))) → Q (some (.int (s0_11 - (f15 (a1 : Int32).toNatClampNeg)))) (I, J, zR, 81)) (l7 : (((0 : Int32) ≤ a1 ∧ a1 < s10_5)) → ((a2 : Int32).toInt = 4) → ((f15 (a1 : Int32).toNatClampNeg) = (-1)) → Q (some (.int 0)) (I, J, zR, 81)) (l8 : (((0 : Int32) ≤ a1 ∧ a1 < s10_5)) → ((a2 : Int32).toInt = 4) → (¬ ((f15 (a1 : Int32).toNatClampNeg) = (-1))) → (((3 : Int32) ≤ (s0_11 - (f15 (a1 : Int32).toNatClampNeg)) ∧ (s0_11 - (f15 (a1 : Int32).toNatClampNeg)) ≤ 12)) → ((f12 (a1 : Int32).toNatClampNeg) ≤ (f13 (a1 : Int32).toNatClampNeg)) → Q (some (.int 0)) (I, J, zR, 81)) (l9 : (((0 : Int32) ≤ a1 ∧ a1 < s10_5)) → ((a2 : Int32).toInt = 4) → (¬ ((f15 (a1 : Int32).toNatClampNeg) = (-1))) → (((3 : Int32) ≤ (s0_11 - (f15 (a1 : Int32).toNatClampNeg)) ∧ (s0_11 - (f15 (a1 : Int32).toNatClampNeg)) ≤ 12)) → (¬ ((f12 (a1 : Int32).toNatClampNeg) ≤ (f13 (a1 : Int32).toNatClampNeg))) → Q (some (.int 1)) (I, J, zR, 81)) (l10 : (((0 : Int32) ≤ a1 ∧ a1 < s10_5)) → ((a2 : Int32).toInt = 4) → (¬ ((f15 (a1 : Int32).toNatClampNeg) = (-1))) → (¬ (((3 : Int32) ≤ (s0_11 - (f15 (a1 : Int32).toNatClampNeg)) ∧ (s0_11 - (f15 (a1 : Int32).toNatClampNeg)) ≤ 12))) → Q (some (.int 0)) (I, J, zR, 81)) (l11 : (((0 : Int32) ≤ a1 ∧ a1 < s10_5)) → ((a2 : Int32).toInt = 5) → Q (some (.int (f14 (a1 : Int32).toNatClampNeg))) (I, J, zR, 81)) (l12 : (¬ (((0 : Int32) ≤ a1 ∧ a1 < s10_5))) → Q (some (.int (-2))) (I, J, zR, 81)) : zT (d + 4) 58 81 [.ref 0, .int a1, .int a2] (I, J, zR, 81) Q := by
  subst e11 e12 e13 e14 e15 e0_11 e10_5
  refine ⟨rfl, fun E At hE hC => ?_⟩
  replace hC : ∀ pc st L M', zX 81 E Q At (zlk B_X9_about pc) st L M' → At pc st L M' := hC
  refine hC 0 [] [some (.ref 0), some (.int a1), some (.int a2)] _ ?_
  refine hE _ _ _ _ _ (w_X2_has _ _ _ _ _ rfl  (fun q1 => ?_) (fun q2 => ?_))
  · skip
    refine And.intro (fun _ => ?_) (fun qz => absurd qz (by decide))
    refine hC 14 [] [some (.ref 0), some (.int a1), some (.int a2)] _ ?_
    refine And.intro (fun q3 => ?_) (And.intro (fun q3 => ?_) (And.intro (fun q3 => ?_) (And.intro (fun q3 => ?_) (And.intro (fun q3 => ?_) (And.intro (fun q3 => ?_) (And.intro (fun q3 => ?_) (trivial)))))))
    · skip
      refine hC 126 [] [some (.ref 0), some (.int a1), some (.int a2)] _ ?_
      exact l1 q1 q3
    · skip
      refine hC 52 [] [some (.ref 0), some (.int a1), some (.int a2)] _ ?_
      refine And.intro (zvp (b1 q1 q3) rfl) ?_
      exact l2 q1 q3
    · skip
      refine hC 62 [] [some (.ref 0), some (.int a1), some (.int a2)] _ ?_
      refine And.intro (zvp (b2 q1 q3) rfl) ?_
      exact l3 q1 q3
    · skip
      refine hC 72 [] [some (.ref 0), some (.int a1), some (.int a2)] _ ?_
      refine And.intro (zvp (b3 q1 q3) rfl) ?_
      exact l4 q1 q3
    · skip
      refine hC 82 [] [some (.ref 0), some (.int a1), some (.int a2)] _ ?_
      refine hE _ _ _ _ _ (w_X2_ticksWarm _ _ _ _ _ _ rfl (b4 q1 q3) (fun x0 => b5 q1 q3 x0) (fun q4 => ?_) (fun q5 => ?_))
      · skip
        exact l5 q1 q3 q4
      · skip
        exact l6 q1 q3 q5
    · skip
      refine hC 95 [] [some (.ref 0), some (.int a1), some (.int a2)] _ ?_
      refine hE _ _ _ _ _ (w_X2_mayPress _ _ _ _ _ _ rfl rfl rfl (b6 q1 q3) (fun x0 => b7 q1 q3 x0) (fun x0 x1 => b8 q1 q3 x0 x1) (fun x0 x1 => b9 q1 q3 x0 x1) (fun q6 => ?_) (fun q7 q8 q9 => ?_) (fun q10 q11 q12 => ?_) (fun q13 q14 => ?_))
      · skip
        refine And.intro (fun _ => ?_) (fun qz => absurd qz (by decide))
        refine hC 114 [] [some (.ref 0), some (.int a1), some (.int a2)] _ ?_
        refine hC 115 [.int 0] [some (.ref 0), some (.int a1), some (.int a2)] _ ?_
        exact l7 q1 q3 q6
      · skip
        refine And.intro (fun _ => ?_) (fun qz => absurd qz (by decide))
        refine hC 114 [] [some (.ref 0), some (.int a1), some (.int a2)] _ ?_
        refine hC 115 [.int 0] [some (.ref 0), some (.int a1), some (.int a2)] _ ?_
        exact l8 q1 q3 q7 q8 q9
      · skip
        refine And.intro (fun qz => absurd qz (by decide)) (fun _ => ?_)
        refine hC 115 [.int 1] [some (.ref 0), some (.int a1), some (.int a2)] _ ?_
        exact l9 q1 q3 q10 q11 q12
      · skip
        refine And.intro (fun _ => ?_) (fun qz => absurd qz (by decide))
        refine hC 114 [] [some (.ref 0), some (.int a1), some (.int a2)] _ ?_
        refine hC 115 [.int 0] [some (.ref 0), some (.int a1), some (.int a2)] _ ?_
        exact l10 q1 q3 q13 q14
    · skip
      refine hC 116 [] [some (.ref 0), some (.int a1), some (.int a2)] _ ?_
      refine And.intro (zvp (b10 q1 q3) rfl) ?_
      exact l11 q1 q3
  · skip
    refine And.intro (fun qz => absurd qz (by decide)) (fun _ => ?_)
    exact l12 q2
theorem w_X9_pass (d : Nat) (I : Nat → Nat → Int32) (J : Nat → Nat → Int64) (a1 : Int32) (Q : Option Value → zM → Prop) {s0_11 : Int32} (e0_11 : I 0 11 = s0_11) (l1 : (((1 : Int32) ≤ a1 ∧ a1 ≤ 100)) → Q (some (.int (s0_11 + a1))) (zwI (I, J, zR, 81) 0 11 (s0_11 + a1))) (l2 : (¬ (((1 : Int32) ≤ a1 ∧ a1 ≤ 100))) → Q (some (.int (-2))) (I, J, zR, 81)) : zT (d + 2) 60 81 [.ref 0, .int a1] (I, J, zR, 81) Q := by
  subst e0_11
  refine ⟨rfl, fun E At hE hC => ?_⟩
  replace hC : ∀ pc st L M', zX 81 E Q At (zlk B_X9_pass pc) st L M' → At pc st L M' := hC
  refine hC 0 [] [some (.ref 0), some (.int a1)] _ ?_
  refine hE _ _ _ _ _ (w_within _ _ _ _ (1) (100) _   (fun q1 => ?_) (fun q2 => ?_))
  · skip
    refine And.intro (fun _ => ?_) (fun qz => absurd qz (by decide))
    refine hC 13 [] [some (.ref 0), some (.int a1)] _ ?_
    exact l1 q1
  · skip
    refine And.intro (fun qz => absurd qz (by decide)) (fun _ => ?_)
    exact l2 q2
theorem w_X9_bar (d : Nat) (I : Nat → Nat → Int32) (J : Nat → Nat → Int64) (a1 : Int32) (a2 : Int32) (Q : Option Value → zM → Prop) {f23 : Nat → Int32} (e23 : I 23 = f23) {f24 : Nat → Int32} (e24 : I 24 = f24) {f25 : Nat → Int32} (e25 : I 25 = f25) {f26 : Nat → Int32} (e26 : I 26 = f26) {f27 : Nat → Int32} (e27 : I 27 = f27) {f28 : Nat → Int32} (e28 : I 28 = f28) {f29 : Nat → Int32} (e29 : I 29 = f29) {s22_10 : Int32} (e22_10 : I 22 10 = s22_10) (b1 : (((0 : Int32) ≤ a1 ∧ a1 < s22_10)) → ((a2 : Int32).toInt = 0) → 0 ≤ a1 ∧ a1 < 200) (b2 : (((0 : Int32) ≤ a1 ∧ a1 < s22_10)) → ((a2 : Int32).toInt = 1) → 0 ≤ a1 ∧ a1 < 200) (b3 : (((0 : Int32) ≤ a1 ∧ a1 < s22_10)) → ((a2 : Int32).toInt = 2) → 0 ≤ a1 ∧ a1 < 200) (b4 : (((0 : Int32) ≤ a1 ∧ a1 < s22_10)) → ((a2 : Int32).toInt = 3) → 0 ≤ a1 ∧ a1 < 200) (b5 : (((0 : Int32) ≤ a1 ∧ a1 < s22_10)) → ((a2 : Int32).toInt = 4) → 0 ≤ a1 ∧ a1 < 200) (b6 : (((0 : Int32) ≤ a1 ∧ a1 < s22_10)) → ((a2 : Int32).toInt = 5) → 0 ≤ a1 ∧ a1 < 200) (b7 : (((0 : Int32) ≤ a1 ∧ a1 < s22_10)) → ((a2 : Int32).toInt = 6) → 0 ≤ a1 ∧ a1 < 200) (l1 : (((0 : Int32) ≤ a1 ∧ a1 < s22_10)) → ((a2 : Int32).toInt < 0 ∨ (7 : Int) ≤ (a2 : Int32).toInt) → Q (some (.int (-2))) (I, J, zR, 81)) (l2 : (((0 : Int32) ≤ a1 ∧ a1 < s22_10)) → ((a2 : Int32).toInt = 0) → Q (some (.int (f23 (a1 : Int32).toNatClampNeg))) (I, J, zR, 81)) (l3 : (((0 : Int32) ≤ a1 ∧ a1 < s22_10)) → ((a2 : Int32).toInt = 1) → Q (some (.int (f24 (a1 : Int32).toNatClampNeg))) (I, J, zR, 81)) (l4 : (((0 : Int32) ≤ a1 ∧ a1 < s22_10)) → ((a2 : Int32).toInt = 2) → Q (some (.int (f25 (a1 : Int32).toNatClampNeg))) (I, J, zR, 81)) (l5 : (((0 : Int32) ≤ a1 ∧ a1 < s22_10)) → ((a2 : Int32).toInt = 3) → Q (some (.int (f26 (a1 : Int32).toNatClampNeg))) (I, J, zR, 81)) (l6 : (((0 : Int32) ≤ a1 ∧ a1 < s22_10)) → ((a2 : Int32).toInt = 4) → Q (some (.int (f27 (a1 : Int32).toNatClampNeg))) (I, J, zR, 81)) (l7 : (((0 : Int32) ≤ a1 ∧ a1 < s22_10)) → ((a2 : Int32).toInt = 5) → Q (some (.int (f28 (a1 : Int32).toNatClampNeg))) (I, J, zR, 81)) (l8 : (((0 : Int32) ≤ a1 ∧ a1 < s22_10)) → ((a2 : Int32).toInt = 6) → Q (some (.int (f29 (a1 : Int32).toNatClampNeg))) (I, J, zR, 81)) (l9 : (¬ (((0 : Int32) ≤ a1 ∧ a1 < s22_10))) → Q (some (.int (-2))) (I, J, zR, 81)) : zT (d + 2) 63 81 [.ref 0, .int a1, .int a2] (I, J, zR, 81) Q := by
  subst e23 e24 e25 e26 e27 e28 e29 e22_10
  refine ⟨rfl, fun E At hE hC => ?_⟩
  replace hC : ∀ pc st L M', zX 81 E Q At (zlk B_X9_bar pc) st L M' → At pc st L M' := hC
  refine hC 0 [] [some (.ref 0), some (.int a1), some (.int a2)] _ ?_
  refine hE _ _ _ _ _ (w_X1_has _ _ _ _ _ rfl  (fun q1 => ?_) (fun q2 => ?_))
  · skip
    refine And.intro (fun _ => ?_) (fun qz => absurd qz (by decide))
    refine hC 14 [] [some (.ref 0), some (.int a1), some (.int a2)] _ ?_
    refine And.intro (fun q3 => ?_) (And.intro (fun q3 => ?_) (And.intro (fun q3 => ?_) (And.intro (fun q3 => ?_) (And.intro (fun q3 => ?_) (And.intro (fun q3 => ?_) (And.intro (fun q3 => ?_) (And.intro (fun q3 => ?_) (trivial))))))))
    · skip
      refine hC 126 [] [some (.ref 0), some (.int a1), some (.int a2)] _ ?_
      exact l1 q1 q3
    · skip
      refine hC 56 [] [some (.ref 0), some (.int a1), some (.int a2)] _ ?_
      refine And.intro (zvp (b1 q1 q3) rfl) ?_
      exact l2 q1 q3
    · skip
      refine hC 66 [] [some (.ref 0), some (.int a1), some (.int a2)] _ ?_
      refine And.intro (zvp (b2 q1 q3) rfl) ?_
      exact l3 q1 q3
    · skip
      refine hC 76 [] [some (.ref 0), some (.int a1), some (.int a2)] _ ?_
      refine And.intro (zvp (b3 q1 q3) rfl) ?_
      exact l4 q1 q3
    · skip
      refine hC 86 [] [some (.ref 0), some (.int a1), some (.int a2)] _ ?_
      refine And.intro (zvp (b4 q1 q3) rfl) ?_
      exact l5 q1 q3
    · skip
      refine hC 96 [] [some (.ref 0), some (.int a1), some (.int a2)] _ ?_
      refine And.intro (zvp (b5 q1 q3) rfl) ?_
      exact l6 q1 q3
    · skip
      refine hC 106 [] [some (.ref 0), some (.int a1), some (.int a2)] _ ?_
      refine And.intro (zvp (b6 q1 q3) rfl) ?_
      exact l7 q1 q3
    · skip
      refine hC 116 [] [some (.ref 0), some (.int a1), some (.int a2)] _ ?_
      refine And.intro (zvp (b7 q1 q3) rfl) ?_
      exact l8 q1 q3
  · skip
    refine And.intro (fun qz => absurd qz (by decide)) (fun _ => ?_)
    exact l9 q2
