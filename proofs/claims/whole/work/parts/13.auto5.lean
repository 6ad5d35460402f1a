theorem w_X10_pass (d : Nat) (I : Nat → Nat → Int32) (J : Nat → Nat → Int64) (a1 : Int32) (Q : Option Value → zM → Prop) {s46_12 : Int32} (e46_12 : I 46 12 = s46_12) (l1 : (((1 : Int32) ≤ a1 ∧ a1 ≤ 100)) → Q (some (.int (s46_12 + a1))) (zwI (I, J, zR, 81) 46 12 (s46_12 + a1))) (l2 : (¬ (((1 : Int32) ≤ a1 ∧ a1 ≤ 100))) → Q (some (.int (-2))) (I, J, zR, 81)) : zT (d + 2) 105 81 [.ref 46, .int a1] (I, J, zR, 81) Q := by
  subst e46_12
  refine ⟨rfl, fun E At hE hC => ?_⟩
  replace hC : ∀ pc st L M', zX 81 E Q At (zlk B_X10_pass pc) st L M' → At pc st L M' := hC
  refine hC 0 [] [some (.ref 46), some (.int a1)] _ ?_
  refine hE _ _ _ _ _ (w_in32 _ _ _ (a1) (1) (100) _   (fun q1 => ?_) (fun q2 => ?_))
  · skip
    refine And.intro (fun _ => ?_) (fun qz => absurd qz (by decide))
    refine hC 15 [] [some (.ref 46), some (.int a1)] _ ?_
    exact l1 q1
  · skip
    refine And.intro (fun qz => absurd qz (by decide)) (fun _ => ?_)
    exact l2 q2
theorem w_X10_law (d : Nat) (I : Nat → Nat → Int32) (J : Nat → Nat → Int64) (a1 : Int32) (a2 : Int32) (Q : Option Value → zM → Prop) {f47 : Nat → Int32} (e47 : I 47 = f47) (b1 : (((0 : Int32) ≤ a1 ∧ a1 ≤ 5)) → (¬ (a1 = 0)) → ((4 : Int32) ≤ a1) → (((0 : Int32) ≤ a2 ∧ a2 ≤ 20)) → 0 ≤ a1 ∧ a1 < 6) (b2 : (((0 : Int32) ≤ a1 ∧ a1 ≤ 5)) → (¬ (a1 = 0)) → ((4 : Int32) ≤ a1) → (((0 : Int32) ≤ a2 ∧ a2 ≤ 20)) → 0 ≤ a1 ∧ a1 < 6) (b3 : (((0 : Int32) ≤ a1 ∧ a1 ≤ 5)) → (¬ (a1 = 0)) → (¬ ((4 : Int32) ≤ a1)) → (((0 : Int32) ≤ a2 ∧ a2 ≤ 5000)) → 0 ≤ a1 ∧ a1 < 6) (b4 : (((0 : Int32) ≤ a1 ∧ a1 ≤ 5)) → (¬ (a1 = 0)) → (¬ ((4 : Int32) ≤ a1)) → (((0 : Int32) ≤ a2 ∧ a2 ≤ 5000)) → 0 ≤ a1 ∧ a1 < 6) (b5 : (((0 : Int32) ≤ a1 ∧ a1 ≤ 5)) → (a1 = 0) → (((0 : Int32) ≤ a2 ∧ a2 ≤ 100)) → 0 ≤ a1 ∧ a1 < 6) (b6 : (((0 : Int32) ≤ a1 ∧ a1 ≤ 5)) → (a1 = 0) → (((0 : Int32) ≤ a2 ∧ a2 ≤ 100)) → 0 ≤ a1 ∧ a1 < 6) (l1 : (((0 : Int32) ≤ a1 ∧ a1 ≤ 5)) → (¬ (a1 = 0)) → ((4 : Int32) ≤ a1) → (((0 : Int32) ≤ a2 ∧ a2 ≤ 20)) → Q (some (.int (f47 (a1 : Int32).toNatClampNeg))) (zwI (I, J, zR, 81) 47 (a1 : Int32).toNatClampNeg a2)) (l2 : (((0 : Int32) ≤ a1 ∧ a1 ≤ 5)) → (¬ (a1 = 0)) → ((4 : Int32) ≤ a1) → (¬ (((0 : Int32) ≤ a2 ∧ a2 ≤ 20))) → Q (some (.int (-2))) (I, J, zR, 81)) (l3 : (((0 : Int32) ≤ a1 ∧ a1 ≤ 5)) → (¬ (a1 = 0)) → (¬ ((4 : Int32) ≤ a1)) → (((0 : Int32) ≤ a2 ∧ a2 ≤ 5000)) → Q (some (.int (f47 (a1 : Int32).toNatClampNeg))) (zwI (I, J, zR, 81) 47 (a1 : Int32).toNatClampNeg a2)) (l4 : (((0 : Int32) ≤ a1 ∧ a1 ≤ 5)) → (¬ (a1 = 0)) → (¬ ((4 : Int32) ≤ a1)) → (¬ (((0 : Int32) ≤ a2 ∧ a2 ≤ 5000))) → Q (some (.int (-2))) (I, J, zR, 81)) (l5 : (((0 : Int32) ≤ a1 ∧ a1 ≤ 5)) → (a1 = 0) → (((0 : Int32) ≤ a2 ∧ a2 ≤ 100)) → Q (some (.int (f47 (a1 : Int32).toNatClampNeg))) (zwI (I, J, zR, 81) 47 (a1 : Int32).toNatClampNeg a2)) (l6 : (((0 : Int32) ≤ a1 ∧ a1 ≤ 5)) → (a1 = 0) → (¬ (((0 : Int32) ≤ a2 ∧ a2 ≤ 100))) → Q (some (.int (-2))) (I, J, zR, 81)) (l7 : (¬ (((0 : Int32) ≤ a1 ∧ a1 ≤ 5))) → Q (some (.int (-2))) (I, J, zR, 81)) : zT (d + 2) 106 81 [.ref 46, .int a1, .int a2] (I, J, zR, 81) Q := by
  subst e47
  refine ⟨rfl, fun E At hE hC => ?_⟩
  replace hC : ∀ pc st L M', zX 81 E Q At (zlk B_X10_law pc) st L M' → At pc st L M' := hC
  refine hC 0 [] [some (.ref 46), some (.int a1), some (.int a2), none] _ ?_
  refine hE _ _ _ _ _ (w_in32 _ _ _ (a1) (0) (5) _   (fun q1 => ?_) (fun q2 => ?_))
  · skip
    refine And.intro (fun qz => absurd qz (by decide)) (fun _ => ?_)
    refine And.intro (fun q3 => ?_) (fun q3 => ?_)
    · skip
      refine hC 25 [.long (0 : Int64), .long (a2 : Int32).toInt64] [some (.ref 46), some (.int a1), some (.int a2), none] _ ?_
      refine And.intro (fun q4 => ?_) (fun q4 => ?_)
      · skip
        refine hC 36 [.long (0 : Int64), .long (a2 : Int32).toInt64] [some (.ref 46), some (.int a1), some (.int a2), none] _ ?_
        refine hC 39 [.long (20 : Int64), .long (0 : Int64), .long (a2 : Int32).toInt64] [some (.ref 46), some (.int a1), some (.int a2), none] _ ?_
        refine hE _ _ _ _ _ (w_in32 _ _ _ (a2) (0) (20) _   (fun q5 => ?_) (fun q6 => ?_))
        · skip
          refine And.intro (fun _ => ?_) (fun qz => absurd qz (by decide))
          refine hC 48 [] [some (.ref 46), some (.int a1), some (.int a2), none] _ ?_
          refine And.intro (zvp (b1 q1 q3 q4 q5) rfl) ?_
          refine And.intro (zvp (b2 q1 q3 q4 q5) rfl) ?_
          exact l1 q1 q3 q4 q5
        · skip
          refine And.intro (fun qz => absurd qz (by decide)) (fun _ => ?_)
          refine hC 45 [] [some (.ref 46), some (.int a1), some (.int a2), none] _ ?_
          exact l2 q1 q3 q4 q6
      · skip
        refine hC 39 [.long (5000 : Int64), .long (0 : Int64), .long (a2 : Int32).toInt64] [some (.ref 46), some (.int a1), some (.int a2), none] _ ?_
        refine hE _ _ _ _ _ (w_in32 _ _ _ (a2) (0) (5000) _   (fun q7 => ?_) (fun q8 => ?_))
        · skip
          refine And.intro (fun _ => ?_) (fun qz => absurd qz (by decide))
          refine hC 48 [] [some (.ref 46), some (.int a1), some (.int a2), none] _ ?_
          refine And.intro (zvp (b3 q1 q3 q4 q7) rfl) ?_
          refine And.intro (zvp (b4 q1 q3 q4 q7) rfl) ?_
          exact l3 q1 q3 q4 q7
        · skip
          refine And.intro (fun qz => absurd qz (by decide)) (fun _ => ?_)
          refine hC 45 [] [some (.ref 46), some (.int a1), some (.int a2), none] _ ?_
          exact l4 q1 q3 q4 q8
    · skip
      refine hC 39 [.long (100 : Int64), .long (0 : Int64), .long (a2 : Int32).toInt64] [some (.ref 46), some (.int a1), some (.int a2), none] _ ?_
      refine hE _ _ _ _ _ (w_in32 _ _ _ (a2) (0) (100) _   (fun q9 => ?_) (fun q10 => ?_))
      · skip
        refine And.intro (fun _ => ?_) (fun qz => absurd qz (by decide))
        refine hC 48 [] [some (.ref 46), some (.int a1), some (.int a2), none] _ ?_
        refine And.intro (zvp (b5 q1 q3 q9) rfl) ?_
        refine And.intro (zvp (b6 q1 q3 q9) rfl) ?_
        exact l5 q1 q3 q9
      · skip
        refine And.intro (fun qz => absurd qz (by decide)) (fun _ => ?_)
        refine hC 45 [] [some (.ref 46), some (.int a1), some (.int a2), none] _ ?_
        exact l6 q1 q3 q10
  · skip
    refine And.intro (fun _ => ?_) (fun qz => absurd qz (by decide))
    refine hC 45 [] [some (.ref 46), some (.int a1), some (.int a2), none] _ ?_
    exact l7 q2
theorem w_X10_most (d : Nat) (I : Nat → Nat → Int32) (J : Nat → Nat → Int64) (a1 : Int32) (a2 : Int32) (Q : Option Value → zM → Prop) {f66 : Nat → Int32} (e66 : I 66 = f66) {f68 : Nat → Int32} (e68 : I 68 = f68) (b1 : 0 ≤ a1 ∧ a1 < 8) (b2 : (a2 < (f66 (a1 : Int32).toNatClampNeg)) → 0 ≤ ((3 * a1) + a2) ∧ ((3 * a1) + a2) < 24) (b3 : (a2 < (f66 (a1 : Int32).toNatClampNeg)) → ((f68 (((3 * a1) + a2) : Int32).toNatClampNeg) ≤ 60) → 0 ≤ ((3 * a1) + a2) ∧ ((3 * a1) + a2) < 24) (l1 : (a2 < (f66 (a1 : Int32).toNatClampNeg)) → ((f68 (((3 * a1) + a2) : Int32).toNatClampNeg) ≤ 60) → Q (some (.int (f68 (((3 * a1) + a2) : Int32).toNatClampNeg))) (I, J, zR, 81)) (l2 : (a2 < (f66 (a1 : Int32).toNatClampNeg)) → (¬ ((f68 (((3 * a1) + a2) : Int32).toNatClampNeg) ≤ 60)) → Q (some (.int 60)) (I, J, zR, 81)) (l3 : (¬ (a2 < (f66 (a1 : Int32).toNatClampNeg))) → Q (some (.int 0)) (I, J, zR, 81)) : zT (d + 1) 107 81 [.ref 46, .int a1, .int a2] (I, J, zR, 81) Q := by
  subst e66 e68
  refine ⟨rfl, fun E At hE hC => ?_⟩
  replace hC : ∀ pc st L M', zX 81 E Q At (zlk B_X10_most pc) st L M' → At pc st L M' := hC
  refine hC 0 [] [some (.ref 46), some (.int a1), some (.int a2)] _ ?_
  refine And.intro (zvp (b1) rfl) ?_
  refine And.intro (fun q1 => ?_) (fun q1 => ?_)
  · skip
    refine hC 12 [] [some (.ref 46), some (.int a1), some (.int a2)] _ ?_
    refine And.intro (zvp (b2 q1) rfl) ?_
    refine And.intro (fun q2 => ?_) (fun q2 => ?_)
    · skip
      refine hC 32 [] [some (.ref 46), some (.int a1), some (.int a2)] _ ?_
      refine And.intro (zvp (b3 q1 q2) rfl) ?_
      refine hC 42 [.int (I 68 (((3 * a1) + a2) : Int32).toNatClampNeg)] [some (.ref 46), some (.int a1), some (.int a2)] _ ?_
      exact l1 q1 q2
    · skip
      refine hC 42 [.int 60] [some (.ref 46), some (.int a1), some (.int a2)] _ ?_
      exact l2 q1 q2
  · skip
    exact l3 q1
theorem w_X10_lengthOf (d : Nat) (I : Nat → Nat → Int32) (J : Nat → Nat → Int64) (a1 : Int32) (a2 : Int32) (Q : Option Value → zM → Prop) {f66 : Nat → Int32} (e66 : I 66 = f66) {f67 : Nat → Int32} (e67 : I 67 = f67) (b1 : 0 ≤ a1 ∧ a1 < 8) (b2 : (¬ ((f66 (a1 : Int32).toNatClampNeg) ≤ a2)) → 0 ≤ ((3 * a1) + a2) ∧ ((3 * a1) + a2) < 24) (l1 : ((f66 (a1 : Int32).toNatClampNeg) ≤ a2) → Q (some (.int 0)) (I, J, zR, 81)) (l2 : (¬ ((f66 (a1 : Int32).toNatClampNeg) ≤ a2)) → Q (some (.int (f67 (((3 * a1) + a2) : Int32).toNatClampNeg))) (I, J, zR, 81)) : zT (d + 1) 109 81 [.ref 46, .int a1, .int a2] (I, J, zR, 81) Q := by
  subst e66 e67
  refine ⟨rfl, fun E At hE hC => ?_⟩
  replace hC : ∀ pc st L M', zX 81 E Q At (zlk B_X10_lengthOf pc) st L M' → At pc st L M' := hC
  refine hC 0 [] [some (.ref 46), some (.int a1), some (.int a2)] _ ?_
  refine And.intro (zvp (b1) rfl) ?_
  refine And.intro (fun q1 => ?_) (fun q1 => ?_)
  · skip
    refine hC 23 [] [some (.ref 46), some (.int a1), some (.int a2)] _ ?_
    refine hC 24 [.int 0] [some (.ref 46), some (.int a1), some (.int a2)] _ ?_
    exact l1 q1
  · skip
    refine And.intro (zvp (b2 q1) rfl) ?_
    refine hC 24 [.int (I 67 (((3 * a1) + a2) : Int32).toNatClampNeg)] [some (.ref 46), some (.int a1), some (.int a2)] _ ?_
    exact l2 q1
theorem w_X10_bar (d : Nat) (I : Nat → Nat → Int32) (J : Nat → Nat → Int64) (a1 : Int32) (a2 : Int32) (Q : Option Value → zM → Prop) {f57 : Nat → Int32} (e57 : I 57 = f57) {f58 : Nat → Int32} (e58 : I 58 = f58) {f59 : Nat → Int32} (e59 : I 59 = f59) {f60 : Nat → Int32} (e60 : I 60 = f60) {f61 : Nat → Int32} (e61 : I 61 = f61) {f62 : Nat → Int32} (e62 : I 62 = f62) {f63 : Nat → Int32} (e63 : I 63 = f63) {s46_13 : Int32} (e46_13 : I 46 13 = s46_13) (b1 : (((0 : Int32) ≤ a1 ∧ a1 ≤ (s46_13 - 1))) → ((a2 : Int32).toInt = 0) → 0 ≤ a1 ∧ a1 < 200) (b2 : (((0 : Int32) ≤ a1 ∧ a1 ≤ (s46_13 - 1))) → ((a2 : Int32).toInt = 1) → 0 ≤ a1 ∧ a1 < 200) (b3 : (((0 : Int32) ≤ a1 ∧ a1 ≤ (s46_13 - 1))) → ((a2 : Int32).toInt = 2) → 0 ≤ a1 ∧ a1 < 200) (b4 : (((0 : Int32) ≤ a1 ∧ a1 ≤ (s46_13 - 1))) → ((a2 : Int32).toInt = 3) → 0 ≤ a1 ∧ a1 < 200) (b5 : (((0 : Int32) ≤ a1 ∧ a1 ≤ (s46_13 - 1))) → ((a2 : Int32).toInt = 4) → 0 ≤ a1 ∧ a1 < 200) (b6 : (((0 : Int32) ≤ a1 ∧ a1 ≤ (s46_13 - 1))) → ((a2 : Int32).toInt = 5) → 0 ≤ a1 ∧ a1 < 200) (b7 : (((0 : Int32) ≤ a1 ∧ a1 ≤ (s46_13 - 1))) → ((a2 : Int32).toInt = 6) → 0 ≤ a1 ∧ a1 < 200) (l1 : (((0 : Int32) ≤ a1 ∧ a1 ≤ (s46_13 - 1))) → ((a2 : Int32).toInt < 0 ∨ (7 : Int) ≤ (a2 : Int32).toInt) → Q (some (.int (-2))) (I, J, zR, 81)) (l2 : (((0 : Int32) ≤ a1 ∧ a1 ≤ (s46_13 - 1))) → ((a2 : Int32).toInt = 0) → Q (some (.int (f57 (a1 : Int32).toNatClampNeg))) (I, J, zR, 81)) (l3 : (((0 : Int32) ≤ a1 ∧ a1 ≤ (s46_13 - 1))) → ((a2 : Int32).toInt = 1) → Q (some (.int (f58 (a1 : Int32).toNatClampNeg))) (I, J, zR, 81)) (l4 : (((0 : Int32) ≤ a1 ∧ a1 ≤ (s46_13 - 1))) → ((a2 : Int32).toInt = 2) → Q (some (.int (f59 (a1 : Int32).toNatClampNeg))) (I, J, zR, 81)) (l5 : (((0 : Int32) ≤ a1 ∧ a1 ≤ (s46_13 - 1))) → ((a2 : Int32).toInt = 3) → Q (some (.int (f60 (a1 : Int32).toNatClampNeg))) (I, J, zR, 81)) (l6 : (((0 : Int32) ≤ a1 ∧ a1 ≤ (s46_13 - 1))) → ((a2 : Int32).toInt = 4) → Q (some (.int (f61 (a1 : Int32).toNatClampNeg))) (I, J, zR, 81)) (l7 : (((0 : Int32) ≤ a1 ∧ a1 ≤ (s46_13 - 1))) → ((a2 : Int32).toInt = 5) → Q (some (.int (f62 (a1 : Int32).toNatClampNeg))) (I, J, zR, 81)) (l8 : (((0 : Int32) ≤ a1 ∧ a1 ≤ (s46_13 - 1))) → ((a2 : Int32).toInt = 6) → Q (some (.int (f63 (a1 : Int32).toNatClampNeg))) (I, J, zR, 81)) (l9 : (¬ (((0 : Int32) ≤ a1 ∧ a1 ≤ (s46_13 - 1)))) → Q (some (.int (-2))) (I, J, zR, 81)) : zT (d + 3) 113 81 [.ref 46, .int a1, .int a2] (I, J, zR, 81) Q := by
  subst e57 e58 e59 e60 e61 e62 e63 e46_13
  refine ⟨rfl, fun E At hE hC => ?_⟩
  replace hC : ∀ pc st L M', zX 81 E Q At (zlk B_X10_bar pc) st L M' → At pc st L M' := hC
  refine hC 0 [] [some (.ref 46), some (.int a1), some (.int a2)] _ ?_
  refine hE _ _ _ _ _ (w_X10_isBar _ _ _ _ _ rfl  (fun q1 => ?_) (fun q2 => ?_))
  · skip
    refine And.intro (fun _ => ?_) (fun qz => absurd qz (by decide))
    refine hC 11 [] [some (.ref 46), some (.int a1), some (.int a2)] _ ?_
    refine And.intro (fun q3 => ?_) (And.intro (fun q3 => ?_) (And.intro (fun q3 => ?_) (And.intro (fun q3 => ?_) (And.intro (fun q3 => ?_) (And.intro (fun q3 => ?_) (And.intro (fun q3 => ?_) (And.intro (fun q3 => ?_) (trivial))))))))
    · skip
      refine hC 105 [] [some (.ref 46), some (.int a1), some (.int a2)] _ ?_
      exact l1 q1 q3
    · skip
      refine hC 56 [] [some (.ref 46), some (.int a1), some (.int a2)] _ ?_
      refine And.intro (zvp (b1 q1 q3) rfl) ?_
      exact l2 q1 q3
    · skip
      refine hC 63 [] [some (.ref 46), some (.int a1), some (.int a2)] _ ?_
      refine And.intro (zvp (b2 q1 q3) rfl) ?_
      exact l3 q1 q3
    · skip
      refine hC 70 [] [some (.ref 46), some (.int a1), some (.int a2)] _ ?_
      refine And.intro (zvp (b3 q1 q3) rfl) ?_
      exact l4 q1 q3
    · skip
      refine hC 77 [] [some (.ref 46), some (.int a1), some (.int a2)] _ ?_
      refine And.intro (zvp (b4 q1 q3) rfl) ?_
      exact l5 q1 q3
    · skip
      refine hC 84 [] [some (.ref 46), some (.int a1), some (.int a2)] _ ?_
      refine And.intro (zvp (b5 q1 q3) rfl) ?_
      exact l6 q1 q3
    · skip
      refine hC 91 [] [some (.ref 46), some (.int a1), some (.int a2)] _ ?_
      refine And.intro (zvp (b6 q1 q3) rfl) ?_
      exact l7 q1 q3
    · skip
      refine hC 98 [] [some (.ref 46), some (.int a1), some (.int a2)] _ ?_
      refine And.intro (zvp (b7 q1 q3) rfl) ?_
      exact l8 q1 q3
  · skip
    refine And.intro (fun qz => absurd qz (by decide)) (fun _ => ?_)
    exact l9 q2
theorem w_X10_order (d : Nat) (I : Nat → Nat → Int32) (J : Nat → Nat → Int64) (a1 : Int32) (a2 : Int32) (a3 : Int32) (Q : Option Value → zM → Prop) {f66 : Nat → Int32} (e66 : I 66 = f66) {s46_1 : Int32} (e46_1 : I 46 1 = s46_1) (b1 : (((0 : Int32) ≤ a1 ∧ a1 ≤ (s46_1 - 1))) → (((100 : Int32) ≤ a2 ∧ a2 ≤ 9000)) → (((0 : Int32) ≤ a3 ∧ a3 ≤ 500)) → 0 ≤ a1 ∧ a1 < 8) (b2 : (((0 : Int32) ≤ a1 ∧ a1 ≤ (s46_1 - 1))) → (((100 : Int32) ≤ a2 ∧ a2 ≤ 9000)) → (((0 : Int32) ≤ a3 ∧ a3 ≤ 500)) → (¬ ((f66 (a1 : Int32).toNatClampNeg) = 3)) → 0 ≤ a1 ∧ a1 < 8) (b3 : (((0 : Int32) ≤ a1 ∧ a1 ≤ (s46_1 - 1))) → (((100 : Int32) ≤ a2 ∧ a2 ≤ 9000)) → (((0 : Int32) ≤ a3 ∧ a3 ≤ 500)) → (¬ ((f66 (a1 : Int32).toNatClampNeg) = 3)) → 0 ≤ ((3 * a1) + (f66 (a1 : Int32).toNatClampNeg)) ∧ ((3 * a1) + (f66 (a1 : Int32).toNatClampNeg)) < 24) (b4 : (((0 : Int32) ≤ a1 ∧ a1 ≤ (s46_1 - 1))) → (((100 : Int32) ≤ a2 ∧ a2 ≤ 9000)) → (((0 : Int32) ≤ a3 ∧ a3 ≤ 500)) → (¬ ((f66 (a1 : Int32).toNatClampNeg) = 3)) → 0 ≤ a1 ∧ a1 < 8) (b5 : (((0 : Int32) ≤ a1 ∧ a1 ≤ (s46_1 - 1))) → (((100 : Int32) ≤ a2 ∧ a2 ≤ 9000)) → (((0 : Int32) ≤ a3 ∧ a3 ≤ 500)) → (¬ ((f66 (a1 : Int32).toNatClampNeg) = 3)) → 0 ≤ ((3 * a1) + (f66 (a1 : Int32).toNatClampNeg)) ∧ ((3 * a1) + (f66 (a1 : Int32).toNatClampNeg)) < 24) (b6 : (((0 : Int32) ≤ a1 ∧ a1 ≤ (s46_1 - 1))) → (((100 : Int32) ≤ a2 ∧ a2 ≤ 9000)) → (((0 : Int32) ≤ a3 ∧ a3 ≤ 500)) → (¬ ((f66 (a1 : Int32).toNatClampNeg) = 3)) → 0 ≤ a1 ∧ a1 < 8) (b7 : (((0 : Int32) ≤ a1 ∧ a1 ≤ (s46_1 - 1))) → (((100 : Int32) ≤ a2 ∧ a2 ≤ 9000)) → (((0 : Int32) ≤ a3 ∧ a3 ≤ 500)) → (¬ ((f66 (a1 : Int32).toNatClampNeg) = 3)) → 0 ≤ a1 ∧ a1 < 8) (b8 : (((0 : Int32) ≤ a1 ∧ a1 ≤ (s46_1 - 1))) → (((100 : Int32) ≤ a2 ∧ a2 ≤ 9000)) → (((0 : Int32) ≤ a3 ∧ a3 ≤ 500)) → (¬ ((f66 (a1 : Int32).toNatClampNeg) = 3)) → 0 ≤ a1 ∧ a1 < 8) (l1 : (((0 : Int32) ≤ a1 ∧ a1 ≤ (s46_1 - 1))) → (((100 : Int32) ≤ a2 ∧ a2 ≤ 9000)) → (((0 : Int32) ≤ a3 ∧ a3 ≤ 500)) → (¬ ((f66 (a1 : Int32).toNatClampNeg) = 3)) → Q (some (.int (((va_up f66 (a1 : Int32).toNatClampNeg ((f66 (a1 : Int32).toNatClampNeg) + 1)) (a1 : Int32).toNatClampNeg) - 1))) (zwI (zwI (zwI (I, J, zR, 81) 67 (((3 * a1) + (f66 (a1 : Int32).toNatClampNeg)) : Int32).toNatClampNeg a2) 68 (((3 * a1) + (f66 (a1 : Int32).toNatClampNeg)) : Int32).toNatClampNeg a3) 66 (a1 : Int32).toNatClampNeg ((f66 (a1 : Int32).toNatClampNeg) + 1))) (l2 : (((0 : Int32) ≤ a1 ∧ a1 ≤ (s46_1 - 1))) → (((100 : Int32) ≤ a2 ∧ a2 ≤ 9000)) → (((0 : Int32) ≤ a3 ∧ a3 ≤ 500)) → ((f66 (a1 : Int32).toNatClampNeg) = 3) → Q (some (.int (-4))) (I, J, zR, 81)) (l3 : (((0 : Int32) ≤ a1 ∧ a1 ≤ (s46_1 - 1))) → (((100 : Int32) ≤ a2 ∧ a2 ≤ 9000)) → (¬ (((0 : Int32) ≤ a3 ∧ a3 ≤ 500))) → Q (some (.int (-2))) (I, J, zR, 81)) (l4 : (((0 : Int32) ≤ a1 ∧ a1 ≤ (s46_1 - 1))) → (¬ (((100 : Int32) ≤ a2 ∧ a2 ≤ 9000))) → Q (some (.int (-2))) (I, J, zR, 81)) (l5 : (¬ (((0 : Int32) ≤ a1 ∧ a1 ≤ (s46_1 - 1)))) → Q (some (.int (-2))) (I, J, zR, 81)) : zT (d + 3) 114 81 [.ref 46, .int a1, .int a2, .int a3] (I, J, zR, 81) Q := by
  subst e66 e46_1
  refine ⟨rfl, fun E At hE hC => ?_⟩
  replace hC : ∀ pc st L M', zX 81 E Q At (zlk B_X10_order pc) st L M' → At pc st L M' := hC
  refine hC 0 [] [some (.ref 46), some (.int a1), some (.int a2), some (.int a3)] _ ?_
  refine hE _ _ _ _ _ (w_X10_isProfile _ _ _ _ _ rfl  (fun q1 => ?_) (fun q2 => ?_))
  · skip
    refine And.intro (fun qz => absurd qz (by decide)) (fun _ => ?_)
    refine hE _ _ _ _ _ (w_in32 _ _ _ (a2) (100) (9000) _   (fun q3 => ?_) (fun q4 => ?_))
    · skip
      refine And.intro (fun qz => absurd qz (by decide)) (fun _ => ?_)
      refine hE _ _ _ _ _ (w_in32 _ _ _ (a3) (0) (500) _   (fun q5 => ?_) (fun q6 => ?_))
      · skip
        refine And.intro (fun _ => ?_) (fun qz => absurd qz (by decide))
        refine hC 37 [] [some (.ref 46), some (.int a1), some (.int a2), some (.int a3)] _ ?_
        refine And.intro (zvp (b1 q1 q3 q5) rfl) ?_
        refine And.intro (fun q7 => ?_) (fun q7 => ?_)
        · skip
          refine hC 50 [] [some (.ref 46), some (.int a1), some (.int a2), some (.int a3)] _ ?_
          refine And.intro (zvp (b2 q1 q3 q5 q7) rfl) ?_
          refine And.intro (zvp (b3 q1 q3 q5 q7) rfl) ?_
          refine And.intro (zvp (b4 q1 q3 q5 q7) rfl) ?_
          refine And.intro (zvp (b5 q1 q3 q5 q7) rfl) ?_
          refine And.intro (zvp (b6 q1 q3 q5 q7) rfl) ?_
          refine And.intro (zvp (b7 q1 q3 q5 q7) rfl) ?_
          refine And.intro (zvp (b8 q1 q3 q5 q7) rfl) ?_
          exact l1 q1 q3 q5 q7
        · skip
          exact l2 q1 q3 q5 q7
      · skip
        refine And.intro (fun qz => absurd qz (by decide)) (fun _ => ?_)
        refine hC 34 [] [some (.ref 46), some (.int a1), some (.int a2), some (.int a3)] _ ?_
        exact l3 q1 q3 q6
    · skip
      refine And.intro (fun _ => ?_) (fun qz => absurd qz (by decide))
      refine hC 34 [] [some (.ref 46), some (.int a1), some (.int a2), some (.int a3)] _ ?_
      exact l4 q1 q4
  · skip
    refine And.intro (fun _ => ?_) (fun qz => absurd qz (by decide))
    refine hC 34 [] [some (.ref 46), some (.int a1), some (.int a2), some (.int a3)] _ ?_
    exact l5 q2
theorem w_X10_wanted (d : Nat) (I : Nat → Nat → Int32) (J : Nat → Nat → Int64) (a1 : Int32) (a2 : Int32) (Q : Option Value → zM → Prop) {f66 : Nat → Int32} (e66 : I 66 = f66) {f68 : Nat → Int32} (e68 : I 68 = f68) {s46_1 : Int32} (e46_1 : I 46 1 = s46_1) (b1 : (((0 : Int32) ≤ a1 ∧ a1 ≤ (s46_1 - 1))) → 0 ≤ a1 ∧ a1 < 8) (b2 : (((0 : Int32) ≤ a1 ∧ a1 ≤ (s46_1 - 1))) → (((0 : Int32) ≤ a2 ∧ a2 ≤ ((f66 (a1 : Int32).toNatClampNeg) - 1))) → 0 ≤ ((3 * a1) + a2) ∧ ((3 * a1) + a2) < 24) (l1 : (((0 : Int32) ≤ a1 ∧ a1 ≤ (s46_1 - 1))) → (((0 : Int32) ≤ a2 ∧ a2 ≤ ((f66 (a1 : Int32).toNatClampNeg) - 1))) → Q (some (.int (f68 (((3 * a1) + a2) : Int32).toNatClampNeg))) (I, J, zR, 81)) (l2 : (((0 : Int32) ≤ a1 ∧ a1 ≤ (s46_1 - 1))) → (¬ (((0 : Int32) ≤ a2 ∧ a2 ≤ ((f66 (a1 : Int32).toNatClampNeg) - 1)))) → Q (some (.int (-2))) (I, J, zR, 81)) (l3 : (¬ (((0 : Int32) ≤ a1 ∧ a1 ≤ (s46_1 - 1)))) → Q (some (.int (-2))) (I, J, zR, 81)) : zT (d + 3) 115 81 [.ref 46, .int a1, .int a2] (I, J, zR, 81) Q := by
  subst e66 e68 e46_1
  refine ⟨rfl, fun E At hE hC => ?_⟩
  replace hC : ∀ pc st L M', zX 81 E Q At (zlk B_X10_wanted pc) st L M' → At pc st L M' := hC
  refine hC 0 [] [some (.ref 46), some (.int a1), some (.int a2)] _ ?_
  refine hE _ _ _ _ _ (w_X10_isProfile _ _ _ _ _ rfl  (fun q1 => ?_) (fun q2 => ?_))
  · skip
    refine And.intro (fun qz => absurd qz (by decide)) (fun _ => ?_)
    refine And.intro (zvp (b1 q1) rfl) ?_
    refine hE _ _ _ _ _ (w_in32 _ _ _ (a2) (0) (((I 66 (a1 : Int32).toNatClampNeg) - 1)) _   (fun q3 => ?_) (fun q4 => ?_))
    · skip
      refine And.intro (fun qz => absurd qz (by decide)) (fun _ => ?_)
      refine And.intro (zvp (b2 q1 q3) rfl) ?_
      refine hC 41 [.int (I 68 (((3 * a1) + a2) : Int32).toNatClampNeg)] [some (.ref 46), some (.int a1), some (.int a2)] _ ?_
      exact l1 q1 q3
    · skip
      refine And.intro (fun _ => ?_) (fun qz => absurd qz (by decide))
      refine hC 39 [] [some (.ref 46), some (.int a1), some (.int a2)] _ ?_
      refine hC 41 [.int (-2)] [some (.ref 46), some (.int a1), some (.int a2)] _ ?_
      exact l2 q1 q4
  · skip
    refine And.intro (fun _ => ?_) (fun qz => absurd qz (by decide))
    refine hC 39 [] [some (.ref 46), some (.int a1), some (.int a2)] _ ?_
    refine hC 41 [.int (-2)] [some (.ref 46), some (.int a1), some (.int a2)] _ ?_
    exact l3 q2
theorem w_X10_account (d : Nat) (I : Nat → Nat → Int32) (J : Nat → Nat → Int64) (a1 : Int32) (Q : Option Value → zM → Prop) {g65 : Nat → Int64} (e65 : J 65 = g65) (b1 : (((0 : Int32) ≤ a1 ∧ a1 ≤ 6)) → 0 ≤ a1 ∧ a1 < 7) (l1 : (((0 : Int32) ≤ a1 ∧ a1 ≤ 6)) → Q (some (.int ((g65 (a1 : Int32).toNatClampNeg)).toInt32)) (I, J, zR, 81)) (l2 : (¬ (((0 : Int32) ≤ a1 ∧ a1 ≤ 6))) → Q (some (.int (-2))) (I, J, zR, 81)) : zT (d + 2) 117 81 [.ref 46, .int a1] (I, J, zR, 81) Q := by
  subst e65
  refine ⟨rfl, fun E At hE hC => ?_⟩
  replace hC : ∀ pc st L M', zX 81 E Q At (zlk B_X10_account pc) st L M' → At pc st L M' := hC
  refine hC 0 [] [some (.ref 46), some (.int a1)] _ ?_
  refine hE _ _ _ _ _ (w_in32 _ _ _ (a1) (0) (6) _   (fun q1 => ?_) (fun q2 => ?_))
  · skip
    refine And.intro (fun qz => absurd qz (by decide)) (fun _ => ?_)
    refine And.intro (zvp (b1 q1) rfl) ?_
    refine hC 24 [.int ((J 65 (a1 : Int32).toNatClampNeg)).toInt32] [some (.ref 46), some (.int a1)] _ ?_
    exact l1 q1
  · skip
    refine And.intro (fun _ => ?_) (fun qz => absurd qz (by decide))
    refine hC 22 [] [some (.ref 46), some (.int a1)] _ ?_
    refine hC 24 [.int (-2)] [some (.ref 46), some (.int a1)] _ ?_
    exact l2 q2
theorem w_X10_stock (d : Nat) (I : Nat → Nat → Int32) (J : Nat → Nat → Int64) (a1 : Int32) (Q : Option Value → zM → Prop) {s46_35 : Int32} (e46_35 : I 46 35 = s46_35) (b1 : (((200 : Int32) ≤ a1 ∧ a1 ≤ 1200)) → (¬ (s46_35 = 6)) → 0 ≤ s46_35 ∧ s46_35 < 6) (l1 : (((200 : Int32) ≤ a1 ∧ a1 ≤ 1200)) → (¬ (s46_35 = 6)) → Q (some (.int (s46_35 + 1))) (zwI (zwI (I, J, zR, 81) 70 (s46_35 : Int32).toNatClampNeg a1) 46 35 (s46_35 + 1))) (l2 : (((200 : Int32) ≤ a1 ∧ a1 ≤ 1200)) → (s46_35 = 6) → Q (some (.int (-4))) (I, J, zR, 81)) (l3 : (¬ (((200 : Int32) ≤ a1 ∧ a1 ≤ 1200))) → Q (some (.int (-2))) (I, J, zR, 81)) : zT (d + 2) 118 81 [.ref 46, .int a1] (I, J, zR, 81) Q := by
  subst e46_35
  refine ⟨rfl, fun E At hE hC => ?_⟩
  replace hC : ∀ pc st L M', zX 81 E Q At (zlk B_X10_stock pc) st L M' → At pc st L M' := hC
  refine hC 0 [] [some (.ref 46), some (.int a1)] _ ?_
  refine hE _ _ _ _ _ (w_in32 _ _ _ (a1) (200) (1200) _   (fun q1 => ?_) (fun q2 => ?_))
  · skip
    refine And.intro (fun _ => ?_) (fun qz => absurd qz (by decide))
    refine hC 17 [] [some (.ref 46), some (.int a1)] _ ?_
    refine And.intro (fun q3 => ?_) (fun q3 => ?_)
    · skip
      refine hC 29 [] [some (.ref 46), some (.int a1)] _ ?_
      refine And.intro (zvp (b1 q1 q3) rfl) ?_
      exact l1 q1 q3
    · skip
      exact l2 q1 q3
  · skip
    refine And.intro (fun qz => absurd qz (by decide)) (fun _ => ?_)
    exact l3 q2
theorem w_X10_job (d : Nat) (I : Nat → Nat → Int32) (J : Nat → Nat → Int64) (a1 : Int32) (a2 : Int32) (a3 : Int32) (Q : Option Value → zM → Prop) {s46_1 : Int32} (e46_1 : I 46 1 = s46_1) {s46_37 : Int32} (e46_37 : I 46 37 = s46_37) (b1 : (((0 : Int32) ≤ a1 ∧ a1 ≤ (s46_1 - 1))) → (((1 : Int32) ≤ a2 ∧ a2 ≤ 50)) → (((0 : Int32) ≤ a3 ∧ a3 ≤ 1000)) → (¬ (s46_37 = 7)) → 0 ≤ s46_37 ∧ s46_37 < 7) (b2 : (((0 : Int32) ≤ a1 ∧ a1 ≤ (s46_1 - 1))) → (((1 : Int32) ≤ a2 ∧ a2 ≤ 50)) → (((0 : Int32) ≤ a3 ∧ a3 ≤ 1000)) → (¬ (s46_37 = 7)) → 0 ≤ s46_37 ∧ s46_37 < 7) (b3 : (((0 : Int32) ≤ a1 ∧ a1 ≤ (s46_1 - 1))) → (((1 : Int32) ≤ a2 ∧ a2 ≤ 50)) → (((0 : Int32) ≤ a3 ∧ a3 ≤ 1000)) → (¬ (s46_37 = 7)) → 0 ≤ s46_37 ∧ s46_37 < 7) (l1 : (((0 : Int32) ≤ a1 ∧ a1 ≤ (s46_1 - 1))) → (((1 : Int32) ≤ a2 ∧ a2 ≤ 50)) → (((0 : Int32) ≤ a3 ∧ a3 ≤ 1000)) → (¬ (s46_37 = 7)) → Q (some (.int ((s46_37 + 1) - 1))) (zwI (zwI (zwI (zwI (I, J, zR, 81) 71 (s46_37 : Int32).toNatClampNeg a1) 72 (s46_37 : Int32).toNatClampNeg a2) 73 (s46_37 : Int32).toNatClampNeg a3) 46 37 (s46_37 + 1))) (l2 : (((0 : Int32) ≤ a1 ∧ a1 ≤ (s46_1 - 1))) → (((1 : Int32) ≤ a2 ∧ a2 ≤ 50)) → (((0 : Int32) ≤ a3 ∧ a3 ≤ 1000)) → (s46_37 = 7) → Q (some (.int (-4))) (I, J, zR, 81)) (l3 : (((0 : Int32) ≤ a1 ∧ a1 ≤ (s46_1 - 1))) → (((1 : Int32) ≤ a2 ∧ a2 ≤ 50)) → (¬ (((0 : Int32) ≤ a3 ∧ a3 ≤ 1000))) → Q (some (.int (-2))) (I, J, zR, 81)) (l4 : (((0 : Int32) ≤ a1 ∧ a1 ≤ (s46_1 - 1))) → (¬ (((1 : Int32) ≤ a2 ∧ a2 ≤ 50))) → Q (some (.int (-2))) (I, J, zR, 81)) (l5 : (¬ (((0 : Int32) ≤ a1 ∧ a1 ≤ (s46_1 - 1)))) → Q (some (.int (-2))) (I, J, zR, 81)) : zT (d + 3) 120 81 [.ref 46, .int a1, .int a2, .int a3] (I, J, zR, 81) Q := by
  subst e46_1 e46_37
  refine ⟨rfl, fun E At hE hC => ?_⟩
  replace hC : ∀ pc st L M', zX 81 E Q At (zlk B_X10_job pc) st L M' → At pc st L M' := hC
  refine hC 0 [] [some (.ref 46), some (.int a1), some (.int a2), some (.int a3)] _ ?_
  refine hE _ _ _ _ _ (w_X10_isProfile _ _ _ _ _ rfl  (fun q1 => ?_) (fun q2 => ?_))
  · skip
    refine And.intro (fun qz => absurd qz (by decide)) (fun _ => ?_)
    refine hE _ _ _ _ _ (w_in32 _ _ _ (a2) (1) (50) _   (fun q3 => ?_) (fun q4 => ?_))
    · skip
      refine And.intro (fun qz => absurd qz (by decide)) (fun _ => ?_)
      refine hE _ _ _ _ _ (w_in32 _ _ _ (a3) (0) (1000) _   (fun q5 => ?_) (fun q6 => ?_))
      · skip
        refine And.intro (fun _ => ?_) (fun qz => absurd qz (by decide))
        refine hC 35 [] [some (.ref 46), some (.int a1), some (.int a2), some (.int a3)] _ ?_
        refine And.intro (fun q7 => ?_) (fun q7 => ?_)
        · skip
          refine hC 47 [] [some (.ref 46), some (.int a1), some (.int a2), some (.int a3)] _ ?_
          refine And.intro (zvp (b1 q1 q3 q5 q7) rfl) ?_
          refine And.intro (zvp (b2 q1 q3 q5 q7) rfl) ?_
          refine And.intro (zvp (b3 q1 q3 q5 q7) rfl) ?_
          exact l1 q1 q3 q5 q7
        · skip
          exact l2 q1 q3 q5 q7
      · skip
        refine And.intro (fun qz => absurd qz (by decide)) (fun _ => ?_)
        refine hC 32 [] [some (.ref 46), some (.int a1), some (.int a2), some (.int a3)] _ ?_
        exact l3 q1 q3 q6
    · skip
      refine And.intro (fun _ => ?_) (fun qz => absurd qz (by decide))
      refine hC 32 [] [some (.ref 46), some (.int a1), some (.int a2), some (.int a3)] _ ?_
      exact l4 q1 q4
  · skip
    refine And.intro (fun _ => ?_) (fun qz => absurd qz (by decide))
    refine hC 32 [] [some (.ref 46), some (.int a1), some (.int a2), some (.int a3)] _ ?_
    exact l5 q2
