theorem w_X9_order (d : Nat) (I : Nat → Nat → Int32) (J : Nat → Nat → Int64) (a1 : Int32) (a2 : Int32) (a3 : Int32) (Q : Option Value → zM → Prop) {f7 : Nat → Int32} (e7 : I 7 = f7) {s1_4 : Int32} (e1_4 : I 1 4 = s1_4) (b1 : (((0 : Int32) ≤ a1 ∧ a1 < s1_4)) → (((100 : Int32) ≤ a2 ∧ a2 ≤ 9000)) → (((0 : Int32) ≤ a3 ∧ a3 ≤ 500)) → 0 ≤ a1 ∧ a1 < 8) (b2 : (((0 : Int32) ≤ a1 ∧ a1 < s1_4)) → (((100 : Int32) ≤ a2 ∧ a2 ≤ 9000)) → (((0 : Int32) ≤ a3 ∧ a3 ≤ 500)) → ((f7 (a1 : Int32).toNatClampNeg) < 3) → 0 ≤ ((a1 * 3) + (f7 (a1 : Int32).toNatClampNeg)) ∧ ((a1 * 3) + (f7 (a1 : Int32).toNatClampNeg)) < 24) (b3 : (((0 : Int32) ≤ a1 ∧ a1 < s1_4)) → (((100 : Int32) ≤ a2 ∧ a2 ≤ 9000)) → (((0 : Int32) ≤ a3 ∧ a3 ≤ 500)) → ((f7 (a1 : Int32).toNatClampNeg) < 3) → 0 ≤ ((a1 * 3) + (f7 (a1 : Int32).toNatClampNeg)) ∧ ((a1 * 3) + (f7 (a1 : Int32).toNatClampNeg)) < 24) (b4 : (((0 : Int32) ≤ a1 ∧ a1 < s1_4)) → (((100 : Int32) ≤ a2 ∧ a2 ≤ 9000)) → (((0 : Int32) ≤ a3 ∧ a3 ≤ 500)) → ((f7 (a1 : Int32).toNatClampNeg) < 3) → 0 ≤ a1 ∧ a1 < 8) (b5 : (((0 : Int32) ≤ a1 ∧ a1 < s1_4)) → (((100 : Int32) ≤ a2 ∧ a2 ≤ 9000)) → (((0 : Int32) ≤ a3 ∧ a3 ≤ 500)) → ((f7 (a1 : Int32).toNatClampNeg) < 3) → 0 ≤ a1 ∧ a1 < 8) (l1 : (((0 : Int32) ≤ a1 ∧ a1 < s1_4)) → (((100 : Int32) ≤ a2 ∧ a2 ≤ 9000)) → (((0 : Int32) ≤ a3 ∧ a3 ≤ 500)) → ((f7 (a1 : Int32).toNatClampNeg) < 3) → Q (some (.int (f7 (a1 : Int32).toNatClampNeg))) (zwI (zwI (zwI (I, J, zR, 81) 8 (((a1 * 3) + (f7 (a1 : Int32).toNatClampNeg)) : Int32).toNatClampNeg a2) 9 (((a1 * 3) + (f7 (a1 : Int32).toNatClampNeg)) : Int32).toNatClampNeg a3) 7 (a1 : Int32).toNatClampNeg ((f7 (a1 : Int32).toNatClampNeg) + 1))) (l2 : (((0 : Int32) ≤ a1 ∧ a1 < s1_4)) → (((100 : Int32) ≤ a2 ∧ a2 ≤ 9000)) → (((0 : Int32) ≤ a3 ∧ a3 ≤ 500)) → (¬ ((f7 (a1 : Int32).toNatClampNeg) < 3)) → Q (some (.int (-4))) (I, J, zR, 81)) (l3 : (((0 : Int32) ≤ a1 ∧ a1 < s1_4)) → (((100 : Int32) ≤ a2 ∧ a2 ≤ 9000)) → (¬ (((0 : Int32) ≤ a3 ∧ a3 ≤ 500))) → Q (some (.int (-2))) (I, J, zR, 81)) (l4 : (((0 : Int32) ≤ a1 ∧ a1 < s1_4)) → (¬ (((100 : Int32) ≤ a2 ∧ a2 ≤ 9000))) → Q (some (.int (-2))) (I, J, zR, 81)) (l5 : (¬ (((0 : Int32) ≤ a1 ∧ a1 < s1_4))) → Q (some (.int (-2))) (I, J, zR, 81)) : zT (d + 2) 64 81 [.ref 0, .int a1, .int a2, .int a3] (I, J, zR, 81) Q := by
  subst e7 e1_4
  refine ⟨rfl, fun E At hE hC => ?_⟩
  replace hC : ∀ pc st L M', zX 81 E Q At (zlk B_X9_order pc) st L M' → At pc st L M' := hC
  refine hC 0 [] [some (.ref 0), some (.int a1), some (.int a2), some (.int a3)] _ ?_
  refine hE _ _ _ _ _ (w_X6_has _ _ _ _ _ rfl  (fun q1 => ?_) (fun q2 => ?_))
  · skip
    refine And.intro (fun qz => absurd qz (by decide)) (fun _ => ?_)
    refine hE _ _ _ _ _ (w_within _ _ _ _ (100) (9000) _   (fun q3 => ?_) (fun q4 => ?_))
    · skip
      refine And.intro (fun qz => absurd qz (by decide)) (fun _ => ?_)
      refine hE _ _ _ _ _ (w_within _ _ _ _ (0) (500) _   (fun q5 => ?_) (fun q6 => ?_))
      · skip
        refine And.intro (fun _ => ?_) (fun qz => absurd qz (by decide))
        refine hC 37 [] [some (.ref 0), some (.int a1), some (.int a2), some (.int a3)] _ ?_
        refine hE _ _ _ _ _ (w_X3_add _ _ _ _ _ _ _ rfl (b1 q1 q3 q5) (fun x0 => b2 q1 q3 q5 x0) (fun x0 => b3 q1 q3 q5 x0) (fun x0 => b4 q1 q3 q5 x0) (fun x0 => b5 q1 q3 q5 x0) (fun q7 => ?_) (fun q8 => ?_))
        · skip
          exact l1 q1 q3 q5 q7
        · skip
          exact l2 q1 q3 q5 q8
      · skip
        refine And.intro (fun qz => absurd qz (by decide)) (fun _ => ?_)
        refine hC 34 [] [some (.ref 0), some (.int a1), some (.int a2), some (.int a3)] _ ?_
        exact l3 q1 q3 q6
    · skip
      refine And.intro (fun _ => ?_) (fun qz => absurd qz (by decide))
      refine hC 34 [] [some (.ref 0), some (.int a1), some (.int a2), some (.int a3)] _ ?_
      exact l4 q1 q4
  · skip
    refine And.intro (fun _ => ?_) (fun qz => absurd qz (by decide))
    refine hC 34 [] [some (.ref 0), some (.int a1), some (.int a2), some (.int a3)] _ ?_
    exact l5 q2
theorem w_X9_wanted (d : Nat) (I : Nat → Nat → Int32) (J : Nat → Nat → Int64) (a1 : Int32) (a2 : Int32) (Q : Option Value → zM → Prop) {f7 : Nat → Int32} (e7 : I 7 = f7) {f9 : Nat → Int32} (e9 : I 9 = f9) {s1_4 : Int32} (e1_4 : I 1 4 = s1_4) (b1 : (((0 : Int32) ≤ a1 ∧ a1 < s1_4)) → 0 ≤ a1 ∧ a1 < 8) (b2 : (((0 : Int32) ≤ a1 ∧ a1 < s1_4)) → (((0 : Int32) ≤ a2 ∧ a2 ≤ ((f7 (a1 : Int32).toNatClampNeg) - 1))) → 0 ≤ ((a1 * 3) + a2) ∧ ((a1 * 3) + a2) < 24) (l1 : (((0 : Int32) ≤ a1 ∧ a1 < s1_4)) → (((0 : Int32) ≤ a2 ∧ a2 ≤ ((f7 (a1 : Int32).toNatClampNeg) - 1))) → Q (some (.int (f9 (((a1 * 3) + a2) : Int32).toNatClampNeg))) (I, J, zR, 81)) (l2 : (((0 : Int32) ≤ a1 ∧ a1 < s1_4)) → (¬ (((0 : Int32) ≤ a2 ∧ a2 ≤ ((f7 (a1 : Int32).toNatClampNeg) - 1)))) → Q (some (.int (-2))) (I, J, zR, 81)) (l3 : (¬ (((0 : Int32) ≤ a1 ∧ a1 < s1_4))) → Q (some (.int (-2))) (I, J, zR, 81)) : zT (d + 2) 65 81 [.ref 0, .int a1, .int a2] (I, J, zR, 81) Q := by
  subst e7 e9 e1_4
  refine ⟨rfl, fun E At hE hC => ?_⟩
  replace hC : ∀ pc st L M', zX 81 E Q At (zlk B_X9_wanted pc) st L M' → At pc st L M' := hC
  refine hC 0 [] [some (.ref 0), some (.int a1), some (.int a2)] _ ?_
  refine hE _ _ _ _ _ (w_X6_has _ _ _ _ _ rfl  (fun q1 => ?_) (fun q2 => ?_))
  · skip
    refine And.intro (fun qz => absurd qz (by decide)) (fun _ => ?_)
    refine And.intro (zvp (b1 q1) rfl) ?_
    refine hE _ _ _ _ _ (w_within _ _ _ _ (0) _ _   (fun q3 => ?_) (fun q4 => ?_))
    · skip
      refine And.intro (fun _ => ?_) (fun qz => absurd qz (by decide))
      refine hC 33 [] [some (.ref 0), some (.int a1), some (.int a2)] _ ?_
      refine And.intro (zvp (b2 q1 q3) rfl) ?_
      exact l1 q1 q3
    · skip
      refine And.intro (fun qz => absurd qz (by decide)) (fun _ => ?_)
      refine hC 30 [] [some (.ref 0), some (.int a1), some (.int a2)] _ ?_
      exact l2 q1 q4
  · skip
    refine And.intro (fun _ => ?_) (fun qz => absurd qz (by decide))
    refine hC 30 [] [some (.ref 0), some (.int a1), some (.int a2)] _ ?_
    exact l3 q2
theorem w_X9_account (d : Nat) (I : Nat → Nat → Int32) (J : Nat → Nat → Int64) (a1 : Int32) (Q : Option Value → zM → Prop) {s33_0 : Int32} (e33_0 : I 33 0 = s33_0) {s33_1 : Int32} (e33_1 : I 33 1 = s33_1) {s33_2 : Int32} (e33_2 : I 33 2 = s33_2) {s33_3 : Int32} (e33_3 : I 33 3 = s33_3) {s33_4 : Int32} (e33_4 : I 33 4 = s33_4) {s33_5 : Int32} (e33_5 : I 33 5 = s33_5) {s33_6 : Int32} (e33_6 : I 33 6 = s33_6) (l1 : ((a1 : Int32).toInt < 0 ∨ (7 : Int) ≤ (a1 : Int32).toInt) → Q (some (.int (-2))) (I, J, zR, 81)) (l2 : ((a1 : Int32).toInt = 0) → Q (some (.int s33_0)) (I, J, zR, 81)) (l3 : ((a1 : Int32).toInt = 1) → Q (some (.int s33_1)) (I, J, zR, 81)) (l4 : ((a1 : Int32).toInt = 2) → Q (some (.int s33_2)) (I, J, zR, 81)) (l5 : ((a1 : Int32).toInt = 3) → Q (some (.int s33_3)) (I, J, zR, 81)) (l6 : ((a1 : Int32).toInt = 4) → Q (some (.int s33_4)) (I, J, zR, 81)) (l7 : ((a1 : Int32).toInt = 5) → Q (some (.int s33_5)) (I, J, zR, 81)) (l8 : ((a1 : Int32).toInt = 6) → Q (some (.int s33_6)) (I, J, zR, 81)) : zT (d + 1) 67 81 [.ref 0, .int a1] (I, J, zR, 81) Q := by
  subst e33_0 e33_1 e33_2 e33_3 e33_4 e33_5 e33_6
  refine ⟨rfl, fun E At hE hC => ?_⟩
  replace hC : ∀ pc st L M', zX 81 E Q At (zlk B_X9_account pc) st L M' → At pc st L M' := hC
  refine hC 0 [] [some (.ref 0), some (.int a1)] _ ?_
  refine And.intro (fun q1 => ?_) (And.intro (fun q1 => ?_) (And.intro (fun q1 => ?_) (And.intro (fun q1 => ?_) (And.intro (fun q1 => ?_) (And.intro (fun q1 => ?_) (And.intro (fun q1 => ?_) (And.intro (fun q1 => ?_) (trivial))))))))
  · skip
    refine hC 100 [] [some (.ref 0), some (.int a1)] _ ?_
    exact l1 q1
  · skip
    refine hC 44 [] [some (.ref 0), some (.int a1)] _ ?_
    exact l2 q1
  · skip
    refine hC 52 [] [some (.ref 0), some (.int a1)] _ ?_
    exact l3 q1
  · skip
    refine hC 60 [] [some (.ref 0), some (.int a1)] _ ?_
    exact l4 q1
  · skip
    refine hC 68 [] [some (.ref 0), some (.int a1)] _ ?_
    exact l5 q1
  · skip
    refine hC 76 [] [some (.ref 0), some (.int a1)] _ ?_
    exact l6 q1
  · skip
    refine hC 84 [] [some (.ref 0), some (.int a1)] _ ?_
    exact l7 q1
  · skip
    refine hC 92 [] [some (.ref 0), some (.int a1)] _ ?_
    exact l8 q1
theorem w_X9_stock (d : Nat) (I : Nat → Nat → Int32) (J : Nat → Nat → Int64) (a1 : Int32) (Q : Option Value → zM → Prop) {s0_12 : Int32} (e0_12 : I 0 12 = s0_12) (b1 : (((200 : Int32) ≤ a1 ∧ a1 ≤ 1200)) → (s0_12 < 6) → 0 ≤ s0_12 ∧ s0_12 < 6) (l1 : (((200 : Int32) ≤ a1 ∧ a1 ≤ 1200)) → (s0_12 < 6) → Q (some (.int (s0_12 + 1))) (zwI (zwI (I, J, zR, 81) 34 (s0_12 : Int32).toNatClampNeg a1) 0 12 (s0_12 + 1))) (l2 : (((200 : Int32) ≤ a1 ∧ a1 ≤ 1200)) → (¬ (s0_12 < 6)) → Q (some (.int (-4))) (I, J, zR, 81)) (l3 : (¬ (((200 : Int32) ≤ a1 ∧ a1 ≤ 1200))) → Q (some (.int (-2))) (I, J, zR, 81)) : zT (d + 2) 68 81 [.ref 0, .int a1] (I, J, zR, 81) Q := by
  subst e0_12
  refine ⟨rfl, fun E At hE hC => ?_⟩
  replace hC : ∀ pc st L M', zX 81 E Q At (zlk B_X9_stock pc) st L M' → At pc st L M' := hC
  refine hC 0 [] [some (.ref 0), some (.int a1)] _ ?_
  refine hE _ _ _ _ _ (w_within _ _ _ _ (200) (1200) _   (fun q1 => ?_) (fun q2 => ?_))
  · skip
    refine And.intro (fun _ => ?_) (fun qz => absurd qz (by decide))
    refine hC 16 [] [some (.ref 0), some (.int a1)] _ ?_
    refine And.intro (fun q3 => ?_) (fun q3 => ?_)
    · skip
      refine hC 28 [] [some (.ref 0), some (.int a1)] _ ?_
      refine And.intro (zvp (b1 q1 q3) rfl) ?_
      exact l1 q1 q3
    · skip
      exact l2 q1 q3
  · skip
    refine And.intro (fun qz => absurd qz (by decide)) (fun _ => ?_)
    exact l3 q2
theorem w_X9_job (d : Nat) (I : Nat → Nat → Int32) (J : Nat → Nat → Int64) (a1 : Int32) (a2 : Int32) (a3 : Int32) (Q : Option Value → zM → Prop) {f2 : Nat → Int32} (e2 : I 2 = f2) {s1_4 : Int32} (e1_4 : I 1 4 = s1_4) {s35_1 : Int32} (e35_1 : I 35 1 = s35_1) (b1 : (((0 : Int32) ≤ a1 ∧ a1 < s1_4)) → (((1 : Int32) ≤ a2 ∧ a2 ≤ 50)) → (((0 : Int32) ≤ a3 ∧ a3 ≤ 1000)) → 0 ≤ a1 ∧ a1 < 8) (b2 : (((0 : Int32) ≤ a1 ∧ a1 < s1_4)) → (((1 : Int32) ≤ a2 ∧ a2 ≤ 50)) → (((0 : Int32) ≤ a3 ∧ a3 ≤ 1000)) → (s35_1 < 7) → 0 ≤ s35_1 ∧ s35_1 < 7) (b3 : (((0 : Int32) ≤ a1 ∧ a1 < s1_4)) → (((1 : Int32) ≤ a2 ∧ a2 ≤ 50)) → (((0 : Int32) ≤ a3 ∧ a3 ≤ 1000)) → (s35_1 < 7) → 0 ≤ s35_1 ∧ s35_1 < 7) (b4 : (((0 : Int32) ≤ a1 ∧ a1 < s1_4)) → (((1 : Int32) ≤ a2 ∧ a2 ≤ 50)) → (((0 : Int32) ≤ a3 ∧ a3 ≤ 1000)) → (s35_1 < 7) → 0 ≤ s35_1 ∧ s35_1 < 7) (l1 : (((0 : Int32) ≤ a1 ∧ a1 < s1_4)) → (((1 : Int32) ≤ a2 ∧ a2 ≤ 50)) → (((0 : Int32) ≤ a3 ∧ a3 ≤ 1000)) → (s35_1 < 7) → Q (some (.int ((s35_1 + 1) - 1))) (zwI (zwI (zwI (zwI (zwI (I, J, zR, 81) 37 (s35_1 : Int32).toNatClampNeg (f2 (a1 : Int32).toNatClampNeg)) 38 (s35_1 : Int32).toNatClampNeg a2) 39 (s35_1 : Int32).toNatClampNeg a3) 35 1 (s35_1 + 1)) 35 10 0)) (l2 : (((0 : Int32) ≤ a1 ∧ a1 < s1_4)) → (((1 : Int32) ≤ a2 ∧ a2 ≤ 50)) → (((0 : Int32) ≤ a3 ∧ a3 ≤ 1000)) → (¬ (s35_1 < 7)) → Q (some (.int (-4))) (I, J, zR, 81)) (l3 : (((0 : Int32) ≤ a1 ∧ a1 < s1_4)) → (((1 : Int32) ≤ a2 ∧ a2 ≤ 50)) → (¬ (((0 : Int32) ≤ a3 ∧ a3 ≤ 1000))) → Q (some (.int (-2))) (I, J, zR, 81)) (l4 : (((0 : Int32) ≤ a1 ∧ a1 < s1_4)) → (¬ (((1 : Int32) ≤ a2 ∧ a2 ≤ 50))) → Q (some (.int (-2))) (I, J, zR, 81)) (l5 : (¬ (((0 : Int32) ≤ a1 ∧ a1 < s1_4))) → Q (some (.int (-2))) (I, J, zR, 81)) : zT (d + 2) 70 81 [.ref 0, .int a1, .int a2, .int a3] (I, J, zR, 81) Q := by
  subst e2 e1_4 e35_1
  refine ⟨rfl, fun E At hE hC => ?_⟩
  replace hC : ∀ pc st L M', zX 81 E Q At (zlk B_X9_job pc) st L M' → At pc st L M' := hC
  refine hC 0 [] [some (.ref 0), some (.int a1), some (.int a2), some (.int a3)] _ ?_
  refine hE _ _ _ _ _ (w_X6_has _ _ _ _ _ rfl  (fun q1 => ?_) (fun q2 => ?_))
  · skip
    refine And.intro (fun qz => absurd qz (by decide)) (fun _ => ?_)
    refine hE _ _ _ _ _ (w_within _ _ _ _ (1) (50) _   (fun q3 => ?_) (fun q4 => ?_))
    · skip
      refine And.intro (fun qz => absurd qz (by decide)) (fun _ => ?_)
      refine hE _ _ _ _ _ (w_within _ _ _ _ (0) (1000) _   (fun q5 => ?_) (fun q6 => ?_))
      · skip
        refine And.intro (fun _ => ?_) (fun qz => absurd qz (by decide))
        refine hC 35 [] [some (.ref 0), some (.int a1), some (.int a2), some (.int a3)] _ ?_
        refine And.intro (zvp (b1 q1 q3 q5) rfl) ?_
        refine hE _ _ _ _ _ (w_X5_add _ _ _ _ _ _ _ rfl (fun x0 => b2 q1 q3 q5 x0) (fun x0 => b3 q1 q3 q5 x0) (fun x0 => b4 q1 q3 q5 x0) (fun q7 => ?_) (fun q8 => ?_))
        · skip
          exact l1 q1 q3 q5 q7
        · skip
          exact l2 q1 q3 q5 q8
      · skip
        refine And.intro (fun qz => absurd qz (by decide)) (fun _ => ?_)
        refine hC 32 [] [some (.ref 0), some (.int a1), some (.int a2), some (.int a3)] _ ?_
        exact l3 q1 q3 q6
    · skip
      refine And.intro (fun _ => ?_) (fun qz => absurd qz (by decide))
      refine hC 32 [] [some (.ref 0), some (.int a1), some (.int a2), some (.int a3)] _ ?_
      exact l4 q1 q4
  · skip
    refine And.intro (fun _ => ?_) (fun qz => absurd qz (by decide))
    refine hC 32 [] [some (.ref 0), some (.int a1), some (.int a2), some (.int a3)] _ ?_
    exact l5 q2
theorem w_X9_change (d : Nat) (I : Nat → Nat → Int32) (J : Nat → Nat → Int64) (a1 : Int32) (Q : Option Value → zM → Prop) {s35_8 : Int32} (e35_8 : I 35 8 = s35_8) (l1 : (((0 : Int32) ≤ a1 ∧ a1 ≤ 20)) → Q (some (.int s35_8)) (zwI (zwI (I, J, zR, 81) 35 8 a1) 35 10 0)) (l2 : (¬ (((0 : Int32) ≤ a1 ∧ a1 ≤ 20))) → Q (some (.int (-2))) (I, J, zR, 81)) : zT (d + 2) 71 81 [.ref 0, .int a1] (I, J, zR, 81) Q := by
  subst e35_8
  refine ⟨rfl, fun E At hE hC => ?_⟩
  replace hC : ∀ pc st L M', zX 81 E Q At (zlk B_X9_change pc) st L M' → At pc st L M' := hC
  refine hC 0 [] [some (.ref 0), some (.int a1)] _ ?_
  refine hE _ _ _ _ _ (w_within _ _ _ _ (0) (20) _   (fun q1 => ?_) (fun q2 => ?_))
  · skip
    refine And.intro (fun _ => ?_) (fun qz => absurd qz (by decide))
    refine hC 13 [] [some (.ref 0), some (.int a1)] _ ?_
    refine hE _ _ _ _ _ (w_X5_setGap _ _ _ _ _ rfl  (?_))
    · skip
      exact l1 q1
  · skip
    refine And.intro (fun qz => absurd qz (by decide)) (fun _ => ?_)
    exact l2 q2
theorem w_X9_room (d : Nat) (I : Nat → Nat → Int32) (J : Nat → Nat → Int64) (a1 : Int32) (Q : Option Value → zM → Prop) {s0_13 : Int32} (e0_13 : I 0 13 = s0_13) (l1 : (((1000 : Int32) ≤ a1 ∧ a1 ≤ 1000000)) → Q (some (.int s0_13)) (zwI (I, J, zR, 81) 0 13 a1)) (l2 : (¬ (((1000 : Int32) ≤ a1 ∧ a1 ≤ 1000000))) → Q (some (.int (-2))) (I, J, zR, 81)) : zT (d + 2) 74 81 [.ref 0, .int a1] (I, J, zR, 81) Q := by
  subst e0_13
  refine ⟨rfl, fun E At hE hC => ?_⟩
  replace hC : ∀ pc st L M', zX 81 E Q At (zlk B_X9_room pc) st L M' → At pc st L M' := hC
  refine hC 0 [] [some (.ref 0), some (.int a1), none] _ ?_
  refine hE _ _ _ _ _ (w_within _ _ _ _ (1000) (1000000) _   (fun q1 => ?_) (fun q2 => ?_))
  · skip
    refine And.intro (fun _ => ?_) (fun qz => absurd qz (by decide))
    refine hC 15 [] [some (.ref 0), some (.int a1), none] _ ?_
    exact l1 q1
  · skip
    refine And.intro (fun qz => absurd qz (by decide)) (fun _ => ?_)
    exact l2 q2
theorem w_X9_sample (d : Nat) (I : Nat → Nat → Int32) (J : Nat → Nat → Int64) (a1 : Int32) (a2 : Int32) (Q : Option Value → zM → Prop) {s22_10 : Int32} (e22_10 : I 22 10 = s22_10) (b1 : (((0 : Int32) ≤ a1 ∧ a1 < s22_10)) → (a2 = 0) → 0 ≤ a1 ∧ a1 < 200) (b2 : (((0 : Int32) ≤ a1 ∧ a1 < s22_10)) → (¬ (a2 = 0)) → 0 ≤ a1 ∧ a1 < 200) (l1 : (((0 : Int32) ≤ a1 ∧ a1 < s22_10)) → (a2 = 0) → Q (some (.int 1)) (zwI (I, J, zR, 81) 32 (a1 : Int32).toNatClampNeg 2)) (l2 : (((0 : Int32) ≤ a1 ∧ a1 < s22_10)) → (¬ (a2 = 0)) → Q (some (.int 1)) (zwI (I, J, zR, 81) 32 (a1 : Int32).toNatClampNeg 1)) (l3 : (¬ (((0 : Int32) ≤ a1 ∧ a1 < s22_10))) → Q (some (.int (-2))) (I, J, zR, 81)) : zT (d + 2) 77 81 [.ref 0, .int a1, .int a2] (I, J, zR, 81) Q := by
  subst e22_10
  refine ⟨rfl, fun E At hE hC => ?_⟩
  replace hC : ∀ pc st L M', zX 81 E Q At (zlk B_X9_sample pc) st L M' → At pc st L M' := hC
  refine hC 0 [] [some (.ref 0), some (.int a1), some (.int a2)] _ ?_
  refine hE _ _ _ _ _ (w_X1_has _ _ _ _ _ rfl  (fun q1 => ?_) (fun q2 => ?_))
  · skip
    refine And.intro (fun _ => ?_) (fun qz => absurd qz (by decide))
    refine hC 14 [] [some (.ref 0), some (.int a1), some (.int a2)] _ ?_
    refine And.intro (fun q3 => ?_) (fun q3 => ?_)
    · skip
      refine hC 30 [.int a1, .ref 32] [some (.ref 0), some (.int a1), some (.int a2)] _ ?_
      refine hC 31 [.int 2, .int a1, .ref 32] [some (.ref 0), some (.int a1), some (.int a2)] _ ?_
      refine And.intro (zvp (b1 q1 q3) rfl) ?_
      exact l1 q1 q3
    · skip
      refine hC 31 [.int 1, .int a1, .ref 32] [some (.ref 0), some (.int a1), some (.int a2)] _ ?_
      refine And.intro (zvp (b2 q1 q3) rfl) ?_
      exact l2 q1 q3
  · skip
    refine And.intro (fun qz => absurd qz (by decide)) (fun _ => ?_)
    exact l3 q2
theorem w_X9_lose (d : Nat) (I : Nat → Nat → Int32) (J : Nat → Nat → Int64) (a1 : Int32) (Q : Option Value → zM → Prop) {f45 : Nat → Int32} (e45 : I 45 = f45) (b1 : (((0 : Int32) ≤ a1 ∧ a1 ≤ 3)) → 0 ≤ a1 ∧ a1 < 4) (b2 : (((0 : Int32) ≤ a1 ∧ a1 ≤ 3)) → (¬ ((f45 (a1 : Int32).toNatClampNeg) = (-1))) → 0 ≤ a1 ∧ a1 < 4) (b3 : (((0 : Int32) ≤ a1 ∧ a1 ≤ 3)) → (¬ ((f45 (a1 : Int32).toNatClampNeg) = (-1))) → 0 ≤ a1 ∧ a1 < 4) (l1 : (((0 : Int32) ≤ a1 ∧ a1 ≤ 3)) → (¬ ((f45 (a1 : Int32).toNatClampNeg) = (-1))) → Q (some (.int (f45 (a1 : Int32).toNatClampNeg))) (zwI (I, J, zR, 81) 45 (a1 : Int32).toNatClampNeg (-1))) (l2 : (((0 : Int32) ≤ a1 ∧ a1 ≤ 3)) → ((f45 (a1 : Int32).toNatClampNeg) = (-1)) → Q (some (.int ((-10) - 1))) (zwI (I, J, zR, 81) 42 1 1)) (l3 : (¬ (((0 : Int32) ≤ a1 ∧ a1 ≤ 3))) → Q (some (.int (-2))) (I, J, zR, 81)) : zT (d + 3) 82 81 [.ref 0, .int a1] (I, J, zR, 81) Q := by
  subst e45
  refine ⟨rfl, fun E At hE hC => ?_⟩
  replace hC : ∀ pc st L M', zX 81 E Q At (zlk B_X9_lose pc) st L M' → At pc st L M' := hC
  refine hC 0 [] [some (.ref 0), some (.int a1)] _ ?_
  refine hE _ _ _ _ _ (w_X9_isSheet _ _ _ _ _   (fun q1 => ?_) (fun q2 => ?_))
  · skip
    refine And.intro (fun _ => ?_) (fun qz => absurd qz (by decide))
    refine hC 10 [] [some (.ref 0), some (.int a1)] _ ?_
    refine hE _ _ _ _ _ (w_X7_discard _ _ _ _ _ rfl (b1 q1) (fun x0 => b2 q1 x0) (fun x0 => b3 q1 x0) (fun q3 => ?_) (fun q4 => ?_))
    · skip
      exact l1 q1 q3
    · skip
      exact l2 q1 q4
  · skip
    refine And.intro (fun qz => absurd qz (by decide)) (fun _ => ?_)
    exact l3 q2
theorem w_X9_put (d : Nat) (I : Nat → Nat → Int32) (J : Nat → Nat → Int64) (a1 : Int32) (a2 : Int32) (a3 : Int32) (a4 : Int32) (Q : Option Value → zM → Prop) {f44 : Nat → Int32} (e44 : I 44 = f44) {f45 : Nat → Int32} (e45 : I 45 = f45) (b1 : (((0 : Int32) ≤ a1 ∧ a1 ≤ 3)) → (((0 : Int32) ≤ a2 ∧ a2 ≤ 2)) → 0 ≤ a1 ∧ a1 < 4) (b2 : (((0 : Int32) ≤ a1 ∧ a1 ≤ 3)) → (((0 : Int32) ≤ a2 ∧ a2 ≤ 2)) → (¬ ((f45 (a1 : Int32).toNatClampNeg) = (-1))) → 0 ≤ a1 ∧ a1 < 4) (b3 : (((0 : Int32) ≤ a1 ∧ a1 ≤ 3)) → (((0 : Int32) ≤ a2 ∧ a2 ≤ 2)) → (¬ ((f45 (a1 : Int32).toNatClampNeg) = (-1))) → ((f44 (a1 : Int32).toNatClampNeg) = a2) → (¬ (a3 < 0)) → 0 ≤ a1 ∧ a1 < 4) (b4 : (((0 : Int32) ≤ a1 ∧ a1 ≤ 3)) → (((0 : Int32) ≤ a2 ∧ a2 ≤ 2)) → (¬ ((f45 (a1 : Int32).toNatClampNeg) = (-1))) → ((f44 (a1 : Int32).toNatClampNeg) = a2) → (¬ (a3 < 0)) → (a3 < (f45 (a1 : Int32).toNatClampNeg)) → 0 ≤ a1 ∧ a1 < 4) (b5 : (((0 : Int32) ≤ a1 ∧ a1 ≤ 3)) → (((0 : Int32) ≤ a2 ∧ a2 ≤ 2)) → (¬ ((f45 (a1 : Int32).toNatClampNeg) = (-1))) → ((f44 (a1 : Int32).toNatClampNeg) = a2) → (¬ (a3 < 0)) → (a3 < (f45 (a1 : Int32).toNatClampNeg)) → (¬ ((f44 (a1 : Int32).toNatClampNeg) = 0)) → 0 ≤ a1 ∧ a1 < 4) (b6 : (((0 : Int32) ≤ a1 ∧ a1 ≤ 3)) → (((0 : Int32) ≤ a2 ∧ a2 ≤ 2)) → (¬ ((f45 (a1 : Int32).toNatClampNeg) = (-1))) → ((f44 (a1 : Int32).toNatClampNeg) = a2) → (¬ (a3 < 0)) → (a3 < (f45 (a1 : Int32).toNatClampNeg)) → (¬ ((f44 (a1 : Int32).toNatClampNeg) = 0)) → (¬ ((f44 (a1 : Int32).toNatClampNeg) = 1)) → 0 ≤ ((a1 * 200) + a3) ∧ ((a1 * 200) + a3) < 800) (b7 : (((0 : Int32) ≤ a1 ∧ a1 ≤ 3)) → (((0 : Int32) ≤ a2 ∧ a2 ≤ 2)) → (¬ ((f45 (a1 : Int32).toNatClampNeg) = (-1))) → ((f44 (a1 : Int32).toNatClampNeg) = a2) → (¬ (a3 < 0)) → (a3 < (f45 (a1 : Int32).toNatClampNeg)) → (¬ ((f44 (a1 : Int32).toNatClampNeg) = 0)) → ((f44 (a1 : Int32).toNatClampNeg) = 1) → 0 ≤ ((a1 * 200) + a3) ∧ ((a1 * 200) + a3) < 800) (b8 : (((0 : Int32) ≤ a1 ∧ a1 ≤ 3)) → (((0 : Int32) ≤ a2 ∧ a2 ≤ 2)) → (¬ ((f45 (a1 : Int32).toNatClampNeg) = (-1))) → ((f44 (a1 : Int32).toNatClampNeg) = a2) → (¬ (a3 < 0)) → (a3 < (f45 (a1 : Int32).toNatClampNeg)) → ((f44 (a1 : Int32).toNatClampNeg) = 0) → 0 ≤ ((a1 * 200) + a3) ∧ ((a1 * 200) + a3) < 800) (l1 : (((0 : Int32) ≤ a1 ∧ a1 ≤ 3)) → (((0 : Int32) ≤ a2 ∧ a2 ≤ 2)) → (¬ ((f45 (a1 : Int32).toNatClampNeg) = (-1))) → ((f44 (a1 : Int32).toNatClampNeg) = a2) → (a3 < 0) → Q (some (.int ((-10) - 2))) (zwI (I, J, zR, 81) 42 1 2)) (l2 : (((0 : Int32) ≤ a1 ∧ a1 ≤ 3)) → (((0 : Int32) ≤ a2 ∧ a2 ≤ 2)) → (¬ ((f45 (a1 : Int32).toNatClampNeg) = (-1))) → ((f44 (a1 : Int32).toNatClampNeg) = a2) → (¬ (a3 < 0)) → (a3 < (f45 (a1 : Int32).toNatClampNeg)) → (¬ ((f44 (a1 : Int32).toNatClampNeg) = 0)) → (¬ ((f44 (a1 : Int32).toNatClampNeg) = 1)) → Q (some (.int 1)) (zwI (I, J, zR, 81) 43 (((a1 * 200) + a3) : Int32).toNatClampNeg a4)) (l3 : (((0 : Int32) ≤ a1 ∧ a1 ≤ 3)) → (((0 : Int32) ≤ a2 ∧ a2 ≤ 2)) → (¬ ((f45 (a1 : Int32).toNatClampNeg) = (-1))) → ((f44 (a1 : Int32).toNatClampNeg) = a2) → (¬ (a3 < 0)) → (a3 < (f45 (a1 : Int32).toNatClampNeg)) → (¬ ((f44 (a1 : Int32).toNatClampNeg) = 0)) → ((f44 (a1 : Int32).toNatClampNeg) = 1) → Q (some (.int 1)) (zwI (I, J, zR, 81) 43 (((a1 * 200) + a3) : Int32).toNatClampNeg (a4).toInt16.toInt32)) (l4 : (((0 : Int32) ≤ a1 ∧ a1 ≤ 3)) → (((0 : Int32) ≤ a2 ∧ a2 ≤ 2)) → (¬ ((f45 (a1 : Int32).toNatClampNeg) = (-1))) → ((f44 (a1 : Int32).toNatClampNeg) = a2) → (¬ (a3 < 0)) → (a3 < (f45 (a1 : Int32).toNatClampNeg)) → ((f44 (a1 : Int32).toNatClampNeg) = 0) → Q (some (.int 1)) (zwI (I, J, zR, 81) 43 (((a1 * 200) + a3) : Int32).toNatClampNeg (a4).toInt8.toInt32)) (l5 : (((0 : Int32) ≤ a1 ∧ a1 ≤ 3)) → (((0 : Int32) ≤ a2 ∧ a2 ≤ 2)) → (¬ ((f45 (a1 : Int32).toNatClampNeg) = (-1))) → ((f44 (a1 : Int32).toNatClampNeg) = a2) → (¬ (a3 < 0)) → (¬ (a3 < (f45 (a1 : Int32).toNatClampNeg))) → Q (some (.int ((-10) - 2))) (zwI (I, J, zR, 81) 42 1 2)) (l6 : (((0 : Int32) ≤ a1 ∧ a1 ≤ 3)) → (((0 : Int32) ≤ a2 ∧ a2 ≤ 2)) → (¬ ((f45 (a1 : Int32).toNatClampNeg) = (-1))) → (¬ ((f44 (a1 : Int32).toNatClampNeg) = a2)) → Q (some (.int ((-10) - 3))) (zwI (I, J, zR, 81) 42 1 3)) (l7 : (((0 : Int32) ≤ a1 ∧ a1 ≤ 3)) → (((0 : Int32) ≤ a2 ∧ a2 ≤ 2)) → ((f45 (a1 : Int32).toNatClampNeg) = (-1)) → Q (some (.int ((-10) - 1))) (zwI (I, J, zR, 81) 42 1 1)) (l8 : (((0 : Int32) ≤ a1 ∧ a1 ≤ 3)) → (¬ (((0 : Int32) ≤ a2 ∧ a2 ≤ 2))) → Q (some (.int (-2))) (I, J, zR, 81)) (l9 : (¬ (((0 : Int32) ≤ a1 ∧ a1 ≤ 3))) → Q (some (.int (-2))) (I, J, zR, 81)) : zT (d + 3) 83 81 [.ref 0, .int a1, .int a2, .int a3, .int a4] (I, J, zR, 81) Q := by
  subst e44 e45
  refine ⟨rfl, fun E At hE hC => ?_⟩
  replace hC : ∀ pc st L M', zX 81 E Q At (zlk B_X9_put pc) st L M' → At pc st L M' := hC
  refine hC 0 [] [some (.ref 0), some (.int a1), some (.int a2), some (.int a3), some (.int a4), none] _ ?_
  refine hE _ _ _ _ _ (w_X9_isSheet _ _ _ _ _   (fun q1 => ?_) (fun q2 => ?_))
  · skip
    refine And.intro (fun qz => absurd qz (by decide)) (fun _ => ?_)
    refine hE _ _ _ _ _ (w_X9_isForm _ _ _ _ _   (fun q3 => ?_) (fun q4 => ?_))
    · skip
      refine And.intro (fun _ => ?_) (fun qz => absurd qz (by decide))
      refine hC 17 [] [some (.ref 0), some (.int a1), some (.int a2), some (.int a3), some (.int a4), none] _ ?_
      refine hE _ _ _ _ _ (w_X7_faultOf _ _ _ _ _ _ _ rfl rfl (b1 q1 q3) (fun x0 => b2 q1 q3 x0) (fun x0 x1 x2 => b3 q1 q3 x0 x1 x2) (fun q5 q6 q7 => ?_) (fun q8 q9 q10 q11 => ?_) (fun q12 q13 q14 q15 => ?_) (fun q16 q17 => ?_) (fun q18 => ?_))
      · skip
        refine And.intro (fun qz => absurd qz (by decide)) (fun _ => ?_)
        refine hE _ _ _ _ _ (w_X7_found _ _ _ (2) _   (?_))
        · skip
          exact l1 q1 q3 q5 q6 q7
      · skip
        refine And.intro (fun _ => ?_) (fun qz => absurd qz (by decide))
        refine hC 44 [] [some (.ref 0), some (.int a1), some (.int a2), some (.int a3), some (.int a4), some (.int 0)] _ ?_
        refine hE _ _ _ _ _ (w_X7_write _ _ _ _ _ _ _ rfl (b4 q1 q3 q8 q9 q10 q11) (fun x0 => b5 q1 q3 q8 q9 q10 q11 x0) (fun x0 x1 => b6 q1 q3 q8 q9 q10 q11 x0 x1) (fun x0 x1 => b7 q1 q3 q8 q9 q10 q11 x0 x1) (fun x0 => b8 q1 q3 q8 q9 q10 q11 x0) (fun q19 q20 => ?_) (fun q21 q22 => ?_) (fun q23 => ?_))
        · skip
          exact l2 q1 q3 q8 q9 q10 q11 q19 q20
        · skip
          exact l3 q1 q3 q8 q9 q10 q11 q21 q22
        · skip
          exact l4 q1 q3 q8 q9 q10 q11 q23
      · skip
        refine And.intro (fun qz => absurd qz (by decide)) (fun _ => ?_)
        refine hE _ _ _ _ _ (w_X7_found _ _ _ (2) _   (?_))
        · skip
          exact l5 q1 q3 q12 q13 q14 q15
      · skip
        refine And.intro (fun qz => absurd qz (by decide)) (fun _ => ?_)
        refine hE _ _ _ _ _ (w_X7_found _ _ _ (3) _   (?_))
        · skip
          exact l6 q1 q3 q16 q17
      · skip
        refine And.intro (fun qz => absurd qz (by decide)) (fun _ => ?_)
        refine hE _ _ _ _ _ (w_X7_found _ _ _ (1) _   (?_))
        · skip
          exact l7 q1 q3 q18
    · skip
      refine And.intro (fun qz => absurd qz (by decide)) (fun _ => ?_)
      refine hC 14 [] [some (.ref 0), some (.int a1), some (.int a2), some (.int a3), some (.int a4), none] _ ?_
      exact l8 q1 q4
  · skip
    refine And.intro (fun _ => ?_) (fun qz => absurd qz (by decide))
    refine hC 14 [] [some (.ref 0), some (.int a1), some (.int a2), some (.int a3), some (.int a4), none] _ ?_
    exact l9 q2
