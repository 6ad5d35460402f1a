theorem w_X0_enter (d : Nat) (I : Nat → Nat → Int32) (J : Nat → Nat → Int64) (Q : Option Value → zM → Prop) {s17_0 : Int32} (e17_0 : I 17 0 = s17_0) {s17_1 : Int32} (e17_1 : I 17 1 = s17_1) {s17_2 : Int32} (e17_2 : I 17 2 = s17_2) {s17_3 : Int32} (e17_3 : I 17 3 = s17_3) {s17_4 : Int32} (e17_4 : I 17 4 = s17_4) {s17_6 : Int32} (e17_6 : I 17 6 = s17_6) {s17_7 : Int32} (e17_7 : I 17 7 = s17_7) {s33_0 : Int32} (e33_0 : I 33 0 = s33_0) {s33_1 : Int32} (e33_1 : I 33 1 = s33_1) {s33_2 : Int32} (e33_2 : I 33 2 = s33_2) {s33_3 : Int32} (e33_3 : I 33 3 = s33_3) {s33_4 : Int32} (e33_4 : I 33 4 = s33_4) {s33_5 : Int32} (e33_5 : I 33 5 = s33_5) {s33_6 : Int32} (e33_6 : I 33 6 = s33_6) (l1 : Q none (zwI (zwI (zwI (zwI (zwI (zwI (zwI (I, J, zR, 81) 33 0 (s33_0 + s17_2)) 33 1 (s33_1 + s17_3)) 33 2 (s33_2 + s17_4)) 33 3 (s33_3 + s17_6)) 33 4 (s33_4 + s17_7)) 33 5 (s33_5 + s17_1)) 33 6 (s33_6 + s17_0))) : zT (d + 1) 1 81 [.ref 33, .ref 17] (I, J, zR, 81) Q := by
  subst e17_0 e17_1 e17_2 e17_3 e17_4 e17_6 e17_7 e33_0 e33_1 e33_2 e33_3 e33_4 e33_5 e33_6
  refine ⟨rfl, fun E At hE hC => ?_⟩
  replace hC : ∀ pc st L M', zX 81 E Q At (zlk B_X0_enter pc) st L M' → At pc st L M' := hC
  refine hC 0 [] [some (.ref 33), some (.ref 17)] _ ?_
  exact l1
theorem w_X1_latestWas (d : Nat) (I : Nat → Nat → Int32) (J : Nat → Nat → Int64) (a1 : Int32) (a2 : Int32) (Q : Option Value → zM → Prop) {f23 : Nat → Int32} (e23 : I 23 = f23) {s22_10 : Int32} (e22_10 : I 22 10 = s22_10) {s22_11 : Int32} (e22_11 : I 22 11 = s22_11) (b1 : (¬ (s22_10 ≤ 0)) → 0 ≤ (s22_10 - 1) ∧ (s22_10 - 1) < 200) (l1 : (s22_10 ≤ 0) → Q (some (.int 0)) (I, J, zR, 81)) (l2 : (¬ (s22_10 ≤ 0)) → (¬ ((f23 ((s22_10 - 1) : Int32).toNatClampNeg) = a1)) → Q (some (.int 0)) (I, J, zR, 81)) (l3 : (¬ (s22_10 ≤ 0)) → ((f23 ((s22_10 - 1) : Int32).toNatClampNeg) = a1) → (¬ (s22_11 = a2)) → Q (some (.int 0)) (I, J, zR, 81)) (l4 : (¬ (s22_10 ≤ 0)) → ((f23 ((s22_10 - 1) : Int32).toNatClampNeg) = a1) → (s22_11 = a2) → Q (some (.int 1)) (I, J, zR, 81)) : zT (d + 1) 4 81 [.ref 22, .int a1, .int a2] (I, J, zR, 81) Q := by
  subst e23 e22_10 e22_11
  refine ⟨rfl, fun E At hE hC => ?_⟩
  replace hC : ∀ pc st L M', zX 81 E Q At (zlk B_X1_latestWas pc) st L M' → At pc st L M' := hC
  refine hC 0 [] [some (.ref 22), some (.int a1), some (.int a2)] _ ?_
  refine And.intro (fun q1 => ?_) (fun q1 => ?_)
  · skip
    refine hC 34 [] [some (.ref 22), some (.int a1), some (.int a2)] _ ?_
    refine hC 35 [.int 0] [some (.ref 22), some (.int a1), some (.int a2)] _ ?_
    exact And.intro (Or.inl rfl) (l1 q1)
  · skip
    refine And.intro (zvp (b1 q1) rfl) ?_
    refine And.intro (fun q2 => ?_) (fun q2 => ?_)
    · skip
      refine hC 34 [] [some (.ref 22), some (.int a1), some (.int a2)] _ ?_
      refine hC 35 [.int 0] [some (.ref 22), some (.int a1), some (.int a2)] _ ?_
      exact And.intro (Or.inl rfl) (l2 q1 q2)
    · skip
      refine And.intro (fun q3 => ?_) (fun q3 => ?_)
      · skip
        refine hC 34 [] [some (.ref 22), some (.int a1), some (.int a2)] _ ?_
        refine hC 35 [.int 0] [some (.ref 22), some (.int a1), some (.int a2)] _ ?_
        exact And.intro (Or.inl rfl) (l3 q1 q2 q3)
      · skip
        refine hC 35 [.int 1] [some (.ref 22), some (.int a1), some (.int a2)] _ ?_
        exact And.intro (Or.inr rfl) (l4 q1 q2 q3)
theorem w_X1_add (d : Nat) (I : Nat → Nat → Int32) (J : Nat → Nat → Int64) (a1 : Int32) (a3 : Int32) (a4 : Int32) (a5 : Int32) (Q : Option Value → zM → Prop) {s17_0 : Int32} (e17_0 : I 17 0 = s17_0) {s17_1 : Int32} (e17_1 : I 17 1 = s17_1) {s17_4 : Int32} (e17_4 : I 17 4 = s17_4) {s17_6 : Int32} (e17_6 : I 17 6 = s17_6) {s17_7 : Int32} (e17_7 : I 17 7 = s17_7) {s22_10 : Int32} (e22_10 : I 22 10 = s22_10) (b1 : (s22_10 < 200) → 0 ≤ s22_10 ∧ s22_10 < 200) (b2 : (s22_10 < 200) → 0 ≤ s22_10 ∧ s22_10 < 200) (b3 : (s22_10 < 200) → 0 ≤ s22_10 ∧ s22_10 < 200) (b4 : (s22_10 < 200) → 0 ≤ s22_10 ∧ s22_10 < 200) (b5 : (s22_10 < 200) → 0 ≤ s22_10 ∧ s22_10 < 200) (b6 : (s22_10 < 200) → 0 ≤ s22_10 ∧ s22_10 < 200) (b7 : (s22_10 < 200) → 0 ≤ s22_10 ∧ s22_10 < 200) (b8 : (s22_10 < 200) → 0 ≤ s22_10 ∧ s22_10 < 200) (b9 : (s22_10 < 200) → 0 ≤ s22_10 ∧ s22_10 < 200) (l1 : (s22_10 < 200) → Q none (zwI (zwI (zwI (zwI (zwI (zwI (zwI (zwI (zwI (zwI (zwI (I, J, zR, 81) 23 (s22_10 : Int32).toNatClampNeg a1) 24 (s22_10 : Int32).toNatClampNeg s17_0) 25 (s22_10 : Int32).toNatClampNeg s17_1) 26 (s22_10 : Int32).toNatClampNeg s17_6) 27 (s22_10 : Int32).toNatClampNeg s17_7) 28 (s22_10 : Int32).toNatClampNeg s17_4) 29 (s22_10 : Int32).toNatClampNeg (-1)) 30 (s22_10 : Int32).toNatClampNeg a3) 31 (s22_10 : Int32).toNatClampNeg a4) 22 10 (s22_10 + 1)) 22 11 a5)) (l2 : (¬ (s22_10 < 200)) → Q none (I, J, zR, 81)) : zT (d + 1) 5 81 [.ref 22, .int a1, .ref 17, .int a3, .int a4, .int a5] (I, J, zR, 81) Q := by
  subst e17_0 e17_1 e17_4 e17_6 e17_7 e22_10
  refine ⟨rfl, fun E At hE hC => ?_⟩
  replace hC : ∀ pc st L M', zX 81 E Q At (zlk B_X1_add pc) st L M' → At pc st L M' := hC
  refine hC 0 [] [some (.ref 22), some (.int a1), some (.ref 17), some (.int a3), some (.int a4), some (.int a5)] _ ?_
  refine And.intro (fun q1 => ?_) (fun q1 => ?_)
  · skip
    refine hC 11 [] [some (.ref 22), some (.int a1), some (.ref 17), some (.int a3), some (.int a4), some (.int a5)] _ ?_
    refine And.intro (zvp (b1 q1) rfl) ?_
    refine And.intro (zvp (b2 q1) rfl) ?_
    refine And.intro (zvp (b3 q1) rfl) ?_
    refine And.intro (zvp (b4 q1) rfl) ?_
    refine And.intro (zvp (b5 q1) rfl) ?_
    refine And.intro (zvp (b6 q1) rfl) ?_
    refine And.intro (zvp (b7 q1) rfl) ?_
    refine And.intro (zvp (b8 q1) rfl) ?_
    refine And.intro (zvp (b9 q1) rfl) ?_
    exact l1 q1
  · skip
    exact l2 q1
theorem w_X1_waits (d : Nat) (I : Nat → Nat → Int32) (J : Nat → Nat → Int64) (a1 : Int32) (Q : Option Value → zM → Prop) {f26 : Nat → Int32} (e26 : I 26 = f26) {f29 : Nat → Int32} (e29 : I 29 = f29) (b1 : 0 ≤ a1 ∧ a1 < 200) (b2 : (¬ ((f26 (a1 : Int32).toNatClampNeg) ≤ 0)) → 0 ≤ a1 ∧ a1 < 200) (l1 : ((f26 (a1 : Int32).toNatClampNeg) ≤ 0) → Q (some (.int 0)) (I, J, zR, 81)) (l2 : (¬ ((f26 (a1 : Int32).toNatClampNeg) ≤ 0)) → (¬ ((f29 (a1 : Int32).toNatClampNeg) = (-1))) → Q (some (.int 0)) (I, J, zR, 81)) (l3 : (¬ ((f26 (a1 : Int32).toNatClampNeg) ≤ 0)) → ((f29 (a1 : Int32).toNatClampNeg) = (-1)) → Q (some (.int 1)) (I, J, zR, 81)) : zT (d + 1) 6 81 [.ref 22, .int a1] (I, J, zR, 81) Q := by
  subst e26 e29
  refine ⟨rfl, fun E At hE hC => ?_⟩
  replace hC : ∀ pc st L M', zX 81 E Q At (zlk B_X1_waits pc) st L M' → At pc st L M' := hC
  refine hC 0 [] [some (.ref 22), some (.int a1)] _ ?_
  refine And.intro (zvp (b1) rfl) ?_
  refine And.intro (fun q1 => ?_) (fun q1 => ?_)
  · skip
    refine hC 23 [] [some (.ref 22), some (.int a1)] _ ?_
    refine hC 24 [.int 0] [some (.ref 22), some (.int a1)] _ ?_
    exact And.intro (Or.inl rfl) (l1 q1)
  · skip
    refine And.intro (zvp (b2 q1) rfl) ?_
    refine And.intro (fun q2 => ?_) (fun q2 => ?_)
    · skip
      refine hC 23 [] [some (.ref 22), some (.int a1)] _ ?_
      refine hC 24 [.int 0] [some (.ref 22), some (.int a1)] _ ?_
      exact And.intro (Or.inl rfl) (l2 q1 q2)
    · skip
      refine hC 24 [.int 1] [some (.ref 22), some (.int a1)] _ ?_
      exact And.intro (Or.inr rfl) (l3 q1 q2)
theorem w_X2_add (d : Nat) (I : Nat → Nat → Int32) (J : Nat → Nat → Int64) (a1 : Int32) (a2 : Int32) (Q : Option Value → zM → Prop) {s10_5 : Int32} (e10_5 : I 10 5 = s10_5) (b1 : (s10_5 < 12) → 0 ≤ s10_5 ∧ s10_5 < 12) (b2 : (s10_5 < 12) → 0 ≤ s10_5 ∧ s10_5 < 12) (b3 : (s10_5 < 12) → 0 ≤ s10_5 ∧ s10_5 < 12) (l1 : (s10_5 < 12) → Q (some (.int ((s10_5 + 1) - 1))) (zwI (zwI (zwI (zwI (I, J, zR, 81) 11 (s10_5 : Int32).toNatClampNeg a1) 12 (s10_5 : Int32).toNatClampNeg a2) 15 (s10_5 : Int32).toNatClampNeg (-1)) 10 5 (s10_5 + 1))) (l2 : (¬ (s10_5 < 12)) → Q (some (.int (-4))) (I, J, zR, 81)) : zT (d + 1) 16 81 [.ref 10, .int a1, .int a2] (I, J, zR, 81) Q := by
  subst e10_5
  refine ⟨rfl, fun E At hE hC => ?_⟩
  replace hC : ∀ pc st L M', zX 81 E Q At (zlk B_X2_add pc) st L M' → At pc st L M' := hC
  refine hC 0 [] [some (.ref 10), some (.int a1), some (.int a2)] _ ?_
  refine And.intro (fun q1 => ?_) (fun q1 => ?_)
  · skip
    refine hC 12 [] [some (.ref 10), some (.int a1), some (.int a2)] _ ?_
    refine And.intro (zvp (b1 q1) rfl) ?_
    refine And.intro (zvp (b2 q1) rfl) ?_
    refine And.intro (zvp (b3 q1) rfl) ?_
    exact l1 q1
  · skip
    exact l2 q1
theorem w_X2_isWarm (d : Nat) (I : Nat → Nat → Int32) (J : Nat → Nat → Int64) (a1 : Int32) (Q : Option Value → zM → Prop) {f15 : Nat → Int32} (e15 : I 15 = f15) (b1 : 0 ≤ a1 ∧ a1 < 12) (l1 : ((f15 (a1 : Int32).toNatClampNeg) = (-1)) → Q (some (.int 0)) (I, J, zR, 81)) (l2 : (¬ ((f15 (a1 : Int32).toNatClampNeg) = (-1))) → Q (some (.int 1)) (I, J, zR, 81)) : zT (d + 1) 17 81 [.ref 10, .int a1] (I, J, zR, 81) Q := by
  subst e15
  refine ⟨rfl, fun E At hE hC => ?_⟩
  replace hC : ∀ pc st L M', zX 81 E Q At (zlk B_X2_isWarm pc) st L M' → At pc st L M' := hC
  refine hC 0 [] [some (.ref 10), some (.int a1)] _ ?_
  refine And.intro (zvp (b1) rfl) ?_
  refine And.intro (fun q1 => ?_) (fun q1 => ?_)
  · skip
    refine hC 14 [] [some (.ref 10), some (.int a1)] _ ?_
    refine hC 15 [.int 0] [some (.ref 10), some (.int a1)] _ ?_
    exact And.intro (Or.inl rfl) (l1 q1)
  · skip
    refine hC 15 [.int 1] [some (.ref 10), some (.int a1)] _ ?_
    exact And.intro (Or.inr rfl) (l2 q1)
theorem w_X2_ticksWarm (d : Nat) (I : Nat → Nat → Int32) (J : Nat → Nat → Int64) (a1 : Int32) (a2 : Int32) (Q : Option Value → zM → Prop) {f15 : Nat → Int32} (e15 : I 15 = f15) (b1 : 0 ≤ a1 ∧ a1 < 12) (b2 : (¬ ((f15 (a1 : Int32).toNatClampNeg) = (-1))) → 0 ≤ a1 ∧ a1 < 12) (l1 : ((f15 (a1 : Int32).toNatClampNeg) = (-1)) → Q (some (.int (-1))) (I, J, zR, 81)) (l2 : (¬ ((f15 (a1 : Int32).toNatClampNeg) = (-1))) → Q (some (.int (a2 - (f15 (a1 : Int32).toNatClampNeg)))) (I, J, zR, 81)) : zT (d + 2) 18 81 [.ref 10, .int a1, .int a2] (I, J, zR, 81) Q := by
  subst e15
  refine ⟨rfl, fun E At hE hC => ?_⟩
  replace hC : ∀ pc st L M', zX 81 E Q At (zlk B_X2_ticksWarm pc) st L M' → At pc st L M' := hC
  refine hC 0 [] [some (.ref 10), some (.int a1), some (.int a2)] _ ?_
  refine hE _ _ _ _ _ (w_X2_isWarm _ _ _ _ _ rfl (b1) (fun q1 => ?_) (fun q2 => ?_))
  · skip
    refine And.intro (fun _ => ?_) (fun qz => absurd qz (by decide))
    refine hC 19 [] [some (.ref 10), some (.int a1), some (.int a2)] _ ?_
    refine hC 20 [.int (-1)] [some (.ref 10), some (.int a1), some (.int a2)] _ ?_
    exact l1 q1
  · skip
    refine And.intro (fun qz => absurd qz (by decide)) (fun _ => ?_)
    refine And.intro (zvp (b2 q2) rfl) ?_
    refine hC 20 [.int (a2 - (I 15 (a1 : Int32).toNatClampNeg))] [some (.ref 10), some (.int a1), some (.int a2)] _ ?_
    exact l2 q2
theorem w_X2_mayPress (d : Nat) (I : Nat → Nat → Int32) (J : Nat → Nat → Int64) (a1 : Int32) (a2 : Int32) (Q : Option Value → zM → Prop) {f12 : Nat → Int32} (e12 : I 12 = f12) {f13 : Nat → Int32} (e13 : I 13 = f13) {f15 : Nat → Int32} (e15 : I 15 = f15) (b1 : 0 ≤ a1 ∧ a1 < 12) (b2 : (¬ ((f15 (a1 : Int32).toNatClampNeg) = (-1))) → 0 ≤ a1 ∧ a1 < 12) (b3 : (¬ ((f15 (a1 : Int32).toNatClampNeg) = (-1))) → (((3 : Int32) ≤ (a2 - (f15 (a1 : Int32).toNatClampNeg)) ∧ (a2 - (f15 (a1 : Int32).toNatClampNeg)) ≤ 12)) → 0 ≤ a1 ∧ a1 < 12) (b4 : (¬ ((f15 (a1 : Int32).toNatClampNeg) = (-1))) → (((3 : Int32) ≤ (a2 - (f15 (a1 : Int32).toNatClampNeg)) ∧ (a2 - (f15 (a1 : Int32).toNatClampNeg)) ≤ 12)) → 0 ≤ a1 ∧ a1 < 12) (l1 : ((f15 (a1 : Int32).toNatClampNeg) = (-1)) → Q (some (.int 0)) (I, J, zR, 81)) (l2 : (¬ ((f15 (a1 : Int32).toNatClampNeg) = (-1))) → (((3 : Int32) ≤ (a2 - (f15 (a1 : Int32).toNatClampNeg)) ∧ (a2 - (f15 (a1 : Int32).toNatClampNeg)) ≤ 12)) → ((f12 (a1 : Int32).toNatClampNeg) ≤ (f13 (a1 : Int32).toNatClampNeg)) → Q (some (.int 0)) (I, J, zR, 81)) (l3 : (¬ ((f15 (a1 : Int32).toNatClampNeg) = (-1))) → (((3 : Int32) ≤ (a2 - (f15 (a1 : Int32).toNatClampNeg)) ∧ (a2 - (f15 (a1 : Int32).toNatClampNeg)) ≤ 12)) → (¬ ((f12 (a1 : Int32).toNatClampNeg) ≤ (f13 (a1 : Int32).toNatClampNeg))) → Q (some (.int 1)) (I, J, zR, 81)) (l4 : (¬ ((f15 (a1 : Int32).toNatClampNeg) = (-1))) → (¬ (((3 : Int32) ≤ (a2 - (f15 (a1 : Int32).toNatClampNeg)) ∧ (a2 - (f15 (a1 : Int32).toNatClampNeg)) ≤ 12))) → Q (some (.int 0)) (I, J, zR, 81)) : zT (d + 3) 19 81 [.ref 10, .int a1, .int a2] (I, J, zR, 81) Q := by
  subst e12 e13 e15
  refine ⟨rfl, fun E At hE hC => ?_⟩
  replace hC : ∀ pc st L M', zX 81 E Q At (zlk B_X2_mayPress pc) st L M' → At pc st L M' := hC
  refine hC 0 [] [some (.ref 10), some (.int a1), some (.int a2)] _ ?_
  refine hE _ _ _ _ _ (w_X2_ticksWarm _ _ _ _ _ _ rfl (b1) (fun x0 => b2 x0) (fun q1 => ?_) (fun q2 => ?_))
  · skip
    refine hE _ _ _ _ _ (w_within _ _ _ ((-1)) (3) (12) _   (fun q3 => ?_) (fun q4 => ?_))
    · skip
      exact absurd q3 (by decide)
    · skip
      refine And.intro (fun _ => ?_) (fun qz => absurd qz (by decide))
      refine hC 34 [] [some (.ref 10), some (.int a1), some (.int a2)] _ ?_
      refine hC 35 [.int 0] [some (.ref 10), some (.int a1), some (.int a2)] _ ?_
      exact And.intro (Or.inl rfl) (l1 q1)
  · skip
    refine hE _ _ _ _ _ (w_within _ _ _ _ (3) (12) _   (fun q5 => ?_) (fun q6 => ?_))
    · skip
      refine And.intro (fun qz => absurd qz (by decide)) (fun _ => ?_)
      refine And.intro (zvp (b3 q2 q5) rfl) ?_
      refine And.intro (zvp (b4 q2 q5) rfl) ?_
      refine And.intro (fun q7 => ?_) (fun q7 => ?_)
      · skip
        refine hC 34 [] [some (.ref 10), some (.int a1), some (.int a2)] _ ?_
        refine hC 35 [.int 0] [some (.ref 10), some (.int a1), some (.int a2)] _ ?_
        exact And.intro (Or.inl rfl) (l2 q2 q5 q7)
      · skip
        refine hC 35 [.int 1] [some (.ref 10), some (.int a1), some (.int a2)] _ ?_
        exact And.intro (Or.inr rfl) (l3 q2 q5 q7)
    · skip
      refine And.intro (fun _ => ?_) (fun qz => absurd qz (by decide))
      refine hC 34 [] [some (.ref 10), some (.int a1), some (.int a2)] _ ?_
      refine hC 35 [.int 0] [some (.ref 10), some (.int a1), some (.int a2)] _ ?_
      exact And.intro (Or.inl rfl) (l4 q2 q6)
theorem w_X2_wear (d : Nat) (I : Nat → Nat → Int32) (J : Nat → Nat → Int64) (a1 : Int32) (Q : Option Value → zM → Prop) {f13 : Nat → Int32} (e13 : I 13 = f13) {f14 : Nat → Int32} (e14 : I 14 = f14) (b1 : 0 ≤ a1 ∧ a1 < 12) (b2 : 0 ≤ a1 ∧ a1 < 12) (b3 : 0 ≤ a1 ∧ a1 < 12) (b4 : 0 ≤ a1 ∧ a1 < 12) (l1 : Q none (zwI (zwI (I, J, zR, 81) 13 (a1 : Int32).toNatClampNeg ((f13 (a1 : Int32).toNatClampNeg) + 1)) 14 (a1 : Int32).toNatClampNeg ((f14 (a1 : Int32).toNatClampNeg) + 1))) : zT (d + 1) 21 81 [.ref 10, .int a1] (I, J, zR, 81) Q := by
  subst e13 e14
  refine ⟨rfl, fun E At hE hC => ?_⟩
  replace hC : ∀ pc st L M', zX 81 E Q At (zlk B_X2_wear pc) st L M' → At pc st L M' := hC
  refine hC 0 [] [some (.ref 10), some (.int a1)] _ ?_
  refine And.intro (zvp (b1) rfl) ?_
  refine And.intro (zvp (b2) rfl) ?_
  refine And.intro (zvp (b3) rfl) ?_
  refine And.intro (zvp (b4) rfl) ?_
  exact l1
theorem w_X3_add (d : Nat) (I : Nat → Nat → Int32) (J : Nat → Nat → Int64) (a1 : Int32) (a2 : Int32) (a3 : Int32) (Q : Option Value → zM → Prop) {f7 : Nat → Int32} (e7 : I 7 = f7) (b1 : 0 ≤ a1 ∧ a1 < 8) (b2 : ((f7 (a1 : Int32).toNatClampNeg) < 3) → 0 ≤ ((a1 * 3) + (f7 (a1 : Int32).toNatClampNeg)) ∧ ((a1 * 3) + (f7 (a1 : Int32).toNatClampNeg)) < 24) (b3 : ((f7 (a1 : Int32).toNatClampNeg) < 3) → 0 ≤ ((a1 * 3) + (f7 (a1 : Int32).toNatClampNeg)) ∧ ((a1 * 3) + (f7 (a1 : Int32).toNatClampNeg)) < 24) (b4 : ((f7 (a1 : Int32).toNatClampNeg) < 3) → 0 ≤ a1 ∧ a1 < 8) (b5 : ((f7 (a1 : Int32).toNatClampNeg) < 3) → 0 ≤ a1 ∧ a1 < 8) (l1 : ((f7 (a1 : Int32).toNatClampNeg) < 3) → Q (some (.int (f7 (a1 : Int32).toNatClampNeg))) (zwI (zwI (zwI (I, J, zR, 81) 8 (((a1 * 3) + (f7 (a1 : Int32).toNatClampNeg)) : Int32).toNatClampNeg a2) 9 (((a1 * 3) + (f7 (a1 : Int32).toNatClampNeg)) : Int32).toNatClampNeg a3) 7 (a1 : Int32).toNatClampNeg ((f7 (a1 : Int32).toNatClampNeg) + 1))) (l2 : (¬ ((f7 (a1 : Int32).toNatClampNeg) < 3)) → Q (some (.int (-4))) (I, J, zR, 81)) : zT (d + 1) 23 81 [.ref 6, .int a1, .int a2, .int a3] (I, J, zR, 81) Q := by
  subst e7
  refine ⟨rfl, fun E At hE hC => ?_⟩
  replace hC : ∀ pc st L M', zX 81 E Q At (zlk B_X3_add pc) st L M' → At pc st L M' := hC
  refine hC 0 [] [some (.ref 6), some (.int a1), some (.int a2), some (.int a3), none] _ ?_
  refine And.intro (zvp (b1) rfl) ?_
  refine And.intro (fun q1 => ?_) (fun q1 => ?_)
  · skip
    refine hC 17 [] [some (.ref 6), some (.int a1), some (.int a2), some (.int a3), some (.int (I 7 (a1 : Int32).toNatClampNeg))] _ ?_
    refine And.intro (zvp (b2 q1) rfl) ?_
    refine And.intro (zvp (b3 q1) rfl) ?_
    refine And.intro (zvp (b4 q1) rfl) ?_
    refine And.intro (zvp (b5 q1) rfl) ?_
    exact l1 q1
  · skip
    exact l2 q1
theorem w_X4_offer (d : Nat) (I : Nat → Nat → Int32) (J : Nat → Nat → Int64) (a1 : Int32) (a2 : Int32) (a3 : Int32) (Q : Option Value → zM → Prop) {f19 : Nat → Int32} (e19 : I 19 = f19) {f20 : Nat → Int32} (e20 : I 20 = f20) {s18_1 : Int32} (e18_1 : I 18 1 = s18_1) (l1 : ((((f19 (0 : Int32).toNatClampNeg) + (f19 (1 : Int32).toNatClampNeg)) + (f19 (2 : Int32).toNatClampNeg)) ≤ ((a1 + a2) + a3)) → (s18_1 < (((a1 * (f20 (0 : Int32).toNatClampNeg)) + (a2 * (f20 (1 : Int32).toNatClampNeg))) + (a3 * (f20 (2 : Int32).toNatClampNeg)))) → Q none (zwI (zwI (zwI (zwI (I, J, zR, 81) 18 1 (((a1 * (f20 (0 : Int32).toNatClampNeg)) + (a2 * (f20 (1 : Int32).toNatClampNeg))) + (a3 * (f20 (2 : Int32).toNatClampNeg)))) 19 (0 : Int32).toNatClampNeg a1) 19 (1 : Int32).toNatClampNeg a2) 19 (2 : Int32).toNatClampNeg a3)) (l2 : ((((f19 (0 : Int32).toNatClampNeg) + (f19 (1 : Int32).toNatClampNeg)) + (f19 (2 : Int32).toNatClampNeg)) ≤ ((a1 + a2) + a3)) → (¬ (s18_1 < (((a1 * (f20 (0 : Int32).toNatClampNeg)) + (a2 * (f20 (1 : Int32).toNatClampNeg))) + (a3 * (f20 (2 : Int32).toNatClampNeg))))) → (¬ ((((a1 * (f20 (0 : Int32).toNatClampNeg)) + (a2 * (f20 (1 : Int32).toNatClampNeg))) + (a3 * (f20 (2 : Int32).toNatClampNeg))) = s18_1)) → Q none (I, J, zR, 81)) (l3 : ((((f19 (0 : Int32).toNatClampNeg) + (f19 (1 : Int32).toNatClampNeg)) + (f19 (2 : Int32).toNatClampNeg)) ≤ ((a1 + a2) + a3)) → (¬ (s18_1 < (((a1 * (f20 (0 : Int32).toNatClampNeg)) + (a2 * (f20 (1 : Int32).toNatClampNeg))) + (a3 * (f20 (2 : Int32).toNatClampNeg))))) → ((((a1 * (f20 (0 : Int32).toNatClampNeg)) + (a2 * (f20 (1 : Int32).toNatClampNeg))) + (a3 * (f20 (2 : Int32).toNatClampNeg))) = s18_1) → Q none (I, J, zR, 81)) (l4 : (¬ ((((f19 (0 : Int32).toNatClampNeg) + (f19 (1 : Int32).toNatClampNeg)) + (f19 (2 : Int32).toNatClampNeg)) ≤ ((a1 + a2) + a3))) → (s18_1 < (((a1 * (f20 (0 : Int32).toNatClampNeg)) + (a2 * (f20 (1 : Int32).toNatClampNeg))) + (a3 * (f20 (2 : Int32).toNatClampNeg)))) → Q none (zwI (zwI (zwI (zwI (I, J, zR, 81) 18 1 (((a1 * (f20 (0 : Int32).toNatClampNeg)) + (a2 * (f20 (1 : Int32).toNatClampNeg))) + (a3 * (f20 (2 : Int32).toNatClampNeg)))) 19 (0 : Int32).toNatClampNeg a1) 19 (1 : Int32).toNatClampNeg a2) 19 (2 : Int32).toNatClampNeg a3)) (l5 : (¬ ((((f19 (0 : Int32).toNatClampNeg) + (f19 (1 : Int32).toNatClampNeg)) + (f19 (2 : Int32).toNatClampNeg)) ≤ ((a1 + a2) + a3))) → (¬ (s18_1 < (((a1 * (f20 (0 : Int32).toNatClampNeg)) + (a2 * (f20 (1 : Int32).toNatClampNeg))) + (a3 * (f20 (2 : Int32).toNatClampNeg))))) → (¬ ((((a1 * (f20 (0 : Int32).toNatClampNeg)) + (a2 * (f20 (1 : Int32).toNatClampNeg))) + (a3 * (f20 (2 : Int32).toNatClampNeg))) = s18_1)) → Q none (I, J, zR, 81)) (l6 : (¬ ((((f19 (0 : Int32).toNatClampNeg) + (f19 (1 : Int32).toNatClampNeg)) + (f19 (2 : Int32).toNatClampNeg)) ≤ ((a1 + a2) + a3))) → (¬ (s18_1 < (((a1 * (f20 (0 : Int32).toNatClampNeg)) + (a2 * (f20 (1 : Int32).toNatClampNeg))) + (a3 * (f20 (2 : Int32).toNatClampNeg))))) → ((((a1 * (f20 (0 : Int32).toNatClampNeg)) + (a2 * (f20 (1 : Int32).toNatClampNeg))) + (a3 * (f20 (2 : Int32).toNatClampNeg))) = s18_1) → Q none (zwI (zwI (zwI (zwI (I, J, zR, 81) 18 1 (((a1 * (f20 (0 : Int32).toNatClampNeg)) + (a2 * (f20 (1 : Int32).toNatClampNeg))) + (a3 * (f20 (2 : Int32).toNatClampNeg)))) 19 (0 : Int32).toNatClampNeg a1) 19 (1 : Int32).toNatClampNeg a2) 19 (2 : Int32).toNatClampNeg a3)) : zT (d + 1) 30 81 [.ref 18, .int a1, .int a2, .int a3] (I, J, zR, 81) Q := by
  subst e19 e20 e18_1
  refine ⟨rfl, fun E At hE hC => ?_⟩
  replace hC : ∀ pc st L M', zX 81 E Q At (zlk B_X4_offer pc) st L M' → At pc st L M' := hC
  refine hC 0 [] [some (.ref 18), some (.int a1), some (.int a2), some (.int a3), none, none] _ ?_
  refine And.intro zvl_0_3 ?_
  refine And.intro zvl_1_3 ?_
  refine And.intro zvl_2_3 ?_
  refine And.intro zvl_0_3 ?_
  refine And.intro zvl_1_3 ?_
  refine And.intro zvl_2_3 ?_
  refine And.intro (fun q1 => ?_) (fun q1 => ?_)
  · skip
    refine hC 60 [] [some (.ref 18), some (.int a1), some (.int a2), some (.int a3), some (.int (((a1 * (I 20 (0 : Int32).toNatClampNeg)) + (a2 * (I 20 (1 : Int32).toNatClampNeg))) + (a3 * (I 20 (2 : Int32).toNatClampNeg)))), none] _ ?_
    refine hC 61 [.int 0] [some (.ref 18), some (.int a1), some (.int a2), some (.int a3), some (.int (((a1 * (I 20 (0 : Int32).toNatClampNeg)) + (a2 * (I 20 (1 : Int32).toNatClampNeg))) + (a3 * (I 20 (2 : Int32).toNatClampNeg)))), none] _ ?_
    refine And.intro (fun q2 => ?_) (fun q2 => ?_)
    · skip
      refine hC 86 [] [some (.ref 18), some (.int a1), some (.int a2), some (.int a3), some (.int (((a1 * (I 20 (0 : Int32).toNatClampNeg)) + (a2 * (I 20 (1 : Int32).toNatClampNeg))) + (a3 * (I 20 (2 : Int32).toNatClampNeg)))), some (.int 0)] _ ?_
      refine And.intro zvl_0_3 ?_
      refine And.intro zvl_1_3 ?_
      refine And.intro zvl_2_3 ?_
      refine hC 113 [] [some (.ref 18), some (.int a1), some (.int a2), some (.int a3), some (.int (((a1 * (I 20 (0 : Int32).toNatClampNeg)) + (a2 * (I 20 (1 : Int32).toNatClampNeg))) + (a3 * (I 20 (2 : Int32).toNatClampNeg)))), some (.int 0)] _ ?_
      exact l1 q1 q2
    · skip
      refine And.intro (fun q3 => ?_) (fun q3 => ?_)
      · skip
        refine hC 113 [] [some (.ref 18), some (.int a1), some (.int a2), some (.int a3), some (.int (((a1 * (I 20 (0 : Int32).toNatClampNeg)) + (a2 * (I 20 (1 : Int32).toNatClampNeg))) + (a3 * (I 20 (2 : Int32).toNatClampNeg)))), some (.int 0)] _ ?_
        exact l2 q1 q2 q3
      · skip
        refine And.intro (fun _ => ?_) (fun qz => absurd qz (by decide))
        refine hC 113 [] [some (.ref 18), some (.int a1), some (.int a2), some (.int a3), some (.int (((a1 * (I 20 (0 : Int32).toNatClampNeg)) + (a2 * (I 20 (1 : Int32).toNatClampNeg))) + (a3 * (I 20 (2 : Int32).toNatClampNeg)))), some (.int 0)] _ ?_
        exact l3 q1 q2 q3
  · skip
    refine hC 61 [.int 1] [some (.ref 18), some (.int a1), some (.int a2), some (.int a3), some (.int (((a1 * (I 20 (0 : Int32).toNatClampNeg)) + (a2 * (I 20 (1 : Int32).toNatClampNeg))) + (a3 * (I 20 (2 : Int32).toNatClampNeg)))), none] _ ?_
    refine And.intro (fun q4 => ?_) (fun q4 => ?_)
    · skip
      refine hC 86 [] [some (.ref 18), some (.int a1), some (.int a2), some (.int a3), some (.int (((a1 * (I 20 (0 : Int32).toNatClampNeg)) + (a2 * (I 20 (1 : Int32).toNatClampNeg))) + (a3 * (I 20 (2 : Int32).toNatClampNeg)))), some (.int 1)] _ ?_
      refine And.intro zvl_0_3 ?_
      refine And.intro zvl_1_3 ?_
      refine And.intro zvl_2_3 ?_
      refine hC 113 [] [some (.ref 18), some (.int a1), some (.int a2), some (.int a3), some (.int (((a1 * (I 20 (0 : Int32).toNatClampNeg)) + (a2 * (I 20 (1 : Int32).toNatClampNeg))) + (a3 * (I 20 (2 : Int32).toNatClampNeg)))), some (.int 1)] _ ?_
      exact l4 q1 q4
    · skip
      refine And.intro (fun q5 => ?_) (fun q5 => ?_)
      · skip
        refine hC 113 [] [some (.ref 18), some (.int a1), some (.int a2), some (.int a3), some (.int (((a1 * (I 20 (0 : Int32).toNatClampNeg)) + (a2 * (I 20 (1 : Int32).toNatClampNeg))) + (a3 * (I 20 (2 : Int32).toNatClampNeg)))), some (.int 1)] _ ?_
        exact l5 q1 q4 q5
      · skip
        refine And.intro (fun qz => absurd qz (by decide)) (fun _ => ?_)
        refine hC 86 [] [some (.ref 18), some (.int a1), some (.int a2), some (.int a3), some (.int (((a1 * (I 20 (0 : Int32).toNatClampNeg)) + (a2 * (I 20 (1 : Int32).toNatClampNeg))) + (a3 * (I 20 (2 : Int32).toNatClampNeg)))), some (.int 1)] _ ?_
        refine And.intro zvl_0_3 ?_
        refine And.intro zvl_1_3 ?_
        refine And.intro zvl_2_3 ?_
        refine hC 113 [] [some (.ref 18), some (.int a1), some (.int a2), some (.int a3), some (.int (((a1 * (I 20 (0 : Int32).toNatClampNeg)) + (a2 * (I 20 (1 : Int32).toNatClampNeg))) + (a3 * (I 20 (2 : Int32).toNatClampNeg)))), some (.int 1)] _ ?_
        exact l6 q1 q4 q5
theorem w_X5_add (d : Nat) (I : Nat → Nat → Int32) (J : Nat → Nat → Int64) (a1 : Int32) (a2 : Int32) (a3 : Int32) (Q : Option Value → zM → Prop) {s35_1 : Int32} (e35_1 : I 35 1 = s35_1) (b1 : (s35_1 < 7) → 0 ≤ s35_1 ∧ s35_1 < 7) (b2 : (s35_1 < 7) → 0 ≤ s35_1 ∧ s35_1 < 7) (b3 : (s35_1 < 7) → 0 ≤ s35_1 ∧ s35_1 < 7) (l1 : (s35_1 < 7) → Q (some (.int ((s35_1 + 1) - 1))) (zwI (zwI (zwI (zwI (zwI (I, J, zR, 81) 37 (s35_1 : Int32).toNatClampNeg a1) 38 (s35_1 : Int32).toNatClampNeg a2) 39 (s35_1 : Int32).toNatClampNeg a3) 35 1 (s35_1 + 1)) 35 10 0)) (l2 : (¬ (s35_1 < 7)) → Q (some (.int (-4))) (I, J, zR, 81)) : zT (d + 1) 32 81 [.ref 35, .int a1, .int a2, .int a3] (I, J, zR, 81) Q := by
  subst e35_1
  refine ⟨rfl, fun E At hE hC => ?_⟩
  replace hC : ∀ pc st L M', zX 81 E Q At (zlk B_X5_add pc) st L M' → At pc st L M' := hC
  refine hC 0 [] [some (.ref 35), some (.int a1), some (.int a2), some (.int a3)] _ ?_
  refine And.intro (fun q1 => ?_) (fun q1 => ?_)
  · skip
    refine hC 12 [] [some (.ref 35), some (.int a1), some (.int a2), some (.int a3)] _ ?_
    refine And.intro (zvp (b1 q1) rfl) ?_
    refine And.intro (zvp (b2 q1) rfl) ?_
    refine And.intro (zvp (b3 q1) rfl) ?_
    refine And.intro (Or.inl rfl) ?_
    exact l1 q1
  · skip
    exact l2 q1
