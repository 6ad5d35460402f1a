theorem w_X10_change (d : Nat) (I : Nat → Nat → Int32) (J : Nat → Nat → Int64) (a1 : Int32) (Q : Option Value → zM → Prop) {s46_41 : Int32} (e46_41 : I 46 41 = s46_41) (l1 : (((0 : Int32) ≤ a1 ∧ a1 ≤ 20)) → Q (some (.int s46_41)) (zwI (I, J, zR, 81) 46 41 a1)) (l2 : (¬ (((0 : Int32) ≤ a1 ∧ a1 ≤ 20))) → Q (some (.int (-2))) (I, J, zR, 81)) : zT (d + 2) 121 81 [.ref 46, .int a1] (I, J, zR, 81) Q := by
  subst e46_41
  refine ⟨rfl, fun E At hE hC => ?_⟩
  replace hC : ∀ pc st L M', zX 81 E Q At (zlk B_X10_change pc) st L M' → At pc st L M' := hC
  refine hC 0 [] [some (.ref 46), some (.int a1), none] _ ?_
  refine hE _ _ _ _ _ (w_in32 _ _ _ (a1) (0) (20) _   (fun q1 => ?_) (fun q2 => ?_))
  · skip
    refine And.intro (fun _ => ?_) (fun qz => absurd qz (by decide))
    refine hC 15 [] [some (.ref 46), some (.int a1), none] _ ?_
    exact l1 q1
  · skip
    refine And.intro (fun qz => absurd qz (by decide)) (fun _ => ?_)
    exact l2 q2
theorem w_X10_room (d : Nat) (I : Nat → Nat → Int32) (J : Nat → Nat → Int64) (a1 : Int32) (Q : Option Value → zM → Prop) {s46_44 : Int32} (e46_44 : I 46 44 = s46_44) (l1 : (((1000 : Int32) ≤ a1 ∧ a1 ≤ 1000000)) → Q (some (.int s46_44)) (zwI (I, J, zR, 81) 46 44 a1)) (l2 : (¬ (((1000 : Int32) ≤ a1 ∧ a1 ≤ 1000000))) → Q (some (.int (-2))) (I, J, zR, 81)) : zT (d + 2) 126 81 [.ref 46, .int a1] (I, J, zR, 81) Q := by
  subst e46_44
  refine ⟨rfl, fun E At hE hC => ?_⟩
  replace hC : ∀ pc st L M', zX 81 E Q At (zlk B_X10_room pc) st L M' → At pc st L M' := hC
  refine hC 0 [] [some (.ref 46), some (.int a1), none] _ ?_
  refine hE _ _ _ _ _ (w_in32 _ _ _ (a1) (1000) (1000000) _   (fun q1 => ?_) (fun q2 => ?_))
  · skip
    refine And.intro (fun _ => ?_) (fun qz => absurd qz (by decide))
    refine hC 17 [] [some (.ref 46), some (.int a1), none] _ ?_
    exact l1 q1
  · skip
    refine And.intro (fun qz => absurd qz (by decide)) (fun _ => ?_)
    exact l2 q2
theorem w_X10_waits (d : Nat) (I : Nat → Nat → Int32) (J : Nat → Nat → Int64) (a1 : Int32) (Q : Option Value → zM → Prop) {f60 : Nat → Int32} (e60 : I 60 = f60) {f63 : Nat → Int32} (e63 : I 63 = f63) {f76 : Nat → Int32} (e76 : I 76 = f76) (b1 : 0 ≤ a1 ∧ a1 < 200) (b2 : ((f63 (a1 : Int32).toNatClampNeg) = (-1)) → 0 ≤ a1 ∧ a1 < 200) (b3 : ((f63 (a1 : Int32).toNatClampNeg) = (-1)) → (¬ ((f60 (a1 : Int32).toNatClampNeg) ≤ 0)) → 0 ≤ a1 ∧ a1 < 200) (l1 : (¬ ((f63 (a1 : Int32).toNatClampNeg) = (-1))) → Q (some (.int 0)) (I, J, zR, 81)) (l2 : ((f63 (a1 : Int32).toNatClampNeg) = (-1)) → ((f60 (a1 : Int32).toNatClampNeg) ≤ 0) → Q (some (.int 0)) (I, J, zR, 81)) (l3 : ((f63 (a1 : Int32).toNatClampNeg) = (-1)) → (¬ ((f60 (a1 : Int32).toNatClampNeg) ≤ 0)) → (¬ ((f76 (a1 : Int32).toNatClampNeg) = 0)) → Q (some (.int 0)) (I, J, zR, 81)) (l4 : ((f63 (a1 : Int32).toNatClampNeg) = (-1)) → (¬ ((f60 (a1 : Int32).toNatClampNeg) ≤ 0)) → ((f76 (a1 : Int32).toNatClampNeg) = 0) → Q (some (.int 1)) (I, J, zR, 81)) : zT (d + 1) 127 81 [.ref 46, .int a1] (I, J, zR, 81) Q := by
  subst e60 e63 e76
  refine ⟨rfl, fun E At hE hC => ?_⟩
  replace hC : ∀ pc st L M', zX 81 E Q At (zlk B_X10_waits pc) st L M' → At pc st L M' := hC
  refine hC 0 [] [some (.ref 46), some (.int a1)] _ ?_
  refine And.intro (zvp (b1) rfl) ?_
  refine And.intro (fun q1 => ?_) (fun q1 => ?_)
  · skip
    refine hC 32 [] [some (.ref 46), some (.int a1)] _ ?_
    refine hC 33 [.int 0] [some (.ref 46), some (.int a1)] _ ?_
    exact And.intro (Or.inl rfl) (l1 q1)
  · skip
    refine And.intro (zvp (b2 q1) rfl) ?_
    refine And.intro (fun q2 => ?_) (fun q2 => ?_)
    · skip
      refine hC 32 [] [some (.ref 46), some (.int a1)] _ ?_
      refine hC 33 [.int 0] [some (.ref 46), some (.int a1)] _ ?_
      exact And.intro (Or.inl rfl) (l2 q1 q2)
    · skip
      refine And.intro (zvp (b3 q1 q2) rfl) ?_
      refine And.intro (fun q3 => ?_) (fun q3 => ?_)
      · skip
        refine hC 32 [] [some (.ref 46), some (.int a1)] _ ?_
        refine hC 33 [.int 0] [some (.ref 46), some (.int a1)] _ ?_
        exact And.intro (Or.inl rfl) (l3 q1 q2 q3)
      · skip
        refine hC 33 [.int 1] [some (.ref 46), some (.int a1)] _ ?_
        exact And.intro (Or.inr rfl) (l4 q1 q2 q3)
theorem w_X10_sample (d : Nat) (I : Nat → Nat → Int32) (J : Nat → Nat → Int64) (a1 : Int32) (a2 : Int32) (Q : Option Value → zM → Prop) {s46_13 : Int32} (e46_13 : I 46 13 = s46_13) (b1 : (((0 : Int32) ≤ a1 ∧ a1 ≤ (s46_13 - 1))) → (a2 = 0) → 0 ≤ a1 ∧ a1 < 200) (b2 : (((0 : Int32) ≤ a1 ∧ a1 ≤ (s46_13 - 1))) → (¬ (a2 = 0)) → 0 ≤ a1 ∧ a1 < 200) (l1 : (((0 : Int32) ≤ a1 ∧ a1 ≤ (s46_13 - 1))) → (a2 = 0) → Q (some (.int 1)) (zwI (I, J, zR, 81) 64 (a1 : Int32).toNatClampNeg 0)) (l2 : (((0 : Int32) ≤ a1 ∧ a1 ≤ (s46_13 - 1))) → (¬ (a2 = 0)) → Q (some (.int 1)) (zwI (I, J, zR, 81) 64 (a1 : Int32).toNatClampNeg 1)) (l3 : (¬ (((0 : Int32) ≤ a1 ∧ a1 ≤ (s46_13 - 1)))) → Q (some (.int (-2))) (I, J, zR, 81)) : zT (d + 3) 132 81 [.ref 46, .int a1, .int a2] (I, J, zR, 81) Q := by
  subst e46_13
  refine ⟨rfl, fun E At hE hC => ?_⟩
  replace hC : ∀ pc st L M', zX 81 E Q At (zlk B_X10_sample pc) st L M' → At pc st L M' := hC
  refine hC 0 [] [some (.ref 46), some (.int a1), some (.int a2)] _ ?_
  refine hE _ _ _ _ _ (w_X10_isBar _ _ _ _ _ rfl  (fun q1 => ?_) (fun q2 => ?_))
  · skip
    refine And.intro (fun _ => ?_) (fun qz => absurd qz (by decide))
    refine hC 11 [] [some (.ref 46), some (.int a1), some (.int a2)] _ ?_
    refine And.intro (fun q3 => ?_) (fun q3 => ?_)
    · skip
      refine hC 24 [.int a1, .ref 64] [some (.ref 46), some (.int a1), some (.int a2)] _ ?_
      refine hC 25 [.int 0, .int a1, .ref 64] [some (.ref 46), some (.int a1), some (.int a2)] _ ?_
      refine And.intro (zvp (b1 q1 q3) rfl) ?_
      exact l1 q1 q3
    · skip
      refine hC 25 [.int 1, .int a1, .ref 64] [some (.ref 46), some (.int a1), some (.int a2)] _ ?_
      refine And.intro (zvp (b2 q1 q3) rfl) ?_
      exact l2 q1 q3
  · skip
    refine And.intro (fun qz => absurd qz (by decide)) (fun _ => ?_)
    exact l3 q2
theorem w_X10_met (d : Nat) (I : Nat → Nat → Int32) (J : Nat → Nat → Int64) (a1 : Int32) (Q : Option Value → zM → Prop) (l1 : Q (some (.int ((-10) - a1))) (zwI (I, J, zR, 81) 46 51 a1)) : zT (d + 1) 137 81 [.ref 46, .int a1] (I, J, zR, 81) Q := by
  refine ⟨rfl, fun E At hE hC => ?_⟩
  replace hC : ∀ pc st L M', zX 81 E Q At (zlk B_X10_met pc) st L M' → At pc st L M' := hC
  refine hC 0 [] [some (.ref 46), some (.int a1)] _ ?_
  exact l1
theorem w_X10_lose (d : Nat) (I : Nat → Nat → Int32) (J : Nat → Nat → Int64) (a1 : Int32) (Q : Option Value → zM → Prop) {f77 : Nat → Int32} (e77 : I 77 = f77) {f78 : Nat → Int32} (e78 : I 78 = f78) (b1 : (((0 : Int32) ≤ a1 ∧ a1 ≤ 3)) → 0 ≤ a1 ∧ a1 < 4) (b2 : (((0 : Int32) ≤ a1 ∧ a1 ≤ 3)) → ((0 : Int32) ≤ (f77 (a1 : Int32).toNatClampNeg)) → 0 ≤ a1 ∧ a1 < 4) (b3 : (((0 : Int32) ≤ a1 ∧ a1 ≤ 3)) → ((0 : Int32) ≤ (f77 (a1 : Int32).toNatClampNeg)) → 0 ≤ a1 ∧ a1 < 4) (l1 : (((0 : Int32) ≤ a1 ∧ a1 ≤ 3)) → ((0 : Int32) ≤ (f77 (a1 : Int32).toNatClampNeg)) → Q (some (.int (f78 (a1 : Int32).toNatClampNeg))) (zwI (I, J, zR, 81) 77 (a1 : Int32).toNatClampNeg (-1))) (l2 : (((0 : Int32) ≤ a1 ∧ a1 ≤ 3)) → (¬ ((0 : Int32) ≤ (f77 (a1 : Int32).toNatClampNeg))) → Q (some (.int ((-10) - 1))) (zwI (I, J, zR, 81) 46 51 1)) (l3 : (¬ (((0 : Int32) ≤ a1 ∧ a1 ≤ 3))) → Q (some (.int (-2))) (I, J, zR, 81)) : zT (d + 3) 140 81 [.ref 46, .int a1] (I, J, zR, 81) Q := by
  subst e77 e78
  refine ⟨rfl, fun E At hE hC => ?_⟩
  replace hC : ∀ pc st L M', zX 81 E Q At (zlk B_X10_lose pc) st L M' → At pc st L M' := hC
  refine hC 0 [] [some (.ref 46), some (.int a1)] _ ?_
  refine hE _ _ _ _ _ (w_X10_isSheet _ _ _ _ _   (fun q1 => ?_) (fun q2 => ?_))
  · skip
    refine And.intro (fun _ => ?_) (fun qz => absurd qz (by decide))
    refine hC 10 [] [some (.ref 46), some (.int a1)] _ ?_
    refine And.intro (zvp (b1 q1) rfl) ?_
    refine And.intro (fun q3 => ?_) (fun q3 => ?_)
    · skip
      refine hC 25 [] [some (.ref 46), some (.int a1)] _ ?_
      refine And.intro (zvp (b2 q1 q3) rfl) ?_
      refine And.intro (zvp (b3 q1 q3) rfl) ?_
      exact l1 q1 q3
    · skip
      refine hE _ _ _ _ _ (w_X10_met _ _ _ (1) _   (?_))
      · skip
        exact l2 q1 q3
  · skip
    refine And.intro (fun qz => absurd qz (by decide)) (fun _ => ?_)
    exact l3 q2
theorem w_X10_lacks (d : Nat) (I : Nat → Nat → Int32) (J : Nat → Nat → Int64) (a1 : Int32) (a2 : Int32) (a3 : Int32) (Q : Option Value → zM → Prop) {f77 : Nat → Int32} (e77 : I 77 = f77) {f78 : Nat → Int32} (e78 : I 78 = f78) (b1 : 0 ≤ a1 ∧ a1 < 4) (b2 : ((0 : Int32) ≤ (f77 (a1 : Int32).toNatClampNeg)) → 0 ≤ a1 ∧ a1 < 4) (b3 : ((0 : Int32) ≤ (f77 (a1 : Int32).toNatClampNeg)) → ((f77 (a1 : Int32).toNatClampNeg) = a2) → 0 ≤ a1 ∧ a1 < 4) (l1 : ((0 : Int32) ≤ (f77 (a1 : Int32).toNatClampNeg)) → ((f77 (a1 : Int32).toNatClampNeg) = a2) → (((0 : Int32) ≤ a3 ∧ a3 ≤ ((f78 (a1 : Int32).toNatClampNeg) - 1))) → Q (some (.int 0)) (I, J, zR, 81)) (l2 : ((0 : Int32) ≤ (f77 (a1 : Int32).toNatClampNeg)) → ((f77 (a1 : Int32).toNatClampNeg) = a2) → (¬ (((0 : Int32) ≤ a3 ∧ a3 ≤ ((f78 (a1 : Int32).toNatClampNeg) - 1)))) → Q (some (.int ((-10) - 2))) (zwI (I, J, zR, 81) 46 51 2)) (l3 : ((0 : Int32) ≤ (f77 (a1 : Int32).toNatClampNeg)) → (¬ ((f77 (a1 : Int32).toNatClampNeg) = a2)) → Q (some (.int ((-10) - 3))) (zwI (I, J, zR, 81) 46 51 3)) (l4 : (¬ ((0 : Int32) ≤ (f77 (a1 : Int32).toNatClampNeg))) → Q (some (.int ((-10) - 1))) (zwI (I, J, zR, 81) 46 51 1)) : zT (d + 2) 141 81 [.ref 46, .int a1, .int a2, .int a3] (I, J, zR, 81) Q := by
  subst e77 e78
  refine ⟨rfl, fun E At hE hC => ?_⟩
  replace hC : ∀ pc st L M', zX 81 E Q At (zlk B_X10_lacks pc) st L M' → At pc st L M' := hC
  refine hC 0 [] [some (.ref 46), some (.int a1), some (.int a2), some (.int a3)] _ ?_
  refine And.intro (zvp (b1) rfl) ?_
  refine And.intro (fun q1 => ?_) (fun q1 => ?_)
  · skip
    refine hC 15 [] [some (.ref 46), some (.int a1), some (.int a2), some (.int a3)] _ ?_
    refine And.intro (zvp (b2 q1) rfl) ?_
    refine And.intro (fun q2 => ?_) (fun q2 => ?_)
    · skip
      refine hC 31 [] [some (.ref 46), some (.int a1), some (.int a2), some (.int a3)] _ ?_
      refine And.intro (zvp (b3 q1 q2) rfl) ?_
      refine hE _ _ _ _ _ (w_in32 _ _ _ (a3) (0) (((I 78 (a1 : Int32).toNatClampNeg) - 1)) _   (fun q3 => ?_) (fun q4 => ?_))
      · skip
        refine And.intro (fun qz => absurd qz (by decide)) (fun _ => ?_)
        refine hC 58 [.int 0] [some (.ref 46), some (.int a1), some (.int a2), some (.int a3)] _ ?_
        exact l1 q1 q2 q3
      · skip
        refine And.intro (fun _ => ?_) (fun qz => absurd qz (by decide))
        refine hC 53 [] [some (.ref 46), some (.int a1), some (.int a2), some (.int a3)] _ ?_
        refine hE _ _ _ _ _ (w_X10_met _ _ _ (2) _   (?_))
        · skip
          refine hC 58 [.int ((-10) - 2)] [some (.ref 46), some (.int a1), some (.int a2), some (.int a3)] _ ?_
          exact l2 q1 q2 q4
    · skip
      refine hE _ _ _ _ _ (w_X10_met _ _ _ (3) _   (?_))
      · skip
        exact l3 q1 q2
  · skip
    refine hE _ _ _ _ _ (w_X10_met _ _ _ (1) _   (?_))
    · skip
      exact l4 q1
theorem w_X10_put (d : Nat) (I : Nat → Nat → Int32) (J : Nat → Nat → Int64) (a1 : Int32) (a2 : Int32) (a3 : Int32) (a4 : Int32) (Q : Option Value → zM → Prop) {f77 : Nat → Int32} (e77 : I 77 = f77) {f78 : Nat → Int32} (e78 : I 78 = f78) (b1 : (((0 : Int32) ≤ a1 ∧ a1 ≤ 3)) → (((0 : Int32) ≤ a2 ∧ a2 ≤ 2)) → 0 ≤ a1 ∧ a1 < 4) (b2 : (((0 : Int32) ≤ a1 ∧ a1 ≤ 3)) → (((0 : Int32) ≤ a2 ∧ a2 ≤ 2)) → ((0 : Int32) ≤ (f77 (a1 : Int32).toNatClampNeg)) → 0 ≤ a1 ∧ a1 < 4) (b3 : (((0 : Int32) ≤ a1 ∧ a1 ≤ 3)) → (((0 : Int32) ≤ a2 ∧ a2 ≤ 2)) → ((0 : Int32) ≤ (f77 (a1 : Int32).toNatClampNeg)) → ((f77 (a1 : Int32).toNatClampNeg) = a2) → 0 ≤ a1 ∧ a1 < 4) (b4 : (((0 : Int32) ≤ a1 ∧ a1 ≤ 3)) → (((0 : Int32) ≤ a2 ∧ a2 ≤ 2)) → ((0 : Int32) ≤ (f77 (a1 : Int32).toNatClampNeg)) → ((f77 (a1 : Int32).toNatClampNeg) = a2) → (((0 : Int32) ≤ a3 ∧ a3 ≤ ((f78 (a1 : Int32).toNatClampNeg) - 1))) → (¬ (a2 = 0)) → (¬ (a2 = 1)) → 0 ≤ ((200 * a1) + a3) ∧ ((200 * a1) + a3) < 800) (b5 : (((0 : Int32) ≤ a1 ∧ a1 ≤ 3)) → (((0 : Int32) ≤ a2 ∧ a2 ≤ 2)) → ((0 : Int32) ≤ (f77 (a1 : Int32).toNatClampNeg)) → ((f77 (a1 : Int32).toNatClampNeg) = a2) → (((0 : Int32) ≤ a3 ∧ a3 ≤ ((f78 (a1 : Int32).toNatClampNeg) - 1))) → (¬ (a2 = 0)) → (a2 = 1) → 0 ≤ ((200 * a1) + a3) ∧ ((200 * a1) + a3) < 800) (b6 : (((0 : Int32) ≤ a1 ∧ a1 ≤ 3)) → (((0 : Int32) ≤ a2 ∧ a2 ≤ 2)) → ((0 : Int32) ≤ (f77 (a1 : Int32).toNatClampNeg)) → ((f77 (a1 : Int32).toNatClampNeg) = a2) → (((0 : Int32) ≤ a3 ∧ a3 ≤ ((f78 (a1 : Int32).toNatClampNeg) - 1))) → (a2 = 0) → 0 ≤ ((200 * a1) + a3) ∧ ((200 * a1) + a3) < 800) (l1 : (((0 : Int32) ≤ a1 ∧ a1 ≤ 3)) → (((0 : Int32) ≤ a2 ∧ a2 ≤ 2)) → ((0 : Int32) ≤ (f77 (a1 : Int32).toNatClampNeg)) → ((f77 (a1 : Int32).toNatClampNeg) = a2) → (((0 : Int32) ≤ a3 ∧ a3 ≤ ((f78 (a1 : Int32).toNatClampNeg) - 1))) → (¬ (a2 = 0)) → (¬ (a2 = 1)) → Q (some (.int 1)) (zwI (I, J, zR, 81) 79 (((200 * a1) + a3) : Int32).toNatClampNeg a4)) (l2 : (((0 : Int32) ≤ a1 ∧ a1 ≤ 3)) → (((0 : Int32) ≤ a2 ∧ a2 ≤ 2)) → ((0 : Int32) ≤ (f77 (a1 : Int32).toNatClampNeg)) → ((f77 (a1 : Int32).toNatClampNeg) = a2) → (((0 : Int32) ≤ a3 ∧ a3 ≤ ((f78 (a1 : Int32).toNatClampNeg) - 1))) → (¬ (a2 = 0)) → (a2 = 1) → Q (some (.int 1)) (zwI (I, J, zR, 81) 79 (((200 * a1) + a3) : Int32).toNatClampNeg (a4).toInt16.toInt32)) (l3 : (((0 : Int32) ≤ a1 ∧ a1 ≤ 3)) → (((0 : Int32) ≤ a2 ∧ a2 ≤ 2)) → ((0 : Int32) ≤ (f77 (a1 : Int32).toNatClampNeg)) → ((f77 (a1 : Int32).toNatClampNeg) = a2) → (((0 : Int32) ≤ a3 ∧ a3 ≤ ((f78 (a1 : Int32).toNatClampNeg) - 1))) → (a2 = 0) → Q (some (.int 1)) (zwI (I, J, zR, 81) 79 (((200 * a1) + a3) : Int32).toNatClampNeg (a4).toInt8.toInt32)) (l4 : (((0 : Int32) ≤ a1 ∧ a1 ≤ 3)) → (((0 : Int32) ≤ a2 ∧ a2 ≤ 2)) → ((0 : Int32) ≤ (f77 (a1 : Int32).toNatClampNeg)) → ((f77 (a1 : Int32).toNatClampNeg) = a2) → (¬ (((0 : Int32) ≤ a3 ∧ a3 ≤ ((f78 (a1 : Int32).toNatClampNeg) - 1)))) → Q (some (.int ((-10) - 2))) (zwI (I, J, zR, 81) 46 51 2)) (l5 : (((0 : Int32) ≤ a1 ∧ a1 ≤ 3)) → (((0 : Int32) ≤ a2 ∧ a2 ≤ 2)) → ((0 : Int32) ≤ (f77 (a1 : Int32).toNatClampNeg)) → (¬ ((f77 (a1 : Int32).toNatClampNeg) = a2)) → Q (some (.int ((-10) - 3))) (zwI (I, J, zR, 81) 46 51 3)) (l6 : (((0 : Int32) ≤ a1 ∧ a1 ≤ 3)) → (((0 : Int32) ≤ a2 ∧ a2 ≤ 2)) → (¬ ((0 : Int32) ≤ (f77 (a1 : Int32).toNatClampNeg))) → Q (some (.int ((-10) - 1))) (zwI (I, J, zR, 81) 46 51 1)) (l7 : (((0 : Int32) ≤ a1 ∧ a1 ≤ 3)) → (¬ (((0 : Int32) ≤ a2 ∧ a2 ≤ 2))) → Q (some (.int (-2))) (I, J, zR, 81)) (l8 : (¬ (((0 : Int32) ≤ a1 ∧ a1 ≤ 3))) → Q (some (.int (-2))) (I, J, zR, 81)) : zT (d + 3) 142 81 [.ref 46, .int a1, .int a2, .int a3, .int a4] (I, J, zR, 81) Q := by
  subst e77 e78
  refine ⟨rfl, fun E At hE hC => ?_⟩
  replace hC : ∀ pc st L M', zX 81 E Q At (zlk B_X10_put pc) st L M' → At pc st L M' := hC
  refine hC 0 [] [some (.ref 46), some (.int a1), some (.int a2), some (.int a3), some (.int a4), none] _ ?_
  refine hE _ _ _ _ _ (w_X10_isSheet _ _ _ _ _   (fun q1 => ?_) (fun q2 => ?_))
  · skip
    refine And.intro (fun qz => absurd qz (by decide)) (fun _ => ?_)
    refine hE _ _ _ _ _ (w_in32 _ _ _ (a2) (0) (2) _   (fun q3 => ?_) (fun q4 => ?_))
    · skip
      refine And.intro (fun _ => ?_) (fun qz => absurd qz (by decide))
      refine hC 22 [] [some (.ref 46), some (.int a1), some (.int a2), some (.int a3), some (.int a4), none] _ ?_
      refine hE _ _ _ _ _ (w_X10_lacks _ _ _ _ _ _ _ rfl rfl (b1 q1 q3) (fun x0 => b2 q1 q3 x0) (fun x0 x1 => b3 q1 q3 x0 x1) (fun q5 q6 q7 => ?_) (fun q8 q9 q10 => ?_) (fun q11 q12 => ?_) (fun q13 => ?_))
      · skip
        refine And.intro (fun _ => ?_) (fun qz => absurd qz (by decide))
        refine hC 39 [] [some (.ref 46), some (.int a1), some (.int a2), some (.int a3), some (.int a4), some (.int 0)] _ ?_
        refine And.intro (fun q14 => ?_) (fun q14 => ?_)
        · skip
          refine hC 60 [.int ((200 * a1) + a3), .ref 79] [some (.ref 46), some (.int a1), some (.int a2), some (.int a3), some (.int a4), some (.int 0)] _ ?_
          refine And.intro (fun q15 => ?_) (fun q15 => ?_)
          · skip
            refine hC 71 [.int ((200 * a1) + a3), .ref 79] [some (.ref 46), some (.int a1), some (.int a2), some (.int a3), some (.int a4), some (.int 0)] _ ?_
            refine hC 73 [.int a4, .int ((200 * a1) + a3), .ref 79] [some (.ref 46), some (.int a1), some (.int a2), some (.int a3), some (.int a4), some (.int 0)] _ ?_
            refine And.intro (zvp (b4 q1 q3 q5 q6 q7 q14 q15) rfl) ?_
            exact l1 q1 q3 q5 q6 q7 q14 q15
          · skip
            refine hC 73 [.int (a4).toInt16.toInt32, .int ((200 * a1) + a3), .ref 79] [some (.ref 46), some (.int a1), some (.int a2), some (.int a3), some (.int a4), some (.int 0)] _ ?_
            refine And.intro (zvp (b5 q1 q3 q5 q6 q7 q14 q15) rfl) ?_
            exact l2 q1 q3 q5 q6 q7 q14 q15
        · skip
          refine hC 73 [.int (a4).toInt8.toInt32, .int ((200 * a1) + a3), .ref 79] [some (.ref 46), some (.int a1), some (.int a2), some (.int a3), some (.int a4), some (.int 0)] _ ?_
          refine And.intro (zvp (b6 q1 q3 q5 q6 q7 q14) rfl) ?_
          exact l3 q1 q3 q5 q6 q7 q14
      · skip
        refine And.intro (fun qz => absurd qz (by decide)) (fun _ => ?_)
        exact l4 q1 q3 q8 q9 q10
      · skip
        refine And.intro (fun qz => absurd qz (by decide)) (fun _ => ?_)
        exact l5 q1 q3 q11 q12
      · skip
        refine And.intro (fun qz => absurd qz (by decide)) (fun _ => ?_)
        exact l6 q1 q3 q13
    · skip
      refine And.intro (fun qz => absurd qz (by decide)) (fun _ => ?_)
      refine hC 19 [] [some (.ref 46), some (.int a1), some (.int a2), some (.int a3), some (.int a4), none] _ ?_
      exact l7 q1 q4
  · skip
    refine And.intro (fun _ => ?_) (fun qz => absurd qz (by decide))
    refine hC 19 [] [some (.ref 46), some (.int a1), some (.int a2), some (.int a3), some (.int a4), none] _ ?_
    exact l8 q2
theorem w_X10_get (d : Nat) (I : Nat → Nat → Int32) (J : Nat → Nat → Int64) (a1 : Int32) (a2 : Int32) (a3 : Int32) (Q : Option Value → zM → Prop) {f77 : Nat → Int32} (e77 : I 77 = f77) {f78 : Nat → Int32} (e78 : I 78 = f78) {f79 : Nat → Int32} (e79 : I 79 = f79) (b1 : (((0 : Int32) ≤ a1 ∧ a1 ≤ 3)) → (((0 : Int32) ≤ a2 ∧ a2 ≤ 2)) → 0 ≤ a1 ∧ a1 < 4) (b2 : (((0 : Int32) ≤ a1 ∧ a1 ≤ 3)) → (((0 : Int32) ≤ a2 ∧ a2 ≤ 2)) → ((0 : Int32) ≤ (f77 (a1 : Int32).toNatClampNeg)) → 0 ≤ a1 ∧ a1 < 4) (b3 : (((0 : Int32) ≤ a1 ∧ a1 ≤ 3)) → (((0 : Int32) ≤ a2 ∧ a2 ≤ 2)) → ((0 : Int32) ≤ (f77 (a1 : Int32).toNatClampNeg)) → ((f77 (a1 : Int32).toNatClampNeg) = a2) → 0 ≤ a1 ∧ a1 < 4) (b4 : (((0 : Int32) ≤ a1 ∧ a1 ≤ 3)) → (((0 : Int32) ≤ a2 ∧ a2 ≤ 2)) → ((0 : Int32) ≤ (f77 (a1 : Int32).toNatClampNeg)) → ((f77 (a1 : Int32).toNatClampNeg) = a2) → (((0 : Int32) ≤ a3 ∧ a3 ≤ ((f78 (a1 : Int32).toNatClampNeg) - 1))) → 0 ≤ ((200 * a1) + a3) ∧ ((200 * a1) + a3) < 800) (l1 : (((0 : Int32) ≤ a1 ∧ a1 ≤ 3)) → (((0 : Int32) ≤ a2 ∧ a2 ≤ 2)) → ((0 : Int32) ≤ (f77 (a1 : Int32).toNatClampNeg)) → ((f77 (a1 : Int32).toNatClampNeg) = a2) → (((0 : Int32) ≤ a3 ∧ a3 ≤ ((f78 (a1 : Int32).toNatClampNeg) - 1))) → Q (some (.int (f79 (((200 * a1) + a3) : Int32).toNatClampNeg))) (I, J, zR, 81)) (l2 : (((0 : Int32) ≤ a1 ∧ a1 ≤ 3)) → (((0 : Int32) ≤ a2 ∧ a2 ≤ 2)) → ((0 : Int32) ≤ (f77 (a1 : Int32).toNatClampNeg)) → ((f77 (a1 : Int32).toNatClampNeg) = a2) → (¬ (((0 : Int32) ≤ a3 ∧ a3 ≤ ((f78 (a1 : Int32).toNatClampNeg) - 1)))) → Q (some (.int (-2147483648))) (zwI (I, J, zR, 81) 46 51 2)) (l3 : (((0 : Int32) ≤ a1 ∧ a1 ≤ 3)) → (((0 : Int32) ≤ a2 ∧ a2 ≤ 2)) → ((0 : Int32) ≤ (f77 (a1 : Int32).toNatClampNeg)) → (¬ ((f77 (a1 : Int32).toNatClampNeg) = a2)) → Q (some (.int (-2147483648))) (zwI (I, J, zR, 81) 46 51 3)) (l4 : (((0 : Int32) ≤ a1 ∧ a1 ≤ 3)) → (((0 : Int32) ≤ a2 ∧ a2 ≤ 2)) → (¬ ((0 : Int32) ≤ (f77 (a1 : Int32).toNatClampNeg))) → Q (some (.int (-2147483648))) (zwI (I, J, zR, 81) 46 51 1)) (l5 : (((0 : Int32) ≤ a1 ∧ a1 ≤ 3)) → (¬ (((0 : Int32) ≤ a2 ∧ a2 ≤ 2))) → Q (some (.int (-2147483648))) (I, J, zR, 81)) (l6 : (¬ (((0 : Int32) ≤ a1 ∧ a1 ≤ 3))) → Q (some (.int (-2147483648))) (I, J, zR, 81)) : zT (d + 3) 143 81 [.ref 46, .int a1, .int a2, .int a3] (I, J, zR, 81) Q := by
  subst e77 e78 e79
  refine ⟨rfl, fun E At hE hC => ?_⟩
  replace hC : ∀ pc st L M', zX 81 E Q At (zlk B_X10_get pc) st L M' → At pc st L M' := hC
  refine hC 0 [] [some (.ref 46), some (.int a1), some (.int a2), some (.int a3)] _ ?_
  refine hE _ _ _ _ _ (w_X10_isSheet _ _ _ _ _   (fun q1 => ?_) (fun q2 => ?_))
  · skip
    refine And.intro (fun qz => absurd qz (by decide)) (fun _ => ?_)
    refine hE _ _ _ _ _ (w_in32 _ _ _ (a2) (0) (2) _   (fun q3 => ?_) (fun q4 => ?_))
    · skip
      refine And.intro (fun qz => absurd qz (by decide)) (fun _ => ?_)
      refine hE _ _ _ _ _ (w_X10_lacks _ _ _ _ _ _ _ rfl rfl (b1 q1 q3) (fun x0 => b2 q1 q3 x0) (fun x0 x1 => b3 q1 q3 x0 x1) (fun q5 q6 q7 => ?_) (fun q8 q9 q10 => ?_) (fun q11 q12 => ?_) (fun q13 => ?_))
      · skip
        refine And.intro (fun _ => ?_) (fun qz => absurd qz (by decide))
        refine hC 33 [] [some (.ref 46), some (.int a1), some (.int a2), some (.int a3)] _ ?_
        refine And.intro (zvp (b4 q1 q3 q5 q6 q7) rfl) ?_
        exact l1 q1 q3 q5 q6 q7
      · skip
        refine And.intro (fun qz => absurd qz (by decide)) (fun _ => ?_)
        refine hC 29 [] [some (.ref 46), some (.int a1), some (.int a2), some (.int a3)] _ ?_
        exact l2 q1 q3 q8 q9 q10
      · skip
        refine And.intro (fun qz => absurd qz (by decide)) (fun _ => ?_)
        refine hC 29 [] [some (.ref 46), some (.int a1), some (.int a2), some (.int a3)] _ ?_
        exact l3 q1 q3 q11 q12
      · skip
        refine And.intro (fun qz => absurd qz (by decide)) (fun _ => ?_)
        refine hC 29 [] [some (.ref 46), some (.int a1), some (.int a2), some (.int a3)] _ ?_
        exact l4 q1 q3 q13
    · skip
      refine And.intro (fun _ => ?_) (fun qz => absurd qz (by decide))
      refine hC 29 [] [some (.ref 46), some (.int a1), some (.int a2), some (.int a3)] _ ?_
      exact l5 q1 q4
  · skip
    refine And.intro (fun _ => ?_) (fun qz => absurd qz (by decide))
    refine hC 29 [] [some (.ref 46), some (.int a1), some (.int a2), some (.int a3)] _ ?_
    exact l6 q2
