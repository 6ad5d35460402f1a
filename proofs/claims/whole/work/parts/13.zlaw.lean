theorem w_X9_law_0 (d : Nat) (I : Nat → Nat → Int32) (J : Nat → Nat → Int64) (a2 : Int32) (Q : Option Value → zM → Prop) {f16 : Nat → Int32} (e16 : I 16 = f16) (l1 : (((0 : Int32) ≤ a2 ∧ a2 ≤ 100)) → Q (some (.int (f16 (0 : Int32).toNatClampNeg))) (zwI (I, J, zR, 81) 16 (0 : Int32).toNatClampNeg a2)) (l2 : (¬ (((0 : Int32) ≤ a2 ∧ a2 ≤ 100))) → Q (some (.int (-2))) (I, J, zR, 81)) : zT (d + 2) 61 81 [.ref 0, .int 0, .int a2] (I, J, zR, 81) Q := by
  subst e16
  refine ⟨rfl, fun E At hE hC => ?_⟩
  replace hC : ∀ pc st L M', zX 81 E Q At (zlk B_X9_law pc) st L M' → At pc st L M' := hC
  refine hC 0 [] [some (.ref 0), some (.int 0), some (.int a2), none] _ ?_
  refine hE _ _ _ _ _ (w_within _ _ _ (0) (0) _ _   (fun q1 => ?_) (fun q2 => ?_))
  · skip
    refine And.intro (fun qz => absurd qz (by decide)) (fun _ => ?_)
    refine And.intro zvl_0_6 ?_
    refine hE _ _ _ _ _ (w_within _ _ _ _ (0) _ _   (fun q3 => ?_) (fun q4 => ?_))
    · skip
      refine And.intro (fun _ => ?_) (fun qz => absurd qz (by decide))
      refine hC 30 [] [some (.ref 0), some (.int 0), some (.int a2), none] _ ?_
      refine And.intro zvl_0_6 ?_
      refine And.intro zvl_0_6 ?_
      exact l1 q3
    · skip
      refine And.intro (fun qz => absurd qz (by decide)) (fun _ => ?_)
      refine hC 27 [] [some (.ref 0), some (.int 0), some (.int a2), none] _ ?_
      exact l2 q4
  · skip
    exact absurd q2 (by decide)
theorem w_X9_law_1 (d : Nat) (I : Nat → Nat → Int32) (J : Nat → Nat → Int64) (a2 : Int32) (Q : Option Value → zM → Prop) {f16 : Nat → Int32} (e16 : I 16 = f16) (l1 : (((0 : Int32) ≤ a2 ∧ a2 ≤ 5000)) → Q (some (.int (f16 (1 : Int32).toNatClampNeg))) (zwI (I, J, zR, 81) 16 (1 : Int32).toNatClampNeg a2)) (l2 : (¬ (((0 : Int32) ≤ a2 ∧ a2 ≤ 5000))) → Q (some (.int (-2))) (I, J, zR, 81)) : zT (d + 2) 61 81 [.ref 0, .int 1, .int a2] (I, J, zR, 81) Q := by
  subst e16
  refine ⟨rfl, fun E At hE hC => ?_⟩
  replace hC : ∀ pc st L M', zX 81 E Q At (zlk B_X9_law pc) st L M' → At pc st L M' := hC
  refine hC 0 [] [some (.ref 0), some (.int 1), some (.int a2), none] _ ?_
  refine hE _ _ _ _ _ (w_within _ _ _ (1) (0) _ _   (fun q1 => ?_) (fun q2 => ?_))
  · skip
    refine And.intro (fun qz => absurd qz (by decide)) (fun _ => ?_)
    refine And.intro zvl_1_6 ?_
    refine hE _ _ _ _ _ (w_within _ _ _ _ (0) _ _   (fun q3 => ?_) (fun q4 => ?_))
    · skip
      refine And.intro (fun _ => ?_) (fun qz => absurd qz (by decide))
      refine hC 30 [] [some (.ref 0), some (.int 1), some (.int a2), none] _ ?_
      refine And.intro zvl_1_6 ?_
      refine And.intro zvl_1_6 ?_
      exact l1 q3
    · skip
      refine And.intro (fun qz => absurd qz (by decide)) (fun _ => ?_)
      refine hC 27 [] [some (.ref 0), some (.int 1), some (.int a2), none] _ ?_
      exact l2 q4
  · skip
    exact absurd q2 (by decide)
theorem w_X9_law_2 (d : Nat) (I : Nat → Nat → Int32) (J : Nat → Nat → Int64) (a2 : Int32) (Q : Option Value → zM → Prop) {f16 : Nat → Int32} (e16 : I 16 = f16) (l1 : (((0 : Int32) ≤ a2 ∧ a2 ≤ 5000)) → Q (some (.int (f16 (2 : Int32).toNatClampNeg))) (zwI (I, J, zR, 81) 16 (2 : Int32).toNatClampNeg a2)) (l2 : (¬ (((0 : Int32) ≤ a2 ∧ a2 ≤ 5000))) → Q (some (.int (-2))) (I, J, zR, 81)) : zT (d + 2) 61 81 [.ref 0, .int 2, .int a2] (I, J, zR, 81) Q := by
  subst e16
  refine ⟨rfl, fun E At hE hC => ?_⟩
  replace hC : ∀ pc st L M', zX 81 E Q At (zlk B_X9_law pc) st L M' → At pc st L M' := hC
  refine hC 0 [] [some (.ref 0), some (.int 2), some (.int a2), none] _ ?_
  refine hE _ _ _ _ _ (w_within _ _ _ (2) (0) _ _   (fun q1 => ?_) (fun q2 => ?_))
  · skip
    refine And.intro (fun qz => absurd qz (by decide)) (fun _ => ?_)
    refine And.intro zvl_2_6 ?_
    refine hE _ _ _ _ _ (w_within _ _ _ _ (0) _ _   (fun q3 => ?_) (fun q4 => ?_))
    · skip
      refine And.intro (fun _ => ?_) (fun qz => absurd qz (by decide))
      refine hC 30 [] [some (.ref 0), some (.int 2), some (.int a2), none] _ ?_
      refine And.intro zvl_2_6 ?_
      refine And.intro zvl_2_6 ?_
      exact l1 q3
    · skip
      refine And.intro (fun qz => absurd qz (by decide)) (fun _ => ?_)
      refine hC 27 [] [some (.ref 0), some (.int 2), some (.int a2), none] _ ?_
      exact l2 q4
  · skip
    exact absurd q2 (by decide)
theorem w_X9_law_3 (d : Nat) (I : Nat → Nat → Int32) (J : Nat → Nat → Int64) (a2 : Int32) (Q : Option Value → zM → Prop) {f16 : Nat → Int32} (e16 : I 16 = f16) (l1 : (((0 : Int32) ≤ a2 ∧ a2 ≤ 5000)) → Q (some (.int (f16 (3 : Int32).toNatClampNeg))) (zwI (I, J, zR, 81) 16 (3 : Int32).toNatClampNeg a2)) (l2 : (¬ (((0 : Int32) ≤ a2 ∧ a2 ≤ 5000))) → Q (some (.int (-2))) (I, J, zR, 81)) : zT (d + 2) 61 81 [.ref 0, .int 3, .int a2] (I, J, zR, 81) Q := by
  subst e16
  refine ⟨rfl, fun E At hE hC => ?_⟩
  replace hC : ∀ pc st L M', zX 81 E Q At (zlk B_X9_law pc) st L M' → At pc st L M' := hC
  refine hC 0 [] [some (.ref 0), some (.int 3), some (.int a2), none] _ ?_
  refine hE _ _ _ _ _ (w_within _ _ _ (3) (0) _ _   (fun q1 => ?_) (fun q2 => ?_))
  · skip
    refine And.intro (fun qz => absurd qz (by decide)) (fun _ => ?_)
    refine And.intro zvl_3_6 ?_
    refine hE _ _ _ _ _ (w_within _ _ _ _ (0) _ _   (fun q3 => ?_) (fun q4 => ?_))
    · skip
      refine And.intro (fun _ => ?_) (fun qz => absurd qz (by decide))
      refine hC 30 [] [some (.ref 0), some (.int 3), some (.int a2), none] _ ?_
      refine And.intro zvl_3_6 ?_
      refine And.intro zvl_3_6 ?_
      exact l1 q3
    · skip
      refine And.intro (fun qz => absurd qz (by decide)) (fun _ => ?_)
      refine hC 27 [] [some (.ref 0), some (.int 3), some (.int a2), none] _ ?_
      exact l2 q4
  · skip
    exact absurd q2 (by decide)
theorem w_X9_law_4 (d : Nat) (I : Nat → Nat → Int32) (J : Nat → Nat → Int64) (a2 : Int32) (Q : Option Value → zM → Prop) {f16 : Nat → Int32} (e16 : I 16 = f16) (l1 : (((0 : Int32) ≤ a2 ∧ a2 ≤ 20)) → Q (some (.int (f16 (4 : Int32).toNatClampNeg))) (zwI (I, J, zR, 81) 16 (4 : Int32).toNatClampNeg a2)) (l2 : (¬ (((0 : Int32) ≤ a2 ∧ a2 ≤ 20))) → Q (some (.int (-2))) (I, J, zR, 81)) : zT (d + 2) 61 81 [.ref 0, .int 4, .int a2] (I, J, zR, 81) Q := by
  subst e16
  refine ⟨rfl, fun E At hE hC => ?_⟩
  replace hC : ∀ pc st L M', zX 81 E Q At (zlk B_X9_law pc) st L M' → At pc st L M' := hC
  refine hC 0 [] [some (.ref 0), some (.int 4), some (.int a2), none] _ ?_
  refine hE _ _ _ _ _ (w_within _ _ _ (4) (0) _ _   (fun q1 => ?_) (fun q2 => ?_))
  · skip
    refine And.intro (fun qz => absurd qz (by decide)) (fun _ => ?_)
    refine And.intro zvl_4_6 ?_
    refine hE _ _ _ _ _ (w_within _ _ _ _ (0) _ _   (fun q3 => ?_) (fun q4 => ?_))
    · skip
      refine And.intro (fun _ => ?_) (fun qz => absurd qz (by decide))
      refine hC 30 [] [some (.ref 0), some (.int 4), some (.int a2), none] _ ?_
      refine And.intro zvl_4_6 ?_
      refine And.intro zvl_4_6 ?_
      exact l1 q3
    · skip
      refine And.intro (fun qz => absurd qz (by decide)) (fun _ => ?_)
      refine hC 27 [] [some (.ref 0), some (.int 4), some (.int a2), none] _ ?_
      exact l2 q4
  · skip
    exact absurd q2 (by decide)
theorem w_X9_law_5 (d : Nat) (I : Nat → Nat → Int32) (J : Nat → Nat → Int64) (a2 : Int32) (Q : Option Value → zM → Prop) {f16 : Nat → Int32} (e16 : I 16 = f16) (l1 : (((0 : Int32) ≤ a2 ∧ a2 ≤ 20)) → Q (some (.int (f16 (5 : Int32).toNatClampNeg))) (zwI (I, J, zR, 81) 16 (5 : Int32).toNatClampNeg a2)) (l2 : (¬ (((0 : Int32) ≤ a2 ∧ a2 ≤ 20))) → Q (some (.int (-2))) (I, J, zR, 81)) : zT (d + 2) 61 81 [.ref 0, .int 5, .int a2] (I, J, zR, 81) Q := by
  subst e16
  refine ⟨rfl, fun E At hE hC => ?_⟩
  replace hC : ∀ pc st L M', zX 81 E Q At (zlk B_X9_law pc) st L M' → At pc st L M' := hC
  refine hC 0 [] [some (.ref 0), some (.int 5), some (.int a2), none] _ ?_
  refine hE _ _ _ _ _ (w_within _ _ _ (5) (0) _ _   (fun q1 => ?_) (fun q2 => ?_))
  · skip
    refine And.intro (fun qz => absurd qz (by decide)) (fun _ => ?_)
    refine And.intro zvl_5_6 ?_
    refine hE _ _ _ _ _ (w_within _ _ _ _ (0) _ _   (fun q3 => ?_) (fun q4 => ?_))
    · skip
      refine And.intro (fun _ => ?_) (fun qz => absurd qz (by decide))
      refine hC 30 [] [some (.ref 0), some (.int 5), some (.int a2), none] _ ?_
      refine And.intro zvl_5_6 ?_
      refine And.intro zvl_5_6 ?_
      exact l1 q3
    · skip
      refine And.intro (fun qz => absurd qz (by decide)) (fun _ => ?_)
      refine hC 27 [] [some (.ref 0), some (.int 5), some (.int a2), none] _ ?_
      exact l2 q4
  · skip
    exact absurd q2 (by decide)
theorem w_X9_law (d : Nat) (I : Nat → Nat → Int32) (J : Nat → Nat → Int64) (a1 : Int32) (a2 : Int32) (Q : Option Value → zM → Prop) {f16 : Nat → Int32} (e16 : I 16 = f16) (l1 : (0 ≤ a1 ∧ a1 ≤ 5) → (0 ≤ a2 ∧ a2 ≤ zlim a1.toNatClampNeg) → Q (some (.int (f16 a1.toNatClampNeg))) (zwI (I, J, zR, 81) 16 a1.toNatClampNeg a2)) (l2 : (0 ≤ a1 ∧ a1 ≤ 5) → ¬ (0 ≤ a2 ∧ a2 ≤ zlim a1.toNatClampNeg) → Q (some (.int (-2))) (I, J, zR, 81)) (l3 : ¬ (0 ≤ a1 ∧ a1 ≤ 5) → Q (some (.int (-2))) (I, J, zR, 81)) : zT (d + 2) 61 81 [.ref 0, .int a1, .int a2] (I, J, zR, 81) Q := by
  by_cases h : 0 ≤ a1 ∧ a1 ≤ 5
  · have h9 : a1 = 0 ∨ a1 = 1 ∨ a1 = 2 ∨ a1 = 3 ∨ a1 = 4 ∨ a1 = 5 := by grind
    rcases h9 with rfl | rfl | rfl | rfl | rfl | rfl
    · exact w_X9_law_0 d I J a2 Q e16 (l1 h) (l2 h)
    · exact w_X9_law_1 d I J a2 Q e16 (l1 h) (l2 h)
    · exact w_X9_law_2 d I J a2 Q e16 (l1 h) (l2 h)
    · exact w_X9_law_3 d I J a2 Q e16 (l1 h) (l2 h)
    · exact w_X9_law_4 d I J a2 Q e16 (l1 h) (l2 h)
    · exact w_X9_law_5 d I J a2 Q e16 (l1 h) (l2 h)
  · subst e16
    refine ⟨rfl, fun E At hE hC => ?_⟩
    replace hC : ∀ pc st L M', zX 81 E Q At (zlk B_X9_law pc) st L M' → At pc st L M' := hC
    refine hC 0 [] [some (.ref 0), some (.int a1), some (.int a2), none] _ ?_
    refine hE _ _ _ _ _ (w_within _ _ _ _ (0) _ _ (fun q1 => ?_) (fun q2 => ?_))
    · exact absurd q1 h
    · refine And.intro (fun _ => ?_) (fun qz => absurd qz (by decide))
      refine hC 27 [] [some (.ref 0), some (.int a1), some (.int a2), none] _ ?_
      exact l3 h
