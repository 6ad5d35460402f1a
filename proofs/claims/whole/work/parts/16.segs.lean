
theorem w_X9_paysMore (d : Nat) (I : Nat → Nat → Int32) (J : Nat → Nat → Int64) (a1 : Int32) (a2 : Int32) (a3 : Int32) (a4 : Int32) (Q : Option Value → zM → Prop) (l1 : ((0 : Int32) < a1) → (¬ (a4 = (-1))) → ((0 : Int32) < (lg_cmp ((a1 : Int32).toInt64 * (a4 : Int32).toInt64) ((a3 : Int32).toInt64 * (a2 : Int32).toInt64))) → Q (some (.int 1)) (I, J, zR, 81)) (l2 : ((0 : Int32) < a1) → (¬ (a4 = (-1))) → (¬ ((0 : Int32) < (lg_cmp ((a1 : Int32).toInt64 * (a4 : Int32).toInt64) ((a3 : Int32).toInt64 * (a2 : Int32).toInt64)))) → (¬ ((lg_cmp ((a1 : Int32).toInt64 * (a4 : Int32).toInt64) ((a3 : Int32).toInt64 * (a2 : Int32).toInt64)) = 0)) → Q (some (.int 0)) (I, J, zR, 81)) (l3 : ((0 : Int32) < a1) → (¬ (a4 = (-1))) → (¬ ((0 : Int32) < (lg_cmp ((a1 : Int32).toInt64 * (a4 : Int32).toInt64) ((a3 : Int32).toInt64 * (a2 : Int32).toInt64)))) → ((lg_cmp ((a1 : Int32).toInt64 * (a4 : Int32).toInt64) ((a3 : Int32).toInt64 * (a2 : Int32).toInt64)) = 0) → (a4 ≤ a2) → Q (some (.int 0)) (I, J, zR, 81)) (l4 : ((0 : Int32) < a1) → (¬ (a4 = (-1))) → (¬ ((0 : Int32) < (lg_cmp ((a1 : Int32).toInt64 * (a4 : Int32).toInt64) ((a3 : Int32).toInt64 * (a2 : Int32).toInt64)))) → ((lg_cmp ((a1 : Int32).toInt64 * (a4 : Int32).toInt64) ((a3 : Int32).toInt64 * (a2 : Int32).toInt64)) = 0) → (¬ (a4 ≤ a2)) → Q (some (.int 1)) (I, J, zR, 81)) (l5 : ((0 : Int32) < a1) → (a4 = (-1)) → Q (some (.int 1)) (I, J, zR, 81)) (l6 : (¬ ((0 : Int32) < a1)) → Q (some (.int 0)) (I, J, zR, 81)) : zT (d + 1) 92 81 [.int a1, .int a2, .int a3, .int a4] (I, J, zR, 81) Q := by
  refine ⟨rfl, fun E At hE hC => ?_⟩
  replace hC : ∀ pc st L M', zX 81 E Q At (zlk B_X9_paysMore pc) st L M' → At pc st L M' := hC
  refine hC 0 [] [some (.int a1), some (.int a2), some (.int a3), some (.int a4), none, none, none, none] _ ?_
  refine And.intro (fun q1 => ?_) (fun q1 => ?_)
  · skip
    refine hC 6 [] [some (.int a1), some (.int a2), some (.int a3), some (.int a4), none, none, none, none] _ ?_
    refine And.intro (fun q2 => ?_) (fun q2 => ?_)
    · skip
      refine hC 13 [] [some (.int a1), some (.int a2), some (.int a3), some (.int a4), none, none, none, none] _ ?_
      refine And.intro (fun q3 => ?_) (fun q3 => ?_)
      · skip
        refine hC 48 [] [some (.int a1), some (.int a2), some (.int a3), some (.int a4), some (.long ((a1 : Int32).toInt64 * (a4 : Int32).toInt64)), none, some (.long ((a3 : Int32).toInt64 * (a2 : Int32).toInt64)), none] _ ?_
        refine hC 53 [.int 1] [some (.int a1), some (.int a2), some (.int a3), some (.int a4), some (.long ((a1 : Int32).toInt64 * (a4 : Int32).toInt64)), none, some (.long ((a3 : Int32).toInt64 * (a2 : Int32).toInt64)), none] _ ?_
        exact And.intro (Or.inr rfl) (l1 q1 q2 q3)
      · skip
        refine And.intro (fun q4 => ?_) (fun q4 => ?_)
        · skip
          refine hC 52 [] [some (.int a1), some (.int a2), some (.int a3), some (.int a4), some (.long ((a1 : Int32).toInt64 * (a4 : Int32).toInt64)), none, some (.long ((a3 : Int32).toInt64 * (a2 : Int32).toInt64)), none] _ ?_
          refine hC 53 [.int 0] [some (.int a1), some (.int a2), some (.int a3), some (.int a4), some (.long ((a1 : Int32).toInt64 * (a4 : Int32).toInt64)), none, some (.long ((a3 : Int32).toInt64 * (a2 : Int32).toInt64)), none] _ ?_
          exact And.intro (Or.inl rfl) (l2 q1 q2 q3 q4)
        · skip
          refine And.intro (fun q5 => ?_) (fun q5 => ?_)
          · skip
            refine hC 52 [] [some (.int a1), some (.int a2), some (.int a3), some (.int a4), some (.long ((a1 : Int32).toInt64 * (a4 : Int32).toInt64)), none, some (.long ((a3 : Int32).toInt64 * (a2 : Int32).toInt64)), none] _ ?_
            refine hC 53 [.int 0] [some (.int a1), some (.int a2), some (.int a3), some (.int a4), some (.long ((a1 : Int32).toInt64 * (a4 : Int32).toInt64)), none, some (.long ((a3 : Int32).toInt64 * (a2 : Int32).toInt64)), none] _ ?_
            exact And.intro (Or.inl rfl) (l3 q1 q2 q3 q4 q5)
          · skip
            refine hC 48 [] [some (.int a1), some (.int a2), some (.int a3), some (.int a4), some (.long ((a1 : Int32).toInt64 * (a4 : Int32).toInt64)), none, some (.long ((a3 : Int32).toInt64 * (a2 : Int32).toInt64)), none] _ ?_
            refine hC 53 [.int 1] [some (.int a1), some (.int a2), some (.int a3), some (.int a4), some (.long ((a1 : Int32).toInt64 * (a4 : Int32).toInt64)), none, some (.long ((a3 : Int32).toInt64 * (a2 : Int32).toInt64)), none] _ ?_
            exact And.intro (Or.inr rfl) (l4 q1 q2 q3 q4 q5)
    · skip
      exact And.intro (Or.inr rfl) (l5 q1 q2)
  · skip
    exact And.intro (Or.inl rfl) (l6 q1)
theorem w_X4_fitting (d : Nat) (I : Nat → Nat → Int32) (J : Nat → Nat → Int64) (a1 : Int32) (a2 : Int32) (Q : Option Value → zM → Prop) {f20 : Nat → Int32} (e20 : I 20 = f20) {f21 : Nat → Int32} (e21 : I 21 = f21) {s18_4 : Int32} (e18_4 : I 18 4 = s18_4) (b1 : 0 ≤ a1 ∧ a1 < 3) (b2 : 0 ≤ a1 ∧ a1 < 3) (b3 : (¬ ((f21 (a1 : Int32).toNatClampNeg) ≤ 0)) → (¬ (((f20 (a1 : Int32).toNatClampNeg) + s18_4) ≤ 0)) → ((0 : Int32) ≤ a2) → 0 ≤ a1 ∧ a1 < 3) (z1 : (¬ ((f21 (a1 : Int32).toNatClampNeg) ≤ 0)) → (¬ (((f20 (a1 : Int32).toNatClampNeg) + s18_4) ≤ 0)) → ((0 : Int32) ≤ a2) → ¬ ((f20 (a1 : Int32).toNatClampNeg) + s18_4) = 0) (l1 : ((f21 (a1 : Int32).toNatClampNeg) ≤ 0) → Q (some (.int 0)) (I, J, zR, 81)) (l2 : (¬ ((f21 (a1 : Int32).toNatClampNeg) ≤ 0)) → (((f20 (a1 : Int32).toNatClampNeg) + s18_4) ≤ 0) → Q (some (.int 0)) (I, J, zR, 81)) (l3 : (¬ ((f21 (a1 : Int32).toNatClampNeg) ≤ 0)) → (¬ (((f20 (a1 : Int32).toNatClampNeg) + s18_4) ≤ 0)) → ((0 : Int32) ≤ a2) → Q (some (.int (if (a2 / ((f20 (a1 : Int32).toNatClampNeg) + s18_4)) < (f21 (a1 : Int32).toNatClampNeg) then (a2 / ((f20 (a1 : Int32).toNatClampNeg) + s18_4)) else (f21 (a1 : Int32).toNatClampNeg)))) (I, J, zR, 81)) (l4 : (¬ ((f21 (a1 : Int32).toNatClampNeg) ≤ 0)) → (¬ (((f20 (a1 : Int32).toNatClampNeg) + s18_4) ≤ 0)) → (¬ ((0 : Int32) ≤ a2)) → Q (some (.int 0)) (I, J, zR, 81)) : zT (d + 2) 29 81 [.ref 18, .int a1, .int a2] (I, J, zR, 81) Q := by
  subst e20 e21 e18_4
  refine ⟨rfl, fun E At hE hC => ?_⟩
  replace hC : ∀ pc st L M', zX 81 E Q At (zlk B_X4_fitting pc) st L M' → At pc st L M' := hC
  refine hC 0 [] [some (.ref 18), some (.int a1), some (.int a2), none] _ ?_
  refine And.intro (zvp (b1) rfl) ?_
  refine And.intro (zvp (b2) rfl) ?_
  refine And.intro (fun q1 => ?_) (fun q1 => ?_)
  · skip
    refine hC 29 [] [some (.ref 18), some (.int a1), some (.int a2), some (.int ((I 20 (a1 : Int32).toNatClampNeg) + (I 18 4)))] _ ?_
    exact l1 q1
  · skip
    refine And.intro (fun q2 => ?_) (fun q2 => ?_)
    · skip
      refine hC 29 [] [some (.ref 18), some (.int a1), some (.int a2), some (.int ((I 20 (a1 : Int32).toNatClampNeg) + (I 18 4)))] _ ?_
      exact l2 q1 q2
    · skip
      refine And.intro (fun q3 => ?_) (fun q3 => ?_)
      · skip
        refine hC 31 [] [some (.ref 18), some (.int a1), some (.int a2), some (.int ((I 20 (a1 : Int32).toNatClampNeg) + (I 18 4)))] _ ?_
        refine And.intro (zvp (b3 q1 q2 q3) rfl) ?_
        refine And.intro (z1 q1 q2 q3) ?_
        refine hE _ _ _ _ _ (w_min _ _ _ _ _ _   (?_))
        · skip
          exact l3 q1 q2 q3
      · skip
        refine hC 29 [] [some (.ref 18), some (.int a1), some (.int a2), some (.int ((I 20 (a1 : Int32).toNatClampNeg) + (I 18 4)))] _ ?_
        exact l4 q1 q2 q3
theorem g_X1_waiting_0 (d : Nat) (E : zE) (At : Nat → zC) (Q : Option Value → zM → Prop) (hE : ∀ y n a M' Q', zT (d + 0) y n a M' Q' → E y n a M' Q') (hC : ∀ pc st L M', zX 81 E Q At (zlk B_X1_waiting pc) st L M' → At pc st L M') (I : Nat → Nat → Int32) (J : Nat → Nat → Int64) (k1 : At 4 [] [some (.ref 22), some (.int 0), some (.int 0)] (I, J, zR, 81)) : At 0 [] [some (.ref 22), none, none] (I, J, zR, 81) := by
  refine hC 0 [] [some (.ref 22), none, none] _ ?_
  exact k1
theorem g_X1_waiting_4 (d : Nat) (E : zE) (At : Nat → zC) (Q : Option Value → zM → Prop) (hE : ∀ y n a M' Q', zT (d + 1) y n a M' Q' → E y n a M' Q') (hC : ∀ pc st L M', zX 81 E Q At (zlk B_X1_waiting pc) st L M' → At pc st L M') (I : Nat → Nat → Int32) (J : Nat → Nat → Int64) (v1 : Int32) (v2 : Int32) {f26 : Nat → Int32} (e26 : I 26 = f26) {f29 : Nat → Int32} (e29 : I 29 = f29) {s22_10 : Int32} (e22_10 : I 22 10 = s22_10) (b1 : (¬ (s22_10 ≤ v2)) → 0 ≤ v2 ∧ v2 < 200) (b2 : (¬ (s22_10 ≤ v2)) → (¬ ((f26 (v2 : Int32).toNatClampNeg) ≤ 0)) → 0 ≤ v2 ∧ v2 < 200) (k1 : (¬ (s22_10 ≤ v2)) → ((f26 (v2 : Int32).toNatClampNeg) ≤ 0) → At 4 [] [some (.ref 22), some (.int v1), some (.int (v2 + 1))] (I, J, zR, 81)) (k2 : (¬ (s22_10 ≤ v2)) → (¬ ((f26 (v2 : Int32).toNatClampNeg) ≤ 0)) → (¬ ((f29 (v2 : Int32).toNatClampNeg) = (-1))) → At 4 [] [some (.ref 22), some (.int v1), some (.int (v2 + 1))] (I, J, zR, 81)) (k3 : (¬ (s22_10 ≤ v2)) → (¬ ((f26 (v2 : Int32).toNatClampNeg) ≤ 0)) → ((f29 (v2 : Int32).toNatClampNeg) = (-1)) → At 4 [] [some (.ref 22), some (.int (v1 + 1)), some (.int (v2 + 1))] (I, J, zR, 81)) (l1 : (s22_10 ≤ v2) → Q (some (.int v1)) (I, J, zR, 81)) : At 4 [] [some (.ref 22), some (.int v1), some (.int v2)] (I, J, zR, 81) := by
  subst e26 e29 e22_10
  refine hC 4 [] [some (.ref 22), some (.int v1), some (.int v2)] _ ?_
  refine And.intro (fun q1 => ?_) (fun q1 => ?_)
  · skip
    refine hC 29 [] [some (.ref 22), some (.int v1), some (.int v2)] _ ?_
    exact l1 q1
  · skip
    refine hE _ _ _ _ _ (w_X1_waits _ _ _ _ _ rfl rfl (b1 q1) (fun x0 => b2 q1 x0) (fun q2 => ?_) (fun q3 q4 => ?_) (fun q5 q6 => ?_))
    · skip
      refine And.intro (fun _ => ?_) (fun qz => absurd qz (by decide))
      refine hC 23 [] [some (.ref 22), some (.int v1), some (.int v2)] _ ?_
      exact k1 q1 q2
    · skip
      refine And.intro (fun _ => ?_) (fun qz => absurd qz (by decide))
      refine hC 23 [] [some (.ref 22), some (.int v1), some (.int v2)] _ ?_
      exact k2 q1 q3 q4
    · skip
      refine And.intro (fun qz => absurd qz (by decide)) (fun _ => ?_)
      refine hC 23 [] [some (.ref 22), some (.int (v1 + 1)), some (.int v2)] _ ?_
      exact k3 q1 q5 q6
theorem g_X1_firstWaiting_0 (d : Nat) (E : zE) (At : Nat → zC) (Q : Option Value → zM → Prop) (hE : ∀ y n a M' Q', zT (d + 0) y n a M' Q' → E y n a M' Q') (hC : ∀ pc st L M', zX 81 E Q At (zlk B_X1_firstWaiting pc) st L M' → At pc st L M') (I : Nat → Nat → Int32) (J : Nat → Nat → Int64) (k1 : At 2 [] [some (.ref 22), some (.int 0)] (I, J, zR, 81)) : At 0 [] [some (.ref 22), none] (I, J, zR, 81) := by
  refine hC 0 [] [some (.ref 22), none] _ ?_
  exact k1
theorem g_X1_firstWaiting_2 (d : Nat) (E : zE) (At : Nat → zC) (Q : Option Value → zM → Prop) (hE : ∀ y n a M' Q', zT (d + 1) y n a M' Q' → E y n a M' Q') (hC : ∀ pc st L M', zX 81 E Q At (zlk B_X1_firstWaiting pc) st L M' → At pc st L M') (I : Nat → Nat → Int32) (J : Nat → Nat → Int64) (v1 : Int32) {f26 : Nat → Int32} (e26 : I 26 = f26) {f29 : Nat → Int32} (e29 : I 29 = f29) {s22_10 : Int32} (e22_10 : I 22 10 = s22_10) (b1 : (¬ (s22_10 ≤ v1)) → 0 ≤ v1 ∧ v1 < 200) (b2 : (¬ (s22_10 ≤ v1)) → (¬ ((f26 (v1 : Int32).toNatClampNeg) ≤ 0)) → 0 ≤ v1 ∧ v1 < 200) (k1 : (¬ (s22_10 ≤ v1)) → ((f26 (v1 : Int32).toNatClampNeg) ≤ 0) → At 2 [] [some (.ref 22), some (.int (v1 + 1))] (I, J, zR, 81)) (k2 : (¬ (s22_10 ≤ v1)) → (¬ ((f26 (v1 : Int32).toNatClampNeg) ≤ 0)) → (¬ ((f29 (v1 : Int32).toNatClampNeg) = (-1))) → At 2 [] [some (.ref 22), some (.int (v1 + 1))] (I, J, zR, 81)) (l1 : (s22_10 ≤ v1) → Q (some (.int (-1))) (I, J, zR, 81)) (l2 : (¬ (s22_10 ≤ v1)) → (¬ ((f26 (v1 : Int32).toNatClampNeg) ≤ 0)) → ((f29 (v1 : Int32).toNatClampNeg) = (-1)) → Q (some (.int v1)) (I, J, zR, 81)) : At 2 [] [some (.ref 22), some (.int v1)] (I, J, zR, 81) := by
  subst e26 e29 e22_10
  refine hC 2 [] [some (.ref 22), some (.int v1)] _ ?_
  refine And.intro (fun q1 => ?_) (fun q1 => ?_)
  · skip
    refine hC 26 [] [some (.ref 22), some (.int v1)] _ ?_
    exact l1 q1
  · skip
    refine hE _ _ _ _ _ (w_X1_waits _ _ _ _ _ rfl rfl (b1 q1) (fun x0 => b2 q1 x0) (fun q2 => ?_) (fun q3 q4 => ?_) (fun q5 q6 => ?_))
    · skip
      refine And.intro (fun _ => ?_) (fun qz => absurd qz (by decide))
      refine hC 20 [] [some (.ref 22), some (.int v1)] _ ?_
      exact k1 q1 q2
    · skip
      refine And.intro (fun _ => ?_) (fun qz => absurd qz (by decide))
      refine hC 20 [] [some (.ref 22), some (.int v1)] _ ?_
      exact k2 q1 q3 q4
    · skip
      refine And.intro (fun qz => absurd qz (by decide)) (fun _ => ?_)
      exact l2 q1 q5 q6
theorem g_X1_fillOven_0 (d : Nat) (E : zE) (At : Nat → zC) (Q : Option Value → zM → Prop) (hE : ∀ y n a M' Q', zT (d + 0) y n a M' Q' → E y n a M' Q') (hC : ∀ pc st L M', zX 81 E Q At (zlk B_X1_fillOven pc) st L M' → At pc st L M') (I : Nat → Nat → Int32) (J : Nat → Nat → Int64) (v1 : Int32) (v2 : Int32) (v3 : Int32) (k1 : At 9 [] [some (.ref 22), some (.int v1), some (.int v2), some (.int v3), some (.int 0), some (.int 0), some (.int v1)] (I, J, zR, 81)) : At 0 [] [some (.ref 22), some (.int v1), some (.int v2), some (.int v3), none, none, none] (I, J, zR, 81) := by
  refine hC 0 [] [some (.ref 22), some (.int v1), some (.int v2), some (.int v3), none, none, none] _ ?_
  exact k1
theorem g_X1_fillOven_9 (d : Nat) (E : zE) (At : Nat → zC) (Q : Option Value → zM → Prop) (hE : ∀ y n a M' Q', zT (d + 1) y n a M' Q' → E y n a M' Q') (hC : ∀ pc st L M', zX 81 E Q At (zlk B_X1_fillOven pc) st L M' → At pc st L M') (I : Nat → Nat → Int32) (J : Nat → Nat → Int64) (v1 : Int32) (v2 : Int32) (v3 : Int32) (v4 : Int32) (v5 : Int32) (v6 : Int32) {f26 : Nat → Int32} (e26 : I 26 = f26) {f29 : Nat → Int32} (e29 : I 29 = f29) {f30 : Nat → Int32} (e30 : I 30 = f30) {s22_10 : Int32} (e22_10 : I 22 10 = s22_10) (b1 : (¬ (s22_10 ≤ v6)) → 0 ≤ v6 ∧ v6 < 200) (b2 : (¬ (s22_10 ≤ v6)) → (¬ ((f26 (v6 : Int32).toNatClampNeg) ≤ 0)) → 0 ≤ v6 ∧ v6 < 200) (b3 : (¬ (s22_10 ≤ v6)) → (¬ ((f26 (v6 : Int32).toNatClampNeg) ≤ 0)) → ((f29 (v6 : Int32).toNatClampNeg) = (-1)) → 0 ≤ v6 ∧ v6 < 200) (b4 : (¬ (s22_10 ≤ v6)) → (¬ ((f26 (v6 : Int32).toNatClampNeg) ≤ 0)) → ((f29 (v6 : Int32).toNatClampNeg) = (-1)) → 0 ≤ v1 ∧ v1 < 200) (b5 : (¬ (s22_10 ≤ v6)) → (¬ ((f26 (v6 : Int32).toNatClampNeg) ≤ 0)) → ((f29 (v6 : Int32).toNatClampNeg) = (-1)) → ((f30 (v6 : Int32).toNatClampNeg) = (f30 (v1 : Int32).toNatClampNeg)) → (v4 ≤ 0) → 0 ≤ v6 ∧ v6 < 200) (b6 : (¬ (s22_10 ≤ v6)) → (¬ ((f26 (v6 : Int32).toNatClampNeg) ≤ 0)) → ((f29 (v6 : Int32).toNatClampNeg) = (-1)) → ((f30 (v6 : Int32).toNatClampNeg) = (f30 (v1 : Int32).toNatClampNeg)) → (v4 ≤ 0) → 0 ≤ v6 ∧ v6 < 200) (b7 : (¬ (s22_10 ≤ v6)) → (¬ ((f26 (v6 : Int32).toNatClampNeg) ≤ 0)) → ((f29 (v6 : Int32).toNatClampNeg) = (-1)) → ((f30 (v6 : Int32).toNatClampNeg) = (f30 (v1 : Int32).toNatClampNeg)) → (¬ (v4 ≤ 0)) → 0 ≤ v6 ∧ v6 < 200) (b8 : (¬ (s22_10 ≤ v6)) → (¬ ((f26 (v6 : Int32).toNatClampNeg) ≤ 0)) → ((f29 (v6 : Int32).toNatClampNeg) = (-1)) → ((f30 (v6 : Int32).toNatClampNeg) = (f30 (v1 : Int32).toNatClampNeg)) → (¬ (v4 ≤ 0)) → ((v5 + (f26 (v6 : Int32).toNatClampNeg)) ≤ v2) → 0 ≤ v6 ∧ v6 < 200) (b9 : (¬ (s22_10 ≤ v6)) → (¬ ((f26 (v6 : Int32).toNatClampNeg) ≤ 0)) → ((f29 (v6 : Int32).toNatClampNeg) = (-1)) → ((f30 (v6 : Int32).toNatClampNeg) = (f30 (v1 : Int32).toNatClampNeg)) → (¬ (v4 ≤ 0)) → ((v5 + (f26 (v6 : Int32).toNatClampNeg)) ≤ v2) → 0 ≤ v6 ∧ v6 < 200) (k1 : (¬ (s22_10 ≤ v6)) → ((f26 (v6 : Int32).toNatClampNeg) ≤ 0) → At 9 [] [some (.ref 22), some (.int v1), some (.int v2), some (.int v3), some (.int v4), some (.int v5), some (.int (v6 + 1))] (I, J, zR, 81)) (k2 : (¬ (s22_10 ≤ v6)) → (¬ ((f26 (v6 : Int32).toNatClampNeg) ≤ 0)) → (¬ ((f29 (v6 : Int32).toNatClampNeg) = (-1))) → At 9 [] [some (.ref 22), some (.int v1), some (.int v2), some (.int v3), some (.int v4), some (.int v5), some (.int (v6 + 1))] (I, J, zR, 81)) (k3 : (¬ (s22_10 ≤ v6)) → (¬ ((f26 (v6 : Int32).toNatClampNeg) ≤ 0)) → ((f29 (v6 : Int32).toNatClampNeg) = (-1)) → ((f30 (v6 : Int32).toNatClampNeg) = (f30 (v1 : Int32).toNatClampNeg)) → (v4 ≤ 0) → At 9 [] [some (.ref 22), some (.int v1), some (.int v2), some (.int v3), some (.int (v4 + 1)), some (.int (v5 + (f26 (v6 : Int32).toNatClampNeg))), some (.int (v6 + 1))] (zwI (I, J, zR, 81) 29 (v6 : Int32).toNatClampNeg v3)) (k4 : (¬ (s22_10 ≤ v6)) → (¬ ((f26 (v6 : Int32).toNatClampNeg) ≤ 0)) → ((f29 (v6 : Int32).toNatClampNeg) = (-1)) → ((f30 (v6 : Int32).toNatClampNeg) = (f30 (v1 : Int32).toNatClampNeg)) → (¬ (v4 ≤ 0)) → ((v5 + (f26 (v6 : Int32).toNatClampNeg)) ≤ v2) → At 9 [] [some (.ref 22), some (.int v1), some (.int v2), some (.int v3), some (.int (v4 + 1)), some (.int (v5 + (f26 (v6 : Int32).toNatClampNeg))), some (.int (v6 + 1))] (zwI (I, J, zR, 81) 29 (v6 : Int32).toNatClampNeg v3)) (k5 : (¬ (s22_10 ≤ v6)) → (¬ ((f26 (v6 : Int32).toNatClampNeg) ≤ 0)) → ((f29 (v6 : Int32).toNatClampNeg) = (-1)) → (¬ ((f30 (v6 : Int32).toNatClampNeg) = (f30 (v1 : Int32).toNatClampNeg))) → At 9 [] [some (.ref 22), some (.int v1), some (.int v2), some (.int v3), some (.int v4), some (.int v5), some (.int (v6 + 1))] (I, J, zR, 81)) (l1 : (s22_10 ≤ v6) → Q (some (.int v4)) (I, J, zR, 81)) (l2 : (¬ (s22_10 ≤ v6)) → (¬ ((f26 (v6 : Int32).toNatClampNeg) ≤ 0)) → ((f29 (v6 : Int32).toNatClampNeg) = (-1)) → ((f30 (v6 : Int32).toNatClampNeg) = (f30 (v1 : Int32).toNatClampNeg)) → (¬ (v4 ≤ 0)) → (¬ ((v5 + (f26 (v6 : Int32).toNatClampNeg)) ≤ v2)) → Q (some (.int v4)) (I, J, zR, 81)) : At 9 [] [some (.ref 22), some (.int v1), some (.int v2), some (.int v3), some (.int v4), some (.int v5), some (.int v6)] (I, J, zR, 81) := by
  subst e26 e29 e30 e22_10
  refine hC 9 [] [some (.ref 22), some (.int v1), some (.int v2), some (.int v3), some (.int v4), some (.int v5), some (.int v6)] _ ?_
  refine And.intro (fun q1 => ?_) (fun q1 => ?_)
  · skip
    refine hC 97 [] [some (.ref 22), some (.int v1), some (.int v2), some (.int v3), some (.int v4), some (.int v5), some (.int v6)] _ ?_
    exact l1 q1
  · skip
    refine hE _ _ _ _ _ (w_X1_waits _ _ _ _ _ rfl rfl (b1 q1) (fun x0 => b2 q1 x0) (fun q2 => ?_) (fun q3 q4 => ?_) (fun q5 q6 => ?_))
    · skip
      refine And.intro (fun _ => ?_) (fun qz => absurd qz (by decide))
      refine hC 91 [] [some (.ref 22), some (.int v1), some (.int v2), some (.int v3), some (.int v4), some (.int v5), some (.int v6)] _ ?_
      exact k1 q1 q2
    · skip
      refine And.intro (fun _ => ?_) (fun qz => absurd qz (by decide))
      refine hC 91 [] [some (.ref 22), some (.int v1), some (.int v2), some (.int v3), some (.int v4), some (.int v5), some (.int v6)] _ ?_
      exact k2 q1 q3 q4
    · skip
      refine And.intro (fun qz => absurd qz (by decide)) (fun _ => ?_)
      refine And.intro (zvp (b3 q1 q5 q6) rfl) ?_
      refine And.intro (zvp (b4 q1 q5 q6) rfl) ?_
      refine And.intro (fun q7 => ?_) (fun q7 => ?_)
      · skip
        refine hC 46 [] [some (.ref 22), some (.int v1), some (.int v2), some (.int v3), some (.int v4), some (.int v5), some (.int v6)] _ ?_
        refine And.intro (fun q8 => ?_) (fun q8 => ?_)
        · skip
          refine hC 68 [] [some (.ref 22), some (.int v1), some (.int v2), some (.int v3), some (.int v4), some (.int v5), some (.int v6)] _ ?_
          refine And.intro (zvp (b5 q1 q5 q6 q7 q8) rfl) ?_
          refine And.intro (zvp (b6 q1 q5 q6 q7 q8) rfl) ?_
          refine hC 91 [] [some (.ref 22), some (.int v1), some (.int v2), some (.int v3), some (.int (v4 + 1)), some (.int (v5 + (I 26 (v6 : Int32).toNatClampNeg))), some (.int v6)] _ ?_
          exact k3 q1 q5 q6 q7 q8
        · skip
          refine And.intro (zvp (b7 q1 q5 q6 q7 q8) rfl) ?_
          refine And.intro (fun q9 => ?_) (fun q9 => ?_)
          · skip
            refine hC 68 [] [some (.ref 22), some (.int v1), some (.int v2), some (.int v3), some (.int v4), some (.int v5), some (.int v6)] _ ?_
            refine And.intro (zvp (b8 q1 q5 q6 q7 q8 q9) rfl) ?_
            refine And.intro (zvp (b9 q1 q5 q6 q7 q8 q9) rfl) ?_
            refine hC 91 [] [some (.ref 22), some (.int v1), some (.int v2), some (.int v3), some (.int (v4 + 1)), some (.int (v5 + (I 26 (v6 : Int32).toNatClampNeg))), some (.int v6)] _ ?_
            exact k4 q1 q5 q6 q7 q8 q9
          · skip
            refine hC 97 [] [some (.ref 22), some (.int v1), some (.int v2), some (.int v3), some (.int v4), some (.int v5), some (.int v6)] _ ?_
            exact l2 q1 q5 q6 q7 q8 q9
      · skip
        refine hC 91 [] [some (.ref 22), some (.int v1), some (.int v2), some (.int v3), some (.int v4), some (.int v5), some (.int v6)] _ ?_
        exact k5 q1 q5 q6 q7
theorem g_X1_ovensNeeded_0 (d : Nat) (E : zE) (At : Nat → zC) (Q : Option Value → zM → Prop) (hE : ∀ y n a M' Q', zT (d + 0) y n a M' Q' → E y n a M' Q') (hC : ∀ pc st L M', zX 81 E Q At (zlk B_X1_ovensNeeded pc) st L M' → At pc st L M') (I : Nat → Nat → Int32) (J : Nat → Nat → Int64) (v1 : Int32) (v2 : Int32) (k1 : At 8 [] [some (.ref 22), some (.int v1), some (.int v2), some (.int 0), some (.int 0), some (.int 0)] (I, J, zR, 81)) : At 0 [] [some (.ref 22), some (.int v1), some (.int v2), none, none, none] (I, J, zR, 81) := by
  refine hC 0 [] [some (.ref 22), some (.int v1), some (.int v2), none, none, none] _ ?_
  exact k1
theorem g_X1_ovensNeeded_8 (d : Nat) (E : zE) (At : Nat → zC) (Q : Option Value → zM → Prop) (hE : ∀ y n a M' Q', zT (d + 1) y n a M' Q' → E y n a M' Q') (hC : ∀ pc st L M', zX 81 E Q At (zlk B_X1_ovensNeeded pc) st L M' → At pc st L M') (I : Nat → Nat → Int32) (J : Nat → Nat → Int64) (v1 : Int32) (v2 : Int32) (v3 : Int32) (v4 : Int32) (v5 : Int32) {f26 : Nat → Int32} (e26 : I 26 = f26) {f29 : Nat → Int32} (e29 : I 29 = f29) {f30 : Nat → Int32} (e30 : I 30 = f30) {s22_10 : Int32} (e22_10 : I 22 10 = s22_10) (b1 : (¬ (s22_10 ≤ v5)) → 0 ≤ v5 ∧ v5 < 200) (b2 : (¬ (s22_10 ≤ v5)) → (¬ ((f26 (v5 : Int32).toNatClampNeg) ≤ 0)) → 0 ≤ v5 ∧ v5 < 200) (b3 : (¬ (s22_10 ≤ v5)) → (¬ ((f26 (v5 : Int32).toNatClampNeg) ≤ 0)) → ((f29 (v5 : Int32).toNatClampNeg) = (-1)) → 0 ≤ v5 ∧ v5 < 200) (b4 : (¬ (s22_10 ≤ v5)) → (¬ ((f26 (v5 : Int32).toNatClampNeg) ≤ 0)) → ((f29 (v5 : Int32).toNatClampNeg) = (-1)) → ((f30 (v5 : Int32).toNatClampNeg) = v1) → (v3 = 0) → 0 ≤ v5 ∧ v5 < 200) (b5 : (¬ (s22_10 ≤ v5)) → (¬ ((f26 (v5 : Int32).toNatClampNeg) ≤ 0)) → ((f29 (v5 : Int32).toNatClampNeg) = (-1)) → ((f30 (v5 : Int32).toNatClampNeg) = v1) → (¬ (v3 = 0)) → 0 ≤ v5 ∧ v5 < 200) (b6 : (¬ (s22_10 ≤ v5)) → (¬ ((f26 (v5 : Int32).toNatClampNeg) ≤ 0)) → ((f29 (v5 : Int32).toNatClampNeg) = (-1)) → ((f30 (v5 : Int32).toNatClampNeg) = v1) → (¬ (v3 = 0)) → ((v4 + (f26 (v5 : Int32).toNatClampNeg)) ≤ v2) → 0 ≤ v5 ∧ v5 < 200) (b7 : (¬ (s22_10 ≤ v5)) → (¬ ((f26 (v5 : Int32).toNatClampNeg) ≤ 0)) → ((f29 (v5 : Int32).toNatClampNeg) = (-1)) → ((f30 (v5 : Int32).toNatClampNeg) = v1) → (¬ (v3 = 0)) → (¬ ((v4 + (f26 (v5 : Int32).toNatClampNeg)) ≤ v2)) → 0 ≤ v5 ∧ v5 < 200) (k1 : (¬ (s22_10 ≤ v5)) → ((f26 (v5 : Int32).toNatClampNeg) ≤ 0) → At 8 [] [some (.ref 22), some (.int v1), some (.int v2), some (.int v3), some (.int v4), some (.int (v5 + 1))] (I, J, zR, 81)) (k2 : (¬ (s22_10 ≤ v5)) → (¬ ((f26 (v5 : Int32).toNatClampNeg) ≤ 0)) → (¬ ((f29 (v5 : Int32).toNatClampNeg) = (-1))) → At 8 [] [some (.ref 22), some (.int v1), some (.int v2), some (.int v3), some (.int v4), some (.int (v5 + 1))] (I, J, zR, 81)) (k3 : (¬ (s22_10 ≤ v5)) → (¬ ((f26 (v5 : Int32).toNatClampNeg) ≤ 0)) → ((f29 (v5 : Int32).toNatClampNeg) = (-1)) → ((f30 (v5 : Int32).toNatClampNeg) = v1) → (v3 = 0) → At 8 [] [some (.ref 22), some (.int v1), some (.int v2), some (.int (v3 + 1)), some (.int (0 + (f26 (v5 : Int32).toNatClampNeg))), some (.int (v5 + 1))] (I, J, zR, 81)) (k4 : (¬ (s22_10 ≤ v5)) → (¬ ((f26 (v5 : Int32).toNatClampNeg) ≤ 0)) → ((f29 (v5 : Int32).toNatClampNeg) = (-1)) → ((f30 (v5 : Int32).toNatClampNeg) = v1) → (¬ (v3 = 0)) → ((v4 + (f26 (v5 : Int32).toNatClampNeg)) ≤ v2) → At 8 [] [some (.ref 22), some (.int v1), some (.int v2), some (.int v3), some (.int (v4 + (f26 (v5 : Int32).toNatClampNeg))), some (.int (v5 + 1))] (I, J, zR, 81)) (k5 : (¬ (s22_10 ≤ v5)) → (¬ ((f26 (v5 : Int32).toNatClampNeg) ≤ 0)) → ((f29 (v5 : Int32).toNatClampNeg) = (-1)) → ((f30 (v5 : Int32).toNatClampNeg) = v1) → (¬ (v3 = 0)) → (¬ ((v4 + (f26 (v5 : Int32).toNatClampNeg)) ≤ v2)) → At 8 [] [some (.ref 22), some (.int v1), some (.int v2), some (.int (v3 + 1)), some (.int (0 + (f26 (v5 : Int32).toNatClampNeg))), some (.int (v5 + 1))] (I, J, zR, 81)) (k6 : (¬ (s22_10 ≤ v5)) → (¬ ((f26 (v5 : Int32).toNatClampNeg) ≤ 0)) → ((f29 (v5 : Int32).toNatClampNeg) = (-1)) → (¬ ((f30 (v5 : Int32).toNatClampNeg) = v1)) → At 8 [] [some (.ref 22), some (.int v1), some (.int v2), some (.int v3), some (.int v4), some (.int (v5 + 1))] (I, J, zR, 81)) (l1 : (s22_10 ≤ v5) → Q (some (.int v3)) (I, J, zR, 81)) : At 8 [] [some (.ref 22), some (.int v1), some (.int v2), some (.int v3), some (.int v4), some (.int v5)] (I, J, zR, 81) := by
  subst e26 e29 e30 e22_10
  refine hC 8 [] [some (.ref 22), some (.int v1), some (.int v2), some (.int v3), some (.int v4), some (.int v5)] _ ?_
  refine And.intro (fun q1 => ?_) (fun q1 => ?_)
  · skip
    refine hC 82 [] [some (.ref 22), some (.int v1), some (.int v2), some (.int v3), some (.int v4), some (.int v5)] _ ?_
    exact l1 q1
  · skip
    refine hE _ _ _ _ _ (w_X1_waits _ _ _ _ _ rfl rfl (b1 q1) (fun x0 => b2 q1 x0) (fun q2 => ?_) (fun q3 q4 => ?_) (fun q5 q6 => ?_))
    · skip
      refine And.intro (fun _ => ?_) (fun qz => absurd qz (by decide))
      refine hC 76 [] [some (.ref 22), some (.int v1), some (.int v2), some (.int v3), some (.int v4), some (.int v5)] _ ?_
      exact k1 q1 q2
    · skip
      refine And.intro (fun _ => ?_) (fun qz => absurd qz (by decide))
      refine hC 76 [] [some (.ref 22), some (.int v1), some (.int v2), some (.int v3), some (.int v4), some (.int v5)] _ ?_
      exact k2 q1 q3 q4
    · skip
      refine And.intro (fun qz => absurd qz (by decide)) (fun _ => ?_)
      refine And.intro (zvp (b3 q1 q5 q6) rfl) ?_
      refine And.intro (fun q7 => ?_) (fun q7 => ?_)
      · skip
        refine hC 40 [] [some (.ref 22), some (.int v1), some (.int v2), some (.int v3), some (.int v4), some (.int v5)] _ ?_
        refine And.intro (fun q8 => ?_) (fun q8 => ?_)
        · skip
          refine hC 58 [] [some (.ref 22), some (.int v1), some (.int v2), some (.int v3), some (.int v4), some (.int v5)] _ ?_
          refine hC 64 [] [some (.ref 22), some (.int v1), some (.int v2), some (.int (v3 + 1)), some (.int 0), some (.int v5)] _ ?_
          refine And.intro (zvp (b4 q1 q5 q6 q7 q8) rfl) ?_
          refine hC 76 [] [some (.ref 22), some (.int v1), some (.int v2), some (.int (v3 + 1)), some (.int (0 + (I 26 (v5 : Int32).toNatClampNeg))), some (.int v5)] _ ?_
          exact k3 q1 q5 q6 q7 q8
        · skip
          refine And.intro (zvp (b5 q1 q5 q6 q7 q8) rfl) ?_
          refine And.intro (fun q9 => ?_) (fun q9 => ?_)
          · skip
            refine hC 64 [] [some (.ref 22), some (.int v1), some (.int v2), some (.int v3), some (.int v4), some (.int v5)] _ ?_
            refine And.intro (zvp (b6 q1 q5 q6 q7 q8 q9) rfl) ?_
            refine hC 76 [] [some (.ref 22), some (.int v1), some (.int v2), some (.int v3), some (.int (v4 + (I 26 (v5 : Int32).toNatClampNeg))), some (.int v5)] _ ?_
            exact k4 q1 q5 q6 q7 q8 q9
          · skip
            refine hC 58 [] [some (.ref 22), some (.int v1), some (.int v2), some (.int v3), some (.int v4), some (.int v5)] _ ?_
            refine hC 64 [] [some (.ref 22), some (.int v1), some (.int v2), some (.int (v3 + 1)), some (.int 0), some (.int v5)] _ ?_
            refine And.intro (zvp (b7 q1 q5 q6 q7 q8 q9) rfl) ?_
            refine hC 76 [] [some (.ref 22), some (.int v1), some (.int v2), some (.int (v3 + 1)), some (.int (0 + (I 26 (v5 : Int32).toNatClampNeg))), some (.int v5)] _ ?_
            exact k5 q1 q5 q6 q7 q8 q9
      · skip
        refine hC 76 [] [some (.ref 22), some (.int v1), some (.int v2), some (.int v3), some (.int v4), some (.int v5)] _ ?_
        exact k6 q1 q5 q6 q7
theorem g_X1_poorUpTo_0 (d : Nat) (E : zE) (At : Nat → zC) (Q : Option Value → zM → Prop) (hE : ∀ y n a M' Q', zT (d + 0) y n a M' Q' → E y n a M' Q') (hC : ∀ pc st L M', zX 81 E Q At (zlk B_X1_poorUpTo pc) st L M' → At pc st L M') (I : Nat → Nat → Int32) (J : Nat → Nat → Int64) (v1 : Int32) (k1 : At 2 [] [some (.ref 22), some (.int v1), some (.int v1)] (I, J, zR, 81)) : At 0 [] [some (.ref 22), some (.int v1), none] (I, J, zR, 81) := by
  refine hC 0 [] [some (.ref 22), some (.int v1), none] _ ?_
  exact k1
theorem g_X1_poorUpTo_2 (d : Nat) (E : zE) (At : Nat → zC) (Q : Option Value → zM → Prop) (hE : ∀ y n a M' Q', zT (d + 0) y n a M' Q' → E y n a M' Q') (hC : ∀ pc st L M', zX 81 E Q At (zlk B_X1_poorUpTo pc) st L M' → At pc st L M') (I : Nat → Nat → Int32) (J : Nat → Nat → Int64) (v1 : Int32) (v2 : Int32) {f23 : Nat → Int32} (e23 : I 23 = f23) {f32 : Nat → Int32} (e32 : I 32 = f32) (b1 : (¬ (v2 < 0)) → 0 ≤ v2 ∧ v2 < 200) (b2 : (¬ (v2 < 0)) → 0 ≤ v1 ∧ v1 < 200) (b3 : (¬ (v2 < 0)) → ((f23 (v2 : Int32).toNatClampNeg) = (f23 (v1 : Int32).toNatClampNeg)) → 0 ≤ v2 ∧ v2 < 200) (b4 : (¬ (v2 < 0)) → ((f23 (v2 : Int32).toNatClampNeg) = (f23 (v1 : Int32).toNatClampNeg)) → (¬ ((f32 (v2 : Int32).toNatClampNeg) = 0)) → 0 ≤ v2 ∧ v2 < 200) (k1 : (¬ (v2 < 0)) → (¬ ((f23 (v2 : Int32).toNatClampNeg) = (f23 (v1 : Int32).toNatClampNeg))) → At 2 [] [some (.ref 22), some (.int v1), some (.int (v2 + (-1)))] (I, J, zR, 81)) (k2 : (¬ (v2 < 0)) → ((f23 (v2 : Int32).toNatClampNeg) = (f23 (v1 : Int32).toNatClampNeg)) → ((f32 (v2 : Int32).toNatClampNeg) = 0) → At 2 [] [some (.ref 22), some (.int v1), some (.int (v2 + (-1)))] (I, J, zR, 81)) (l1 : (v2 < 0) → Q (some (.int 0)) (I, J, zR, 81)) (l2 : (¬ (v2 < 0)) → ((f23 (v2 : Int32).toNatClampNeg) = (f23 (v1 : Int32).toNatClampNeg)) → (¬ ((f32 (v2 : Int32).toNatClampNeg) = 0)) → (¬ ((f32 (v2 : Int32).toNatClampNeg) = 2)) → Q (some (.int 0)) (I, J, zR, 81)) (l3 : (¬ (v2 < 0)) → ((f23 (v2 : Int32).toNatClampNeg) = (f23 (v1 : Int32).toNatClampNeg)) → (¬ ((f32 (v2 : Int32).toNatClampNeg) = 0)) → ((f32 (v2 : Int32).toNatClampNeg) = 2) → Q (some (.int 1)) (I, J, zR, 81)) : At 2 [] [some (.ref 22), some (.int v1), some (.int v2)] (I, J, zR, 81) := by
  subst e23 e32
  refine hC 2 [] [some (.ref 22), some (.int v1), some (.int v2)] _ ?_
  refine And.intro (fun q1 => ?_) (fun q1 => ?_)
  · skip
    refine hC 52 [] [some (.ref 22), some (.int v1), some (.int v2)] _ ?_
    exact And.intro (Or.inl rfl) (l1 q1)
  · skip
    refine And.intro (zvp (b1 q1) rfl) ?_
    refine And.intro (zvp (b2 q1) rfl) ?_
    refine And.intro (fun q2 => ?_) (fun q2 => ?_)
    · skip
      refine hC 46 [] [some (.ref 22), some (.int v1), some (.int v2)] _ ?_
      exact k1 q1 q2
    · skip
      refine And.intro (zvp (b3 q1 q2) rfl) ?_
      refine And.intro (fun q3 => ?_) (fun q3 => ?_)
      · skip
        refine hC 46 [] [some (.ref 22), some (.int v1), some (.int v2)] _ ?_
        exact k2 q1 q2 q3
      · skip
        refine And.intro (zvp (b4 q1 q2 q3) rfl) ?_
        refine And.intro (fun q4 => ?_) (fun q4 => ?_)
        · skip
          refine hC 44 [] [some (.ref 22), some (.int v1), some (.int v2)] _ ?_
          refine hC 45 [.int 0] [some (.ref 22), some (.int v1), some (.int v2)] _ ?_
          exact And.intro (Or.inl rfl) (l2 q1 q2 q3 q4)
        · skip
          refine hC 45 [.int 1] [some (.ref 22), some (.int v1), some (.int v2)] _ ?_
          exact And.intro (Or.inr rfl) (l3 q1 q2 q3 q4)
theorem g_X1_poorFrom_0 (d : Nat) (E : zE) (At : Nat → zC) (Q : Option Value → zM → Prop) (hE : ∀ y n a M' Q', zT (d + 0) y n a M' Q' → E y n a M' Q') (hC : ∀ pc st L M', zX 81 E Q At (zlk B_X1_poorFrom pc) st L M' → At pc st L M') (I : Nat → Nat → Int32) (J : Nat → Nat → Int64) (v1 : Int32) (k1 : At 2 [] [some (.ref 22), some (.int v1), some (.int v1)] (I, J, zR, 81)) : At 0 [] [some (.ref 22), some (.int v1), none] (I, J, zR, 81) := by
  refine hC 0 [] [some (.ref 22), some (.int v1), none] _ ?_
  exact k1
theorem g_X1_poorFrom_2 (d : Nat) (E : zE) (At : Nat → zC) (Q : Option Value → zM → Prop) (hE : ∀ y n a M' Q', zT (d + 0) y n a M' Q' → E y n a M' Q') (hC : ∀ pc st L M', zX 81 E Q At (zlk B_X1_poorFrom pc) st L M' → At pc st L M') (I : Nat → Nat → Int32) (J : Nat → Nat → Int64) (v1 : Int32) (v2 : Int32) {f23 : Nat → Int32} (e23 : I 23 = f23) {f32 : Nat → Int32} (e32 : I 32 = f32) {s22_10 : Int32} (e22_10 : I 22 10 = s22_10) (b1 : (¬ (s22_10 ≤ v2)) → 0 ≤ v2 ∧ v2 < 200) (b2 : (¬ (s22_10 ≤ v2)) → 0 ≤ v1 ∧ v1 < 200) (b3 : (¬ (s22_10 ≤ v2)) → ((f23 (v2 : Int32).toNatClampNeg) = (f23 (v1 : Int32).toNatClampNeg)) → 0 ≤ v2 ∧ v2 < 200) (b4 : (¬ (s22_10 ≤ v2)) → ((f23 (v2 : Int32).toNatClampNeg) = (f23 (v1 : Int32).toNatClampNeg)) → (¬ ((f32 (v2 : Int32).toNatClampNeg) = 0)) → 0 ≤ v2 ∧ v2 < 200) (k1 : (¬ (s22_10 ≤ v2)) → (¬ ((f23 (v2 : Int32).toNatClampNeg) = (f23 (v1 : Int32).toNatClampNeg))) → At 2 [] [some (.ref 22), some (.int v1), some (.int (v2 + 1))] (I, J, zR, 81)) (k2 : (¬ (s22_10 ≤ v2)) → ((f23 (v2 : Int32).toNatClampNeg) = (f23 (v1 : Int32).toNatClampNeg)) → ((f32 (v2 : Int32).toNatClampNeg) = 0) → At 2 [] [some (.ref 22), some (.int v1), some (.int (v2 + 1))] (I, J, zR, 81)) (l1 : (s22_10 ≤ v2) → Q (some (.int 0)) (I, J, zR, 81)) (l2 : (¬ (s22_10 ≤ v2)) → ((f23 (v2 : Int32).toNatClampNeg) = (f23 (v1 : Int32).toNatClampNeg)) → (¬ ((f32 (v2 : Int32).toNatClampNeg) = 0)) → (¬ ((f32 (v2 : Int32).toNatClampNeg) = 2)) → Q (some (.int 0)) (I, J, zR, 81)) (l3 : (¬ (s22_10 ≤ v2)) → ((f23 (v2 : Int32).toNatClampNeg) = (f23 (v1 : Int32).toNatClampNeg)) → (¬ ((f32 (v2 : Int32).toNatClampNeg) = 0)) → ((f32 (v2 : Int32).toNatClampNeg) = 2) → Q (some (.int 1)) (I, J, zR, 81)) : At 2 [] [some (.ref 22), some (.int v1), some (.int v2)] (I, J, zR, 81) := by
  subst e23 e32 e22_10
  refine hC 2 [] [some (.ref 22), some (.int v1), some (.int v2)] _ ?_
  refine And.intro (fun q1 => ?_) (fun q1 => ?_)
  · skip
    refine hC 56 [] [some (.ref 22), some (.int v1), some (.int v2)] _ ?_
    exact And.intro (Or.inl rfl) (l1 q1)
  · skip
    refine And.intro (zvp (b1 q1) rfl) ?_
    refine And.intro (zvp (b2 q1) rfl) ?_
    refine And.intro (fun q2 => ?_) (fun q2 => ?_)
    · skip
      refine hC 50 [] [some (.ref 22), some (.int v1), some (.int v2)] _ ?_
      exact k1 q1 q2
    · skip
      refine And.intro (zvp (b3 q1 q2) rfl) ?_
      refine And.intro (fun q3 => ?_) (fun q3 => ?_)
      · skip
        refine hC 50 [] [some (.ref 22), some (.int v1), some (.int v2)] _ ?_
        exact k2 q1 q2 q3
      · skip
        refine And.intro (zvp (b4 q1 q2 q3) rfl) ?_
        refine And.intro (fun q4 => ?_) (fun q4 => ?_)
        · skip
          refine hC 48 [] [some (.ref 22), some (.int v1), some (.int v2)] _ ?_
          refine hC 49 [.int 0] [some (.ref 22), some (.int v1), some (.int v2)] _ ?_
          exact And.intro (Or.inl rfl) (l2 q1 q2 q3 q4)
        · skip
          refine hC 49 [.int 1] [some (.ref 22), some (.int v1), some (.int v2)] _ ?_
          exact And.intro (Or.inr rfl) (l3 q1 q2 q3 q4)
theorem g_X2_leastWorn_0 (d : Nat) (E : zE) (At : Nat → zC) (Q : Option Value → zM → Prop) (hE : ∀ y n a M' Q', zT (d + 0) y n a M' Q' → E y n a M' Q') (hC : ∀ pc st L M', zX 81 E Q At (zlk B_X2_leastWorn pc) st L M' → At pc st L M') (I : Nat → Nat → Int32) (J : Nat → Nat → Int64) (v1 : Int32) (v2 : Int32) (k1 : At 5 [] [some (.ref 10), some (.int v1), some (.int v2), some (.int (-1)), some (.int 0)] (I, J, zR, 81)) : At 0 [] [some (.ref 10), some (.int v1), some (.int v2), none, none] (I, J, zR, 81) := by
  refine hC 0 [] [some (.ref 10), some (.int v1), some (.int v2), none, none] _ ?_
  exact k1
theorem g_X2_leastWorn_5 (d : Nat) (E : zE) (At : Nat → zC) (Q : Option Value → zM → Prop) (hE : ∀ y n a M' Q', zT (d + 3) y n a M' Q' → E y n a M' Q') (hC : ∀ pc st L M', zX 81 E Q At (zlk B_X2_leastWorn pc) st L M' → At pc st L M') (I : Nat → Nat → Int32) (J : Nat → Nat → Int64) (v1 : Int32) (v2 : Int32) (v3 : Int32) (v4 : Int32) {f11 : Nat → Int32} (e11 : I 11 = f11) {f12 : Nat → Int32} (e12 : I 12 = f12) {f13 : Nat → Int32} (e13 : I 13 = f13) {f15 : Nat → Int32} (e15 : I 15 = f15) {s10_5 : Int32} (e10_5 : I 10 5 = s10_5) (b1 : (¬ (s10_5 ≤ v4)) → 0 ≤ v4 ∧ v4 < 12) (b2 : (¬ (s10_5 ≤ v4)) → ((f11 (v4 : Int32).toNatClampNeg) = v1) → 0 ≤ v4 ∧ v4 < 12) (b3 : (¬ (s10_5 ≤ v4)) → ((f11 (v4 : Int32).toNatClampNeg) = v1) → (¬ ((f15 (v4 : Int32).toNatClampNeg) = (-1))) → 0 ≤ v4 ∧ v4 < 12) (b4 : (¬ (s10_5 ≤ v4)) → ((f11 (v4 : Int32).toNatClampNeg) = v1) → (¬ ((f15 (v4 : Int32).toNatClampNeg) = (-1))) → (((3 : Int32) ≤ (v2 - (f15 (v4 : Int32).toNatClampNeg)) ∧ (v2 - (f15 (v4 : Int32).toNatClampNeg)) ≤ 12)) → 0 ≤ v4 ∧ v4 < 12) (b5 : (¬ (s10_5 ≤ v4)) → ((f11 (v4 : Int32).toNatClampNeg) = v1) → (¬ ((f15 (v4 : Int32).toNatClampNeg) = (-1))) → (((3 : Int32) ≤ (v2 - (f15 (v4 : Int32).toNatClampNeg)) ∧ (v2 - (f15 (v4 : Int32).toNatClampNeg)) ≤ 12)) → 0 ≤ v4 ∧ v4 < 12) (b6 : (¬ (s10_5 ≤ v4)) → ((f11 (v4 : Int32).toNatClampNeg) = v1) → (¬ ((f15 (v4 : Int32).toNatClampNeg) = (-1))) → (((3 : Int32) ≤ (v2 - (f15 (v4 : Int32).toNatClampNeg)) ∧ (v2 - (f15 (v4 : Int32).toNatClampNeg)) ≤ 12)) → (¬ ((f12 (v4 : Int32).toNatClampNeg) ≤ (f13 (v4 : Int32).toNatClampNeg))) → (¬ (v3 = (-1))) → 0 ≤ v4 ∧ v4 < 12) (b7 : (¬ (s10_5 ≤ v4)) → ((f11 (v4 : Int32).toNatClampNeg) = v1) → (¬ ((f15 (v4 : Int32).toNatClampNeg) = (-1))) → (((3 : Int32) ≤ (v2 - (f15 (v4 : Int32).toNatClampNeg)) ∧ (v2 - (f15 (v4 : Int32).toNatClampNeg)) ≤ 12)) → (¬ ((f12 (v4 : Int32).toNatClampNeg) ≤ (f13 (v4 : Int32).toNatClampNeg))) → (¬ (v3 = (-1))) → 0 ≤ v3 ∧ v3 < 12) (k1 : (¬ (s10_5 ≤ v4)) → (¬ ((f11 (v4 : Int32).toNatClampNeg) = v1)) → At 5 [] [some (.ref 10), some (.int v1), some (.int v2), some (.int v3), some (.int (v4 + 1))] (I, J, zR, 81)) (k2 : (¬ (s10_5 ≤ v4)) → ((f11 (v4 : Int32).toNatClampNeg) = v1) → ((f15 (v4 : Int32).toNatClampNeg) = (-1)) → At 5 [] [some (.ref 10), some (.int v1), some (.int v2), some (.int v3), some (.int (v4 + 1))] (I, J, zR, 81)) (k3 : (¬ (s10_5 ≤ v4)) → ((f11 (v4 : Int32).toNatClampNeg) = v1) → (¬ ((f15 (v4 : Int32).toNatClampNeg) = (-1))) → (((3 : Int32) ≤ (v2 - (f15 (v4 : Int32).toNatClampNeg)) ∧ (v2 - (f15 (v4 : Int32).toNatClampNeg)) ≤ 12)) → ((f12 (v4 : Int32).toNatClampNeg) ≤ (f13 (v4 : Int32).toNatClampNeg)) → At 5 [] [some (.ref 10), some (.int v1), some (.int v2), some (.int v3), some (.int (v4 + 1))] (I, J, zR, 81)) (k4 : (¬ (s10_5 ≤ v4)) → ((f11 (v4 : Int32).toNatClampNeg) = v1) → (¬ ((f15 (v4 : Int32).toNatClampNeg) = (-1))) → (((3 : Int32) ≤ (v2 - (f15 (v4 : Int32).toNatClampNeg)) ∧ (v2 - (f15 (v4 : Int32).toNatClampNeg)) ≤ 12)) → (¬ ((f12 (v4 : Int32).toNatClampNeg) ≤ (f13 (v4 : Int32).toNatClampNeg))) → (v3 = (-1)) → At 5 [] [some (.ref 10), some (.int v1), some (.int v2), some (.int v4), some (.int (v4 + 1))] (I, J, zR, 81)) (k5 : (¬ (s10_5 ≤ v4)) → ((f11 (v4 : Int32).toNatClampNeg) = v1) → (¬ ((f15 (v4 : Int32).toNatClampNeg) = (-1))) → (((3 : Int32) ≤ (v2 - (f15 (v4 : Int32).toNatClampNeg)) ∧ (v2 - (f15 (v4 : Int32).toNatClampNeg)) ≤ 12)) → (¬ ((f12 (v4 : Int32).toNatClampNeg) ≤ (f13 (v4 : Int32).toNatClampNeg))) → (¬ (v3 = (-1))) → ((f13 (v3 : Int32).toNatClampNeg) ≤ (f13 (v4 : Int32).toNatClampNeg)) → At 5 [] [some (.ref 10), some (.int v1), some (.int v2), some (.int v3), some (.int (v4 + 1))] (I, J, zR, 81)) (k6 : (¬ (s10_5 ≤ v4)) → ((f11 (v4 : Int32).toNatClampNeg) = v1) → (¬ ((f15 (v4 : Int32).toNatClampNeg) = (-1))) → (((3 : Int32) ≤ (v2 - (f15 (v4 : Int32).toNatClampNeg)) ∧ (v2 - (f15 (v4 : Int32).toNatClampNeg)) ≤ 12)) → (¬ ((f12 (v4 : Int32).toNatClampNeg) ≤ (f13 (v4 : Int32).toNatClampNeg))) → (¬ (v3 = (-1))) → (¬ ((f13 (v3 : Int32).toNatClampNeg) ≤ (f13 (v4 : Int32).toNatClampNeg))) → At 5 [] [some (.ref 10), some (.int v1), some (.int v2), some (.int v4), some (.int (v4 + 1))] (I, J, zR, 81)) (k7 : (¬ (s10_5 ≤ v4)) → ((f11 (v4 : Int32).toNatClampNeg) = v1) → (¬ ((f15 (v4 : Int32).toNatClampNeg) = (-1))) → (¬ (((3 : Int32) ≤ (v2 - (f15 (v4 : Int32).toNatClampNeg)) ∧ (v2 - (f15 (v4 : Int32).toNatClampNeg)) ≤ 12))) → At 5 [] [some (.ref 10), some (.int v1), some (.int v2), some (.int v3), some (.int (v4 + 1))] (I, J, zR, 81)) (l1 : (s10_5 ≤ v4) → Q (some (.int v3)) (I, J, zR, 81)) : At 5 [] [some (.ref 10), some (.int v1), some (.int v2), some (.int v3), some (.int v4)] (I, J, zR, 81) := by
  subst e11 e12 e13 e15 e10_5
  refine hC 5 [] [some (.ref 10), some (.int v1), some (.int v2), some (.int v3), some (.int v4)] _ ?_
  refine And.intro (fun q1 => ?_) (fun q1 => ?_)
  · skip
    refine hC 65 [] [some (.ref 10), some (.int v1), some (.int v2), some (.int v3), some (.int v4)] _ ?_
    exact l1 q1
  · skip
    refine And.intro (zvp (b1 q1) rfl) ?_
    refine And.intro (fun q2 => ?_) (fun q2 => ?_)
    · skip
      refine hC 59 [] [some (.ref 10), some (.int v1), some (.int v2), some (.int v3), some (.int v4)] _ ?_
      exact k1 q1 q2
    · skip
      refine hE _ _ _ _ _ (w_X2_mayPress _ _ _ _ _ _ rfl rfl rfl (b2 q1 q2) (fun x0 => b3 q1 q2 x0) (fun x0 x1 => b4 q1 q2 x0 x1) (fun x0 x1 => b5 q1 q2 x0 x1) (fun q3 => ?_) (fun q4 q5 q6 => ?_) (fun q7 q8 q9 => ?_) (fun q10 q11 => ?_))
      · skip
        refine And.intro (fun _ => ?_) (fun qz => absurd qz (by decide))
        refine hC 59 [] [some (.ref 10), some (.int v1), some (.int v2), some (.int v3), some (.int v4)] _ ?_
        exact k2 q1 q2 q3
      · skip
        refine And.intro (fun _ => ?_) (fun qz => absurd qz (by decide))
        refine hC 59 [] [some (.ref 10), some (.int v1), some (.int v2), some (.int v3), some (.int v4)] _ ?_
        exact k3 q1 q2 q4 q5 q6
      · skip
        refine And.intro (fun qz => absurd qz (by decide)) (fun _ => ?_)
        refine And.intro (fun q12 => ?_) (fun q12 => ?_)
        · skip
          refine hC 56 [] [some (.ref 10), some (.int v1), some (.int v2), some (.int v3), some (.int v4)] _ ?_
          refine hC 59 [] [some (.ref 10), some (.int v1), some (.int v2), some (.int v4), some (.int v4)] _ ?_
          exact k4 q1 q2 q7 q8 q9 q12
        · skip
          refine And.intro (zvp (b6 q1 q2 q7 q8 q9 q12) rfl) ?_
          refine And.intro (zvp (b7 q1 q2 q7 q8 q9 q12) rfl) ?_
          refine And.intro (fun q13 => ?_) (fun q13 => ?_)
          · skip
            refine hC 59 [] [some (.ref 10), some (.int v1), some (.int v2), some (.int v3), some (.int v4)] _ ?_
            exact k5 q1 q2 q7 q8 q9 q12 q13
          · skip
            refine hC 56 [] [some (.ref 10), some (.int v1), some (.int v2), some (.int v3), some (.int v4)] _ ?_
            refine hC 59 [] [some (.ref 10), some (.int v1), some (.int v2), some (.int v4), some (.int v4)] _ ?_
            exact k6 q1 q2 q7 q8 q9 q12 q13
      · skip
        refine And.intro (fun _ => ?_) (fun qz => absurd qz (by decide))
        refine hC 59 [] [some (.ref 10), some (.int v1), some (.int v2), some (.int v3), some (.int v4)] _ ?_
        exact k7 q1 q2 q10 q11
theorem g_X7_renew_0 (d : Nat) (E : zE) (At : Nat → zC) (Q : Option Value → zM → Prop) (hE : ∀ y n a M' Q', zT (d + 1) y n a M' Q' → E y n a M' Q') (hC : ∀ pc st L M', zX 81 E Q At (zlk B_X7_renew pc) st L M' → At pc st L M') (I : Nat → Nat → Int32) (J : Nat → Nat → Int64) (v1 : Int32) (v2 : Int32) (v3 : Int32) (b1 : ((0 : Int32) ≤ v3) → 0 ≤ v1 ∧ v1 < 4) (b2 : ((0 : Int32) ≤ v3) → 0 ≤ v1 ∧ v1 < 4) (k1 : ((0 : Int32) ≤ v3) → At 27 [] [some (.ref 42), some (.int v1), some (.int v2), some (.int v3), some (.int 0)] (zwI (zwI (I, J, zR, 81) 44 (v1 : Int32).toNatClampNeg v2) 45 (v1 : Int32).toNatClampNeg v3)) (l1 : (¬ ((0 : Int32) ≤ v3)) → Q (some (.int ((-10) - 5))) (zwI (I, J, zR, 81) 42 1 5)) : At 0 [] [some (.ref 42), some (.int v1), some (.int v2), some (.int v3), none] (I, J, zR, 81) := by
  refine hC 0 [] [some (.ref 42), some (.int v1), some (.int v2), some (.int v3), none] _ ?_
  refine And.intro (fun q1 => ?_) (fun q1 => ?_)
  · skip
    refine hC 10 [] [some (.ref 42), some (.int v1), some (.int v2), some (.int v3), none] _ ?_
    refine And.intro (zvp (b1 q1) rfl) ?_
    refine And.intro (zvp (b2 q1) rfl) ?_
    exact k1 q1
  · skip
    refine hE _ _ _ _ _ (w_X7_found _ _ _ (5) _   (?_))
    · skip
      exact l1 q1
theorem g_X7_renew_27 (d : Nat) (E : zE) (At : Nat → zC) (Q : Option Value → zM → Prop) (hE : ∀ y n a M' Q', zT (d + 0) y n a M' Q' → E y n a M' Q') (hC : ∀ pc st L M', zX 81 E Q At (zlk B_X7_renew pc) st L M' → At pc st L M') (I : Nat → Nat → Int32) (J : Nat → Nat → Int64) (v1 : Int32) (v2 : Int32) (v3 : Int32) (v4 : Int32) (b1 : (¬ (v3 ≤ v4)) → 0 ≤ ((v1 * 200) + v4) ∧ ((v1 * 200) + v4) < 800) (k1 : (¬ (v3 ≤ v4)) → At 27 [] [some (.ref 42), some (.int v1), some (.int v2), some (.int v3), some (.int (v4 + 1))] (zwI (I, J, zR, 81) 43 (((v1 * 200) + v4) : Int32).toNatClampNeg 0)) (l1 : (v3 ≤ v4) → Q (some (.int v3)) (I, J, zR, 81)) : At 27 [] [some (.ref 42), some (.int v1), some (.int v2), some (.int v3), some (.int v4)] (I, J, zR, 81) := by
  refine hC 27 [] [some (.ref 42), some (.int v1), some (.int v2), some (.int v3), some (.int v4)] _ ?_
  refine And.intro (fun q1 => ?_) (fun q1 => ?_)
  · skip
    refine hC 53 [] [some (.ref 42), some (.int v1), some (.int v2), some (.int v3), some (.int v4)] _ ?_
    exact l1 q1
  · skip
    refine And.intro (zvp (b1 q1) rfl) ?_
    exact k1 q1
theorem g_X10_ready_0 (d : Nat) (E : zE) (At : Nat → zC) (Q : Option Value → zM → Prop) (hE : ∀ y n a M' Q', zT (d + 2) y n a M' Q' → E y n a M' Q') (hC : ∀ pc st L M', zX 81 E Q At (zlk B_X10_ready pc) st L M' → At pc st L M') (I : Nat → Nat → Int32) (J : Nat → Nat → Int64) (v1 : Int32) {s46_1 : Int32} (e46_1 : I 46 1 = s46_1) (k1 : (((0 : Int32) ≤ v1 ∧ v1 ≤ (s46_1 - 1))) → At 15 [] [some (.ref 46), some (.int v1), some (.int (-1)), some (.int 0)] (I, J, zR, 81)) (l1 : (¬ (((0 : Int32) ≤ v1 ∧ v1 ≤ (s46_1 - 1)))) → Q (some (.int (-2))) (I, J, zR, 81)) : At 0 [] [some (.ref 46), some (.int v1), none, none] (I, J, zR, 81) := by
  subst e46_1
  refine hC 0 [] [some (.ref 46), some (.int v1), none, none] _ ?_
  refine hE _ _ _ _ _ (w_X10_isProfile _ _ _ _ _ rfl  (fun q1 => ?_) (fun q2 => ?_))
  · skip
    refine And.intro (fun _ => ?_) (fun qz => absurd qz (by decide))
    refine hC 11 [] [some (.ref 46), some (.int v1), none, none] _ ?_
    exact k1 q1
  · skip
    refine And.intro (fun qz => absurd qz (by decide)) (fun _ => ?_)
    exact l1 q2
theorem g_X10_ready_15 (d : Nat) (E : zE) (At : Nat → zC) (Q : Option Value → zM → Prop) (hE : ∀ y n a M' Q', zT (d + 2) y n a M' Q' → E y n a M' Q') (hC : ∀ pc st L M', zX 81 E Q At (zlk B_X10_ready pc) st L M' → At pc st L M') (I : Nat → Nat → Int32) (J : Nat → Nat → Int64) (v1 : Int32) (v2 : Int32) (v3 : Int32) {f52 : Nat → Int32} (e52 : I 52 = f52) {f53 : Nat → Int32} (e53 : I 53 = f53) {f54 : Nat → Int32} (e54 : I 54 = f54) {f56 : Nat → Int32} (e56 : I 56 = f56) {s46_12 : Int32} (e46_12 : I 46 12 = s46_12) {s46_6 : Int32} (e46_6 : I 46 6 = s46_6) (b1 : (¬ (s46_6 ≤ v3)) → 0 ≤ v3 ∧ v3 < 12) (b2 : (¬ (s46_6 ≤ v3)) → ((f52 (v3 : Int32).toNatClampNeg) = v1) → 0 ≤ v3 ∧ v3 < 12) (b3 : (¬ (s46_6 ≤ v3)) → ((f52 (v3 : Int32).toNatClampNeg) = v1) → (¬ ((f56 (v3 : Int32).toNatClampNeg) = (-1))) → 0 ≤ v3 ∧ v3 < 12) (b4 : (¬ (s46_6 ≤ v3)) → ((f52 (v3 : Int32).toNatClampNeg) = v1) → (¬ ((f56 (v3 : Int32).toNatClampNeg) = (-1))) → (((3 : Int32) ≤ (s46_12 - (f56 (v3 : Int32).toNatClampNeg)) ∧ (s46_12 - (f56 (v3 : Int32).toNatClampNeg)) ≤ 12)) → 0 ≤ v3 ∧ v3 < 12) (b5 : (¬ (s46_6 ≤ v3)) → ((f52 (v3 : Int32).toNatClampNeg) = v1) → (¬ ((f56 (v3 : Int32).toNatClampNeg) = (-1))) → (((3 : Int32) ≤ (s46_12 - (f56 (v3 : Int32).toNatClampNeg)) ∧ (s46_12 - (f56 (v3 : Int32).toNatClampNeg)) ≤ 12)) → 0 ≤ v3 ∧ v3 < 12) (b6 : (¬ (s46_6 ≤ v3)) → ((f52 (v3 : Int32).toNatClampNeg) = v1) → (¬ ((f56 (v3 : Int32).toNatClampNeg) = (-1))) → (((3 : Int32) ≤ (s46_12 - (f56 (v3 : Int32).toNatClampNeg)) ∧ (s46_12 - (f56 (v3 : Int32).toNatClampNeg)) ≤ 12)) → (¬ ((f53 (v3 : Int32).toNatClampNeg) ≤ (f54 (v3 : Int32).toNatClampNeg))) → (¬ (v2 = (-1))) → 0 ≤ v3 ∧ v3 < 12) (b7 : (¬ (s46_6 ≤ v3)) → ((f52 (v3 : Int32).toNatClampNeg) = v1) → (¬ ((f56 (v3 : Int32).toNatClampNeg) = (-1))) → (((3 : Int32) ≤ (s46_12 - (f56 (v3 : Int32).toNatClampNeg)) ∧ (s46_12 - (f56 (v3 : Int32).toNatClampNeg)) ≤ 12)) → (¬ ((f53 (v3 : Int32).toNatClampNeg) ≤ (f54 (v3 : Int32).toNatClampNeg))) → (¬ (v2 = (-1))) → 0 ≤ v2 ∧ v2 < 12) (k1 : (¬ (s46_6 ≤ v3)) → (¬ ((f52 (v3 : Int32).toNatClampNeg) = v1)) → At 15 [] [some (.ref 46), some (.int v1), some (.int v2), some (.int (v3 + 1))] (I, J, zR, 81)) (k2 : (¬ (s46_6 ≤ v3)) → ((f52 (v3 : Int32).toNatClampNeg) = v1) → ((f56 (v3 : Int32).toNatClampNeg) = (-1)) → At 15 [] [some (.ref 46), some (.int v1), some (.int v2), some (.int (v3 + 1))] (I, J, zR, 81)) (k3 : (¬ (s46_6 ≤ v3)) → ((f52 (v3 : Int32).toNatClampNeg) = v1) → (¬ ((f56 (v3 : Int32).toNatClampNeg) = (-1))) → (((3 : Int32) ≤ (s46_12 - (f56 (v3 : Int32).toNatClampNeg)) ∧ (s46_12 - (f56 (v3 : Int32).toNatClampNeg)) ≤ 12)) → ((f53 (v3 : Int32).toNatClampNeg) ≤ (f54 (v3 : Int32).toNatClampNeg)) → At 15 [] [some (.ref 46), some (.int v1), some (.int v2), some (.int (v3 + 1))] (I, J, zR, 81)) (k4 : (¬ (s46_6 ≤ v3)) → ((f52 (v3 : Int32).toNatClampNeg) = v1) → (¬ ((f56 (v3 : Int32).toNatClampNeg) = (-1))) → (((3 : Int32) ≤ (s46_12 - (f56 (v3 : Int32).toNatClampNeg)) ∧ (s46_12 - (f56 (v3 : Int32).toNatClampNeg)) ≤ 12)) → (¬ ((f53 (v3 : Int32).toNatClampNeg) ≤ (f54 (v3 : Int32).toNatClampNeg))) → (v2 = (-1)) → At 15 [] [some (.ref 46), some (.int v1), some (.int v3), some (.int (v3 + 1))] (I, J, zR, 81)) (k5 : (¬ (s46_6 ≤ v3)) → ((f52 (v3 : Int32).toNatClampNeg) = v1) → (¬ ((f56 (v3 : Int32).toNatClampNeg) = (-1))) → (((3 : Int32) ≤ (s46_12 - (f56 (v3 : Int32).toNatClampNeg)) ∧ (s46_12 - (f56 (v3 : Int32).toNatClampNeg)) ≤ 12)) → (¬ ((f53 (v3 : Int32).toNatClampNeg) ≤ (f54 (v3 : Int32).toNatClampNeg))) → (¬ (v2 = (-1))) → ((f54 (v2 : Int32).toNatClampNeg) ≤ (f54 (v3 : Int32).toNatClampNeg)) → At 15 [] [some (.ref 46), some (.int v1), some (.int v2), some (.int (v3 + 1))] (I, J, zR, 81)) (k6 : (¬ (s46_6 ≤ v3)) → ((f52 (v3 : Int32).toNatClampNeg) = v1) → (¬ ((f56 (v3 : Int32).toNatClampNeg) = (-1))) → (((3 : Int32) ≤ (s46_12 - (f56 (v3 : Int32).toNatClampNeg)) ∧ (s46_12 - (f56 (v3 : Int32).toNatClampNeg)) ≤ 12)) → (¬ ((f53 (v3 : Int32).toNatClampNeg) ≤ (f54 (v3 : Int32).toNatClampNeg))) → (¬ (v2 = (-1))) → (¬ ((f54 (v2 : Int32).toNatClampNeg) ≤ (f54 (v3 : Int32).toNatClampNeg))) → At 15 [] [some (.ref 46), some (.int v1), some (.int v3), some (.int (v3 + 1))] (I, J, zR, 81)) (k7 : (¬ (s46_6 ≤ v3)) → ((f52 (v3 : Int32).toNatClampNeg) = v1) → (¬ ((f56 (v3 : Int32).toNatClampNeg) = (-1))) → (¬ (((3 : Int32) ≤ (s46_12 - (f56 (v3 : Int32).toNatClampNeg)) ∧ (s46_12 - (f56 (v3 : Int32).toNatClampNeg)) ≤ 12))) → At 15 [] [some (.ref 46), some (.int v1), some (.int v2), some (.int (v3 + 1))] (I, J, zR, 81)) (l1 : (s46_6 ≤ v3) → Q (some (.int v2)) (I, J, zR, 81)) : At 15 [] [some (.ref 46), some (.int v1), some (.int v2), some (.int v3)] (I, J, zR, 81) := by
  subst e52 e53 e54 e56 e46_12 e46_6
  refine hC 15 [] [some (.ref 46), some (.int v1), some (.int v2), some (.int v3)] _ ?_
  refine And.intro (fun q1 => ?_) (fun q1 => ?_)
  · skip
    refine hC 69 [] [some (.ref 46), some (.int v1), some (.int v2), some (.int v3)] _ ?_
    exact l1 q1
  · skip
    refine And.intro (zvp (b1 q1) rfl) ?_
    refine And.intro (fun q2 => ?_) (fun q2 => ?_)
    · skip
      refine hC 63 [] [some (.ref 46), some (.int v1), some (.int v2), some (.int v3)] _ ?_
      exact k1 q1 q2
    · skip
      refine hE _ _ _ _ _ (w_X10_mayPress _ _ _ _ _ rfl rfl rfl rfl (b2 q1 q2) (fun x0 => b3 q1 q2 x0) (fun x0 x1 => b4 q1 q2 x0 x1) (fun x0 x1 => b5 q1 q2 x0 x1) (fun q3 => ?_) (fun q4 q5 q6 => ?_) (fun q7 q8 q9 => ?_) (fun q10 q11 => ?_))
      · skip
        refine And.intro (fun _ => ?_) (fun qz => absurd qz (by decide))
        refine hC 63 [] [some (.ref 46), some (.int v1), some (.int v2), some (.int v3)] _ ?_
        exact k2 q1 q2 q3
      · skip
        refine And.intro (fun _ => ?_) (fun qz => absurd qz (by decide))
        refine hC 63 [] [some (.ref 46), some (.int v1), some (.int v2), some (.int v3)] _ ?_
        exact k3 q1 q2 q4 q5 q6
      · skip
        refine And.intro (fun qz => absurd qz (by decide)) (fun _ => ?_)
        refine And.intro (fun q12 => ?_) (fun q12 => ?_)
        · skip
          refine hC 61 [] [some (.ref 46), some (.int v1), some (.int v2), some (.int v3)] _ ?_
          refine hC 63 [] [some (.ref 46), some (.int v1), some (.int v3), some (.int v3)] _ ?_
          exact k4 q1 q2 q7 q8 q9 q12
        · skip
          refine And.intro (zvp (b6 q1 q2 q7 q8 q9 q12) rfl) ?_
          refine And.intro (zvp (b7 q1 q2 q7 q8 q9 q12) rfl) ?_
          refine And.intro (fun q13 => ?_) (fun q13 => ?_)
          · skip
            refine hC 63 [] [some (.ref 46), some (.int v1), some (.int v2), some (.int v3)] _ ?_
            exact k5 q1 q2 q7 q8 q9 q12 q13
          · skip
            refine hC 61 [] [some (.ref 46), some (.int v1), some (.int v2), some (.int v3)] _ ?_
            refine hC 63 [] [some (.ref 46), some (.int v1), some (.int v3), some (.int v3)] _ ?_
            exact k6 q1 q2 q7 q8 q9 q12 q13
      · skip
        refine And.intro (fun _ => ?_) (fun qz => absurd qz (by decide))
        refine hC 63 [] [some (.ref 46), some (.int v1), some (.int v2), some (.int v3)] _ ?_
        exact k7 q1 q2 q10 q11
theorem g_X10_noneGone_0 (d : Nat) (E : zE) (At : Nat → zC) (Q : Option Value → zM → Prop) (hE : ∀ y n a M' Q', zT (d + 0) y n a M' Q' → E y n a M' Q') (hC : ∀ pc st L M', zX 81 E Q At (zlk B_X10_noneGone pc) st L M' → At pc st L M') (I : Nat → Nat → Int32) (J : Nat → Nat → Int64) (k1 : At 2 [] [some (.ref 46), some (.int 0)] (I, J, zR, 81)) : At 0 [] [some (.ref 46), none] (I, J, zR, 81) := by
  refine hC 0 [] [some (.ref 46), none] _ ?_
  exact k1
theorem g_X10_noneGone_2 (d : Nat) (E : zE) (At : Nat → zC) (Q : Option Value → zM → Prop) (hE : ∀ y n a M' Q', zT (d + 0) y n a M' Q' → E y n a M' Q') (hC : ∀ pc st L M', zX 81 E Q At (zlk B_X10_noneGone pc) st L M' → At pc st L M') (I : Nat → Nat → Int32) (J : Nat → Nat → Int64) (v1 : Int32) (b1 : (¬ ((200 : Int32) ≤ v1)) → 0 ≤ v1 ∧ v1 < 200) (k1 : (¬ ((200 : Int32) ≤ v1)) → At 2 [] [some (.ref 46), some (.int (v1 + 1))] (zwI (I, J, zR, 81) 76 (v1 : Int32).toNatClampNeg 0)) (l1 : ((200 : Int32) ≤ v1) → Q none (I, J, zR, 81)) : At 2 [] [some (.ref 46), some (.int v1)] (I, J, zR, 81) := by
  refine hC 2 [] [some (.ref 46), some (.int v1)] _ ?_
  refine And.intro (fun q1 => ?_) (fun q1 => ?_)
  · skip
    refine hC 22 [] [some (.ref 46), some (.int v1)] _ ?_
    exact l1 q1
  · skip
    refine And.intro (zvp (b1 q1) rfl) (And.intro (Or.inl rfl) ?_)
    exact k1 q1
theorem g_X10_takes_0 (d : Nat) (E : zE) (At : Nat → zC) (Q : Option Value → zM → Prop) (hE : ∀ y n a M' Q', zT (d + 0) y n a M' Q' → E y n a M' Q') (hC : ∀ pc st L M', zX 81 E Q At (zlk B_X10_takes pc) st L M' → At pc st L M') (I : Nat → Nat → Int32) (J : Nat → Nat → Int64) (k1 : At 4 [] [some (.ref 46), some (.int (-1)), some (.int 0), none, none, none] (I, J, zR, 81)) : At 0 [] [some (.ref 46), none, none, none, none, none] (I, J, zR, 81) := by
  refine hC 0 [] [some (.ref 46), none, none, none, none, none] _ ?_
  exact k1
theorem g_X10_takes_4 (d : Nat) (E : zE) (At : Nat → zC) (Q : Option Value → zM → Prop) (hE : ∀ y n a M' Q', zT (d + 1) y n a M' Q' → E y n a M' Q') (hC : ∀ pc st L M', zX 81 E Q At (zlk B_X10_takes pc) st L M' → At pc st L M') (I : Nat → Nat → Int32) (J : Nat → Nat → Int64) (v1 : Int32) (v2 : Int32) {f60 : Nat → Int32} (e60 : I 60 = f60) {f63 : Nat → Int32} (e63 : I 63 = f63) {f76 : Nat → Int32} (e76 : I 76 = f76) {s46_13 : Int32} (e46_13 : I 46 13 = s46_13) (b1 : (¬ (s46_13 ≤ v2)) → (v1 = (-1)) → 0 ≤ v2 ∧ v2 < 200) (b2 : (¬ (s46_13 ≤ v2)) → (v1 = (-1)) → ((f63 (v2 : Int32).toNatClampNeg) = (-1)) → 0 ≤ v2 ∧ v2 < 200) (b3 : (¬ (s46_13 ≤ v2)) → (v1 = (-1)) → ((f63 (v2 : Int32).toNatClampNeg) = (-1)) → (¬ ((f60 (v2 : Int32).toNatClampNeg) ≤ 0)) → 0 ≤ v2 ∧ v2 < 200) (k1 : (s46_13 ≤ v2) → (¬ (v1 = (-1))) → At 54 [] [some (.ref 46), some (.int v1), some (.int 0), some (.int 0), some (.int 1), some (.int v1)] (I, J, zR, 81)) (k2 : (¬ (s46_13 ≤ v2)) → (¬ (v1 = (-1))) → (¬ (v1 = (-1))) → At 54 [] [some (.ref 46), some (.int v1), some (.int 0), some (.int 0), some (.int 1), some (.int v1)] (I, J, zR, 81)) (k3 : (¬ (s46_13 ≤ v2)) → (v1 = (-1)) → (¬ ((f63 (v2 : Int32).toNatClampNeg) = (-1))) → At 4 [] [some (.ref 46), some (.int (-1)), some (.int (v2 + 1)), none, none, none] (I, J, zR, 81)) (k4 : (¬ (s46_13 ≤ v2)) → (v1 = (-1)) → ((f63 (v2 : Int32).toNatClampNeg) = (-1)) → ((f60 (v2 : Int32).toNatClampNeg) ≤ 0) → At 4 [] [some (.ref 46), some (.int (-1)), some (.int (v2 + 1)), none, none, none] (I, J, zR, 81)) (k5 : (¬ (s46_13 ≤ v2)) → (v1 = (-1)) → ((f63 (v2 : Int32).toNatClampNeg) = (-1)) → (¬ ((f60 (v2 : Int32).toNatClampNeg) ≤ 0)) → (¬ ((f76 (v2 : Int32).toNatClampNeg) = 0)) → At 4 [] [some (.ref 46), some (.int (-1)), some (.int (v2 + 1)), none, none, none] (I, J, zR, 81)) (k6 : (¬ (s46_13 ≤ v2)) → (v1 = (-1)) → ((f63 (v2 : Int32).toNatClampNeg) = (-1)) → (¬ ((f60 (v2 : Int32).toNatClampNeg) ≤ 0)) → ((f76 (v2 : Int32).toNatClampNeg) = 0) → At 4 [] [some (.ref 46), some (.int v2), some (.int (v2 + 1)), none, none, none] (I, J, zR, 81)) (l1 : (s46_13 ≤ v2) → (v1 = (-1)) → Q (some (.int 0)) (I, J, zR, 81)) (l2 : (¬ (s46_13 ≤ v2)) → (¬ (v1 = (-1))) → (v1 = (-1)) → Q (some (.int 0)) (I, J, zR, 81)) : At 4 [] [some (.ref 46), some (.int v1), some (.int v2), none, none, none] (I, J, zR, 81) := by
  subst e60 e63 e76 e46_13
  refine hC 4 [] [some (.ref 46), some (.int v1), some (.int v2), none, none, none] _ ?_
  refine And.intro (fun q1 => ?_) (fun q1 => ?_)
  · skip
    refine hC 37 [] [some (.ref 46), some (.int v1), some (.int v2), none, none, none] _ ?_
    refine And.intro (fun q2 => ?_) (fun q2 => ?_)
    · skip
      refine hC 44 [] [some (.ref 46), some (.int v1), some (.int v2), none, none, none] _ ?_
      exact k1 q1 q2
    · skip
      exact l1 q1 q2
  · skip
    refine And.intro (fun q3 => ?_) (fun q3 => ?_)
    · skip
      refine hC 37 [] [some (.ref 46), some (.int v1), some (.int v2), none, none, none] _ ?_
      refine And.intro (fun q4 => ?_) (fun q4 => ?_)
      · skip
        refine hC 44 [] [some (.ref 46), some (.int v1), some (.int v2), none, none, none] _ ?_
        exact k2 q1 q3 q4
      · skip
        exact l2 q1 q3 q4
    · skip
      refine hE _ _ _ _ _ (w_X10_waits _ _ _ _ _ rfl rfl rfl (b1 q1 q3) (fun x0 => b2 q1 q3 x0) (fun x0 x1 => b3 q1 q3 x0 x1) (fun q5 => ?_) (fun q6 q7 => ?_) (fun q8 q9 q10 => ?_) (fun q11 q12 q13 => ?_))
      · skip
        refine And.intro (fun _ => ?_) (fun qz => absurd qz (by decide))
        refine hC 29 [] [some (.ref 46), some (.int v1), some (.int v2), none, none, none] _ ?_
        refine hC 30 [.int (-1)] [some (.ref 46), some (.int v1), some (.int v2), none, none, none] _ ?_
        exact k3 q1 q3 q5
      · skip
        refine And.intro (fun _ => ?_) (fun qz => absurd qz (by decide))
        refine hC 29 [] [some (.ref 46), some (.int v1), some (.int v2), none, none, none] _ ?_
        refine hC 30 [.int (-1)] [some (.ref 46), some (.int v1), some (.int v2), none, none, none] _ ?_
        exact k4 q1 q3 q6 q7
      · skip
        refine And.intro (fun _ => ?_) (fun qz => absurd qz (by decide))
        refine hC 29 [] [some (.ref 46), some (.int v1), some (.int v2), none, none, none] _ ?_
        refine hC 30 [.int (-1)] [some (.ref 46), some (.int v1), some (.int v2), none, none, none] _ ?_
        exact k5 q1 q3 q8 q9 q10
      · skip
        refine And.intro (fun qz => absurd qz (by decide)) (fun _ => ?_)
        refine hC 30 [.int v2] [some (.ref 46), some (.int v1), some (.int v2), none, none, none] _ ?_
        exact k6 q1 q3 q11 q12 q13
theorem g_X10_takes_54 (d : Nat) (E : zE) (At : Nat → zC) (Q : Option Value → zM → Prop) (hE : ∀ y n a M' Q', zT (d + 1) y n a M' Q' → E y n a M' Q') (hC : ∀ pc st L M', zX 81 E Q At (zlk B_X10_takes pc) st L M' → At pc st L M') (I : Nat → Nat → Int32) (J : Nat → Nat → Int64) (v1 : Int32) (v2 : Int32) (v3 : Int32) (v4 : Int32) (v5 : Int32) {f50 : Nat → Int32} (e50 : I 50 = f50) {f52 : Nat → Int32} (e52 : I 52 = f52) {f57 : Nat → Int32} (e57 : I 57 = f57) {f60 : Nat → Int32} (e60 : I 60 = f60) {f63 : Nat → Int32} (e63 : I 63 = f63) {f76 : Nat → Int32} (e76 : I 76 = f76) {s46_13 : Int32} (e46_13 : I 46 13 = s46_13) {s46_44 : Int32} (e46_44 : I 46 44 = s46_44) (b1 : (¬ (s46_13 ≤ v5)) → (¬ (v4 = 0)) → 0 ≤ v5 ∧ v5 < 200) (b2 : (¬ (s46_13 ≤ v5)) → (¬ (v4 = 0)) → ((f63 (v5 : Int32).toNatClampNeg) = (-1)) → 0 ≤ v5 ∧ v5 < 200) (b3 : (¬ (s46_13 ≤ v5)) → (¬ (v4 = 0)) → ((f63 (v5 : Int32).toNatClampNeg) = (-1)) → (¬ ((f60 (v5 : Int32).toNatClampNeg) ≤ 0)) → 0 ≤ v5 ∧ v5 < 200) (b4 : (¬ (s46_13 ≤ v5)) → (¬ (v4 = 0)) → ((f63 (v5 : Int32).toNatClampNeg) = (-1)) → (¬ ((f60 (v5 : Int32).toNatClampNeg) ≤ 0)) → ((f76 (v5 : Int32).toNatClampNeg) = 0) → 0 ≤ v5 ∧ v5 < 200) (b5 : (¬ (s46_13 ≤ v5)) → (¬ (v4 = 0)) → ((f63 (v5 : Int32).toNatClampNeg) = (-1)) → (¬ ((f60 (v5 : Int32).toNatClampNeg) ≤ 0)) → ((f76 (v5 : Int32).toNatClampNeg) = 0) → 0 ≤ (f57 (v5 : Int32).toNatClampNeg) ∧ (f57 (v5 : Int32).toNatClampNeg) < 12) (b6 : (¬ (s46_13 ≤ v5)) → (¬ (v4 = 0)) → ((f63 (v5 : Int32).toNatClampNeg) = (-1)) → (¬ ((f60 (v5 : Int32).toNatClampNeg) ≤ 0)) → ((f76 (v5 : Int32).toNatClampNeg) = 0) → 0 ≤ (f52 ((f57 (v5 : Int32).toNatClampNeg) : Int32).toNatClampNeg) ∧ (f52 ((f57 (v5 : Int32).toNatClampNeg) : Int32).toNatClampNeg) < 8) (b7 : (¬ (s46_13 ≤ v5)) → (¬ (v4 = 0)) → ((f63 (v5 : Int32).toNatClampNeg) = (-1)) → (¬ ((f60 (v5 : Int32).toNatClampNeg) ≤ 0)) → ((f76 (v5 : Int32).toNatClampNeg) = 0) → 0 ≤ v1 ∧ v1 < 200) (b8 : (¬ (s46_13 ≤ v5)) → (¬ (v4 = 0)) → ((f63 (v5 : Int32).toNatClampNeg) = (-1)) → (¬ ((f60 (v5 : Int32).toNatClampNeg) ≤ 0)) → ((f76 (v5 : Int32).toNatClampNeg) = 0) → 0 ≤ (f57 (v1 : Int32).toNatClampNeg) ∧ (f57 (v1 : Int32).toNatClampNeg) < 12) (b9 : (¬ (s46_13 ≤ v5)) → (¬ (v4 = 0)) → ((f63 (v5 : Int32).toNatClampNeg) = (-1)) → (¬ ((f60 (v5 : Int32).toNatClampNeg) ≤ 0)) → ((f76 (v5 : Int32).toNatClampNeg) = 0) → 0 ≤ (f52 ((f57 (v1 : Int32).toNatClampNeg) : Int32).toNatClampNeg) ∧ (f52 ((f57 (v1 : Int32).toNatClampNeg) : Int32).toNatClampNeg) < 8) (b10 : (¬ (s46_13 ≤ v5)) → (¬ (v4 = 0)) → ((f63 (v5 : Int32).toNatClampNeg) = (-1)) → (¬ ((f60 (v5 : Int32).toNatClampNeg) ≤ 0)) → ((f76 (v5 : Int32).toNatClampNeg) = 0) → ((f50 ((f52 ((f57 (v5 : Int32).toNatClampNeg) : Int32).toNatClampNeg) : Int32).toNatClampNeg) = (f50 ((f52 ((f57 (v1 : Int32).toNatClampNeg) : Int32).toNatClampNeg) : Int32).toNatClampNeg)) → (v2 = 0) → 0 ≤ v5 ∧ v5 < 200) (b11 : (¬ (s46_13 ≤ v5)) → (¬ (v4 = 0)) → ((f63 (v5 : Int32).toNatClampNeg) = (-1)) → (¬ ((f60 (v5 : Int32).toNatClampNeg) ≤ 0)) → ((f76 (v5 : Int32).toNatClampNeg) = 0) → ((f50 ((f52 ((f57 (v5 : Int32).toNatClampNeg) : Int32).toNatClampNeg) : Int32).toNatClampNeg) = (f50 ((f52 ((f57 (v1 : Int32).toNatClampNeg) : Int32).toNatClampNeg) : Int32).toNatClampNeg)) → (v2 = 0) → 0 ≤ v5 ∧ v5 < 200) (b12 : (¬ (s46_13 ≤ v5)) → (¬ (v4 = 0)) → ((f63 (v5 : Int32).toNatClampNeg) = (-1)) → (¬ ((f60 (v5 : Int32).toNatClampNeg) ≤ 0)) → ((f76 (v5 : Int32).toNatClampNeg) = 0) → ((f50 ((f52 ((f57 (v5 : Int32).toNatClampNeg) : Int32).toNatClampNeg) : Int32).toNatClampNeg) = (f50 ((f52 ((f57 (v1 : Int32).toNatClampNeg) : Int32).toNatClampNeg) : Int32).toNatClampNeg)) → (¬ (v2 = 0)) → 0 ≤ v5 ∧ v5 < 200) (b13 : (¬ (s46_13 ≤ v5)) → (¬ (v4 = 0)) → ((f63 (v5 : Int32).toNatClampNeg) = (-1)) → (¬ ((f60 (v5 : Int32).toNatClampNeg) ≤ 0)) → ((f76 (v5 : Int32).toNatClampNeg) = 0) → ((f50 ((f52 ((f57 (v5 : Int32).toNatClampNeg) : Int32).toNatClampNeg) : Int32).toNatClampNeg) = (f50 ((f52 ((f57 (v1 : Int32).toNatClampNeg) : Int32).toNatClampNeg) : Int32).toNatClampNeg)) → (¬ (v2 = 0)) → (¬ (s46_44 < (v3 + (f60 (v5 : Int32).toNatClampNeg)))) → 0 ≤ v5 ∧ v5 < 200) (b14 : (¬ (s46_13 ≤ v5)) → (¬ (v4 = 0)) → ((f63 (v5 : Int32).toNatClampNeg) = (-1)) → (¬ ((f60 (v5 : Int32).toNatClampNeg) ≤ 0)) → ((f76 (v5 : Int32).toNatClampNeg) = 0) → ((f50 ((f52 ((f57 (v5 : Int32).toNatClampNeg) : Int32).toNatClampNeg) : Int32).toNatClampNeg) = (f50 ((f52 ((f57 (v1 : Int32).toNatClampNeg) : Int32).toNatClampNeg) : Int32).toNatClampNeg)) → (¬ (v2 = 0)) → (¬ (s46_44 < (v3 + (f60 (v5 : Int32).toNatClampNeg)))) → 0 ≤ v5 ∧ v5 < 200) (k1 : (¬ (s46_13 ≤ v5)) → (¬ (v4 = 0)) → (¬ ((f63 (v5 : Int32).toNatClampNeg) = (-1))) → At 54 [] [some (.ref 46), some (.int v1), some (.int v2), some (.int v3), some (.int v4), some (.int (v5 + 1))] (I, J, zR, 81)) (k2 : (¬ (s46_13 ≤ v5)) → (¬ (v4 = 0)) → ((f63 (v5 : Int32).toNatClampNeg) = (-1)) → ((f60 (v5 : Int32).toNatClampNeg) ≤ 0) → At 54 [] [some (.ref 46), some (.int v1), some (.int v2), some (.int v3), some (.int v4), some (.int (v5 + 1))] (I, J, zR, 81)) (k3 : (¬ (s46_13 ≤ v5)) → (¬ (v4 = 0)) → ((f63 (v5 : Int32).toNatClampNeg) = (-1)) → (¬ ((f60 (v5 : Int32).toNatClampNeg) ≤ 0)) → (¬ ((f76 (v5 : Int32).toNatClampNeg) = 0)) → At 54 [] [some (.ref 46), some (.int v1), some (.int v2), some (.int v3), some (.int v4), some (.int (v5 + 1))] (I, J, zR, 81)) (k4 : (¬ (s46_13 ≤ v5)) → (¬ (v4 = 0)) → ((f63 (v5 : Int32).toNatClampNeg) = (-1)) → (¬ ((f60 (v5 : Int32).toNatClampNeg) ≤ 0)) → ((f76 (v5 : Int32).toNatClampNeg) = 0) → (¬ ((f50 ((f52 ((f57 (v5 : Int32).toNatClampNeg) : Int32).toNatClampNeg) : Int32).toNatClampNeg) = (f50 ((f52 ((f57 (v1 : Int32).toNatClampNeg) : Int32).toNatClampNeg) : Int32).toNatClampNeg))) → At 54 [] [some (.ref 46), some (.int v1), some (.int v2), some (.int v3), some (.int v4), some (.int (v5 + 1))] (I, J, zR, 81)) (k5 : (¬ (s46_13 ≤ v5)) → (¬ (v4 = 0)) → ((f63 (v5 : Int32).toNatClampNeg) = (-1)) → (¬ ((f60 (v5 : Int32).toNatClampNeg) ≤ 0)) → ((f76 (v5 : Int32).toNatClampNeg) = 0) → ((f50 ((f52 ((f57 (v5 : Int32).toNatClampNeg) : Int32).toNatClampNeg) : Int32).toNatClampNeg) = (f50 ((f52 ((f57 (v1 : Int32).toNatClampNeg) : Int32).toNatClampNeg) : Int32).toNatClampNeg)) → (v2 = 0) → At 54 [] [some (.ref 46), some (.int v1), some (.int (v2 + 1)), some (.int (v3 + (f60 (v5 : Int32).toNatClampNeg))), some (.int 1), some (.int (v5 + 1))] (zwI (I, J, zR, 81) 76 (v5 : Int32).toNatClampNeg 1)) (k6 : (¬ (s46_13 ≤ v5)) → (¬ (v4 = 0)) → ((f63 (v5 : Int32).toNatClampNeg) = (-1)) → (¬ ((f60 (v5 : Int32).toNatClampNeg) ≤ 0)) → ((f76 (v5 : Int32).toNatClampNeg) = 0) → ((f50 ((f52 ((f57 (v5 : Int32).toNatClampNeg) : Int32).toNatClampNeg) : Int32).toNatClampNeg) = (f50 ((f52 ((f57 (v1 : Int32).toNatClampNeg) : Int32).toNatClampNeg) : Int32).toNatClampNeg)) → (¬ (v2 = 0)) → (s46_44 < (v3 + (f60 (v5 : Int32).toNatClampNeg))) → At 54 [] [some (.ref 46), some (.int v1), some (.int v2), some (.int v3), some (.int 0), some (.int (v5 + 1))] (I, J, zR, 81)) (k7 : (¬ (s46_13 ≤ v5)) → (¬ (v4 = 0)) → ((f63 (v5 : Int32).toNatClampNeg) = (-1)) → (¬ ((f60 (v5 : Int32).toNatClampNeg) ≤ 0)) → ((f76 (v5 : Int32).toNatClampNeg) = 0) → ((f50 ((f52 ((f57 (v5 : Int32).toNatClampNeg) : Int32).toNatClampNeg) : Int32).toNatClampNeg) = (f50 ((f52 ((f57 (v1 : Int32).toNatClampNeg) : Int32).toNatClampNeg) : Int32).toNatClampNeg)) → (¬ (v2 = 0)) → (¬ (s46_44 < (v3 + (f60 (v5 : Int32).toNatClampNeg)))) → At 54 [] [some (.ref 46), some (.int v1), some (.int (v2 + 1)), some (.int (v3 + (f60 (v5 : Int32).toNatClampNeg))), some (.int 1), some (.int (v5 + 1))] (zwI (I, J, zR, 81) 76 (v5 : Int32).toNatClampNeg 1)) (l1 : (s46_13 ≤ v5) → Q (some (.int v2)) (I, J, zR, 81)) (l2 : (¬ (s46_13 ≤ v5)) → (v4 = 0) → Q (some (.int v2)) (I, J, zR, 81)) : At 54 [] [some (.ref 46), some (.int v1), some (.int v2), some (.int v3), some (.int v4), some (.int v5)] (I, J, zR, 81) := by
  subst e50 e52 e57 e60 e63 e76 e46_13 e46_44
  refine hC 54 [] [some (.ref 46), some (.int v1), some (.int v2), some (.int v3), some (.int v4), some (.int v5)] _ ?_
  refine And.intro (fun q1 => ?_) (fun q1 => ?_)
  · skip
    refine hC 172 [] [some (.ref 46), some (.int v1), some (.int v2), some (.int v3), some (.int v4), some (.int v5)] _ ?_
    exact l1 q1
  · skip
    refine And.intro (fun q2 => ?_) (fun q2 => ?_)
    · skip
      refine hC 172 [] [some (.ref 46), some (.int v1), some (.int v2), some (.int v3), some (.int v4), some (.int v5)] _ ?_
      exact l2 q1 q2
    · skip
      refine hE _ _ _ _ _ (w_X10_waits _ _ _ _ _ rfl rfl rfl (b1 q1 q2) (fun x0 => b2 q1 q2 x0) (fun x0 x1 => b3 q1 q2 x0 x1) (fun q3 => ?_) (fun q4 q5 => ?_) (fun q6 q7 q8 => ?_) (fun q9 q10 q11 => ?_))
      · skip
        refine And.intro (fun _ => ?_) (fun qz => absurd qz (by decide))
        refine hC 166 [] [some (.ref 46), some (.int v1), some (.int v2), some (.int v3), some (.int v4), some (.int v5)] _ ?_
        exact k1 q1 q2 q3
      · skip
        refine And.intro (fun _ => ?_) (fun qz => absurd qz (by decide))
        refine hC 166 [] [some (.ref 46), some (.int v1), some (.int v2), some (.int v3), some (.int v4), some (.int v5)] _ ?_
        exact k2 q1 q2 q4 q5
      · skip
        refine And.intro (fun _ => ?_) (fun qz => absurd qz (by decide))
        refine hC 166 [] [some (.ref 46), some (.int v1), some (.int v2), some (.int v3), some (.int v4), some (.int v5)] _ ?_
        exact k3 q1 q2 q6 q7 q8
      · skip
        refine And.intro (fun qz => absurd qz (by decide)) (fun _ => ?_)
        refine And.intro (zvp (b4 q1 q2 q9 q10 q11) rfl) ?_
        refine And.intro (zvp (b5 q1 q2 q9 q10 q11) rfl) ?_
        refine And.intro (zvp (b6 q1 q2 q9 q10 q11) rfl) ?_
        refine And.intro (zvp (b7 q1 q2 q9 q10 q11) rfl) ?_
        refine And.intro (zvp (b8 q1 q2 q9 q10 q11) rfl) ?_
        refine And.intro (zvp (b9 q1 q2 q9 q10 q11) rfl) ?_
        refine And.intro (fun q12 => ?_) (fun q12 => ?_)
        · skip
          refine hC 166 [] [some (.ref 46), some (.int v1), some (.int v2), some (.int v3), some (.int v4), some (.int v5)] _ ?_
          exact k4 q1 q2 q9 q10 q11 q12
        · skip
          refine And.intro (fun q13 => ?_) (fun q13 => ?_)
          · skip
            refine hC 133 [] [some (.ref 46), some (.int v1), some (.int v2), some (.int v3), some (.int v4), some (.int v5)] _ ?_
            refine hC 138 [.int 1] [some (.ref 46), some (.int v1), some (.int v2), some (.int v3), some (.int v4), some (.int v5)] _ ?_
            refine And.intro (fun qz => absurd qz (by decide)) (fun _ => ?_)
            refine And.intro (zvp (b10 q1 q2 q9 q10 q11 q12 q13) rfl) (And.intro (Or.inr rfl) ?_)
            refine And.intro (zvp (b11 q1 q2 q9 q10 q11 q12 q13) rfl) ?_
            refine hC 166 [] [some (.ref 46), some (.int v1), some (.int (v2 + 1)), some (.int (v3 + (I 60 (v5 : Int32).toNatClampNeg))), some (.int 1), some (.int v5)] _ ?_
            exact k5 q1 q2 q9 q10 q11 q12 q13
          · skip
            refine And.intro (zvp (b12 q1 q2 q9 q10 q11 q12 q13) rfl) ?_
            refine And.intro (fun q14 => ?_) (fun q14 => ?_)
            · skip
              refine hC 137 [] [some (.ref 46), some (.int v1), some (.int v2), some (.int v3), some (.int v4), some (.int v5)] _ ?_
              refine hC 138 [.int 0] [some (.ref 46), some (.int v1), some (.int v2), some (.int v3), some (.int v4), some (.int v5)] _ ?_
              refine And.intro (fun _ => ?_) (fun qz => absurd qz (by decide))
              refine hC 166 [] [some (.ref 46), some (.int v1), some (.int v2), some (.int v3), some (.int 0), some (.int v5)] _ ?_
              exact k6 q1 q2 q9 q10 q11 q12 q13 q14
            · skip
              refine hC 133 [] [some (.ref 46), some (.int v1), some (.int v2), some (.int v3), some (.int v4), some (.int v5)] _ ?_
              refine hC 138 [.int 1] [some (.ref 46), some (.int v1), some (.int v2), some (.int v3), some (.int v4), some (.int v5)] _ ?_
              refine And.intro (fun qz => absurd qz (by decide)) (fun _ => ?_)
              refine And.intro (zvp (b13 q1 q2 q9 q10 q11 q12 q13 q14) rfl) (And.intro (Or.inr rfl) ?_)
              refine And.intro (zvp (b14 q1 q2 q9 q10 q11 q12 q13 q14) rfl) ?_
              refine hC 166 [] [some (.ref 46), some (.int v1), some (.int (v2 + 1)), some (.int (v3 + (I 60 (v5 : Int32).toNatClampNeg))), some (.int 1), some (.int v5)] _ ?_
              exact k7 q1 q2 q9 q10 q11 q12 q13 q14
theorem g_X10_isSuspect_0 (d : Nat) (E : zE) (At : Nat → zC) (Q : Option Value → zM → Prop) (hE : ∀ y n a M' Q', zT (d + 0) y n a M' Q' → E y n a M' Q') (hC : ∀ pc st L M', zX 81 E Q At (zlk B_X10_isSuspect pc) st L M' → At pc st L M') (I : Nat → Nat → Int32) (J : Nat → Nat → Int64) (v1 : Int32) {f64 : Nat → Int32} (e64 : I 64 = f64) (b1 : 0 ≤ v1 ∧ v1 < 200) (b2 : (¬ ((f64 (v1 : Int32).toNatClampNeg) = 1)) → 0 ≤ v1 ∧ v1 < 200) (k1 : (¬ ((f64 (v1 : Int32).toNatClampNeg) = 1)) → (¬ ((f64 (v1 : Int32).toNatClampNeg) = 0)) → At 29 [] [some (.ref 46), some (.int v1), some (.int 0), some (.int (-1)), none, none] (I, J, zR, 81)) (k2 : (¬ ((f64 (v1 : Int32).toNatClampNeg) = 1)) → ((f64 (v1 : Int32).toNatClampNeg) = 0) → At 29 [] [some (.ref 46), some (.int v1), some (.int 1), some (.int (-1)), none, none] (I, J, zR, 81)) (l1 : ((f64 (v1 : Int32).toNatClampNeg) = 1) → Q (some (.int 0)) (I, J, zR, 81)) : At 0 [] [some (.ref 46), some (.int v1), none, none, none, none] (I, J, zR, 81) := by
  subst e64
  refine hC 0 [] [some (.ref 46), some (.int v1), none, none, none, none] _ ?_
  refine And.intro (zvp (b1) rfl) ?_
  refine And.intro (fun q1 => ?_) (fun q1 => ?_)
  · skip
    refine hC 12 [] [some (.ref 46), some (.int v1), none, none, none, none] _ ?_
    refine And.intro (zvp (b2 q1) rfl) ?_
    refine And.intro (fun q2 => ?_) (fun q2 => ?_)
    · skip
      refine hC 25 [] [some (.ref 46), some (.int v1), none, none, none, none] _ ?_
      refine hC 26 [.int 0] [some (.ref 46), some (.int v1), none, none, none, none] _ ?_
      exact k1 q1 q2
    · skip
      refine hC 26 [.int 1] [some (.ref 46), some (.int v1), none, none, none, none] _ ?_
      exact k2 q1 q2
  · skip
    exact And.intro (Or.inl rfl) (l1 q1)
theorem g_X10_isSuspect_29 (d : Nat) (E : zE) (At : Nat → zC) (Q : Option Value → zM → Prop) (hE : ∀ y n a M' Q', zT (d + 0) y n a M' Q' → E y n a M' Q') (hC : ∀ pc st L M', zX 81 E Q At (zlk B_X10_isSuspect pc) st L M' → At pc st L M') (I : Nat → Nat → Int32) (J : Nat → Nat → Int64) (v1 : Int32) (v2 : Int32) (v3 : Int32) (z1 : ((2 : Int32) ≤ v3) → v2 = 0 ∨ v2 = 1) (k1 : (¬ ((2 : Int32) ≤ v3)) → At 42 [] [some (.ref 46), some (.int v1), some (.int v2), some (.int v3), some (.int 0), some (.int (v1 + v3))] (I, J, zR, 81)) (l1 : ((2 : Int32) ≤ v3) → Q (some (.int v2)) (I, J, zR, 81)) : At 29 [] [some (.ref 46), some (.int v1), some (.int v2), some (.int v3), none, none] (I, J, zR, 81) := by
  refine hC 29 [] [some (.ref 46), some (.int v1), some (.int v2), some (.int v3), none, none] _ ?_
  refine And.intro (fun q1 => ?_) (fun q1 => ?_)
  · skip
    refine hC 130 [] [some (.ref 46), some (.int v1), some (.int v2), some (.int v3), none, none] _ ?_
    exact And.intro (z1 q1) (l1 q1)
  · skip
    exact k1 q1
theorem g_X10_isSuspect_42 (d : Nat) (E : zE) (At : Nat → zC) (Q : Option Value → zM → Prop) (hE : ∀ y n a M' Q', zT (d + 0) y n a M' Q' → E y n a M' Q') (hC : ∀ pc st L M', zX 81 E Q At (zlk B_X10_isSuspect pc) st L M' → At pc st L M') (I : Nat → Nat → Int32) (J : Nat → Nat → Int64) (v1 : Int32) (v2 : Int32) (v3 : Int32) (v4 : Int32) (v5 : Int32) {f57 : Nat → Int32} (e57 : I 57 = f57) {f64 : Nat → Int32} (e64 : I 64 = f64) {s46_13 : Int32} (e46_13 : I 46 13 = s46_13) (b1 : (¬ (v5 < 0)) → (¬ (s46_13 ≤ v5)) → (v4 = 0) → 0 ≤ v5 ∧ v5 < 200) (b2 : (¬ (v5 < 0)) → (¬ (s46_13 ≤ v5)) → (v4 = 0) → 0 ≤ v1 ∧ v1 < 200) (b3 : (¬ (v5 < 0)) → (¬ (s46_13 ≤ v5)) → (v4 = 0) → ((f57 (v5 : Int32).toNatClampNeg) = (f57 (v1 : Int32).toNatClampNeg)) → 0 ≤ v5 ∧ v5 < 200) (b4 : (¬ (v5 < 0)) → (¬ (s46_13 ≤ v5)) → (v4 = 0) → ((f57 (v5 : Int32).toNatClampNeg) = (f57 (v1 : Int32).toNatClampNeg)) → (¬ ((f64 (v5 : Int32).toNatClampNeg) = 1)) → (v2 = 0) → 0 ≤ v5 ∧ v5 < 200) (b5 : (¬ (v5 < 0)) → (¬ (s46_13 ≤ v5)) → (v4 = 0) → ((f57 (v5 : Int32).toNatClampNeg) = (f57 (v1 : Int32).toNatClampNeg)) → ((f64 (v5 : Int32).toNatClampNeg) = 1) → (v2 = 0) → 0 ≤ v5 ∧ v5 < 200) (k1 : (v5 < 0) → At 29 [] [some (.ref 46), some (.int v1), some (.int v2), some (.int (v3 + 2)), some (.int v4), some (.int v5)] (I, J, zR, 81)) (k2 : (¬ (v5 < 0)) → (s46_13 ≤ v5) → At 29 [] [some (.ref 46), some (.int v1), some (.int v2), some (.int (v3 + 2)), some (.int v4), some (.int v5)] (I, J, zR, 81)) (k3 : (¬ (v5 < 0)) → (¬ (s46_13 ≤ v5)) → (¬ (v4 = 0)) → At 29 [] [some (.ref 46), some (.int v1), some (.int v2), some (.int (v3 + 2)), some (.int v4), some (.int v5)] (I, J, zR, 81)) (k4 : (¬ (v5 < 0)) → (¬ (s46_13 ≤ v5)) → (v4 = 0) → (¬ ((f57 (v5 : Int32).toNatClampNeg) = (f57 (v1 : Int32).toNatClampNeg))) → At 42 [] [some (.ref 46), some (.int v1), some (.int v2), some (.int v3), some (.int v4), some (.int (v5 + v3))] (I, J, zR, 81)) (k5 : (¬ (v5 < 0)) → (¬ (s46_13 ≤ v5)) → (v4 = 0) → ((f57 (v5 : Int32).toNatClampNeg) = (f57 (v1 : Int32).toNatClampNeg)) → (¬ ((f64 (v5 : Int32).toNatClampNeg) = 1)) → (¬ (v2 = 0)) → At 42 [] [some (.ref 46), some (.int v1), some (.int 1), some (.int v3), some (.int 0), some (.int (v5 + v3))] (I, J, zR, 81)) (k6 : (¬ (v5 < 0)) → (¬ (s46_13 ≤ v5)) → (v4 = 0) → ((f57 (v5 : Int32).toNatClampNeg) = (f57 (v1 : Int32).toNatClampNeg)) → (¬ ((f64 (v5 : Int32).toNatClampNeg) = 1)) → (v2 = 0) → (¬ ((f64 (v5 : Int32).toNatClampNeg) = 0)) → At 42 [] [some (.ref 46), some (.int v1), some (.int 0), some (.int v3), some (.int 0), some (.int (v5 + v3))] (I, J, zR, 81)) (k7 : (¬ (v5 < 0)) → (¬ (s46_13 ≤ v5)) → (v4 = 0) → ((f57 (v5 : Int32).toNatClampNeg) = (f57 (v1 : Int32).toNatClampNeg)) → (¬ ((f64 (v5 : Int32).toNatClampNeg) = 1)) → (v2 = 0) → ((f64 (v5 : Int32).toNatClampNeg) = 0) → At 42 [] [some (.ref 46), some (.int v1), some (.int 1), some (.int v3), some (.int 0), some (.int (v5 + v3))] (I, J, zR, 81)) (k8 : (¬ (v5 < 0)) → (¬ (s46_13 ≤ v5)) → (v4 = 0) → ((f57 (v5 : Int32).toNatClampNeg) = (f57 (v1 : Int32).toNatClampNeg)) → ((f64 (v5 : Int32).toNatClampNeg) = 1) → (¬ (v2 = 0)) → At 42 [] [some (.ref 46), some (.int v1), some (.int 1), some (.int v3), some (.int 1), some (.int (v5 + v3))] (I, J, zR, 81)) (k9 : (¬ (v5 < 0)) → (¬ (s46_13 ≤ v5)) → (v4 = 0) → ((f57 (v5 : Int32).toNatClampNeg) = (f57 (v1 : Int32).toNatClampNeg)) → ((f64 (v5 : Int32).toNatClampNeg) = 1) → (v2 = 0) → (¬ ((f64 (v5 : Int32).toNatClampNeg) = 0)) → At 42 [] [some (.ref 46), some (.int v1), some (.int 0), some (.int v3), some (.int 1), some (.int (v5 + v3))] (I, J, zR, 81)) (k10 : (¬ (v5 < 0)) → (¬ (s46_13 ≤ v5)) → (v4 = 0) → ((f57 (v5 : Int32).toNatClampNeg) = (f57 (v1 : Int32).toNatClampNeg)) → ((f64 (v5 : Int32).toNatClampNeg) = 1) → (v2 = 0) → ((f64 (v5 : Int32).toNatClampNeg) = 0) → At 42 [] [some (.ref 46), some (.int v1), some (.int 1), some (.int v3), some (.int 1), some (.int (v5 + v3))] (I, J, zR, 81)) : At 42 [] [some (.ref 46), some (.int v1), some (.int v2), some (.int v3), some (.int v4), some (.int v5)] (I, J, zR, 81) := by
  subst e57 e64 e46_13
  refine hC 42 [] [some (.ref 46), some (.int v1), some (.int v2), some (.int v3), some (.int v4), some (.int v5)] _ ?_
  refine And.intro (fun q1 => ?_) (fun q1 => ?_)
  · skip
    refine hC 124 [] [some (.ref 46), some (.int v1), some (.int v2), some (.int v3), some (.int v4), some (.int v5)] _ ?_
    exact k1 q1
  · skip
    refine And.intro (fun q2 => ?_) (fun q2 => ?_)
    · skip
      refine hC 124 [] [some (.ref 46), some (.int v1), some (.int v2), some (.int v3), some (.int v4), some (.int v5)] _ ?_
      exact k2 q1 q2
    · skip
      refine And.intro (fun q3 => ?_) (fun q3 => ?_)
      · skip
        refine hC 124 [] [some (.ref 46), some (.int v1), some (.int v2), some (.int v3), some (.int v4), some (.int v5)] _ ?_
        exact k3 q1 q2 q3
      · skip
        refine And.intro (zvp (b1 q1 q2 q3) rfl) ?_
        refine And.intro (zvp (b2 q1 q2 q3) rfl) ?_
        refine And.intro (fun q4 => ?_) (fun q4 => ?_)
        · skip
          refine hC 115 [] [some (.ref 46), some (.int v1), some (.int v2), some (.int v3), some (.int v4), some (.int v5)] _ ?_
          exact k4 q1 q2 q3 q4
        · skip
          refine And.intro (zvp (b3 q1 q2 q3 q4) rfl) ?_
          refine And.intro (fun q5 => ?_) (fun q5 => ?_)
          · skip
            refine hC 92 [] [some (.ref 46), some (.int v1), some (.int v2), some (.int v3), some (.int v4), some (.int v5)] _ ?_
            refine hC 93 [.int 0] [some (.ref 46), some (.int v1), some (.int v2), some (.int v3), some (.int v4), some (.int v5)] _ ?_
            refine And.intro (fun q6 => ?_) (fun q6 => ?_)
            · skip
              refine hC 109 [] [some (.ref 46), some (.int v1), some (.int v2), some (.int v3), some (.int 0), some (.int v5)] _ ?_
              refine hC 114 [.int 1] [some (.ref 46), some (.int v1), some (.int v2), some (.int v3), some (.int 0), some (.int v5)] _ ?_
              refine hC 115 [] [some (.ref 46), some (.int v1), some (.int 1), some (.int v3), some (.int 0), some (.int v5)] _ ?_
              exact k5 q1 q2 q3 q4 q5 q6
            · skip
              refine And.intro (zvp (b4 q1 q2 q3 q4 q5 q6) rfl) ?_
              refine And.intro (fun q7 => ?_) (fun q7 => ?_)
              · skip
                refine hC 113 [] [some (.ref 46), some (.int v1), some (.int v2), some (.int v3), some (.int 0), some (.int v5)] _ ?_
                refine hC 114 [.int 0] [some (.ref 46), some (.int v1), some (.int v2), some (.int v3), some (.int 0), some (.int v5)] _ ?_
                refine hC 115 [] [some (.ref 46), some (.int v1), some (.int 0), some (.int v3), some (.int 0), some (.int v5)] _ ?_
                exact k6 q1 q2 q3 q4 q5 q6 q7
              · skip
                refine hC 109 [] [some (.ref 46), some (.int v1), some (.int v2), some (.int v3), some (.int 0), some (.int v5)] _ ?_
                refine hC 114 [.int 1] [some (.ref 46), some (.int v1), some (.int v2), some (.int v3), some (.int 0), some (.int v5)] _ ?_
                refine hC 115 [] [some (.ref 46), some (.int v1), some (.int 1), some (.int v3), some (.int 0), some (.int v5)] _ ?_
                exact k7 q1 q2 q3 q4 q5 q6 q7
          · skip
            refine hC 93 [.int 1] [some (.ref 46), some (.int v1), some (.int v2), some (.int v3), some (.int v4), some (.int v5)] _ ?_
            refine And.intro (fun q8 => ?_) (fun q8 => ?_)
            · skip
              refine hC 109 [] [some (.ref 46), some (.int v1), some (.int v2), some (.int v3), some (.int 1), some (.int v5)] _ ?_
              refine hC 114 [.int 1] [some (.ref 46), some (.int v1), some (.int v2), some (.int v3), some (.int 1), some (.int v5)] _ ?_
              refine hC 115 [] [some (.ref 46), some (.int v1), some (.int 1), some (.int v3), some (.int 1), some (.int v5)] _ ?_
              exact k8 q1 q2 q3 q4 q5 q8
            · skip
              refine And.intro (zvp (b5 q1 q2 q3 q4 q5 q8) rfl) ?_
              refine And.intro (fun q9 => ?_) (fun q9 => ?_)
              · skip
                refine hC 113 [] [some (.ref 46), some (.int v1), some (.int v2), some (.int v3), some (.int 1), some (.int v5)] _ ?_
                refine hC 114 [.int 0] [some (.ref 46), some (.int v1), some (.int v2), some (.int v3), some (.int 1), some (.int v5)] _ ?_
                refine hC 115 [] [some (.ref 46), some (.int v1), some (.int 0), some (.int v3), some (.int 1), some (.int v5)] _ ?_
                exact k9 q1 q2 q3 q4 q5 q8 q9
              · skip
                refine hC 109 [] [some (.ref 46), some (.int v1), some (.int v2), some (.int v3), some (.int 1), some (.int v5)] _ ?_
                refine hC 114 [.int 1] [some (.ref 46), some (.int v1), some (.int v2), some (.int v3), some (.int 1), some (.int v5)] _ ?_
                refine hC 115 [] [some (.ref 46), some (.int v1), some (.int 1), some (.int v3), some (.int 1), some (.int v5)] _ ?_
                exact k10 q1 q2 q3 q4 q5 q8 q9
theorem g_X10_sheet_0 (d : Nat) (E : zE) (At : Nat → zC) (Q : Option Value → zM → Prop) (hE : ∀ y n a M' Q', zT (d + 2) y n a M' Q' → E y n a M' Q') (hC : ∀ pc st L M', zX 81 E Q At (zlk B_X10_sheet pc) st L M' → At pc st L M') (I : Nat → Nat → Int32) (J : Nat → Nat → Int64) (v1 : Int32) (v2 : Int32) (v3 : Int32) (b1 : (((0 : Int32) ≤ v1 ∧ v1 ≤ 3)) → (((0 : Int32) ≤ v2 ∧ v2 ≤ 2)) → (v3 ≤ 200) → ((0 : Int32) ≤ v3) → 0 ≤ v1 ∧ v1 < 4) (b2 : (((0 : Int32) ≤ v1 ∧ v1 ≤ 3)) → (((0 : Int32) ≤ v2 ∧ v2 ≤ 2)) → (v3 ≤ 200) → ((0 : Int32) ≤ v3) → 0 ≤ v1 ∧ v1 < 4) (k1 : (((0 : Int32) ≤ v1 ∧ v1 ≤ 3)) → (((0 : Int32) ≤ v2 ∧ v2 ≤ 2)) → (v3 ≤ 200) → ((0 : Int32) ≤ v3) → At 56 [] [some (.ref 46), some (.int v1), some (.int v2), some (.int v3), some (.int 0)] (zwI (zwI (I, J, zR, 81) 77 (v1 : Int32).toNatClampNeg v2) 78 (v1 : Int32).toNatClampNeg v3)) (l1 : (((0 : Int32) ≤ v1 ∧ v1 ≤ 3)) → (((0 : Int32) ≤ v2 ∧ v2 ≤ 2)) → (v3 ≤ 200) → (¬ ((0 : Int32) ≤ v3)) → Q (some (.int ((-10) - 5))) (zwI (I, J, zR, 81) 46 51 5)) (l2 : (((0 : Int32) ≤ v1 ∧ v1 ≤ 3)) → (((0 : Int32) ≤ v2 ∧ v2 ≤ 2)) → (¬ (v3 ≤ 200)) → Q (some (.int (-2))) (I, J, zR, 81)) (l3 : (((0 : Int32) ≤ v1 ∧ v1 ≤ 3)) → (¬ (((0 : Int32) ≤ v2 ∧ v2 ≤ 2))) → Q (some (.int (-2))) (I, J, zR, 81)) (l4 : (¬ (((0 : Int32) ≤ v1 ∧ v1 ≤ 3))) → Q (some (.int (-2))) (I, J, zR, 81)) : At 0 [] [some (.ref 46), some (.int v1), some (.int v2), some (.int v3), none] (I, J, zR, 81) := by
  refine hC 0 [] [some (.ref 46), some (.int v1), some (.int v2), some (.int v3), none] _ ?_
  refine hE _ _ _ _ _ (w_X10_isSheet _ _ _ _ _   (fun q1 => ?_) (fun q2 => ?_))
  · skip
    refine And.intro (fun qz => absurd qz (by decide)) (fun _ => ?_)
    refine hE _ _ _ _ _ (w_in32 _ _ _ (v2) (0) (2) _   (fun q3 => ?_) (fun q4 => ?_))
    · skip
      refine And.intro (fun qz => absurd qz (by decide)) (fun _ => ?_)
      refine And.intro (fun q5 => ?_) (fun q5 => ?_)
      · skip
        refine hC 29 [] [some (.ref 46), some (.int v1), some (.int v2), some (.int v3), none] _ ?_
        refine And.intro (fun q6 => ?_) (fun q6 => ?_)
        · skip
          refine hC 39 [] [some (.ref 46), some (.int v1), some (.int v2), some (.int v3), none] _ ?_
          refine And.intro (zvp (b1 q1 q3 q5 q6) rfl) ?_
          refine And.intro (zvp (b2 q1 q3 q5 q6) rfl) ?_
          exact k1 q1 q3 q5 q6
        · skip
          refine hE _ _ _ _ _ (w_X10_met _ _ _ (5) _   (?_))
          · skip
            exact l1 q1 q3 q5 q6
      · skip
        refine hC 26 [] [some (.ref 46), some (.int v1), some (.int v2), some (.int v3), none] _ ?_
        exact l2 q1 q3 q5
    · skip
      refine And.intro (fun _ => ?_) (fun qz => absurd qz (by decide))
      refine hC 26 [] [some (.ref 46), some (.int v1), some (.int v2), some (.int v3), none] _ ?_
      exact l3 q1 q4
  · skip
    refine And.intro (fun _ => ?_) (fun qz => absurd qz (by decide))
    refine hC 26 [] [some (.ref 46), some (.int v1), some (.int v2), some (.int v3), none] _ ?_
    exact l4 q2
theorem g_X10_sheet_56 (d : Nat) (E : zE) (At : Nat → zC) (Q : Option Value → zM → Prop) (hE : ∀ y n a M' Q', zT (d + 0) y n a M' Q' → E y n a M' Q') (hC : ∀ pc st L M', zX 81 E Q At (zlk B_X10_sheet pc) st L M' → At pc st L M') (I : Nat → Nat → Int32) (J : Nat → Nat → Int64) (v1 : Int32) (v2 : Int32) (v3 : Int32) (v4 : Int32) (b1 : (¬ (v3 ≤ v4)) → 0 ≤ ((200 * v1) + v4) ∧ ((200 * v1) + v4) < 800) (k1 : (¬ (v3 ≤ v4)) → At 56 [] [some (.ref 46), some (.int v1), some (.int v2), some (.int v3), some (.int (v4 + 1))] (zwI (I, J, zR, 81) 79 (((200 * v1) + v4) : Int32).toNatClampNeg 0)) (l1 : (v3 ≤ v4) → Q (some (.int v3)) (I, J, zR, 81)) : At 56 [] [some (.ref 46), some (.int v1), some (.int v2), some (.int v3), some (.int v4)] (I, J, zR, 81) := by
  refine hC 56 [] [some (.ref 46), some (.int v1), some (.int v2), some (.int v3), some (.int v4)] _ ?_
  refine And.intro (fun q1 => ?_) (fun q1 => ?_)
  · skip
    refine hC 82 [] [some (.ref 46), some (.int v1), some (.int v2), some (.int v3), some (.int v4)] _ ?_
    exact l1 q1
  · skip
    refine And.intro (zvp (b1 q1) rfl) ?_
    exact k1 q1
theorem g_X10_copy_0 (d : Nat) (E : zE) (At : Nat → zC) (Q : Option Value → zM → Prop) (hE : ∀ y n a M' Q', zT (d + 2) y n a M' Q' → E y n a M' Q') (hC : ∀ pc st L M', zX 81 E Q At (zlk B_X10_copy pc) st L M' → At pc st L M') (I : Nat → Nat → Int32) (J : Nat → Nat → Int64) (v1 : Int32) (v2 : Int32) (v3 : Int32) (v4 : Int32) (v5 : Int32) {f77 : Nat → Int32} (e77 : I 77 = f77) {f78 : Nat → Int32} (e78 : I 78 = f78) (b1 : (((0 : Int32) ≤ v1 ∧ v1 ≤ 3)) → (((0 : Int32) ≤ v3 ∧ v3 ≤ 3)) → 0 ≤ v1 ∧ v1 < 4) (b2 : (((0 : Int32) ≤ v1 ∧ v1 ≤ 3)) → (((0 : Int32) ≤ v3 ∧ v3 ≤ 3)) → (¬ ((f77 (v1 : Int32).toNatClampNeg) < 0)) → 0 ≤ v3 ∧ v3 < 4) (b3 : (((0 : Int32) ≤ v1 ∧ v1 ≤ 3)) → (((0 : Int32) ≤ v3 ∧ v3 ≤ 3)) → (¬ ((f77 (v1 : Int32).toNatClampNeg) < 0)) → ((0 : Int32) ≤ (f77 (v3 : Int32).toNatClampNeg)) → 0 ≤ v1 ∧ v1 < 4) (b4 : (((0 : Int32) ≤ v1 ∧ v1 ≤ 3)) → (((0 : Int32) ≤ v3 ∧ v3 ≤ 3)) → (¬ ((f77 (v1 : Int32).toNatClampNeg) < 0)) → ((0 : Int32) ≤ (f77 (v3 : Int32).toNatClampNeg)) → 0 ≤ v3 ∧ v3 < 4) (b5 : (((0 : Int32) ≤ v1 ∧ v1 ≤ 3)) → (((0 : Int32) ≤ v3 ∧ v3 ≤ 3)) → (¬ ((f77 (v1 : Int32).toNatClampNeg) < 0)) → ((0 : Int32) ≤ (f77 (v3 : Int32).toNatClampNeg)) → ((f77 (v1 : Int32).toNatClampNeg) = (f77 (v3 : Int32).toNatClampNeg)) → (¬ (v2 < 0)) → (¬ (v4 < 0)) → (¬ (v5 < 0)) → 0 ≤ v1 ∧ v1 < 4) (b6 : (((0 : Int32) ≤ v1 ∧ v1 ≤ 3)) → (((0 : Int32) ≤ v3 ∧ v3 ≤ 3)) → (¬ ((f77 (v1 : Int32).toNatClampNeg) < 0)) → ((0 : Int32) ≤ (f77 (v3 : Int32).toNatClampNeg)) → ((f77 (v1 : Int32).toNatClampNeg) = (f77 (v3 : Int32).toNatClampNeg)) → (¬ (v2 < 0)) → (¬ (v4 < 0)) → (¬ (v5 < 0)) → (¬ ((0 : Int32) < (lg_cmp ((v2 : Int32).toInt64 + (v5 : Int32).toInt64) ((f78 (v1 : Int32).toNatClampNeg) : Int32).toInt64))) → 0 ≤ v3 ∧ v3 < 4) (k1 : (((0 : Int32) ≤ v1 ∧ v1 ≤ 3)) → (((0 : Int32) ≤ v3 ∧ v3 ≤ 3)) → (¬ ((f77 (v1 : Int32).toNatClampNeg) < 0)) → ((0 : Int32) ≤ (f77 (v3 : Int32).toNatClampNeg)) → ((f77 (v1 : Int32).toNatClampNeg) = (f77 (v3 : Int32).toNatClampNeg)) → (¬ (v2 < 0)) → (¬ (v4 < 0)) → (¬ (v5 < 0)) → (¬ ((0 : Int32) < (lg_cmp ((v2 : Int32).toInt64 + (v5 : Int32).toInt64) ((f78 (v1 : Int32).toNatClampNeg) : Int32).toInt64))) → ((lg_cmp ((v4 : Int32).toInt64 + (v5 : Int32).toInt64) ((f78 (v3 : Int32).toNatClampNeg) : Int32).toInt64) ≤ 0) → At 120 [] [some (.ref 46), some (.int v1), some (.int v2), some (.int v3), some (.int v4), some (.int v5), some (.int 0)] (I, J, zR, 81)) (l1 : (((0 : Int32) ≤ v1 ∧ v1 ≤ 3)) → (((0 : Int32) ≤ v3 ∧ v3 ≤ 3)) → ((f77 (v1 : Int32).toNatClampNeg) < 0) → Q (some (.int ((-10) - 1))) (zwI (I, J, zR, 81) 46 51 1)) (l2 : (((0 : Int32) ≤ v1 ∧ v1 ≤ 3)) → (((0 : Int32) ≤ v3 ∧ v3 ≤ 3)) → (¬ ((f77 (v1 : Int32).toNatClampNeg) < 0)) → ((0 : Int32) ≤ (f77 (v3 : Int32).toNatClampNeg)) → ((f77 (v1 : Int32).toNatClampNeg) = (f77 (v3 : Int32).toNatClampNeg)) → (v2 < 0) → Q (some (.int ((-10) - 2))) (zwI (I, J, zR, 81) 46 51 2)) (l3 : (((0 : Int32) ≤ v1 ∧ v1 ≤ 3)) → (((0 : Int32) ≤ v3 ∧ v3 ≤ 3)) → (¬ ((f77 (v1 : Int32).toNatClampNeg) < 0)) → ((0 : Int32) ≤ (f77 (v3 : Int32).toNatClampNeg)) → ((f77 (v1 : Int32).toNatClampNeg) = (f77 (v3 : Int32).toNatClampNeg)) → (¬ (v2 < 0)) → (v4 < 0) → Q (some (.int ((-10) - 2))) (zwI (I, J, zR, 81) 46 51 2)) (l4 : (((0 : Int32) ≤ v1 ∧ v1 ≤ 3)) → (((0 : Int32) ≤ v3 ∧ v3 ≤ 3)) → (¬ ((f77 (v1 : Int32).toNatClampNeg) < 0)) → ((0 : Int32) ≤ (f77 (v3 : Int32).toNatClampNeg)) → ((f77 (v1 : Int32).toNatClampNeg) = (f77 (v3 : Int32).toNatClampNeg)) → (¬ (v2 < 0)) → (¬ (v4 < 0)) → (v5 < 0) → Q (some (.int ((-10) - 2))) (zwI (I, J, zR, 81) 46 51 2)) (l5 : (((0 : Int32) ≤ v1 ∧ v1 ≤ 3)) → (((0 : Int32) ≤ v3 ∧ v3 ≤ 3)) → (¬ ((f77 (v1 : Int32).toNatClampNeg) < 0)) → ((0 : Int32) ≤ (f77 (v3 : Int32).toNatClampNeg)) → ((f77 (v1 : Int32).toNatClampNeg) = (f77 (v3 : Int32).toNatClampNeg)) → (¬ (v2 < 0)) → (¬ (v4 < 0)) → (¬ (v5 < 0)) → ((0 : Int32) < (lg_cmp ((v2 : Int32).toInt64 + (v5 : Int32).toInt64) ((f78 (v1 : Int32).toNatClampNeg) : Int32).toInt64)) → Q (some (.int ((-10) - 2))) (zwI (I, J, zR, 81) 46 51 2)) (l6 : (((0 : Int32) ≤ v1 ∧ v1 ≤ 3)) → (((0 : Int32) ≤ v3 ∧ v3 ≤ 3)) → (¬ ((f77 (v1 : Int32).toNatClampNeg) < 0)) → ((0 : Int32) ≤ (f77 (v3 : Int32).toNatClampNeg)) → ((f77 (v1 : Int32).toNatClampNeg) = (f77 (v3 : Int32).toNatClampNeg)) → (¬ (v2 < 0)) → (¬ (v4 < 0)) → (¬ (v5 < 0)) → (¬ ((0 : Int32) < (lg_cmp ((v2 : Int32).toInt64 + (v5 : Int32).toInt64) ((f78 (v1 : Int32).toNatClampNeg) : Int32).toInt64))) → (¬ ((lg_cmp ((v4 : Int32).toInt64 + (v5 : Int32).toInt64) ((f78 (v3 : Int32).toNatClampNeg) : Int32).toInt64) ≤ 0)) → Q (some (.int ((-10) - 2))) (zwI (I, J, zR, 81) 46 51 2)) (l7 : (((0 : Int32) ≤ v1 ∧ v1 ≤ 3)) → (((0 : Int32) ≤ v3 ∧ v3 ≤ 3)) → (¬ ((f77 (v1 : Int32).toNatClampNeg) < 0)) → ((0 : Int32) ≤ (f77 (v3 : Int32).toNatClampNeg)) → (¬ ((f77 (v1 : Int32).toNatClampNeg) = (f77 (v3 : Int32).toNatClampNeg))) → Q (some (.int ((-10) - 4))) (zwI (I, J, zR, 81) 46 51 4)) (l8 : (((0 : Int32) ≤ v1 ∧ v1 ≤ 3)) → (((0 : Int32) ≤ v3 ∧ v3 ≤ 3)) → (¬ ((f77 (v1 : Int32).toNatClampNeg) < 0)) → (¬ ((0 : Int32) ≤ (f77 (v3 : Int32).toNatClampNeg))) → Q (some (.int ((-10) - 1))) (zwI (I, J, zR, 81) 46 51 1)) (l9 : (((0 : Int32) ≤ v1 ∧ v1 ≤ 3)) → (¬ (((0 : Int32) ≤ v3 ∧ v3 ≤ 3))) → Q (some (.int (-2))) (I, J, zR, 81)) (l10 : (¬ (((0 : Int32) ≤ v1 ∧ v1 ≤ 3))) → Q (some (.int (-2))) (I, J, zR, 81)) : At 0 [] [some (.ref 46), some (.int v1), some (.int v2), some (.int v3), some (.int v4), some (.int v5), none] (I, J, zR, 81) := by
  subst e77 e78
  refine hC 0 [] [some (.ref 46), some (.int v1), some (.int v2), some (.int v3), some (.int v4), some (.int v5), none] _ ?_
  refine hE _ _ _ _ _ (w_X10_isSheet _ _ _ _ _   (fun q1 => ?_) (fun q2 => ?_))
  · skip
    refine And.intro (fun qz => absurd qz (by decide)) (fun _ => ?_)
    refine hE _ _ _ _ _ (w_X10_isSheet _ _ _ _ _   (fun q3 => ?_) (fun q4 => ?_))
    · skip
      refine And.intro (fun _ => ?_) (fun qz => absurd qz (by decide))
      refine hC 17 [] [some (.ref 46), some (.int v1), some (.int v2), some (.int v3), some (.int v4), some (.int v5), none] _ ?_
      refine And.intro (zvp (b1 q1 q3) rfl) ?_
      refine And.intro (fun q5 => ?_) (fun q5 => ?_)
      · skip
        refine hC 35 [] [some (.ref 46), some (.int v1), some (.int v2), some (.int v3), some (.int v4), some (.int v5), none] _ ?_
        refine hE _ _ _ _ _ (w_X10_met _ _ _ (1) _   (?_))
        · skip
          exact l1 q1 q3 q5
      · skip
        refine And.intro (zvp (b2 q1 q3 q5) rfl) ?_
        refine And.intro (fun q6 => ?_) (fun q6 => ?_)
        · skip
          refine hC 41 [] [some (.ref 46), some (.int v1), some (.int v2), some (.int v3), some (.int v4), some (.int v5), none] _ ?_
          refine And.intro (zvp (b3 q1 q3 q5 q6) rfl) ?_
          refine And.intro (zvp (b4 q1 q3 q5 q6) rfl) ?_
          refine And.intro (fun q7 => ?_) (fun q7 => ?_)
          · skip
            refine hC 62 [] [some (.ref 46), some (.int v1), some (.int v2), some (.int v3), some (.int v4), some (.int v5), none] _ ?_
            refine And.intro (fun q8 => ?_) (fun q8 => ?_)
            · skip
              refine hC 111 [] [some (.ref 46), some (.int v1), some (.int v2), some (.int v3), some (.int v4), some (.int v5), none] _ ?_
              refine hE _ _ _ _ _ (w_X10_met _ _ _ (2) _   (?_))
              · skip
                exact l2 q1 q3 q5 q6 q7 q8
            · skip
              refine And.intro (fun q9 => ?_) (fun q9 => ?_)
              · skip
                refine hC 111 [] [some (.ref 46), some (.int v1), some (.int v2), some (.int v3), some (.int v4), some (.int v5), none] _ ?_
                refine hE _ _ _ _ _ (w_X10_met _ _ _ (2) _   (?_))
                · skip
                  exact l3 q1 q3 q5 q6 q7 q8 q9
              · skip
                refine And.intro (fun q10 => ?_) (fun q10 => ?_)
                · skip
                  refine hC 111 [] [some (.ref 46), some (.int v1), some (.int v2), some (.int v3), some (.int v4), some (.int v5), none] _ ?_
                  refine hE _ _ _ _ _ (w_X10_met _ _ _ (2) _   (?_))
                  · skip
                    exact l4 q1 q3 q5 q6 q7 q8 q9 q10
                · skip
                  refine And.intro (zvp (b5 q1 q3 q5 q6 q7 q8 q9 q10) rfl) ?_
                  refine And.intro (fun q11 => ?_) (fun q11 => ?_)
                  · skip
                    refine hC 111 [] [some (.ref 46), some (.int v1), some (.int v2), some (.int v3), some (.int v4), some (.int v5), none] _ ?_
                    refine hE _ _ _ _ _ (w_X10_met _ _ _ (2) _   (?_))
                    · skip
                      exact l5 q1 q3 q5 q6 q7 q8 q9 q10 q11
                  · skip
                    refine And.intro (zvp (b6 q1 q3 q5 q6 q7 q8 q9 q10 q11) rfl) ?_
                    refine And.intro (fun q12 => ?_) (fun q12 => ?_)
                    · skip
                      refine hC 117 [] [some (.ref 46), some (.int v1), some (.int v2), some (.int v3), some (.int v4), some (.int v5), none] _ ?_
                      exact k1 q1 q3 q5 q6 q7 q8 q9 q10 q11 q12
                    · skip
                      refine hC 111 [] [some (.ref 46), some (.int v1), some (.int v2), some (.int v3), some (.int v4), some (.int v5), none] _ ?_
                      refine hE _ _ _ _ _ (w_X10_met _ _ _ (2) _   (?_))
                      · skip
                        exact l6 q1 q3 q5 q6 q7 q8 q9 q10 q11 q12
          · skip
            refine hE _ _ _ _ _ (w_X10_met _ _ _ (4) _   (?_))
            · skip
              exact l7 q1 q3 q5 q6 q7
        · skip
          refine hC 35 [] [some (.ref 46), some (.int v1), some (.int v2), some (.int v3), some (.int v4), some (.int v5), none] _ ?_
          refine hE _ _ _ _ _ (w_X10_met _ _ _ (1) _   (?_))
          · skip
            exact l8 q1 q3 q5 q6
    · skip
      refine And.intro (fun qz => absurd qz (by decide)) (fun _ => ?_)
      refine hC 14 [] [some (.ref 46), some (.int v1), some (.int v2), some (.int v3), some (.int v4), some (.int v5), none] _ ?_
      exact l9 q1 q4
  · skip
    refine And.intro (fun _ => ?_) (fun qz => absurd qz (by decide))
    refine hC 14 [] [some (.ref 46), some (.int v1), some (.int v2), some (.int v3), some (.int v4), some (.int v5), none] _ ?_
    exact l10 q2
theorem g_X10_copy_120 (d : Nat) (E : zE) (At : Nat → zC) (Q : Option Value → zM → Prop) (hE : ∀ y n a M' Q', zT (d + 0) y n a M' Q' → E y n a M' Q') (hC : ∀ pc st L M', zX 81 E Q At (zlk B_X10_copy pc) st L M' → At pc st L M') (I : Nat → Nat → Int32) (J : Nat → Nat → Int64) (v1 : Int32) (v2 : Int32) (v3 : Int32) (v4 : Int32) (v5 : Int32) (v6 : Int32) {f79 : Nat → Int32} (e79 : I 79 = f79) (b1 : (¬ (v5 ≤ v6)) → 0 ≤ (((200 * v1) + v2) + v6) ∧ (((200 * v1) + v2) + v6) < 800) (b2 : (¬ (v5 ≤ v6)) → 0 ≤ v6 ∧ v6 < 200) (k1 : (v5 ≤ v6) → At 158 [] [some (.ref 46), some (.int v1), some (.int v2), some (.int v3), some (.int v4), some (.int v5), some (.int 0)] (I, J, zR, 81)) (k2 : (¬ (v5 ≤ v6)) → At 120 [] [some (.ref 46), some (.int v1), some (.int v2), some (.int v3), some (.int v4), some (.int v5), some (.int (v6 + 1))] (zwI (I, J, zR, 81) 80 (v6 : Int32).toNatClampNeg (f79 ((((200 * v1) + v2) + v6) : Int32).toNatClampNeg))) : At 120 [] [some (.ref 46), some (.int v1), some (.int v2), some (.int v3), some (.int v4), some (.int v5), some (.int v6)] (I, J, zR, 81) := by
  subst e79
  refine hC 120 [] [some (.ref 46), some (.int v1), some (.int v2), some (.int v3), some (.int v4), some (.int v5), some (.int v6)] _ ?_
  refine And.intro (fun q1 => ?_) (fun q1 => ?_)
  · skip
    refine hC 155 [] [some (.ref 46), some (.int v1), some (.int v2), some (.int v3), some (.int v4), some (.int v5), some (.int v6)] _ ?_
    exact k1 q1
  · skip
    refine And.intro (zvp (b1 q1) rfl) ?_
    refine And.intro (zvp (b2 q1) rfl) ?_
    exact k2 q1
theorem g_X10_copy_158 (d : Nat) (E : zE) (At : Nat → zC) (Q : Option Value → zM → Prop) (hE : ∀ y n a M' Q', zT (d + 0) y n a M' Q' → E y n a M' Q') (hC : ∀ pc st L M', zX 81 E Q At (zlk B_X10_copy pc) st L M' → At pc st L M') (I : Nat → Nat → Int32) (J : Nat → Nat → Int64) (v1 : Int32) (v2 : Int32) (v3 : Int32) (v4 : Int32) (v5 : Int32) (v6 : Int32) {f80 : Nat → Int32} (e80 : I 80 = f80) (b1 : (¬ (v5 ≤ v6)) → 0 ≤ v6 ∧ v6 < 200) (b2 : (¬ (v5 ≤ v6)) → 0 ≤ (((200 * v3) + v4) + v6) ∧ (((200 * v3) + v4) + v6) < 800) (k1 : (¬ (v5 ≤ v6)) → At 158 [] [some (.ref 46), some (.int v1), some (.int v2), some (.int v3), some (.int v4), some (.int v5), some (.int (v6 + 1))] (zwI (I, J, zR, 81) 79 ((((200 * v3) + v4) + v6) : Int32).toNatClampNeg (f80 (v6 : Int32).toNatClampNeg))) (l1 : (v5 ≤ v6) → Q (some (.int 1)) (I, J, zR, 81)) : At 158 [] [some (.ref 46), some (.int v1), some (.int v2), some (.int v3), some (.int v4), some (.int v5), some (.int v6)] (I, J, zR, 81) := by
  subst e80
  refine hC 158 [] [some (.ref 46), some (.int v1), some (.int v2), some (.int v3), some (.int v4), some (.int v5), some (.int v6)] _ ?_
  refine And.intro (fun q1 => ?_) (fun q1 => ?_)
  · skip
    refine hC 194 [] [some (.ref 46), some (.int v1), some (.int v2), some (.int v3), some (.int v4), some (.int v5), some (.int v6)] _ ?_
    exact l1 q1
  · skip
    refine And.intro (zvp (b1 q1) rfl) ?_
    refine And.intro (zvp (b2 q1) rfl) ?_
    exact k1 q1
theorem g_X10_nextRow_0 (d : Nat) (E : zE) (At : Nat → zC) (Q : Option Value → zM → Prop) (hE : ∀ y n a M' Q', zT (d + 0) y n a M' Q' → E y n a M' Q') (hC : ∀ pc st L M', zX 81 E Q At (zlk B_X10_nextRow pc) st L M' → At pc st L M') (I : Nat → Nat → Int32) (J : Nat → Nat → Int64) {s46_37 : Int32} (e46_37 : I 46 37 = s46_37) (k1 : At 7 [] [some (.ref 46), some (.int (s46_37 - 2)), none, none, none, none] (I, J, zR, 81)) : At 0 [] [some (.ref 46), none, none, none, none, none] (I, J, zR, 81) := by
  subst e46_37
  refine hC 0 [] [some (.ref 46), none, none, none, none, none] _ ?_
  exact k1
theorem g_X10_nextRow_7 (d : Nat) (E : zE) (At : Nat → zC) (Q : Option Value → zM → Prop) (hE : ∀ y n a M' Q', zT (d + 0) y n a M' Q' → E y n a M' Q') (hC : ∀ pc st L M', zX 81 E Q At (zlk B_X10_nextRow pc) st L M' → At pc st L M') (I : Nat → Nat → Int32) (J : Nat → Nat → Int64) (v1 : Int32) {f74 : Nat → Int32} (e74 : I 74 = f74) {s46_37 : Int32} (e46_37 : I 46 37 = s46_37) (b1 : (¬ (v1 < 0)) → 0 ≤ v1 ∧ v1 < 7) (b2 : (¬ (v1 < 0)) → 0 ≤ (v1 + 1) ∧ (v1 + 1) < 7) (k1 : (v1 < 0) → ((0 : Int32) ≤ v1) → At 47 [] [some (.ref 46), some (.int v1), some (.int (s46_37 - 1)), none, none, none] (I, J, zR, 81)) (k2 : (¬ (v1 < 0)) → ((f74 (v1 : Int32).toNatClampNeg) ≤ (f74 ((v1 + 1) : Int32).toNatClampNeg)) → ((0 : Int32) ≤ v1) → At 47 [] [some (.ref 46), some (.int v1), some (.int (s46_37 - 1)), none, none, none] (I, J, zR, 81)) (k3 : (¬ (v1 < 0)) → (¬ ((f74 (v1 : Int32).toNatClampNeg) ≤ (f74 ((v1 + 1) : Int32).toNatClampNeg))) → At 7 [] [some (.ref 46), some (.int (v1 + (-1))), none, none, none, none] (I, J, zR, 81)) (l1 : (v1 < 0) → (¬ ((0 : Int32) ≤ v1)) → Q (some (.int 0)) (I, J, zR, 81)) (l2 : (¬ (v1 < 0)) → ((f74 (v1 : Int32).toNatClampNeg) ≤ (f74 ((v1 + 1) : Int32).toNatClampNeg)) → (¬ ((0 : Int32) ≤ v1)) → Q (some (.int 0)) (I, J, zR, 81)) : At 7 [] [some (.ref 46), some (.int v1), none, none, none, none] (I, J, zR, 81) := by
  subst e74 e46_37
  refine hC 7 [] [some (.ref 46), some (.int v1), none, none, none, none] _ ?_
  refine And.intro (fun q1 => ?_) (fun q1 => ?_)
  · skip
    refine hC 34 [] [some (.ref 46), some (.int v1), none, none, none, none] _ ?_
    refine And.intro (fun q2 => ?_) (fun q2 => ?_)
    · skip
      refine hC 40 [] [some (.ref 46), some (.int v1), none, none, none, none] _ ?_
      exact k1 q1 q2
    · skip
      exact And.intro (Or.inl rfl) (l1 q1 q2)
  · skip
    refine And.intro (zvp (b1 q1) rfl) ?_
    refine And.intro (zvp (b2 q1) rfl) ?_
    refine And.intro (fun q3 => ?_) (fun q3 => ?_)
    · skip
      refine hC 34 [] [some (.ref 46), some (.int v1), none, none, none, none] _ ?_
      refine And.intro (fun q4 => ?_) (fun q4 => ?_)
      · skip
        refine hC 40 [] [some (.ref 46), some (.int v1), none, none, none, none] _ ?_
        exact k2 q1 q3 q4
      · skip
        exact And.intro (Or.inl rfl) (l2 q1 q3 q4)
    · skip
      exact k3 q1 q3
theorem g_X10_nextRow_47 (d : Nat) (E : zE) (At : Nat → zC) (Q : Option Value → zM → Prop) (hE : ∀ y n a M' Q', zT (d + 0) y n a M' Q' → E y n a M' Q') (hC : ∀ pc st L M', zX 81 E Q At (zlk B_X10_nextRow pc) st L M' → At pc st L M') (I : Nat → Nat → Int32) (J : Nat → Nat → Int64) (v1 : Int32) (v2 : Int32) {f74 : Nat → Int32} (e74 : I 74 = f74) {s46_37 : Int32} (e46_37 : I 46 37 = s46_37) (b1 : 0 ≤ v2 ∧ v2 < 7) (b2 : 0 ≤ v1 ∧ v1 < 7) (b3 : ((f74 (v1 : Int32).toNatClampNeg) ≤ (f74 (v2 : Int32).toNatClampNeg)) → 0 ≤ v1 ∧ v1 < 7) (b4 : ((f74 (v1 : Int32).toNatClampNeg) ≤ (f74 (v2 : Int32).toNatClampNeg)) → 0 ≤ v2 ∧ v2 < 7) (b5 : ((f74 (v1 : Int32).toNatClampNeg) ≤ (f74 (v2 : Int32).toNatClampNeg)) → 0 ≤ v1 ∧ v1 < 7) (b6 : ((f74 (v1 : Int32).toNatClampNeg) ≤ (f74 (v2 : Int32).toNatClampNeg)) → 0 ≤ v2 ∧ v2 < 7) (k1 : ((f74 (v1 : Int32).toNatClampNeg) ≤ (f74 (v2 : Int32).toNatClampNeg)) → At 107 [] [some (.ref 46), some (.int v1), some (.int v2), some (.int (f74 (v1 : Int32).toNatClampNeg)), some (.int (v1 + 1)), some (.int (s46_37 - 1))] (zwI (zwI (I, J, zR, 81) 74 (v1 : Int32).toNatClampNeg (f74 (v2 : Int32).toNatClampNeg)) 74 (v2 : Int32).toNatClampNeg (f74 (v1 : Int32).toNatClampNeg))) (k2 : (¬ ((f74 (v1 : Int32).toNatClampNeg) ≤ (f74 (v2 : Int32).toNatClampNeg))) → At 47 [] [some (.ref 46), some (.int v1), some (.int (v2 + (-1))), none, none, none] (I, J, zR, 81)) : At 47 [] [some (.ref 46), some (.int v1), some (.int v2), none, none, none] (I, J, zR, 81) := by
  subst e74 e46_37
  refine hC 47 [] [some (.ref 46), some (.int v1), some (.int v2), none, none, none] _ ?_
  refine And.intro (zvp (b1) rfl) ?_
  refine And.intro (zvp (b2) rfl) ?_
  refine And.intro (fun q1 => ?_) (fun q1 => ?_)
  · skip
    refine hC 68 [] [some (.ref 46), some (.int v1), some (.int v2), none, none, none] _ ?_
    refine And.intro (zvp (b3 q1) rfl) ?_
    refine And.intro (zvp (b4 q1) rfl) ?_
    refine And.intro (zvp (b5 q1) rfl) ?_
    refine And.intro (zvp (b6 q1) rfl) ?_
    exact k1 q1
  · skip
    exact k2 q1
theorem g_X10_nextRow_107 (d : Nat) (E : zE) (At : Nat → zC) (Q : Option Value → zM → Prop) (hE : ∀ y n a M' Q', zT (d + 0) y n a M' Q' → E y n a M' Q') (hC : ∀ pc st L M', zX 81 E Q At (zlk B_X10_nextRow pc) st L M' → At pc st L M') (I : Nat → Nat → Int32) (J : Nat → Nat → Int64) (v1 : Int32) (v2 : Int32) (v3 : Int32) (v4 : Int32) (v5 : Int32) {f74 : Nat → Int32} (e74 : I 74 = f74) (b1 : (¬ (v5 ≤ v4)) → 0 ≤ v4 ∧ v4 < 7) (b2 : (¬ (v5 ≤ v4)) → 0 ≤ v5 ∧ v5 < 7) (b3 : (¬ (v5 ≤ v4)) → 0 ≤ v4 ∧ v4 < 7) (b4 : (¬ (v5 ≤ v4)) → 0 ≤ v5 ∧ v5 < 7) (k1 : (¬ (v5 ≤ v4)) → At 107 [] [some (.ref 46), some (.int v1), some (.int v2), some (.int (f74 (v4 : Int32).toNatClampNeg)), some (.int (v4 + 1)), some (.int (v5 + (-1)))] (zwI (zwI (I, J, zR, 81) 74 (v4 : Int32).toNatClampNeg (f74 (v5 : Int32).toNatClampNeg)) 74 (v5 : Int32).toNatClampNeg (f74 (v4 : Int32).toNatClampNeg))) (l1 : (v5 ≤ v4) → Q (some (.int 1)) (I, J, zR, 81)) : At 107 [] [some (.ref 46), some (.int v1), some (.int v2), some (.int v3), some (.int v4), some (.int v5)] (I, J, zR, 81) := by
  subst e74
  refine hC 107 [] [some (.ref 46), some (.int v1), some (.int v2), some (.int v3), some (.int v4), some (.int v5)] _ ?_
  refine And.intro (fun q1 => ?_) (fun q1 => ?_)
  · skip
    refine hC 153 [] [some (.ref 46), some (.int v1), some (.int v2), some (.int v3), some (.int v4), some (.int v5)] _ ?_
    exact And.intro (Or.inr rfl) (l1 q1)
  · skip
    refine And.intro (zvp (b1 q1) rfl) ?_
    refine And.intro (zvp (b2 q1) rfl) ?_
    refine And.intro (zvp (b3 q1) rfl) ?_
    refine And.intro (zvp (b4 q1) rfl) ?_
    exact k1 q1
theorem g_X5_keepIfBetter_0 (d : Nat) (E : zE) (At : Nat → zC) (Q : Option Value → zM → Prop) (hE : ∀ y n a M' Q', zT (d + 0) y n a M' Q' → E y n a M' Q') (hC : ∀ pc st L M', zX 81 E Q At (zlk B_X5_keepIfBetter pc) st L M' → At pc st L M') (I : Nat → Nat → Int32) (J : Nat → Nat → Int64) (v1 : Int32) (v2 : Int32) {s35_2 : Int32} (e35_2 : I 35 2 = s35_2) {s35_9 : Int32} (e35_9 : I 35 9 = s35_9) (k1 : (v2 < s35_2) → At 36 [] [some (.ref 35), some (.int v1), some (.int v2), some (.int 0)] (zwI (zwI (I, J, zR, 81) 35 2 v2) 35 9 v1)) (k2 : (¬ (v2 < s35_2)) → (v2 = s35_2) → (¬ (s35_9 ≤ v1)) → At 36 [] [some (.ref 35), some (.int v1), some (.int v2), some (.int 0)] (zwI (zwI (I, J, zR, 81) 35 2 v2) 35 9 v1)) (l1 : (¬ (v2 < s35_2)) → (¬ (v2 = s35_2)) → Q none (I, J, zR, 81)) (l2 : (¬ (v2 < s35_2)) → (v2 = s35_2) → (s35_9 ≤ v1) → Q none (I, J, zR, 81)) : At 0 [] [some (.ref 35), some (.int v1), some (.int v2), none] (I, J, zR, 81) := by
  subst e35_2 e35_9
  refine hC 0 [] [some (.ref 35), some (.int v1), some (.int v2), none] _ ?_
  refine And.intro (fun q1 => ?_) (fun q1 => ?_)
  · skip
    refine hC 24 [] [some (.ref 35), some (.int v1), some (.int v2), none] _ ?_
    exact k1 q1
  · skip
    refine And.intro (fun q2 => ?_) (fun q2 => ?_)
    · skip
      refine hC 62 [] [some (.ref 35), some (.int v1), some (.int v2), none] _ ?_
      exact l1 q1 q2
    · skip
      refine And.intro (fun q3 => ?_) (fun q3 => ?_)
      · skip
        refine hC 62 [] [some (.ref 35), some (.int v1), some (.int v2), none] _ ?_
        exact l2 q1 q2 q3
      · skip
        refine hC 24 [] [some (.ref 35), some (.int v1), some (.int v2), none] _ ?_
        exact k2 q1 q2 q3
theorem g_X5_keepIfBetter_36 (d : Nat) (E : zE) (At : Nat → zC) (Q : Option Value → zM → Prop) (hE : ∀ y n a M' Q', zT (d + 0) y n a M' Q' → E y n a M' Q') (hC : ∀ pc st L M', zX 81 E Q At (zlk B_X5_keepIfBetter pc) st L M' → At pc st L M') (I : Nat → Nat → Int32) (J : Nat → Nat → Int64) (v1 : Int32) (v2 : Int32) (v3 : Int32) {f40 : Nat → Int32} (e40 : I 40 = f40) {s35_1 : Int32} (e35_1 : I 35 1 = s35_1) (b1 : (¬ (s35_1 ≤ v3)) → 0 ≤ v3 ∧ v3 < 7) (b2 : (¬ (s35_1 ≤ v3)) → 0 ≤ v3 ∧ v3 < 7) (k1 : (¬ (s35_1 ≤ v3)) → At 36 [] [some (.ref 35), some (.int v1), some (.int v2), some (.int (v3 + 1))] (zwI (I, J, zR, 81) 36 (v3 : Int32).toNatClampNeg (f40 (v3 : Int32).toNatClampNeg))) (l1 : (s35_1 ≤ v3) → Q none (I, J, zR, 81)) : At 36 [] [some (.ref 35), some (.int v1), some (.int v2), some (.int v3)] (I, J, zR, 81) := by
  subst e40 e35_1
  refine hC 36 [] [some (.ref 35), some (.int v1), some (.int v2), some (.int v3)] _ ?_
  refine And.intro (fun q1 => ?_) (fun q1 => ?_)
  · skip
    refine hC 62 [] [some (.ref 35), some (.int v1), some (.int v2), some (.int v3)] _ ?_
    exact l1 q1
  · skip
    refine And.intro (zvp (b1 q1) rfl) ?_
    refine And.intro (zvp (b2 q1) rfl) ?_
    exact k1 q1
theorem g_X3_serve_0 (d : Nat) (E : zE) (At : Nat → zC) (Q : Option Value → zM → Prop) (hE : ∀ y n a M' Q', zT (d + 0) y n a M' Q' → E y n a M' Q') (hC : ∀ pc st L M', zX 81 E Q At (zlk B_X3_serve pc) st L M' → At pc st L M') (I : Nat → Nat → Int32) (J : Nat → Nat → Int64) (v1 : Int32) (k1 : At 2 [] [some (.ref 6), some (.int v1), some (.ref 19), some (.int 0)] (I, J, zR, 81)) : At 0 [] [some (.ref 6), some (.int v1), some (.ref 19), none] (I, J, zR, 81) := by
  refine hC 0 [] [some (.ref 6), some (.int v1), some (.ref 19), none] _ ?_
  exact k1
theorem g_X3_serve_2 (d : Nat) (E : zE) (At : Nat → zC) (Q : Option Value → zM → Prop) (hE : ∀ y n a M' Q', zT (d + 0) y n a M' Q' → E y n a M' Q') (hC : ∀ pc st L M', zX 81 E Q At (zlk B_X3_serve pc) st L M' → At pc st L M') (I : Nat → Nat → Int32) (J : Nat → Nat → Int64) (v1 : Int32) (v3 : Int32) {f19 : Nat → Int32} (e19 : I 19 = f19) {f9 : Nat → Int32} (e9 : I 9 = f9) (b1 : (¬ ((3 : Int32) ≤ v3)) → 0 ≤ ((v1 * 3) + v3) ∧ ((v1 * 3) + v3) < 24) (b2 : (¬ ((3 : Int32) ≤ v3)) → 0 ≤ v3 ∧ v3 < 3) (b3 : (¬ ((3 : Int32) ≤ v3)) → 0 ≤ ((v1 * 3) + v3) ∧ ((v1 * 3) + v3) < 24) (k1 : (¬ ((3 : Int32) ≤ v3)) → At 2 [] [some (.ref 6), some (.int v1), some (.ref 19), some (.int (v3 + 1))] (zwI (I, J, zR, 81) 9 (((v1 * 3) + v3) : Int32).toNatClampNeg ((f9 (((v1 * 3) + v3) : Int32).toNatClampNeg) - (f19 (v3 : Int32).toNatClampNeg)))) (l1 : ((3 : Int32) ≤ v3) → Q none (I, J, zR, 81)) : At 2 [] [some (.ref 6), some (.int v1), some (.ref 19), some (.int v3)] (I, J, zR, 81) := by
  subst e19 e9
  refine hC 2 [] [some (.ref 6), some (.int v1), some (.ref 19), some (.int v3)] _ ?_
  refine And.intro (fun q1 => ?_) (fun q1 => ?_)
  · skip
    refine hC 29 [] [some (.ref 6), some (.int v1), some (.ref 19), some (.int v3)] _ ?_
    exact l1 q1
  · skip
    refine And.intro (zvp (b1 q1) rfl) ?_
    refine And.intro (zvp (b2 q1) rfl) ?_
    refine And.intro (zvp (b3 q1) rfl) ?_
    exact k1 q1
theorem g_X4_load_0 (d : Nat) (E : zE) (At : Nat → zC) (Q : Option Value → zM → Prop) (hE : ∀ y n a M' Q', zT (d + 0) y n a M' Q' → E y n a M' Q') (hC : ∀ pc st L M', zX 81 E Q At (zlk B_X4_load pc) st L M' → At pc st L M') (I : Nat → Nat → Int32) (J : Nat → Nat → Int64) (v2 : Int32) (k1 : At 2 [] [some (.ref 18), some (.ref 6), some (.int v2), some (.int 0), none, none] (I, J, zR, 81)) : At 0 [] [some (.ref 18), some (.ref 6), some (.int v2), none, none, none] (I, J, zR, 81) := by
  refine hC 0 [] [some (.ref 18), some (.ref 6), some (.int v2), none, none, none] _ ?_
  exact k1
theorem g_X4_load_2 (d : Nat) (E : zE) (At : Nat → zC) (Q : Option Value → zM → Prop) (hE : ∀ y n a M' Q', zT (d + 1) y n a M' Q' → E y n a M' Q') (hC : ∀ pc st L M', zX 81 E Q At (zlk B_X4_load pc) st L M' → At pc st L M') (I : Nat → Nat → Int32) (J : Nat → Nat → Int64) (v2 : Int32) (v3 : Int32) {f7 : Nat → Int32} (e7 : I 7 = f7) {f8 : Nat → Int32} (e8 : I 8 = f8) {f9 : Nat → Int32} (e9 : I 9 = f9) (b1 : (¬ ((3 : Int32) ≤ v3)) → 0 ≤ v2 ∧ v2 < 8) (b2 : (¬ ((3 : Int32) ≤ v3)) → ((f7 (v2 : Int32).toNatClampNeg) ≤ v3) → 0 ≤ v3 ∧ v3 < 3) (b3 : (¬ ((3 : Int32) ≤ v3)) → ((f7 (v2 : Int32).toNatClampNeg) ≤ v3) → 0 ≤ v3 ∧ v3 < 3) (b4 : (¬ ((3 : Int32) ≤ v3)) → (¬ ((f7 (v2 : Int32).toNatClampNeg) ≤ v3)) → 0 ≤ ((v2 * 3) + v3) ∧ ((v2 * 3) + v3) < 24) (b5 : (¬ ((3 : Int32) ≤ v3)) → (¬ ((f7 (v2 : Int32).toNatClampNeg) ≤ v3)) → 0 ≤ v3 ∧ v3 < 3) (b6 : (¬ ((3 : Int32) ≤ v3)) → (¬ ((f7 (v2 : Int32).toNatClampNeg) ≤ v3)) → 0 ≤ ((v2 * 3) + v3) ∧ ((v2 * 3) + v3) < 24) (b7 : (¬ ((3 : Int32) ≤ v3)) → (¬ ((f7 (v2 : Int32).toNatClampNeg) ≤ v3)) → 0 ≤ v3 ∧ v3 < 3) (k1 : (¬ ((3 : Int32) ≤ v3)) → ((f7 (v2 : Int32).toNatClampNeg) ≤ v3) → At 2 [] [some (.ref 18), some (.ref 6), some (.int v2), some (.int (v3 + 1)), some (.int 0), some (.int ((v2 * 3) + v3))] (zwI (zwI (I, J, zR, 81) 20 (v3 : Int32).toNatClampNeg 0) 21 (v3 : Int32).toNatClampNeg 0)) (k2 : (¬ ((3 : Int32) ≤ v3)) → (¬ ((f7 (v2 : Int32).toNatClampNeg) ≤ v3)) → At 2 [] [some (.ref 18), some (.ref 6), some (.int v2), some (.int (v3 + 1)), some (.int 1), some (.int ((v2 * 3) + v3))] (zwI (zwI (I, J, zR, 81) 20 (v3 : Int32).toNatClampNeg (f8 (((v2 * 3) + v3) : Int32).toNatClampNeg)) 21 (v3 : Int32).toNatClampNeg (if (f9 (((v2 * 3) + v3) : Int32).toNatClampNeg) < 60 then (f9 (((v2 * 3) + v3) : Int32).toNatClampNeg) else 60))) (l1 : ((3 : Int32) ≤ v3) → Q none (I, J, zR, 81)) : At 2 [] [some (.ref 18), some (.ref 6), some (.int v2), some (.int v3), none, none] (I, J, zR, 81) := by
  subst e7 e8 e9
  refine hC 2 [] [some (.ref 18), some (.ref 6), some (.int v2), some (.int v3), none, none] _ ?_
  refine And.intro (fun q1 => ?_) (fun q1 => ?_)
  · skip
    refine hC 86 [] [some (.ref 18), some (.ref 6), some (.int v2), some (.int v3), none, none] _ ?_
    exact l1 q1
  · skip
    refine And.intro (zvp (b1 q1) rfl) ?_
    refine And.intro (fun q2 => ?_) (fun q2 => ?_)
    · skip
      refine hC 21 [] [some (.ref 18), some (.ref 6), some (.int v2), some (.int v3), none, none] _ ?_
      refine hC 22 [.int 0] [some (.ref 18), some (.ref 6), some (.int v2), some (.int v3), none, none] _ ?_
      refine And.intro (fun _ => ?_) (fun qz => absurd qz (by decide))
      refine hC 51 [.int v3, .ref 20] [some (.ref 18), some (.ref 6), some (.int v2), some (.int v3), some (.int 0), some (.int ((v2 * 3) + v3))] _ ?_
      refine hC 52 [.int 0, .int v3, .ref 20] [some (.ref 18), some (.ref 6), some (.int v2), some (.int v3), some (.int 0), some (.int ((v2 * 3) + v3))] _ ?_
      refine And.intro (zvp (b2 q1 q2) rfl) ?_
      refine And.intro (fun _ => ?_) (fun qz => absurd qz (by decide))
      refine hC 78 [.int v3, .ref 21] [some (.ref 18), some (.ref 6), some (.int v2), some (.int v3), some (.int 0), some (.int ((v2 * 3) + v3))] _ ?_
      refine hC 79 [.int 0, .int v3, .ref 21] [some (.ref 18), some (.ref 6), some (.int v2), some (.int v3), some (.int 0), some (.int ((v2 * 3) + v3))] _ ?_
      refine And.intro (zvp (b3 q1 q2) rfl) ?_
      exact k1 q1 q2
    · skip
      refine hC 22 [.int 1] [some (.ref 18), some (.ref 6), some (.int v2), some (.int v3), none, none] _ ?_
      refine And.intro (fun qz => absurd qz (by decide)) (fun _ => ?_)
      refine And.intro (zvp (b4 q1 q2) rfl) ?_
      refine hC 52 [.int (I 8 (((v2 * 3) + v3) : Int32).toNatClampNeg), .int v3, .ref 20] [some (.ref 18), some (.ref 6), some (.int v2), some (.int v3), some (.int 1), some (.int ((v2 * 3) + v3))] _ ?_
      refine And.intro (zvp (b5 q1 q2) rfl) ?_
      refine And.intro (fun qz => absurd qz (by decide)) (fun _ => ?_)
      refine And.intro (zvp (b6 q1 q2) rfl) ?_
      refine hE _ _ _ _ _ (w_min _ _ _ (60) _ _   (?_))
      · skip
        refine hC 79 [.int (if (I 9 (((v2 * 3) + v3) : Int32).toNatClampNeg) < 60 then (I 9 (((v2 * 3) + v3) : Int32).toNatClampNeg) else 60), .int v3, .ref 21] [some (.ref 18), some (.ref 6), some (.int v2), some (.int v3), some (.int 1), some (.int ((v2 * 3) + v3))] _ ?_
        refine And.intro (zvp (b7 q1 q2) rfl) ?_
        exact k2 q1 q2
theorem g_X10_drift_0 (d : Nat) (E : zE) (At : Nat → zC) (Q : Option Value → zM → Prop) (hE : ∀ y n a M' Q', zT (d + 2) y n a M' Q' → E y n a M' Q') (hC : ∀ pc st L M', zX 81 E Q At (zlk B_X10_drift pc) st L M' → At pc st L M') (I : Nat → Nat → Int32) (J : Nat → Nat → Int64) (v1 : Int32) (v2 : Int32) {s46_13 : Int32} (e46_13 : I 46 13 = s46_13) (k1 : (((0 : Int32) ≤ v1 ∧ v1 ≤ (s46_13 - 1))) → (((0 : Int32) ≤ v2 ∧ v2 ≤ (s46_13 - 1))) → (v1 ≤ v2) → At 32 [] [some (.ref 46), some (.int v1), some (.int v2), some (.int 0), some (.int 0), some (.int v1), none] (I, J, zR, 81)) (l1 : (((0 : Int32) ≤ v1 ∧ v1 ≤ (s46_13 - 1))) → (((0 : Int32) ≤ v2 ∧ v2 ≤ (s46_13 - 1))) → (¬ (v1 ≤ v2)) → Q (some (.int (-100000))) (I, J, zR, 81)) (l2 : (((0 : Int32) ≤ v1 ∧ v1 ≤ (s46_13 - 1))) → (¬ (((0 : Int32) ≤ v2 ∧ v2 ≤ (s46_13 - 1)))) → Q (some (.int (-100000))) (I, J, zR, 81)) (l3 : (¬ (((0 : Int32) ≤ v1 ∧ v1 ≤ (s46_13 - 1)))) → Q (some (.int (-100000))) (I, J, zR, 81)) : At 0 [] [some (.ref 46), some (.int v1), some (.int v2), none, none, none, none] (I, J, zR, 81) := by
  subst e46_13
  refine hC 0 [] [some (.ref 46), some (.int v1), some (.int v2), none, none, none, none] _ ?_
  refine hE _ _ _ _ _ (w_X10_isBar _ _ _ _ _ rfl  (fun q1 => ?_) (fun q2 => ?_))
  · skip
    refine And.intro (fun qz => absurd qz (by decide)) (fun _ => ?_)
    refine hE _ _ _ _ _ (w_X10_isBar _ _ _ _ _ rfl  (fun q3 => ?_) (fun q4 => ?_))
    · skip
      refine And.intro (fun qz => absurd qz (by decide)) (fun _ => ?_)
      refine And.intro (fun q5 => ?_) (fun q5 => ?_)
      · skip
        refine hC 24 [] [some (.ref 46), some (.int v1), some (.int v2), none, none, none, none] _ ?_
        exact k1 q1 q3 q5
      · skip
        refine hC 21 [] [some (.ref 46), some (.int v1), some (.int v2), none, none, none, none] _ ?_
        exact l1 q1 q3 q5
    · skip
      refine And.intro (fun _ => ?_) (fun qz => absurd qz (by decide))
      refine hC 21 [] [some (.ref 46), some (.int v1), some (.int v2), none, none, none, none] _ ?_
      exact l2 q1 q4
  · skip
    refine And.intro (fun _ => ?_) (fun qz => absurd qz (by decide))
    refine hC 21 [] [some (.ref 46), some (.int v1), some (.int v2), none, none, none, none] _ ?_
    exact l3 q2
theorem g_X10_drift_32 (d : Nat) (E : zE) (At : Nat → zC) (Q : Option Value → zM → Prop) (hE : ∀ y n a M' Q', zT (d + 1) y n a M' Q' → E y n a M' Q') (hC : ∀ pc st L M', zX 81 E Q At (zlk B_X10_drift pc) st L M' → At pc st L M') (I : Nat → Nat → Int32) (J : Nat → Nat → Int64) (v1 : Int32) (v2 : Int32) (v3 : Int32) (v4 : Int32) (v5 : Int32) {f51 : Nat → Int32} (e51 : I 51 = f51) {f52 : Nat → Int32} (e52 : I 52 = f52) {f57 : Nat → Int32} (e57 : I 57 = f57) {f77 : Nat → Int32} (e77 : I 77 = f77) {f78 : Nat → Int32} (e78 : I 78 = f78) {f79 : Nat → Int32} (e79 : I 79 = f79) (b1 : (¬ (v2 < v5)) → (¬ ((f77 (0 : Int32).toNatClampNeg) < 0)) → (v5 < (f78 (0 : Int32).toNatClampNeg)) → 0 ≤ v5 ∧ v5 < 800) (b2 : (¬ (v2 < v5)) → (¬ ((f77 (0 : Int32).toNatClampNeg) < 0)) → (v5 < (f78 (0 : Int32).toNatClampNeg)) → (((1 : Int32) ≤ (f79 (v5 : Int32).toNatClampNeg) ∧ (f79 (v5 : Int32).toNatClampNeg) ≤ 20000)) → 0 ≤ v5 ∧ v5 < 200) (b3 : (¬ (v2 < v5)) → (¬ ((f77 (0 : Int32).toNatClampNeg) < 0)) → (v5 < (f78 (0 : Int32).toNatClampNeg)) → (((1 : Int32) ≤ (f79 (v5 : Int32).toNatClampNeg) ∧ (f79 (v5 : Int32).toNatClampNeg) ≤ 20000)) → 0 ≤ (f57 (v5 : Int32).toNatClampNeg) ∧ (f57 (v5 : Int32).toNatClampNeg) < 12) (b4 : (¬ (v2 < v5)) → (¬ ((f77 (0 : Int32).toNatClampNeg) < 0)) → (v5 < (f78 (0 : Int32).toNatClampNeg)) → (((1 : Int32) ≤ (f79 (v5 : Int32).toNatClampNeg) ∧ (f79 (v5 : Int32).toNatClampNeg) ≤ 20000)) → 0 ≤ (f52 ((f57 (v5 : Int32).toNatClampNeg) : Int32).toNatClampNeg) ∧ (f52 ((f57 (v5 : Int32).toNatClampNeg) : Int32).toNatClampNeg) < 8) (z1 : (v2 < v5) → (¬ (v4 = 0)) → ¬ v4 = 0) (k1 : (¬ (v2 < v5)) → ((f77 (0 : Int32).toNatClampNeg) < 0) → At 32 [] [some (.ref 46), some (.int v1), some (.int v2), some (.int v3), some (.int v4), some (.int (v5 + 1)), some (.int (-1))] (I, J, zR, 81)) (k2 : (¬ (v2 < v5)) → (¬ ((f77 (0 : Int32).toNatClampNeg) < 0)) → (v5 < (f78 (0 : Int32).toNatClampNeg)) → (((1 : Int32) ≤ (f79 (v5 : Int32).toNatClampNeg) ∧ (f79 (v5 : Int32).toNatClampNeg) ≤ 20000)) → At 32 [] [some (.ref 46), some (.int v1), some (.int v2), some (.int (v3 + ((f79 (v5 : Int32).toNatClampNeg) - (f51 ((f52 ((f57 (v5 : Int32).toNatClampNeg) : Int32).toNatClampNeg) : Int32).toNatClampNeg)))), some (.int (v4 + 1)), some (.int (v5 + 1)), some (.int (f79 (v5 : Int32).toNatClampNeg))] (I, J, zR, 81)) (k3 : (¬ (v2 < v5)) → (¬ ((f77 (0 : Int32).toNatClampNeg) < 0)) → (v5 < (f78 (0 : Int32).toNatClampNeg)) → (¬ (((1 : Int32) ≤ (f79 (v5 : Int32).toNatClampNeg) ∧ (f79 (v5 : Int32).toNatClampNeg) ≤ 20000))) → At 32 [] [some (.ref 46), some (.int v1), some (.int v2), some (.int v3), some (.int v4), some (.int (v5 + 1)), some (.int (f79 (v5 : Int32).toNatClampNeg))] (I, J, zR, 81)) (k4 : (¬ (v2 < v5)) → (¬ ((f77 (0 : Int32).toNatClampNeg) < 0)) → (¬ (v5 < (f78 (0 : Int32).toNatClampNeg))) → At 32 [] [some (.ref 46), some (.int v1), some (.int v2), some (.int v3), some (.int v4), some (.int (v5 + 1)), some (.int (-1))] (I, J, zR, 81)) (l1 : (v2 < v5) → (¬ (v4 = 0)) → (((v3 / v4) * v4) ≤ v3) → Q (some (.int (v3 / v4))) (I, J, zR, 81)) (l2 : (v2 < v5) → (¬ (v4 = 0)) → (¬ (((v3 / v4) * v4) ≤ v3)) → Q (some (.int ((v3 / v4) - 1))) (I, J, zR, 81)) (l3 : (v2 < v5) → (v4 = 0) → Q (some (.int (-100001))) (I, J, zR, 81)) : At 32 [] [some (.ref 46), some (.int v1), some (.int v2), some (.int v3), some (.int v4), some (.int v5), none] (I, J, zR, 81) := by
  subst e51 e52 e57 e77 e78 e79
  refine hC 32 [] [some (.ref 46), some (.int v1), some (.int v2), some (.int v3), some (.int v4), some (.int v5), none] _ ?_
  refine And.intro (fun q1 => ?_) (fun q1 => ?_)
  · skip
    refine hC 116 [] [some (.ref 46), some (.int v1), some (.int v2), some (.int v3), some (.int v4), some (.int v5), none] _ ?_
    refine And.intro (fun q2 => ?_) (fun q2 => ?_)
    · skip
      refine hC 125 [] [some (.ref 46), some (.int v1), some (.int v2), some (.int v3), some (.int v4), some (.int v5), none] _ ?_
      refine And.intro (z1 q1 q2) ?_
      refine And.intro (fun q3 => ?_) (fun q3 => ?_)
      · skip
        refine hC 147 [] [some (.ref 46), some (.int v1), some (.int v2), some (.int v3), some (.int v4), some (.int (v3 / v4)), none] _ ?_
        refine hC 149 [.int (v3 / v4)] [some (.ref 46), some (.int v1), some (.int v2), some (.int v3), some (.int v4), some (.int (v3 / v4)), none] _ ?_
        exact l1 q1 q2 q3
      · skip
        refine hC 149 [.int ((v3 / v4) - 1)] [some (.ref 46), some (.int v1), some (.int v2), some (.int v3), some (.int v4), some (.int (v3 / v4)), none] _ ?_
        exact l2 q1 q2 q3
    · skip
      exact l3 q1 q2
  · skip
    refine And.intro zvl_0_4 ?_
    refine And.intro (fun q4 => ?_) (fun q4 => ?_)
    · skip
      refine hC 58 [] [some (.ref 46), some (.int v1), some (.int v2), some (.int v3), some (.int v4), some (.int v5), none] _ ?_
      refine hC 69 [.int (-1)] [some (.ref 46), some (.int v1), some (.int v2), some (.int v3), some (.int v4), some (.int v5), none] _ ?_
      refine hE _ _ _ _ _ (w_in32 _ _ _ ((-1)) (1) (20000) _   (fun q5 => ?_) (fun q6 => ?_))
      · skip
        exact absurd q5 (by decide)
      · skip
        refine And.intro (fun _ => ?_) (fun qz => absurd qz (by decide))
        refine hC 110 [] [some (.ref 46), some (.int v1), some (.int v2), some (.int v3), some (.int v4), some (.int v5), some (.int (-1))] _ ?_
        exact k1 q1 q4
    · skip
      refine And.intro zvl_0_4 ?_
      refine And.intro (fun q7 => ?_) (fun q7 => ?_)
      · skip
        refine hC 62 [] [some (.ref 46), some (.int v1), some (.int v2), some (.int v3), some (.int v4), some (.int v5), none] _ ?_
        refine And.intro (zvp (b1 q1 q4 q7) rfl) ?_
        refine hC 69 [.int (I 79 (v5 : Int32).toNatClampNeg)] [some (.ref 46), some (.int v1), some (.int v2), some (.int v3), some (.int v4), some (.int v5), none] _ ?_
        refine hE _ _ _ _ _ (w_in32 _ _ _ ((I 79 (v5 : Int32).toNatClampNeg)) (1) (20000) _   (fun q8 => ?_) (fun q9 => ?_))
        · skip
          refine And.intro (fun qz => absurd qz (by decide)) (fun _ => ?_)
          refine And.intro (zvp (b2 q1 q4 q7 q8) rfl) ?_
          refine And.intro (zvp (b3 q1 q4 q7 q8) rfl) ?_
          refine And.intro (zvp (b4 q1 q4 q7 q8) rfl) ?_
          refine hC 110 [] [some (.ref 46), some (.int v1), some (.int v2), some (.int (v3 + ((I 79 (v5 : Int32).toNatClampNeg) - (I 51 ((I 52 ((I 57 (v5 : Int32).toNatClampNeg) : Int32).toNatClampNeg) : Int32).toNatClampNeg)))), some (.int (v4 + 1)), some (.int v5), some (.int (I 79 (v5 : Int32).toNatClampNeg))] _ ?_
          exact k2 q1 q4 q7 q8
        · skip
          refine And.intro (fun _ => ?_) (fun qz => absurd qz (by decide))
          refine hC 110 [] [some (.ref 46), some (.int v1), some (.int v2), some (.int v3), some (.int v4), some (.int v5), some (.int (I 79 (v5 : Int32).toNatClampNeg))] _ ?_
          exact k3 q1 q4 q7 q9
      · skip
        refine hC 58 [] [some (.ref 46), some (.int v1), some (.int v2), some (.int v3), some (.int v4), some (.int v5), none] _ ?_
        refine hC 69 [.int (-1)] [some (.ref 46), some (.int v1), some (.int v2), some (.int v3), some (.int v4), some (.int v5), none] _ ?_
        refine hE _ _ _ _ _ (w_in32 _ _ _ ((-1)) (1) (20000) _   (fun q10 => ?_) (fun q11 => ?_))
        · skip
          exact absurd q10 (by decide)
        · skip
          refine And.intro (fun _ => ?_) (fun qz => absurd qz (by decide))
          refine hC 110 [] [some (.ref 46), some (.int v1), some (.int v2), some (.int v3), some (.int v4), some (.int v5), some (.int (-1))] _ ?_
          exact k4 q1 q4 q7
