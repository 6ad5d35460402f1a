theorem g_X10_waiting_8 (d : Nat) (E : zE) (At : Nat → zC) (Q : Option Value → zM → Prop) (hE : ∀ y n a M' Q', zT (d + 1) y n a M' Q' → E y n a M' Q') (hC : ∀ pc st L M', zX 81 E Q At (zlk B_X10_waiting pc) st L M' → At pc st L M') (I : Nat → Nat → Int32) (J : Nat → Nat → Int64) (v1 : Int32) (v2 : Int32) {f60 : Nat → Int32} (e60 : I 60 = f60) {f63 : Nat → Int32} (e63 : I 63 = f63) {f76 : Nat → Int32} (e76 : I 76 = f76) {s46_13 : Int32} (e46_13 : I 46 13 = s46_13) (b1 : (¬ (s46_13 ≤ v2)) → 0 ≤ v2 ∧ v2 < 200) (b2 : (¬ (s46_13 ≤ v2)) → ((f63 (v2 : Int32).toNatClampNeg) = (-1)) → 0 ≤ v2 ∧ v2 < 200) (b3 : (¬ (s46_13 ≤ v2)) → ((f63 (v2 : Int32).toNatClampNeg) = (-1)) → (¬ ((f60 (v2 : Int32).toNatClampNeg) ≤ 0)) → 0 ≤ v2 ∧ v2 < 200) (k1 : (¬ (s46_13 ≤ v2)) → (¬ ((f63 (v2 : Int32).toNatClampNeg) = (-1))) → At 8 [] [some (.ref 46), some (.int (v1 + 0)), some (.int (v2 + 1))] (I, J, zR, 81)) (k2 : (¬ (s46_13 ≤ v2)) → ((f63 (v2 : Int32).toNatClampNeg) = (-1)) → ((f60 (v2 : Int32).toNatClampNeg) ≤ 0) → At 8 [] [some (.ref 46), some (.int (v1 + 0)), some (.int (v2 + 1))] (I, J, zR, 81)) (k3 : (¬ (s46_13 ≤ v2)) → ((f63 (v2 : Int32).toNatClampNeg) = (-1)) → (¬ ((f60 (v2 : Int32).toNatClampNeg) ≤ 0)) → (¬ ((f76 (v2 : Int32).toNatClampNeg) = 0)) → At 8 [] [some (.ref 46), some (.int (v1 + 0)), some (.int (v2 + 1))] (I, J, zR, 81)) (k4 : (¬ (s46_13 ≤ v2)) → ((f63 (v2 : Int32).toNatClampNeg) = (-1)) → (¬ ((f60 (v2 : Int32).toNatClampNeg) ≤ 0)) → ((f76 (v2 : Int32).toNatClampNeg) = 0) → At 8 [] [some (.ref 46), some (.int (v1 + 1)), some (.int (v2 + 1))] (I, J, zR, 81)) (l1 : (s46_13 ≤ v2) → Q (some (.int v1)) (I, J, zR, 81)) : At 8 [] [some (.ref 46), some (.int v1), some (.int v2)] (I, J, zR, 81) := by
  subst e60 e63 e76 e46_13
  refine hC 8 [] [some (.ref 46), some (.int v1), some (.int v2)] _ ?_
  refine And.intro (fun q1 => ?_) (fun q1 => ?_)
  · skip
    refine hC 38 [] [some (.ref 46), some (.int v1), some (.int v2)] _ ?_
    exact l1 q1
  · skip
    refine hE _ _ _ _ _ (w_X10_waits _ _ _ _ _ rfl rfl rfl (b1 q1) (fun x0 => b2 q1 x0) (fun x0 x1 => b3 q1 x0 x1) (fun q2 => ?_) (fun q3 q4 => ?_) (fun q5 q6 q7 => ?_) (fun q8 q9 q10 => ?_))
    · skip
      refine And.intro (fun _ => ?_) (fun qz => absurd qz (by decide))
      refine hC 29 [.int v1] [some (.ref 46), some (.int v1), some (.int v2)] _ ?_
      refine hC 30 [.int 0, .int v1] [some (.ref 46), some (.int v1), some (.int v2)] _ ?_
      exact k1 q1 q2
    · skip
      refine And.intro (fun _ => ?_) (fun qz => absurd qz (by decide))
      refine hC 29 [.int v1] [some (.ref 46), some (.int v1), some (.int v2)] _ ?_
      refine hC 30 [.int 0, .int v1] [some (.ref 46), some (.int v1), some (.int v2)] _ ?_
      exact k2 q1 q3 q4
    · skip
      refine And.intro (fun _ => ?_) (fun qz => absurd qz (by decide))
      refine hC 29 [.int v1] [some (.ref 46), some (.int v1), some (.int v2)] _ ?_
      refine hC 30 [.int 0, .int v1] [some (.ref 46), some (.int v1), some (.int v2)] _ ?_
      exact k3 q1 q5 q6 q7
    · skip
      refine And.intro (fun qz => absurd qz (by decide)) (fun _ => ?_)
      refine hC 30 [.int 1, .int v1] [some (.ref 46), some (.int v1), some (.int v2)] _ ?_
      exact k4 q1 q8 q9 q10
