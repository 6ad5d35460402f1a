theorem zvl_1_4 : vp_in 1 4 := by rw [vp_in_iff]; decide
theorem zvl_2_4 : vp_in 2 4 := by rw [vp_in_iff]; decide
theorem zvl_3_4 : vp_in 3 4 := by rw [vp_in_iff]; decide
theorem ip_X6_init_0 (E : zE) (At : Nat → zC) (Q : Option Value → zM → Prop) (I : Nat → Nat → Int32) (J : Nat → Nat → Int64) (R : Nat → Nat → Option Nat) (c : Nat → Int32) (r : Nat → Option Nat) (ec : I 1 = c) (er : R 1 = r) (h : zX 6 E Q At (List.drop 14 (zlk B_X6_init 0)) [] [some (.ref 1)] ((va_up (va_up (va_up I 2 (fun _ => 0)) 3 (fun _ => 0)) 4 (fun _ => 0)), (va_up (va_up (va_up J 2 (fun _ => 0)) 3 (fun _ => 0)) 4 (fun _ => 0)), (va_up (va_up (va_up (va_up (va_up (va_up R 2 (fun _ => none)) 1 (va_up r 0 (some 2))) 3 (fun _ => none)) 1 (va_up (va_up r 0 (some 2)) 1 (some 3))) 4 (fun _ => none)) 1 (va_up (va_up (va_up r 0 (some 2)) 1 (some 3)) 2 (some 4))), 5)) : zX 6 E Q At (List.drop 0 (zlk B_X6_init 0)) [] [some (.ref 1)] (I, J, R, 2) := by
  subst ec er
  refine And.intro rfl ?_
  refine And.intro rfl ?_
  refine And.intro rfl ?_
  exact h
theorem ip_X6_init_14 (E : zE) (At : Nat → zC) (Q : Option Value → zM → Prop) (I : Nat → Nat → Int32) (J : Nat → Nat → Int64) (R : Nat → Nat → Option Nat) (c : Nat → Int32) (r : Nat → Option Nat) (ec : I 1 = c) (er : R 1 = r) (h : Q none ((va_up (va_up I 5 (fun _ => 0)) 1 (va_up c 4 0)), (va_up J 5 (fun _ => 0)), (va_up (va_up R 5 (fun _ => none)) 1 (va_up r 3 (some 5))), 6)) : zX 6 E Q At (List.drop 14 (zlk B_X6_init 0)) [] [some (.ref 1)] (I, J, R, 5) := by
  subst ec er
  refine And.intro rfl ?_
  exact h
theorem i_X6_init (d : Nat) (I : Nat → Nat → Int32) (J : Nat → Nat → Int64) (R : Nat → Nat → Option Nat) (c : Nat → Int32) (r : Nat → Option Nat) (Q : Option Value → zM → Prop) (ec : I 1 = c) (er : R 1 = r) (h : Q none ((va_up (va_up (va_up (va_up (va_up I 2 (fun _ => 0)) 3 (fun _ => 0)) 4 (fun _ => 0)) 5 (fun _ => 0)) 1 (va_up c 4 0)), (va_up (va_up (va_up (va_up J 2 (fun _ => 0)) 3 (fun _ => 0)) 4 (fun _ => 0)) 5 (fun _ => 0)), (va_up (va_up (va_up (va_up (va_up (va_up (va_up (va_up R 2 (fun _ => none)) 1 (va_up r 0 (some 2))) 3 (fun _ => none)) 1 (va_up (va_up r 0 (some 2)) 1 (some 3))) 4 (fun _ => none)) 1 (va_up (va_up (va_up r 0 (some 2)) 1 (some 3)) 2 (some 4))) 5 (fun _ => none)) 1 (va_up (va_up (va_up (va_up r 0 (some 2)) 1 (some 3)) 2 (some 4)) 3 (some 5))), 6)) : zT (d + 1) 38 6 [.ref 1] (I, J, R, 2) Q := by
  refine ⟨rfl, fun E At hE hC => ?_⟩
  replace hC : ∀ pc st L M', zX 6 E Q At (zlk B_X6_init pc) st L M' → At pc st L M' := hC
  refine hC 0 [] [some (.ref 1)] _ ?_
  refine ip_X6_init_0 E At Q _ _ _ c r ec er ?_
  exact ip_X6_init_14 E At Q _ _ _ c (va_up (va_up (va_up r 0 (some 2)) 1 (some 3)) 2 (some 4)) ec rfl h
theorem ip_X3_init_0 (E : zE) (At : Nat → zC) (Q : Option Value → zM → Prop) (I : Nat → Nat → Int32) (J : Nat → Nat → Int64) (R : Nat → Nat → Option Nat) (c : Nat → Int32) (r : Nat → Option Nat) (ec : I 6 = c) (er : R 6 = r) (h : Q none ((va_up (va_up (va_up I 7 (fun _ => 0)) 8 (fun _ => 0)) 9 (fun _ => 0)), (va_up (va_up (va_up J 7 (fun _ => 0)) 8 (fun _ => 0)) 9 (fun _ => 0)), (va_up (va_up (va_up (va_up (va_up (va_up R 7 (fun _ => none)) 6 (va_up r 0 (some 7))) 8 (fun _ => none)) 6 (va_up (va_up r 0 (some 7)) 1 (some 8))) 9 (fun _ => none)) 6 (va_up (va_up (va_up r 0 (some 7)) 1 (some 8)) 2 (some 9))), 10)) : zX 10 E Q At (List.drop 0 (zlk B_X3_init 0)) [] [some (.ref 6)] (I, J, R, 7) := by
  subst ec er
  refine And.intro rfl ?_
  refine And.intro rfl ?_
  refine And.intro rfl ?_
  exact h
theorem i_X3_init (d : Nat) (I : Nat → Nat → Int32) (J : Nat → Nat → Int64) (R : Nat → Nat → Option Nat) (c : Nat → Int32) (r : Nat → Option Nat) (Q : Option Value → zM → Prop) (ec : I 6 = c) (er : R 6 = r) (h : Q none ((va_up (va_up (va_up I 7 (fun _ => 0)) 8 (fun _ => 0)) 9 (fun _ => 0)), (va_up (va_up (va_up J 7 (fun _ => 0)) 8 (fun _ => 0)) 9 (fun _ => 0)), (va_up (va_up (va_up (va_up (va_up (va_up R 7 (fun _ => none)) 6 (va_up r 0 (some 7))) 8 (fun _ => none)) 6 (va_up (va_up r 0 (some 7)) 1 (some 8))) 9 (fun _ => none)) 6 (va_up (va_up (va_up r 0 (some 7)) 1 (some 8)) 2 (some 9))), 10)) : zT (d + 1) 22 10 [.ref 6] (I, J, R, 7) Q := by
  refine ⟨rfl, fun E At hE hC => ?_⟩
  replace hC : ∀ pc st L M', zX 10 E Q At (zlk B_X3_init pc) st L M' → At pc st L M' := hC
  refine hC 0 [] [some (.ref 6)] _ ?_
  exact ip_X3_init_0 E At Q _ _ _ c r ec er h
theorem ip_X2_init_0 (E : zE) (At : Nat → zC) (Q : Option Value → zM → Prop) (I : Nat → Nat → Int32) (J : Nat → Nat → Int64) (R : Nat → Nat → Option Nat) (c : Nat → Int32) (r : Nat → Option Nat) (ec : I 10 = c) (er : R 10 = r) (h : zX 16 E Q At (List.drop 14 (zlk B_X2_init 0)) [] [some (.ref 10)] ((va_up (va_up (va_up I 11 (fun _ => 0)) 12 (fun _ => 0)) 13 (fun _ => 0)), (va_up (va_up (va_up J 11 (fun _ => 0)) 12 (fun _ => 0)) 13 (fun _ => 0)), (va_up (va_up (va_up (va_up (va_up (va_up R 11 (fun _ => none)) 10 (va_up r 0 (some 11))) 12 (fun _ => none)) 10 (va_up (va_up r 0 (some 11)) 1 (some 12))) 13 (fun _ => none)) 10 (va_up (va_up (va_up r 0 (some 11)) 1 (some 12)) 2 (some 13))), 14)) : zX 16 E Q At (List.drop 0 (zlk B_X2_init 0)) [] [some (.ref 10)] (I, J, R, 11) := by
  subst ec er
  refine And.intro rfl ?_
  refine And.intro rfl ?_
  refine And.intro rfl ?_
  exact h
theorem ip_X2_init_14 (E : zE) (At : Nat → zC) (Q : Option Value → zM → Prop) (I : Nat → Nat → Int32) (J : Nat → Nat → Int64) (R : Nat → Nat → Option Nat) (c : Nat → Int32) (r : Nat → Option Nat) (ec : I 10 = c) (er : R 10 = r) (h : Q none ((va_up (va_up (va_up I 14 (fun _ => 0)) 15 (fun _ => 0)) 10 (va_up c 5 0)), (va_up (va_up J 14 (fun _ => 0)) 15 (fun _ => 0)), (va_up (va_up (va_up (va_up R 14 (fun _ => none)) 10 (va_up r 3 (some 14))) 15 (fun _ => none)) 10 (va_up (va_up r 3 (some 14)) 4 (some 15))), 16)) : zX 16 E Q At (List.drop 14 (zlk B_X2_init 0)) [] [some (.ref 10)] (I, J, R, 14) := by
  subst ec er
  refine And.intro rfl ?_
  refine And.intro rfl ?_
  exact h
theorem i_X2_init (d : Nat) (I : Nat → Nat → Int32) (J : Nat → Nat → Int64) (R : Nat → Nat → Option Nat) (c : Nat → Int32) (r : Nat → Option Nat) (Q : Option Value → zM → Prop) (ec : I 10 = c) (er : R 10 = r) (h : Q none ((va_up (va_up (va_up (va_up (va_up (va_up I 11 (fun _ => 0)) 12 (fun _ => 0)) 13 (fun _ => 0)) 14 (fun _ => 0)) 15 (fun _ => 0)) 10 (va_up c 5 0)), (va_up (va_up (va_up (va_up (va_up J 11 (fun _ => 0)) 12 (fun _ => 0)) 13 (fun _ => 0)) 14 (fun _ => 0)) 15 (fun _ => 0)), (va_up (va_up (va_up (va_up (va_up (va_up (va_up (va_up (va_up (va_up R 11 (fun _ => none)) 10 (va_up r 0 (some 11))) 12 (fun _ => none)) 10 (va_up (va_up r 0 (some 11)) 1 (some 12))) 13 (fun _ => none)) 10 (va_up (va_up (va_up r 0 (some 11)) 1 (some 12)) 2 (some 13))) 14 (fun _ => none)) 10 (va_up (va_up (va_up (va_up r 0 (some 11)) 1 (some 12)) 2 (some 13)) 3 (some 14))) 15 (fun _ => none)) 10 (va_up (va_up (va_up (va_up (va_up r 0 (some 11)) 1 (some 12)) 2 (some 13)) 3 (some 14)) 4 (some 15))), 16)) : zT (d + 1) 14 16 [.ref 10] (I, J, R, 11) Q := by
  refine ⟨rfl, fun E At hE hC => ?_⟩
  replace hC : ∀ pc st L M', zX 16 E Q At (zlk B_X2_init pc) st L M' → At pc st L M' := hC
  refine hC 0 [] [some (.ref 10)] _ ?_
  refine ip_X2_init_0 E At Q _ _ _ c r ec er ?_
  exact ip_X2_init_14 E At Q _ _ _ c (va_up (va_up (va_up r 0 (some 11)) 1 (some 12)) 2 (some 13)) ec rfl h
theorem ip_X8_init_0 (E : zE) (At : Nat → zC) (Q : Option Value → zM → Prop) (I : Nat → Nat → Int32) (J : Nat → Nat → Int64) (R : Nat → Nat → Option Nat) (c : Nat → Int32) (r : Nat → Option Nat) (ec : I 17 = c) (er : R 17 = r) (h : zX 18 E Q At (List.drop 11 (zlk B_X8_init 0)) [] [some (.ref 17)] ((va_up (va_up (va_up I 17 (va_up c 0 0)) 17 (va_up (va_up c 0 0) 1 0)) 17 (va_up (va_up (va_up c 0 0) 1 0) 2 0)), J, R, 18)) : zX 18 E Q At (List.drop 0 (zlk B_X8_init 0)) [] [some (.ref 17)] (I, J, R, 18) := by
  subst ec er
  exact h
theorem ip_X8_init_11 (E : zE) (At : Nat → zC) (Q : Option Value → zM → Prop) (I : Nat → Nat → Int32) (J : Nat → Nat → Int64) (R : Nat → Nat → Option Nat) (c : Nat → Int32) (r : Nat → Option Nat) (ec : I 17 = c) (er : R 17 = r) (h : zX 18 E Q At (List.drop 20 (zlk B_X8_init 0)) [] [some (.ref 17)] ((va_up (va_up (va_up I 17 (va_up c 3 0)) 17 (va_up (va_up c 3 0) 4 0)) 17 (va_up (va_up (va_up c 3 0) 4 0) 5 0)), J, R, 18)) : zX 18 E Q At (List.drop 11 (zlk B_X8_init 0)) [] [some (.ref 17)] (I, J, R, 18) := by
  subst ec er
  exact h
theorem ip_X8_init_20 (E : zE) (At : Nat → zC) (Q : Option Value → zM → Prop) (I : Nat → Nat → Int32) (J : Nat → Nat → Int64) (R : Nat → Nat → Option Nat) (c : Nat → Int32) (r : Nat → Option Nat) (ec : I 17 = c) (er : R 17 = r) (h : Q none ((va_up (va_up I 17 (va_up c 6 0)) 17 (va_up (va_up c 6 0) 7 0)), J, R, 18)) : zX 18 E Q At (List.drop 20 (zlk B_X8_init 0)) [] [some (.ref 17)] (I, J, R, 18) := by
  subst ec er
  exact h
theorem i_X8_init (d : Nat) (I : Nat → Nat → Int32) (J : Nat → Nat → Int64) (R : Nat → Nat → Option Nat) (c : Nat → Int32) (r : Nat → Option Nat) (Q : Option Value → zM → Prop) (ec : I 17 = c) (er : R 17 = r) (h : Q none ((va_up (va_up (va_up (va_up (va_up (va_up (va_up (va_up I 17 (va_up c 0 0)) 17 (va_up (va_up c 0 0) 1 0)) 17 (va_up (va_up (va_up c 0 0) 1 0) 2 0)) 17 (va_up (va_up (va_up (va_up c 0 0) 1 0) 2 0) 3 0)) 17 (va_up (va_up (va_up (va_up (va_up c 0 0) 1 0) 2 0) 3 0) 4 0)) 17 (va_up (va_up (va_up (va_up (va_up (va_up c 0 0) 1 0) 2 0) 3 0) 4 0) 5 0)) 17 (va_up (va_up (va_up (va_up (va_up (va_up (va_up c 0 0) 1 0) 2 0) 3 0) 4 0) 5 0) 6 0)) 17 (va_up (va_up (va_up (va_up (va_up (va_up (va_up (va_up c 0 0) 1 0) 2 0) 3 0) 4 0) 5 0) 6 0) 7 0)), J, R, 18)) : zT (d + 1) 49 18 [.ref 17] (I, J, R, 18) Q := by
  refine ⟨rfl, fun E At hE hC => ?_⟩
  replace hC : ∀ pc st L M', zX 18 E Q At (zlk B_X8_init pc) st L M' → At pc st L M' := hC
  refine hC 0 [] [some (.ref 17)] _ ?_
  refine ip_X8_init_0 E At Q _ _ _ c r ec er ?_
  refine ip_X8_init_11 E At Q _ _ _ (va_up (va_up (va_up c 0 0) 1 0) 2 0) r rfl er ?_
  exact ip_X8_init_20 E At Q _ _ _ (va_up (va_up (va_up (va_up (va_up (va_up c 0 0) 1 0) 2 0) 3 0) 4 0) 5 0) r rfl er h
theorem ip_X4_init_0 (E : zE) (At : Nat → zC) (Q : Option Value → zM → Prop) (I : Nat → Nat → Int32) (J : Nat → Nat → Int64) (R : Nat → Nat → Option Nat) (c : Nat → Int32) (r : Nat → Option Nat) (ec : I 18 = c) (er : R 18 = r) (h : zX 22 E Q At (List.drop 13 (zlk B_X4_init 0)) [] [some (.ref 18)] ((va_up (va_up (va_up I 19 (fun _ => 0)) 18 (va_up c 1 0)) 20 (fun _ => 0)), (va_up (va_up J 19 (fun _ => 0)) 20 (fun _ => 0)), (va_up (va_up (va_up (va_up R 19 (fun _ => none)) 18 (va_up r 0 (some 19))) 20 (fun _ => none)) 18 (va_up (va_up r 0 (some 19)) 2 (some 20))), 21)) : zX 22 E Q At (List.drop 0 (zlk B_X4_init 0)) [] [some (.ref 18)] (I, J, R, 19) := by
  subst ec er
  refine And.intro rfl ?_
  refine And.intro rfl ?_
  exact h
theorem ip_X4_init_13 (E : zE) (At : Nat → zC) (Q : Option Value → zM → Prop) (I : Nat → Nat → Int32) (J : Nat → Nat → Int64) (R : Nat → Nat → Option Nat) (c : Nat → Int32) (r : Nat → Option Nat) (ec : I 18 = c) (er : R 18 = r) (h : Q none ((va_up (va_up I 21 (fun _ => 0)) 18 (va_up c 4 0)), (va_up J 21 (fun _ => 0)), (va_up (va_up R 21 (fun _ => none)) 18 (va_up r 3 (some 21))), 22)) : zX 22 E Q At (List.drop 13 (zlk B_X4_init 0)) [] [some (.ref 18)] (I, J, R, 21) := by
  subst ec er
  refine And.intro rfl ?_
  exact h
theorem i_X4_init (d : Nat) (I : Nat → Nat → Int32) (J : Nat → Nat → Int64) (R : Nat → Nat → Option Nat) (c : Nat → Int32) (r : Nat → Option Nat) (Q : Option Value → zM → Prop) (ec : I 18 = c) (er : R 18 = r) (h : Q none ((va_up (va_up (va_up (va_up (va_up I 19 (fun _ => 0)) 18 (va_up c 1 0)) 20 (fun _ => 0)) 21 (fun _ => 0)) 18 (va_up (va_up c 1 0) 4 0)), (va_up (va_up (va_up J 19 (fun _ => 0)) 20 (fun _ => 0)) 21 (fun _ => 0)), (va_up (va_up (va_up (va_up (va_up (va_up R 19 (fun _ => none)) 18 (va_up r 0 (some 19))) 20 (fun _ => none)) 18 (va_up (va_up r 0 (some 19)) 2 (some 20))) 21 (fun _ => none)) 18 (va_up (va_up (va_up r 0 (some 19)) 2 (some 20)) 3 (some 21))), 22)) : zT (d + 1) 25 22 [.ref 18] (I, J, R, 19) Q := by
  refine ⟨rfl, fun E At hE hC => ?_⟩
  replace hC : ∀ pc st L M', zX 22 E Q At (zlk B_X4_init pc) st L M' → At pc st L M' := hC
  refine hC 0 [] [some (.ref 18)] _ ?_
  refine ip_X4_init_0 E At Q _ _ _ c r ec er ?_
  exact ip_X4_init_13 E At Q _ _ _ (va_up c 1 0) (va_up (va_up r 0 (some 19)) 2 (some 20)) rfl rfl h
theorem ip_X1_init_0 (E : zE) (At : Nat → zC) (Q : Option Value → zM → Prop) (I : Nat → Nat → Int32) (J : Nat → Nat → Int64) (R : Nat → Nat → Option Nat) (c : Nat → Int32) (r : Nat → Option Nat) (ec : I 22 = c) (er : R 22 = r) (h : zX 33 E Q At (List.drop 14 (zlk B_X1_init 0)) [] [some (.ref 22)] ((va_up (va_up (va_up I 23 (fun _ => 0)) 24 (fun _ => 0)) 25 (fun _ => 0)), (va_up (va_up (va_up J 23 (fun _ => 0)) 24 (fun _ => 0)) 25 (fun _ => 0)), (va_up (va_up (va_up (va_up (va_up (va_up R 23 (fun _ => none)) 22 (va_up r 0 (some 23))) 24 (fun _ => none)) 22 (va_up (va_up r 0 (some 23)) 1 (some 24))) 25 (fun _ => none)) 22 (va_up (va_up (va_up r 0 (some 23)) 1 (some 24)) 2 (some 25))), 26)) : zX 33 E Q At (List.drop 0 (zlk B_X1_init 0)) [] [some (.ref 22)] (I, J, R, 23) := by
  subst ec er
  refine And.intro rfl ?_
  refine And.intro rfl ?_
  refine And.intro rfl ?_
  exact h
theorem ip_X1_init_14 (E : zE) (At : Nat → zC) (Q : Option Value → zM → Prop) (I : Nat → Nat → Int32) (J : Nat → Nat → Int64) (R : Nat → Nat → Option Nat) (c : Nat → Int32) (r : Nat → Option Nat) (ec : I 22 = c) (er : R 22 = r) (h : zX 33 E Q At (List.drop 26 (zlk B_X1_init 0)) [] [some (.ref 22)] ((va_up (va_up (va_up I 26 (fun _ => 0)) 27 (fun _ => 0)) 28 (fun _ => 0)), (va_up (va_up (va_up J 26 (fun _ => 0)) 27 (fun _ => 0)) 28 (fun _ => 0)), (va_up (va_up (va_up (va_up (va_up (va_up R 26 (fun _ => none)) 22 (va_up r 3 (some 26))) 27 (fun _ => none)) 22 (va_up (va_up r 3 (some 26)) 4 (some 27))) 28 (fun _ => none)) 22 (va_up (va_up (va_up r 3 (some 26)) 4 (some 27)) 5 (some 28))), 29)) : zX 33 E Q At (List.drop 14 (zlk B_X1_init 0)) [] [some (.ref 22)] (I, J, R, 26) := by
  subst ec er
  refine And.intro rfl ?_
  refine And.intro rfl ?_
  refine And.intro rfl ?_
  exact h
theorem ip_X1_init_26 (E : zE) (At : Nat → zC) (Q : Option Value → zM → Prop) (I : Nat → Nat → Int32) (J : Nat → Nat → Int64) (R : Nat → Nat → Option Nat) (c : Nat → Int32) (r : Nat → Option Nat) (ec : I 22 = c) (er : R 22 = r) (h : zX 33 E Q At (List.drop 38 (zlk B_X1_init 0)) [] [some (.ref 22)] ((va_up (va_up (va_up I 29 (fun _ => 0)) 30 (fun _ => 0)) 31 (fun _ => 0)), (va_up (va_up (va_up J 29 (fun _ => 0)) 30 (fun _ => 0)) 31 (fun _ => 0)), (va_up (va_up (va_up (va_up (va_up (va_up R 29 (fun _ => none)) 22 (va_up r 6 (some 29))) 30 (fun _ => none)) 22 (va_up (va_up r 6 (some 29)) 7 (some 30))) 31 (fun _ => none)) 22 (va_up (va_up (va_up r 6 (some 29)) 7 (some 30)) 8 (some 31))), 32)) : zX 33 E Q At (List.drop 26 (zlk B_X1_init 0)) [] [some (.ref 22)] (I, J, R, 29) := by
  subst ec er
  refine And.intro rfl ?_
  refine And.intro rfl ?_
  refine And.intro rfl ?_
  exact h
theorem ip_X1_init_38 (E : zE) (At : Nat → zC) (Q : Option Value → zM → Prop) (I : Nat → Nat → Int32) (J : Nat → Nat → Int64) (R : Nat → Nat → Option Nat) (c : Nat → Int32) (r : Nat → Option Nat) (ec : I 22 = c) (er : R 22 = r) (h : Q none ((va_up (va_up (va_up I 32 (fun _ => 0)) 22 (va_up c 10 0)) 22 (va_up (va_up c 10 0) 11 (-1))), (va_up J 32 (fun _ => 0)), (va_up (va_up R 32 (fun _ => none)) 22 (va_up r 9 (some 32))), 33)) : zX 33 E Q At (List.drop 38 (zlk B_X1_init 0)) [] [some (.ref 22)] (I, J, R, 32) := by
  subst ec er
  refine And.intro rfl ?_
  exact h
theorem i_X1_init (d : Nat) (I : Nat → Nat → Int32) (J : Nat → Nat → Int64) (R : Nat → Nat → Option Nat) (c : Nat → Int32) (r : Nat → Option Nat) (Q : Option Value → zM → Prop) (ec : I 22 = c) (er : R 22 = r) (h : Q none ((va_up (va_up (va_up (va_up (va_up (va_up (va_up (va_up (va_up (va_up (va_up (va_up I 23 (fun _ => 0)) 24 (fun _ => 0)) 25 (fun _ => 0)) 26 (fun _ => 0)) 27 (fun _ => 0)) 28 (fun _ => 0)) 29 (fun _ => 0)) 30 (fun _ => 0)) 31 (fun _ => 0)) 32 (fun _ => 0)) 22 (va_up c 10 0)) 22 (va_up (va_up c 10 0) 11 (-1))), (va_up (va_up (va_up (va_up (va_up (va_up (va_up (va_up (va_up (va_up J 23 (fun _ => 0)) 24 (fun _ => 0)) 25 (fun _ => 0)) 26 (fun _ => 0)) 27 (fun _ => 0)) 28 (fun _ => 0)) 29 (fun _ => 0)) 30 (fun _ => 0)) 31 (fun _ => 0)) 32 (fun _ => 0)), (va_up (va_up (va_up (va_up (va_up (va_up (va_up (va_up (va_up (va_up (va_up (va_up (va_up (va_up (va_up (va_up (va_up (va_up (va_up (va_up R 23 (fun _ => none)) 22 (va_up r 0 (some 23))) 24 (fun _ => none)) 22 (va_up (va_up r 0 (some 23)) 1 (some 24))) 25 (fun _ => none)) 22 (va_up (va_up (va_up r 0 (some 23)) 1 (some 24)) 2 (some 25))) 26 (fun _ => none)) 22 (va_up (va_up (va_up (va_up r 0 (some 23)) 1 (some 24)) 2 (some 25)) 3 (some 26))) 27 (fun _ => none)) 22 (va_up (va_up (va_up (va_up (va_up r 0 (some 23)) 1 (some 24)) 2 (some 25)) 3 (some 26)) 4 (some 27))) 28 (fun _ => none)) 22 (va_up (va_up (va_up (va_up (va_up (va_up r 0 (some 23)) 1 (some 24)) 2 (some 25)) 3 (some 26)) 4 (some 27)) 5 (some 28))) 29 (fun _ => none)) 22 (va_up (va_up (va_up (va_up (va_up (va_up (va_up r 0 (some 23)) 1 (some 24)) 2 (some 25)) 3 (some 26)) 4 (some 27)) 5 (some 28)) 6 (some 29))) 30 (fun _ => none)) 22 (va_up (va_up (va_up (va_up (va_up (va_up (va_up (va_up r 0 (some 23)) 1 (some 24)) 2 (some 25)) 3 (some 26)) 4 (some 27)) 5 (some 28)) 6 (some 29)) 7 (some 30))) 31 (fun _ => none)) 22 (va_up (va_up (va_up (va_up (va_up (va_up (va_up (va_up (va_up r 0 (some 23)) 1 (some 24)) 2 (some 25)) 3 (some 26)) 4 (some 27)) 5 (some 28)) 6 (some 29)) 7 (some 30)) 8 (some 31))) 32 (fun _ => none)) 22 (va_up (va_up (va_up (va_up (va_up (va_up (va_up (va_up (va_up (va_up r 0 (some 23)) 1 (some 24)) 2 (some 25)) 3 (some 26)) 4 (some 27)) 5 (some 28)) 6 (some 29)) 7 (some 30)) 8 (some 31)) 9 (some 32))), 33)) : zT (d + 1) 2 33 [.ref 22] (I, J, R, 23) Q := by
  refine ⟨rfl, fun E At hE hC => ?_⟩
  replace hC : ∀ pc st L M', zX 33 E Q At (zlk B_X1_init pc) st L M' → At pc st L M' := hC
  refine hC 0 [] [some (.ref 22)] _ ?_
  refine ip_X1_init_0 E At Q _ _ _ c r ec er ?_
  refine ip_X1_init_14 E At Q _ _ _ c (va_up (va_up (va_up r 0 (some 23)) 1 (some 24)) 2 (some 25)) ec rfl ?_
  refine ip_X1_init_26 E At Q _ _ _ c (va_up (va_up (va_up (va_up (va_up (va_up r 0 (some 23)) 1 (some 24)) 2 (some 25)) 3 (some 26)) 4 (some 27)) 5 (some 28)) ec rfl ?_
  exact ip_X1_init_38 E At Q _ _ _ c (va_up (va_up (va_up (va_up (va_up (va_up (va_up (va_up (va_up r 0 (some 23)) 1 (some 24)) 2 (some 25)) 3 (some 26)) 4 (some 27)) 5 (some 28)) 6 (some 29)) 7 (some 30)) 8 (some 31)) ec rfl h
theorem ip_X0_init_0 (E : zE) (At : Nat → zC) (Q : Option Value → zM → Prop) (I : Nat → Nat → Int32) (J : Nat → Nat → Int64) (R : Nat → Nat → Option Nat) (c : Nat → Int32) (r : Nat → Option Nat) (ec : I 33 = c) (er : R 33 = r) (h : zX 34 E Q At (List.drop 11 (zlk B_X0_init 0)) [] [some (.ref 33)] ((va_up (va_up (va_up I 33 (va_up c 0 0)) 33 (va_up (va_up c 0 0) 1 0)) 33 (va_up (va_up (va_up c 0 0) 1 0) 2 0)), J, R, 34)) : zX 34 E Q At (List.drop 0 (zlk B_X0_init 0)) [] [some (.ref 33)] (I, J, R, 34) := by
  subst ec er
  exact h
theorem ip_X0_init_11 (E : zE) (At : Nat → zC) (Q : Option Value → zM → Prop) (I : Nat → Nat → Int32) (J : Nat → Nat → Int64) (R : Nat → Nat → Option Nat) (c : Nat → Int32) (r : Nat → Option Nat) (ec : I 33 = c) (er : R 33 = r) (h : zX 34 E Q At (List.drop 20 (zlk B_X0_init 0)) [] [some (.ref 33)] ((va_up (va_up (va_up I 33 (va_up c 3 0)) 33 (va_up (va_up c 3 0) 4 0)) 33 (va_up (va_up (va_up c 3 0) 4 0) 5 0)), J, R, 34)) : zX 34 E Q At (List.drop 11 (zlk B_X0_init 0)) [] [some (.ref 33)] (I, J, R, 34) := by
  subst ec er
  exact h
theorem ip_X0_init_20 (E : zE) (At : Nat → zC) (Q : Option Value → zM → Prop) (I : Nat → Nat → Int32) (J : Nat → Nat → Int64) (R : Nat → Nat → Option Nat) (c : Nat → Int32) (r : Nat → Option Nat) (ec : I 33 = c) (er : R 33 = r) (h : Q none ((va_up I 33 (va_up c 6 0)), J, R, 34)) : zX 34 E Q At (List.drop 20 (zlk B_X0_init 0)) [] [some (.ref 33)] (I, J, R, 34) := by
  subst ec er
  exact h
theorem i_X0_init (d : Nat) (I : Nat → Nat → Int32) (J : Nat → Nat → Int64) (R : Nat → Nat → Option Nat) (c : Nat → Int32) (r : Nat → Option Nat) (Q : Option Value → zM → Prop) (ec : I 33 = c) (er : R 33 = r) (h : Q none ((va_up (va_up (va_up (va_up (va_up (va_up (va_up I 33 (va_up c 0 0)) 33 (va_up (va_up c 0 0) 1 0)) 33 (va_up (va_up (va_up c 0 0) 1 0) 2 0)) 33 (va_up (va_up (va_up (va_up c 0 0) 1 0) 2 0) 3 0)) 33 (va_up (va_up (va_up (va_up (va_up c 0 0) 1 0) 2 0) 3 0) 4 0)) 33 (va_up (va_up (va_up (va_up (va_up (va_up c 0 0) 1 0) 2 0) 3 0) 4 0) 5 0)) 33 (va_up (va_up (va_up (va_up (va_up (va_up (va_up c 0 0) 1 0) 2 0) 3 0) 4 0) 5 0) 6 0)), J, R, 34)) : zT (d + 1) 0 34 [.ref 33] (I, J, R, 34) Q := by
  refine ⟨rfl, fun E At hE hC => ?_⟩
  replace hC : ∀ pc st L M', zX 34 E Q At (zlk B_X0_init pc) st L M' → At pc st L M' := hC
  refine hC 0 [] [some (.ref 33)] _ ?_
  refine ip_X0_init_0 E At Q _ _ _ c r ec er ?_
  refine ip_X0_init_11 E At Q _ _ _ (va_up (va_up (va_up c 0 0) 1 0) 2 0) r rfl er ?_
  exact ip_X0_init_20 E At Q _ _ _ (va_up (va_up (va_up (va_up (va_up (va_up c 0 0) 1 0) 2 0) 3 0) 4 0) 5 0) r rfl er h
theorem ip_X5_init_0 (E : zE) (At : Nat → zC) (Q : Option Value → zM → Prop) (I : Nat → Nat → Int32) (J : Nat → Nat → Int64) (R : Nat → Nat → Option Nat) (c : Nat → Int32) (r : Nat → Option Nat) (ec : I 35 = c) (er : R 35 = r) (h : zX 42 E Q At (List.drop 12 (zlk B_X5_init 0)) [] [some (.ref 35)] ((va_up (va_up (va_up I 36 (fun _ => 0)) 35 (va_up c 1 0)) 35 (va_up (va_up c 1 0) 2 0)), (va_up J 36 (fun _ => 0)), (va_up (va_up R 36 (fun _ => none)) 35 (va_up r 0 (some 36))), 37)) : zX 42 E Q At (List.drop 0 (zlk B_X5_init 0)) [] [some (.ref 35)] (I, J, R, 36) := by
  subst ec er
  refine And.intro rfl ?_
  exact h
theorem ip_X5_init_12 (E : zE) (At : Nat → zC) (Q : Option Value → zM → Prop) (I : Nat → Nat → Int32) (J : Nat → Nat → Int64) (R : Nat → Nat → Option Nat) (c : Nat → Int32) (r : Nat → Option Nat) (ec : I 35 = c) (er : R 35 = r) (h : zX 42 E Q At (List.drop 24 (zlk B_X5_init 0)) [] [some (.ref 35)] ((va_up (va_up (va_up I 37 (fun _ => 0)) 38 (fun _ => 0)) 39 (fun _ => 0)), (va_up (va_up (va_up J 37 (fun _ => 0)) 38 (fun _ => 0)) 39 (fun _ => 0)), (va_up (va_up (va_up (va_up (va_up (va_up R 37 (fun _ => none)) 35 (va_up r 3 (some 37))) 38 (fun _ => none)) 35 (va_up (va_up r 3 (some 37)) 4 (some 38))) 39 (fun _ => none)) 35 (va_up (va_up (va_up r 3 (some 37)) 4 (some 38)) 5 (some 39))), 40)) : zX 42 E Q At (List.drop 12 (zlk B_X5_init 0)) [] [some (.ref 35)] (I, J, R, 37) := by
  subst ec er
  refine And.intro rfl ?_
  refine And.intro rfl ?_
  refine And.intro rfl ?_
  exact h
theorem ip_X5_init_24 (E : zE) (At : Nat → zC) (Q : Option Value → zM → Prop) (I : Nat → Nat → Int32) (J : Nat → Nat → Int64) (R : Nat → Nat → Option Nat) (c : Nat → Int32) (r : Nat → Option Nat) (ec : I 35 = c) (er : R 35 = r) (h : zX 42 E Q At (List.drop 35 (zlk B_X5_init 0)) [] [some (.ref 35)] ((va_up (va_up (va_up I 40 (fun _ => 0)) 41 (fun _ => 0)) 35 (va_up c 8 2)), (va_up (va_up J 40 (fun _ => 0)) 41 (fun _ => 0)), (va_up (va_up (va_up (va_up R 40 (fun _ => none)) 35 (va_up r 6 (some 40))) 41 (fun _ => none)) 35 (va_up (va_up r 6 (some 40)) 7 (some 41))), 42)) : zX 42 E Q At (List.drop 24 (zlk B_X5_init 0)) [] [some (.ref 35)] (I, J, R, 40) := by
  subst ec er
  refine And.intro rfl ?_
  refine And.intro rfl ?_
  exact h
theorem ip_X5_init_35 (E : zE) (At : Nat → zC) (Q : Option Value → zM → Prop) (I : Nat → Nat → Int32) (J : Nat → Nat → Int64) (R : Nat → Nat → Option Nat) (c : Nat → Int32) (r : Nat → Option Nat) (ec : I 35 = c) (er : R 35 = r) (h : Q none ((va_up (va_up I 35 (va_up c 9 0)) 35 (va_up (va_up c 9 0) 10 0)), J, R, 42)) : zX 42 E Q At (List.drop 35 (zlk B_X5_init 0)) [] [some (.ref 35)] (I, J, R, 42) := by
  subst ec er
  refine And.intro (Or.inl rfl) ?_
  exact h
theorem i_X5_init (d : Nat) (I : Nat → Nat → Int32) (J : Nat → Nat → Int64) (R : Nat → Nat → Option Nat) (c : Nat → Int32) (r : Nat → Option Nat) (Q : Option Value → zM → Prop) (ec : I 35 = c) (er : R 35 = r) (h : Q none ((va_up (va_up (va_up (va_up (va_up (va_up (va_up (va_up (va_up (va_up (va_up I 36 (fun _ => 0)) 35 (va_up c 1 0)) 35 (va_up (va_up c 1 0) 2 0)) 37 (fun _ => 0)) 38 (fun _ => 0)) 39 (fun _ => 0)) 40 (fun _ => 0)) 41 (fun _ => 0)) 35 (va_up (va_up (va_up c 1 0) 2 0) 8 2)) 35 (va_up (va_up (va_up (va_up c 1 0) 2 0) 8 2) 9 0)) 35 (va_up (va_up (va_up (va_up (va_up c 1 0) 2 0) 8 2) 9 0) 10 0)), (va_up (va_up (va_up (va_up (va_up (va_up J 36 (fun _ => 0)) 37 (fun _ => 0)) 38 (fun _ => 0)) 39 (fun _ => 0)) 40 (fun _ => 0)) 41 (fun _ => 0)), (va_up (va_up (va_up (va_up (va_up (va_up (va_up (va_up (va_up (va_up (va_up (va_up R 36 (fun _ => none)) 35 (va_up r 0 (some 36))) 37 (fun _ => none)) 35 (va_up (va_up r 0 (some 36)) 3 (some 37))) 38 (fun _ => none)) 35 (va_up (va_up (va_up r 0 (some 36)) 3 (some 37)) 4 (some 38))) 39 (fun _ => none)) 35 (va_up (va_up (va_up (va_up r 0 (some 36)) 3 (some 37)) 4 (some 38)) 5 (some 39))) 40 (fun _ => none)) 35 (va_up (va_up (va_up (va_up (va_up r 0 (some 36)) 3 (some 37)) 4 (some 38)) 5 (some 39)) 6 (some 40))) 41 (fun _ => none)) 35 (va_up (va_up (va_up (va_up (va_up (va_up r 0 (some 36)) 3 (some 37)) 4 (some 38)) 5 (some 39)) 6 (some 40)) 7 (some 41))), 42)) : zT (d + 1) 31 42 [.ref 35] (I, J, R, 36) Q := by
  refine ⟨rfl, fun E At hE hC => ?_⟩
  replace hC : ∀ pc st L M', zX 42 E Q At (zlk B_X5_init pc) st L M' → At pc st L M' := hC
  refine hC 0 [] [some (.ref 35)] _ ?_
  refine ip_X5_init_0 E At Q _ _ _ c r ec er ?_
  refine ip_X5_init_12 E At Q _ _ _ (va_up (va_up c 1 0) 2 0) (va_up r 0 (some 36)) rfl rfl ?_
  refine ip_X5_init_24 E At Q _ _ _ (va_up (va_up c 1 0) 2 0) (va_up (va_up (va_up (va_up r 0 (some 36)) 3 (some 37)) 4 (some 38)) 5 (some 39)) rfl rfl ?_
  exact ip_X5_init_35 E At Q _ _ _ (va_up (va_up (va_up c 1 0) 2 0) 8 2) (va_up (va_up (va_up (va_up (va_up (va_up r 0 (some 36)) 3 (some 37)) 4 (some 38)) 5 (some 39)) 6 (some 40)) 7 (some 41)) rfl rfl h
theorem ip_X7_init_0 (E : zE) (At : Nat → zC) (Q : Option Value → zM → Prop) (I : Nat → Nat → Int32) (J : Nat → Nat → Int64) (R : Nat → Nat → Option Nat) (c : Nat → Int32) (r : Nat → Option Nat) (ec : I 42 = c) (er : R 42 = r) (h : zX 46 E Q At (List.drop 13 (zlk B_X7_init 0)) [] [some (.ref 42)] ((va_up (va_up (va_up I 43 (fun _ => 0)) 42 (va_up c 1 0)) 44 (fun _ => 0)), (va_up (va_up J 43 (fun _ => 0)) 44 (fun _ => 0)), (va_up (va_up (va_up (va_up R 43 (fun _ => none)) 42 (va_up r 0 (some 43))) 44 (fun _ => none)) 42 (va_up (va_up r 0 (some 43)) 2 (some 44))), 45)) : zX 46 E Q At (List.drop 0 (zlk B_X7_init 0)) [] [some (.ref 42)] (I, J, R, 43) := by
  subst ec er
  refine And.intro rfl ?_
  refine And.intro rfl ?_
  exact h
theorem ip_X7_init_13 (E : zE) (At : Nat → zC) (Q : Option Value → zM → Prop) (I : Nat → Nat → Int32) (J : Nat → Nat → Int64) (R : Nat → Nat → Option Nat) (c : Nat → Int32) (r : Nat → Option Nat) (ec : I 42 = c) (er : R 42 = r) (h : Q none ((va_up (va_up (va_up (va_up (va_up I 45 (fun _ => 0)) 45 (va_up (fun _ => 0) 0 (-1))) 45 (va_up (va_up (fun _ => 0) 0 (-1)) 1 (-1))) 45 (va_up (va_up (va_up (fun _ => 0) 0 (-1)) 1 (-1)) 2 (-1))) 45 (va_up (va_up (va_up (va_up (fun _ => 0) 0 (-1)) 1 (-1)) 2 (-1)) 3 (-1))), (va_up J 45 (fun _ => 0)), (va_up (va_up R 45 (fun _ => none)) 42 (va_up r 3 (some 45))), 46)) : zX 46 E Q At (List.drop 13 (zlk B_X7_init 0)) [] [some (.ref 42)] (I, J, R, 45) := by
  subst ec er
  refine And.intro rfl ?_
  refine And.intro zvl_0_4 ?_
  refine And.intro zvl_1_4 ?_
  refine And.intro zvl_2_4 ?_
  refine And.intro zvl_3_4 ?_
  exact h
theorem i_X7_init (d : Nat) (I : Nat → Nat → Int32) (J : Nat → Nat → Int64) (R : Nat → Nat → Option Nat) (c : Nat → Int32) (r : Nat → Option Nat) (Q : Option Value → zM → Prop) (ec : I 42 = c) (er : R 42 = r) (h : Q none ((va_up (va_up (va_up (va_up (va_up (va_up (va_up (va_up I 43 (fun _ => 0)) 42 (va_up c 1 0)) 44 (fun _ => 0)) 45 (fun _ => 0)) 45 (va_up (fun _ => 0) 0 (-1))) 45 (va_up (va_up (fun _ => 0) 0 (-1)) 1 (-1))) 45 (va_up (va_up (va_up (fun _ => 0) 0 (-1)) 1 (-1)) 2 (-1))) 45 (va_up (va_up (va_up (va_up (fun _ => 0) 0 (-1)) 1 (-1)) 2 (-1)) 3 (-1))), (va_up (va_up (va_up J 43 (fun _ => 0)) 44 (fun _ => 0)) 45 (fun _ => 0)), (va_up (va_up (va_up (va_up (va_up (va_up R 43 (fun _ => none)) 42 (va_up r 0 (some 43))) 44 (fun _ => none)) 42 (va_up (va_up r 0 (some 43)) 2 (some 44))) 45 (fun _ => none)) 42 (va_up (va_up (va_up r 0 (some 43)) 2 (some 44)) 3 (some 45))), 46)) : zT (d + 1) 41 46 [.ref 42] (I, J, R, 43) Q := by
  refine ⟨rfl, fun E At hE hC => ?_⟩
  replace hC : ∀ pc st L M', zX 46 E Q At (zlk B_X7_init pc) st L M' → At pc st L M' := hC
  refine hC 0 [] [some (.ref 42)] _ ?_
  refine ip_X7_init_0 E At Q _ _ _ c r ec er ?_
  exact ip_X7_init_13 E At Q _ _ _ (va_up c 1 0) (va_up (va_up r 0 (some 43)) 2 (some 44)) rfl rfl h
