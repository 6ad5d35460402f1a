/-! the two objects made -/
def zXk (n1 : Nat) (E : zE) (Q : Option Value → zM → Prop) (G : Nat → zC) (K : zC) : zB → zC
  | [] => K
  | (o, _) :: r => o n1 E Q G (zXk n1 E Q G K r)
theorem zXk_app (n1 : Nat) (E : zE) (Q : Option Value → zM → Prop) (G : Nat → zC) : ∀ a b : zB, zX n1 E Q G (a ++ b) = zXk n1 E Q G (zX n1 E Q G b) a
  | [], b => rfl
  | (o, p) :: a, b => by
    show o n1 E Q G (zX n1 E Q G (a ++ b)) = o n1 E Q G (zXk n1 E Q G (zX n1 E Q G b) a)
    rw [zXk_app n1 E Q G a b]
def zi0 : Nat → Nat → Int32 := (va_up (fun _ _ => 0 : Nat → Nat → Int32) 0 (fun _ => 0))
def zj0 : Nat → Nat → Int64 := (va_up (fun _ _ => 0 : Nat → Nat → Int64) 0 (fun _ => 0))
def zr0 : Nat → Nat → Option Nat := (va_up (fun _ _ => none : Nat → Nat → Option Nat) 0 (fun _ => none))
def zi1 : Nat → Nat → Int32 := (va_up (va_up (va_up (va_up (va_up (va_up zi0 1 (fun _ => 0)) 2 (fun _ => 0)) 3 (fun _ => 0)) 4 (fun _ => 0)) 5 (fun _ => 0)) 1 (va_up (fun _ => 0) 4 0))
def zj1 : Nat → Nat → Int64 := (va_up (va_up (va_up (va_up (va_up zj0 1 (fun _ => 0)) 2 (fun _ => 0)) 3 (fun _ => 0)) 4 (fun _ => 0)) 5 (fun _ => 0))
def zr1 : Nat → Nat → Option Nat := (va_up (va_up (va_up (va_up (va_up (va_up (va_up (va_up (va_up (va_up zr0 1 (fun _ => none)) 2 (fun _ => none)) 1 (va_up (fun _ => none) 0 (some 2))) 3 (fun _ => none)) 1 (va_up (va_up (fun _ => none) 0 (some 2)) 1 (some 3))) 4 (fun _ => none)) 1 (va_up (va_up (va_up (fun _ => none) 0 (some 2)) 1 (some 3)) 2 (some 4))) 5 (fun _ => none)) 1 (va_up (va_up (va_up (va_up (fun _ => none) 0 (some 2)) 1 (some 3)) 2 (some 4)) 3 (some 5))) 0 (va_up (zr0 0) 0 (some 1)))
def qX9_init_0 : zB := [(oAl 0, 1), (oObj, 4), (oAl 0, 5), (oNew 6, 8), (oDup, 9), (oNi 38 6, 12), (oPR 9 0, 15)]
set_option maxRecDepth 20000 in
theorem iq_X9_init_0 (d : Nat) (E : zE) (At : Nat → zC) (Q : Option Value → zM → Prop) (K : zC) (hE : ∀ y n a M' Q', zT (d + 1) y n a M' Q' → E y n a M' Q') (h : K [] [some (.ref 0)] (zi1, zj1, zr1, 6)) : zXk 46 E Q At K qX9_init_0 [] [some (.ref 0)] (zi0, zj0, zr0, 1) := by
  refine hE _ _ _ _ _ (i_X6_init d _ _ _ (fun _ => 0) (fun _ => none) _ rfl rfl ?_)
  exact h
def zi2 : Nat → Nat → Int32 := (va_up (va_up (va_up (va_up zi1 6 (fun _ => 0)) 7 (fun _ => 0)) 8 (fun _ => 0)) 9 (fun _ => 0))
def zj2 : Nat → Nat → Int64 := (va_up (va_up (va_up (va_up zj1 6 (fun _ => 0)) 7 (fun _ => 0)) 8 (fun _ => 0)) 9 (fun _ => 0))
def zr2 : Nat → Nat → Option Nat := (va_up (va_up (va_up (va_up (va_up (va_up (va_up (va_up zr1 6 (fun _ => none)) 7 (fun _ => none)) 6 (va_up (fun _ => none) 0 (some 7))) 8 (fun _ => none)) 6 (va_up (va_up (fun _ => none) 0 (some 7)) 1 (some 8))) 9 (fun _ => none)) 6 (va_up (va_up (va_up (fun _ => none) 0 (some 7)) 1 (some 8)) 2 (some 9))) 0 (va_up (zr1 0) 1 (some 6)))
def qX9_init_7 : zB := [(oAl 0, 16), (oNew 3, 19), (oDup, 20), (oNi 22 10, 23), (oPR 9 1, 26)]
set_option maxRecDepth 20000 in
theorem iq_X9_init_7 (d : Nat) (E : zE) (At : Nat → zC) (Q : Option Value → zM → Prop) (K : zC) (hE : ∀ y n a M' Q', zT (d + 1) y n a M' Q' → E y n a M' Q') (h : K [] [some (.ref 0)] (zi2, zj2, zr2, 10)) : zXk 46 E Q At K qX9_init_7 [] [some (.ref 0)] (zi1, zj1, zr1, 6) := by
  refine hE _ _ _ _ _ (i_X3_init d _ _ _ (fun _ => 0) (fun _ => none) _ rfl rfl ?_)
  exact h
def zi3 : Nat → Nat → Int32 := (va_up (va_up (va_up (va_up (va_up (va_up (va_up zi2 10 (fun _ => 0)) 11 (fun _ => 0)) 12 (fun _ => 0)) 13 (fun _ => 0)) 14 (fun _ => 0)) 15 (fun _ => 0)) 10 (va_up (fun _ => 0) 5 0))
def zj3 : Nat → Nat → Int64 := (va_up (va_up (va_up (va_up (va_up (va_up zj2 10 (fun _ => 0)) 11 (fun _ => 0)) 12 (fun _ => 0)) 13 (fun _ => 0)) 14 (fun _ => 0)) 15 (fun _ => 0))
def zr3 : Nat → Nat → Option Nat := (va_up (va_up (va_up (va_up (va_up (va_up (va_up (va_up (va_up (va_up (va_up (va_up zr2 10 (fun _ => none)) 11 (fun _ => none)) 10 (va_up (fun _ => none) 0 (some 11))) 12 (fun _ => none)) 10 (va_up (va_up (fun _ => none) 0 (some 11)) 1 (some 12))) 13 (fun _ => none)) 10 (va_up (va_up (va_up (fun _ => none) 0 (some 11)) 1 (some 12)) 2 (some 13))) 14 (fun _ => none)) 10 (va_up (va_up (va_up (va_up (fun _ => none) 0 (some 11)) 1 (some 12)) 2 (some 13)) 3 (some 14))) 15 (fun _ => none)) 10 (va_up (va_up (va_up (va_up (va_up (fun _ => none) 0 (some 11)) 1 (some 12)) 2 (some 13)) 3 (some 14)) 4 (some 15))) 0 (va_up (zr2 0) 2 (some 10)))
def qX9_init_12 : zB := [(oAl 0, 27), (oNew 2, 30), (oDup, 31), (oNi 14 16, 34), (oPR 9 2, 37)]
set_option maxRecDepth 20000 in
theorem iq_X9_init_12 (d : Nat) (E : zE) (At : Nat → zC) (Q : Option Value → zM → Prop) (K : zC) (hE : ∀ y n a M' Q', zT (d + 1) y n a M' Q' → E y n a M' Q') (h : K [] [some (.ref 0)] (zi3, zj3, zr3, 16)) : zXk 46 E Q At K qX9_init_12 [] [some (.ref 0)] (zi2, zj2, zr2, 10) := by
  refine hE _ _ _ _ _ (i_X2_init d _ _ _ (fun _ => 0) (fun _ => none) _ rfl rfl ?_)
  exact h
def zi4 : Nat → Nat → Int32 := (va_up (va_up (va_up (va_up (va_up (va_up (va_up zi3 16 (fun _ => 0)) 16 (va_up (fun _ => 0) 0 20)) 16 (va_up (va_up (fun _ => 0) 0 20) 1 500)) 16 (va_up (va_up (va_up (fun _ => 0) 0 20) 1 500) 2 300)) 16 (va_up (va_up (va_up (va_up (fun _ => 0) 0 20) 1 500) 2 300) 3 400)) 16 (va_up (va_up (va_up (va_up (va_up (fun _ => 0) 0 20) 1 500) 2 300) 3 400) 4 5)) 16 (va_up (va_up (va_up (va_up (va_up (va_up (fun _ => 0) 0 20) 1 500) 2 300) 3 400) 4 5) 5 5))
def zj4 : Nat → Nat → Int64 := (va_up zj3 16 (fun _ => 0))
def zr4 : Nat → Nat → Option Nat := (va_up (va_up zr3 16 (fun _ => none)) 0 (va_up (zr3 0) 3 (some 16)))
def qX9_init_17 : zB := [(oAl 0, 38), (oI 6, 40), (oNewA 0, 42), (oDup, 43), (oI 0, 44), (oI 20, 46), (oSt, 47), (oDup, 48), (oI 1, 49), (oI 500, 52), (oSt, 53), (oDup, 54), (oI 2, 55), (oI 300, 58), (oSt, 59), (oDup, 60), (oI 3, 61), (oI 400, 64), (oSt, 65), (oDup, 66), (oI 4, 67), (oI 5, 68), (oSt, 69), (oDup, 70), (oI 5, 71), (oI 5, 72), (oSt, 73), (oPR 9 3, 76)]
set_option maxRecDepth 20000 in
theorem iq_X9_init_17 (d : Nat) (E : zE) (At : Nat → zC) (Q : Option Value → zM → Prop) (K : zC) (hE : ∀ y n a M' Q', zT (d + 1) y n a M' Q' → E y n a M' Q') (h : K [] [some (.ref 0)] (zi4, zj4, zr4, 17)) : zXk 46 E Q At K qX9_init_17 [] [some (.ref 0)] (zi3, zj3, zr3, 16) := by
  refine And.intro rfl ?_
  refine And.intro zvl_0_6 ?_
  refine And.intro zvl_1_6 ?_
  refine And.intro zvl_2_6 ?_
  refine And.intro zvl_3_6 ?_
  refine And.intro zvl_4_6 ?_
  refine And.intro zvl_5_6 ?_
  exact h
def zi5 : Nat → Nat → Int32 := (va_up (va_up (va_up (va_up (va_up (va_up (va_up (va_up (va_up zi4 17 (fun _ => 0)) 17 (va_up (fun _ => 0) 0 0)) 17 (va_up (va_up (fun _ => 0) 0 0) 1 0)) 17 (va_up (va_up (va_up (fun _ => 0) 0 0) 1 0) 2 0)) 17 (va_up (va_up (va_up (va_up (fun _ => 0) 0 0) 1 0) 2 0) 3 0)) 17 (va_up (va_up (va_up (va_up (va_up (fun _ => 0) 0 0) 1 0) 2 0) 3 0) 4 0)) 17 (va_up (va_up (va_up (va_up (va_up (va_up (fun _ => 0) 0 0) 1 0) 2 0) 3 0) 4 0) 5 0)) 17 (va_up (va_up (va_up (va_up (va_up (va_up (va_up (fun _ => 0) 0 0) 1 0) 2 0) 3 0) 4 0) 5 0) 6 0)) 17 (va_up (va_up (va_up (va_up (va_up (va_up (va_up (va_up (fun _ => 0) 0 0) 1 0) 2 0) 3 0) 4 0) 5 0) 6 0) 7 0))
def zj5 : Nat → Nat → Int64 := (va_up zj4 17 (fun _ => 0))
def zr5 : Nat → Nat → Option Nat := (va_up (va_up zr4 17 (fun _ => none)) 0 (va_up (zr4 0) 4 (some 17)))
def qX9_init_45 : zB := [(oAl 0, 77), (oNew 8, 80), (oDup, 81), (oNi 49 18, 84), (oPR 9 4, 87)]
set_option maxRecDepth 20000 in
theorem iq_X9_init_45 (d : Nat) (E : zE) (At : Nat → zC) (Q : Option Value → zM → Prop) (K : zC) (hE : ∀ y n a M' Q', zT (d + 1) y n a M' Q' → E y n a M' Q') (h : K [] [some (.ref 0)] (zi5, zj5, zr5, 18)) : zXk 46 E Q At K qX9_init_45 [] [some (.ref 0)] (zi4, zj4, zr4, 17) := by
  refine hE _ _ _ _ _ (i_X8_init d _ _ _ (fun _ => 0) (fun _ => none) _ rfl rfl ?_)
  exact h
def zi6 : Nat → Nat → Int32 := (va_up (va_up (va_up (va_up (va_up (va_up zi5 18 (fun _ => 0)) 19 (fun _ => 0)) 18 (va_up (fun _ => 0) 1 0)) 20 (fun _ => 0)) 21 (fun _ => 0)) 18 (va_up (va_up (fun _ => 0) 1 0) 4 0))
def zj6 : Nat → Nat → Int64 := (va_up (va_up (va_up (va_up zj5 18 (fun _ => 0)) 19 (fun _ => 0)) 20 (fun _ => 0)) 21 (fun _ => 0))
def zr6 : Nat → Nat → Option Nat := (va_up (va_up (va_up (va_up (va_up (va_up (va_up (va_up zr5 18 (fun _ => none)) 19 (fun _ => none)) 18 (va_up (fun _ => none) 0 (some 19))) 20 (fun _ => none)) 18 (va_up (va_up (fun _ => none) 0 (some 19)) 2 (some 20))) 21 (fun _ => none)) 18 (va_up (va_up (va_up (fun _ => none) 0 (some 19)) 2 (some 20)) 3 (some 21))) 0 (va_up (zr5 0) 5 (some 18)))
def qX9_init_50 : zB := [(oAl 0, 88), (oNew 4, 91), (oDup, 92), (oNi 25 22, 95), (oPR 9 5, 98)]
set_option maxRecDepth 20000 in
theorem iq_X9_init_50 (d : Nat) (E : zE) (At : Nat → zC) (Q : Option Value → zM → Prop) (K : zC) (hE : ∀ y n a M' Q', zT (d + 1) y n a M' Q' → E y n a M' Q') (h : K [] [some (.ref 0)] (zi6, zj6, zr6, 22)) : zXk 46 E Q At K qX9_init_50 [] [some (.ref 0)] (zi5, zj5, zr5, 18) := by
  refine hE _ _ _ _ _ (i_X4_init d _ _ _ (fun _ => 0) (fun _ => none) _ rfl rfl ?_)
  exact h
def zi7 : Nat → Nat → Int32 := (va_up (va_up (va_up (va_up (va_up (va_up (va_up (va_up (va_up (va_up (va_up (va_up (va_up zi6 22 (fun _ => 0)) 23 (fun _ => 0)) 24 (fun _ => 0)) 25 (fun _ => 0)) 26 (fun _ => 0)) 27 (fun _ => 0)) 28 (fun _ => 0)) 29 (fun _ => 0)) 30 (fun _ => 0)) 31 (fun _ => 0)) 32 (fun _ => 0)) 22 (va_up (fun _ => 0) 10 0)) 22 (va_up (va_up (fun _ => 0) 10 0) 11 (-1)))
def zj7 : Nat → Nat → Int64 := (va_up (va_up (va_up (va_up (va_up (va_up (va_up (va_up (va_up (va_up (va_up zj6 22 (fun _ => 0)) 23 (fun _ => 0)) 24 (fun _ => 0)) 25 (fun _ => 0)) 26 (fun _ => 0)) 27 (fun _ => 0)) 28 (fun _ => 0)) 29 (fun _ => 0)) 30 (fun _ => 0)) 31 (fun _ => 0)) 32 (fun _ => 0))
def zr7 : Nat → Nat → Option Nat := (va_up (va_up (va_up (va_up (va_up (va_up (va_up (va_up (va_up (va_up (va_up (va_up (va_up (va_up (va_up (va_up (va_up (va_up (va_up (va_up (va_up (va_up zr6 22 (fun _ => none)) 23 (fun _ => none)) 22 (va_up (fun _ => none) 0 (some 23))) 24 (fun _ => none)) 22 (va_up (va_up (fun _ => none) 0 (some 23)) 1 (some 24))) 25 (fun _ => none)) 22 (va_up (va_up (va_up (fun _ => none) 0 (some 23)) 1 (some 24)) 2 (some 25))) 26 (fun _ => none)) 22 (va_up (va_up (va_up (va_up (fun _ => none) 0 (some 23)) 1 (some 24)) 2 (some 25)) 3 (some 26))) 27 (fun _ => none)) 22 (va_up (va_up (va_up (va_up (va_up (fun _ => none) 0 (some 23)) 1 (some 24)) 2 (some 25)) 3 (some 26)) 4 (some 27))) 28 (fun _ => none)) 22 (va_up (va_up (va_up (va_up (va_up (va_up (fun _ => none) 0 (some 23)) 1 (some 24)) 2 (some 25)) 3 (some 26)) 4 (some 27)) 5 (some 28))) 29 (fun _ => none)) 22 (va_up (va_up (va_up (va_up (va_up (va_up (va_up (fun _ => none) 0 (some 23)) 1 (some 24)) 2 (some 25)) 3 (some 26)) 4 (some 27)) 5 (some 28)) 6 (some 29))) 30 (fun _ => none)) 22 (va_up (va_up (va_up (va_up (va_up (va_up (va_up (va_up (fun _ => none) 0 (some 23)) 1 (some 24)) 2 (some 25)) 3 (some 26)) 4 (some 27)) 5 (some 28)) 6 (some 29)) 7 (some 30))) 31 (fun _ => none)) 22 (va_up (va_up (va_up (va_up (va_up (va_up (va_up (va_up (va_up (fun _ => none) 0 (some 23)) 1 (some 24)) 2 (some 25)) 3 (some 26)) 4 (some 27)) 5 (some 28)) 6 (some 29)) 7 (some 30)) 8 (some 31))) 32 (fun _ => none)) 22 (va_up (va_up (va_up (va_up (va_up (va_up (va_up (va_up (va_up (va_up (fun _ => none) 0 (some 23)) 1 (some 24)) 2 (some 25)) 3 (some 26)) 4 (some 27)) 5 (some 28)) 6 (some 29)) 7 (some 30)) 8 (some 31)) 9 (some 32))) 0 (va_up (zr6 0) 6 (some 22)))
def qX9_init_55 : zB := [(oAl 0, 99), (oNew 1, 102), (oDup, 103), (oNi 2 33, 106), (oPR 9 6, 109)]
set_option maxRecDepth 20000 in
theorem iq_X9_init_55 (d : Nat) (E : zE) (At : Nat → zC) (Q : Option Value → zM → Prop) (K : zC) (hE : ∀ y n a M' Q', zT (d + 1) y n a M' Q' → E y n a M' Q') (h : K [] [some (.ref 0)] (zi7, zj7, zr7, 33)) : zXk 46 E Q At K qX9_init_55 [] [some (.ref 0)] (zi6, zj6, zr6, 22) := by
  refine hE _ _ _ _ _ (i_X1_init d _ _ _ (fun _ => 0) (fun _ => none) _ rfl rfl ?_)
  exact h
def zi8 : Nat → Nat → Int32 := (va_up (va_up (va_up (va_up (va_up (va_up (va_up (va_up zi7 33 (fun _ => 0)) 33 (va_up (fun _ => 0) 0 0)) 33 (va_up (va_up (fun _ => 0) 0 0) 1 0)) 33 (va_up (va_up (va_up (fun _ => 0) 0 0) 1 0) 2 0)) 33 (va_up (va_up (va_up (va_up (fun _ => 0) 0 0) 1 0) 2 0) 3 0)) 33 (va_up (va_up (va_up (va_up (va_up (fun _ => 0) 0 0) 1 0) 2 0) 3 0) 4 0)) 33 (va_up (va_up (va_up (va_up (va_up (va_up (fun _ => 0) 0 0) 1 0) 2 0) 3 0) 4 0) 5 0)) 33 (va_up (va_up (va_up (va_up (va_up (va_up (va_up (fun _ => 0) 0 0) 1 0) 2 0) 3 0) 4 0) 5 0) 6 0))
def zj8 : Nat → Nat → Int64 := (va_up zj7 33 (fun _ => 0))
def zr8 : Nat → Nat → Option Nat := (va_up (va_up zr7 33 (fun _ => none)) 0 (va_up (zr7 0) 7 (some 33)))
def qX9_init_60 : zB := [(oAl 0, 110), (oNew 0, 113), (oDup, 114), (oNi 0 34, 117), (oPR 9 7, 120)]
set_option maxRecDepth 20000 in
theorem iq_X9_init_60 (d : Nat) (E : zE) (At : Nat → zC) (Q : Option Value → zM → Prop) (K : zC) (hE : ∀ y n a M' Q', zT (d + 1) y n a M' Q' → E y n a M' Q') (h : K [] [some (.ref 0)] (zi8, zj8, zr8, 34)) : zXk 46 E Q At K qX9_init_60 [] [some (.ref 0)] (zi7, zj7, zr7, 33) := by
  refine hE _ _ _ _ _ (i_X0_init d _ _ _ (fun _ => 0) (fun _ => none) _ rfl rfl ?_)
  exact h
def zi9 : Nat → Nat → Int32 := (va_up zi8 34 (fun _ => 0))
def zj9 : Nat → Nat → Int64 := (va_up zj8 34 (fun _ => 0))
def zr9 : Nat → Nat → Option Nat := (va_up (va_up zr8 34 (fun _ => none)) 0 (va_up (zr8 0) 8 (some 34)))
def qX9_init_65 : zB := [(oAl 0, 121), (oI 6, 123), (oNewA 0, 125), (oPR 9 8, 128)]
set_option maxRecDepth 20000 in
theorem iq_X9_init_65 (d : Nat) (E : zE) (At : Nat → zC) (Q : Option Value → zM → Prop) (K : zC) (hE : ∀ y n a M' Q', zT (d + 1) y n a M' Q' → E y n a M' Q') (h : K [] [some (.ref 0)] (zi9, zj9, zr9, 35)) : zXk 46 E Q At K qX9_init_65 [] [some (.ref 0)] (zi8, zj8, zr8, 34) := by
  refine And.intro rfl ?_
  exact h
def zi10 : Nat → Nat → Int32 := (va_up (va_up (va_up (va_up (va_up (va_up (va_up (va_up (va_up (va_up (va_up (va_up zi9 35 (fun _ => 0)) 36 (fun _ => 0)) 35 (va_up (fun _ => 0) 1 0)) 35 (va_up (va_up (fun _ => 0) 1 0) 2 0)) 37 (fun _ => 0)) 38 (fun _ => 0)) 39 (fun _ => 0)) 40 (fun _ => 0)) 41 (fun _ => 0)) 35 (va_up (va_up (va_up (fun _ => 0) 1 0) 2 0) 8 2)) 35 (va_up (va_up (va_up (va_up (fun _ => 0) 1 0) 2 0) 8 2) 9 0)) 35 (va_up (va_up (va_up (va_up (va_up (fun _ => 0) 1 0) 2 0) 8 2) 9 0) 10 0))
def zj10 : Nat → Nat → Int64 := (va_up (va_up (va_up (va_up (va_up (va_up (va_up zj9 35 (fun _ => 0)) 36 (fun _ => 0)) 37 (fun _ => 0)) 38 (fun _ => 0)) 39 (fun _ => 0)) 40 (fun _ => 0)) 41 (fun _ => 0))
def zr10 : Nat → Nat → Option Nat := (va_up (va_up (va_up (va_up (va_up (va_up (va_up (va_up (va_up (va_up (va_up (va_up (va_up (va_up zr9 35 (fun _ => none)) 36 (fun _ => none)) 35 (va_up (fun _ => none) 0 (some 36))) 37 (fun _ => none)) 35 (va_up (va_up (fun _ => none) 0 (some 36)) 3 (some 37))) 38 (fun _ => none)) 35 (va_up (va_up (va_up (fun _ => none) 0 (some 36)) 3 (some 37)) 4 (some 38))) 39 (fun _ => none)) 35 (va_up (va_up (va_up (va_up (fun _ => none) 0 (some 36)) 3 (some 37)) 4 (some 38)) 5 (some 39))) 40 (fun _ => none)) 35 (va_up (va_up (va_up (va_up (va_up (fun _ => none) 0 (some 36)) 3 (some 37)) 4 (some 38)) 5 (some 39)) 6 (some 40))) 41 (fun _ => none)) 35 (va_up (va_up (va_up (va_up (va_up (va_up (fun _ => none) 0 (some 36)) 3 (some 37)) 4 (some 38)) 5 (some 39)) 6 (some 40)) 7 (some 41))) 0 (va_up (zr9 0) 9 (some 35)))
def qX9_init_69 : zB := [(oAl 0, 129), (oNew 5, 132), (oDup, 133), (oNi 31 42, 136), (oPR 9 9, 139)]
set_option maxRecDepth 20000 in
theorem iq_X9_init_69 (d : Nat) (E : zE) (At : Nat → zC) (Q : Option Value → zM → Prop) (K : zC) (hE : ∀ y n a M' Q', zT (d + 1) y n a M' Q' → E y n a M' Q') (h : K [] [some (.ref 0)] (zi10, zj10, zr10, 42)) : zXk 46 E Q At K qX9_init_69 [] [some (.ref 0)] (zi9, zj9, zr9, 35) := by
  refine hE _ _ _ _ _ (i_X5_init d _ _ _ (fun _ => 0) (fun _ => none) _ rfl rfl ?_)
  exact h
def zi11 : Nat → Nat → Int32 := (va_up (va_up (va_up (va_up (va_up (va_up (va_up (va_up (va_up zi10 42 (fun _ => 0)) 43 (fun _ => 0)) 42 (va_up (fun _ => 0) 1 0)) 44 (fun _ => 0)) 45 (fun _ => 0)) 45 (va_up (fun _ => 0) 0 (-1))) 45 (va_up (va_up (fun _ => 0) 0 (-1)) 1 (-1))) 45 (va_up (va_up (va_up (fun _ => 0) 0 (-1)) 1 (-1)) 2 (-1))) 45 (va_up (va_up (va_up (va_up (fun _ => 0) 0 (-1)) 1 (-1)) 2 (-1)) 3 (-1)))
def zj11 : Nat → Nat → Int64 := (va_up (va_up (va_up (va_up zj10 42 (fun _ => 0)) 43 (fun _ => 0)) 44 (fun _ => 0)) 45 (fun _ => 0))
def zr11 : Nat → Nat → Option Nat := (va_up (va_up (va_up (va_up (va_up (va_up (va_up (va_up zr10 42 (fun _ => none)) 43 (fun _ => none)) 42 (va_up (fun _ => none) 0 (some 43))) 44 (fun _ => none)) 42 (va_up (va_up (fun _ => none) 0 (some 43)) 2 (some 44))) 45 (fun _ => none)) 42 (va_up (va_up (va_up (fun _ => none) 0 (some 43)) 2 (some 44)) 3 (some 45))) 0 (va_up (zr10 0) 10 (some 42)))
def qX9_init_74 : zB := [(oAl 0, 140), (oNew 7, 143), (oDup, 144), (oNi 41 46, 147), (oPR 9 10, 150)]
set_option maxRecDepth 20000 in
theorem iq_X9_init_74 (d : Nat) (E : zE) (At : Nat → zC) (Q : Option Value → zM → Prop) (K : zC) (hE : ∀ y n a M' Q', zT (d + 1) y n a M' Q' → E y n a M' Q') (h : K [] [some (.ref 0)] (zi11, zj11, zr11, 46)) : zXk 46 E Q At K qX9_init_74 [] [some (.ref 0)] (zi10, zj10, zr10, 42) := by
  refine hE _ _ _ _ _ (i_X7_init d _ _ _ (fun _ => 0) (fun _ => none) _ rfl rfl ?_)
  exact h
def zi12 : Nat → Nat → Int32 := (va_up zi11 0 (va_up (zi11 0) 11 0))
def zj12 : Nat → Nat → Int64 := zj11
def zr12 : Nat → Nat → Option Nat := zr11
def qX9_init_79 : zB := [(oAl 0, 151), (oI 0, 152), (oPI 9 11, 155)]
set_option maxRecDepth 20000 in
theorem iq_X9_init_79 (d : Nat) (E : zE) (At : Nat → zC) (Q : Option Value → zM → Prop) (K : zC) (hE : ∀ y n a M' Q', zT (d + 1) y n a M' Q' → E y n a M' Q') (h : K [] [some (.ref 0)] (zi12, zj12, zr12, 46)) : zXk 46 E Q At K qX9_init_79 [] [some (.ref 0)] (zi11, zj11, zr11, 46) := by
  exact h
def zi13 : Nat → Nat → Int32 := (va_up zi12 0 (va_up (zi12 0) 12 0))
def zj13 : Nat → Nat → Int64 := zj12
def zr13 : Nat → Nat → Option Nat := zr12
def qX9_init_82 : zB := [(oAl 0, 156), (oI 0, 157), (oPI 9 12, 160)]
set_option maxRecDepth 20000 in
theorem iq_X9_init_82 (d : Nat) (E : zE) (At : Nat → zC) (Q : Option Value → zM → Prop) (K : zC) (hE : ∀ y n a M' Q', zT (d + 1) y n a M' Q' → E y n a M' Q') (h : K [] [some (.ref 0)] (zi13, zj13, zr13, 46)) : zXk 46 E Q At K qX9_init_82 [] [some (.ref 0)] (zi12, zj12, zr12, 46) := by
  exact h
def zi14 : Nat → Nat → Int32 := (va_up zi13 0 (va_up (zi13 0) 13 100000))
def zj14 : Nat → Nat → Int64 := zj13
def zr14 : Nat → Nat → Option Nat := zr13
def qX9_init_85 : zB := [(oAl 0, 161), (oI 100000, 163), (oPI 9 13, 166)]
set_option maxRecDepth 20000 in
theorem iq_X9_init_85 (d : Nat) (E : zE) (At : Nat → zC) (Q : Option Value → zM → Prop) (K : zC) (hE : ∀ y n a M' Q', zT (d + 1) y n a M' Q' → E y n a M' Q') (h : K [] [some (.ref 0)] (zi14, zj14, zr14, 46)) : zXk 46 E Q At K qX9_init_85 [] [some (.ref 0)] (zi13, zj13, zr13, 46) := by
  exact h
def zi15 : Nat → Nat → Int32 := (va_up zi14 0 (va_up (zi14 0) 14 0))
def zj15 : Nat → Nat → Int64 := zj14
def zr15 : Nat → Nat → Option Nat := zr14
def qX9_init_88 : zB := [(oAl 0, 167), (oI 0, 168), (oPI 9 14, 171), (oRV, 172)]
set_option maxRecDepth 20000 in
theorem iq_X9_init_88 (d : Nat) (E : zE) (At : Nat → zC) (Q : Option Value → zM → Prop) (K : zC) (hE : ∀ y n a M' Q', zT (d + 1) y n a M' Q' → E y n a M' Q') (h : Q none (zi15, zj15, zr15, 46)) : zXk 46 E Q At K qX9_init_88 [] [some (.ref 0)] (zi14, zj14, zr14, 46) := by
  exact h
set_option maxRecDepth 20000 in
theorem zlq_X9_init : zlk B_X9_init 0 = qX9_init_0 ++ (qX9_init_7 ++ (qX9_init_12 ++ (qX9_init_17 ++ (qX9_init_45 ++ (qX9_init_50 ++ (qX9_init_55 ++ (qX9_init_60 ++ (qX9_init_65 ++ (qX9_init_69 ++ (qX9_init_74 ++ (qX9_init_79 ++ (qX9_init_82 ++ (qX9_init_85 ++ (qX9_init_88 ++ [])))))))))))))) := rfl
set_option maxRecDepth 20000 in
theorem w_X9_init (d : Nat) (Q : Option Value → zM → Prop) (h : Q none (zi15, zj15, zr15, 46)) : zT (d + 2) 52 46 [.ref 0] (zi0, zj0, zr0, 1) Q := by
  refine ⟨rfl, fun E At hE hC => ?_⟩
  replace hC : ∀ pc st L M', zX 46 E Q At (zlk B_X9_init pc) st L M' → At pc st L M' := hC
  refine hC 0 [] [some (.ref 0)] _ ?_
  rw [zlq_X9_init]
  rw [zXk_app]
  refine iq_X9_init_0 d E At Q _ hE ?_
  rw [zXk_app]
  refine iq_X9_init_7 d E At Q _ hE ?_
  rw [zXk_app]
  refine iq_X9_init_12 d E At Q _ hE ?_
  rw [zXk_app]
  refine iq_X9_init_17 d E At Q _ hE ?_
  rw [zXk_app]
  refine iq_X9_init_45 d E At Q _ hE ?_
  rw [zXk_app]
  refine iq_X9_init_50 d E At Q _ hE ?_
  rw [zXk_app]
  refine iq_X9_init_55 d E At Q _ hE ?_
  rw [zXk_app]
  refine iq_X9_init_60 d E At Q _ hE ?_
  rw [zXk_app]
  refine iq_X9_init_65 d E At Q _ hE ?_
  rw [zXk_app]
  refine iq_X9_init_69 d E At Q _ hE ?_
  rw [zXk_app]
  refine iq_X9_init_74 d E At Q _ hE ?_
  rw [zXk_app]
  refine iq_X9_init_79 d E At Q _ hE ?_
  rw [zXk_app]
  refine iq_X9_init_82 d E At Q _ hE ?_
  rw [zXk_app]
  refine iq_X9_init_85 d E At Q _ hE ?_
  rw [zXk_app]
  exact iq_X9_init_88 d E At Q _ hE h
