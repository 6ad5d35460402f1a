def zi16 : Nat → Nat → Int32 := (va_up zi15 46 (fun _ => 0))
def zj16 : Nat → Nat → Int64 := (va_up zj15 46 (fun _ => 0))
def zr16 : Nat → Nat → Option Nat := (va_up zr15 46 (fun _ => none))
def zi17 : Nat → Nat → Int32 := (va_up (va_up (va_up zi16 47 (fun _ => 0)) 48 (fun _ => 0)) 49 (fun _ => 0))
def zj17 : Nat → Nat → Int64 := (va_up (va_up (va_up zj16 47 (fun _ => 0)) 48 (fun _ => 0)) 49 (fun _ => 0))
def zr17 : Nat → Nat → Option Nat := (va_up (va_up (va_up (va_up (va_up (va_up zr16 47 (fun _ => none)) 46 (va_up (zr16 46) 0 (some 47))) 48 (fun _ => none)) 46 (va_up (va_up (zr16 46) 0 (some 47)) 2 (some 48))) 49 (fun _ => none)) 46 (va_up (va_up (va_up (zr16 46) 0 (some 47)) 2 (some 48)) 3 (some 49)))
def qX10_init_0 : zB := [(oAl 0, 1), (oObj, 4), (oAl 0, 5), (oI 6, 7), (oNewA 0, 9), (oPR 10 0, 12), (oAl 0, 13), (oI 8, 15), (oNewA 0, 17), (oPR 10 2, 20), (oAl 0, 21), (oI 8, 23), (oNewA 0, 25), (oPR 10 3, 28)]
set_option maxRecDepth 20000 in
theorem iq_X10_init_0 (d : Nat) (E : zE) (At : Nat → zC) (Q : Option Value → zM → Prop) (K : zC) (hE : ∀ y n a M' Q', zT (d + 1) y n a M' Q' → E y n a M' Q') (h : K [] [some (.ref 46), none] (zi17, zj17, zr17, 50)) : zXk 81 E Q At K qX10_init_0 [] [some (.ref 46), none] (zi16, zj16, zr16, 47) := by
  refine And.intro rfl ?_
  refine And.intro rfl ?_
  refine And.intro rfl ?_
  exact h
def zi18 : Nat → Nat → Int32 := (va_up (va_up (va_up zi17 50 (fun _ => 0)) 51 (fun _ => 0)) 52 (fun _ => 0))
def zj18 : Nat → Nat → Int64 := (va_up (va_up (va_up zj17 50 (fun _ => 0)) 51 (fun _ => 0)) 52 (fun _ => 0))
def zr18 : Nat → Nat → Option Nat := (va_up (va_up (va_up (va_up (va_up (va_up zr17 50 (fun _ => none)) 46 (va_up (zr17 46) 4 (some 50))) 51 (fun _ => none)) 46 (va_up (va_up (zr17 46) 4 (some 50)) 5 (some 51))) 52 (fun _ => none)) 46 (va_up (va_up (va_up (zr17 46) 4 (some 50)) 5 (some 51)) 7 (some 52)))
def qX10_init_14 : zB := [(oAl 0, 29), (oI 8, 31), (oNewA 0, 33), (oPR 10 4, 36), (oAl 0, 37), (oI 8, 39), (oNewA 0, 41), (oPR 10 5, 44), (oAl 0, 45), (oI 12, 47), (oNewA 0, 49), (oPR 10 7, 52)]
set_option maxRecDepth 20000 in
theorem iq_X10_init_14 (d : Nat) (E : zE) (At : Nat → zC) (Q : Option Value → zM → Prop) (K : zC) (hE : ∀ y n a M' Q', zT (d + 1) y n a M' Q' → E y n a M' Q') (h : K [] [some (.ref 46), none] (zi18, zj18, zr18, 53)) : zXk 81 E Q At K qX10_init_14 [] [some (.ref 46), none] (zi17, zj17, zr17, 50) := by
  refine And.intro rfl ?_
  refine And.intro rfl ?_
  refine And.intro rfl ?_
  exact h
def zi19 : Nat → Nat → Int32 := (va_up (va_up (va_up zi18 53 (fun _ => 0)) 54 (fun _ => 0)) 55 (fun _ => 0))
def zj19 : Nat → Nat → Int64 := (va_up (va_up (va_up zj18 53 (fun _ => 0)) 54 (fun _ => 0)) 55 (fun _ => 0))
def zr19 : Nat → Nat → Option Nat := (va_up (va_up (va_up (va_up (va_up (va_up zr18 53 (fun _ => none)) 46 (va_up (zr18 46) 8 (some 53))) 54 (fun _ => none)) 46 (va_up (va_up (zr18 46) 8 (some 53)) 9 (some 54))) 55 (fun _ => none)) 46 (va_up (va_up (va_up (zr18 46) 8 (some 53)) 9 (some 54)) 10 (some 55)))
def qX10_init_26 : zB := [(oAl 0, 53), (oI 12, 55), (oNewA 0, 57), (oPR 10 8, 60), (oAl 0, 61), (oI 12, 63), (oNewA 0, 65), (oPR 10 9, 68), (oAl 0, 69), (oI 12, 71), (oNewA 0, 73), (oPR 10 10, 76)]
set_option maxRecDepth 20000 in
theorem iq_X10_init_26 (d : Nat) (E : zE) (At : Nat → zC) (Q : Option Value → zM → Prop) (K : zC) (hE : ∀ y n a M' Q', zT (d + 1) y n a M' Q' → E y n a M' Q') (h : K [] [some (.ref 46), none] (zi19, zj19, zr19, 56)) : zXk 81 E Q At K qX10_init_26 [] [some (.ref 46), none] (zi18, zj18, zr18, 53) := by
  refine And.intro rfl ?_
  refine And.intro rfl ?_
  refine And.intro rfl ?_
  exact h
def zi20 : Nat → Nat → Int32 := (va_up (va_up (va_up zi19 56 (fun _ => 0)) 57 (fun _ => 0)) 58 (fun _ => 0))
def zj20 : Nat → Nat → Int64 := (va_up (va_up (va_up zj19 56 (fun _ => 0)) 57 (fun _ => 0)) 58 (fun _ => 0))
def zr20 : Nat → Nat → Option Nat := (va_up (va_up (va_up (va_up (va_up (va_up zr19 56 (fun _ => none)) 46 (va_up (zr19 46) 11 (some 56))) 57 (fun _ => none)) 46 (va_up (va_up (zr19 46) 11 (some 56)) 14 (some 57))) 58 (fun _ => none)) 46 (va_up (va_up (va_up (zr19 46) 11 (some 56)) 14 (some 57)) 15 (some 58)))
def qX10_init_38 : zB := [(oAl 0, 77), (oI 12, 79), (oNewA 0, 81), (oPR 10 11, 84), (oAl 0, 85), (oI 200, 88), (oNewA 0, 90), (oPR 10 14, 93), (oAl 0, 94), (oI 200, 97), (oNewA 0, 99), (oPR 10 15, 102)]
set_option maxRecDepth 20000 in
theorem iq_X10_init_38 (d : Nat) (E : zE) (At : Nat → zC) (Q : Option Value → zM → Prop) (K : zC) (hE : ∀ y n a M' Q', zT (d + 1) y n a M' Q' → E y n a M' Q') (h : K [] [some (.ref 46), none] (zi20, zj20, zr20, 59)) : zXk 81 E Q At K qX10_init_38 [] [some (.ref 46), none] (zi19, zj19, zr19, 56) := by
  refine And.intro rfl ?_
  refine And.intro rfl ?_
  refine And.intro rfl ?_
  exact h
def zi21 : Nat → Nat → Int32 := (va_up (va_up (va_up zi20 59 (fun _ => 0)) 60 (fun _ => 0)) 61 (fun _ => 0))
def zj21 : Nat → Nat → Int64 := (va_up (va_up (va_up zj20 59 (fun _ => 0)) 60 (fun _ => 0)) 61 (fun _ => 0))
def zr21 : Nat → Nat → Option Nat := (va_up (va_up (va_up (va_up (va_up (va_up zr20 59 (fun _ => none)) 46 (va_up (zr20 46) 16 (some 59))) 60 (fun _ => none)) 46 (va_up (va_up (zr20 46) 16 (some 59)) 17 (some 60))) 61 (fun _ => none)) 46 (va_up (va_up (va_up (zr20 46) 16 (some 59)) 17 (some 60)) 18 (some 61)))
def qX10_init_50 : zB := [(oAl 0, 103), (oI 200, 106), (oNewA 0, 108), (oPR 10 16, 111), (oAl 0, 112), (oI 200, 115), (oNewA 0, 117), (oPR 10 17, 120), (oAl 0, 121), (oI 200, 124), (oNewA 0, 126), (oPR 10 18, 129)]
set_option maxRecDepth 20000 in
theorem iq_X10_init_50 (d : Nat) (E : zE) (At : Nat → zC) (Q : Option Value → zM → Prop) (K : zC) (hE : ∀ y n a M' Q', zT (d + 1) y n a M' Q' → E y n a M' Q') (h : K [] [some (.ref 46), none] (zi21, zj21, zr21, 62)) : zXk 81 E Q At K qX10_init_50 [] [some (.ref 46), none] (zi20, zj20, zr20, 59) := by
  refine And.intro rfl ?_
  refine And.intro rfl ?_
  refine And.intro rfl ?_
  exact h
def zi22 : Nat → Nat → Int32 := (va_up (va_up (va_up zi21 62 (fun _ => 0)) 63 (fun _ => 0)) 64 (fun _ => 0))
def zj22 : Nat → Nat → Int64 := (va_up (va_up (va_up zj21 62 (fun _ => 0)) 63 (fun _ => 0)) 64 (fun _ => 0))
def zr22 : Nat → Nat → Option Nat := (va_up (va_up (va_up (va_up (va_up (va_up zr21 62 (fun _ => none)) 46 (va_up (zr21 46) 19 (some 62))) 63 (fun _ => none)) 46 (va_up (va_up (zr21 46) 19 (some 62)) 20 (some 63))) 64 (fun _ => none)) 46 (va_up (va_up (va_up (zr21 46) 19 (some 62)) 20 (some 63)) 21 (some 64)))
def qX10_init_62 : zB := [(oAl 0, 130), (oI 200, 133), (oNewA 0, 135), (oPR 10 19, 138), (oAl 0, 139), (oI 200, 142), (oNewA 0, 144), (oPR 10 20, 147), (oAl 0, 148), (oI 200, 151), (oNewA 0, 153), (oPR 10 21, 156)]
set_option maxRecDepth 20000 in
theorem iq_X10_init_62 (d : Nat) (E : zE) (At : Nat → zC) (Q : Option Value → zM → Prop) (K : zC) (hE : ∀ y n a M' Q', zT (d + 1) y n a M' Q' → E y n a M' Q') (h : K [] [some (.ref 46), none] (zi22, zj22, zr22, 65)) : zXk 81 E Q At K qX10_init_62 [] [some (.ref 46), none] (zi21, zj21, zr21, 62) := by
  refine And.intro rfl ?_
  refine And.intro rfl ?_
  refine And.intro rfl ?_
  exact h
def zi23 : Nat → Nat → Int32 := (va_up (va_up (va_up zi22 46 (va_up (zi22 46) 22 (-1))) 46 (va_up (va_up (zi22 46) 22 (-1)) 23 (-1))) 65 (fun _ => 0))
def zj23 : Nat → Nat → Int64 := (va_up zj22 65 (fun _ => 0))
def zr23 : Nat → Nat → Option Nat := (va_up (va_up zr22 65 (fun _ => none)) 46 (va_up (zr22 46) 24 (some 65)))
def qX10_init_74 : zB := [(oAl 0, 157), (oI (-1), 158), (oPI 10 22, 161), (oAl 0, 162), (oI (-1), 163), (oPI 10 23, 166), (oAl 0, 167), (oI 7, 169), (oNewA 1, 171), (oPR 10 24, 174)]
set_option maxRecDepth 20000 in
theorem iq_X10_init_74 (d : Nat) (E : zE) (At : Nat → zC) (Q : Option Value → zM → Prop) (K : zC) (hE : ∀ y n a M' Q', zT (d + 1) y n a M' Q' → E y n a M' Q') (h : K [] [some (.ref 46), none] (zi23, zj23, zr23, 66)) : zXk 81 E Q At K qX10_init_74 [] [some (.ref 46), none] (zi22, zj22, zr22, 65) := by
  refine And.intro rfl ?_
  exact h
def zi24 : Nat → Nat → Int32 := (va_up (va_up (va_up zi23 66 (fun _ => 0)) 67 (fun _ => 0)) 68 (fun _ => 0))
def zj24 : Nat → Nat → Int64 := (va_up (va_up (va_up zj23 66 (fun _ => 0)) 67 (fun _ => 0)) 68 (fun _ => 0))
def zr24 : Nat → Nat → Option Nat := (va_up (va_up (va_up (va_up (va_up (va_up zr23 66 (fun _ => none)) 46 (va_up (zr23 46) 25 (some 66))) 67 (fun _ => none)) 46 (va_up (va_up (zr23 46) 25 (some 66)) 26 (some 67))) 68 (fun _ => none)) 46 (va_up (va_up (va_up (zr23 46) 25 (some 66)) 26 (some 67)) 27 (some 68)))
def qX10_init_84 : zB := [(oAl 0, 175), (oI 8, 177), (oNewA 0, 179), (oPR 10 25, 182), (oAl 0, 183), (oI 24, 185), (oNewA 0, 187), (oPR 10 26, 190), (oAl 0, 191), (oI 24, 193), (oNewA 0, 195), (oPR 10 27, 198)]
set_option maxRecDepth 20000 in
theorem iq_X10_init_84 (d : Nat) (E : zE) (At : Nat → zC) (Q : Option Value → zM → Prop) (K : zC) (hE : ∀ y n a M' Q', zT (d + 1) y n a M' Q' → E y n a M' Q') (h : K [] [some (.ref 46), none] (zi24, zj24, zr24, 69)) : zXk 81 E Q At K qX10_init_84 [] [some (.ref 46), none] (zi23, zj23, zr23, 66) := by
  refine And.intro rfl ?_
  refine And.intro rfl ?_
  refine And.intro rfl ?_
  exact h
def zi25 : Nat → Nat → Int32 := (va_up (va_up (va_up zi24 69 (fun _ => 0)) 70 (fun _ => 0)) 71 (fun _ => 0))
def zj25 : Nat → Nat → Int64 := (va_up (va_up (va_up zj24 69 (fun _ => 0)) 70 (fun _ => 0)) 71 (fun _ => 0))
def zr25 : Nat → Nat → Option Nat := (va_up (va_up (va_up (va_up (va_up (va_up zr24 69 (fun _ => none)) 46 (va_up (zr24 46) 28 (some 69))) 70 (fun _ => none)) 46 (va_up (va_up (zr24 46) 28 (some 69)) 36 (some 70))) 71 (fun _ => none)) 46 (va_up (va_up (va_up (zr24 46) 28 (some 69)) 36 (some 70)) 38 (some 71)))
def qX10_init_96 : zB := [(oAl 0, 199), (oI 3, 200), (oNewA 0, 202), (oPR 10 28, 205), (oAl 0, 206), (oI 6, 208), (oNewA 0, 210), (oPR 10 36, 213), (oAl 0, 214), (oI 7, 216), (oNewA 0, 218), (oPR 10 38, 221)]
set_option maxRecDepth 20000 in
theorem iq_X10_init_96 (d : Nat) (E : zE) (At : Nat → zC) (Q : Option Value → zM → Prop) (K : zC) (hE : ∀ y n a M' Q', zT (d + 1) y n a M' Q' → E y n a M' Q') (h : K [] [some (.ref 46), none] (zi25, zj25, zr25, 72)) : zXk 81 E Q At K qX10_init_96 [] [some (.ref 46), none] (zi24, zj24, zr24, 69) := by
  refine And.intro rfl ?_
  refine And.intro rfl ?_
  refine And.intro rfl ?_
  exact h
def zi26 : Nat → Nat → Int32 := (va_up (va_up (va_up zi25 72 (fun _ => 0)) 73 (fun _ => 0)) 46 (va_up (zi25 46) 41 2))
def zj26 : Nat → Nat → Int64 := (va_up (va_up zj25 72 (fun _ => 0)) 73 (fun _ => 0))
def zr26 : Nat → Nat → Option Nat := (va_up (va_up (va_up (va_up zr25 72 (fun _ => none)) 46 (va_up (zr25 46) 39 (some 72))) 73 (fun _ => none)) 46 (va_up (va_up (zr25 46) 39 (some 72)) 40 (some 73)))
def qX10_init_108 : zB := [(oAl 0, 222), (oI 7, 224), (oNewA 0, 226), (oPR 10 39, 229), (oAl 0, 230), (oI 7, 232), (oNewA 0, 234), (oPR 10 40, 237), (oAl 0, 238), (oI 2, 239), (oPI 10 41, 242)]
set_option maxRecDepth 20000 in
theorem iq_X10_init_108 (d : Nat) (E : zE) (At : Nat → zC) (Q : Option Value → zM → Prop) (K : zC) (hE : ∀ y n a M' Q', zT (d + 1) y n a M' Q' → E y n a M' Q') (h : K [] [some (.ref 46), none] (zi26, zj26, zr26, 74)) : zXk 81 E Q At K qX10_init_108 [] [some (.ref 46), none] (zi25, zj25, zr25, 72) := by
  refine And.intro rfl ?_
  refine And.intro rfl ?_
  exact h
def zi27 : Nat → Nat → Int32 := (va_up (va_up (va_up zi26 74 (fun _ => 0)) 75 (fun _ => 0)) 46 (va_up (zi26 46) 44 100000))
def zj27 : Nat → Nat → Int64 := (va_up (va_up zj26 74 (fun _ => 0)) 75 (fun _ => 0))
def zr27 : Nat → Nat → Option Nat := (va_up (va_up (va_up (va_up zr26 74 (fun _ => none)) 46 (va_up (zr26 46) 42 (some 74))) 75 (fun _ => none)) 46 (va_up (va_up (zr26 46) 42 (some 74)) 43 (some 75)))
def qX10_init_119 : zB := [(oAl 0, 243), (oI 7, 245), (oNewA 0, 247), (oPR 10 42, 250), (oAl 0, 251), (oI 7, 253), (oNewA 0, 255), (oPR 10 43, 258), (oAl 0, 259), (oI 100000, 261), (oPI 10 44, 264)]
set_option maxRecDepth 20000 in
theorem iq_X10_init_119 (d : Nat) (E : zE) (At : Nat → zC) (Q : Option Value → zM → Prop) (K : zC) (hE : ∀ y n a M' Q', zT (d + 1) y n a M' Q' → E y n a M' Q') (h : K [] [some (.ref 46), none] (zi27, zj27, zr27, 76)) : zXk 81 E Q At K qX10_init_119 [] [some (.ref 46), none] (zi26, zj26, zr26, 74) := by
  refine And.intro rfl ?_
  refine And.intro rfl ?_
  exact h
def zi28 : Nat → Nat → Int32 := (va_up (va_up (va_up zi27 76 (fun _ => 0)) 77 (fun _ => 0)) 78 (fun _ => 0))
def zj28 : Nat → Nat → Int64 := (va_up (va_up (va_up zj27 76 (fun _ => 0)) 77 (fun _ => 0)) 78 (fun _ => 0))
def zr28 : Nat → Nat → Option Nat := (va_up (va_up (va_up (va_up (va_up (va_up zr27 76 (fun _ => none)) 46 (va_up (zr27 46) 46 (some 76))) 77 (fun _ => none)) 46 (va_up (va_up (zr27 46) 46 (some 76)) 47 (some 77))) 78 (fun _ => none)) 46 (va_up (va_up (va_up (zr27 46) 46 (some 76)) 47 (some 77)) 48 (some 78)))
def qX10_init_130 : zB := [(oAl 0, 265), (oI 200, 268), (oNewA 2, 270), (oPR 10 46, 273), (oAl 0, 274), (oI 4, 275), (oNewA 0, 277), (oPR 10 47, 280), (oAl 0, 281), (oI 4, 282), (oNewA 0, 284), (oPR 10 48, 287)]
set_option maxRecDepth 20000 in
theorem iq_X10_init_130 (d : Nat) (E : zE) (At : Nat → zC) (Q : Option Value → zM → Prop) (K : zC) (hE : ∀ y n a M' Q', zT (d + 1) y n a M' Q' → E y n a M' Q') (h : K [] [some (.ref 46), none] (zi28, zj28, zr28, 79)) : zXk 81 E Q At K qX10_init_130 [] [some (.ref 46), none] (zi27, zj27, zr27, 76) := by
  refine And.intro rfl ?_
  refine And.intro rfl ?_
  refine And.intro rfl ?_
  exact h
def zi29 : Nat → Nat → Int32 := (va_up (va_up (va_up zi28 79 (fun _ => 0)) 80 (fun _ => 0)) 47 (va_up (zi28 47) 0 20))
def zj29 : Nat → Nat → Int64 := (va_up (va_up zj28 79 (fun _ => 0)) 80 (fun _ => 0))
def zr29 : Nat → Nat → Option Nat := (va_up (va_up (va_up (va_up zr28 79 (fun _ => none)) 46 (va_up (zr28 46) 49 (some 79))) 80 (fun _ => none)) 46 (va_up (va_up (zr28 46) 49 (some 79)) 50 (some 80)))
def qX10_init_142 : zB := [(oAl 0, 288), (oI 800, 291), (oNewA 0, 293), (oPR 10 49, 296), (oAl 0, 297), (oI 200, 300), (oNewA 0, 302), (oPR 10 50, 305), (oAl 0, 306), (oGR 10 0, 309), (oI 0, 310), (oI 20, 312), (oSt, 313)]
set_option maxRecDepth 20000 in
theorem iq_X10_init_142 (d : Nat) (E : zE) (At : Nat → zC) (Q : Option Value → zM → Prop) (K : zC) (hE : ∀ y n a M' Q', zT (d + 1) y n a M' Q' → E y n a M' Q') (h : K [] [some (.ref 46), none] (zi29, zj29, zr29, 81)) : zXk 81 E Q At K qX10_init_142 [] [some (.ref 46), none] (zi28, zj28, zr28, 79) := by
  refine And.intro rfl ?_
  refine And.intro rfl ?_
  refine And.intro zvl_0_6 ?_
  exact h
def zi30 : Nat → Nat → Int32 := (va_up (va_up (va_up zi29 47 (va_up (zi29 47) 1 500)) 47 (va_up (va_up (zi29 47) 1 500) 2 300)) 47 (va_up (va_up (va_up (zi29 47) 1 500) 2 300) 3 400))
def zj30 : Nat → Nat → Int64 := zj29
def zr30 : Nat → Nat → Option Nat := zr29
def qX10_init_155 : zB := [(oAl 0, 314), (oGR 10 0, 317), (oI 1, 318), (oI 500, 321), (oSt, 322), (oAl 0, 323), (oGR 10 0, 326), (oI 2, 327), (oI 300, 330), (oSt, 331), (oAl 0, 332), (oGR 10 0, 335), (oI 3, 336), (oI 400, 339), (oSt, 340)]
set_option maxRecDepth 20000 in
theorem iq_X10_init_155 (d : Nat) (E : zE) (At : Nat → zC) (Q : Option Value → zM → Prop) (K : zC) (hE : ∀ y n a M' Q', zT (d + 1) y n a M' Q' → E y n a M' Q') (h : K [] [some (.ref 46), none] (zi30, zj30, zr30, 81)) : zXk 81 E Q At K qX10_init_155 [] [some (.ref 46), none] (zi29, zj29, zr29, 81) := by
  refine And.intro zvl_1_6 ?_
  refine And.intro zvl_2_6 ?_
  refine And.intro zvl_3_6 ?_
  exact h
def zi31 : Nat → Nat → Int32 := (va_up (va_up zi30 47 (va_up (zi30 47) 4 5)) 47 (va_up (va_up (zi30 47) 4 5) 5 5))
def zj31 : Nat → Nat → Int64 := zj30
def zr31 : Nat → Nat → Option Nat := zr30
def qX10_init_170 : zB := [(oAl 0, 341), (oGR 10 0, 344), (oI 4, 345), (oI 5, 346), (oSt, 347), (oAl 0, 348), (oGR 10 0, 351), (oI 5, 352), (oI 5, 353), (oSt, 354), (oI 0, 355), (oIs 1, 356), (oGo 356, 356)]
set_option maxRecDepth 20000 in
theorem iq_X10_init_170 (d : Nat) (E : zE) (At : Nat → zC) (Q : Option Value → zM → Prop) (K : zC) (hE : ∀ y n a M' Q', zT (d + 1) y n a M' Q' → E y n a M' Q') (h : At 356 [] [some (.ref 46), some (.int 0)] (zi31, zj31, zr31, 81)) : zXk 81 E Q At K qX10_init_170 [] [some (.ref 46), none] (zi30, zj30, zr30, 81) := by
  refine And.intro zvl_4_6 ?_
  refine And.intro zvl_5_6 ?_
  exact h
set_option maxRecDepth 20000 in
theorem zlq_X10_init : zlk B_X10_init 0 = qX10_init_0 ++ (qX10_init_14 ++ (qX10_init_26 ++ (qX10_init_38 ++ (qX10_init_50 ++ (qX10_init_62 ++ (qX10_init_74 ++ (qX10_init_84 ++ (qX10_init_96 ++ (qX10_init_108 ++ (qX10_init_119 ++ (qX10_init_130 ++ (qX10_init_142 ++ (qX10_init_155 ++ (qX10_init_170 ++ [])))))))))))))) := rfl
def zi32 : Nat → Nat → Int32 := (va_up zi31 77 (va_up (zi31 77) 0 (-1)))
def zj32 : Nat → Nat → Int64 := zj31
def zr32 : Nat → Nat → Option Nat := zr31
def zi33 : Nat → Nat → Int32 := (va_up zi32 77 (va_up (zi32 77) 1 (-1)))
def zj33 : Nat → Nat → Int64 := zj32
def zr33 : Nat → Nat → Option Nat := zr32
def zi34 : Nat → Nat → Int32 := (va_up zi33 77 (va_up (zi33 77) 2 (-1)))
def zj34 : Nat → Nat → Int64 := zj33
def zr34 : Nat → Nat → Option Nat := zr33
def zi35 : Nat → Nat → Int32 := (va_up zi34 77 (va_up (zi34 77) 3 (-1)))
def zj35 : Nat → Nat → Int64 := zj34
def zr35 : Nat → Nat → Option Nat := zr34
set_option maxRecDepth 20000 in
theorem w_X10_init (d : Nat) (Q : Option Value → zM → Prop) (h : Q none (zi35, zj35, zr35, 81)) : zT (d + 2) 93 81 [.ref 46] (zi16, zj16, zr16, 47) Q := by
  refine ⟨rfl, fun E At hE hC => ?_⟩
  replace hC : ∀ pc st L M', zX 81 E Q At (zlk B_X10_init pc) st L M' → At pc st L M' := hC
  refine hC 0 [] [some (.ref 46), none] _ ?_
  rw [zlq_X10_init]
  rw [zXk_app]
  refine iq_X10_init_0 d E At Q _ hE ?_
  rw [zXk_app]
  refine iq_X10_init_14 d E At Q _ hE ?_
  rw [zXk_app]
  refine iq_X10_init_26 d E At Q _ hE ?_
  rw [zXk_app]
  refine iq_X10_init_38 d E At Q _ hE ?_
  rw [zXk_app]
  refine iq_X10_init_50 d E At Q _ hE ?_
  rw [zXk_app]
  refine iq_X10_init_62 d E At Q _ hE ?_
  rw [zXk_app]
  refine iq_X10_init_74 d E At Q _ hE ?_
  rw [zXk_app]
  refine iq_X10_init_84 d E At Q _ hE ?_
  rw [zXk_app]
  refine iq_X10_init_96 d E At Q _ hE ?_
  rw [zXk_app]
  refine iq_X10_init_108 d E At Q _ hE ?_
  rw [zXk_app]
  refine iq_X10_init_119 d E At Q _ hE ?_
  rw [zXk_app]
  refine iq_X10_init_130 d E At Q _ hE ?_
  rw [zXk_app]
  refine iq_X10_init_142 d E At Q _ hE ?_
  rw [zXk_app]
  refine iq_X10_init_155 d E At Q _ hE ?_
  rw [zXk_app]
  refine iq_X10_init_170 d E At Q _ hE ?_
  refine hC 356 [] [some (.ref 46), some (.int (0))] _ ?_
  refine And.intro (fun qz => absurd qz (by decide)) (fun _ => ?_)
  refine And.intro zvl_0_4 ?_
  show At 356 [] [some (.ref 46), some (.int (0 + 1))] (zi32, zj32, zr32, 81)
  refine hC 356 [] [some (.ref 46), some (.int (0 + 1))] _ ?_
  refine And.intro (fun qz => absurd qz (by decide)) (fun _ => ?_)
  refine And.intro zvl_1_4 ?_
  show At 356 [] [some (.ref 46), some (.int (0 + 1 + 1))] (zi33, zj33, zr33, 81)
  refine hC 356 [] [some (.ref 46), some (.int (0 + 1 + 1))] _ ?_
  refine And.intro (fun qz => absurd qz (by decide)) (fun _ => ?_)
  refine And.intro zvl_2_4 ?_
  show At 356 [] [some (.ref 46), some (.int (0 + 1 + 1 + 1))] (zi34, zj34, zr34, 81)
  refine hC 356 [] [some (.ref 46), some (.int (0 + 1 + 1 + 1))] _ ?_
  refine And.intro (fun qz => absurd qz (by decide)) (fun _ => ?_)
  refine And.intro zvl_3_4 ?_
  show At 356 [] [some (.ref 46), some (.int (0 + 1 + 1 + 1 + 1))] (zi35, zj35, zr35, 81)
  refine hC 356 [] [some (.ref 46), some (.int (0 + 1 + 1 + 1 + 1))] _ ?_
  refine And.intro (fun _ => ?_) (fun qz => absurd (by decide) qz)
  exact hC 374 [] [some (.ref 46), some (.int (0 + 1 + 1 + 1 + 1))] _ h
