/-! the methods as ops, a row of them for each place that is jumped to -/
def zlk (bs : List (Nat × zB)) (pc : Nat) : zB := match bs with
  | [] => []
  | x :: r => cond (Nat.beq pc x.1) x.2 (zlk r pc)
def B_X0_init : List (Nat × zB) := [(0, [(oAl 0, 1), (oObj, 4), (oAl 0, 5), (oI 0, 6), (oPI 0 0, 9), (oAl 0, 10), (oI 0, 11), (oPI 0 1, 14), (oAl 0, 15), (oI 0, 16), (oPI 0 2, 19), (oAl 0, 20), (oI 0, 21), (oPI 0 3, 24), (oAl 0, 25), (oI 0, 26), (oPI 0 4, 29), (oAl 0, 30), (oI 0, 31), (oPI 0 5, 34), (oAl 0, 35), (oI 0, 36), (oPI 0 6, 39), (oRV, 40)])]
def B_X0_enter : List (Nat × zB) := [(0, [(oAl 0, 1), (oDup, 2), (oGI 0 0, 5), (oAl 1, 6), (oGI 8 2, 9), (oAdd, 10), (oPI 0 0, 13), (oAl 0, 14), (oDup, 15), (oGI 0 1, 18), (oAl 1, 19), (oGI 8 3, 22), (oAdd, 23), (oPI 0 1, 26), (oAl 0, 27), (oDup, 28), (oGI 0 2, 31), (oAl 1, 32), (oGI 8 4, 35), (oAdd, 36), (oPI 0 2, 39), (oAl 0, 40), (oDup, 41), (oGI 0 3, 44), (oAl 1, 45), (oGI 8 6, 48), (oAdd, 49), (oPI 0 3, 52), (oAl 0, 53), (oDup, 54), (oGI 0 4, 57), (oAl 1, 58), (oGI 8 7, 61), (oAdd, 62), (oPI 0 4, 65), (oAl 0, 66), (oDup, 67), (oGI 0 5, 70), (oAl 1, 71), (oGI 8 1, 74), (oAdd, 75), (oPI 0 5, 78), (oAl 0, 79), (oDup, 80), (oGI 0 6, 83), (oAl 1, 84), (oGI 8 0, 87), (oAdd, 88), (oPI 0 6, 91), (oRV, 92)])]
def B_X1_init : List (Nat × zB) := [(0, [(oAl 0, 1), (oObj, 4), (oAl 0, 5), (oI 200, 8), (oNewA 0, 10), (oPR 1 0, 13), (oAl 0, 14), (oI 200, 17), (oNewA 0, 19), (oPR 1 1, 22), (oAl 0, 23), (oI 200, 26), (oNewA 0, 28), (oPR 1 2, 31), (oAl 0, 32), (oI 200, 35), (oNewA 0, 37), (oPR 1 3, 40), (oAl 0, 41), (oI 200, 44), (oNewA 0, 46), (oPR 1 4, 49), (oAl 0, 50), (oI 200, 53), (oNewA 0, 55), (oPR 1 5, 58), (oAl 0, 59), (oI 200, 62), (oNewA 0, 64), (oPR 1 6, 67), (oAl 0, 68), (oI 200, 71), (oNewA 0, 73), (oPR 1 7, 76), (oAl 0, 77), (oI 200, 80), (oNewA 0, 82), (oPR 1 8, 85), (oAl 0, 86), (oI 200, 89), (oNewA 0, 91), (oPR 1 9, 94), (oAl 0, 95), (oI 0, 96), (oPI 1 10, 99), (oAl 0, 100), (oI (-1), 101), (oPI 1 11, 104), (oRV, 105)])]
def B_X1_has : List (Nat × zB) := [(0, [(oIl 1, 1), (oIfLt 16, 4), (oIl 1, 5), (oAl 0, 6), (oGI 1 10, 9), (oCmpGe 16, 12), (oI 1, 13), (oGo 17, 16)]),
  (16, [(oI 0, 17), (oGo 17, 17)]),
  (17, [(oRZ, 18)])]
def B_X1_latestWas : List (Nat × zB) := [(0, [(oAl 0, 1), (oGI 1 10, 4), (oIfLe 34, 7), (oAl 0, 8), (oGR 1 0, 11), (oAl 0, 12), (oGI 1 10, 15), (oI 1, 16), (oSub, 17), (oLd, 18), (oIl 1, 19), (oCmpNe 34, 22), (oAl 0, 23), (oGI 1 11, 26), (oIl 2, 27), (oCmpNe 34, 30), (oI 1, 31), (oGo 35, 34)]),
  (34, [(oI 0, 35), (oGo 35, 35)]),
  (35, [(oRZ, 36)])]
def B_X1_add : List (Nat × zB) := [(0, [(oAl 0, 1), (oGI 1 10, 4), (oI 200, 7), (oCmpLt 11, 10), (oRV, 11)]),
  (11, [(oAl 0, 12), (oGR 1 0, 15), (oAl 0, 16), (oGI 1 10, 19), (oIl 1, 20), (oSt, 21), (oAl 0, 22), (oGR 1 1, 25), (oAl 0, 26), (oGI 1 10, 29), (oAl 2, 30), (oGI 8 0, 33), (oSt, 34), (oAl 0, 35), (oGR 1 2, 38), (oAl 0, 39), (oGI 1 10, 42), (oAl 2, 43), (oGI 8 1, 46), (oSt, 47), (oAl 0, 48), (oGR 1 3, 51), (oAl 0, 52), (oGI 1 10, 55), (oAl 2, 56), (oGI 8 6, 59), (oSt, 60), (oAl 0, 61), (oGR 1 4, 64), (oAl 0, 65), (oGI 1 10, 68), (oAl 2, 69), (oGI 8 7, 72), (oSt, 73), (oAl 0, 74), (oGR 1 5, 77), (oAl 0, 78), (oGI 1 10, 81), (oAl 2, 82), (oGI 8 4, 85), (oSt, 86), (oAl 0, 87), (oGR 1 6, 90), (oAl 0, 91), (oGI 1 10, 94), (oI (-1), 95), (oSt, 96), (oAl 0, 97), (oGR 1 7, 100), (oAl 0, 101), (oGI 1 10, 104), (oIl 3, 105), (oSt, 106), (oAl 0, 107), (oGR 1 8, 110), (oAl 0, 111), (oGI 1 10, 114), (oIl 4, 116), (oSt, 117), (oAl 0, 118), (oDup, 119), (oGI 1 10, 122), (oI 1, 123), (oAdd, 124), (oPI 1 10, 127), (oAl 0, 128), (oIl 5, 130), (oPI 1 11, 133), (oRV, 134)])]
def B_X1_waits : List (Nat × zB) := [(0, [(oAl 0, 1), (oGR 1 3, 4), (oIl 1, 5), (oLd, 6), (oIfLe 23, 9), (oAl 0, 10), (oGR 1 6, 13), (oIl 1, 14), (oLd, 15), (oI (-1), 16), (oCmpNe 23, 19), (oI 1, 20), (oGo 24, 23)]),
  (23, [(oI 0, 24), (oGo 24, 24)]),
  (24, [(oRZ, 25)])]
def B_X1_waiting : List (Nat × zB) := [(0, [(oI 0, 1), (oIs 1, 2), (oI 0, 3), (oIs 2, 4), (oGo 4, 4)]),
  (4, [(oIl 2, 5), (oAl 0, 6), (oGI 1 10, 9), (oCmpGe 29, 12), (oAl 0, 13), (oIl 2, 14), (oV 1 6 1, 17), (oIfEq 23, 20), (oInc 1 1, 23), (oGo 23, 23)]),
  (23, [(oInc 2 1, 26), (oGo 4, 29)]),
  (29, [(oIl 1, 30), (oRI, 31)])]
def B_X1_firstWaiting : List (Nat × zB) := [(0, [(oI 0, 1), (oIs 1, 2), (oGo 2, 2)]),
  (2, [(oIl 1, 3), (oAl 0, 4), (oGI 1 10, 7), (oCmpGe 26, 10), (oAl 0, 11), (oIl 1, 12), (oV 1 6 1, 15), (oIfEq 20, 18), (oIl 1, 19), (oRI, 20)]),
  (20, [(oInc 1 1, 23), (oGo 2, 26)]),
  (26, [(oI (-1), 27), (oRI, 28)])]
def B_X1_fillOven : List (Nat × zB) := [(0, [(oI 0, 1), (oIs 4, 3), (oI 0, 4), (oIs 5, 6), (oIl 1, 7), (oIs 6, 9), (oGo 9, 9)]),
  (9, [(oIl 6, 11), (oAl 0, 12), (oGI 1 10, 15), (oCmpGe 97, 18), (oAl 0, 19), (oIl 6, 21), (oV 1 6 1, 24), (oIfEq 91, 27), (oAl 0, 28), (oGR 1 7, 31), (oIl 6, 33), (oLd, 34), (oAl 0, 35), (oGR 1 7, 38), (oIl 1, 39), (oLd, 40), (oCmpEq 46, 43), (oGo 91, 46)]),
  (46, [(oIl 4, 48), (oIfLe 68, 51), (oIl 5, 53), (oAl 0, 54), (oGR 1 3, 57), (oIl 6, 59), (oLd, 60), (oAdd, 61), (oIl 2, 62), (oCmpLe 68, 65), (oGo 97, 68)]),
  (68, [(oAl 0, 69), (oGR 1 6, 72), (oIl 6, 74), (oIl 3, 75), (oSt, 76), (oIl 5, 78), (oAl 0, 79), (oGR 1 3, 82), (oIl 6, 84), (oLd, 85), (oAdd, 86), (oIs 5, 88), (oInc 4 1, 91), (oGo 91, 91)]),
  (91, [(oInc 6 1, 94), (oGo 9, 97)]),
  (97, [(oIl 4, 99), (oRI, 100)])]
def B_X1_ovensNeeded : List (Nat × zB) := [(0, [(oI 0, 1), (oIs 3, 2), (oI 0, 3), (oIs 4, 5), (oI 0, 6), (oIs 5, 8), (oGo 8, 8)]),
  (8, [(oIl 5, 10), (oAl 0, 11), (oGI 1 10, 14), (oCmpGe 82, 17), (oAl 0, 18), (oIl 5, 20), (oV 1 6 1, 23), (oIfEq 76, 26), (oAl 0, 27), (oGR 1 7, 30), (oIl 5, 32), (oLd, 33), (oIl 1, 34), (oCmpEq 40, 37), (oGo 76, 40)]),
  (40, [(oIl 3, 41), (oIfEq 58, 44), (oIl 4, 46), (oAl 0, 47), (oGR 1 3, 50), (oIl 5, 52), (oLd, 53), (oAdd, 54), (oIl 2, 55), (oCmpLe 64, 58), (oGo 58, 58)]),
  (58, [(oInc 3 1, 61), (oI 0, 62), (oIs 4, 64), (oGo 64, 64)]),
  (64, [(oIl 4, 66), (oAl 0, 67), (oGR 1 3, 70), (oIl 5, 72), (oLd, 73), (oAdd, 74), (oIs 4, 76), (oGo 76, 76)]),
  (76, [(oInc 5 1, 79), (oGo 8, 82)]),
  (82, [(oIl 3, 83), (oRI, 84)])]
def B_X1_isSuspect : List (Nat × zB) := [(0, [(oAl 0, 1), (oGR 1 9, 4), (oIl 1, 5), (oLd, 6), (oI 1, 7), (oCmpEq 30, 10), (oAl 0, 11), (oIl 1, 12), (oV 1 12 1, 15), (oIfNe 26, 18), (oAl 0, 19), (oIl 1, 20), (oV 1 13 1, 23), (oIfEq 30, 26), (oGo 26, 26)]),
  (26, [(oI 1, 27), (oGo 31, 30)]),
  (30, [(oI 0, 31), (oGo 31, 31)]),
  (31, [(oRZ, 32)])]
def B_X1_poorUpTo : List (Nat × zB) := [(0, [(oIl 1, 1), (oIs 2, 2), (oGo 2, 2)]),
  (2, [(oIl 2, 3), (oIfLt 52, 6), (oAl 0, 7), (oGR 1 0, 10), (oIl 2, 11), (oLd, 12), (oAl 0, 13), (oGR 1 0, 16), (oIl 1, 17), (oLd, 18), (oCmpNe 46, 21), (oAl 0, 22), (oGR 1 9, 25), (oIl 2, 26), (oLd, 27), (oIfEq 46, 30), (oAl 0, 31), (oGR 1 9, 34), (oIl 2, 35), (oLd, 36), (oI 2, 37), (oCmpNe 44, 40), (oI 1, 41), (oGo 45, 44)]),
  (44, [(oI 0, 45), (oGo 45, 45)]),
  (45, [(oRZ, 46)]),
  (46, [(oInc 2 (-1), 49), (oGo 2, 52)]),
  (52, [(oI 0, 53), (oRZ, 54)])]
def B_X1_poorFrom : List (Nat × zB) := [(0, [(oIl 1, 1), (oIs 2, 2), (oGo 2, 2)]),
  (2, [(oIl 2, 3), (oAl 0, 4), (oGI 1 10, 7), (oCmpGe 56, 10), (oAl 0, 11), (oGR 1 0, 14), (oIl 2, 15), (oLd, 16), (oAl 0, 17), (oGR 1 0, 20), (oIl 1, 21), (oLd, 22), (oCmpNe 50, 25), (oAl 0, 26), (oGR 1 9, 29), (oIl 2, 30), (oLd, 31), (oIfEq 50, 34), (oAl 0, 35), (oGR 1 9, 38), (oIl 2, 39), (oLd, 40), (oI 2, 41), (oCmpNe 48, 44), (oI 1, 45), (oGo 49, 48)]),
  (48, [(oI 0, 49), (oGo 49, 49)]),
  (49, [(oRZ, 50)]),
  (50, [(oInc 2 1, 53), (oGo 2, 56)]),
  (56, [(oI 0, 57), (oRZ, 58)])]
def B_X2_init : List (Nat × zB) := [(0, [(oAl 0, 1), (oObj, 4), (oAl 0, 5), (oI 12, 7), (oNewA 0, 9), (oPR 2 0, 12), (oAl 0, 13), (oI 12, 15), (oNewA 0, 17), (oPR 2 1, 20), (oAl 0, 21), (oI 12, 23), (oNewA 0, 25), (oPR 2 2, 28), (oAl 0, 29), (oI 12, 31), (oNewA 0, 33), (oPR 2 3, 36), (oAl 0, 37), (oI 12, 39), (oNewA 0, 41), (oPR 2 4, 44), (oAl 0, 45), (oI 0, 46), (oPI 2 5, 49), (oRV, 50)])]
def B_X2_has : List (Nat × zB) := [(0, [(oIl 1, 1), (oIfLt 16, 4), (oIl 1, 5), (oAl 0, 6), (oGI 2 5, 9), (oCmpGe 16, 12), (oI 1, 13), (oGo 17, 16)]),
  (16, [(oI 0, 17), (oGo 17, 17)]),
  (17, [(oRZ, 18)])]
def B_X2_add : List (Nat × zB) := [(0, [(oAl 0, 1), (oGI 2 5, 4), (oI 12, 6), (oCmpLt 12, 9), (oI (-4), 11), (oRI, 12)]),
  (12, [(oAl 0, 13), (oGR 2 0, 16), (oAl 0, 17), (oGI 2 5, 20), (oIl 1, 21), (oSt, 22), (oAl 0, 23), (oGR 2 1, 26), (oAl 0, 27), (oGI 2 5, 30), (oIl 2, 31), (oSt, 32), (oAl 0, 33), (oGR 2 4, 36), (oAl 0, 37), (oGI 2 5, 40), (oI (-1), 41), (oSt, 42), (oAl 0, 43), (oDup, 44), (oGI 2 5, 47), (oI 1, 48), (oAdd, 49), (oPI 2 5, 52), (oAl 0, 53), (oGI 2 5, 56), (oI 1, 57), (oSub, 58), (oRI, 59)])]
def B_X2_isWarm : List (Nat × zB) := [(0, [(oAl 0, 1), (oGR 2 4, 4), (oIl 1, 5), (oLd, 6), (oI (-1), 7), (oCmpEq 14, 10), (oI 1, 11), (oGo 15, 14)]),
  (14, [(oI 0, 15), (oGo 15, 15)]),
  (15, [(oRZ, 16)])]
def B_X2_ticksWarm : List (Nat × zB) := [(0, [(oAl 0, 1), (oIl 1, 2), (oV 1 17 2, 5), (oIfEq 19, 8), (oIl 2, 9), (oAl 0, 10), (oGR 2 4, 13), (oIl 1, 14), (oLd, 15), (oSub, 16), (oGo 20, 19)]),
  (19, [(oI (-1), 20), (oGo 20, 20)]),
  (20, [(oRI, 21)])]
def B_X2_mayPress : List (Nat × zB) := [(0, [(oAl 0, 1), (oIl 1, 2), (oIl 2, 3), (oV 2 18 2, 6), (oI 3, 7), (oI 12, 9), (oS 3 88, 12), (oIfEq 34, 15), (oAl 0, 16), (oGR 2 2, 19), (oIl 1, 20), (oLd, 21), (oAl 0, 22), (oGR 2 1, 25), (oIl 1, 26), (oLd, 27), (oCmpGe 34, 30), (oI 1, 31), (oGo 35, 34)]),
  (34, [(oI 0, 35), (oGo 35, 35)]),
  (35, [(oRZ, 36)])]
def B_X2_leastWorn : List (Nat × zB) := [(0, [(oI (-1), 1), (oIs 3, 2), (oI 0, 3), (oIs 4, 5), (oGo 5, 5)]),
  (5, [(oIl 4, 7), (oAl 0, 8), (oGI 2 5, 11), (oCmpGe 65, 14), (oAl 0, 15), (oGR 2 0, 18), (oIl 4, 20), (oLd, 21), (oIl 1, 22), (oCmpNe 59, 25), (oAl 0, 26), (oIl 4, 28), (oIl 2, 29), (oV 2 19 2, 32), (oIfEq 59, 35), (oIl 3, 36), (oI (-1), 37), (oCmpEq 56, 40), (oAl 0, 41), (oGR 2 2, 44), (oIl 4, 46), (oLd, 47), (oAl 0, 48), (oGR 2 2, 51), (oIl 3, 52), (oLd, 53), (oCmpGe 59, 56), (oGo 56, 56)]),
  (56, [(oIl 4, 58), (oIs 3, 59), (oGo 59, 59)]),
  (59, [(oInc 4 1, 62), (oGo 5, 65)]),
  (65, [(oIl 3, 66), (oRI, 67)])]
def B_X2_wear : List (Nat × zB) := [(0, [(oAl 0, 1), (oGR 2 2, 4), (oIl 1, 5), (oDup2, 6), (oLd, 7), (oI 1, 8), (oAdd, 9), (oSt, 10), (oAl 0, 11), (oGR 2 3, 14), (oIl 1, 15), (oDup2, 16), (oLd, 17), (oI 1, 18), (oAdd, 19), (oSt, 20), (oRV, 21)])]
def B_X3_init : List (Nat × zB) := [(0, [(oAl 0, 1), (oObj, 4), (oAl 0, 5), (oI 8, 7), (oNewA 0, 9), (oPR 3 0, 12), (oAl 0, 13), (oI 24, 15), (oNewA 0, 17), (oPR 3 1, 20), (oAl 0, 21), (oI 24, 23), (oNewA 0, 25), (oPR 3 2, 28), (oRV, 29)])]
def B_X3_add : List (Nat × zB) := [(0, [(oAl 0, 1), (oGR 3 0, 4), (oIl 1, 5), (oLd, 6), (oIs 4, 8), (oIl 4, 10), (oI 3, 11), (oCmpLt 17, 14), (oI (-4), 16), (oRI, 17)]),
  (17, [(oAl 0, 18), (oGR 3 1, 21), (oIl 1, 22), (oI 3, 23), (oMul, 24), (oIl 4, 26), (oAdd, 27), (oIl 2, 28), (oSt, 29), (oAl 0, 30), (oGR 3 2, 33), (oIl 1, 34), (oI 3, 35), (oMul, 36), (oIl 4, 38), (oAdd, 39), (oIl 3, 40), (oSt, 41), (oAl 0, 42), (oGR 3 0, 45), (oIl 1, 46), (oDup2, 47), (oLd, 48), (oI 1, 49), (oAdd, 50), (oSt, 51), (oIl 4, 53), (oRI, 54)])]
def B_X3_serve : List (Nat × zB) := [(0, [(oI 0, 1), (oIs 3, 2), (oGo 2, 2)]),
  (2, [(oIl 3, 3), (oI 3, 4), (oCmpGe 29, 7), (oAl 0, 8), (oGR 3 2, 11), (oIl 1, 12), (oI 3, 13), (oMul, 14), (oIl 3, 15), (oAdd, 16), (oDup2, 17), (oLd, 18), (oAl 2, 19), (oIl 3, 20), (oLd, 21), (oSub, 22), (oSt, 23), (oInc 3 1, 26), (oGo 2, 29)]),
  (29, [(oRV, 30)])]
def B_X4_init : List (Nat × zB) := [(0, [(oAl 0, 1), (oObj, 4), (oAl 0, 5), (oI 3, 6), (oNewA 0, 8), (oPR 4 0, 11), (oAl 0, 12), (oI 0, 13), (oPI 4 1, 16), (oAl 0, 17), (oI 3, 18), (oNewA 0, 20), (oPR 4 2, 23), (oAl 0, 24), (oI 3, 25), (oNewA 0, 27), (oPR 4 3, 30), (oAl 0, 31), (oI 0, 32), (oPI 4 4, 35), (oRV, 36)])]
def B_X4_seek : List (Nat × zB) := [(0, [(oAl 0, 1), (oAl 1, 2), (oIl 2, 3), (oV 2 27 4, 6), (oAl 0, 7), (oIl 4, 9), (oPI 4 4, 12), (oAl 0, 13), (oI 0, 14), (oPI 4 1, 17), (oAl 0, 18), (oGR 4 0, 21), (oI 0, 22), (oI 0, 23), (oSt, 24), (oAl 0, 25), (oGR 4 0, 28), (oI 1, 29), (oI 0, 30), (oSt, 31), (oAl 0, 32), (oGR 4 0, 35), (oI 2, 36), (oI 0, 37), (oSt, 38), (oIl 3, 39), (oIl 4, 41), (oAdd, 42), (oIs 5, 44), (oAl 0, 45), (oGR 4 3, 48), (oI 1, 49), (oLd, 50), (oAl 0, 51), (oGR 4 2, 54), (oI 1, 55), (oLd, 56), (oMul, 57), (oAl 0, 58), (oGR 4 3, 61), (oI 2, 62), (oLd, 63), (oAl 0, 64), (oGR 4 2, 67), (oI 2, 68), (oLd, 69), (oMul, 70), (oAdd, 71), (oIs 6, 73), (oAl 0, 74), (oI 0, 75), (oIl 5, 77), (oV 2 29 4, 80), (oIs 7, 82), (oGo 82, 82)]),
  (82, [(oIl 7, 84), (oIfLt 136, 87), (oIl 7, 89), (oAl 0, 90), (oGR 4 2, 93), (oI 0, 94), (oLd, 95), (oMul, 96), (oIl 6, 98), (oAdd, 99), (oAl 0, 100), (oGI 4 1, 103), (oCmpGe 109, 106), (oGo 136, 109)]),
  (109, [(oAl 0, 110), (oIl 7, 112), (oIl 5, 114), (oIl 7, 116), (oAl 0, 117), (oGR 4 2, 120), (oI 0, 121), (oLd, 122), (oIl 4, 124), (oAdd, 125), (oMul, 126), (oSub, 127), (oV 2 28 4, 130), (oInc 7 (-1), 133), (oGo 82, 136)]),
  (136, [(oRV, 137)])]
def B_X4_load : List (Nat × zB) := [(0, [(oI 0, 1), (oIs 3, 2), (oGo 2, 2)]),
  (2, [(oIl 3, 3), (oI 3, 4), (oCmpGe 86, 7), (oIl 3, 8), (oAl 1, 9), (oGR 3 0, 12), (oIl 2, 13), (oLd, 14), (oCmpGe 21, 17), (oI 1, 18), (oGo 22, 21)]),
  (21, [(oI 0, 22), (oGo 22, 22)]),
  (22, [(oIs 4, 24), (oIl 2, 25), (oI 3, 26), (oMul, 27), (oIl 3, 28), (oAdd, 29), (oIs 5, 31), (oAl 0, 32), (oGR 4 2, 35), (oIl 3, 36), (oIl 4, 38), (oIfEq 51, 41), (oAl 1, 42), (oGR 3 1, 45), (oIl 5, 47), (oLd, 48), (oGo 52, 51)]),
  (51, [(oI 0, 52), (oGo 52, 52)]),
  (52, [(oSt, 53), (oAl 0, 54), (oGR 4 3, 57), (oIl 3, 58), (oIl 4, 60), (oIfEq 78, 63), (oI 60, 65), (oAl 1, 66), (oGR 3 2, 69), (oIl 5, 71), (oLd, 72), (oS 2 150, 75), (oGo 79, 78)]),
  (78, [(oI 0, 79), (oGo 79, 79)]),
  (79, [(oSt, 80), (oInc 3 1, 83), (oGo 2, 86)]),
  (86, [(oRV, 87)])]
def B_X4_seekSecond : List (Nat × zB) := [(0, [(oAl 0, 1), (oI 1, 2), (oIl 2, 3), (oV 2 29 4, 6), (oIs 3, 7), (oGo 7, 7)]),
  (7, [(oIl 3, 8), (oIfLt 84, 11), (oIl 1, 12), (oAl 0, 13), (oGR 4 2, 16), (oI 0, 17), (oLd, 18), (oMul, 19), (oIl 3, 20), (oAl 0, 21), (oGR 4 2, 24), (oI 1, 25), (oLd, 26), (oMul, 27), (oAdd, 28), (oAl 0, 29), (oGR 4 3, 32), (oI 2, 33), (oLd, 34), (oAl 0, 35), (oGR 4 2, 38), (oI 2, 39), (oLd, 40), (oMul, 41), (oAdd, 42), (oAl 0, 43), (oGI 4 1, 46), (oCmpGe 52, 49), (oGo 84, 52)]),
  (52, [(oAl 0, 53), (oIl 1, 54), (oIl 3, 55), (oAl 0, 56), (oI 2, 57), (oIl 2, 58), (oIl 3, 59), (oAl 0, 60), (oGR 4 2, 63), (oI 1, 64), (oLd, 65), (oAl 0, 66), (oGI 4 4, 69), (oAdd, 70), (oMul, 71), (oSub, 72), (oV 2 29 4, 75), (oV 3 30 4, 78), (oInc 3 (-1), 81), (oGo 7, 84)]),
  (84, [(oRV, 85)])]
def B_X4_fitting : List (Nat × zB) := [(0, [(oAl 0, 1), (oGR 4 2, 4), (oIl 1, 5), (oLd, 6), (oAl 0, 7), (oGI 4 4, 10), (oAdd, 11), (oIs 3, 12), (oAl 0, 13), (oGR 4 3, 16), (oIl 1, 17), (oLd, 18), (oIfLe 29, 21), (oIl 3, 22), (oIfLe 29, 25), (oIl 2, 26), (oIfGe 31, 29), (oGo 29, 29)]),
  (29, [(oI 0, 30), (oRI, 31)]),
  (31, [(oAl 0, 32), (oGR 4 3, 35), (oIl 1, 36), (oLd, 37), (oIl 2, 38), (oIl 3, 39), (oDiv, 40), (oS 2 150, 43), (oRI, 44)])]
def B_X4_offer : List (Nat × zB) := [(0, [(oIl 1, 1), (oAl 0, 2), (oGR 4 2, 5), (oI 0, 6), (oLd, 7), (oMul, 8), (oIl 2, 9), (oAl 0, 10), (oGR 4 2, 13), (oI 1, 14), (oLd, 15), (oMul, 16), (oAdd, 17), (oIl 3, 18), (oAl 0, 19), (oGR 4 2, 22), (oI 2, 23), (oLd, 24), (oMul, 25), (oAdd, 26), (oIs 4, 28), (oIl 1, 29), (oIl 2, 30), (oAdd, 31), (oIl 3, 32), (oAdd, 33), (oAl 0, 34), (oGR 4 0, 37), (oI 0, 38), (oLd, 39), (oAl 0, 40), (oGR 4 0, 43), (oI 1, 44), (oLd, 45), (oAdd, 46), (oAl 0, 47), (oGR 4 0, 50), (oI 2, 51), (oLd, 52), (oAdd, 53), (oCmpGe 60, 56), (oI 1, 57), (oGo 61, 60)]),
  (60, [(oI 0, 61), (oGo 61, 61)]),
  (61, [(oIs 5, 63), (oIl 4, 65), (oAl 0, 66), (oGI 4 1, 69), (oCmpGt 86, 72), (oIl 4, 74), (oAl 0, 75), (oGI 4 1, 78), (oCmpNe 113, 81), (oIl 5, 83), (oIfEq 113, 86), (oGo 86, 86)]),
  (86, [(oAl 0, 87), (oIl 4, 89), (oPI 4 1, 92), (oAl 0, 93), (oGR 4 0, 96), (oI 0, 97), (oIl 1, 98), (oSt, 99), (oAl 0, 100), (oGR 4 0, 103), (oI 1, 104), (oIl 2, 105), (oSt, 106), (oAl 0, 107), (oGR 4 0, 110), (oI 2, 111), (oIl 3, 112), (oSt, 113), (oGo 113, 113)]),
  (113, [(oRV, 114)])]
def B_X5_init : List (Nat × zB) := [(0, [(oAl 0, 1), (oObj, 4), (oAl 0, 5), (oI 7, 7), (oNewA 0, 9), (oPR 5 0, 12), (oAl 0, 13), (oI 0, 14), (oPI 5 1, 17), (oAl 0, 18), (oI 0, 19), (oPI 5 2, 22), (oAl 0, 23), (oI 7, 25), (oNewA 0, 27), (oPR 5 3, 30), (oAl 0, 31), (oI 7, 33), (oNewA 0, 35), (oPR 5 4, 38), (oAl 0, 39), (oI 7, 41), (oNewA 0, 43), (oPR 5 5, 46), (oAl 0, 47), (oI 7, 49), (oNewA 0, 51), (oPR 5 6, 54), (oAl 0, 55), (oI 7, 57), (oNewA 2, 59), (oPR 5 7, 62), (oAl 0, 63), (oI 2, 64), (oPI 5 8, 67), (oAl 0, 68), (oI 0, 69), (oPI 5 9, 72), (oAl 0, 73), (oI 0, 74), (oPZ 5 10, 77), (oRV, 78)])]
def B_X5_add : List (Nat × zB) := [(0, [(oAl 0, 1), (oGI 5 1, 4), (oI 7, 6), (oCmpLt 12, 9), (oI (-4), 11), (oRI, 12)]),
  (12, [(oAl 0, 13), (oGR 5 3, 16), (oAl 0, 17), (oGI 5 1, 20), (oIl 1, 21), (oSt, 22), (oAl 0, 23), (oGR 5 4, 26), (oAl 0, 27), (oGI 5 1, 30), (oIl 2, 31), (oSt, 32), (oAl 0, 33), (oGR 5 5, 36), (oAl 0, 37), (oGI 5 1, 40), (oIl 3, 41), (oSt, 42), (oAl 0, 43), (oDup, 44), (oGI 5 1, 47), (oI 1, 48), (oAdd, 49), (oPI 5 1, 52), (oAl 0, 53), (oI 0, 54), (oPZ 5 10, 57), (oAl 0, 58), (oGI 5 1, 61), (oI 1, 62), (oSub, 63), (oRI, 64)])]
def B_X5_setGap : List (Nat × zB) := [(0, [(oAl 0, 1), (oGI 5 8, 4), (oIs 2, 5), (oAl 0, 6), (oIl 1, 7), (oPI 5 8, 10), (oAl 0, 11), (oI 0, 12), (oPZ 5 10, 15), (oIl 2, 16), (oRI, 17)])]
def B_X5_settle : List (Nat × zB) := [(0, [(oAl 0, 1), (oGI 5 10, 4), (oIfEq 8, 7), (oRV, 8)]),
  (8, [(oAl 0, 9), (oI 2147483647, 11), (oPI 5 2, 14), (oAl 0, 15), (oI 2147483647, 17), (oPI 5 9, 20), (oAl 0, 21), (oI 0, 22), (oI 0, 23), (oI 0, 24), (oV 3 35 5, 27), (oAl 0, 28), (oI 1, 29), (oPZ 5 10, 32), (oRV, 33)])]
def B_X5_fillPlace : List (Nat × zB) := [(0, [(oIl 3, 1), (oAl 0, 2), (oGI 5 2, 5), (oCmpLe 9, 8), (oRV, 9)]),
  (9, [(oIl 1, 10), (oAl 0, 11), (oGI 5 1, 14), (oCmpGe 23, 17), (oIl 1, 18), (oI 7, 20), (oCmpLt 30, 23), (oGo 23, 23)]),
  (23, [(oAl 0, 24), (oIl 2, 25), (oIl 3, 26), (oV 2 37 5, 29), (oRV, 30)]),
  (30, [(oI 0, 31), (oIs 4, 33), (oGo 33, 33)]),
  (33, [(oIl 4, 35), (oAl 0, 36), (oGI 5 1, 39), (oCmpGe 67, 42), (oAl 0, 43), (oGR 5 7, 46), (oIl 4, 48), (oLdZ, 49), (oIfNe 61, 52), (oAl 0, 53), (oIl 1, 54), (oIl 4, 56), (oIl 2, 57), (oIl 3, 58), (oV 4 36 5, 61), (oGo 61, 61)]),
  (61, [(oInc 4 1, 64), (oGo 33, 67)]),
  (67, [(oRV, 68)])]
def B_X5_tryJob : List (Nat × zB) := [(0, [(oIl 1, 1), (oIfLe 30, 4), (oAl 0, 5), (oGR 5 3, 8), (oAl 0, 9), (oGR 5 6, 12), (oIl 1, 13), (oI 1, 14), (oSub, 15), (oLd, 16), (oLd, 17), (oAl 0, 18), (oGR 5 3, 21), (oIl 2, 22), (oLd, 23), (oCmpEq 30, 26), (oI 1, 27), (oGo 31, 30)]),
  (30, [(oI 0, 31), (oGo 31, 31)]),
  (31, [(oIs 5, 33), (oIl 3, 34), (oIl 5, 36), (oIfEq 46, 39), (oAl 0, 40), (oGI 5 8, 43), (oGo 47, 46)]),
  (46, [(oI 0, 47), (oGo 47, 47)]),
  (47, [(oAdd, 48), (oAl 0, 49), (oGR 5 4, 52), (oIl 2, 53), (oLd, 54), (oAdd, 55), (oIs 6, 57), (oAl 0, 58), (oGR 5 7, 61), (oIl 2, 62), (oI 1, 63), (oStZ, 64), (oAl 0, 65), (oGR 5 6, 68), (oIl 1, 69), (oIl 2, 70), (oSt, 71), (oAl 0, 72), (oIl 1, 73), (oI 1, 74), (oAdd, 75), (oIl 6, 77), (oIl 4, 79), (oI 0, 80), (oIl 6, 82), (oAl 0, 83), (oGR 5 5, 86), (oIl 2, 87), (oLd, 88), (oSub, 89), (oS 2 149, 92), (oAdd, 93), (oV 3 35 5, 96), (oAl 0, 97), (oGR 5 7, 100), (oIl 2, 101), (oI 0, 102), (oStZ, 103), (oRV, 104)])]
def B_X5_keepIfBetter : List (Nat × zB) := [(0, [(oIl 2, 1), (oAl 0, 2), (oGI 5 2, 5), (oCmpLt 24, 8), (oIl 2, 9), (oAl 0, 10), (oGI 5 2, 13), (oCmpNe 62, 16), (oIl 1, 17), (oAl 0, 18), (oGI 5 9, 21), (oCmpGe 62, 24), (oGo 24, 24)]),
  (24, [(oAl 0, 25), (oIl 2, 26), (oPI 5 2, 29), (oAl 0, 30), (oIl 1, 31), (oPI 5 9, 34), (oI 0, 35), (oIs 3, 36), (oGo 36, 36)]),
  (36, [(oIl 3, 37), (oAl 0, 38), (oGI 5 1, 41), (oCmpGe 62, 44), (oAl 0, 45), (oGR 5 0, 48), (oIl 3, 49), (oAl 0, 50), (oGR 5 6, 53), (oIl 3, 54), (oLd, 55), (oSt, 56), (oInc 3 1, 59), (oGo 36, 62)]),
  (62, [(oRV, 63)])]
def B_X6_init : List (Nat × zB) := [(0, [(oAl 0, 1), (oObj, 4), (oAl 0, 5), (oI 8, 7), (oNewA 0, 9), (oPR 6 0, 12), (oAl 0, 13), (oI 8, 15), (oNewA 0, 17), (oPR 6 1, 20), (oAl 0, 21), (oI 8, 23), (oNewA 0, 25), (oPR 6 2, 28), (oAl 0, 29), (oI 8, 31), (oNewA 0, 33), (oPR 6 3, 36), (oAl 0, 37), (oI 0, 38), (oPI 6 4, 41), (oRV, 42)])]
def B_X6_has : List (Nat × zB) := [(0, [(oIl 1, 1), (oIfLt 16, 4), (oIl 1, 5), (oAl 0, 6), (oGI 6 4, 9), (oCmpGe 16, 12), (oI 1, 13), (oGo 17, 16)]),
  (16, [(oI 0, 17), (oGo 17, 17)]),
  (17, [(oRZ, 18)])]
def B_X6_add : List (Nat × zB) := [(0, [(oAl 0, 1), (oGI 6 4, 4), (oI 8, 6), (oCmpLt 12, 9), (oI (-4), 11), (oRI, 12)]),
  (12, [(oAl 0, 13), (oGR 6 0, 16), (oAl 0, 17), (oGI 6 4, 20), (oIl 1, 21), (oSt, 22), (oAl 0, 23), (oGR 6 1, 26), (oAl 0, 27), (oGI 6 4, 30), (oIl 2, 31), (oSt, 32), (oAl 0, 33), (oGR 6 2, 36), (oAl 0, 37), (oGI 6 4, 40), (oIl 3, 41), (oSt, 42), (oAl 0, 43), (oGR 6 3, 46), (oAl 0, 47), (oGI 6 4, 50), (oIl 4, 52), (oSt, 53), (oAl 0, 54), (oDup, 55), (oGI 6 4, 58), (oI 1, 59), (oAdd, 60), (oPI 6 4, 63), (oAl 0, 64), (oGI 6 4, 67), (oI 1, 68), (oSub, 69), (oRI, 70)])]
def B_X7_init : List (Nat × zB) := [(0, [(oAl 0, 1), (oObj, 4), (oAl 0, 5), (oI 800, 8), (oNewA 0, 10), (oPR 7 0, 13), (oAl 0, 14), (oI 0, 15), (oPI 7 1, 18), (oAl 0, 19), (oI 4, 20), (oNewA 0, 22), (oPR 7 2, 25), (oAl 0, 26), (oI 4, 27), (oNewA 0, 29), (oDup, 30), (oI 0, 31), (oI (-1), 32), (oSt, 33), (oDup, 34), (oI 1, 35), (oI (-1), 36), (oSt, 37), (oDup, 38), (oI 2, 39), (oI (-1), 40), (oSt, 41), (oDup, 42), (oI 3, 43), (oI (-1), 44), (oSt, 45), (oPR 7 3, 48), (oRV, 49)])]
def B_X7_found : List (Nat × zB) := [(0, [(oAl 0, 1), (oIl 1, 2), (oPI 7 1, 5), (oI (-10), 7), (oIl 1, 8), (oSub, 9), (oRI, 10)])]
def B_X7_renew : List (Nat × zB) := [(0, [(oIl 3, 1), (oIfGe 10, 4), (oAl 0, 5), (oI 5, 6), (oV 1 42 7, 9), (oRI, 10)]),
  (10, [(oAl 0, 11), (oGR 7 2, 14), (oIl 1, 15), (oIl 2, 16), (oSt, 17), (oAl 0, 18), (oGR 7 3, 21), (oIl 1, 22), (oIl 3, 23), (oSt, 24), (oI 0, 25), (oIs 4, 27), (oGo 27, 27)]),
  (27, [(oIl 4, 29), (oIl 3, 30), (oCmpGe 53, 33), (oAl 0, 34), (oGR 7 0, 37), (oIl 1, 38), (oI 200, 41), (oMul, 42), (oIl 4, 44), (oAdd, 45), (oI 0, 46), (oSt, 47), (oInc 4 1, 50), (oGo 27, 53)]),
  (53, [(oIl 3, 54), (oRI, 55)])]
def B_X7_discard : List (Nat × zB) := [(0, [(oAl 0, 1), (oGR 7 3, 4), (oIl 1, 5), (oLd, 6), (oI (-1), 7), (oCmpNe 16, 10), (oAl 0, 11), (oI 1, 12), (oV 1 42 7, 15), (oRI, 16)]),
  (16, [(oAl 0, 17), (oGR 7 3, 20), (oIl 1, 21), (oLd, 22), (oIs 2, 23), (oAl 0, 24), (oGR 7 3, 27), (oIl 1, 28), (oI (-1), 29), (oSt, 30), (oIl 2, 31), (oRI, 32)])]
def B_X7_faultOf : List (Nat × zB) := [(0, [(oAl 0, 1), (oGR 7 3, 4), (oIl 1, 5), (oLd, 6), (oI (-1), 7), (oCmpNe 12, 10), (oI 1, 11), (oRI, 12)]),
  (12, [(oAl 0, 13), (oGR 7 2, 16), (oIl 1, 17), (oLd, 18), (oIl 2, 19), (oCmpEq 24, 22), (oI 3, 23), (oRI, 24)]),
  (24, [(oIl 3, 25), (oIfLt 38, 28), (oIl 3, 29), (oAl 0, 30), (oGR 7 3, 33), (oIl 1, 34), (oLd, 35), (oCmpLt 42, 38), (oGo 38, 38)]),
  (38, [(oI 2, 39), (oGo 43, 42)]),
  (42, [(oI 0, 43), (oGo 43, 43)]),
  (43, [(oRI, 44)])]
def B_X7_write : List (Nat × zB) := [(0, [(oIl 3, 1), (oIs 4, 3), (oAl 0, 4), (oGR 7 2, 7), (oIl 1, 8), (oLd, 9), (oIfNe 19, 12), (oIl 3, 13), (oI2b, 14), (oIs 4, 16), (oGo 33, 19)]),
  (19, [(oAl 0, 20), (oGR 7 2, 23), (oIl 1, 24), (oLd, 25), (oI 1, 26), (oCmpNe 33, 29), (oIl 3, 30), (oI2s, 31), (oIs 4, 33), (oGo 33, 33)]),
  (33, [(oAl 0, 34), (oGR 7 0, 37), (oIl 1, 38), (oI 200, 41), (oMul, 42), (oIl 2, 43), (oAdd, 44), (oIl 4, 46), (oSt, 47), (oRV, 48)])]
def B_X7_move : List (Nat × zB) := [(0, [(oAl 0, 1), (oGR 7 3, 4), (oIl 1, 5), (oLd, 6), (oI (-1), 7), (oCmpEq 20, 10), (oAl 0, 11), (oGR 7 3, 14), (oIl 3, 15), (oLd, 16), (oI (-1), 17), (oCmpNe 26, 20), (oGo 20, 20)]),
  (20, [(oAl 0, 21), (oI 1, 22), (oV 1 42 7, 25), (oRI, 26)]),
  (26, [(oAl 0, 27), (oGR 7 2, 30), (oIl 1, 31), (oLd, 32), (oAl 0, 33), (oGR 7 2, 36), (oIl 3, 37), (oLd, 38), (oCmpEq 47, 41), (oAl 0, 42), (oI 4, 43), (oV 1 42 7, 46), (oRI, 47)]),
  (47, [(oIl 2, 48), (oIfLt 88, 51), (oIl 4, 53), (oIfLt 88, 56), (oIl 5, 58), (oIfLt 88, 61), (oIl 5, 63), (oAl 0, 64), (oGR 7 3, 67), (oIl 1, 68), (oLd, 69), (oIl 2, 70), (oSub, 71), (oCmpGt 88, 74), (oIl 5, 76), (oAl 0, 77), (oGR 7 3, 80), (oIl 3, 81), (oLd, 82), (oIl 4, 84), (oSub, 85), (oCmpLe 94, 88), (oGo 88, 88)]),
  (88, [(oAl 0, 89), (oI 2, 90), (oV 1 42 7, 93), (oRI, 94)]),
  (94, [(oAl 0, 95), (oGR 7 0, 98), (oIl 1, 99), (oI 200, 102), (oMul, 103), (oIl 2, 104), (oAdd, 105), (oAl 0, 106), (oGR 7 0, 109), (oIl 3, 110), (oI 200, 113), (oMul, 114), (oIl 4, 116), (oAdd, 117), (oIl 5, 119), (oCpy, 122), (oI 1, 123), (oRI, 124)])]
def B_X7_weight : List (Nat × zB) := [(0, [(oIl 1, 1), (oIfLt 14, 4), (oIl 1, 5), (oAl 0, 6), (oGR 7 3, 9), (oI 0, 10), (oLd, 11), (oCmpLt 16, 14), (oGo 14, 14)]),
  (14, [(oI (-1), 15), (oRI, 16)]),
  (16, [(oAl 0, 17), (oGR 7 0, 20), (oIl 1, 21), (oLd, 22), (oIs 2, 23), (oIl 2, 24), (oI 1, 25), (oI 20000, 28), (oS 3 88, 31), (oIfEq 38, 34), (oIl 2, 35), (oGo 39, 38)]),
  (38, [(oI (-1), 39), (oGo 39, 39)]),
  (39, [(oRI, 40)])]
def B_X8_init : List (Nat × zB) := [(0, [(oAl 0, 1), (oObj, 4), (oAl 0, 5), (oI 0, 6), (oPI 8 0, 9), (oAl 0, 10), (oI 0, 11), (oPI 8 1, 14), (oAl 0, 15), (oI 0, 16), (oPI 8 2, 19), (oAl 0, 20), (oI 0, 21), (oPI 8 3, 24), (oAl 0, 25), (oI 0, 26), (oPI 8 4, 29), (oAl 0, 30), (oI 0, 31), (oPI 8 5, 34), (oAl 0, 35), (oI 0, 36), (oPI 8 6, 39), (oAl 0, 40), (oI 0, 41), (oPI 8 7, 44), (oRV, 45)])]
def B_X8_trim : List (Nat × zB) := [(0, [(oAl 0, 1), (oIl 2, 2), (oPI 8 0, 5), (oAl 0, 6), (oI 0, 7), (oAl 0, 8), (oGI 8 0, 11), (oAl 1, 12), (oI 0, 13), (oLd, 14), (oSub, 15), (oS 2 149, 18), (oIl 3, 19), (oMul, 20), (oI 1000, 23), (oAl 1, 24), (oI 5, 25), (oLd, 26), (oAdd, 27), (oMul, 28), (oI 1000, 31), (oDiv, 32), (oPI 8 1, 35), (oAl 0, 36), (oGI 8 1, 39), (oIs 5, 41), (oAl 0, 42), (oAl 1, 43), (oI 1, 44), (oLd, 45), (oIl 5, 47), (oS 2 150, 50), (oPI 8 2, 53), (oIl 5, 55), (oAl 0, 56), (oGI 8 2, 59), (oSub, 60), (oIs 5, 62), (oAl 0, 63), (oAl 1, 64), (oI 2, 65), (oLd, 66), (oIl 5, 68), (oS 2 150, 71), (oPI 8 3, 74), (oIl 5, 76), (oAl 0, 77), (oGI 8 3, 80), (oSub, 81), (oIs 5, 83), (oAl 0, 84), (oIl 4, 86), (oIfEq 100, 89), (oAl 1, 90), (oI 3, 91), (oLd, 92), (oIl 5, 94), (oS 2 150, 97), (oGo 101, 100)]),
  (100, [(oI 0, 101), (oGo 101, 101)]),
  (101, [(oPI 8 4, 104), (oAl 0, 105), (oIl 5, 107), (oAl 0, 108), (oGI 8 4, 111), (oSub, 112), (oPI 8 5, 115), (oRV, 116)])]
def B_X8_share : List (Nat × zB) := [(0, [(oAl 0, 1), (oIl 1, 2), (oPI 8 6, 5), (oAl 0, 6), (oAl 0, 7), (oGI 8 5, 10), (oIl 1, 11), (oSub, 12), (oPI 8 7, 15), (oRV, 16)])]
def B_X9_init : List (Nat × zB) := [(0, [(oAl 0, 1), (oObj, 4), (oAl 0, 5), (oNew 6, 8), (oDup, 9), (oNi 38 6, 12), (oPR 9 0, 15), (oAl 0, 16), (oNew 3, 19), (oDup, 20), (oNi 22 10, 23), (oPR 9 1, 26), (oAl 0, 27), (oNew 2, 30), (oDup, 31), (oNi 14 16, 34), (oPR 9 2, 37), (oAl 0, 38), (oI 6, 40), (oNewA 0, 42), (oDup, 43), (oI 0, 44), (oI 20, 46), (oSt, 47), (oDup, 48), (oI 1, 49), (oI 500, 52), (oSt, 53), (oDup, 54), (oI 2, 55), (oI 300, 58), (oSt, 59), (oDup, 60), (oI 3, 61), (oI 400, 64), (oSt, 65), (oDup, 66), (oI 4, 67), (oI 5, 68), (oSt, 69), (oDup, 70), (oI 5, 71), (oI 5, 72), (oSt, 73), (oPR 9 3, 76), (oAl 0, 77), (oNew 8, 80), (oDup, 81), (oNi 49 18, 84), (oPR 9 4, 87), (oAl 0, 88), (oNew 4, 91), (oDup, 92), (oNi 25 22, 95), (oPR 9 5, 98), (oAl 0, 99), (oNew 1, 102), (oDup, 103), (oNi 2 33, 106), (oPR 9 6, 109), (oAl 0, 110), (oNew 0, 113), (oDup, 114), (oNi 0 34, 117), (oPR 9 7, 120), (oAl 0, 121), (oI 6, 123), (oNewA 0, 125), (oPR 9 8, 128), (oAl 0, 129), (oNew 5, 132), (oDup, 133), (oNi 31 42, 136), (oPR 9 9, 139), (oAl 0, 140), (oNew 7, 143), (oDup, 144), (oNi 41 46, 147), (oPR 9 10, 150), (oAl 0, 151), (oI 0, 152), (oPI 9 11, 155), (oAl 0, 156), (oI 0, 157), (oPI 9 12, 160), (oAl 0, 161), (oI 100000, 163), (oPI 9 13, 166), (oAl 0, 167), (oI 0, 168), (oPI 9 14, 171), (oRV, 172)])]
def B_X9_profile : List (Nat × zB) := [(0, [(oIl 1, 1), (oI 0, 2), (oI 2, 3), (oS 3 88, 6), (oIfEq 19, 9), (oIl 2, 10), (oI 5, 11), (oI 80, 13), (oS 3 88, 16), (oIfNe 22, 19), (oGo 19, 19)]),
  (19, [(oI (-2), 21), (oRI, 22)]),
  (22, [(oIl 3, 23), (oI 0, 24), (oI 3, 25), (oS 3 88, 28), (oIfEq 44, 31), (oIl 4, 33), (oI 100, 35), (oI 9999, 38), (oS 3 88, 41), (oIfNe 47, 44), (oGo 44, 44)]),
  (44, [(oI (-2), 46), (oRI, 47)]),
  (47, [(oAl 0, 48), (oGR 9 0, 51), (oIl 1, 52), (oIl 2, 53), (oIl 3, 54), (oIl 4, 56), (oV 4 40 6, 59), (oRI, 60)])]
def B_X9_die : List (Nat × zB) := [(0, [(oAl 0, 1), (oGR 9 0, 4), (oIl 1, 5), (oV 1 39 6, 8), (oIfEq 21, 11), (oIl 2, 12), (oI 1, 13), (oI 50, 15), (oS 3 88, 18), (oIfNe 24, 21), (oGo 21, 21)]),
  (21, [(oI (-2), 23), (oRI, 24)]),
  (24, [(oAl 0, 25), (oGR 9 2, 28), (oIl 1, 29), (oIl 2, 30), (oV 2 16 2, 33), (oRI, 34)])]
def B_X9_warm : List (Nat × zB) := [(0, [(oAl 0, 1), (oGR 9 2, 4), (oIl 1, 5), (oV 1 15 2, 8), (oIfNe 14, 11), (oI (-2), 13), (oRI, 14)]),
  (14, [(oAl 0, 15), (oGR 9 2, 18), (oIl 1, 19), (oV 1 17 2, 22), (oIfEq 28, 25), (oI (-3), 27), (oRI, 28)]),
  (28, [(oAl 0, 29), (oGR 9 2, 32), (oGR 2 4, 35), (oIl 1, 36), (oAl 0, 37), (oGI 9 11, 40), (oSt, 41), (oI 1, 42), (oRI, 43)])]
def B_X9_cool : List (Nat × zB) := [(0, [(oAl 0, 1), (oGR 9 2, 4), (oIl 1, 5), (oV 1 15 2, 8), (oIfNe 14, 11), (oI (-2), 13), (oRI, 14)]),
  (14, [(oAl 0, 15), (oGR 9 2, 18), (oIl 1, 19), (oV 1 17 2, 22), (oIfNe 28, 25), (oI (-3), 27), (oRI, 28)]),
  (28, [(oAl 0, 29), (oGR 9 2, 32), (oIl 1, 33), (oAl 0, 34), (oGI 9 11, 37), (oV 2 18 2, 40), (oIs 2, 41), (oAl 0, 42), (oGR 9 2, 45), (oGR 2 4, 48), (oIl 1, 49), (oI (-1), 50), (oSt, 51), (oIl 2, 52), (oRI, 53)])]
def B_X9_nitride : List (Nat × zB) := [(0, [(oAl 0, 1), (oGR 9 2, 4), (oIl 1, 5), (oV 1 15 2, 8), (oIfNe 14, 11), (oI (-2), 13), (oRI, 14)]),
  (14, [(oAl 0, 15), (oGR 9 2, 18), (oIl 1, 19), (oV 1 17 2, 22), (oIfEq 28, 25), (oI (-3), 27), (oRI, 28)]),
  (28, [(oAl 0, 29), (oGR 9 2, 32), (oGR 2 2, 35), (oIl 1, 36), (oLd, 37), (oIs 2, 38), (oAl 0, 39), (oGR 9 2, 42), (oGR 2 2, 45), (oIl 1, 46), (oI 0, 47), (oSt, 48), (oIl 2, 49), (oRI, 50)])]
def B_X9_about : List (Nat × zB) := [(0, [(oAl 0, 1), (oGR 9 2, 4), (oIl 1, 5), (oV 1 15 2, 8), (oIfNe 14, 11), (oI (-2), 13), (oRI, 14)]),
  (14, [(oIl 2, 15), (oSw 126 [52, 62, 72, 82, 95, 116], 52)]),
  (52, [(oAl 0, 53), (oGR 9 2, 56), (oGR 2 0, 59), (oIl 1, 60), (oLd, 61), (oRI, 62)]),
  (62, [(oAl 0, 63), (oGR 9 2, 66), (oGR 2 1, 69), (oIl 1, 70), (oLd, 71), (oRI, 72)]),
  (72, [(oAl 0, 73), (oGR 9 2, 76), (oGR 2 2, 79), (oIl 1, 80), (oLd, 81), (oRI, 82)]),
  (82, [(oAl 0, 83), (oGR 9 2, 86), (oIl 1, 87), (oAl 0, 88), (oGI 9 11, 91), (oV 2 18 2, 94), (oRI, 95)]),
  (95, [(oAl 0, 96), (oGR 9 2, 99), (oIl 1, 100), (oAl 0, 101), (oGI 9 11, 104), (oV 2 19 2, 107), (oIfEq 114, 110), (oI 1, 111), (oGo 115, 114)]),
  (114, [(oI 0, 115), (oGo 115, 115)]),
  (115, [(oRI, 116)]),
  (116, [(oAl 0, 117), (oGR 9 2, 120), (oGR 2 3, 123), (oIl 1, 124), (oLd, 125), (oRI, 126)]),
  (126, [(oI (-2), 128), (oRI, 129)])]
def B_X9_ready : List (Nat × zB) := [(0, [(oAl 0, 1), (oGR 9 0, 4), (oIl 1, 5), (oV 1 39 6, 8), (oIfNe 14, 11), (oI (-2), 13), (oRI, 14)]),
  (14, [(oAl 0, 15), (oGR 9 2, 18), (oIl 1, 19), (oAl 0, 20), (oGI 9 11, 23), (oV 2 20 2, 26), (oRI, 27)])]
def B_X9_pass : List (Nat × zB) := [(0, [(oIl 1, 1), (oI 1, 2), (oI 100, 4), (oS 3 88, 7), (oIfNe 13, 10), (oI (-2), 12), (oRI, 13)]),
  (13, [(oAl 0, 14), (oDup, 15), (oGI 9 11, 18), (oIl 1, 19), (oAdd, 20), (oPI 9 11, 23), (oAl 0, 24), (oGI 9 11, 27), (oRI, 28)])]
def B_X9_law : List (Nat × zB) := [(0, [(oIl 1, 1), (oI 0, 2), (oGS, 5), (oLimN, 6), (oI 1, 7), (oSub, 8), (oS 3 88, 11), (oIfEq 27, 14), (oIl 2, 15), (oI 0, 16), (oGS, 19), (oIl 1, 20), (oLim, 21), (oS 3 88, 24), (oIfNe 30, 27), (oGo 27, 27)]),
  (27, [(oI (-2), 29), (oRI, 30)]),
  (30, [(oAl 0, 31), (oGR 9 3, 34), (oIl 1, 35), (oLd, 36), (oIs 3, 37), (oAl 0, 38), (oGR 9 3, 41), (oIl 1, 42), (oIl 2, 43), (oSt, 44), (oIl 3, 45), (oRI, 46)])]
def B_X9_press : List (Nat × zB) := [(0, [(oAl 0, 1), (oGR 9 2, 4), (oIl 1, 5), (oV 1 15 2, 8), (oIfEq 24, 11), (oIl 2, 12), (oI 200, 15), (oI 1200, 18), (oS 3 88, 21), (oIfNe 27, 24), (oGo 24, 24)]),
  (24, [(oI (-2), 26), (oRI, 27)]),
  (27, [(oAl 0, 28), (oGR 9 2, 31), (oIl 1, 32), (oAl 0, 33), (oGI 9 11, 36), (oV 2 19 2, 39), (oIfNe 45, 42), (oI (-3), 44), (oRI, 45)]),
  (45, [(oAl 0, 46), (oGR 9 6, 49), (oGI 1 10, 52), (oI 200, 55), (oCmpLt 61, 58), (oI (-4), 60), (oRI, 61)]),
  (61, [(oAl 0, 62), (oGR 9 2, 65), (oGR 2 0, 68), (oIl 1, 69), (oLd, 70), (oIs 3, 71), (oAl 0, 72), (oIl 3, 73), (oIl 2, 74), (oAl 0, 75), (oGR 9 6, 78), (oIl 1, 79), (oAl 0, 80), (oGI 9 11, 83), (oI 1, 84), (oSub, 85), (oV 2 4 1, 88), (oV 3 91 9, 91), (oAl 0, 92), (oGR 9 6, 95), (oIl 1, 96), (oAl 0, 97), (oGR 9 4, 100), (oAl 0, 101), (oGR 9 0, 104), (oGR 6 2, 107), (oIl 3, 108), (oLd, 109), (oAl 0, 110), (oGR 9 0, 113), (oGR 6 3, 116), (oIl 3, 117), (oLd, 118), (oAl 0, 119), (oGI 9 11, 122), (oV 5 5 1, 125), (oAl 0, 126), (oGR 9 7, 129), (oAl 0, 130), (oGR 9 4, 133), (oV 1 1 0, 136), (oAl 0, 137), (oGR 9 1, 140), (oIl 3, 141), (oAl 0, 142), (oGR 9 5, 145), (oGR 4 0, 148), (oV 2 24 3, 151), (oAl 0, 152), (oGR 9 2, 155), (oIl 1, 156), (oV 1 21 2, 159), (oAl 0, 160), (oDup, 161), (oGI 9 11, 164), (oI 1, 165), (oAdd, 166), (oPI 9 11, 169), (oAl 0, 170), (oGR 9 4, 173), (oGI 8 6, 176), (oRI, 177)])]
def B_X9_bar : List (Nat × zB) := [(0, [(oAl 0, 1), (oGR 9 6, 4), (oIl 1, 5), (oV 1 3 1, 8), (oIfNe 14, 11), (oI (-2), 13), (oRI, 14)]),
  (14, [(oIl 2, 15), (oSw 126 [56, 66, 76, 86, 96, 106, 116], 56)]),
  (56, [(oAl 0, 57), (oGR 9 6, 60), (oGR 1 0, 63), (oIl 1, 64), (oLd, 65), (oRI, 66)]),
  (66, [(oAl 0, 67), (oGR 9 6, 70), (oGR 1 1, 73), (oIl 1, 74), (oLd, 75), (oRI, 76)]),
  (76, [(oAl 0, 77), (oGR 9 6, 80), (oGR 1 2, 83), (oIl 1, 84), (oLd, 85), (oRI, 86)]),
  (86, [(oAl 0, 87), (oGR 9 6, 90), (oGR 1 3, 93), (oIl 1, 94), (oLd, 95), (oRI, 96)]),
  (96, [(oAl 0, 97), (oGR 9 6, 100), (oGR 1 4, 103), (oIl 1, 104), (oLd, 105), (oRI, 106)]),
  (106, [(oAl 0, 107), (oGR 9 6, 110), (oGR 1 5, 113), (oIl 1, 114), (oLd, 115), (oRI, 116)]),
  (116, [(oAl 0, 117), (oGR 9 6, 120), (oGR 1 6, 123), (oIl 1, 124), (oLd, 125), (oRI, 126)]),
  (126, [(oI (-2), 128), (oRI, 129)])]
def B_X9_order : List (Nat × zB) := [(0, [(oAl 0, 1), (oGR 9 0, 4), (oIl 1, 5), (oV 1 39 6, 8), (oIfEq 34, 11), (oIl 2, 12), (oI 100, 14), (oI 9000, 17), (oS 3 88, 20), (oIfEq 34, 23), (oIl 3, 24), (oI 0, 25), (oI 500, 28), (oS 3 88, 31), (oIfNe 37, 34), (oGo 34, 34)]),
  (34, [(oI (-2), 36), (oRI, 37)]),
  (37, [(oAl 0, 38), (oGR 9 1, 41), (oIl 1, 42), (oIl 2, 43), (oIl 3, 44), (oV 3 23 3, 47), (oRI, 48)])]
def B_X9_wanted : List (Nat × zB) := [(0, [(oAl 0, 1), (oGR 9 0, 4), (oIl 1, 5), (oV 1 39 6, 8), (oIfEq 30, 11), (oIl 2, 12), (oI 0, 13), (oAl 0, 14), (oGR 9 1, 17), (oGR 3 0, 20), (oIl 1, 21), (oLd, 22), (oI 1, 23), (oSub, 24), (oS 3 88, 27), (oIfNe 33, 30), (oGo 30, 30)]),
  (30, [(oI (-2), 32), (oRI, 33)]),
  (33, [(oAl 0, 34), (oGR 9 1, 37), (oGR 3 2, 40), (oIl 1, 41), (oI 3, 42), (oMul, 43), (oIl 2, 44), (oAdd, 45), (oLd, 46), (oRI, 47)])]
def B_X9_pattern : List (Nat × zB) := [(0, [(oAl 0, 1), (oGR 9 0, 4), (oIl 1, 5), (oV 1 39 6, 8), (oIfEq 30, 11), (oIl 2, 12), (oI 0, 13), (oI 200000, 15), (oS 3 88, 18), (oIfEq 30, 21), (oIl 3, 22), (oI 0, 23), (oI 3, 24), (oS 3 88, 27), (oIfNe 33, 30), (oGo 30, 30)]),
  (30, [(oI (-2), 32), (oRI, 33)]),
  (33, [(oAl 0, 34), (oGR 9 5, 37), (oAl 0, 38), (oGR 9 1, 41), (oIl 1, 42), (oIl 2, 43), (oAl 0, 44), (oGR 9 3, 47), (oI 4, 48), (oLd, 49), (oV 4 26 4, 52), (oIl 3, 53), (oI 3, 54), (oCmpNe 67, 57), (oAl 0, 58), (oGR 9 5, 61), (oGI 4 1, 64), (oGo 76, 67)]),
  (67, [(oAl 0, 68), (oGR 9 5, 71), (oGR 4 0, 74), (oIl 3, 75), (oLd, 76), (oGo 76, 76)]),
  (76, [(oRI, 77)])]
def B_X9_account : List (Nat × zB) := [(0, [(oIl 1, 1), (oSw 100 [44, 52, 60, 68, 76, 84, 92], 44)]),
  (44, [(oAl 0, 45), (oGR 9 7, 48), (oGI 0 0, 51), (oRI, 52)]),
  (52, [(oAl 0, 53), (oGR 9 7, 56), (oGI 0 1, 59), (oRI, 60)]),
  (60, [(oAl 0, 61), (oGR 9 7, 64), (oGI 0 2, 67), (oRI, 68)]),
  (68, [(oAl 0, 69), (oGR 9 7, 72), (oGI 0 3, 75), (oRI, 76)]),
  (76, [(oAl 0, 77), (oGR 9 7, 80), (oGI 0 4, 83), (oRI, 84)]),
  (84, [(oAl 0, 85), (oGR 9 7, 88), (oGI 0 5, 91), (oRI, 92)]),
  (92, [(oAl 0, 93), (oGR 9 7, 96), (oGI 0 6, 99), (oRI, 100)]),
  (100, [(oI (-2), 102), (oRI, 103)])]
def B_X9_stock : List (Nat × zB) := [(0, [(oIl 1, 1), (oI 200, 4), (oI 1200, 7), (oS 3 88, 10), (oIfNe 16, 13), (oI (-2), 15), (oRI, 16)]),
  (16, [(oAl 0, 17), (oGI 9 12, 20), (oI 6, 22), (oCmpLt 28, 25), (oI (-4), 27), (oRI, 28)]),
  (28, [(oAl 0, 29), (oGR 9 8, 32), (oAl 0, 33), (oGI 9 12, 36), (oIl 1, 37), (oSt, 38), (oAl 0, 39), (oDup, 40), (oGI 9 12, 43), (oI 1, 44), (oAdd, 45), (oPI 9 12, 48), (oAl 0, 49), (oGI 9 12, 52), (oRI, 53)])]
def B_X9_best : List (Nat × zB) := [(0, [(oAl 0, 1), (oGR 9 2, 4), (oIl 1, 5), (oV 1 15 2, 8), (oIfNe 14, 11), (oI (-2), 13), (oRI, 14)]),
  (14, [(oI (-1), 15), (oIs 3, 16), (oI 0, 17), (oIs 4, 19), (oI 0, 20), (oIs 5, 22), (oGo 22, 22)]),
  (22, [(oIl 5, 24), (oAl 0, 25), (oGI 9 12, 28), (oCmpGe 92, 31), (oAl 0, 32), (oGR 9 8, 35), (oIl 5, 37), (oLd, 38), (oIs 6, 40), (oAl 0, 41), (oAl 0, 42), (oGR 9 2, 45), (oGR 2 0, 48), (oIl 1, 49), (oLd, 50), (oIl 6, 52), (oIl 2, 53), (oV 3 91 9, 56), (oAl 0, 57), (oGR 9 4, 60), (oGI 8 6, 63), (oIl 6, 65), (oIl 4, 67), (oIl 3, 68), (oS 4 92, 71), (oIfEq 86, 74), (oIl 6, 76), (oIs 3, 77), (oAl 0, 78), (oGR 9 4, 81), (oGI 8 6, 84), (oIs 4, 86), (oGo 86, 86)]),
  (86, [(oInc 5 1, 89), (oGo 22, 92)]),
  (92, [(oIl 3, 93), (oRI, 94)])]
def B_X9_job : List (Nat × zB) := [(0, [(oAl 0, 1), (oGR 9 0, 4), (oIl 1, 5), (oV 1 39 6, 8), (oIfEq 32, 11), (oIl 2, 12), (oI 1, 13), (oI 50, 15), (oS 3 88, 18), (oIfEq 32, 21), (oIl 3, 22), (oI 0, 23), (oI 1000, 26), (oS 3 88, 29), (oIfNe 35, 32), (oGo 32, 32)]),
  (32, [(oI (-2), 34), (oRI, 35)]),
  (35, [(oAl 0, 36), (oGR 9 9, 39), (oAl 0, 40), (oGR 9 0, 43), (oGR 6 0, 46), (oIl 1, 47), (oLd, 48), (oIl 2, 49), (oIl 3, 50), (oV 3 32 5, 53), (oRI, 54)])]
def B_X9_change : List (Nat × zB) := [(0, [(oIl 1, 1), (oI 0, 2), (oI 20, 4), (oS 3 88, 7), (oIfNe 13, 10), (oI (-2), 12), (oRI, 13)]),
  (13, [(oAl 0, 14), (oGR 9 9, 17), (oIl 1, 18), (oV 1 33 5, 21), (oRI, 22)])]
def B_X9_late : List (Nat × zB) := [(0, [(oAl 0, 1), (oGR 9 9, 4), (oV 0 34 5, 7), (oAl 0, 8), (oGR 9 9, 11), (oGI 5 2, 14), (oRI, 15)])]
def B_X9_planned : List (Nat × zB) := [(0, [(oIl 1, 1), (oI 0, 2), (oAl 0, 3), (oGR 9 9, 6), (oGI 5 1, 9), (oI 1, 10), (oSub, 11), (oS 3 88, 14), (oIfNe 20, 17), (oI (-2), 19), (oRI, 20)]),
  (20, [(oAl 0, 21), (oGR 9 9, 24), (oV 0 34 5, 27), (oAl 0, 28), (oGR 9 9, 31), (oGR 5 0, 34), (oIl 1, 35), (oLd, 36), (oRI, 37)])]
def B_X9_room : List (Nat × zB) := [(0, [(oIl 1, 1), (oI 1000, 4), (oI 1000000, 6), (oS 3 88, 9), (oIfNe 15, 12), (oI (-2), 14), (oRI, 15)]),
  (15, [(oAl 0, 16), (oGI 9 13, 19), (oIs 2, 20), (oAl 0, 21), (oIl 1, 22), (oPI 9 13, 25), (oIl 2, 26), (oRI, 27)])]
def B_X9_age : List (Nat × zB) := [(0, [(oAl 0, 1), (oGR 9 6, 4), (oV 0 8 1, 7), (oIs 1, 8), (oIl 1, 9), (oI (-1), 10), (oCmpNe 16, 13), (oI (-3), 15), (oRI, 16)]),
  (16, [(oAl 0, 17), (oGR 9 6, 20), (oIl 1, 21), (oAl 0, 22), (oGI 9 13, 25), (oAl 0, 26), (oGI 9 14, 29), (oV 3 9 1, 32), (oIs 2, 33), (oAl 0, 34), (oDup, 35), (oGI 9 14, 38), (oI 1, 39), (oAdd, 40), (oPI 9 14, 43), (oIl 2, 44), (oRI, 45)])]
def B_X9_batches : List (Nat × zB) := [(0, [(oI 0, 1), (oIs 1, 2), (oI 0, 3), (oIs 2, 4), (oGo 4, 4)]),
  (4, [(oIl 2, 5), (oI 4, 6), (oCmpGe 30, 9), (oIl 1, 10), (oAl 0, 11), (oGR 9 6, 14), (oIl 2, 15), (oAl 0, 16), (oGI 9 13, 19), (oV 2 10 1, 22), (oAdd, 23), (oIs 1, 24), (oInc 2 1, 27), (oGo 4, 30)]),
  (30, [(oIl 1, 31), (oRI, 32)])]
def B_X9_sample : List (Nat × zB) := [(0, [(oAl 0, 1), (oGR 9 6, 4), (oIl 1, 5), (oV 1 3 1, 8), (oIfNe 14, 11), (oI (-2), 13), (oRI, 14)]),
  (14, [(oAl 0, 15), (oGR 9 6, 18), (oGR 1 9, 21), (oIl 1, 22), (oIl 2, 23), (oIfEq 30, 26), (oI 1, 27), (oGo 31, 30)]),
  (30, [(oI 2, 31), (oGo 31, 31)]),
  (31, [(oSt, 32), (oI 1, 33), (oRI, 34)])]
def B_X9_suspect : List (Nat × zB) := [(0, [(oAl 0, 1), (oGR 9 6, 4), (oIl 1, 5), (oV 1 3 1, 8), (oIfNe 14, 11), (oI (-2), 13), (oRI, 14)]),
  (14, [(oAl 0, 15), (oGR 9 6, 18), (oIl 1, 19), (oV 1 11 1, 22), (oIfEq 29, 25), (oI 1, 26), (oGo 30, 29)]),
  (29, [(oI 0, 30), (oGo 30, 30)]),
  (30, [(oRI, 31)])]
def B_X9_held : List (Nat × zB) := [(0, [(oI 0, 1), (oIs 1, 2), (oI 0, 3), (oIs 2, 4), (oGo 4, 4)]),
  (4, [(oIl 2, 5), (oAl 0, 6), (oGR 9 6, 9), (oGI 1 10, 12), (oCmpGe 44, 15), (oAl 0, 16), (oGR 9 6, 19), (oIl 2, 20), (oV 1 11 1, 23), (oIfEq 38, 26), (oIl 1, 27), (oAl 0, 28), (oGR 9 6, 31), (oGR 1 3, 34), (oIl 2, 35), (oLd, 36), (oAdd, 37), (oIs 1, 38), (oGo 38, 38)]),
  (38, [(oInc 2 1, 41), (oGo 4, 44)]),
  (44, [(oIl 1, 45), (oRI, 46)])]
def B_X9_drift : List (Nat × zB) := [(0, [(oAl 0, 1), (oGR 9 6, 4), (oIl 1, 5), (oV 1 3 1, 8), (oIfEq 27, 11), (oAl 0, 12), (oGR 9 6, 15), (oIl 2, 16), (oV 1 3 1, 19), (oIfEq 27, 22), (oIl 1, 23), (oIl 2, 24), (oCmpLe 31, 27), (oGo 27, 27)]),
  (27, [(oI (-100000), 30), (oRI, 31)]),
  (31, [(oI 0, 32), (oIs 3, 33), (oI 0, 34), (oIs 4, 36), (oIl 1, 37), (oIs 5, 39), (oGo 39, 39)]),
  (39, [(oIl 5, 41), (oIl 2, 42), (oCmpGt 89, 45), (oAl 0, 46), (oGR 9 10, 49), (oIl 5, 51), (oV 1 48 7, 54), (oIs 6, 56), (oIl 6, 58), (oI (-1), 59), (oCmpEq 83, 62), (oInc 3 1, 65), (oIl 4, 67), (oIl 6, 69), (oAl 0, 70), (oGR 9 6, 73), (oGR 1 8, 76), (oIl 5, 78), (oLd, 79), (oSub, 80), (oAdd, 81), (oIs 4, 83), (oGo 83, 83)]),
  (83, [(oInc 5 1, 86), (oGo 39, 89)]),
  (89, [(oIl 3, 90), (oIfNe 99, 93), (oI (-100001), 96), (oGo 105, 99)]),
  (99, [(oIl 4, 101), (oIl 3, 102), (oS 2 148, 105), (oGo 105, 105)]),
  (105, [(oRI, 106)])]
def B_X9_sheet : List (Nat × zB) := [(0, [(oIl 1, 1), (oS 1 89, 4), (oIfEq 21, 7), (oIl 2, 8), (oS 1 90, 11), (oIfEq 21, 14), (oIl 3, 15), (oI 200, 18), (oCmpLe 24, 21), (oGo 21, 21)]),
  (21, [(oI (-2), 23), (oRI, 24)]),
  (24, [(oAl 0, 25), (oGR 9 10, 28), (oIl 1, 29), (oIl 2, 30), (oIl 3, 31), (oV 3 43 7, 34), (oRI, 35)])]
def B_X9_lose : List (Nat × zB) := [(0, [(oIl 1, 1), (oS 1 89, 4), (oIfNe 10, 7), (oI (-2), 9), (oRI, 10)]),
  (10, [(oAl 0, 11), (oGR 9 10, 14), (oIl 1, 15), (oV 1 44 7, 18), (oRI, 19)])]
def B_X9_put : List (Nat × zB) := [(0, [(oIl 1, 1), (oS 1 89, 4), (oIfEq 14, 7), (oIl 2, 8), (oS 1 90, 11), (oIfNe 17, 14), (oGo 14, 14)]),
  (14, [(oI (-2), 16), (oRI, 17)]),
  (17, [(oAl 0, 18), (oGR 9 10, 21), (oIl 1, 22), (oIl 2, 23), (oIl 3, 24), (oV 3 45 7, 27), (oIs 5, 29), (oIl 5, 31), (oIfEq 44, 34), (oAl 0, 35), (oGR 9 10, 38), (oIl 5, 40), (oV 1 42 7, 43), (oRI, 44)]),
  (44, [(oAl 0, 45), (oGR 9 10, 48), (oIl 1, 49), (oIl 3, 50), (oIl 4, 52), (oV 3 46 7, 55), (oI 1, 56), (oRI, 57)])]
def B_X9_get : List (Nat × zB) := [(0, [(oIl 1, 1), (oS 1 89, 4), (oIfEq 14, 7), (oIl 2, 8), (oS 1 90, 11), (oIfNe 18, 14), (oGo 14, 14)]),
  (14, [(oI (-2147483648), 17), (oRI, 18)]),
  (18, [(oAl 0, 19), (oGR 9 10, 22), (oIl 1, 23), (oIl 2, 24), (oIl 3, 25), (oV 3 45 7, 28), (oIs 4, 30), (oIl 4, 32), (oIfEq 49, 35), (oAl 0, 36), (oGR 9 10, 39), (oIl 4, 41), (oV 1 42 7, 44), (oPop, 45), (oI (-2147483648), 48), (oRI, 49)]),
  (49, [(oAl 0, 50), (oGR 9 10, 53), (oGR 7 0, 56), (oIl 1, 57), (oI 200, 60), (oMul, 61), (oIl 3, 62), (oAdd, 63), (oLd, 64), (oRI, 65)])]
def B_X9_copy : List (Nat × zB) := [(0, [(oIl 1, 1), (oS 1 89, 4), (oIfEq 14, 7), (oIl 3, 8), (oS 1 89, 11), (oIfNe 17, 14), (oGo 14, 14)]),
  (14, [(oI (-2), 16), (oRI, 17)]),
  (17, [(oAl 0, 18), (oGR 9 10, 21), (oIl 1, 22), (oIl 2, 23), (oIl 3, 24), (oIl 4, 26), (oIl 5, 28), (oV 5 47 7, 31), (oRI, 32)])]
def B_X9_count : List (Nat × zB) := [(0, [(oIl 1, 1), (oSw 106 [48, 56, 64, 69, 77, 85, 90, 98], 48)]),
  (48, [(oAl 0, 49), (oGR 9 0, 52), (oGI 6 4, 55), (oRI, 56)]),
  (56, [(oAl 0, 57), (oGR 9 2, 60), (oGI 2 5, 63), (oRI, 64)]),
  (64, [(oAl 0, 65), (oGI 9 11, 68), (oRI, 69)]),
  (69, [(oAl 0, 70), (oGR 9 6, 73), (oGI 1 10, 76), (oRI, 77)]),
  (77, [(oAl 0, 78), (oGR 9 9, 81), (oGI 5 1, 84), (oRI, 85)]),
  (85, [(oAl 0, 86), (oGI 9 14, 89), (oRI, 90)]),
  (90, [(oAl 0, 91), (oGR 9 10, 94), (oGI 7 1, 97), (oRI, 98)]),
  (98, [(oAl 0, 99), (oGR 9 6, 102), (oV 0 7 1, 105), (oRI, 106)]),
  (106, [(oI (-2), 108), (oRI, 109)])]
def B_X9_digest : List (Nat × zB) := [(0, [(oJ 17, 3), (oJs 1, 4), (oI 0, 5), (oIs 3, 6), (oGo 6, 6)]),
  (6, [(oIl 3, 7), (oI 5, 8), (oCmpGt 30, 11), (oJ 31, 14), (oJl 1, 15), (oJmul, 16), (oAl 0, 17), (oIl 3, 18), (oV 1 86 9, 21), (oI2l, 22), (oJadd, 23), (oJs 1, 24), (oInc 3 1, 27), (oGo 6, 30)]),
  (30, [(oJ 31, 33), (oJl 1, 34), (oJmul, 35), (oAl 0, 36), (oI 7, 38), (oV 1 86 9, 41), (oI2l, 42), (oJadd, 43), (oJs 1, 44), (oI 0, 45), (oIs 3, 46), (oGo 46, 46)]),
  (46, [(oIl 3, 47), (oAl 0, 48), (oGR 9 2, 51), (oGI 2 5, 54), (oCmpGe 93, 57), (oI 2, 58), (oIs 4, 60), (oGo 60, 60)]),
  (60, [(oIl 4, 62), (oI 4, 63), (oCmpGt 87, 66), (oJ 31, 69), (oJl 1, 70), (oJmul, 71), (oAl 0, 72), (oIl 3, 73), (oIl 4, 75), (oV 2 58 9, 78), (oI2l, 79), (oJadd, 80), (oJs 1, 81), (oInc 4 1, 84), (oGo 60, 87)]),
  (87, [(oInc 3 1, 90), (oGo 46, 93)]),
  (93, [(oI 0, 94), (oIs 3, 95), (oGo 95, 95)]),
  (95, [(oIl 3, 96), (oAl 0, 97), (oGR 9 6, 100), (oGI 1 10, 103), (oCmpGe 143, 106), (oI 3, 107), (oIs 4, 109), (oGo 109, 109)]),
  (109, [(oIl 4, 111), (oI 6, 113), (oCmpGt 137, 116), (oJ 31, 119), (oJl 1, 120), (oJmul, 121), (oAl 0, 122), (oIl 3, 123), (oIl 4, 125), (oV 2 63 9, 128), (oI2l, 129), (oJadd, 130), (oJs 1, 131), (oInc 4 1, 134), (oGo 109, 137)]),
  (137, [(oInc 3 1, 140), (oGo 95, 143)]),
  (143, [(oI 0, 144), (oIs 3, 145), (oGo 145, 145)]),
  (145, [(oIl 3, 146), (oI 6, 148), (oCmpGt 170, 151), (oJ 31, 154), (oJl 1, 155), (oJmul, 156), (oAl 0, 157), (oIl 3, 158), (oV 1 67 9, 161), (oI2l, 162), (oJadd, 163), (oJs 1, 164), (oInc 3 1, 167), (oGo 145, 170)]),
  (170, [(oI 0, 171), (oIs 3, 172), (oGo 172, 172)]),
  (172, [(oIl 3, 173), (oAl 0, 174), (oGR 9 0, 177), (oGI 6 4, 180), (oCmpGe 227, 183), (oI 0, 184), (oIs 4, 186), (oGo 186, 186)]),
  (186, [(oIl 4, 188), (oAl 0, 189), (oGR 9 1, 192), (oGR 3 0, 195), (oIl 3, 196), (oLd, 197), (oCmpGe 221, 200), (oJ 31, 203), (oJl 1, 204), (oJmul, 205), (oAl 0, 206), (oIl 3, 207), (oIl 4, 209), (oV 2 65 9, 212), (oI2l, 213), (oJadd, 214), (oJs 1, 215), (oInc 4 1, 218), (oGo 186, 221)]),
  (221, [(oInc 3 1, 224), (oGo 172, 227)]),
  (227, [(oJl 1, 228), (oRJ, 229)])]
def B_X9_within : List (Nat × zB) := [(0, [(oIl 0, 1), (oIl 1, 2), (oCmpLt 14, 5), (oIl 0, 6), (oIl 2, 7), (oCmpGt 14, 10), (oI 1, 11), (oGo 15, 14)]),
  (14, [(oI 0, 15), (oGo 15, 15)]),
  (15, [(oRZ, 16)])]
def B_X9_isSheet : List (Nat × zB) := [(0, [(oIl 0, 1), (oI 0, 2), (oI 3, 3), (oS 3 88, 6), (oRZ, 7)])]
def B_X9_isForm : List (Nat × zB) := [(0, [(oIl 0, 1), (oI 0, 2), (oI 2, 3), (oS 3 88, 6), (oRZ, 7)])]
def B_X9_foresee : List (Nat × zB) := [(0, [(oAl 0, 1), (oGR 9 4, 4), (oAl 0, 5), (oGR 9 3, 8), (oIl 2, 9), (oAl 0, 10), (oGR 9 0, 13), (oGR 6 1, 16), (oIl 1, 17), (oLd, 18), (oIl 3, 19), (oV 4 50 8, 22), (oAl 0, 23), (oGR 9 5, 26), (oAl 0, 27), (oGR 9 1, 30), (oIl 1, 31), (oAl 0, 32), (oGR 9 4, 35), (oGI 8 5, 38), (oAl 0, 39), (oGR 9 3, 42), (oI 4, 43), (oLd, 44), (oV 4 26 4, 47), (oAl 0, 48), (oGR 9 4, 51), (oAl 0, 52), (oGR 9 5, 55), (oGI 4 1, 58), (oV 1 51 8, 61), (oRV, 62)])]
def B_X9_paysMore : List (Nat × zB) := [(0, [(oIl 0, 1), (oIfGt 6, 4), (oI 0, 5), (oRZ, 6)]),
  (6, [(oIl 3, 7), (oI (-1), 8), (oCmpNe 13, 11), (oI 1, 12), (oRZ, 13)]),
  (13, [(oIl 0, 14), (oI2l, 15), (oIl 3, 16), (oI2l, 17), (oJmul, 18), (oJs 4, 20), (oIl 2, 21), (oI2l, 22), (oIl 1, 23), (oI2l, 24), (oJmul, 25), (oJs 6, 27), (oJl 4, 29), (oJl 6, 31), (oJcmp, 32), (oIfGt 48, 35), (oJl 4, 37), (oJl 6, 39), (oJcmp, 40), (oIfNe 52, 43), (oIl 1, 44), (oIl 3, 45), (oCmpGe 52, 48), (oGo 48, 48)]),
  (48, [(oI 1, 49), (oGo 53, 52)]),
  (52, [(oI 0, 53), (oGo 53, 53)]),
  (53, [(oRZ, 54)])]
def B_X10_init : List (Nat × zB) := [(0, [(oAl 0, 1), (oObj, 4), (oAl 0, 5), (oI 6, 7), (oNewA 0, 9), (oPR 10 0, 12), (oAl 0, 13), (oI 8, 15), (oNewA 0, 17), (oPR 10 2, 20), (oAl 0, 21), (oI 8, 23), (oNewA 0, 25), (oPR 10 3, 28), (oAl 0, 29), (oI 8, 31), (oNewA 0, 33), (oPR 10 4, 36), (oAl 0, 37), (oI 8, 39), (oNewA 0, 41), (oPR 10 5, 44), (oAl 0, 45), (oI 12, 47), (oNewA 0, 49), (oPR 10 7, 52), (oAl 0, 53), (oI 12, 55), (oNewA 0, 57), (oPR 10 8, 60), (oAl 0, 61), (oI 12, 63), (oNewA 0, 65), (oPR 10 9, 68), (oAl 0, 69), (oI 12, 71), (oNewA 0, 73), (oPR 10 10, 76), (oAl 0, 77), (oI 12, 79), (oNewA 0, 81), (oPR 10 11, 84), (oAl 0, 85), (oI 200, 88), (oNewA 0, 90), (oPR 10 14, 93), (oAl 0, 94), (oI 200, 97), (oNewA 0, 99), (oPR 10 15, 102), (oAl 0, 103), (oI 200, 106), (oNewA 0, 108), (oPR 10 16, 111), (oAl 0, 112), (oI 200, 115), (oNewA 0, 117), (oPR 10 17, 120), (oAl 0, 121), (oI 200, 124), (oNewA 0, 126), (oPR 10 18, 129), (oAl 0, 130), (oI 200, 133), (oNewA 0, 135), (oPR 10 19, 138), (oAl 0, 139), (oI 200, 142), (oNewA 0, 144), (oPR 10 20, 147), (oAl 0, 148), (oI 200, 151), (oNewA 0, 153), (oPR 10 21, 156), (oAl 0, 157), (oI (-1), 158), (oPI 10 22, 161), (oAl 0, 162), (oI (-1), 163), (oPI 10 23, 166), (oAl 0, 167), (oI 7, 169), (oNewA 1, 171), (oPR 10 24, 174), (oAl 0, 175), (oI 8, 177), (oNewA 0, 179), (oPR 10 25, 182), (oAl 0, 183), (oI 24, 185), (oNewA 0, 187), (oPR 10 26, 190), (oAl 0, 191), (oI 24, 193), (oNewA 0, 195), (oPR 10 27, 198), (oAl 0, 199), (oI 3, 200), (oNewA 0, 202), (oPR 10 28, 205), (oAl 0, 206), (oI 6, 208), (oNewA 0, 210), (oPR 10 36, 213), (oAl 0, 214), (oI 7, 216), (oNewA 0, 218), (oPR 10 38, 221), (oAl 0, 222), (oI 7, 224), (oNewA 0, 226), (oPR 10 39, 229), (oAl 0, 230), (oI 7, 232), (oNewA 0, 234), (oPR 10 40, 237), (oAl 0, 238), (oI 2, 239), (oPI 10 41, 242), (oAl 0, 243), (oI 7, 245), (oNewA 0, 247), (oPR 10 42, 250), (oAl 0, 251), (oI 7, 253), (oNewA 0, 255), (oPR 10 43, 258), (oAl 0, 259), (oI 100000, 261), (oPI 10 44, 264), (oAl 0, 265), (oI 200, 268), (oNewA 2, 270), (oPR 10 46, 273), (oAl 0, 274), (oI 4, 275), (oNewA 0, 277), (oPR 10 47, 280), (oAl 0, 281), (oI 4, 282), (oNewA 0, 284), (oPR 10 48, 287), (oAl 0, 288), (oI 800, 291), (oNewA 0, 293), (oPR 10 49, 296), (oAl 0, 297), (oI 200, 300), (oNewA 0, 302), (oPR 10 50, 305), (oAl 0, 306), (oGR 10 0, 309), (oI 0, 310), (oI 20, 312), (oSt, 313), (oAl 0, 314), (oGR 10 0, 317), (oI 1, 318), (oI 500, 321), (oSt, 322), (oAl 0, 323), (oGR 10 0, 326), (oI 2, 327), (oI 300, 330), (oSt, 331), (oAl 0, 332), (oGR 10 0, 335), (oI 3, 336), (oI 400, 339), (oSt, 340), (oAl 0, 341), (oGR 10 0, 344), (oI 4, 345), (oI 5, 346), (oSt, 347), (oAl 0, 348), (oGR 10 0, 351), (oI 5, 352), (oI 5, 353), (oSt, 354), (oI 0, 355), (oIs 1, 356), (oGo 356, 356)]),
  (356, [(oIl 1, 357), (oI 4, 358), (oCmpGe 374, 361), (oAl 0, 362), (oGR 10 47, 365), (oIl 1, 366), (oI (-1), 367), (oSt, 368), (oInc 1 1, 371), (oGo 356, 374)]),
  (374, [(oRV, 375)])]
def B_X10_in : List (Nat × zB) := [(0, [(oJl 0, 1), (oJl 2, 2), (oJcmp, 3), (oIfLt 17, 6), (oJl 0, 7), (oJl 4, 9), (oJcmp, 10), (oIfGt 17, 13), (oI 1, 14), (oGo 18, 17)]),
  (17, [(oI 0, 18), (oGo 18, 18)]),
  (18, [(oRZ, 19)])]
def B_X10_isProfile : List (Nat × zB) := [(0, [(oIl 1, 1), (oI2l, 2), (oJ 0, 3), (oAl 0, 4), (oGI 10 1, 7), (oI 1, 8), (oSub, 9), (oI2l, 10), (oS 3 94, 13), (oRZ, 14)])]
def B_X10_isDie : List (Nat × zB) := [(0, [(oIl 1, 1), (oI2l, 2), (oJ 0, 3), (oAl 0, 4), (oGI 10 6, 7), (oI 1, 8), (oSub, 9), (oI2l, 10), (oS 3 94, 13), (oRZ, 14)])]
def B_X10_profile : List (Nat × zB) := [(0, [(oIl 1, 1), (oI2l, 2), (oJ 0, 3), (oJ 2, 6), (oS 3 94, 9), (oIfEq 53, 12), (oIl 2, 13), (oI2l, 14), (oJ 5, 17), (oJ 80, 20), (oS 3 94, 23), (oIfEq 53, 26), (oIl 3, 27), (oI2l, 28), (oJ 0, 29), (oJ 3, 32), (oS 3 94, 35), (oIfEq 53, 38), (oIl 4, 40), (oI2l, 41), (oJ 100, 44), (oJ 9999, 47), (oS 3 94, 50), (oIfNe 56, 53), (oGo 53, 53)]),
  (53, [(oI (-2), 55), (oRI, 56)]),
  (56, [(oAl 0, 57), (oGI 10 1, 60), (oI 8, 62), (oCmpNe 68, 65), (oI (-4), 67), (oRI, 68)]),
  (68, [(oAl 0, 69), (oGR 10 2, 72), (oAl 0, 73), (oGI 10 1, 76), (oIl 1, 77), (oSt, 78), (oAl 0, 79), (oGR 10 3, 82), (oAl 0, 83), (oGI 10 1, 86), (oIl 2, 87), (oSt, 88), (oAl 0, 89), (oGR 10 4, 92), (oAl 0, 93), (oGI 10 1, 96), (oIl 3, 97), (oSt, 98), (oAl 0, 99), (oGR 10 5, 102), (oAl 0, 103), (oGI 10 1, 106), (oIl 4, 108), (oSt, 109), (oAl 0, 110), (oGR 10 25, 113), (oAl 0, 114), (oGI 10 1, 117), (oI 0, 118), (oSt, 119), (oAl 0, 120), (oDup, 121), (oGI 10 1, 124), (oI 1, 125), (oAdd, 126), (oPI 10 1, 129), (oAl 0, 130), (oGI 10 1, 133), (oI 1, 134), (oSub, 135), (oRI, 136)])]
def B_X10_die : List (Nat × zB) := [(0, [(oAl 0, 1), (oIl 1, 2), (oV 1 95 10, 5), (oIfEq 20, 8), (oIl 2, 9), (oI2l, 10), (oJ 1, 11), (oJ 50, 14), (oS 3 94, 17), (oIfNe 23, 20), (oGo 20, 20)]),
  (20, [(oI (-2), 22), (oRI, 23)]),
  (23, [(oAl 0, 24), (oGI 10 6, 27), (oI 12, 29), (oCmpNe 35, 32), (oI (-4), 34), (oRI, 35)]),
  (35, [(oAl 0, 36), (oGR 10 7, 39), (oAl 0, 40), (oGI 10 6, 43), (oIl 1, 44), (oSt, 45), (oAl 0, 46), (oGR 10 8, 49), (oAl 0, 50), (oGI 10 6, 53), (oIl 2, 54), (oSt, 55), (oAl 0, 56), (oGR 10 9, 59), (oAl 0, 60), (oGI 10 6, 63), (oI 0, 64), (oSt, 65), (oAl 0, 66), (oGR 10 10, 69), (oAl 0, 70), (oGI 10 6, 73), (oI 0, 74), (oSt, 75), (oAl 0, 76), (oGR 10 11, 79), (oAl 0, 80), (oGI 10 6, 83), (oI (-1), 84), (oSt, 85), (oAl 0, 86), (oDup, 87), (oGI 10 6, 90), (oI 1, 91), (oAdd, 92), (oPI 10 6, 95), (oAl 0, 96), (oGI 10 6, 99), (oI 1, 100), (oSub, 101), (oRI, 102)])]
def B_X10_warm : List (Nat × zB) := [(0, [(oAl 0, 1), (oIl 1, 2), (oV 1 96 10, 5), (oIfNe 11, 8), (oI (-2), 10), (oRI, 11)]),
  (11, [(oAl 0, 12), (oGR 10 11, 15), (oIl 1, 16), (oLd, 17), (oI (-1), 18), (oCmpEq 24, 21), (oI (-3), 23), (oRI, 24)]),
  (24, [(oAl 0, 25), (oGR 10 11, 28), (oIl 1, 29), (oAl 0, 30), (oGI 10 12, 33), (oSt, 34), (oI 1, 35), (oRI, 36)])]
def B_X10_cool : List (Nat × zB) := [(0, [(oAl 0, 1), (oIl 1, 2), (oV 1 96 10, 5), (oIfNe 11, 8), (oI (-2), 10), (oRI, 11)]),
  (11, [(oAl 0, 12), (oGR 10 11, 15), (oIl 1, 16), (oLd, 17), (oI (-1), 18), (oCmpNe 24, 21), (oI (-3), 23), (oRI, 24)]),
  (24, [(oAl 0, 25), (oGI 10 12, 28), (oAl 0, 29), (oGR 10 11, 32), (oIl 1, 33), (oLd, 34), (oSub, 35), (oIs 2, 36), (oAl 0, 37), (oGR 10 11, 40), (oIl 1, 41), (oI (-1), 42), (oSt, 43), (oIl 2, 44), (oRI, 45)])]
def B_X10_nitride : List (Nat × zB) := [(0, [(oAl 0, 1), (oIl 1, 2), (oV 1 96 10, 5), (oIfNe 11, 8), (oI (-2), 10), (oRI, 11)]),
  (11, [(oAl 0, 12), (oGR 10 11, 15), (oIl 1, 16), (oLd, 17), (oI (-1), 18), (oCmpEq 24, 21), (oI (-3), 23), (oRI, 24)]),
  (24, [(oAl 0, 25), (oGR 10 9, 28), (oIl 1, 29), (oLd, 30), (oIs 2, 31), (oAl 0, 32), (oGR 10 9, 35), (oIl 1, 36), (oI 0, 37), (oSt, 38), (oIl 2, 39), (oRI, 40)])]
def B_X10_mayPress : List (Nat × zB) := [(0, [(oAl 0, 1), (oGR 10 11, 4), (oIl 1, 5), (oLd, 6), (oI (-1), 7), (oCmpEq 53, 10), (oAl 0, 11), (oGI 10 12, 14), (oAl 0, 15), (oGR 10 11, 18), (oIl 1, 19), (oLd, 20), (oSub, 21), (oI2l, 22), (oJ 3, 25), (oJ 12, 28), (oS 3 94, 31), (oIfEq 53, 34), (oAl 0, 35), (oGR 10 9, 38), (oIl 1, 39), (oLd, 40), (oAl 0, 41), (oGR 10 8, 44), (oIl 1, 45), (oLd, 46), (oCmpGe 53, 49), (oI 1, 50), (oGo 54, 53)]),
  (53, [(oI 0, 54), (oGo 54, 54)]),
  (54, [(oRZ, 55)])]
def B_X10_about : List (Nat × zB) := [(0, [(oAl 0, 1), (oIl 1, 2), (oV 1 96 10, 5), (oIfNe 11, 8), (oI (-2), 10), (oRI, 11)]),
  (11, [(oIl 2, 12), (oSw 120 [52, 59, 66, 73, 99, 113], 52)]),
  (52, [(oAl 0, 53), (oGR 10 7, 56), (oIl 1, 57), (oLd, 58), (oRI, 59)]),
  (59, [(oAl 0, 60), (oGR 10 8, 63), (oIl 1, 64), (oLd, 65), (oRI, 66)]),
  (66, [(oAl 0, 67), (oGR 10 9, 70), (oIl 1, 71), (oLd, 72), (oRI, 73)]),
  (73, [(oAl 0, 74), (oGR 10 11, 77), (oIl 1, 78), (oLd, 79), (oI (-1), 80), (oCmpNe 87, 83), (oI (-1), 84), (oGo 98, 87)]),
  (87, [(oAl 0, 88), (oGI 10 12, 91), (oAl 0, 92), (oGR 10 11, 95), (oIl 1, 96), (oLd, 97), (oSub, 98), (oGo 98, 98)]),
  (98, [(oRI, 99)]),
  (99, [(oAl 0, 100), (oIl 1, 101), (oV 1 102 10, 104), (oIfEq 111, 107), (oI 1, 108), (oGo 112, 111)]),
  (111, [(oI 0, 112), (oGo 112, 112)]),
  (112, [(oRI, 113)]),
  (113, [(oAl 0, 114), (oGR 10 10, 117), (oIl 1, 118), (oLd, 119), (oRI, 120)]),
  (120, [(oI (-2), 122), (oRI, 123)])]
def B_X10_ready : List (Nat × zB) := [(0, [(oAl 0, 1), (oIl 1, 2), (oV 1 95 10, 5), (oIfNe 11, 8), (oI (-2), 10), (oRI, 11)]),
  (11, [(oI (-1), 12), (oIs 2, 13), (oI 0, 14), (oIs 3, 15), (oGo 15, 15)]),
  (15, [(oIl 3, 16), (oAl 0, 17), (oGI 10 6, 20), (oCmpGe 69, 23), (oAl 0, 24), (oGR 10 7, 27), (oIl 3, 28), (oLd, 29), (oIl 1, 30), (oCmpNe 63, 33), (oAl 0, 34), (oIl 3, 35), (oV 1 102 10, 38), (oIfEq 63, 41), (oIl 2, 42), (oI (-1), 43), (oCmpEq 61, 46), (oAl 0, 47), (oGR 10 9, 50), (oIl 3, 51), (oLd, 52), (oAl 0, 53), (oGR 10 9, 56), (oIl 2, 57), (oLd, 58), (oCmpGe 63, 61), (oGo 61, 61)]),
  (61, [(oIl 3, 62), (oIs 2, 63), (oGo 63, 63)]),
  (63, [(oInc 3 1, 66), (oGo 15, 69)]),
  (69, [(oIl 2, 70), (oRI, 71)])]
def B_X10_pass : List (Nat × zB) := [(0, [(oIl 1, 1), (oI2l, 2), (oJ 1, 3), (oJ 100, 6), (oS 3 94, 9), (oIfNe 15, 12), (oI (-2), 14), (oRI, 15)]),
  (15, [(oAl 0, 16), (oDup, 17), (oGI 10 12, 20), (oIl 1, 21), (oAdd, 22), (oPI 10 12, 25), (oAl 0, 26), (oGI 10 12, 29), (oRI, 30)])]
def B_X10_law : List (Nat × zB) := [(0, [(oIl 1, 1), (oI2l, 2), (oJ 0, 3), (oJ 5, 6), (oS 3 94, 9), (oIfEq 45, 12), (oIl 2, 13), (oI2l, 14), (oJ 0, 15), (oIl 1, 16), (oIfNe 25, 19), (oJ 100, 22), (oGo 39, 25)]),
  (25, [(oIl 1, 26), (oI 4, 27), (oCmpGe 36, 30), (oJ 5000, 33), (oGo 39, 36)]),
  (36, [(oJ 20, 39), (oGo 39, 39)]),
  (39, [(oS 3 94, 42), (oIfNe 48, 45), (oGo 45, 45)]),
  (45, [(oI (-2), 47), (oRI, 48)]),
  (48, [(oAl 0, 49), (oGR 10 0, 52), (oIl 1, 53), (oLd, 54), (oIs 3, 55), (oAl 0, 56), (oGR 10 0, 59), (oIl 1, 60), (oIl 2, 61), (oSt, 62), (oIl 3, 63), (oRI, 64)])]
def B_X10_most : List (Nat × zB) := [(0, [(oIl 2, 1), (oAl 0, 2), (oGR 10 25, 5), (oIl 1, 6), (oLd, 7), (oCmpLt 12, 10), (oI 0, 11), (oRI, 12)]),
  (12, [(oAl 0, 13), (oGR 10 27, 16), (oI 3, 17), (oIl 1, 18), (oMul, 19), (oIl 2, 20), (oAdd, 21), (oLd, 22), (oI 60, 24), (oCmpLe 32, 27), (oI 60, 29), (oGo 42, 32)]),
  (32, [(oAl 0, 33), (oGR 10 27, 36), (oI 3, 37), (oIl 1, 38), (oMul, 39), (oIl 2, 40), (oAdd, 41), (oLd, 42), (oGo 42, 42)]),
  (42, [(oRI, 43)])]
def B_X10_findPattern : List (Nat × zB) := [(0, [(oIl 2, 1), (oAl 0, 2), (oGR 10 0, 5), (oI 4, 6), (oLd, 7), (oAdd, 8), (oIs 3, 9), (oAl 0, 10), (oI (-1), 11), (oPI 10 29, 14), (oI 0, 15), (oIs 4, 17), (oAl 0, 18), (oIl 1, 19), (oI 0, 20), (oV 2 107 10, 23), (oIs 5, 25), (oGo 25, 25)]),
  (25, [(oIl 5, 27), (oIfLt 255, 30), (oAl 0, 31), (oIl 1, 32), (oI 1, 33), (oV 2 107 10, 36), (oIs 6, 38), (oGo 38, 38)]),
  (38, [(oIl 6, 40), (oIfLt 249, 43), (oIl 3, 44), (oIl 5, 46), (oAl 0, 47), (oIl 1, 48), (oI 0, 49), (oV 2 109 10, 52), (oAl 0, 53), (oGR 10 0, 56), (oI 4, 57), (oLd, 58), (oAdd, 59), (oMul, 60), (oSub, 61), (oIl 6, 63), (oAl 0, 64), (oIl 1, 65), (oI 1, 66), (oV 2 109 10, 69), (oAl 0, 70), (oGR 10 0, 73), (oI 4, 74), (oLd, 75), (oAdd, 76), (oMul, 77), (oSub, 78), (oIs 7, 80), (oIl 7, 82), (oIfLt 243, 85), (oAl 0, 86), (oGR 10 25, 89), (oIl 1, 90), (oLd, 91), (oI 3, 92), (oCmpGe 99, 95), (oI 0, 96), (oGo 115, 99)]),
  (99, [(oIl 7, 101), (oAl 0, 102), (oIl 1, 103), (oI 2, 104), (oV 2 109 10, 107), (oAl 0, 108), (oGR 10 0, 111), (oI 4, 112), (oLd, 113), (oAdd, 114), (oDiv, 115), (oGo 115, 115)]),
  (115, [(oIs 8, 117), (oIl 8, 119), (oAl 0, 120), (oIl 1, 121), (oI 2, 122), (oV 2 107 10, 125), (oCmpLe 137, 128), (oAl 0, 129), (oIl 1, 130), (oI 2, 131), (oV 2 107 10, 134), (oGo 139, 137)]),
  (137, [(oIl 8, 139), (oGo 139, 139)]),
  (139, [(oIs 8, 141), (oIl 5, 143), (oAl 0, 144), (oIl 1, 145), (oI 0, 146), (oV 2 109 10, 149), (oMul, 150), (oIl 6, 152), (oAl 0, 153), (oIl 1, 154), (oI 1, 155), (oV 2 109 10, 158), (oMul, 159), (oAdd, 160), (oIl 8, 162), (oAl 0, 163), (oIl 1, 164), (oI 2, 165), (oV 2 109 10, 168), (oMul, 169), (oAdd, 170), (oIs 9, 172), (oIl 9, 174), (oAl 0, 175), (oGI 10 29, 178), (oCmpGt 203, 181), (oIl 9, 183), (oAl 0, 184), (oGI 10 29, 187), (oCmpNe 243, 190), (oIl 5, 192), (oIl 6, 194), (oAdd, 195), (oIl 8, 197), (oAdd, 198), (oIl 4, 200), (oCmpGe 243, 203), (oGo 203, 203)]),
  (203, [(oAl 0, 204), (oIl 9, 206), (oPI 10 29, 209), (oIl 5, 211), (oIl 6, 213), (oAdd, 214), (oIl 8, 216), (oAdd, 217), (oIs 4, 219), (oAl 0, 220), (oGR 10 28, 223), (oI 0, 224), (oIl 5, 226), (oSt, 227), (oAl 0, 228), (oGR 10 28, 231), (oI 1, 232), (oIl 6, 234), (oSt, 235), (oAl 0, 236), (oGR 10 28, 239), (oI 2, 240), (oIl 8, 242), (oSt, 243), (oGo 243, 243)]),
  (243, [(oInc 6 (-1), 246), (oGo 38, 249)]),
  (249, [(oInc 5 (-1), 252), (oGo 25, 255)]),
  (255, [(oRV, 256)])]
def B_X10_lengthOf : List (Nat × zB) := [(0, [(oIl 2, 1), (oAl 0, 2), (oGR 10 25, 5), (oIl 1, 6), (oLd, 7), (oCmpGe 23, 10), (oAl 0, 11), (oGR 10 26, 14), (oI 3, 15), (oIl 1, 16), (oMul, 17), (oIl 2, 18), (oAdd, 19), (oLd, 20), (oGo 24, 23)]),
  (23, [(oI 0, 24), (oGo 24, 24)]),
  (24, [(oRI, 25)])]
def B_X10_findBar : List (Nat × zB) := [(0, [(oIl 2, 1), (oAl 0, 2), (oGR 10 0, 5), (oI 0, 6), (oLd, 7), (oCmpLe 21, 10), (oIl 2, 11), (oAl 0, 12), (oGR 10 0, 15), (oI 0, 16), (oLd, 17), (oSub, 18), (oGo 22, 21)]),
  (21, [(oI 0, 22), (oGo 22, 22)]),
  (22, [(oIs 4, 24), (oAl 0, 25), (oIl 4, 27), (oI2l, 28), (oAl 0, 29), (oGR 10 3, 32), (oIl 1, 33), (oLd, 34), (oI2l, 35), (oJmul, 36), (oI 1000, 39), (oAl 0, 40), (oGR 10 0, 43), (oI 5, 44), (oLd, 45), (oAdd, 46), (oI2l, 47), (oJmul, 48), (oJ 1000, 51), (oJdiv, 52), (oL2i, 53), (oPI 10 30, 56), (oAl 0, 57), (oAl 0, 58), (oGR 10 0, 61), (oI 1, 62), (oLd, 63), (oAl 0, 64), (oGI 10 30, 67), (oCmpGe 79, 70), (oAl 0, 71), (oGR 10 0, 74), (oI 1, 75), (oLd, 76), (oGo 83, 79)]),
  (79, [(oAl 0, 80), (oGI 10 30, 83), (oGo 83, 83)]),
  (83, [(oPI 10 31, 86), (oAl 0, 87), (oAl 0, 88), (oGR 10 0, 91), (oI 2, 92), (oLd, 93), (oAl 0, 94), (oGI 10 30, 97), (oAl 0, 98), (oGI 10 31, 101), (oSub, 102), (oCmpGe 114, 105), (oAl 0, 106), (oGR 10 0, 109), (oI 2, 110), (oLd, 111), (oGo 123, 114)]),
  (114, [(oAl 0, 115), (oGI 10 30, 118), (oAl 0, 119), (oGI 10 31, 122), (oSub, 123), (oGo 123, 123)]),
  (123, [(oPI 10 32, 126), (oAl 0, 127), (oGI 10 30, 130), (oAl 0, 131), (oGI 10 31, 134), (oSub, 135), (oAl 0, 136), (oGI 10 32, 139), (oSub, 140), (oIs 5, 142), (oAl 0, 143), (oIl 3, 144), (oIfNe 151, 147), (oI 0, 148), (oGo 173, 151)]),
  (151, [(oAl 0, 152), (oGR 10 0, 155), (oI 3, 156), (oLd, 157), (oIl 5, 159), (oCmpGe 171, 162), (oAl 0, 163), (oGR 10 0, 166), (oI 3, 167), (oLd, 168), (oGo 173, 171)]),
  (171, [(oIl 5, 173), (oGo 173, 173)]),
  (173, [(oPI 10 33, 176), (oAl 0, 177), (oIl 5, 179), (oAl 0, 180), (oGI 10 33, 183), (oSub, 184), (oPI 10 34, 187), (oAl 0, 188), (oIl 1, 189), (oAl 0, 190), (oGI 10 34, 193), (oV 2 108 10, 196), (oRV, 197)])]
def B_X10_press : List (Nat × zB) := [(0, [(oAl 0, 1), (oIl 1, 2), (oV 1 96 10, 5), (oIfEq 22, 8), (oIl 2, 9), (oI2l, 10), (oJ 200, 13), (oJ 1200, 16), (oS 3 94, 19), (oIfNe 25, 22), (oGo 22, 22)]),
  (22, [(oI (-2), 24), (oRI, 25)]),
  (25, [(oAl 0, 26), (oIl 1, 27), (oV 1 102 10, 30), (oIfNe 36, 33), (oI (-3), 35), (oRI, 36)]),
  (36, [(oAl 0, 37), (oGI 10 13, 40), (oI 200, 43), (oCmpNe 49, 46), (oI (-4), 48), (oRI, 49)]),
  (49, [(oAl 0, 50), (oGR 10 7, 53), (oIl 1, 54), (oLd, 55), (oIs 3, 56), (oAl 0, 57), (oIl 3, 58), (oIl 2, 59), (oAl 0, 60), (oGI 10 22, 63), (oIl 1, 64), (oCmpNe 84, 67), (oAl 0, 68), (oGI 10 23, 71), (oAl 0, 72), (oGI 10 12, 75), (oI 1, 76), (oSub, 77), (oCmpNe 84, 80), (oI 1, 81), (oGo 85, 84)]),
  (84, [(oI 0, 85), (oGo 85, 85)]),
  (85, [(oV 3 110 10, 88), (oI 0, 89), (oIs 4, 91), (oGo 91, 91)]),
  (91, [(oIl 4, 93), (oAl 0, 94), (oGR 10 25, 97), (oIl 3, 98), (oLd, 99), (oCmpGe 129, 102), (oAl 0, 103), (oGR 10 27, 106), (oI 3, 107), (oIl 3, 108), (oMul, 109), (oIl 4, 111), (oAdd, 112), (oDup2, 113), (oLd, 114), (oAl 0, 115), (oGR 10 28, 118), (oIl 4, 120), (oLd, 121), (oSub, 122), (oSt, 123), (oInc 4 1, 126), (oGo 91, 129)]),
  (129, [(oAl 0, 130), (oGR 10 14, 133), (oAl 0, 134), (oGI 10 13, 137), (oIl 1, 138), (oSt, 139), (oAl 0, 140), (oGR 10 15, 143), (oAl 0, 144), (oGI 10 13, 147), (oIl 2, 148), (oSt, 149), (oAl 0, 150), (oGR 10 16, 153), (oAl 0, 154), (oGI 10 13, 157), (oAl 0, 158), (oGI 10 30, 161), (oSt, 162), (oAl 0, 163), (oGR 10 17, 166), (oAl 0, 167), (oGI 10 13, 170), (oAl 0, 171), (oGI 10 29, 174), (oSt, 175), (oAl 0, 176), (oGR 10 18, 179), (oAl 0, 180), (oGI 10 13, 183), (oAl 0, 184), (oGI 10 34, 187), (oAl 0, 188), (oGI 10 29, 191), (oSub, 192), (oSt, 193), (oAl 0, 194), (oGR 10 19, 197), (oAl 0, 198), (oGI 10 13, 201), (oAl 0, 202), (oGI 10 33, 205), (oSt, 206), (oAl 0, 207), (oGR 10 20, 210), (oAl 0, 211), (oGI 10 13, 214), (oI (-1), 215), (oSt, 216), (oAl 0, 217), (oGR 10 21, 220), (oAl 0, 221), (oGI 10 13, 224), (oI (-1), 225), (oSt, 226), (oAl 0, 227), (oDup, 228), (oGI 10 13, 231), (oI 1, 232), (oAdd, 233), (oPI 10 13, 236), (oAl 0, 237), (oGR 10 24, 240), (oI 0, 241), (oDup2, 242), (oLdJ, 243), (oAl 0, 244), (oGI 10 31, 247), (oI2l, 248), (oJadd, 249), (oStJ, 250), (oAl 0, 251), (oGR 10 24, 254), (oI 1, 255), (oDup2, 256), (oLdJ, 257), (oAl 0, 258), (oGI 10 32, 261), (oI2l, 262), (oJadd, 263), (oStJ, 264), (oAl 0, 265), (oGR 10 24, 268), (oI 2, 269), (oDup2, 270), (oLdJ, 271), (oAl 0, 272), (oGI 10 33, 275), (oI2l, 276), (oJadd, 277), (oStJ, 278), (oAl 0, 279), (oGR 10 24, 282), (oI 3, 283), (oDup2, 284), (oLdJ, 285), (oAl 0, 286), (oGI 10 29, 289), (oI2l, 290), (oJadd, 291), (oStJ, 292), (oAl 0, 293), (oGR 10 24, 296), (oI 4, 297), (oDup2, 298), (oLdJ, 299), (oAl 0, 300), (oGI 10 34, 303), (oAl 0, 304), (oGI 10 29, 307), (oSub, 308), (oI2l, 309), (oJadd, 310), (oStJ, 311), (oAl 0, 312), (oGR 10 24, 315), (oI 5, 316), (oDup2, 317), (oLdJ, 318), (oAl 0, 319), (oGI 10 30, 322), (oI2l, 323), (oJadd, 324), (oStJ, 325), (oAl 0, 326), (oGR 10 24, 329), (oI 6, 331), (oDup2, 332), (oLdJ, 333), (oIl 2, 334), (oI2l, 335), (oJadd, 336), (oStJ, 337), (oAl 0, 338), (oGR 10 9, 341), (oIl 1, 342), (oDup2, 343), (oLd, 344), (oI 1, 345), (oAdd, 346), (oSt, 347), (oAl 0, 348), (oGR 10 10, 351), (oIl 1, 352), (oDup2, 353), (oLd, 354), (oI 1, 355), (oAdd, 356), (oSt, 357), (oAl 0, 358), (oIl 1, 359), (oPI 10 22, 362), (oAl 0, 363), (oAl 0, 364), (oGI 10 12, 367), (oPI 10 23, 370), (oAl 0, 371), (oDup, 372), (oGI 10 12, 375), (oI 1, 376), (oAdd, 377), (oPI 10 12, 380), (oAl 0, 381), (oGI 10 29, 384), (oRI, 385)])]
def B_X10_isBar : List (Nat × zB) := [(0, [(oIl 1, 1), (oI2l, 2), (oJ 0, 3), (oAl 0, 4), (oGI 10 13, 7), (oI 1, 8), (oSub, 9), (oI2l, 10), (oS 3 94, 13), (oRZ, 14)])]
def B_X10_bar : List (Nat × zB) := [(0, [(oAl 0, 1), (oIl 1, 2), (oV 1 112 10, 5), (oIfNe 11, 8), (oI (-2), 10), (oRI, 11)]),
  (11, [(oIl 2, 12), (oSw 105 [56, 63, 70, 77, 84, 91, 98], 56)]),
  (56, [(oAl 0, 57), (oGR 10 14, 60), (oIl 1, 61), (oLd, 62), (oRI, 63)]),
  (63, [(oAl 0, 64), (oGR 10 15, 67), (oIl 1, 68), (oLd, 69), (oRI, 70)]),
  (70, [(oAl 0, 71), (oGR 10 16, 74), (oIl 1, 75), (oLd, 76), (oRI, 77)]),
  (77, [(oAl 0, 78), (oGR 10 17, 81), (oIl 1, 82), (oLd, 83), (oRI, 84)]),
  (84, [(oAl 0, 85), (oGR 10 18, 88), (oIl 1, 89), (oLd, 90), (oRI, 91)]),
  (91, [(oAl 0, 92), (oGR 10 19, 95), (oIl 1, 96), (oLd, 97), (oRI, 98)]),
  (98, [(oAl 0, 99), (oGR 10 20, 102), (oIl 1, 103), (oLd, 104), (oRI, 105)]),
  (105, [(oI (-2), 107), (oRI, 108)])]
def B_X10_order : List (Nat × zB) := [(0, [(oAl 0, 1), (oIl 1, 2), (oV 1 95 10, 5), (oIfEq 34, 8), (oIl 2, 9), (oI2l, 10), (oJ 100, 13), (oJ 9000, 16), (oS 3 94, 19), (oIfEq 34, 22), (oIl 3, 23), (oI2l, 24), (oJ 0, 25), (oJ 500, 28), (oS 3 94, 31), (oIfNe 37, 34), (oGo 34, 34)]),
  (34, [(oI (-2), 36), (oRI, 37)]),
  (37, [(oAl 0, 38), (oGR 10 25, 41), (oIl 1, 42), (oLd, 43), (oI 3, 44), (oCmpNe 50, 47), (oI (-4), 49), (oRI, 50)]),
  (50, [(oAl 0, 51), (oGR 10 26, 54), (oI 3, 55), (oIl 1, 56), (oMul, 57), (oAl 0, 58), (oGR 10 25, 61), (oIl 1, 62), (oLd, 63), (oAdd, 64), (oIl 2, 65), (oSt, 66), (oAl 0, 67), (oGR 10 27, 70), (oI 3, 71), (oIl 1, 72), (oMul, 73), (oAl 0, 74), (oGR 10 25, 77), (oIl 1, 78), (oLd, 79), (oAdd, 80), (oIl 3, 81), (oSt, 82), (oAl 0, 83), (oGR 10 25, 86), (oIl 1, 87), (oDup2, 88), (oLd, 89), (oI 1, 90), (oAdd, 91), (oSt, 92), (oAl 0, 93), (oGR 10 25, 96), (oIl 1, 97), (oLd, 98), (oI 1, 99), (oSub, 100), (oRI, 101)])]
def B_X10_wanted : List (Nat × zB) := [(0, [(oAl 0, 1), (oIl 1, 2), (oV 1 95 10, 5), (oIfEq 39, 8), (oIl 2, 9), (oI2l, 10), (oJ 0, 11), (oAl 0, 12), (oGR 10 25, 15), (oIl 1, 16), (oLd, 17), (oI 1, 18), (oSub, 19), (oI2l, 20), (oS 3 94, 23), (oIfEq 39, 26), (oAl 0, 27), (oGR 10 27, 30), (oI 3, 31), (oIl 1, 32), (oMul, 33), (oIl 2, 34), (oAdd, 35), (oLd, 36), (oGo 41, 39)]),
  (39, [(oI (-2), 41), (oGo 41, 41)]),
  (41, [(oRI, 42)])]
def B_X10_pattern : List (Nat × zB) := [(0, [(oAl 0, 1), (oIl 1, 2), (oV 1 95 10, 5), (oIfEq 32, 8), (oIl 2, 9), (oI2l, 10), (oJ 0, 11), (oJ 200000, 14), (oS 3 94, 17), (oIfEq 32, 20), (oIl 3, 21), (oI2l, 22), (oJ 0, 23), (oJ 3, 26), (oS 3 94, 29), (oIfNe 35, 32), (oGo 32, 32)]),
  (32, [(oI (-2), 34), (oRI, 35)]),
  (35, [(oAl 0, 36), (oIl 1, 37), (oIl 2, 38), (oV 2 108 10, 41), (oIl 3, 42), (oI 3, 43), (oCmpNe 53, 46), (oAl 0, 47), (oGI 10 29, 50), (oGo 59, 53)]),
  (53, [(oAl 0, 54), (oGR 10 28, 57), (oIl 3, 58), (oLd, 59), (oGo 59, 59)]),
  (59, [(oRI, 60)])]
def B_X10_account : List (Nat × zB) := [(0, [(oIl 1, 1), (oI2l, 2), (oJ 0, 3), (oJ 6, 6), (oS 3 94, 9), (oIfEq 22, 12), (oAl 0, 13), (oGR 10 24, 16), (oIl 1, 17), (oLdJ, 18), (oL2i, 19), (oGo 24, 22)]),
  (22, [(oI (-2), 24), (oGo 24, 24)]),
  (24, [(oRI, 25)])]
def B_X10_stock : List (Nat × zB) := [(0, [(oIl 1, 1), (oI2l, 2), (oJ 200, 5), (oJ 1200, 8), (oS 3 94, 11), (oIfNe 17, 14), (oI (-2), 16), (oRI, 17)]),
  (17, [(oAl 0, 18), (oGI 10 35, 21), (oI 6, 23), (oCmpNe 29, 26), (oI (-4), 28), (oRI, 29)]),
  (29, [(oAl 0, 30), (oGR 10 36, 33), (oAl 0, 34), (oGI 10 35, 37), (oIl 1, 38), (oSt, 39), (oAl 0, 40), (oDup, 41), (oGI 10 35, 44), (oI 1, 45), (oAdd, 46), (oPI 10 35, 49), (oAl 0, 50), (oGI 10 35, 53), (oRI, 54)])]
def B_X10_best : List (Nat × zB) := [(0, [(oAl 0, 1), (oIl 1, 2), (oV 1 96 10, 5), (oIfNe 11, 8), (oI (-2), 10), (oRI, 11)]),
  (11, [(oI (-1), 12), (oIs 3, 13), (oI 0, 14), (oIs 4, 16), (oI 0, 17), (oIs 5, 19), (oGo 19, 19)]),
  (19, [(oIl 5, 21), (oAl 0, 22), (oGI 10 35, 25), (oCmpGe 142, 28), (oAl 0, 29), (oAl 0, 30), (oGR 10 7, 33), (oIl 1, 34), (oLd, 35), (oAl 0, 36), (oGR 10 36, 39), (oIl 5, 41), (oLd, 42), (oIl 2, 43), (oV 3 110 10, 46), (oAl 0, 47), (oGI 10 29, 50), (oIfLe 136, 53), (oIl 3, 54), (oI (-1), 55), (oCmpNe 62, 58), (oJ 1, 59), (oGo 70, 62)]),
  (62, [(oAl 0, 63), (oGI 10 29, 66), (oI2l, 67), (oIl 3, 68), (oI2l, 69), (oJmul, 70), (oGo 70, 70)]),
  (70, [(oJs 6, 72), (oIl 3, 73), (oI (-1), 74), (oCmpNe 81, 77), (oJ 0, 78), (oGo 93, 81)]),
  (81, [(oIl 4, 83), (oI2l, 84), (oAl 0, 85), (oGR 10 36, 88), (oIl 5, 90), (oLd, 91), (oI2l, 92), (oJmul, 93), (oGo 93, 93)]),
  (93, [(oJs 8, 95), (oJl 6, 97), (oJl 8, 99), (oJcmp, 100), (oIfGt 122, 103), (oJl 6, 105), (oJl 8, 107), (oJcmp, 108), (oIfNe 136, 111), (oAl 0, 112), (oGR 10 36, 115), (oIl 5, 117), (oLd, 118), (oIl 3, 119), (oCmpGe 136, 122), (oGo 122, 122)]),
  (122, [(oAl 0, 123), (oGR 10 36, 126), (oIl 5, 128), (oLd, 129), (oIs 3, 130), (oAl 0, 131), (oGI 10 29, 134), (oIs 4, 136), (oGo 136, 136)]),
  (136, [(oInc 5 1, 139), (oGo 19, 142)]),
  (142, [(oIl 3, 143), (oRI, 144)])]
def B_X10_job : List (Nat × zB) := [(0, [(oAl 0, 1), (oIl 1, 2), (oV 1 95 10, 5), (oIfEq 32, 8), (oIl 2, 9), (oI2l, 10), (oJ 1, 11), (oJ 50, 14), (oS 3 94, 17), (oIfEq 32, 20), (oIl 3, 21), (oI2l, 22), (oJ 0, 23), (oJ 1000, 26), (oS 3 94, 29), (oIfNe 35, 32), (oGo 32, 32)]),
  (32, [(oI (-2), 34), (oRI, 35)]),
  (35, [(oAl 0, 36), (oGI 10 37, 39), (oI 7, 41), (oCmpNe 47, 44), (oI (-4), 46), (oRI, 47)]),
  (47, [(oAl 0, 48), (oGR 10 38, 51), (oAl 0, 52), (oGI 10 37, 55), (oIl 1, 56), (oSt, 57), (oAl 0, 58), (oGR 10 39, 61), (oAl 0, 62), (oGI 10 37, 65), (oIl 2, 66), (oSt, 67), (oAl 0, 68), (oGR 10 40, 71), (oAl 0, 72), (oGI 10 37, 75), (oIl 3, 76), (oSt, 77), (oAl 0, 78), (oDup, 79), (oGI 10 37, 82), (oI 1, 83), (oAdd, 84), (oPI 10 37, 87), (oAl 0, 88), (oGI 10 37, 91), (oI 1, 92), (oSub, 93), (oRI, 94)])]
def B_X10_change : List (Nat × zB) := [(0, [(oIl 1, 1), (oI2l, 2), (oJ 0, 3), (oJ 20, 6), (oS 3 94, 9), (oIfNe 15, 12), (oI (-2), 14), (oRI, 15)]),
  (15, [(oAl 0, 16), (oGI 10 41, 19), (oIs 2, 20), (oAl 0, 21), (oIl 1, 22), (oPI 10 41, 25), (oIl 2, 26), (oRI, 27)])]
def B_X10_nextRow : List (Nat × zB) := [(0, [(oAl 0, 1), (oGI 10 37, 4), (oI 2, 5), (oSub, 6), (oIs 1, 7), (oGo 7, 7)]),
  (7, [(oIl 1, 8), (oIfLt 34, 11), (oAl 0, 12), (oGR 10 42, 15), (oIl 1, 16), (oLd, 17), (oAl 0, 18), (oGR 10 42, 21), (oIl 1, 22), (oI 1, 23), (oAdd, 24), (oLd, 25), (oCmpLe 34, 28), (oInc 1 (-1), 31), (oGo 7, 34)]),
  (34, [(oIl 1, 35), (oIfGe 40, 38), (oI 0, 39), (oRZ, 40)]),
  (40, [(oAl 0, 41), (oGI 10 37, 44), (oI 1, 45), (oSub, 46), (oIs 2, 47), (oGo 47, 47)]),
  (47, [(oAl 0, 48), (oGR 10 42, 51), (oIl 2, 52), (oLd, 53), (oAl 0, 54), (oGR 10 42, 57), (oIl 1, 58), (oLd, 59), (oCmpGe 68, 62), (oInc 2 (-1), 65), (oGo 47, 68)]),
  (68, [(oAl 0, 69), (oGR 10 42, 72), (oIl 1, 73), (oLd, 74), (oIs 3, 75), (oAl 0, 76), (oGR 10 42, 79), (oIl 1, 80), (oAl 0, 81), (oGR 10 42, 84), (oIl 2, 85), (oLd, 86), (oSt, 87), (oAl 0, 88), (oGR 10 42, 91), (oIl 2, 92), (oIl 3, 93), (oSt, 94), (oIl 1, 95), (oI 1, 96), (oAdd, 97), (oIs 4, 99), (oAl 0, 100), (oGI 10 37, 103), (oI 1, 104), (oSub, 105), (oIs 5, 107), (oGo 107, 107)]),
  (107, [(oIl 4, 109), (oIl 5, 111), (oCmpGe 153, 114), (oAl 0, 115), (oGR 10 42, 118), (oIl 4, 120), (oLd, 121), (oIs 3, 122), (oAl 0, 123), (oGR 10 42, 126), (oIl 4, 128), (oAl 0, 129), (oGR 10 42, 132), (oIl 5, 134), (oLd, 135), (oSt, 136), (oAl 0, 137), (oGR 10 42, 140), (oIl 5, 142), (oIl 3, 143), (oSt, 144), (oInc 4 1, 147), (oInc 5 (-1), 150), (oGo 107, 153)]),
  (153, [(oI 1, 154), (oRZ, 155)])]
def B_X10_findOrder : List (Nat × zB) := [(0, [(oI 0, 1), (oIs 1, 2), (oGo 2, 2)]),
  (2, [(oIl 1, 3), (oAl 0, 4), (oGI 10 37, 7), (oCmpGe 23, 10), (oAl 0, 11), (oGR 10 42, 14), (oIl 1, 15), (oIl 1, 16), (oSt, 17), (oInc 1 1, 20), (oGo 2, 23)]),
  (23, [(oI (-1), 24), (oIs 1, 25), (oI 0, 26), (oIs 2, 27), (oAl 0, 28), (oGI 10 37, 31), (oIfLe 38, 34), (oI 1, 35), (oGo 39, 38)]),
  (38, [(oI 0, 39), (oGo 39, 39)]),
  (39, [(oIs 3, 40), (oGo 40, 40)]),
  (40, [(oIl 3, 41), (oIfEq 237, 44), (oI 0, 45), (oIs 4, 47), (oI 0, 48), (oIs 5, 50), (oI 0, 51), (oIs 6, 53), (oGo 53, 53)]),
  (53, [(oIl 6, 55), (oAl 0, 56), (oGI 10 37, 59), (oCmpGe 168, 62), (oAl 0, 63), (oGR 10 42, 66), (oIl 6, 68), (oLd, 69), (oIs 7, 71), (oIl 6, 73), (oIfLe 119, 76), (oAl 0, 77), (oGR 10 2, 80), (oAl 0, 81), (oGR 10 38, 84), (oIl 7, 86), (oLd, 87), (oLd, 88), (oAl 0, 89), (oGR 10 2, 92), (oAl 0, 93), (oGR 10 38, 96), (oAl 0, 97), (oGR 10 42, 100), (oIl 6, 102), (oI 1, 103), (oSub, 104), (oLd, 105), (oLd, 106), (oLd, 107), (oCmpEq 119, 110), (oIl 4, 112), (oAl 0, 113), (oGI 10 41, 116), (oAdd, 117), (oIs 4, 119), (oGo 119, 119)]),
  (119, [(oIl 4, 121), (oAl 0, 122), (oGR 10 39, 125), (oIl 7, 127), (oLd, 128), (oAdd, 129), (oIs 4, 131), (oIl 5, 133), (oIl 4, 135), (oAl 0, 136), (oGR 10 40, 139), (oIl 7, 141), (oLd, 142), (oCmpLe 158, 145), (oIl 4, 147), (oAl 0, 148), (oGR 10 40, 151), (oIl 7, 153), (oLd, 154), (oSub, 155), (oGo 159, 158)]),
  (158, [(oI 0, 159), (oGo 159, 159)]),
  (159, [(oAdd, 160), (oIs 5, 162), (oInc 6 1, 165), (oGo 53, 168)]),
  (168, [(oIl 1, 169), (oI (-1), 170), (oCmpEq 191, 173), (oIl 5, 175), (oIl 1, 176), (oCmpLt 191, 179), (oIl 5, 181), (oIl 1, 182), (oCmpNe 229, 185), (oIl 4, 187), (oIl 2, 188), (oCmpGe 229, 191), (oGo 191, 191)]),
  (191, [(oIl 5, 193), (oIs 1, 194), (oIl 4, 196), (oIs 2, 197), (oI 0, 198), (oIs 6, 200), (oGo 200, 200)]),
  (200, [(oIl 6, 202), (oAl 0, 203), (oGI 10 37, 206), (oCmpGe 229, 209), (oAl 0, 210), (oGR 10 43, 213), (oIl 6, 215), (oAl 0, 216), (oGR 10 42, 219), (oIl 6, 221), (oLd, 222), (oSt, 223), (oInc 6 1, 226), (oGo 200, 229)]),
  (229, [(oAl 0, 230), (oV 0 122 10, 233), (oIs 3, 234), (oGo 40, 237)]),
  (237, [(oIl 1, 238), (oI (-1), 239), (oCmpNe 246, 242), (oI 0, 243), (oGo 247, 246)]),
  (246, [(oIl 1, 247), (oGo 247, 247)]),
  (247, [(oRI, 248)])]
def B_X10_late : List (Nat × zB) := [(0, [(oAl 0, 1), (oV 0 123 10, 4), (oRI, 5)])]
def B_X10_planned : List (Nat × zB) := [(0, [(oIl 1, 1), (oI2l, 2), (oJ 0, 3), (oAl 0, 4), (oGI 10 37, 7), (oI 1, 8), (oSub, 9), (oI2l, 10), (oS 3 94, 13), (oIfNe 19, 16), (oI (-2), 18), (oRI, 19)]),
  (19, [(oAl 0, 20), (oV 0 123 10, 23), (oIs 2, 24), (oAl 0, 25), (oGR 10 43, 28), (oIl 1, 29), (oLd, 30), (oRI, 31)])]
def B_X10_room : List (Nat × zB) := [(0, [(oIl 1, 1), (oI2l, 2), (oJ 1000, 5), (oJ 1000000, 8), (oS 3 94, 11), (oIfNe 17, 14), (oI (-2), 16), (oRI, 17)]),
  (17, [(oAl 0, 18), (oGI 10 44, 21), (oIs 2, 22), (oAl 0, 23), (oIl 1, 24), (oPI 10 44, 27), (oIl 2, 28), (oRI, 29)])]
def B_X10_waits : List (Nat × zB) := [(0, [(oAl 0, 1), (oGR 10 20, 4), (oIl 1, 5), (oLd, 6), (oI (-1), 7), (oCmpNe 32, 10), (oAl 0, 11), (oGR 10 17, 14), (oIl 1, 15), (oLd, 16), (oIfLe 32, 19), (oAl 0, 20), (oGR 10 46, 23), (oIl 1, 24), (oLdZ, 25), (oIfNe 32, 28), (oI 1, 29), (oGo 33, 32)]),
  (32, [(oI 0, 33), (oGo 33, 33)]),
  (33, [(oRZ, 34)])]
def B_X10_noneGone : List (Nat × zB) := [(0, [(oI 0, 1), (oIs 1, 2), (oGo 2, 2)]),
  (2, [(oIl 1, 3), (oI 200, 6), (oCmpGe 22, 9), (oAl 0, 10), (oGR 10 46, 13), (oIl 1, 14), (oI 0, 15), (oStZ, 16), (oInc 1 1, 19), (oGo 2, 22)]),
  (22, [(oRV, 23)])]
def B_X10_takes : List (Nat × zB) := [(0, [(oI (-1), 1), (oIs 1, 2), (oI 0, 3), (oIs 2, 4), (oGo 4, 4)]),
  (4, [(oIl 2, 5), (oAl 0, 6), (oGI 10 13, 9), (oCmpGe 37, 12), (oIl 1, 13), (oI (-1), 14), (oCmpNe 37, 17), (oAl 0, 18), (oIl 2, 19), (oV 1 127 10, 22), (oIfEq 29, 25), (oIl 2, 26), (oGo 30, 29)]),
  (29, [(oI (-1), 30), (oGo 30, 30)]),
  (30, [(oIs 1, 31), (oInc 2 1, 34), (oGo 4, 37)]),
  (37, [(oIl 1, 38), (oI (-1), 39), (oCmpNe 44, 42), (oI 0, 43), (oRI, 44)]),
  (44, [(oI 0, 45), (oIs 2, 46), (oI 0, 47), (oIs 3, 48), (oI 1, 49), (oIs 4, 51), (oIl 1, 52), (oIs 5, 54), (oGo 54, 54)]),
  (54, [(oIl 5, 56), (oAl 0, 57), (oGI 10 13, 60), (oCmpGe 172, 63), (oIl 4, 65), (oIfEq 172, 68), (oAl 0, 69), (oIl 5, 71), (oV 1 127 10, 74), (oIfEq 166, 77), (oAl 0, 78), (oGR 10 4, 81), (oAl 0, 82), (oGR 10 7, 85), (oAl 0, 86), (oGR 10 14, 89), (oIl 5, 91), (oLd, 92), (oLd, 93), (oLd, 94), (oAl 0, 95), (oGR 10 4, 98), (oAl 0, 99), (oGR 10 7, 102), (oAl 0, 103), (oGR 10 14, 106), (oIl 1, 107), (oLd, 108), (oLd, 109), (oLd, 110), (oCmpNe 166, 113), (oIl 2, 114), (oIfEq 133, 117), (oIl 3, 118), (oAl 0, 119), (oGR 10 17, 122), (oIl 5, 124), (oLd, 125), (oAdd, 126), (oAl 0, 127), (oGI 10 44, 130), (oCmpGt 137, 133), (oGo 133, 133)]),
  (133, [(oI 1, 134), (oGo 138, 137)]),
  (137, [(oI 0, 138), (oGo 138, 138)]),
  (138, [(oIs 4, 140), (oIl 4, 142), (oIfEq 166, 145), (oAl 0, 146), (oGR 10 46, 149), (oIl 5, 151), (oI 1, 152), (oStZ, 153), (oIl 3, 154), (oAl 0, 155), (oGR 10 17, 158), (oIl 5, 160), (oLd, 161), (oAdd, 162), (oIs 3, 163), (oInc 2 1, 166), (oGo 166, 166)]),
  (166, [(oInc 5 1, 169), (oGo 54, 172)]),
  (172, [(oIl 2, 173), (oRI, 174)])]
def B_X10_age : List (Nat × zB) := [(0, [(oAl 0, 1), (oV 0 128 10, 4), (oAl 0, 5), (oV 0 129 10, 8), (oIs 1, 9), (oIl 1, 10), (oIfNe 16, 13), (oI (-3), 15), (oRI, 16)]),
  (16, [(oI 0, 17), (oIs 2, 18), (oGo 18, 18)]),
  (18, [(oIl 2, 19), (oAl 0, 20), (oGI 10 13, 23), (oCmpGe 60, 26), (oAl 0, 27), (oGR 10 20, 30), (oIl 2, 31), (oAl 0, 32), (oGR 10 46, 35), (oIl 2, 36), (oLdZ, 37), (oIfEq 47, 40), (oAl 0, 41), (oGI 10 45, 44), (oGo 53, 47)]),
  (47, [(oAl 0, 48), (oGR 10 20, 51), (oIl 2, 52), (oLd, 53), (oGo 53, 53)]),
  (53, [(oSt, 54), (oInc 2 1, 57), (oGo 18, 60)]),
  (60, [(oAl 0, 61), (oDup, 62), (oGI 10 45, 65), (oI 1, 66), (oAdd, 67), (oPI 10 45, 70), (oIl 1, 71), (oRI, 72)])]
def B_X10_batches : List (Nat × zB) := [(0, [(oAl 0, 1), (oV 0 128 10, 4), (oI 0, 5), (oIs 1, 6), (oGo 6, 6)]),
  (6, [(oAl 0, 7), (oV 0 129 10, 10), (oIfLe 19, 13), (oInc 1 1, 16), (oGo 6, 19)]),
  (19, [(oIl 1, 20), (oRI, 21)])]
def B_X10_sample : List (Nat × zB) := [(0, [(oAl 0, 1), (oIl 1, 2), (oV 1 112 10, 5), (oIfNe 11, 8), (oI (-2), 10), (oRI, 11)]),
  (11, [(oAl 0, 12), (oGR 10 21, 15), (oIl 1, 16), (oIl 2, 17), (oIfEq 24, 20), (oI 1, 21), (oGo 25, 24)]),
  (24, [(oI 0, 25), (oGo 25, 25)]),
  (25, [(oSt, 26), (oI 1, 27), (oRI, 28)])]
def B_X10_isSuspect : List (Nat × zB) := [(0, [(oAl 0, 1), (oGR 10 21, 4), (oIl 1, 5), (oLd, 6), (oI 1, 7), (oCmpNe 12, 10), (oI 0, 11), (oRZ, 12)]),
  (12, [(oAl 0, 13), (oGR 10 21, 16), (oIl 1, 17), (oLd, 18), (oIfNe 25, 21), (oI 1, 22), (oGo 26, 25)]),
  (25, [(oI 0, 26), (oGo 26, 26)]),
  (26, [(oIs 2, 27), (oI (-1), 28), (oIs 3, 29), (oGo 29, 29)]),
  (29, [(oIl 3, 30), (oI 2, 31), (oCmpGe 130, 34), (oI 0, 35), (oIs 4, 37), (oIl 1, 38), (oIl 3, 39), (oAdd, 40), (oIs 5, 42), (oGo 42, 42)]),
  (42, [(oIl 5, 44), (oIfLt 124, 47), (oIl 5, 49), (oAl 0, 50), (oGI 10 13, 53), (oCmpGe 124, 56), (oIl 4, 58), (oIfNe 124, 61), (oAl 0, 62), (oGR 10 14, 65), (oIl 5, 67), (oLd, 68), (oAl 0, 69), (oGR 10 14, 72), (oIl 1, 73), (oLd, 74), (oCmpNe 115, 77), (oAl 0, 78), (oGR 10 21, 81), (oIl 5, 83), (oLd, 84), (oI 1, 85), (oCmpNe 92, 88), (oI 1, 89), (oGo 93, 92)]),
  (92, [(oI 0, 93), (oGo 93, 93)]),
  (93, [(oIs 4, 95), (oIl 2, 96), (oIfNe 109, 99), (oAl 0, 100), (oGR 10 21, 103), (oIl 5, 105), (oLd, 106), (oIfNe 113, 109), (oGo 109, 109)]),
  (109, [(oI 1, 110), (oGo 114, 113)]),
  (113, [(oI 0, 114), (oGo 114, 114)]),
  (114, [(oIs 2, 115), (oGo 115, 115)]),
  (115, [(oIl 5, 117), (oIl 3, 118), (oAdd, 119), (oIs 5, 121), (oGo 42, 124)]),
  (124, [(oInc 3 2, 127), (oGo 29, 130)]),
  (130, [(oIl 2, 131), (oRZ, 132)])]
def B_X10_suspect : List (Nat × zB) := [(0, [(oAl 0, 1), (oIl 1, 2), (oV 1 112 10, 5), (oIfNe 13, 8), (oI (-2), 10), (oGo 26, 13)]),
  (13, [(oAl 0, 14), (oIl 1, 15), (oV 1 133 10, 18), (oIfEq 25, 21), (oI 1, 22), (oGo 26, 25)]),
  (25, [(oI 0, 26), (oGo 26, 26)]),
  (26, [(oRI, 27)])]
def B_X10_held : List (Nat × zB) := [(0, [(oI 0, 1), (oIs 1, 2), (oI 0, 3), (oIs 2, 4), (oGo 4, 4)]),
  (4, [(oIl 2, 5), (oAl 0, 6), (oGI 10 13, 9), (oCmpGe 39, 12), (oIl 1, 13), (oAl 0, 14), (oIl 2, 15), (oV 1 133 10, 18), (oIfEq 30, 21), (oAl 0, 22), (oGR 10 17, 25), (oIl 2, 26), (oLd, 27), (oGo 31, 30)]),
  (30, [(oI 0, 31), (oGo 31, 31)]),
  (31, [(oAdd, 32), (oIs 1, 33), (oInc 2 1, 36), (oGo 4, 39)]),
  (39, [(oIl 1, 40), (oRI, 41)])]
def B_X10_drift : List (Nat × zB) := [(0, [(oAl 0, 1), (oIl 1, 2), (oV 1 112 10, 5), (oIfEq 21, 8), (oAl 0, 9), (oIl 2, 10), (oV 1 112 10, 13), (oIfEq 21, 16), (oIl 1, 17), (oIl 2, 18), (oCmpLe 24, 21), (oGo 21, 21)]),
  (21, [(oI (-100000), 23), (oRI, 24)]),
  (24, [(oI 0, 25), (oIs 3, 26), (oI 0, 27), (oIs 4, 29), (oIl 1, 30), (oIs 5, 32), (oGo 32, 32)]),
  (32, [(oIl 5, 34), (oIl 2, 35), (oCmpGt 116, 38), (oAl 0, 39), (oGR 10 47, 42), (oI 0, 43), (oLd, 44), (oIfLt 58, 47), (oIl 5, 49), (oAl 0, 50), (oGR 10 48, 53), (oI 0, 54), (oLd, 55), (oCmpLt 62, 58), (oGo 58, 58)]),
  (58, [(oI (-1), 59), (oGo 69, 62)]),
  (62, [(oAl 0, 63), (oGR 10 49, 66), (oIl 5, 68), (oLd, 69), (oGo 69, 69)]),
  (69, [(oIs 6, 71), (oIl 6, 73), (oI2l, 74), (oJ 1, 75), (oJ 20000, 78), (oS 3 94, 81), (oIfEq 110, 84), (oIl 3, 85), (oIl 6, 87), (oAl 0, 88), (oGR 10 5, 91), (oAl 0, 92), (oGR 10 7, 95), (oAl 0, 96), (oGR 10 14, 99), (oIl 5, 101), (oLd, 102), (oLd, 103), (oLd, 104), (oSub, 105), (oAdd, 106), (oIs 3, 107), (oInc 4 1, 110), (oGo 110, 110)]),
  (110, [(oInc 5 1, 113), (oGo 32, 116)]),
  (116, [(oIl 4, 118), (oIfNe 125, 121), (oI (-100001), 124), (oRI, 125)]),
  (125, [(oIl 3, 126), (oIl 4, 128), (oDiv, 129), (oIs 5, 131), (oIl 5, 133), (oIl 4, 135), (oMul, 136), (oIl 3, 137), (oCmpLe 147, 140), (oIl 5, 142), (oI 1, 143), (oSub, 144), (oGo 149, 147)]),
  (147, [(oIl 5, 149), (oGo 149, 149)]),
  (149, [(oRI, 150)])]
def B_X10_met : List (Nat × zB) := [(0, [(oAl 0, 1), (oIl 1, 2), (oPI 10 51, 5), (oI (-10), 7), (oIl 1, 8), (oSub, 9), (oRI, 10)])]
def B_X10_isSheet : List (Nat × zB) := [(0, [(oIl 0, 1), (oI2l, 2), (oJ 0, 3), (oJ 3, 6), (oS 3 94, 9), (oRZ, 10)])]
def B_X10_sheet : List (Nat × zB) := [(0, [(oIl 1, 1), (oS 1 138, 4), (oIfEq 26, 7), (oIl 2, 8), (oI2l, 9), (oJ 0, 10), (oJ 2, 13), (oS 3 94, 16), (oIfEq 26, 19), (oIl 3, 20), (oI 200, 23), (oCmpLe 29, 26), (oGo 26, 26)]),
  (26, [(oI (-2), 28), (oRI, 29)]),
  (29, [(oIl 3, 30), (oIfGe 39, 33), (oAl 0, 34), (oI 5, 35), (oV 1 137 10, 38), (oRI, 39)]),
  (39, [(oAl 0, 40), (oGR 10 47, 43), (oIl 1, 44), (oIl 2, 45), (oSt, 46), (oAl 0, 47), (oGR 10 48, 50), (oIl 1, 51), (oIl 3, 52), (oSt, 53), (oI 0, 54), (oIs 4, 56), (oGo 56, 56)]),
  (56, [(oIl 4, 58), (oIl 3, 59), (oCmpGe 82, 62), (oAl 0, 63), (oGR 10 49, 66), (oI 200, 69), (oIl 1, 70), (oMul, 71), (oIl 4, 73), (oAdd, 74), (oI 0, 75), (oSt, 76), (oInc 4 1, 79), (oGo 56, 82)]),
  (82, [(oIl 3, 83), (oRI, 84)])]
def B_X10_lose : List (Nat × zB) := [(0, [(oIl 1, 1), (oS 1 138, 4), (oIfNe 10, 7), (oI (-2), 9), (oRI, 10)]),
  (10, [(oAl 0, 11), (oGR 10 47, 14), (oIl 1, 15), (oLd, 16), (oIfGe 25, 19), (oAl 0, 20), (oI 1, 21), (oV 1 137 10, 24), (oRI, 25)]),
  (25, [(oAl 0, 26), (oGR 10 47, 29), (oIl 1, 30), (oI (-1), 31), (oSt, 32), (oAl 0, 33), (oGR 10 48, 36), (oIl 1, 37), (oLd, 38), (oRI, 39)])]
def B_X10_lacks : List (Nat × zB) := [(0, [(oAl 0, 1), (oGR 10 47, 4), (oIl 1, 5), (oLd, 6), (oIfGe 15, 9), (oAl 0, 10), (oI 1, 11), (oV 1 137 10, 14), (oRI, 15)]),
  (15, [(oAl 0, 16), (oGR 10 47, 19), (oIl 1, 20), (oLd, 21), (oIl 2, 22), (oCmpEq 31, 25), (oAl 0, 26), (oI 3, 27), (oV 1 137 10, 30), (oRI, 31)]),
  (31, [(oIl 3, 32), (oI2l, 33), (oJ 0, 34), (oAl 0, 35), (oGR 10 48, 38), (oIl 1, 39), (oLd, 40), (oI 1, 41), (oSub, 42), (oI2l, 43), (oS 3 94, 46), (oIfEq 53, 49), (oI 0, 50), (oGo 58, 53)]),
  (53, [(oAl 0, 54), (oI 2, 55), (oV 1 137 10, 58), (oGo 58, 58)]),
  (58, [(oRI, 59)])]
def B_X10_put : List (Nat × zB) := [(0, [(oIl 1, 1), (oS 1 138, 4), (oIfEq 19, 7), (oIl 2, 8), (oI2l, 9), (oJ 0, 10), (oJ 2, 13), (oS 3 94, 16), (oIfNe 22, 19), (oGo 19, 19)]),
  (19, [(oI (-2), 21), (oRI, 22)]),
  (22, [(oAl 0, 23), (oIl 1, 24), (oIl 2, 25), (oIl 3, 26), (oV 3 141 10, 29), (oIs 5, 31), (oIl 5, 33), (oIfEq 39, 36), (oIl 5, 38), (oRI, 39)]),
  (39, [(oAl 0, 40), (oGR 10 49, 43), (oI 200, 46), (oIl 1, 47), (oMul, 48), (oIl 3, 49), (oAdd, 50), (oIl 2, 51), (oIfNe 60, 54), (oIl 4, 56), (oI2b, 57), (oGo 73, 60)]),
  (60, [(oIl 2, 61), (oI 1, 62), (oCmpNe 71, 65), (oIl 4, 67), (oI2s, 68), (oGo 73, 71)]),
  (71, [(oIl 4, 73), (oGo 73, 73)]),
  (73, [(oSt, 74), (oI 1, 75), (oRI, 76)])]
def B_X10_get : List (Nat × zB) := [(0, [(oIl 1, 1), (oS 1 138, 4), (oIfEq 29, 7), (oIl 2, 8), (oI2l, 9), (oJ 0, 10), (oJ 2, 13), (oS 3 94, 16), (oIfEq 29, 19), (oAl 0, 20), (oIl 1, 21), (oIl 2, 22), (oIl 3, 23), (oV 3 141 10, 26), (oIfEq 33, 29), (oGo 29, 29)]),
  (29, [(oI (-2147483648), 32), (oRI, 33)]),
  (33, [(oAl 0, 34), (oGR 10 49, 37), (oI 200, 40), (oIl 1, 41), (oMul, 42), (oIl 3, 43), (oAdd, 44), (oLd, 45), (oRI, 46)])]
def B_X10_copy : List (Nat × zB) := [(0, [(oIl 1, 1), (oS 1 138, 4), (oIfEq 14, 7), (oIl 3, 8), (oS 1 138, 11), (oIfNe 17, 14), (oGo 14, 14)]),
  (14, [(oI (-2), 16), (oRI, 17)]),
  (17, [(oAl 0, 18), (oGR 10 47, 21), (oIl 1, 22), (oLd, 23), (oIfLt 35, 26), (oAl 0, 27), (oGR 10 47, 30), (oIl 3, 31), (oLd, 32), (oIfGe 41, 35), (oGo 35, 35)]),
  (35, [(oAl 0, 36), (oI 1, 37), (oV 1 137 10, 40), (oRI, 41)]),
  (41, [(oAl 0, 42), (oGR 10 47, 45), (oIl 1, 46), (oLd, 47), (oAl 0, 48), (oGR 10 47, 51), (oIl 3, 52), (oLd, 53), (oCmpEq 62, 56), (oAl 0, 57), (oI 4, 58), (oV 1 137 10, 61), (oRI, 62)]),
  (62, [(oIl 2, 63), (oIfLt 111, 66), (oIl 4, 68), (oIfLt 111, 71), (oIl 5, 73), (oIfLt 111, 76), (oIl 2, 77), (oI2l, 78), (oIl 5, 80), (oI2l, 81), (oJadd, 82), (oAl 0, 83), (oGR 10 48, 86), (oIl 1, 87), (oLd, 88), (oI2l, 89), (oJcmp, 90), (oIfGt 111, 93), (oIl 4, 95), (oI2l, 96), (oIl 5, 98), (oI2l, 99), (oJadd, 100), (oAl 0, 101), (oGR 10 48, 104), (oIl 3, 105), (oLd, 106), (oI2l, 107), (oJcmp, 108), (oIfLe 117, 111), (oGo 111, 111)]),
  (111, [(oAl 0, 112), (oI 2, 113), (oV 1 137 10, 116), (oRI, 117)]),
  (117, [(oI 0, 118), (oIs 6, 120), (oGo 120, 120)]),
  (120, [(oIl 6, 122), (oIl 5, 124), (oCmpGe 155, 127), (oAl 0, 128), (oGR 10 50, 131), (oIl 6, 133), (oAl 0, 134), (oGR 10 49, 137), (oI 200, 140), (oIl 1, 141), (oMul, 142), (oIl 2, 143), (oAdd, 144), (oIl 6, 146), (oAdd, 147), (oLd, 148), (oSt, 149), (oInc 6 1, 152), (oGo 120, 155)]),
  (155, [(oI 0, 156), (oIs 6, 158), (oGo 158, 158)]),
  (158, [(oIl 6, 160), (oIl 5, 162), (oCmpGe 194, 165), (oAl 0, 166), (oGR 10 49, 169), (oI 200, 172), (oIl 3, 173), (oMul, 174), (oIl 4, 176), (oAdd, 177), (oIl 6, 179), (oAdd, 180), (oAl 0, 181), (oGR 10 50, 184), (oIl 6, 186), (oLd, 187), (oSt, 188), (oInc 6 1, 191), (oGo 158, 194)]),
  (194, [(oI 1, 195), (oRI, 196)])]
def B_X10_waiting : List (Nat × zB) := [(0, [(oAl 0, 1), (oV 0 128 10, 4), (oI 0, 5), (oIs 1, 6), (oI 0, 7), (oIs 2, 8), (oGo 8, 8)]),
  (8, [(oIl 2, 9), (oAl 0, 10), (oGI 10 13, 13), (oCmpGe 38, 16), (oIl 1, 17), (oAl 0, 18), (oIl 2, 19), (oV 1 127 10, 22), (oIfEq 29, 25), (oI 1, 26), (oGo 30, 29)]),
  (29, [(oI 0, 30), (oGo 30, 30)]),
  (30, [(oAdd, 31), (oIs 1, 32), (oInc 2 1, 35), (oGo 8, 38)]),
  (38, [(oIl 1, 39), (oRI, 40)])]
def B_X10_count : List (Nat × zB) := [(0, [(oIl 1, 1), (oSw 88 [48, 53, 58, 63, 68, 73, 78, 83], 48)]),
  (48, [(oAl 0, 49), (oGI 10 1, 52), (oRI, 53)]),
  (53, [(oAl 0, 54), (oGI 10 6, 57), (oRI, 58)]),
  (58, [(oAl 0, 59), (oGI 10 12, 62), (oRI, 63)]),
  (63, [(oAl 0, 64), (oGI 10 13, 67), (oRI, 68)]),
  (68, [(oAl 0, 69), (oGI 10 37, 72), (oRI, 73)]),
  (73, [(oAl 0, 74), (oGI 10 45, 77), (oRI, 78)]),
  (78, [(oAl 0, 79), (oGI 10 51, 82), (oRI, 83)]),
  (83, [(oAl 0, 84), (oV 0 145 10, 87), (oRI, 88)]),
  (88, [(oI (-2), 90), (oRI, 91)])]
def B_X10_digest : List (Nat × zB) := [(0, [(oJ 17, 3), (oJs 1, 4), (oI 0, 5), (oIs 3, 6), (oGo 6, 6)]),
  (6, [(oIl 3, 7), (oI 8, 9), (oCmpGe 41, 12), (oIl 3, 13), (oI 6, 15), (oCmpNe 22, 18), (oJl 1, 19), (oGo 34, 22)]),
  (22, [(oJ 31, 25), (oJl 1, 26), (oJmul, 27), (oAl 0, 28), (oIl 3, 29), (oV 1 146 10, 32), (oI2l, 33), (oJadd, 34), (oGo 34, 34)]),
  (34, [(oJs 1, 35), (oInc 3 1, 38), (oGo 6, 41)]),
  (41, [(oI 0, 42), (oIs 3, 43), (oGo 43, 43)]),
  (43, [(oIl 3, 44), (oAl 0, 45), (oGI 10 6, 48), (oCmpGe 87, 51), (oI 2, 52), (oIs 4, 54), (oGo 54, 54)]),
  (54, [(oIl 4, 56), (oI 5, 57), (oCmpGe 81, 60), (oJ 31, 63), (oJl 1, 64), (oJmul, 65), (oAl 0, 66), (oIl 3, 67), (oIl 4, 69), (oV 2 103 10, 72), (oI2l, 73), (oJadd, 74), (oJs 1, 75), (oInc 4 1, 78), (oGo 54, 81)]),
  (81, [(oInc 3 1, 84), (oGo 43, 87)]),
  (87, [(oI 0, 88), (oIs 3, 89), (oGo 89, 89)]),
  (89, [(oIl 3, 90), (oAl 0, 91), (oGI 10 13, 94), (oCmpGe 134, 97), (oI 3, 98), (oIs 4, 100), (oGo 100, 100)]),
  (100, [(oIl 4, 102), (oI 7, 104), (oCmpGe 128, 107), (oJ 31, 110), (oJl 1, 111), (oJmul, 112), (oAl 0, 113), (oIl 3, 114), (oIl 4, 116), (oV 2 113 10, 119), (oI2l, 120), (oJadd, 121), (oJs 1, 122), (oInc 4 1, 125), (oGo 100, 128)]),
  (128, [(oInc 3 1, 131), (oGo 89, 134)]),
  (134, [(oI 0, 135), (oIs 3, 136), (oGo 136, 136)]),
  (136, [(oIl 3, 137), (oI 7, 139), (oCmpGe 161, 142), (oJ 31, 145), (oJl 1, 146), (oJmul, 147), (oAl 0, 148), (oIl 3, 149), (oV 1 117 10, 152), (oI2l, 153), (oJadd, 154), (oJs 1, 155), (oInc 3 1, 158), (oGo 136, 161)]),
  (161, [(oI 0, 162), (oIs 3, 163), (oGo 163, 163)]),
  (163, [(oIl 3, 164), (oAl 0, 165), (oGI 10 1, 168), (oCmpGe 216, 171), (oI 0, 172), (oIs 4, 174), (oGo 174, 174)]),
  (174, [(oIl 4, 176), (oAl 0, 177), (oGR 10 25, 180), (oIl 3, 181), (oLd, 182), (oCmpGe 210, 185), (oJ 31, 188), (oJl 1, 189), (oJmul, 190), (oAl 0, 191), (oGR 10 27, 194), (oI 3, 195), (oIl 3, 196), (oMul, 197), (oIl 4, 199), (oAdd, 200), (oLd, 201), (oI2l, 202), (oJadd, 203), (oJs 1, 204), (oInc 4 1, 207), (oGo 174, 210)]),
  (210, [(oInc 3 1, 213), (oGo 163, 216)]),
  (216, [(oJl 1, 217), (oRJ, 218)])]
def B_J9_floorDiv_7cf53 : List (Nat × zB) := [(0, [(oIl 0, 1), (oIl 1, 2), (oDiv, 3), (oIs 2, 4), (oIl 0, 5), (oIl 1, 6), (oXor, 7), (oIfGe 21, 10), (oIl 2, 11), (oIl 1, 12), (oMul, 13), (oIl 0, 14), (oCmpEq 21, 17), (oIl 2, 18), (oI 1, 19), (oSub, 20), (oRI, 21)]),
  (21, [(oIl 2, 22), (oRI, 23)])]
def B_J9_max_7cf53 : List (Nat × zB) := [(0, [(oIl 0, 1), (oIl 1, 2), (oCmpLt 9, 5), (oIl 0, 6), (oGo 10, 9)]),
  (9, [(oIl 1, 10), (oGo 10, 10)]),
  (10, [(oRI, 11)])]
def B_J9_min_7cf53 : List (Nat × zB) := [(0, [(oIl 0, 1), (oIl 1, 2), (oCmpGt 9, 5), (oIl 0, 6), (oGo 10, 9)]),
  (9, [(oIl 1, 10), (oGo 10, 10)]),
  (10, [(oRI, 11)])]
def B_L_law (xs : Nat → Int32) (n : Nat) : List (Nat × zB) := [(0, [(oNew 9, 3), (oDup, 4), (oNi 52 46, 7), (oAs 1, 8), (oNew 10, 11), (oDup, 12), (oNi 93 81, 15), (oAs 2, 16), (oI 0, 17), (oIs 3, 18), (oGo 18, 18)]),
  (18, [(oIl 3, 19), (oAl 0, 20), (oScrN n, 21), (oI 6, 23), (oSub, 24), (oCmpGt 1272, 27), (oAl 0, 28), (oIl 3, 29), (oScr xs n, 30), (oI 63, 32), (oAnd, 33), (oSw 1266 [188, 241, 274, 297, 320, 343, 376, 399, 422, 455, 488, 521, 564, 597, 640, 663, 686, 735, 778, 801, 814, 837, 860, 873, 886, 935, 958, 971, 1004, 1047, 1070, 1123, 1166, 1229, 1252], 188)]),
  (188, [(oAl 1, 189), (oAl 0, 190), (oIl 3, 191), (oI 1, 192), (oAdd, 193), (oScr xs n, 194), (oAl 0, 195), (oIl 3, 196), (oI 2, 197), (oAdd, 198), (oScr xs n, 199), (oAl 0, 200), (oIl 3, 201), (oI 3, 202), (oAdd, 203), (oScr xs n, 204), (oAl 0, 205), (oIl 3, 206), (oI 4, 207), (oAdd, 208), (oScr xs n, 209), (oV 4 53 9, 212), (oAl 2, 213), (oAl 0, 214), (oIl 3, 215), (oI 1, 216), (oAdd, 217), (oScr xs n, 218), (oAl 0, 219), (oIl 3, 220), (oI 2, 221), (oAdd, 222), (oScr xs n, 223), (oAl 0, 224), (oIl 3, 225), (oI 3, 226), (oAdd, 227), (oScr xs n, 228), (oAl 0, 229), (oIl 3, 230), (oI 4, 231), (oAdd, 232), (oScr xs n, 233), (oV 4 97 10, 236), (oCmpEq 1266, 239), (oI 0, 240), (oRI, 241)]),
  (241, [(oAl 1, 242), (oAl 0, 243), (oIl 3, 244), (oI 1, 245), (oAdd, 246), (oScr xs n, 247), (oAl 0, 248), (oIl 3, 249), (oI 2, 250), (oAdd, 251), (oScr xs n, 252), (oV 2 54 9, 255), (oAl 2, 256), (oAl 0, 257), (oIl 3, 258), (oI 1, 259), (oAdd, 260), (oScr xs n, 261), (oAl 0, 262), (oIl 3, 263), (oI 2, 264), (oAdd, 265), (oScr xs n, 266), (oV 2 98 10, 269), (oCmpEq 1266, 272), (oI 0, 273), (oRI, 274)]),
  (274, [(oAl 1, 275), (oAl 0, 276), (oIl 3, 277), (oI 1, 278), (oAdd, 279), (oScr xs n, 280), (oV 1 55 9, 283), (oAl 2, 284), (oAl 0, 285), (oIl 3, 286), (oI 1, 287), (oAdd, 288), (oScr xs n, 289), (oV 1 99 10, 292), (oCmpEq 1266, 295), (oI 0, 296), (oRI, 297)]),
  (297, [(oAl 1, 298), (oAl 0, 299), (oIl 3, 300), (oI 1, 301), (oAdd, 302), (oScr xs n, 303), (oV 1 56 9, 306), (oAl 2, 307), (oAl 0, 308), (oIl 3, 309), (oI 1, 310), (oAdd, 311), (oScr xs n, 312), (oV 1 100 10, 315), (oCmpEq 1266, 318), (oI 0, 319), (oRI, 320)]),
  (320, [(oAl 1, 321), (oAl 0, 322), (oIl 3, 323), (oI 1, 324), (oAdd, 325), (oScr xs n, 326), (oV 1 57 9, 329), (oAl 2, 330), (oAl 0, 331), (oIl 3, 332), (oI 1, 333), (oAdd, 334), (oScr xs n, 335), (oV 1 101 10, 338), (oCmpEq 1266, 341), (oI 0, 342), (oRI, 343)]),
  (343, [(oAl 1, 344), (oAl 0, 345), (oIl 3, 346), (oI 1, 347), (oAdd, 348), (oScr xs n, 349), (oAl 0, 350), (oIl 3, 351), (oI 2, 352), (oAdd, 353), (oScr xs n, 354), (oV 2 58 9, 357), (oAl 2, 358), (oAl 0, 359), (oIl 3, 360), (oI 1, 361), (oAdd, 362), (oScr xs n, 363), (oAl 0, 364), (oIl 3, 365), (oI 2, 366), (oAdd, 367), (oScr xs n, 368), (oV 2 103 10, 371), (oCmpEq 1266, 374), (oI 0, 375), (oRI, 376)]),
  (376, [(oAl 1, 377), (oAl 0, 378), (oIl 3, 379), (oI 1, 380), (oAdd, 381), (oScr xs n, 382), (oV 1 59 9, 385), (oAl 2, 386), (oAl 0, 387), (oIl 3, 388), (oI 1, 389), (oAdd, 390), (oScr xs n, 391), (oV 1 104 10, 394), (oCmpEq 1266, 397), (oI 0, 398), (oRI, 399)]),
  (399, [(oAl 1, 400), (oAl 0, 401), (oIl 3, 402), (oI 1, 403), (oAdd, 404), (oScr xs n, 405), (oV 1 60 9, 408), (oAl 2, 409), (oAl 0, 410), (oIl 3, 411), (oI 1, 412), (oAdd, 413), (oScr xs n, 414), (oV 1 105 10, 417), (oCmpEq 1266, 420), (oI 0, 421), (oRI, 422)]),
  (422, [(oAl 1, 423), (oAl 0, 424), (oIl 3, 425), (oI 1, 426), (oAdd, 427), (oScr xs n, 428), (oAl 0, 429), (oIl 3, 430), (oI 2, 431), (oAdd, 432), (oScr xs n, 433), (oV 2 61 9, 436), (oAl 2, 437), (oAl 0, 438), (oIl 3, 439), (oI 1, 440), (oAdd, 441), (oScr xs n, 442), (oAl 0, 443), (oIl 3, 444), (oI 2, 445), (oAdd, 446), (oScr xs n, 447), (oV 2 106 10, 450), (oCmpEq 1266, 453), (oI 0, 454), (oRI, 455)]),
  (455, [(oAl 1, 456), (oAl 0, 457), (oIl 3, 458), (oI 1, 459), (oAdd, 460), (oScr xs n, 461), (oAl 0, 462), (oIl 3, 463), (oI 2, 464), (oAdd, 465), (oScr xs n, 466), (oV 2 62 9, 469), (oAl 2, 470), (oAl 0, 471), (oIl 3, 472), (oI 1, 473), (oAdd, 474), (oScr xs n, 475), (oAl 0, 476), (oIl 3, 477), (oI 2, 478), (oAdd, 479), (oScr xs n, 480), (oV 2 111 10, 483), (oCmpEq 1266, 486), (oI 0, 487), (oRI, 488)]),
  (488, [(oAl 1, 489), (oAl 0, 490), (oIl 3, 491), (oI 1, 492), (oAdd, 493), (oScr xs n, 494), (oAl 0, 495), (oIl 3, 496), (oI 2, 497), (oAdd, 498), (oScr xs n, 499), (oV 2 63 9, 502), (oAl 2, 503), (oAl 0, 504), (oIl 3, 505), (oI 1, 506), (oAdd, 507), (oScr xs n, 508), (oAl 0, 509), (oIl 3, 510), (oI 2, 511), (oAdd, 512), (oScr xs n, 513), (oV 2 113 10, 516), (oCmpEq 1266, 519), (oI 0, 520), (oRI, 521)]),
  (521, [(oAl 1, 522), (oAl 0, 523), (oIl 3, 524), (oI 1, 525), (oAdd, 526), (oScr xs n, 527), (oAl 0, 528), (oIl 3, 529), (oI 2, 530), (oAdd, 531), (oScr xs n, 532), (oAl 0, 533), (oIl 3, 534), (oI 3, 535), (oAdd, 536), (oScr xs n, 537), (oV 3 64 9, 540), (oAl 2, 541), (oAl 0, 542), (oIl 3, 543), (oI 1, 544), (oAdd, 545), (oScr xs n, 546), (oAl 0, 547), (oIl 3, 548), (oI 2, 549), (oAdd, 550), (oScr xs n, 551), (oAl 0, 552), (oIl 3, 553), (oI 3, 554), (oAdd, 555), (oScr xs n, 556), (oV 3 114 10, 559), (oCmpEq 1266, 562), (oI 0, 563), (oRI, 564)]),
  (564, [(oAl 1, 565), (oAl 0, 566), (oIl 3, 567), (oI 1, 568), (oAdd, 569), (oScr xs n, 570), (oAl 0, 571), (oIl 3, 572), (oI 2, 573), (oAdd, 574), (oScr xs n, 575), (oV 2 65 9, 578), (oAl 2, 579), (oAl 0, 580), (oIl 3, 581), (oI 1, 582), (oAdd, 583), (oScr xs n, 584), (oAl 0, 585), (oIl 3, 586), (oI 2, 587), (oAdd, 588), (oScr xs n, 589), (oV 2 115 10, 592), (oCmpEq 1266, 595), (oI 0, 596), (oRI, 597)]),
  (597, [(oAl 1, 598), (oAl 0, 599), (oIl 3, 600), (oI 1, 601), (oAdd, 602), (oScr xs n, 603), (oAl 0, 604), (oIl 3, 605), (oI 2, 606), (oAdd, 607), (oScr xs n, 608), (oAl 0, 609), (oIl 3, 610), (oI 3, 611), (oAdd, 612), (oScr xs n, 613), (oV 3 66 9, 616), (oAl 2, 617), (oAl 0, 618), (oIl 3, 619), (oI 1, 620), (oAdd, 621), (oScr xs n, 622), (oAl 0, 623), (oIl 3, 624), (oI 2, 625), (oAdd, 626), (oScr xs n, 627), (oAl 0, 628), (oIl 3, 629), (oI 3, 630), (oAdd, 631), (oScr xs n, 632), (oV 3 116 10, 635), (oCmpEq 1266, 638), (oI 0, 639), (oRI, 640)]),
  (640, [(oAl 1, 641), (oAl 0, 642), (oIl 3, 643), (oI 1, 644), (oAdd, 645), (oScr xs n, 646), (oV 1 67 9, 649), (oAl 2, 650), (oAl 0, 651), (oIl 3, 652), (oI 1, 653), (oAdd, 654), (oScr xs n, 655), (oV 1 117 10, 658), (oCmpEq 1266, 661), (oI 0, 662), (oRI, 663)]),
  (663, [(oAl 1, 664), (oAl 0, 665), (oIl 3, 666), (oI 1, 667), (oAdd, 668), (oScr xs n, 669), (oV 1 68 9, 672), (oAl 2, 673), (oAl 0, 674), (oIl 3, 675), (oI 1, 676), (oAdd, 677), (oScr xs n, 678), (oV 1 118 10, 681), (oCmpEq 1266, 684), (oI 0, 685), (oRI, 686)]),
  (686, [(oAl 1, 687), (oAl 0, 688), (oIl 3, 689), (oI 1, 690), (oAdd, 691), (oScr xs n, 692), (oAl 0, 693), (oIl 3, 694), (oI 2, 695), (oAdd, 696), (oScr xs n, 697), (oIfEq 704, 700), (oI 1, 701), (oGo 705, 704)]),
  (704, [(oI 0, 705), (oGo 705, 705)]),
  (705, [(oV 2 69 9, 708), (oAl 2, 709), (oAl 0, 710), (oIl 3, 711), (oI 1, 712), (oAdd, 713), (oScr xs n, 714), (oAl 0, 715), (oIl 3, 716), (oI 2, 717), (oAdd, 718), (oScr xs n, 719), (oIfEq 726, 722), (oI 1, 723), (oGo 727, 726)]),
  (726, [(oI 0, 727), (oGo 727, 727)]),
  (727, [(oV 2 119 10, 730), (oCmpEq 1266, 733), (oI 0, 734), (oRI, 735)]),
  (735, [(oAl 1, 736), (oAl 0, 737), (oIl 3, 738), (oI 1, 739), (oAdd, 740), (oScr xs n, 741), (oAl 0, 742), (oIl 3, 743), (oI 2, 744), (oAdd, 745), (oScr xs n, 746), (oAl 0, 747), (oIl 3, 748), (oI 3, 749), (oAdd, 750), (oScr xs n, 751), (oV 3 70 9, 754), (oAl 2, 755), (oAl 0, 756), (oIl 3, 757), (oI 1, 758), (oAdd, 759), (oScr xs n, 760), (oAl 0, 761), (oIl 3, 762), (oI 2, 763), (oAdd, 764), (oScr xs n, 765), (oAl 0, 766), (oIl 3, 767), (oI 3, 768), (oAdd, 769), (oScr xs n, 770), (oV 3 120 10, 773), (oCmpEq 1266, 776), (oI 0, 777), (oRI, 778)]),
  (778, [(oAl 1, 779), (oAl 0, 780), (oIl 3, 781), (oI 1, 782), (oAdd, 783), (oScr xs n, 784), (oV 1 71 9, 787), (oAl 2, 788), (oAl 0, 789), (oIl 3, 790), (oI 1, 791), (oAdd, 792), (oScr xs n, 793), (oV 1 121 10, 796), (oCmpEq 1266, 799), (oI 0, 800), (oRI, 801)]),
  (801, [(oAl 1, 802), (oV 0 72 9, 805), (oAl 2, 806), (oV 0 124 10, 809), (oCmpEq 1266, 812), (oI 0, 813), (oRI, 814)]),
  (814, [(oAl 1, 815), (oAl 0, 816), (oIl 3, 817), (oI 1, 818), (oAdd, 819), (oScr xs n, 820), (oV 1 73 9, 823), (oAl 2, 824), (oAl 0, 825), (oIl 3, 826), (oI 1, 827), (oAdd, 828), (oScr xs n, 829), (oV 1 125 10, 832), (oCmpEq 1266, 835), (oI 0, 836), (oRI, 837)]),
  (837, [(oAl 1, 838), (oAl 0, 839), (oIl 3, 840), (oI 1, 841), (oAdd, 842), (oScr xs n, 843), (oV 1 74 9, 846), (oAl 2, 847), (oAl 0, 848), (oIl 3, 849), (oI 1, 850), (oAdd, 851), (oScr xs n, 852), (oV 1 126 10, 855), (oCmpEq 1266, 858), (oI 0, 859), (oRI, 860)]),
  (860, [(oAl 1, 861), (oV 0 75 9, 864), (oAl 2, 865), (oV 0 130 10, 868), (oCmpEq 1266, 871), (oI 0, 872), (oRI, 873)]),
  (873, [(oAl 1, 874), (oV 0 76 9, 877), (oAl 2, 878), (oV 0 131 10, 881), (oCmpEq 1266, 884), (oI 0, 885), (oRI, 886)]),
  (886, [(oAl 1, 887), (oAl 0, 888), (oIl 3, 889), (oI 1, 890), (oAdd, 891), (oScr xs n, 892), (oAl 0, 893), (oIl 3, 894), (oI 2, 895), (oAdd, 896), (oScr xs n, 897), (oIfEq 904, 900), (oI 1, 901), (oGo 905, 904)]),
  (904, [(oI 0, 905), (oGo 905, 905)]),
  (905, [(oV 2 77 9, 908), (oAl 2, 909), (oAl 0, 910), (oIl 3, 911), (oI 1, 912), (oAdd, 913), (oScr xs n, 914), (oAl 0, 915), (oIl 3, 916), (oI 2, 917), (oAdd, 918), (oScr xs n, 919), (oIfEq 926, 922), (oI 1, 923), (oGo 927, 926)]),
  (926, [(oI 0, 927), (oGo 927, 927)]),
  (927, [(oV 2 132 10, 930), (oCmpEq 1266, 933), (oI 0, 934), (oRI, 935)]),
  (935, [(oAl 1, 936), (oAl 0, 937), (oIl 3, 938), (oI 1, 939), (oAdd, 940), (oScr xs n, 941), (oV 1 78 9, 944), (oAl 2, 945), (oAl 0, 946), (oIl 3, 947), (oI 1, 948), (oAdd, 949), (oScr xs n, 950), (oV 1 134 10, 953), (oCmpEq 1266, 956), (oI 0, 957), (oRI, 958)]),
  (958, [(oAl 1, 959), (oV 0 79 9, 962), (oAl 2, 963), (oV 0 135 10, 966), (oCmpEq 1266, 969), (oI 0, 970), (oRI, 971)]),
  (971, [(oAl 1, 972), (oAl 0, 973), (oIl 3, 974), (oI 1, 975), (oAdd, 976), (oScr xs n, 977), (oAl 0, 978), (oIl 3, 979), (oI 2, 980), (oAdd, 981), (oScr xs n, 982), (oV 2 80 9, 985), (oAl 2, 986), (oAl 0, 987), (oIl 3, 988), (oI 1, 989), (oAdd, 990), (oScr xs n, 991), (oAl 0, 992), (oIl 3, 993), (oI 2, 994), (oAdd, 995), (oScr xs n, 996), (oV 2 136 10, 999), (oCmpEq 1266, 1002), (oI 0, 1003), (oRI, 1004)]),
  (1004, [(oAl 1, 1005), (oAl 0, 1006), (oIl 3, 1007), (oI 1, 1008), (oAdd, 1009), (oScr xs n, 1010), (oAl 0, 1011), (oIl 3, 1012), (oI 2, 1013), (oAdd, 1014), (oScr xs n, 1015), (oAl 0, 1016), (oIl 3, 1017), (oI 3, 1018), (oAdd, 1019), (oScr xs n, 1020), (oV 3 81 9, 1023), (oAl 2, 1024), (oAl 0, 1025), (oIl 3, 1026), (oI 1, 1027), (oAdd, 1028), (oScr xs n, 1029), (oAl 0, 1030), (oIl 3, 1031), (oI 2, 1032), (oAdd, 1033), (oScr xs n, 1034), (oAl 0, 1035), (oIl 3, 1036), (oI 3, 1037), (oAdd, 1038), (oScr xs n, 1039), (oV 3 139 10, 1042), (oCmpEq 1266, 1045), (oI 0, 1046), (oRI, 1047)]),
  (1047, [(oAl 1, 1048), (oAl 0, 1049), (oIl 3, 1050), (oI 1, 1051), (oAdd, 1052), (oScr xs n, 1053), (oV 1 82 9, 1056), (oAl 2, 1057), (oAl 0, 1058), (oIl 3, 1059), (oI 1, 1060), (oAdd, 1061), (oScr xs n, 1062), (oV 1 140 10, 1065), (oCmpEq 1266, 1068), (oI 0, 1069), (oRI, 1070)]),
  (1070, [(oAl 1, 1071), (oAl 0, 1072), (oIl 3, 1073), (oI 1, 1074), (oAdd, 1075), (oScr xs n, 1076), (oAl 0, 1077), (oIl 3, 1078), (oI 2, 1079), (oAdd, 1080), (oScr xs n, 1081), (oAl 0, 1082), (oIl 3, 1083), (oI 3, 1084), (oAdd, 1085), (oScr xs n, 1086), (oAl 0, 1087), (oIl 3, 1088), (oI 4, 1089), (oAdd, 1090), (oScr xs n, 1091), (oV 4 83 9, 1094), (oAl 2, 1095), (oAl 0, 1096), (oIl 3, 1097), (oI 1, 1098), (oAdd, 1099), (oScr xs n, 1100), (oAl 0, 1101), (oIl 3, 1102), (oI 2, 1103), (oAdd, 1104), (oScr xs n, 1105), (oAl 0, 1106), (oIl 3, 1107), (oI 3, 1108), (oAdd, 1109), (oScr xs n, 1110), (oAl 0, 1111), (oIl 3, 1112), (oI 4, 1113), (oAdd, 1114), (oScr xs n, 1115), (oV 4 142 10, 1118), (oCmpEq 1266, 1121), (oI 0, 1122), (oRI, 1123)]),
  (1123, [(oAl 1, 1124), (oAl 0, 1125), (oIl 3, 1126), (oI 1, 1127), (oAdd, 1128), (oScr xs n, 1129), (oAl 0, 1130), (oIl 3, 1131), (oI 2, 1132), (oAdd, 1133), (oScr xs n, 1134), (oAl 0, 1135), (oIl 3, 1136), (oI 3, 1137), (oAdd, 1138), (oScr xs n, 1139), (oV 3 84 9, 1142), (oAl 2, 1143), (oAl 0, 1144), (oIl 3, 1145), (oI 1, 1146), (oAdd, 1147), (oScr xs n, 1148), (oAl 0, 1149), (oIl 3, 1150), (oI 2, 1151), (oAdd, 1152), (oScr xs n, 1153), (oAl 0, 1154), (oIl 3, 1155), (oI 3, 1156), (oAdd, 1157), (oScr xs n, 1158), (oV 3 143 10, 1161), (oCmpEq 1266, 1164), (oI 0, 1165), (oRI, 1166)]),
  (1166, [(oAl 1, 1167), (oAl 0, 1168), (oIl 3, 1169), (oI 1, 1170), (oAdd, 1171), (oScr xs n, 1172), (oAl 0, 1173), (oIl 3, 1174), (oI 2, 1175), (oAdd, 1176), (oScr xs n, 1177), (oAl 0, 1178), (oIl 3, 1179), (oI 3, 1180), (oAdd, 1181), (oScr xs n, 1182), (oAl 0, 1183), (oIl 3, 1184), (oI 4, 1185), (oAdd, 1186), (oScr xs n, 1187), (oAl 0, 1188), (oIl 3, 1189), (oI 5, 1190), (oAdd, 1191), (oScr xs n, 1192), (oV 5 85 9, 1195), (oAl 2, 1196), (oAl 0, 1197), (oIl 3, 1198), (oI 1, 1199), (oAdd, 1200), (oScr xs n, 1201), (oAl 0, 1202), (oIl 3, 1203), (oI 2, 1204), (oAdd, 1205), (oScr xs n, 1206), (oAl 0, 1207), (oIl 3, 1208), (oI 3, 1209), (oAdd, 1210), (oScr xs n, 1211), (oAl 0, 1212), (oIl 3, 1213), (oI 4, 1214), (oAdd, 1215), (oScr xs n, 1216), (oAl 0, 1217), (oIl 3, 1218), (oI 5, 1219), (oAdd, 1220), (oScr xs n, 1221), (oV 5 144 10, 1224), (oCmpEq 1266, 1227), (oI 0, 1228), (oRI, 1229)]),
  (1229, [(oAl 1, 1230), (oAl 0, 1231), (oIl 3, 1232), (oI 1, 1233), (oAdd, 1234), (oScr xs n, 1235), (oV 1 86 9, 1238), (oAl 2, 1239), (oAl 0, 1240), (oIl 3, 1241), (oI 1, 1242), (oAdd, 1243), (oScr xs n, 1244), (oV 1 146 10, 1247), (oCmpEq 1266, 1250), (oI 0, 1251), (oRI, 1252)]),
  (1252, [(oAl 1, 1253), (oV 0 87 9, 1256), (oAl 2, 1257), (oV 0 147 10, 1260), (oJcmp, 1261), (oIfEq 1266, 1264), (oI 0, 1265), (oRI, 1266)]),
  (1266, [(oInc 3 6, 1269), (oGo 18, 1272)]),
  (1272, [(oI 1, 1273), (oRI, 1274)])]
def zmBl : List (List (Nat × zB)) := [B_X0_init, B_X0_enter, B_X1_init, B_X1_has, B_X1_latestWas, B_X1_add, B_X1_waits, B_X1_waiting, B_X1_firstWaiting, B_X1_fillOven, B_X1_ovensNeeded, B_X1_isSuspect, B_X1_poorUpTo, B_X1_poorFrom, B_X2_init, B_X2_has, B_X2_add, B_X2_isWarm, B_X2_ticksWarm, B_X2_mayPress, B_X2_leastWorn, B_X2_wear, B_X3_init, B_X3_add, B_X3_serve, B_X4_init, B_X4_seek, B_X4_load, B_X4_seekSecond, B_X4_fitting, B_X4_offer, B_X5_init, B_X5_add, B_X5_setGap, B_X5_settle, B_X5_fillPlace, B_X5_tryJob, B_X5_keepIfBetter, B_X6_init, B_X6_has, B_X6_add, B_X7_init, B_X7_found, B_X7_renew, B_X7_discard, B_X7_faultOf, B_X7_write, B_X7_move, B_X7_weight, B_X8_init, B_X8_trim, B_X8_share, B_X9_init, B_X9_profile, B_X9_die, B_X9_warm, B_X9_cool, B_X9_nitride, B_X9_about, B_X9_ready, B_X9_pass, B_X9_law, B_X9_press, B_X9_bar, B_X9_order, B_X9_wanted, B_X9_pattern, B_X9_account, B_X9_stock, B_X9_best, B_X9_job, B_X9_change, B_X9_late, B_X9_planned, B_X9_room, B_X9_age, B_X9_batches, B_X9_sample, B_X9_suspect, B_X9_held, B_X9_drift, B_X9_sheet, B_X9_lose, B_X9_put, B_X9_get, B_X9_copy, B_X9_count, B_X9_digest, B_X9_within, B_X9_isSheet, B_X9_isForm, B_X9_foresee, B_X9_paysMore, B_X10_init, B_X10_in, B_X10_isProfile, B_X10_isDie, B_X10_profile, B_X10_die, B_X10_warm, B_X10_cool, B_X10_nitride, B_X10_mayPress, B_X10_about, B_X10_ready, B_X10_pass, B_X10_law, B_X10_most, B_X10_findPattern, B_X10_lengthOf, B_X10_findBar, B_X10_press, B_X10_isBar, B_X10_bar, B_X10_order, B_X10_wanted, B_X10_pattern, B_X10_account, B_X10_stock, B_X10_best, B_X10_job, B_X10_change, B_X10_nextRow, B_X10_findOrder, B_X10_late, B_X10_planned, B_X10_room, B_X10_waits, B_X10_noneGone, B_X10_takes, B_X10_age, B_X10_batches, B_X10_sample, B_X10_isSuspect, B_X10_suspect, B_X10_held, B_X10_drift, B_X10_met, B_X10_isSheet, B_X10_sheet, B_X10_lose, B_X10_lacks, B_X10_put, B_X10_get, B_X10_copy, B_X10_waiting, B_X10_count, B_X10_digest, B_J9_floorDiv_7cf53, B_J9_max_7cf53, B_J9_min_7cf53]
def zmB (y : Nat) : List (Nat × zB) := zmBl.getD y []
