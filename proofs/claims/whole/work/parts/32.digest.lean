/-! digest -/
abbrev z31 (h : Int64) (v : Int32) : Int64 := 31 * h + v.toInt64
def zab3 (tk : Int32) (wa : Nat → Int32) (i : Int32) : Int32 := if wa i.toNatClampNeg = -1 then -1 else tk - wa i.toNatClampNeg
def zab4 (tk : Int32) (li sh wa : Nat → Int32) (i : Int32) : Int32 := if wa i.toNatClampNeg = -1 then 0 else if 3 ≤ tk - wa i.toNatClampNeg ∧ tk - wa i.toNatClampNeg ≤ 12 then (if li i.toNatClampNeg ≤ sh i.toNatClampNeg then 0 else 1) else 0
def zdD (tk : Int32) (li sh wa : Nat → Int32) : Nat → Int32 → Int64 → Int64
  | 0, _, h => h
  | r + 1, i, h => zdD tk li sh wa r (i + 1) (z31 (z31 (z31 h (sh i.toNatClampNeg)) (zab3 tk wa i)) (zab4 tk li sh wa i))
def zdB (go cu we ba : Nat → Int32) : Nat → Int32 → Int64 → Int64
  | 0, _, h => h
  | r + 1, i, h => zdB go cu we ba r (i + 1) (z31 (z31 (z31 (z31 h (go i.toNatClampNeg)) (cu i.toNatClampNeg)) (we i.toNatClampNeg)) (ba i.toNatClampNeg))
def zdA (ac : Nat → Int32) (h : Int64) : Int64 := z31 (z31 (z31 (z31 (z31 (z31 (z31 h (ac 0)) (ac 1)) (ac 2)) (ac 3)) (ac 4)) (ac 5)) (ac 6)
def zdO (ow : Nat → Int32) (p : Int32) : Nat → Int32 → Int64 → Int64
  | 0, _, h => h
  | r + 1, o, h => zdO ow p r (o + 1) (z31 h (ow (3 * p + o).toNatClampNeg))
def zdP (os ow : Nat → Int32) : Nat → Int32 → Int64 → Int64
  | 0, _, h => h
  | r + 1, p, h => zdP os ow r (p + 1) (zdO ow p (os p.toNatClampNeg).toNatClampNeg 0 h)
theorem w_about9_2 (d : Nat) (I : Nat → Nat → Int32) (J : Nat → Nat → Int64) (i : Int32) (Q : Option Value → zM → Prop) (hn : I 10 5 ≤ 12) (hi : 0 ≤ i ∧ i < I 10 5) (l : Q (some (.int (I 13 i.toNatClampNeg))) (I, J, zR, 81)) : zT (d + 4) 58 81 [.ref 0, .int i, .int (2)] (I, J, zR, 81) Q := by
  have hb : 0 ≤ i ∧ i < 12 := by clear l; grind
  exact w_X9_about d I J i (2) Q rfl rfl rfl rfl rfl rfl rfl (fun _ _ => hb) (fun _ _ => hb) (fun _ _ => hb) (fun _ _ => hb) (fun _ _ _ => hb) (fun _ _ => hb) (fun _ _ _ => hb) (fun _ _ _ _ => hb) (fun _ _ _ _ => hb) (fun _ _ => hb) (fun _ q => absurd q (by decide)) (fun _ q => absurd q (by decide)) (fun _ q => absurd q (by decide)) (fun _ _ => l) (fun _ q => absurd q (by decide)) (fun _ q => absurd q (by decide)) (fun _ q => absurd q (by decide)) (fun _ q => absurd q (by decide)) (fun _ q => absurd q (by decide)) (fun _ q => absurd q (by decide)) (fun _ q => absurd q (by decide)) (fun q => absurd hi q)
theorem w_about9_3 (d : Nat) (I : Nat → Nat → Int32) (J : Nat → Nat → Int64) (i : Int32) (Q : Option Value → zM → Prop) (hn : I 10 5 ≤ 12) (hi : 0 ≤ i ∧ i < I 10 5) (l : Q (some (.int (zab3 (I 0 11) (I 15) i))) (I, J, zR, 81)) : zT (d + 4) 58 81 [.ref 0, .int i, .int (2 + 1)] (I, J, zR, 81) Q := by
  have hb : 0 ≤ i ∧ i < 12 := by clear l; grind
  exact w_X9_about d I J i (2 + 1) Q rfl rfl rfl rfl rfl rfl rfl (fun _ _ => hb) (fun _ _ => hb) (fun _ _ => hb) (fun _ _ => hb) (fun _ _ _ => hb) (fun _ _ => hb) (fun _ _ _ => hb) (fun _ _ _ _ => hb) (fun _ _ _ _ => hb) (fun _ _ => hb) (fun _ q => absurd q (by decide)) (fun _ q => absurd q (by decide)) (fun _ q => absurd q (by decide)) (fun _ q => absurd q (by decide)) (fun _ _ q => by unfold zab3 at l; rw [if_pos q] at l; exact l) (fun _ _ q => by unfold zab3 at l; rw [if_neg q] at l; exact l) (fun _ q => absurd q (by decide)) (fun _ q => absurd q (by decide)) (fun _ q => absurd q (by decide)) (fun _ q => absurd q (by decide)) (fun _ q => absurd q (by decide)) (fun q => absurd hi q)
theorem w_about9_4 (d : Nat) (I : Nat → Nat → Int32) (J : Nat → Nat → Int64) (i : Int32) (Q : Option Value → zM → Prop) (hn : I 10 5 ≤ 12) (hi : 0 ≤ i ∧ i < I 10 5) (l : Q (some (.int (zab4 (I 0 11) (I 12) (I 13) (I 15) i))) (I, J, zR, 81)) : zT (d + 4) 58 81 [.ref 0, .int i, .int (2 + 1 + 1)] (I, J, zR, 81) Q := by
  have hb : 0 ≤ i ∧ i < 12 := by clear l; grind
  exact w_X9_about d I J i (2 + 1 + 1) Q rfl rfl rfl rfl rfl rfl rfl (fun _ _ => hb) (fun _ _ => hb) (fun _ _ => hb) (fun _ _ => hb) (fun _ _ _ => hb) (fun _ _ => hb) (fun _ _ _ => hb) (fun _ _ _ _ => hb) (fun _ _ _ _ => hb) (fun _ _ => hb) (fun _ q => absurd q (by decide)) (fun _ q => absurd q (by decide)) (fun _ q => absurd q (by decide)) (fun _ q => absurd q (by decide)) (fun _ q => absurd q (by decide)) (fun _ q => absurd q (by decide)) (fun _ _ q => by unfold zab4 at l; rw [if_pos q] at l; exact l) (fun _ _ q1 q2 q3 => by unfold zab4 at l; rw [if_neg q1, if_pos q2, if_pos q3] at l; exact l) (fun _ _ q1 q2 q3 => by unfold zab4 at l; rw [if_neg q1, if_pos q2, if_neg q3] at l; exact l) (fun _ _ q1 q2 => by unfold zab4 at l; rw [if_neg q1, if_neg q2] at l; exact l) (fun _ q => absurd q (by decide)) (fun q => absurd hi q)
theorem w_about10_2 (d : Nat) (I : Nat → Nat → Int32) (J : Nat → Nat → Int64) (i : Int32) (Q : Option Value → zM → Prop) {n tk : Int32} {li sh wa : Nat → Int32} (e53 : I 53 = li) (e54 : I 54 = sh) (e56 : I 56 = wa) (et : I 46 12 = tk) (en : I 46 6 = n) (hn : 0 ≤ n ∧ n ≤ 12) (hi : 0 ≤ i ∧ i < n) (l : Q (some (.int (sh i.toNatClampNeg))) (I, J, zR, 81)) : zT (d + 3) 103 81 [.ref 46, .int i, .int (2)] (I, J, zR, 81) Q := by
  have hb : 0 ≤ i ∧ i < 12 := by clear l; grind
  exact w_X10_about d I J i (2) Q rfl e53 e54 rfl e56 et en (fun _ _ => hb) (fun _ _ => hb) (fun _ _ => hb) (fun _ _ => hb) (fun _ _ _ => hb) (fun _ _ => hb) (fun _ _ _ => hb) (fun _ _ _ _ => hb) (fun _ _ _ _ => hb) (fun _ _ => hb) (fun _ q => absurd q (by decide)) (fun _ q => absurd q (by decide)) (fun _ q => absurd q (by decide)) (fun _ _ => l) (fun _ q => absurd q (by decide)) (fun _ q => absurd q (by decide)) (fun _ q => absurd q (by decide)) (fun _ q => absurd q (by decide)) (fun _ q => absurd q (by decide)) (fun _ q => absurd q (by decide)) (fun _ q => absurd q (by decide)) (fun q => absurd (show 0 ≤ i ∧ i ≤ n - 1 by clear l q; grind) q)
theorem w_about10_3 (d : Nat) (I : Nat → Nat → Int32) (J : Nat → Nat → Int64) (i : Int32) (Q : Option Value → zM → Prop) {n tk : Int32} {li sh wa : Nat → Int32} (e53 : I 53 = li) (e54 : I 54 = sh) (e56 : I 56 = wa) (et : I 46 12 = tk) (en : I 46 6 = n) (hn : 0 ≤ n ∧ n ≤ 12) (hi : 0 ≤ i ∧ i < n) (l : Q (some (.int (zab3 tk wa i))) (I, J, zR, 81)) : zT (d + 3) 103 81 [.ref 46, .int i, .int (2 + 1)] (I, J, zR, 81) Q := by
  have hb : 0 ≤ i ∧ i < 12 := by clear l; grind
  exact w_X10_about d I J i (2 + 1) Q rfl e53 e54 rfl e56 et en (fun _ _ => hb) (fun _ _ => hb) (fun _ _ => hb) (fun _ _ => hb) (fun _ _ _ => hb) (fun _ _ => hb) (fun _ _ _ => hb) (fun _ _ _ _ => hb) (fun _ _ _ _ => hb) (fun _ _ => hb) (fun _ q => absurd q (by decide)) (fun _ q => absurd q (by decide)) (fun _ q => absurd q (by decide)) (fun _ q => absurd q (by decide)) (fun _ _ q => by unfold zab3 at l; rw [if_neg q] at l; exact l) (fun _ _ q => by unfold zab3 at l; rw [if_pos q] at l; exact l) (fun _ q => absurd q (by decide)) (fun _ q => absurd q (by decide)) (fun _ q => absurd q (by decide)) (fun _ q => absurd q (by decide)) (fun _ q => absurd q (by decide)) (fun q => absurd (show 0 ≤ i ∧ i ≤ n - 1 by clear l q; grind) q)
theorem w_about10_4 (d : Nat) (I : Nat → Nat → Int32) (J : Nat → Nat → Int64) (i : Int32) (Q : Option Value → zM → Prop) {n tk : Int32} {li sh wa : Nat → Int32} (e53 : I 53 = li) (e54 : I 54 = sh) (e56 : I 56 = wa) (et : I 46 12 = tk) (en : I 46 6 = n) (hn : 0 ≤ n ∧ n ≤ 12) (hi : 0 ≤ i ∧ i < n) (l : Q (some (.int (zab4 tk li sh wa i))) (I, J, zR, 81)) : zT (d + 3) 103 81 [.ref 46, .int i, .int (2 + 1 + 1)] (I, J, zR, 81) Q := by
  have hb : 0 ≤ i ∧ i < 12 := by clear l; grind
  exact w_X10_about d I J i (2 + 1 + 1) Q rfl e53 e54 rfl e56 et en (fun _ _ => hb) (fun _ _ => hb) (fun _ _ => hb) (fun _ _ => hb) (fun _ _ _ => hb) (fun _ _ => hb) (fun _ _ _ => hb) (fun _ _ _ _ => hb) (fun _ _ _ _ => hb) (fun _ _ => hb) (fun _ q => absurd q (by decide)) (fun _ q => absurd q (by decide)) (fun _ q => absurd q (by decide)) (fun _ q => absurd q (by decide)) (fun _ q => absurd q (by decide)) (fun _ q => absurd q (by decide)) (fun _ _ q => by unfold zab4 at l; rw [if_pos q] at l; exact l) (fun _ _ q1 q2 q3 => by unfold zab4 at l; rw [if_neg q1, if_pos q2, if_pos q3] at l; exact l) (fun _ _ q1 q2 q3 => by unfold zab4 at l; rw [if_neg q1, if_pos q2, if_neg q3] at l; exact l) (fun _ _ q1 q2 => by unfold zab4 at l; rw [if_neg q1, if_neg q2] at l; exact l) (fun _ q => absurd q (by decide)) (fun q => absurd (show 0 ≤ i ∧ i ≤ n - 1 by clear l q; grind) q)
theorem w_bar9_3 (d : Nat) (I : Nat → Nat → Int32) (J : Nat → Nat → Int64) (i : Int32) (Q : Option Value → zM → Prop) (hn : I 22 10 ≤ 200) (hi : 0 ≤ i ∧ i < I 22 10) (l : Q (some (.int (I 26 i.toNatClampNeg))) (I, J, zR, 81)) : zT (d + 2) 63 81 [.ref 0, .int i, .int (3)] (I, J, zR, 81) Q := by
  have hb : 0 ≤ i ∧ i < 200 := by clear l; grind
  exact w_X9_bar d I J i (3) Q rfl rfl rfl rfl rfl rfl rfl rfl (fun _ _ => hb) (fun _ _ => hb) (fun _ _ => hb) (fun _ _ => hb) (fun _ _ => hb) (fun _ _ => hb) (fun _ _ => hb) (fun _ q => absurd q (by decide)) (fun _ q => absurd q (by decide)) (fun _ q => absurd q (by decide)) (fun _ q => absurd q (by decide)) (fun _ _ => l) (fun _ q => absurd q (by decide)) (fun _ q => absurd q (by decide)) (fun _ q => absurd q (by decide)) (fun q => absurd hi q)
theorem w_bar9_4 (d : Nat) (I : Nat → Nat → Int32) (J : Nat → Nat → Int64) (i : Int32) (Q : Option Value → zM → Prop) (hn : I 22 10 ≤ 200) (hi : 0 ≤ i ∧ i < I 22 10) (l : Q (some (.int (I 27 i.toNatClampNeg))) (I, J, zR, 81)) : zT (d + 2) 63 81 [.ref 0, .int i, .int (3 + 1)] (I, J, zR, 81) Q := by
  have hb : 0 ≤ i ∧ i < 200 := by clear l; grind
  exact w_X9_bar d I J i (3 + 1) Q rfl rfl rfl rfl rfl rfl rfl rfl (fun _ _ => hb) (fun _ _ => hb) (fun _ _ => hb) (fun _ _ => hb) (fun _ _ => hb) (fun _ _ => hb) (fun _ _ => hb) (fun _ q => absurd q (by decide)) (fun _ q => absurd q (by decide)) (fun _ q => absurd q (by decide)) (fun _ q => absurd q (by decide)) (fun _ q => absurd q (by decide)) (fun _ _ => l) (fun _ q => absurd q (by decide)) (fun _ q => absurd q (by decide)) (fun q => absurd hi q)
theorem w_bar9_5 (d : Nat) (I : Nat → Nat → Int32) (J : Nat → Nat → Int64) (i : Int32) (Q : Option Value → zM → Prop) (hn : I 22 10 ≤ 200) (hi : 0 ≤ i ∧ i < I 22 10) (l : Q (some (.int (I 28 i.toNatClampNeg))) (I, J, zR, 81)) : zT (d + 2) 63 81 [.ref 0, .int i, .int (3 + 1 + 1)] (I, J, zR, 81) Q := by
  have hb : 0 ≤ i ∧ i < 200 := by clear l; grind
  exact w_X9_bar d I J i (3 + 1 + 1) Q rfl rfl rfl rfl rfl rfl rfl rfl (fun _ _ => hb) (fun _ _ => hb) (fun _ _ => hb) (fun _ _ => hb) (fun _ _ => hb) (fun _ _ => hb) (fun _ _ => hb) (fun _ q => absurd q (by decide)) (fun _ q => absurd q (by decide)) (fun _ q => absurd q (by decide)) (fun _ q => absurd q (by decide)) (fun _ q => absurd q (by decide)) (fun _ q => absurd q (by decide)) (fun _ _ => l) (fun _ q => absurd q (by decide)) (fun q => absurd hi q)
theorem w_bar9_6 (d : Nat) (I : Nat → Nat → Int32) (J : Nat → Nat → Int64) (i : Int32) (Q : Option Value → zM → Prop) (hn : I 22 10 ≤ 200) (hi : 0 ≤ i ∧ i < I 22 10) (l : Q (some (.int (I 29 i.toNatClampNeg))) (I, J, zR, 81)) : zT (d + 2) 63 81 [.ref 0, .int i, .int (3 + 1 + 1 + 1)] (I, J, zR, 81) Q := by
  have hb : 0 ≤ i ∧ i < 200 := by clear l; grind
  exact w_X9_bar d I J i (3 + 1 + 1 + 1) Q rfl rfl rfl rfl rfl rfl rfl rfl (fun _ _ => hb) (fun _ _ => hb) (fun _ _ => hb) (fun _ _ => hb) (fun _ _ => hb) (fun _ _ => hb) (fun _ _ => hb) (fun _ q => absurd q (by decide)) (fun _ q => absurd q (by decide)) (fun _ q => absurd q (by decide)) (fun _ q => absurd q (by decide)) (fun _ q => absurd q (by decide)) (fun _ q => absurd q (by decide)) (fun _ q => absurd q (by decide)) (fun _ _ => l) (fun q => absurd hi q)
theorem w_bar10_3 (d : Nat) (I : Nat → Nat → Int32) (J : Nat → Nat → Int64) (i : Int32) (Q : Option Value → zM → Prop) {n : Int32} {f : Nat → Int32} (e : I 60 = f) (en : I 46 13 = n) (hn : 0 ≤ n ∧ n ≤ 200) (hi : 0 ≤ i ∧ i < n) (l : Q (some (.int (f i.toNatClampNeg))) (I, J, zR, 81)) : zT (d + 3) 113 81 [.ref 46, .int i, .int (3)] (I, J, zR, 81) Q := by
  have hb : 0 ≤ i ∧ i < 200 := by clear l; grind
  exact w_X10_bar d I J i (3) Q rfl rfl rfl e rfl rfl rfl en (fun _ _ => hb) (fun _ _ => hb) (fun _ _ => hb) (fun _ _ => hb) (fun _ _ => hb) (fun _ _ => hb) (fun _ _ => hb) (fun _ q => absurd q (by decide)) (fun _ q => absurd q (by decide)) (fun _ q => absurd q (by decide)) (fun _ q => absurd q (by decide)) (fun _ _ => l) (fun _ q => absurd q (by decide)) (fun _ q => absurd q (by decide)) (fun _ q => absurd q (by decide)) (fun q => absurd (show 0 ≤ i ∧ i ≤ n - 1 by clear l q; grind) q)
theorem w_bar10_4 (d : Nat) (I : Nat → Nat → Int32) (J : Nat → Nat → Int64) (i : Int32) (Q : Option Value → zM → Prop) {n : Int32} {f : Nat → Int32} (e : I 61 = f) (en : I 46 13 = n) (hn : 0 ≤ n ∧ n ≤ 200) (hi : 0 ≤ i ∧ i < n) (l : Q (some (.int (f i.toNatClampNeg))) (I, J, zR, 81)) : zT (d + 3) 113 81 [.ref 46, .int i, .int (3 + 1)] (I, J, zR, 81) Q := by
  have hb : 0 ≤ i ∧ i < 200 := by clear l; grind
  exact w_X10_bar d I J i (3 + 1) Q rfl rfl rfl rfl e rfl rfl en (fun _ _ => hb) (fun _ _ => hb) (fun _ _ => hb) (fun _ _ => hb) (fun _ _ => hb) (fun _ _ => hb) (fun _ _ => hb) (fun _ q => absurd q (by decide)) (fun _ q => absurd q (by decide)) (fun _ q => absurd q (by decide)) (fun _ q => absurd q (by decide)) (fun _ q => absurd q (by decide)) (fun _ _ => l) (fun _ q => absurd q (by decide)) (fun _ q => absurd q (by decide)) (fun q => absurd (show 0 ≤ i ∧ i ≤ n - 1 by clear l q; grind) q)
theorem w_bar10_5 (d : Nat) (I : Nat → Nat → Int32) (J : Nat → Nat → Int64) (i : Int32) (Q : Option Value → zM → Prop) {n : Int32} {f : Nat → Int32} (e : I 62 = f) (en : I 46 13 = n) (hn : 0 ≤ n ∧ n ≤ 200) (hi : 0 ≤ i ∧ i < n) (l : Q (some (.int (f i.toNatClampNeg))) (I, J, zR, 81)) : zT (d + 3) 113 81 [.ref 46, .int i, .int (3 + 1 + 1)] (I, J, zR, 81) Q := by
  have hb : 0 ≤ i ∧ i < 200 := by clear l; grind
  exact w_X10_bar d I J i (3 + 1 + 1) Q rfl rfl rfl rfl rfl e rfl en (fun _ _ => hb) (fun _ _ => hb) (fun _ _ => hb) (fun _ _ => hb) (fun _ _ => hb) (fun _ _ => hb) (fun _ _ => hb) (fun _ q => absurd q (by decide)) (fun _ q => absurd q (by decide)) (fun _ q => absurd q (by decide)) (fun _ q => absurd q (by decide)) (fun _ q => absurd q (by decide)) (fun _ q => absurd q (by decide)) (fun _ _ => l) (fun _ q => absurd q (by decide)) (fun q => absurd (show 0 ≤ i ∧ i ≤ n - 1 by clear l q; grind) q)
theorem w_bar10_6 (d : Nat) (I : Nat → Nat → Int32) (J : Nat → Nat → Int64) (i : Int32) (Q : Option Value → zM → Prop) {n : Int32} {f : Nat → Int32} (e : I 63 = f) (en : I 46 13 = n) (hn : 0 ≤ n ∧ n ≤ 200) (hi : 0 ≤ i ∧ i < n) (l : Q (some (.int (f i.toNatClampNeg))) (I, J, zR, 81)) : zT (d + 3) 113 81 [.ref 46, .int i, .int (3 + 1 + 1 + 1)] (I, J, zR, 81) Q := by
  have hb : 0 ≤ i ∧ i < 200 := by clear l; grind
  exact w_X10_bar d I J i (3 + 1 + 1 + 1) Q rfl rfl rfl rfl rfl rfl e en (fun _ _ => hb) (fun _ _ => hb) (fun _ _ => hb) (fun _ _ => hb) (fun _ _ => hb) (fun _ _ => hb) (fun _ _ => hb) (fun _ q => absurd q (by decide)) (fun _ q => absurd q (by decide)) (fun _ q => absurd q (by decide)) (fun _ q => absurd q (by decide)) (fun _ q => absurd q (by decide)) (fun _ q => absurd q (by decide)) (fun _ q => absurd q (by decide)) (fun _ _ => l) (fun q => absurd (show 0 ≤ i ∧ i ≤ n - 1 by clear l q; grind) q)
theorem w_acc9_0 (d : Nat) (I : Nat → Nat → Int32) (J : Nat → Nat → Int64) (Q : Option Value → zM → Prop) (l : Q (some (.int (I 33 0))) (I, J, zR, 81)) : zT (d + 1) 67 81 [.ref 0, .int (0)] (I, J, zR, 81) Q :=
  w_X9_account d I J (0) Q rfl rfl rfl rfl rfl rfl rfl (fun q => absurd q (by decide)) (fun _ => l) (fun q => absurd q (by decide)) (fun q => absurd q (by decide)) (fun q => absurd q (by decide)) (fun q => absurd q (by decide)) (fun q => absurd q (by decide)) (fun q => absurd q (by decide))
theorem w_acc9_1 (d : Nat) (I : Nat → Nat → Int32) (J : Nat → Nat → Int64) (Q : Option Value → zM → Prop) (l : Q (some (.int (I 33 1))) (I, J, zR, 81)) : zT (d + 1) 67 81 [.ref 0, .int (0 + 1)] (I, J, zR, 81) Q :=
  w_X9_account d I J (0 + 1) Q rfl rfl rfl rfl rfl rfl rfl (fun q => absurd q (by decide)) (fun q => absurd q (by decide)) (fun _ => l) (fun q => absurd q (by decide)) (fun q => absurd q (by decide)) (fun q => absurd q (by decide)) (fun q => absurd q (by decide)) (fun q => absurd q (by decide))
theorem w_acc9_2 (d : Nat) (I : Nat → Nat → Int32) (J : Nat → Nat → Int64) (Q : Option Value → zM → Prop) (l : Q (some (.int (I 33 2))) (I, J, zR, 81)) : zT (d + 1) 67 81 [.ref 0, .int (0 + 1 + 1)] (I, J, zR, 81) Q :=
  w_X9_account d I J (0 + 1 + 1) Q rfl rfl rfl rfl rfl rfl rfl (fun q => absurd q (by decide)) (fun q => absurd q (by decide)) (fun q => absurd q (by decide)) (fun _ => l) (fun q => absurd q (by decide)) (fun q => absurd q (by decide)) (fun q => absurd q (by decide)) (fun q => absurd q (by decide))
theorem w_acc9_3 (d : Nat) (I : Nat → Nat → Int32) (J : Nat → Nat → Int64) (Q : Option Value → zM → Prop) (l : Q (some (.int (I 33 3))) (I, J, zR, 81)) : zT (d + 1) 67 81 [.ref 0, .int (0 + 1 + 1 + 1)] (I, J, zR, 81) Q :=
  w_X9_account d I J (0 + 1 + 1 + 1) Q rfl rfl rfl rfl rfl rfl rfl (fun q => absurd q (by decide)) (fun q => absurd q (by decide)) (fun q => absurd q (by decide)) (fun q => absurd q (by decide)) (fun _ => l) (fun q => absurd q (by decide)) (fun q => absurd q (by decide)) (fun q => absurd q (by decide))
theorem w_acc9_4 (d : Nat) (I : Nat → Nat → Int32) (J : Nat → Nat → Int64) (Q : Option Value → zM → Prop) (l : Q (some (.int (I 33 4))) (I, J, zR, 81)) : zT (d + 1) 67 81 [.ref 0, .int (0 + 1 + 1 + 1 + 1)] (I, J, zR, 81) Q :=
  w_X9_account d I J (0 + 1 + 1 + 1 + 1) Q rfl rfl rfl rfl rfl rfl rfl (fun q => absurd q (by decide)) (fun q => absurd q (by decide)) (fun q => absurd q (by decide)) (fun q => absurd q (by decide)) (fun q => absurd q (by decide)) (fun _ => l) (fun q => absurd q (by decide)) (fun q => absurd q (by decide))
theorem w_acc9_5 (d : Nat) (I : Nat → Nat → Int32) (J : Nat → Nat → Int64) (Q : Option Value → zM → Prop) (l : Q (some (.int (I 33 5))) (I, J, zR, 81)) : zT (d + 1) 67 81 [.ref 0, .int (0 + 1 + 1 + 1 + 1 + 1)] (I, J, zR, 81) Q :=
  w_X9_account d I J (0 + 1 + 1 + 1 + 1 + 1) Q rfl rfl rfl rfl rfl rfl rfl (fun q => absurd q (by decide)) (fun q => absurd q (by decide)) (fun q => absurd q (by decide)) (fun q => absurd q (by decide)) (fun q => absurd q (by decide)) (fun q => absurd q (by decide)) (fun _ => l) (fun q => absurd q (by decide))
theorem w_acc9_6 (d : Nat) (I : Nat → Nat → Int32) (J : Nat → Nat → Int64) (Q : Option Value → zM → Prop) (l : Q (some (.int (I 33 6))) (I, J, zR, 81)) : zT (d + 1) 67 81 [.ref 0, .int (0 + 1 + 1 + 1 + 1 + 1 + 1)] (I, J, zR, 81) Q :=
  w_X9_account d I J (0 + 1 + 1 + 1 + 1 + 1 + 1) Q rfl rfl rfl rfl rfl rfl rfl (fun q => absurd q (by decide)) (fun q => absurd q (by decide)) (fun q => absurd q (by decide)) (fun q => absurd q (by decide)) (fun q => absurd q (by decide)) (fun q => absurd q (by decide)) (fun q => absurd q (by decide)) (fun _ => l)
theorem w_acc10_0 (d : Nat) (I : Nat → Nat → Int32) (J : Nat → Nat → Int64) (Q : Option Value → zM → Prop) {ac : Nat → Int32} (e : zRa ac (J 65)) (l : Q (some (.int (ac 0))) (I, J, zR, 81)) : zT (d + 2) 117 81 [.ref 46, .int (0)] (I, J, zR, 81) Q :=
  w_X10_account d I J (0) Q rfl (fun _ => by decide) (fun _ => by rw [← e 0 (by decide)] at l; exact l) (fun q => absurd (by decide) q)
theorem w_acc10_1 (d : Nat) (I : Nat → Nat → Int32) (J : Nat → Nat → Int64) (Q : Option Value → zM → Prop) {ac : Nat → Int32} (e : zRa ac (J 65)) (l : Q (some (.int (ac 1))) (I, J, zR, 81)) : zT (d + 2) 117 81 [.ref 46, .int (0 + 1)] (I, J, zR, 81) Q :=
  w_X10_account d I J (0 + 1) Q rfl (fun _ => by decide) (fun _ => by rw [← e 1 (by decide)] at l; exact l) (fun q => absurd (by decide) q)
theorem w_acc10_2 (d : Nat) (I : Nat → Nat → Int32) (J : Nat → Nat → Int64) (Q : Option Value → zM → Prop) {ac : Nat → Int32} (e : zRa ac (J 65)) (l : Q (some (.int (ac 2))) (I, J, zR, 81)) : zT (d + 2) 117 81 [.ref 46, .int (0 + 1 + 1)] (I, J, zR, 81) Q :=
  w_X10_account d I J (0 + 1 + 1) Q rfl (fun _ => by decide) (fun _ => by rw [← e 2 (by decide)] at l; exact l) (fun q => absurd (by decide) q)
theorem w_acc10_3 (d : Nat) (I : Nat → Nat → Int32) (J : Nat → Nat → Int64) (Q : Option Value → zM → Prop) {ac : Nat → Int32} (e : zRa ac (J 65)) (l : Q (some (.int (ac 3))) (I, J, zR, 81)) : zT (d + 2) 117 81 [.ref 46, .int (0 + 1 + 1 + 1)] (I, J, zR, 81) Q :=
  w_X10_account d I J (0 + 1 + 1 + 1) Q rfl (fun _ => by decide) (fun _ => by rw [← e 3 (by decide)] at l; exact l) (fun q => absurd (by decide) q)
theorem w_acc10_4 (d : Nat) (I : Nat → Nat → Int32) (J : Nat → Nat → Int64) (Q : Option Value → zM → Prop) {ac : Nat → Int32} (e : zRa ac (J 65)) (l : Q (some (.int (ac 4))) (I, J, zR, 81)) : zT (d + 2) 117 81 [.ref 46, .int (0 + 1 + 1 + 1 + 1)] (I, J, zR, 81) Q :=
  w_X10_account d I J (0 + 1 + 1 + 1 + 1) Q rfl (fun _ => by decide) (fun _ => by rw [← e 4 (by decide)] at l; exact l) (fun q => absurd (by decide) q)
theorem w_acc10_5 (d : Nat) (I : Nat → Nat → Int32) (J : Nat → Nat → Int64) (Q : Option Value → zM → Prop) {ac : Nat → Int32} (e : zRa ac (J 65)) (l : Q (some (.int (ac 5))) (I, J, zR, 81)) : zT (d + 2) 117 81 [.ref 46, .int (0 + 1 + 1 + 1 + 1 + 1)] (I, J, zR, 81) Q :=
  w_X10_account d I J (0 + 1 + 1 + 1 + 1 + 1) Q rfl (fun _ => by decide) (fun _ => by rw [← e 5 (by decide)] at l; exact l) (fun q => absurd (by decide) q)
theorem w_acc10_6 (d : Nat) (I : Nat → Nat → Int32) (J : Nat → Nat → Int64) (Q : Option Value → zM → Prop) {ac : Nat → Int32} (e : zRa ac (J 65)) (l : Q (some (.int (ac 6))) (I, J, zR, 81)) : zT (d + 2) 117 81 [.ref 46, .int (0 + 1 + 1 + 1 + 1 + 1 + 1)] (I, J, zR, 81) Q :=
  w_X10_account d I J (0 + 1 + 1 + 1 + 1 + 1 + 1) Q rfl (fun _ => by decide) (fun _ => by rw [← e 6 (by decide)] at l; exact l) (fun q => absurd (by decide) q)
def zdg (I : Nat → Nat → Int32) : Int64 := zdP (I 7) (I 9) (I 1 4).toNatClampNeg 0 (zdA (I 33) (zdB (I 26) (I 27) (I 28) (I 29) (I 22 10).toNatClampNeg 0 (zdD (I 0 11) (I 12) (I 13) (I 15) (I 10 5).toNatClampNeg 0 (z31 (z31 (z31 (z31 (z31 (z31 (z31 (17) (I 1 4)) (I 10 5)) (I 0 11)) (I 22 10)) (I 35 1)) (I 0 14)) (zwtF (I 26) (I 29) (I 22 10).toNatClampNeg 0 0)))))
set_option maxHeartbeats 4000000 in
theorem w_digest9 (I : Nat → Nat → Int32) (J : Nat → Nat → Int64) (hR : zRel I J) (Q : Option Value → zM → Prop) (h : Q (some (.long (zdg I))) (I, J, zR, 81)) : zT 60 87 81 [.ref 0] (I, J, zR, 81) Q := by
  obtain ⟨hp, hd, ho, hl, hb, hk, hq, ha, hs, hj, hc, hh, ht⟩ := id hR
  have p2 := hp.2.1
  have d2 := hd.2.1
  have b2 := hb.2.1
  have o2 := ho.2.1
  refine ⟨rfl, fun E At hE hC => ?_⟩
  replace hC : ∀ pc st L M', zX 81 E Q At (zlk B_X9_digest pc) st L M' → At pc st L M' := hC
  have oin : ∀ (p : Int32) (hp1 : 0 ≤ p ∧ p < I 1 4) (r : Nat) (o : Int32) (x : Int64), 0 ≤ o → (I 7 p.toNatClampNeg).toNatClampNeg = o.toNatClampNeg + r → (∀ j : Int32, At 221 [] [some (.ref 0), some (.long (zdO (I 9) p r o x)), none, some (.int (p)), some (.int j)] (I, J, zR, 81)) → At 186 [] [some (.ref 0), some (.long (x)), none, some (.int (p)), some (.int o)] (I, J, zR, 81) := by
    intro p hp1 r
    have q3 := o2 p.toNatClampNeg
    have hp8 : 0 ≤ p ∧ p < 8 := by clear hE hC hR hp hd ho hl hb hk hq ha hs hj hc hh ht h; grind
    induction r with
    | zero =>
      intro o x h0 hr hA
      have hl2 : I 7 p.toNatClampNeg ≤ o := zlast h0 q3.1 hr
      refine hC 186 [] [some (.ref 0), some (.long (x)), none, some (.int (p)), some (.int o)] _ ?_
      refine And.intro (zvp hp8 rfl) ?_
      exact And.intro (fun _ => hA o) (fun qz => absurd hl2 qz)
    | succ r ih =>
      intro o x h0 hr hA
      obtain ⟨h1, h2, h3⟩ := znext h0 (n := I 7 p.toNatClampNeg) (by clear hE hC hR hp hd ho hl hb hk hq ha hs hj hc hh ht h ih hA o2; grind) hr
      have hno : ¬ I 7 p.toNatClampNeg ≤ o := by clear hE hC hR hp hd ho hl hb hk hq ha hs hj hc hh ht h ih hA o2; grind
      have c1 : 0 ≤ o ∧ o ≤ I 7 p.toNatClampNeg - 1 := by clear hE hC hR hp hd ho hl hb hk hq ha hs hj hc hh ht h ih hA o2; grind
      have c2 : 0 ≤ o ∧ o ≤ 2 := by clear hE hC hR hp hd ho hl hb hk hq ha hs hj hc hh ht h ih hA o2; grind
      refine hC 186 [] [some (.ref 0), some (.long (x)), none, some (.int (p)), some (.int o)] _ ?_
      refine And.intro (zvp hp8 rfl) ?_
      refine And.intro (fun qz => absurd qz hno) (fun _ => ?_)
      refine hE _ _ _ _ _ (w_X9_wanted 57 I J p o _ rfl rfl rfl (fun _ => hp8) (fun _ _ => zb24 hp1 p2.2 c2) (fun _ _ => ?_) (fun _ q => absurd c1 q) (fun q => absurd hp1 q))
      rw [Int32.mul_comm p 3]
      exact ih (o + 1) _ h2 h3 hA
  have oout : ∀ (r : Nat) (p : Int32) (x : Int64) (w : Option Value), 0 ≤ p → (I 1 4).toNatClampNeg = p.toNatClampNeg + r → Q (some (.long (zdP (I 7) (I 9) r p x))) (I, J, zR, 81) → At 172 [] [some (.ref 0), some (.long (x)), none, some (.int (p)), w] (I, J, zR, 81) := by
    intro r
    induction r with
    | zero =>
      intro p x w h0 hr hA
      have hl2 : I 1 4 ≤ p := zlast h0 p2.1 hr
      refine hC 172 [] [some (.ref 0), some (.long (x)), none, some (.int (p)), w] _ ?_
      refine And.intro (fun _ => ?_) (fun qz => absurd hl2 qz)
      exact hC 227 [] [some (.ref 0), some (.long (x)), none, some (.int (p)), w] _ hA
    | succ r ih =>
      intro p x w h0 hr hA
      obtain ⟨h1, h2, h3⟩ := znext h0 (n := I 1 4) (by clear hE hC hR hp hd ho hl hb hk hq ha hs hj hc hh ht h ih hA o2 oin; grind) hr
      have hno : ¬ I 1 4 ≤ p := by clear hE hC hR hp hd ho hl hb hk hq ha hs hj hc hh ht h ih hA o2 oin; grind
      refine hC 172 [] [some (.ref 0), some (.long (x)), none, some (.int (p)), w] _ ?_
      refine And.intro (fun qz => absurd qz hno) (fun _ => ?_)
      refine oin p ⟨h0, h1⟩ (I 7 p.toNatClampNeg).toNatClampNeg 0 x (by decide) (Nat.zero_add _).symm (fun j => ?_)
      refine hC 221 [] [some (.ref 0), some (.long (zdO (I 9) p (I 7 p.toNatClampNeg).toNatClampNeg 0 x)), none, some (.int (p)), some (.int j)] _ ?_
      exact ih (p + 1) _ _ h2 h3 hA
  have acc : ∀ (x : Int64) (w : Option Value), Q (some (.long (zdP (I 7) (I 9) (I 1 4).toNatClampNeg 0 (zdA (I 33) x)))) (I, J, zR, 81) → At 145 [] [some (.ref 0), some (.long (x)), none, some (.int (0)), w] (I, J, zR, 81) := by
    intro x w hA
    refine hC 145 [] [some (.ref 0), some (.long (x)), none, some (.int (0)), w] _ ?_
    refine And.intro (fun qz => absurd qz (by decide)) (fun _ => ?_)
    refine hE _ _ _ _ _ (w_acc9_0 58 I J _ ?_)
    refine hC 145 [] [some (.ref 0), some (.long (z31 (x) (I 33 0))), none, some (.int (0 + 1)), w] _ ?_
    refine And.intro (fun qz => absurd qz (by decide)) (fun _ => ?_)
    refine hE _ _ _ _ _ (w_acc9_1 58 I J _ ?_)
    refine hC 145 [] [some (.ref 0), some (.long (z31 (z31 (x) (I 33 0)) (I 33 1))), none, some (.int (0 + 1 + 1)), w] _ ?_
    refine And.intro (fun qz => absurd qz (by decide)) (fun _ => ?_)
    refine hE _ _ _ _ _ (w_acc9_2 58 I J _ ?_)
    refine hC 145 [] [some (.ref 0), some (.long (z31 (z31 (z31 (x) (I 33 0)) (I 33 1)) (I 33 2))), none, some (.int (0 + 1 + 1 + 1)), w] _ ?_
    refine And.intro (fun qz => absurd qz (by decide)) (fun _ => ?_)
    refine hE _ _ _ _ _ (w_acc9_3 58 I J _ ?_)
    refine hC 145 [] [some (.ref 0), some (.long (z31 (z31 (z31 (z31 (x) (I 33 0)) (I 33 1)) (I 33 2)) (I 33 3))), none, some (.int (0 + 1 + 1 + 1 + 1)), w] _ ?_
    refine And.intro (fun qz => absurd qz (by decide)) (fun _ => ?_)
    refine hE _ _ _ _ _ (w_acc9_4 58 I J _ ?_)
    refine hC 145 [] [some (.ref 0), some (.long (z31 (z31 (z31 (z31 (z31 (x) (I 33 0)) (I 33 1)) (I 33 2)) (I 33 3)) (I 33 4))), none, some (.int (0 + 1 + 1 + 1 + 1 + 1)), w] _ ?_
    refine And.intro (fun qz => absurd qz (by decide)) (fun _ => ?_)
    refine hE _ _ _ _ _ (w_acc9_5 58 I J _ ?_)
    refine hC 145 [] [some (.ref 0), some (.long (z31 (z31 (z31 (z31 (z31 (z31 (x) (I 33 0)) (I 33 1)) (I 33 2)) (I 33 3)) (I 33 4)) (I 33 5))), none, some (.int (0 + 1 + 1 + 1 + 1 + 1 + 1)), w] _ ?_
    refine And.intro (fun qz => absurd qz (by decide)) (fun _ => ?_)
    refine hE _ _ _ _ _ (w_acc9_6 58 I J _ ?_)
    refine hC 145 [] [some (.ref 0), some (.long (z31 (z31 (z31 (z31 (z31 (z31 (z31 (x) (I 33 0)) (I 33 1)) (I 33 2)) (I 33 3)) (I 33 4)) (I 33 5)) (I 33 6))), none, some (.int (0 + 1 + 1 + 1 + 1 + 1 + 1 + 1)), w] _ ?_
    refine And.intro (fun _ => ?_) (fun qz => absurd (by decide) qz)
    refine hC 170 [] [some (.ref 0), some (.long (z31 (z31 (z31 (z31 (z31 (z31 (z31 (x) (I 33 0)) (I 33 1)) (I 33 2)) (I 33 3)) (I 33 4)) (I 33 5)) (I 33 6))), none, some (.int (0 + 1 + 1 + 1 + 1 + 1 + 1 + 1)), w] _ ?_
    exact oout _ 0 _ w (by decide) (Nat.zero_add _).symm hA
  have bars : ∀ (r : Nat) (i : Int32) (x : Int64) (w : Option Value), 0 ≤ i → (I 22 10).toNatClampNeg = i.toNatClampNeg + r → Q (some (.long (zdP (I 7) (I 9) (I 1 4).toNatClampNeg 0 (zdA (I 33) (zdB (I 26) (I 27) (I 28) (I 29) r i x))))) (I, J, zR, 81) → At 95 [] [some (.ref 0), some (.long (x)), none, some (.int (i)), w] (I, J, zR, 81) := by
    intro r
    induction r with
    | zero =>
      intro i x w h0 hr hA
      have hl2 : I 22 10 ≤ i := zlast h0 b2.1 hr
      refine hC 95 [] [some (.ref 0), some (.long (x)), none, some (.int (i)), w] _ ?_
      refine And.intro (fun _ => ?_) (fun qz => absurd hl2 qz)
      refine hC 143 [] [some (.ref 0), some (.long (x)), none, some (.int (i)), w] _ ?_
      exact acc x w hA
    | succ r ih =>
      intro i x w h0 hr hA
      obtain ⟨h1, h2, h3⟩ := znext h0 (n := I 22 10) (by clear hE hC hR hp hd ho hl hb hk hq ha hs hj hc hh ht h ih hA o2 oin oout acc; grind) hr
      have hno : ¬ I 22 10 ≤ i := by clear hE hC hR hp hd ho hl hb hk hq ha hs hj hc hh ht h ih hA o2 oin oout acc; grind
      refine hC 95 [] [some (.ref 0), some (.long (x)), none, some (.int (i)), w] _ ?_
      refine And.intro (fun qz => absurd qz hno) (fun _ => ?_)
      refine hC 109 [] [some (.ref 0), some (.long (x)), none, some (.int (i)), some (.int (3))] _ ?_
      refine And.intro (fun qz => absurd qz (by decide)) (fun _ => ?_)
      refine hE _ _ _ _ _ (w_bar9_3 57 I J i _ b2.2 ⟨h0, h1⟩ ?_)
      refine hC 109 [] [some (.ref 0), some (.long (z31 (x) (I 26 i.toNatClampNeg))), none, some (.int (i)), some (.int (3 + 1))] _ ?_
      refine And.intro (fun qz => absurd qz (by decide)) (fun _ => ?_)
      refine hE _ _ _ _ _ (w_bar9_4 57 I J i _ b2.2 ⟨h0, h1⟩ ?_)
      refine hC 109 [] [some (.ref 0), some (.long (z31 (z31 (x) (I 26 i.toNatClampNeg)) (I 27 i.toNatClampNeg))), none, some (.int (i)), some (.int (3 + 1 + 1))] _ ?_
      refine And.intro (fun qz => absurd qz (by decide)) (fun _ => ?_)
      refine hE _ _ _ _ _ (w_bar9_5 57 I J i _ b2.2 ⟨h0, h1⟩ ?_)
      refine hC 109 [] [some (.ref 0), some (.long (z31 (z31 (z31 (x) (I 26 i.toNatClampNeg)) (I 27 i.toNatClampNeg)) (I 28 i.toNatClampNeg))), none, some (.int (i)), some (.int (3 + 1 + 1 + 1))] _ ?_
      refine And.intro (fun qz => absurd qz (by decide)) (fun _ => ?_)
      refine hE _ _ _ _ _ (w_bar9_6 57 I J i _ b2.2 ⟨h0, h1⟩ ?_)
      refine hC 109 [] [some (.ref 0), some (.long (z31 (z31 (z31 (z31 (x) (I 26 i.toNatClampNeg)) (I 27 i.toNatClampNeg)) (I 28 i.toNatClampNeg)) (I 29 i.toNatClampNeg))), none, some (.int (i)), some (.int (3 + 1 + 1 + 1 + 1))] _ ?_
      refine And.intro (fun _ => ?_) (fun qz => absurd (by decide) qz)
      refine hC 137 [] [some (.ref 0), some (.long (z31 (z31 (z31 (z31 (x) (I 26 i.toNatClampNeg)) (I 27 i.toNatClampNeg)) (I 28 i.toNatClampNeg)) (I 29 i.toNatClampNeg))), none, some (.int (i)), some (.int (3 + 1 + 1 + 1 + 1))] _ ?_
      exact ih (i + 1) _ _ h2 h3 hA
  have dies : ∀ (r : Nat) (i : Int32) (x : Int64) (w : Option Value), 0 ≤ i → (I 10 5).toNatClampNeg = i.toNatClampNeg + r → Q (some (.long (zdP (I 7) (I 9) (I 1 4).toNatClampNeg 0 (zdA (I 33) (zdB (I 26) (I 27) (I 28) (I 29) (I 22 10).toNatClampNeg 0 (zdD (I 0 11) (I 12) (I 13) (I 15) r i x)))))) (I, J, zR, 81) → At 46 [] [some (.ref 0), some (.long (x)), none, some (.int (i)), w] (I, J, zR, 81) := by
    intro r
    induction r with
    | zero =>
      intro i x w h0 hr hA
      have hl2 : I 10 5 ≤ i := zlast h0 d2.1 hr
      refine hC 46 [] [some (.ref 0), some (.long (x)), none, some (.int (i)), w] _ ?_
      refine And.intro (fun _ => ?_) (fun qz => absurd hl2 qz)
      refine hC 93 [] [some (.ref 0), some (.long (x)), none, some (.int (i)), w] _ ?_
      exact bars _ 0 x w (by decide) (Nat.zero_add _).symm hA
    | succ r ih =>
      intro i x w h0 hr hA
      obtain ⟨h1, h2, h3⟩ := znext h0 (n := I 10 5) (by clear hE hC hR hp hd ho hl hb hk hq ha hs hj hc hh ht h ih hA o2 oin oout acc bars; grind) hr
      have hno : ¬ I 10 5 ≤ i := by clear hE hC hR hp hd ho hl hb hk hq ha hs hj hc hh ht h ih hA o2 oin oout acc bars; grind
      refine hC 46 [] [some (.ref 0), some (.long (x)), none, some (.int (i)), w] _ ?_
      refine And.intro (fun qz => absurd qz hno) (fun _ => ?_)
      refine hC 60 [] [some (.ref 0), some (.long (x)), none, some (.int (i)), some (.int (2))] _ ?_
      refine And.intro (fun qz => absurd qz (by decide)) (fun _ => ?_)
      refine hE _ _ _ _ _ (w_about9_2 55 I J i _ d2.2 ⟨h0, h1⟩ ?_)
      refine hC 60 [] [some (.ref 0), some (.long (z31 (x) (I 13 i.toNatClampNeg))), none, some (.int (i)), some (.int (2 + 1))] _ ?_
      refine And.intro (fun qz => absurd qz (by decide)) (fun _ => ?_)
      refine hE _ _ _ _ _ (w_about9_3 55 I J i _ d2.2 ⟨h0, h1⟩ ?_)
      refine hC 60 [] [some (.ref 0), some (.long (z31 (z31 (x) (I 13 i.toNatClampNeg)) (zab3 (I 0 11) (I 15) i))), none, some (.int (i)), some (.int (2 + 1 + 1))] _ ?_
      refine And.intro (fun qz => absurd qz (by decide)) (fun _ => ?_)
      refine hE _ _ _ _ _ (w_about9_4 55 I J i _ d2.2 ⟨h0, h1⟩ ?_)
      refine hC 60 [] [some (.ref 0), some (.long (z31 (z31 (z31 (x) (I 13 i.toNatClampNeg)) (zab3 (I 0 11) (I 15) i)) (zab4 (I 0 11) (I 12) (I 13) (I 15) i))), none, some (.int (i)), some (.int (2 + 1 + 1 + 1))] _ ?_
      refine And.intro (fun _ => ?_) (fun qz => absurd (by decide) qz)
      refine hC 87 [] [some (.ref 0), some (.long (z31 (z31 (z31 (x) (I 13 i.toNatClampNeg)) (zab3 (I 0 11) (I 15) i)) (zab4 (I 0 11) (I 12) (I 13) (I 15) i))), none, some (.int (i)), some (.int (2 + 1 + 1 + 1))] _ ?_
      exact ih (i + 1) _ _ h2 h3 hA
  refine hC 0 [] [some (.ref 0), none, none, none, none] _ ?_
  refine hC 6 [] [some (.ref 0), some (.long (17)), none, some (.int (0)), none] _ ?_
  refine And.intro (fun qz => absurd qz (by decide)) (fun _ => ?_)
  refine hE _ _ _ _ _ (w_count9 56 I J (0) _ b2 (fun q => absurd q (by decide)) (fun _ => ?_) (fun q => absurd q (by decide)) (fun q => absurd q (by decide)) (fun q => absurd q (by decide)) (fun q => absurd q (by decide)) (fun q => absurd q (by decide)) (fun q => absurd q (by decide)) (fun q => absurd q (by decide)))
  refine hC 6 [] [some (.ref 0), some (.long (z31 (17) (I 1 4))), none, some (.int (0 + 1)), none] _ ?_
  refine And.intro (fun qz => absurd qz (by decide)) (fun _ => ?_)
  refine hE _ _ _ _ _ (w_count9 56 I J (0 + 1) _ b2 (fun q => absurd q (by decide)) (fun q => absurd q (by decide)) (fun _ => ?_) (fun q => absurd q (by decide)) (fun q => absurd q (by decide)) (fun q => absurd q (by decide)) (fun q => absurd q (by decide)) (fun q => absurd q (by decide)) (fun q => absurd q (by decide)))
  refine hC 6 [] [some (.ref 0), some (.long (z31 (z31 (17) (I 1 4)) (I 10 5))), none, some (.int (0 + 1 + 1)), none] _ ?_
  refine And.intro (fun qz => absurd qz (by decide)) (fun _ => ?_)
  refine hE _ _ _ _ _ (w_count9 56 I J (0 + 1 + 1) _ b2 (fun q => absurd q (by decide)) (fun q => absurd q (by decide)) (fun q => absurd q (by decide)) (fun _ => ?_) (fun q => absurd q (by decide)) (fun q => absurd q (by decide)) (fun q => absurd q (by decide)) (fun q => absurd q (by decide)) (fun q => absurd q (by decide)))
  refine hC 6 [] [some (.ref 0), some (.long (z31 (z31 (z31 (17) (I 1 4)) (I 10 5)) (I 0 11))), none, some (.int (0 + 1 + 1 + 1)), none] _ ?_
  refine And.intro (fun qz => absurd qz (by decide)) (fun _ => ?_)
  refine hE _ _ _ _ _ (w_count9 56 I J (0 + 1 + 1 + 1) _ b2 (fun q => absurd q (by decide)) (fun q => absurd q (by decide)) (fun q => absurd q (by decide)) (fun q => absurd q (by decide)) (fun _ => ?_) (fun q => absurd q (by decide)) (fun q => absurd q (by decide)) (fun q => absurd q (by decide)) (fun q => absurd q (by decide)))
  refine hC 6 [] [some (.ref 0), some (.long (z31 (z31 (z31 (z31 (17) (I 1 4)) (I 10 5)) (I 0 11)) (I 22 10))), none, some (.int (0 + 1 + 1 + 1 + 1)), none] _ ?_
  refine And.intro (fun qz => absurd qz (by decide)) (fun _ => ?_)
  refine hE _ _ _ _ _ (w_count9 56 I J (0 + 1 + 1 + 1 + 1) _ b2 (fun q => absurd q (by decide)) (fun q => absurd q (by decide)) (fun q => absurd q (by decide)) (fun q => absurd q (by decide)) (fun q => absurd q (by decide)) (fun _ => ?_) (fun q => absurd q (by decide)) (fun q => absurd q (by decide)) (fun q => absurd q (by decide)))
  refine hC 6 [] [some (.ref 0), some (.long (z31 (z31 (z31 (z31 (z31 (17) (I 1 4)) (I 10 5)) (I 0 11)) (I 22 10)) (I 35 1))), none, some (.int (0 + 1 + 1 + 1 + 1 + 1)), none] _ ?_
  refine And.intro (fun qz => absurd qz (by decide)) (fun _ => ?_)
  refine hE _ _ _ _ _ (w_count9 56 I J (0 + 1 + 1 + 1 + 1 + 1) _ b2 (fun q => absurd q (by decide)) (fun q => absurd q (by decide)) (fun q => absurd q (by decide)) (fun q => absurd q (by decide)) (fun q => absurd q (by decide)) (fun q => absurd q (by decide)) (fun _ => ?_) (fun q => absurd q (by decide)) (fun q => absurd q (by decide)))
  refine hC 6 [] [some (.ref 0), some (.long (z31 (z31 (z31 (z31 (z31 (z31 (17) (I 1 4)) (I 10 5)) (I 0 11)) (I 22 10)) (I 35 1)) (I 0 14))), none, some (.int (0 + 1 + 1 + 1 + 1 + 1 + 1)), none] _ ?_
  refine And.intro (fun _ => ?_) (fun qz => absurd (by decide) qz)
  refine hC 30 [] [some (.ref 0), some (.long (z31 (z31 (z31 (z31 (z31 (z31 (17) (I 1 4)) (I 10 5)) (I 0 11)) (I 22 10)) (I 35 1)) (I 0 14))), none, some (.int (0 + 1 + 1 + 1 + 1 + 1 + 1)), none] _ ?_
  refine hE _ _ _ _ _ (w_count9 56 I J 7 _ b2 (fun q => absurd q (by decide)) (fun q => absurd q (by decide)) (fun q => absurd q (by decide)) (fun q => absurd q (by decide)) (fun q => absurd q (by decide)) (fun q => absurd q (by decide)) (fun q => absurd q (by decide)) (fun q => absurd q (by decide)) (fun _ => ?_))
  exact dies _ 0 _ none (by decide) (Nat.zero_add _).symm h
