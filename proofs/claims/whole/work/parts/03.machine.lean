/-! THE SMALL MACHINE. Memory: ints, longs, references by (cell, place), and how many cells there are; cells are numbered as they are made. -/
abbrev zM : Type := (Nat → Nat → Int32) × (Nat → Nat → Int64) × (Nat → Nat → Option Nat) × Nat
abbrev zL : Type := List (Option Value)
abbrev zC : Type := List Value → zL → zM → Prop
abbrev zE : Type := Nat → Nat → List Value → zM → (Option Value → zM → Prop) → Prop
abbrev zO : Type := Nat → zE → (Option Value → zM → Prop) → (Nat → zC) → zC → zC
abbrev zB : Type := List (zO × Nat)
def zX (n1 : Nat) (E : zE) (Q : Option Value → zM → Prop) (G : Nat → zC) : zB → zC
  | [] => fun _ _ _ => False
  | (o, _) :: r => o n1 E Q G (zX n1 E Q G r)
/-- the cells in the order of their making: an object of a class, an array (0 int, 1 long, 2 boolean; length) -/
def zShpL : List (Nat ⊕ (Nat × Nat)) := [.inl 9, .inl 6, .inr (0, 8), .inr (0, 8), .inr (0, 8), .inr (0, 8), .inl 3, .inr (0, 8), .inr (0, 24), .inr (0, 24), .inl 2, .inr (0, 12), .inr (0, 12), .inr (0, 12), .inr (0, 12), .inr (0, 12), .inr (0, 6), .inl 8, .inl 4, .inr (0, 3), .inr (0, 3), .inr (0, 3), .inl 1, .inr (0, 200), .inr (0, 200), .inr (0, 200), .inr (0, 200), .inr (0, 200), .inr (0, 200), .inr (0, 200), .inr (0, 200), .inr (0, 200), .inr (0, 200), .inl 0, .inr (0, 6), .inl 5, .inr (0, 7), .inr (0, 7), .inr (0, 7), .inr (0, 7), .inr (0, 7), .inr (2, 7), .inl 7, .inr (0, 800), .inr (0, 4), .inr (0, 4), .inl 10, .inr (0, 6), .inr (0, 8), .inr (0, 8), .inr (0, 8), .inr (0, 8), .inr (0, 12), .inr (0, 12), .inr (0, 12), .inr (0, 12), .inr (0, 12), .inr (0, 200), .inr (0, 200), .inr (0, 200), .inr (0, 200), .inr (0, 200), .inr (0, 200), .inr (0, 200), .inr (0, 200), .inr (1, 7), .inr (0, 8), .inr (0, 24), .inr (0, 24), .inr (0, 3), .inr (0, 6), .inr (0, 7), .inr (0, 7), .inr (0, 7), .inr (0, 7), .inr (0, 7), .inr (2, 200), .inr (0, 4), .inr (0, 4), .inr (0, 800), .inr (0, 200)]
def zshp (k : Nat) : Nat ⊕ (Nat × Nat) := zShpL.getD k (.inr (9, 0))
/-- which fields of a class are references -/
def zNL : List (List Bool) := [[false, false, false, false, false, false, false], [true, true, true, true, true, true, true, true, true, true, false, false], [true, true, true, true, true, false], [true, true, true], [true, false, true, true, false], [true, false, false, true, true, true, true, true, false, false, false], [true, true, true, true, false], [true, false, true, true], [false, false, false, false, false, false, false, false], [true, true, true, true, true, true, true, true, true, true, true, false, false, false, false], [true, false, true, true, true, true, false, true, true, true, true, true, false, false, true, true, true, true, true, true, true, true, false, false, true, true, true, true, true, false, false, false, false, false, false, false, true, false, true, true, true, false, true, true, false, false, true, true, true, true, true, false]]
def zfr (ci j : Nat) : Bool := (zNL.getD ci []).getD j false
def zN (ci : Nat) : Nat := (zNL.getD ci []).length
def zsz (k : Nat) : Nat := match zshp k with
  | .inl ci => zN ci
  | .inr q => q.2
def zss : Nat → Nat
  | 0 => 0
  | n + 1 => zss n + zsz n
/-- where the references point, once all is made -/
def zRL : List (List (Option Nat)) := [[some 1, some 6, some 10, some 16, some 17, some 18, some 22, some 33, some 34, some 35, some 42, none, none, none, none], [some 2, some 3, some 4, some 5, none], [], [], [], [], [some 7, some 8, some 9], [], [], [], [some 11, some 12, some 13, some 14, some 15, none], [], [], [], [], [], [], [none, none, none, none, none, none, none, none], [some 19, none, some 20, some 21, none], [], [], [], [some 23, some 24, some 25, some 26, some 27, some 28, some 29, some 30, some 31, some 32, none, none], [], [], [], [], [], [], [], [], [], [], [none, none, none, none, none, none, none], [], [some 36, none, none, some 37, some 38, some 39, some 40, some 41, none, none, none], [], [], [], [], [], [], [some 43, none, some 44, some 45], [], [], [], [some 47, none, some 48, some 49, some 50, some 51, none, some 52, some 53, some 54, some 55, some 56, none, none, some 57, some 58, some 59, some 60, some 61, some 62, some 63, some 64, none, none, some 65, some 66, some 67, some 68, some 69, none, none, none, none, none, none, none, some 70, none, some 71, some 72, some 73, none, some 74, some 75, none, none, some 76, some 77, some 78, some 79, some 80, none], [], [], [], [], [], [], [], [], [], [], [], [], [], [], [], [], [], [], [], [], [], [], [], [], [], [], [], [], [], [], [], [], [], []]
def zR (k j : Nat) : Option Nat := (zRL.getD k []).getD j none
def zwI (M : zM) (k j : Nat) (v : Int32) : zM := (va_up M.1 k (va_up (M.1 k) j v), M.2)
def zwJ (M : zM) (k j : Nat) (v : Int64) : zM := (M.1, va_up M.2.1 k (va_up (M.2.1 k) j v), M.2.2)
def zwR (M : zM) (k j r : Nat) : zM := (M.1, M.2.1, va_up M.2.2.1 k (va_up (M.2.2.1 k) j (some r)), M.2.2.2)
def zwA (M : zM) (k : Nat) (f : Nat → Int32) : zM := (va_up M.1 k f, M.2)
/-- one cell more, as it is born -/
def znew (M : zM) : zM := (va_up M.1 M.2.2.2 (fun _ => 0), va_up M.2.1 M.2.2.2 (fun _ => 0), va_up M.2.2.1 M.2.2.2 (fun _ => none), M.2.2.2 + 1)
def zokO (M : zM) (k ci : Nat) : Bool := Nat.blt k M.2.2.2 && (match zshp k with
  | .inl c => Nat.beq c ci
  | .inr _ => false)
def zlen (M : zM) (k ty : Nat) : Option Nat := cond (Nat.blt k M.2.2.2) (match zshp k with
  | .inl _ => none
  | .inr q => cond (Nat.beq q.1 ty) (some q.2) none) none
def zcat (st : List Value) : Nat := (st.map fun v => v.category).sum
def zkill (L : zL) (i : Nat) : zL := match i with
  | 0 => L
  | k + 1 => match L[k]? with
    | some (some w) => cond (Nat.beq w.category 2) (L.set k none) L
    | _ => L
def zst (L : zL) (i : Nat) (v : Value) : zL := (zkill L i).set i (some v)
def zst2 (L : zL) (i : Nat) (v : Value) : zL := ((zkill L i).set i (some v)).set (i + 1) none
def zent (n : Nat) (vs : List Value) : zL := (vs.flatMap fun v => cond (Nat.beq v.category 2) [some v, none] [some v]) ++ List.replicate (n - (vs.flatMap fun v => cond (Nat.beq v.category 2) [some v, none] [some v]).length) none
/-! the ops: n1 E Q G K st L M (how many cells at the end, callees, the end, jumps, what goes on) -/
def oI (v : Int32) : zO := fun _ _ _ _ K st L M => K (.int v :: st) L M
def oJ (v : Int64) : zO := fun _ _ _ _ K st L M => K (.long v :: st) L M
def oIl (i : Nat) : zO := fun _ _ _ _ K st L M => match L[i]? with
  | some (some (.int x)) => K (.int x :: st) L M
  | _ => False
def oJl (i : Nat) : zO := fun _ _ _ _ K st L M => match L[i]? with
  | some (some (.long x)) => K (.long x :: st) L M
  | _ => False
def oAl (i : Nat) : zO := fun _ _ _ _ K st L M => match L[i]? with
  | some (some (.ref x)) => K (.ref x :: st) L M
  | _ => False
def oIs (i : Nat) : zO := fun _ _ _ _ K st L M => match st with
  | .int x :: r => cond (Nat.blt i L.length) (K r (zst L i (.int x)) M) False
  | _ => False
def oAs (i : Nat) : zO := fun _ _ _ _ K st L M => match st with
  | .ref x :: r => cond (Nat.blt i L.length) (K r (zst L i (.ref x)) M) False
  | _ => False
def oJs (i : Nat) : zO := fun _ _ _ _ K st L M => match st with
  | .long x :: r => cond (Nat.blt (i + 1) L.length) (K r (zst2 L i (.long x)) M) False
  | _ => False
def oInc (i : Nat) (v : Int32) : zO := fun _ _ _ _ K st L M => match L[i]? with
  | some (some (.int x)) => K st (zst L i (.int (x + v))) M
  | _ => False
def oAdd : zO := fun _ _ _ _ K st L M => match st with
  | .int y :: .int x :: r => K (.int (x + y) :: r) L M
  | _ => False
def oSub : zO := fun _ _ _ _ K st L M => match st with
  | .int y :: .int x :: r => K (.int (x - y) :: r) L M
  | _ => False
def oMul : zO := fun _ _ _ _ K st L M => match st with
  | .int y :: .int x :: r => K (.int (x * y) :: r) L M
  | _ => False
def oAnd : zO := fun _ _ _ _ K st L M => match st with
  | .int y :: .int x :: r => K (.int (x &&& y) :: r) L M
  | _ => False
def oXor : zO := fun _ _ _ _ K st L M => match st with
  | .int y :: .int x :: r => K (.int (x ^^^ y) :: r) L M
  | _ => False
def oJadd : zO := fun _ _ _ _ K st L M => match st with
  | .long y :: .long x :: r => K (.long (x + y) :: r) L M
  | _ => False
def oJmul : zO := fun _ _ _ _ K st L M => match st with
  | .long y :: .long x :: r => K (.long (x * y) :: r) L M
  | _ => False
def oJcmp : zO := fun _ _ _ _ K st L M => match st with
  | .long y :: .long x :: r => K (.int (lg_cmp x y) :: r) L M
  | _ => False
def oDiv : zO := fun _ _ _ _ K st L M => match st with
  | .int y :: .int x :: r => (¬ y = 0) ∧ K (.int (x / y) :: r) L M
  | _ => False
def oJdiv : zO := fun _ _ _ _ K st L M => match st with
  | .long y :: .long x :: r => (¬ y = 0) ∧ K (.long (x / y) :: r) L M
  | _ => False
def oI2l : zO := fun _ _ _ _ K st L M => match st with
  | .int x :: r => K (.long (x.toInt64) :: r) L M
  | _ => False
def oL2i : zO := fun _ _ _ _ K st L M => match st with
  | .long x :: r => K (.int (x.toInt32) :: r) L M
  | _ => False
def oI2b : zO := fun _ _ _ _ K st L M => match st with
  | .int x :: r => K (.int (x.toInt8.toInt32) :: r) L M
  | _ => False
def oI2s : zO := fun _ _ _ _ K st L M => match st with
  | .int x :: r => K (.int (x.toInt16.toInt32) :: r) L M
  | _ => False
def oDup : zO := fun _ _ _ _ K st L M => match st with
  | v :: r => cond (Nat.beq v.category 1) (K (v :: v :: r) L M) False
  | _ => False
def oPop : zO := fun _ _ _ _ K st L M => match st with
  | v :: r => cond (Nat.beq v.category 1) (K r L M) False
  | _ => False
def oDup2 : zO := fun _ _ _ _ K st L M => match st with
  | v :: w :: r => cond (Nat.beq v.category 1 && Nat.beq w.category 1) (K (v :: w :: v :: w :: r) L M) False
  | _ => False
def oGo (t : Nat) : zO := fun _ _ _ G _ st L M => G t st L M
def oIfEq (t : Nat) : zO := fun _ _ _ G K st L M => match st with
  | .int x :: r => (x = 0 → G t r L M) ∧ (¬ x = 0 → K r L M)
  | _ => False
def oCmpEq (t : Nat) : zO := fun _ _ _ G K st L M => match st with
  | .int y :: .int x :: r => (x = y → G t r L M) ∧ (¬ x = y → K r L M)
  | _ => False
def oIfNe (t : Nat) : zO := fun _ _ _ G K st L M => match st with
  | .int x :: r => (¬ x = 0 → G t r L M) ∧ (x = 0 → K r L M)
  | _ => False
def oCmpNe (t : Nat) : zO := fun _ _ _ G K st L M => match st with
  | .int y :: .int x :: r => (¬ x = y → G t r L M) ∧ (x = y → K r L M)
  | _ => False
def oIfLt (t : Nat) : zO := fun _ _ _ G K st L M => match st with
  | .int x :: r => (x < 0 → G t r L M) ∧ (¬ x < 0 → K r L M)
  | _ => False
def oCmpLt (t : Nat) : zO := fun _ _ _ G K st L M => match st with
  | .int y :: .int x :: r => (x < y → G t r L M) ∧ (¬ x < y → K r L M)
  | _ => False
def oIfGe (t : Nat) : zO := fun _ _ _ G K st L M => match st with
  | .int x :: r => (0 ≤ x → G t r L M) ∧ (¬ 0 ≤ x → K r L M)
  | _ => False
def oCmpGe (t : Nat) : zO := fun _ _ _ G K st L M => match st with
  | .int y :: .int x :: r => (y ≤ x → G t r L M) ∧ (¬ y ≤ x → K r L M)
  | _ => False
def oIfGt (t : Nat) : zO := fun _ _ _ G K st L M => match st with
  | .int x :: r => (0 < x → G t r L M) ∧ (¬ 0 < x → K r L M)
  | _ => False
def oCmpGt (t : Nat) : zO := fun _ _ _ G K st L M => match st with
  | .int y :: .int x :: r => (y < x → G t r L M) ∧ (¬ y < x → K r L M)
  | _ => False
def oIfLe (t : Nat) : zO := fun _ _ _ G K st L M => match st with
  | .int x :: r => (x ≤ 0 → G t r L M) ∧ (¬ x ≤ 0 → K r L M)
  | _ => False
def oCmpLe (t : Nat) : zO := fun _ _ _ G K st L M => match st with
  | .int y :: .int x :: r => (x ≤ y → G t r L M) ∧ (¬ x ≤ y → K r L M)
  | _ => False
/-- a table switch from 0 on -/
def zsw (x : Int32) (G : Nat → Prop) : Int → List Nat → Prop
  | _, [] => True
  | j, t :: ts => (x.toInt = j → G t) ∧ zsw x G (j + 1) ts
def oSw (dflt : Nat) (ts : List Nat) : zO := fun _ _ _ G _ st L M => match st with
  | .int x :: r => ((x.toInt < 0 ∨ (ts.length : Int) ≤ x.toInt) → G dflt r L M) ∧ zsw x (fun t => G t r L M) 0 ts
  | _ => False
def oRI : zO := fun n1 _ Q _ _ st _ M => match st with
  | [.int x] => cond (Nat.beq M.2.2.2 n1) (Q (some (.int x)) M) False
  | _ => False
def oRZ : zO := fun n1 _ Q _ _ st _ M => match st with
  | [.int x] => (x = 0 ∨ x = 1) ∧ cond (Nat.beq M.2.2.2 n1) (Q (some (.int x)) M) False
  | _ => False
def oRJ : zO := fun n1 _ Q _ _ st _ M => match st with
  | [.long x] => cond (Nat.beq M.2.2.2 n1) (Q (some (.long x)) M) False
  | _ => False
def oRV : zO := fun n1 _ Q _ _ st _ M => match st with
  | [] => cond (Nat.beq M.2.2.2 n1) (Q none M) False
  | _ => False
/-! memory -/
def oGI (ci j : Nat) : zO := fun _ _ _ _ K st L M => match st with
  | .ref k :: r => cond (zokO M k ci) (K (.int (M.1 k j) :: r) L M) False
  | _ => False
def oGR (ci j : Nat) : zO := fun _ _ _ _ K st L M => match st with
  | .ref k :: r => cond (zokO M k ci) (match M.2.2.1 k j with
    | some t => cond (Nat.blt t 900) (K (.ref t :: r) L M) False
    | none => False) False
  | _ => False
def oPI (ci j : Nat) : zO := fun _ _ _ _ K st L M => match st with
  | .int v :: .ref k :: r => cond (zokO M k ci) (K r L (zwI M k j v)) False
  | _ => False
def oPZ (ci j : Nat) : zO := fun _ _ _ _ K st L M => match st with
  | .int v :: .ref k :: r => (v = 0 ∨ v = 1) ∧ cond (zokO M k ci) (K r L (zwI M k j v)) False
  | _ => False
def oPR (ci j : Nat) : zO := fun _ _ _ _ K st L M => match st with
  | .ref t :: .ref k :: r => cond (zokO M k ci && Nat.blt t 900) (K r L (zwR M k j t)) False
  | _ => False
def oLd : zO := fun _ _ _ _ K st L M => match st with
  | .int i :: .ref k :: r => (match zlen M k 0 with
    | some n => vp_in i n ∧ K (.int (M.1 k i.toNatClampNeg) :: r) L M
    | none => False)
  | _ => False
def oSt : zO := fun _ _ _ _ K st L M => match st with
  | .int x :: .int i :: .ref k :: r => (match zlen M k 0 with
    | some n => vp_in i n ∧ K r L (zwI M k i.toNatClampNeg x)
    | none => False)
  | _ => False
def oLdZ : zO := fun _ _ _ _ K st L M => match st with
  | .int i :: .ref k :: r => (match zlen M k 2 with
    | some n => vp_in i n ∧ K (.int (M.1 k i.toNatClampNeg) :: r) L M
    | none => False)
  | _ => False
def oStZ : zO := fun _ _ _ _ K st L M => match st with
  | .int x :: .int i :: .ref k :: r => (match zlen M k 2 with
    | some n => vp_in i n ∧ (x = 0 ∨ x = 1) ∧ K r L (zwI M k i.toNatClampNeg x)
    | none => False)
  | _ => False
def oLdJ : zO := fun _ _ _ _ K st L M => match st with
  | .int i :: .ref k :: r => (match zlen M k 1 with
    | some n => vp_in i n ∧ K (.long (M.2.1 k i.toNatClampNeg) :: r) L M
    | none => False)
  | _ => False
def oStJ : zO := fun _ _ _ _ K st L M => match st with
  | .long x :: .int i :: .ref k :: r => (match zlen M k 1 with
    | some n => vp_in i n ∧ K r L (zwJ M k i.toNatClampNeg x)
    | none => False)
  | _ => False
/-- LAW_LIMITS, the class's table: cell 1000 -/
def zlim (j : Nat) : Int32 := ([100, 5000, 5000, 5000, 20, 20] : List Int32).getD j 0
def oGS : zO := fun _ _ _ _ K st L M => K (.ref 1000 :: st) L M
def oLim : zO := fun _ _ _ _ K st L M => match st with
  | .int i :: .ref k :: r => cond (Nat.beq k 1000) (vp_in i 6 ∧ K (.int (zlim i.toNatClampNeg) :: r) L M) False
  | _ => False
def oLimN : zO := fun _ _ _ _ K st L M => match st with
  | .ref k :: r => cond (Nat.beq k 1000) (K (.int 6 :: r) L M) False
  | _ => False
/-- the law's script: cell 1001 -/
def oScr (xs : Nat → Int32) (n : Nat) : zO := fun _ _ _ _ K st L M => match st with
  | .int i :: .ref k :: r => cond (Nat.beq k 1001) (vp_in i n ∧ K (.int (xs i.toNatClampNeg) :: r) L M) False
  | _ => False
def oScrN (n : Nat) : zO := fun _ _ _ _ K st L M => match st with
  | .ref k :: r => cond (Nat.beq k 1001) (K (.int (Int32.ofNat n) :: r) L M) False
  | _ => False
/-- System.arraycopy within int rows -/
def oCpy : zO := fun _ _ _ _ K st L M => match st with
  | .int n :: .int dp :: .ref k1 :: .int sp :: .ref k0 :: r => (match zlen M k0 0, zlen M k1 0 with
    | some l0, some l1 => ¬ sp < 0 ∧ ¬ dp < 0 ∧ ¬ n < 0 ∧ sp.toNatClampNeg + n.toNatClampNeg ≤ l0 ∧ dp.toNatClampNeg + n.toNatClampNeg ≤ l1 ∧ cond (Nat.ble (zcat r) 8) (K r L (zwA M k1 (va_cpy (M.1 k0) (M.1 k1) sp.toNatClampNeg dp.toNatClampNeg n.toNatClampNeg))) False
    | _, _ => False)
  | _ => False
/-! what is made -/
def oNew (ci : Nat) : zO := fun n1 _ _ _ K st L M => cond (Nat.blt M.2.2.2 n1 && Nat.blt M.2.2.2 900 && (match zshp M.2.2.2 with
  | .inl c => Nat.beq c ci
  | .inr _ => false)) (K (.ref M.2.2.2 :: st) L (znew M)) False
def oNewA (ty : Nat) : zO := fun n1 _ _ _ K st L M => match st with
  | .int x :: r => cond (Nat.blt M.2.2.2 n1 && Nat.blt M.2.2.2 900) (match zshp M.2.2.2 with
    | .inl _ => False
    | .inr q => cond (Nat.beq q.1 ty && Nat.ble q.2 1000) (x = Int32.ofNat q.2 ∧ K (.ref M.2.2.2 :: r) L (znew M)) False) False
  | _ => False
def oObj : zO := fun _ _ _ _ K st L M => match st with
  | .ref _ :: r => cond (Nat.ble (zcat r) 8) (K r L M) False
  | _ => False
/-! calls: y is the callee's number, na how many arguments beside the receiver -/
def oV (na y ci : Nat) : zO := fun _ E _ _ K st L M => match st.drop na with
  | .ref k :: r => cond (zokO M k ci && (Nat.ble (zcat r) 8 && Nat.beq (st.take na).length na)) (E y M.2.2.2 (.ref k :: (st.take na).reverse) M (fun v M' => K (v.toList ++ r) L M')) False
  | _ => False
def oS (na y : Nat) : zO := fun _ E _ _ K st L M => cond (Nat.ble (zcat (st.drop na)) 8 && Nat.beq (st.take na).length na) (E y M.2.2.2 ((st.take na).reverse) M (fun v M' => K (v.toList ++ st.drop na) L M')) False
def oNi (y n2 : Nat) : zO := fun n1 E _ _ K st L M => match st with
  | .ref k :: r => cond (Nat.ble n2 n1 && (Nat.ble n2 900 && Nat.ble (zcat r) 8)) (E y n2 [.ref k] M (fun v M' => K (v.toList ++ r) L M')) False
  | _ => False
