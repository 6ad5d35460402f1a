/-! THE RELATION between the class's cells (0 to 45) and the reference's (46 to 80) -/
def zRp (n n' : Int32) (al ra re gr al' ra' re' gr' : Nat → Int32) : Prop := n' = n ∧ (0 ≤ n ∧ n ≤ 8) ∧ (al' = al ∧ ra' = ra ∧ re' = re ∧ gr' = gr) ∧ ∀ i : Int32, 0 ≤ i → i < n → (0 ≤ al i.toNatClampNeg ∧ al i.toNatClampNeg ≤ 2) ∧ (5 ≤ ra i.toNatClampNeg ∧ ra i.toNatClampNeg ≤ 80) ∧ (0 ≤ re i.toNatClampNeg ∧ re i.toNatClampNeg ≤ 3) ∧ (100 ≤ gr i.toNatClampNeg ∧ gr i.toNatClampNeg ≤ 9999)
def zRd (np n n' : Int32) (pr li sh ev wa pr' li' sh' ev' wa' : Nat → Int32) : Prop := n' = n ∧ (0 ≤ n ∧ n ≤ 12) ∧ (pr' = pr ∧ li' = li ∧ sh' = sh ∧ ev' = ev ∧ wa' = wa) ∧ (∀ i : Int32, 0 ≤ i → i < n → 0 ≤ pr i.toNatClampNeg ∧ pr i.toNatClampNeg < np) ∧ ∀ j : Nat, n.toNatClampNeg ≤ j → sh j = 0 ∧ ev j = 0
def zRo (np : Int32) (os ol ow os' ol' ow' : Nat → Int32) : Prop := (os' = os ∧ ol' = ol ∧ ow' = ow) ∧ (∀ j : Nat, 0 ≤ os j ∧ os j ≤ 3) ∧ (∀ j : Nat, np.toNatClampNeg ≤ j → os j = 0) ∧ ∀ p o : Int32, 0 ≤ p → p < np → 0 ≤ o → o < os p.toNatClampNeg → (100 ≤ ol (3 * p + o).toNatClampNeg ∧ ol (3 * p + o).toNatClampNeg ≤ 9000) ∧ (0 ≤ ow (3 * p + o).toNatClampNeg ∧ ow (3 * p + o).toNatClampNeg ≤ 500)
def zRl (la la' : Nat → Int32) : Prop := la' = la ∧ (0 ≤ la 0 ∧ la 0 ≤ 100) ∧ (0 ≤ la 1 ∧ la 1 ≤ 5000) ∧ (0 ≤ la 2 ∧ la 2 ≤ 5000) ∧ (0 ≤ la 3 ∧ la 3 ≤ 5000) ∧ (0 ≤ la 4 ∧ la 4 ≤ 20) ∧ (0 ≤ la 5 ∧ la 5 ≤ 20)
def zRb (nd n n' : Int32) (di bi le go cu we ba di' bi' le' go' cu' we' ba' rc gm re gr pr : Nat → Int32) : Prop := n' = n ∧ (0 ≤ n ∧ n ≤ 200) ∧ (di' = di ∧ bi' = bi ∧ le' = le ∧ go' = go ∧ cu' = cu ∧ we' = we ∧ ba' = ba) ∧ ∀ i : Int32, 0 ≤ i → i < n → (0 ≤ di i.toNatClampNeg ∧ di i.toNatClampNeg < nd) ∧ rc i.toNatClampNeg = re (pr (di i.toNatClampNeg).toNatClampNeg).toNatClampNeg ∧ gm i.toNatClampNeg = gr (pr (di i.toNatClampNeg).toNatClampNeg).toNatClampNeg ∧ (0 ≤ go i.toNatClampNeg ∧ go i.toNatClampNeg ≤ 100000)
def zRk (n : Int32) (lo lo' : Nat → Int32) : Prop := (∀ i : Int32, 0 ≤ i → i < n → (lo i.toNatClampNeg = 0 ∧ lo' i.toNatClampNeg = -1) ∨ (lo i.toNatClampNeg = 1 ∧ lo' i.toNatClampNeg = 1) ∨ (lo i.toNatClampNeg = 2 ∧ lo' i.toNatClampNeg = 0)) ∧ ∀ j : Nat, n.toNatClampNeg ≤ j → lo j = 0
def zRq (n lt lt' ld' : Int32) (di : Nat → Int32) : Prop := lt' = lt ∧ ((n = 0 ∧ ld' = -1) ∨ (0 < n ∧ ld' = di (n - 1).toNatClampNeg))
def zRa (ac : Nat → Int32) (g : Nat → Int64) : Prop := ∀ k : Nat, k < 7 → (g k).toInt32 = ac k
def zRs (n n' : Int32) (st st' : Nat → Int32) : Prop := n' = n ∧ (0 ≤ n ∧ n ≤ 6) ∧ st' = st ∧ ∀ i : Int32, 0 ≤ i → i < n → 200 ≤ st i.toNatClampNeg ∧ st i.toNatClampNeg ≤ 1200
def zRj (np n n' gap gap' : Int32) (al ti du pr' ti' du' alp : Nat → Int32) : Prop := n' = n ∧ (0 ≤ n ∧ n ≤ 7) ∧ (gap' = gap ∧ 0 ≤ gap ∧ gap ≤ 20) ∧ (ti' = ti ∧ du' = du) ∧ ∀ i : Int32, 0 ≤ i → i < n → (0 ≤ pr' i.toNatClampNeg ∧ pr' i.toNatClampNeg < np) ∧ al i.toNatClampNeg = alp (pr' i.toNatClampNeg).toNatClampNeg ∧ (1 ≤ ti i.toNatClampNeg ∧ ti i.toNatClampNeg ≤ 50) ∧ (0 ≤ du i.toNatClampNeg ∧ du i.toNatClampNeg ≤ 1000)
/-- all orders of the numbers in l, the least first where they part -/
def zpm : Nat → List Nat → List (List Nat)
  | 0, _ => [[]]
  | k + 1, l => l.flatMap (fun x => (zpm k (l.erase x)).map (fun r => x :: r))
/-- an order's sum of LATE and its end: behind which job (7: none), the end and the sum so far -/
def zco (gap : Int32) (al ti du : Nat → Int32) : List Nat → Nat → Int32 → Int32 → Int32 × Int32
  | [], _, e, s => (s, e)
  | x :: r, y, e, s => zco gap al ti du r x (e + (if y = 7 ∨ al y = al x then 0 else gap) + ti x) (s + (if 0 < e + (if y = 7 ∨ al y = al x then 0 else gap) + ti x - du x then e + (if y = 7 ∨ al y = al x then 0 else gap) + ti x - du x else 0))
/-- the best of the orders, the first of like ones -/
def zbst (gap : Int32) (al ti du : Nat → Int32) (b : Int32 × Int32 × List Nat) (r : List Nat) : Int32 × Int32 × List Nat :=
  if (zco gap al ti du r 7 0 0).1 < b.1 ∨ ((zco gap al ti du r 7 0 0).1 = b.1 ∧ (zco gap al ti du r 7 0 0).2 < b.2.1) then ((zco gap al ti du r 7 0 0).1, (zco gap al ti du r 7 0 0).2, r) else b
def zplan (n : Nat) (gap : Int32) (al ti du : Nat → Int32) : Int32 × Int32 × List Nat := (zpm n (List.range n)).foldl (zbst gap al ti du) (2147483647, 2147483647, [])
def zRc (n gap se ll : Int32) (sq al ti du us : Nat → Int32) : Prop := (se = 0 ∨ se = 1) ∧ (∀ j : Nat, us j = 0) ∧ (se = 1 → ll = (zplan n.toNatClampNeg gap al ti du).1 ∧ ∀ j : Nat, j < n.toNatClampNeg → sq j = Int32.ofNat ((zplan n.toNatClampNeg gap al ti du).2.2.getD j 0))
def zRh (fi fi' : Int32) (it fo sz it' fo' sz' : Nat → Int32) : Prop := fi' = fi ∧ it' = it ∧ ∀ s : Int32, 0 ≤ s → s ≤ 3 → (sz s.toNatClampNeg = -1 ∧ fo' s.toNatClampNeg = -1) ∨ ((0 ≤ sz s.toNatClampNeg ∧ sz s.toNatClampNeg ≤ 200) ∧ sz' s.toNatClampNeg = sz s.toNatClampNeg ∧ fo' s.toNatClampNeg = fo s.toNatClampNeg ∧ (0 ≤ fo s.toNatClampNeg ∧ fo s.toNatClampNeg ≤ 2))
def zRt (ti ti' ro ro' ba ba' : Int32) : Prop := ti' = ti ∧ ro' = ro ∧ (1000 ≤ ro ∧ ro ≤ 1000000) ∧ ba' = ba
def zRel (I : Nat → Nat → Int32) (J : Nat → Nat → Int64) : Prop :=
  zRp (I 1 4) (I 46 1) (I 2) (I 3) (I 4) (I 5) (I 48) (I 49) (I 50) (I 51) ∧
  zRd (I 1 4) (I 10 5) (I 46 6) (I 11) (I 12) (I 13) (I 14) (I 15) (I 52) (I 53) (I 54) (I 55) (I 56) ∧
  zRo (I 1 4) (I 7) (I 8) (I 9) (I 66) (I 67) (I 68) ∧
  zRl (I 16) (I 47) ∧
  zRb (I 10 5) (I 22 10) (I 46 13) (I 23) (I 24) (I 25) (I 26) (I 27) (I 28) (I 29) (I 57) (I 58) (I 59) (I 60) (I 61) (I 62) (I 63) (I 30) (I 31) (I 4) (I 5) (I 11) ∧
  zRk (I 22 10) (I 32) (I 64) ∧
  zRq (I 22 10) (I 22 11) (I 46 23) (I 46 22) (I 23) ∧
  zRa (I 33) (J 65) ∧
  zRs (I 0 12) (I 46 35) (I 34) (I 70) ∧
  zRj (I 1 4) (I 35 1) (I 46 37) (I 35 8) (I 46 41) (I 37) (I 38) (I 39) (I 71) (I 72) (I 73) (I 2) ∧
  zRc (I 35 1) (I 35 8) (I 35 10) (I 35 2) (I 36) (I 37) (I 38) (I 39) (I 41) ∧
  zRh (I 42 1) (I 46 51) (I 43) (I 44) (I 45) (I 79) (I 77) (I 78) ∧
  zRt (I 0 11) (I 46 12) (I 0 13) (I 46 44) (I 0 14) (I 46 45)
theorem zfin {Q : Option Value → zM → Prop} {r r' : Int32} {M M' : zM} (hr : r' = r) (hM : M' = M) (h : Q (some (.int r)) M) : Q (some (.int r')) M' := by
  rw [hr, hM]
  exact h
theorem ztn {i : Int32} (h : 0 ≤ i) : i.toInt = (i.toNatClampNeg : Int) := by
  have h1 : (0 : Int32).toInt ≤ i.toInt := Int32.le_iff_toInt_le.mp h
  rw [Int32.toInt_zero] at h1
  show i.toInt = ((i.toInt.toNat : Nat) : Int)
  omega
theorem zinj {i k : Int32} (hi : 0 ≤ i) (hk : 0 ≤ k) (h : i.toNatClampNeg = k.toNatClampNeg) : i = k := by
  have e1 := ztn hi
  have e2 := ztn hk
  exact Int32.toInt_inj.mp (by omega)
theorem zup_eq {α : Type} {f : Nat → α} {k : Nat} {v : α} : va_up f k v k = v := by simp [va_up]
theorem zup_ne {α : Type} {f : Nat → α} {j k : Nat} {v : α} (h : j ≠ k) : va_up f k v j = f j := by simp [va_up, h]
theorem zup_i {f : Nat → Int32} {i k v : Int32} (hi : 0 ≤ i) (hk : 0 ≤ k) : va_up f k.toNatClampNeg v i.toNatClampNeg = if i = k then v else f i.toNatClampNeg := by
  by_cases h : i = k
  · rw [h, zup_eq, if_pos rfl]
  · rw [if_neg h, zup_ne (fun q => h (zinj hi hk q))]
theorem zup_id {f : Nat → Int32} {k : Nat} : va_up f k (f k) = f := by
  funext j
  by_cases h : j = k
  · rw [h, zup_eq]
  · rw [zup_ne h]
theorem zlt_nat {i k : Int32} (hi : 0 ≤ i) (hk : 0 ≤ k) : i < k ↔ i.toNatClampNeg < k.toNatClampNeg := by
  rw [Int32.lt_iff_toInt_lt, ztn hi, ztn hk]
  omega
theorem zle_nat {i k : Int32} (hi : 0 ≤ i) (hk : 0 ≤ k) : i ≤ k ↔ i.toNatClampNeg ≤ k.toNatClampNeg := by
  rw [Int32.le_iff_toInt_le, ztn hi, ztn hk]
  omega
