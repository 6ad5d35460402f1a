/-! the plan: orders of jobs, as lists -/
def zbs (gap : Int32) (al ti du : Nat → Int32) (pre : List Nat) (y : Nat) (e s : Int32) (b : Int32 × Int32 × List Nat) (r : List Nat) : Int32 × Int32 × List Nat :=
  if (zco gap al ti du r y e s).1 < b.1 ∨ ((zco gap al ti du r y e s).1 = b.1 ∧ (zco gap al ti du r y e s).2 < b.2.1) then ((zco gap al ti du r y e s).1, (zco gap al ti du r y e s).2, pre ++ r) else b
def zne (gap : Int32) (al ti : Nat → Int32) (y : Nat) (e : Int32) (x : Nat) : Int32 := e + (if y = 7 ∨ al y = al x then 0 else gap) + ti x
def zns (gap : Int32) (al ti du : Nat → Int32) (y : Nat) (e s : Int32) (x : Nat) : Int32 := s + (if 0 < zne gap al ti y e x - du x then zne gap al ti y e x - du x else 0)
def zrest (n : Nat) (tr : List Nat) : List Nat := (List.range n).filter (fun x => decide (x ∉ tr))
section
variable {gap : Int32} {al ti du : Nat → Int32} {n : Nat}
theorem zco_s (x : Nat) (r : List Nat) (y : Nat) (e s : Int32) : zco gap al ti du (x :: r) y e s = zco gap al ti du r x (zne gap al ti y e x) (zns gap al ti du y e s x) := rfl
theorem zbs_s (pre : List Nat) (x y : Nat) (e s : Int32) (b : Int32 × Int32 × List Nat) (r : List Nat) : zbs gap al ti du pre y e s b (x :: r) = zbs gap al ti du (pre ++ [x]) x (zne gap al ti y e x) (zns gap al ti du y e s x) b r := by
  unfold zbs
  rw [zco_s, List.append_assoc]
  rfl
theorem zfold_fm {α β γ : Type} (f : α → List β) (g : γ → β → γ) : ∀ (l : List α) (b : γ), (l.flatMap f).foldl g b = l.foldl (fun b x => (f x).foldl g b) b
  | [], b => rfl
  | x :: l, b => by
    rw [List.flatMap_cons, List.foldl_append, List.foldl_cons]
    exact zfold_fm f g l _
theorem zrest_erase (tr : List Nat) (x : Nat) : (zrest n tr).erase x = zrest n (tr ++ [x]) := by
  unfold zrest
  have hn : ((List.range n).filter (fun x => decide (x ∉ tr))).Nodup := List.Pairwise.filter _ List.nodup_range
  rw [hn.erase_eq_filter, List.filter_filter]
  congr 1
  funext z
  by_cases q : z = x
  · subst q; simp
  · simp [q]
theorem zperm_s (tr : List Nat) (k y : Nat) (e s : Int32) (b : Int32 × Int32 × List Nat) : (zpm (k + 1) (zrest n tr)).foldl (zbs gap al ti du tr y e s) b = (zrest n tr).foldl (fun b x => (zpm k (zrest n (tr ++ [x]))).foldl (zbs gap al ti du (tr ++ [x]) x (zne gap al ti y e x) (zns gap al ti du y e s x)) b) b := by
  show ((zrest n tr).flatMap (fun x => (zpm k ((zrest n tr).erase x)).map (fun r => x :: r))).foldl (zbs gap al ti du tr y e s) b = _
  rw [zfold_fm]
  congr 1
  funext b x
  rw [List.foldl_map, zrest_erase]
  congr 1
  funext b r
  exact zbs_s tr x y e s b r
theorem ztog {x : Int32} (h : 0 ≤ x) : 0 ≤ x.toInt := Int32.le_iff_toInt_le.mp h
/-- one step keeps the bounds -/
theorem zstep_b (hg : 0 ≤ gap ∧ gap ≤ 20) {x y : Nat} {e s : Int32} (ht : 1 ≤ ti x ∧ ti x ≤ 50) (hd : 0 ≤ du x ∧ du x ≤ 1000) (he : 0 ≤ e.toInt ∧ e.toInt ≤ 1000) (hs : 0 ≤ s.toInt ∧ s.toInt ≤ 100000) : (0 ≤ (zne gap al ti y e x).toInt ∧ (zne gap al ti y e x).toInt ≤ e.toInt + 70) ∧ s.toInt ≤ (zns gap al ti du y e s x).toInt ∧ (zns gap al ti du y e s x).toInt ≤ s.toInt + e.toInt + 70 := by
  have t1 := ztoI ht
  have t2 := ztoI hd
  have t3 := ztoI hg
  have e1 : (1 : Int32).toInt = 1 := rfl
  have e2 : (50 : Int32).toInt = 50 := rfl
  have e3 : (0 : Int32).toInt = 0 := rfl
  have e4 : (1000 : Int32).toInt = 1000 := rfl
  have e5 : (20 : Int32).toInt = 20 := rfl
  rw [e1, e2] at t1
  rw [e3, e4] at t2
  rw [e3, e5] at t3
  have g1 : 0 ≤ (if y = 7 ∨ al y = al x then (0 : Int32) else gap).toInt ∧ (if y = 7 ∨ al y = al x then (0 : Int32) else gap).toInt ≤ 20 := by
    split
    · exact ⟨by decide, by decide⟩
    · exact t3
  have n1 : (zne gap al ti y e x).toInt = e.toInt + (if y = 7 ∨ al y = al x then (0 : Int32) else gap).toInt + (ti x).toInt := by
    unfold zne
    rw [Int32.toInt_add, Int32.toInt_add, Int.bmod_eq_of_le (n := e.toInt + _) (by omega) (by omega), Int.bmod_eq_of_le (by omega) (by omega)]
  have n2 : (zne gap al ti y e x - du x).toInt = (zne gap al ti y e x).toInt - (du x).toInt := by
    rw [Int32.toInt_sub, Int.bmod_eq_of_le (by omega) (by omega)]
  refine ⟨⟨by omega, by omega⟩, ?_⟩
  unfold zns
  split
  · rename_i q
    have q1 := Int32.lt_iff_toInt_lt.mp q
    rw [e3] at q1
    rw [Int32.toInt_add, Int.bmod_eq_of_le (by omega) (by omega)]
    omega
  · rw [Int32.add_zero]
    omega
theorem zco_b (hg : 0 ≤ gap ∧ gap ≤ 20) (hx : ∀ x : Nat, x < n → (1 ≤ ti x ∧ ti x ≤ 50) ∧ (0 ≤ du x ∧ du x ≤ 1000)) : ∀ (r : List Nat) (y : Nat) (e s : Int32), (∀ x ∈ r, x < n) → (0 ≤ e.toInt ∧ e.toInt + 70 * r.length ≤ 1000) → (0 ≤ s.toInt ∧ s.toInt + 1070 * r.length ≤ 100000) → s.toInt ≤ (zco gap al ti du r y e s).1.toInt ∧ (zco gap al ti du r y e s).1.toInt ≤ 100000
  | [], y, e, s, _, he, hs => by
    show s.toInt ≤ s.toInt ∧ s.toInt ≤ 100000
    simp at hs
    omega
  | x :: r, y, e, s, hr, he, hs => by
    rw [zco_s]
    rw [List.length_cons] at he hs
    have hxn := hx x (hr x (List.mem_cons_self ..))
    have k := zstep_b (al := al) (y := y) (e := e) (s := s) hg hxn.1 hxn.2 ⟨he.1, by omega⟩ ⟨hs.1, by omega⟩
    have ih := zco_b hg hx r x (zne gap al ti y e x) (zns gap al ti du y e s x) (fun z hz => hr z (List.mem_cons_of_mem _ hz)) ⟨k.1.1, by omega⟩ ⟨by omega, by omega⟩
    omega
theorem zpm_mem : ∀ (k : Nat) (l r : List Nat), r ∈ zpm k l → r.length = k ∧ ∀ x ∈ r, x ∈ l
  | 0, l, r, h => by
    have : r = [] := by simpa [zpm] using h
    subst this
    exact ⟨rfl, fun x hx => absurd hx (by simp)⟩
  | k + 1, l, r, h => by
    unfold zpm at h
    rw [List.mem_flatMap] at h
    obtain ⟨x, hx, h2⟩ := h
    rw [List.mem_map] at h2
    obtain ⟨r2, h3, rfl⟩ := h2
    obtain ⟨q1, q2⟩ := zpm_mem k (l.erase x) r2 h3
    refine ⟨by rw [List.length_cons, q1], fun z hz => ?_⟩
    rcases List.mem_cons.mp hz with w | w
    · rw [w]; exact hx
    · exact List.mem_of_mem_erase (q2 z w)
theorem zrest_lt {tr : List Nat} {x : Nat} (h : x ∈ zrest n tr) : x < n := by
  unfold zrest at h
  rw [List.mem_filter, List.mem_range] at h
  exact h.1
/-- a sum that is too large already can't win -/
theorem zprune (hg : 0 ≤ gap ∧ gap ≤ 20) (hx : ∀ x : Nat, x < n → (1 ≤ ti x ∧ ti x ≤ 50) ∧ (0 ≤ du x ∧ du x ≤ 1000)) (tr : List Nat) (y : Nat) (e s : Int32) (b : Int32 × Int32 × List Nat) (hb : b.1 < s) : ∀ l : List (List Nat), (∀ r ∈ l, (∀ x ∈ r, x < n) ∧ (0 ≤ e.toInt ∧ e.toInt + 70 * r.length ≤ 1000) ∧ (0 ≤ s.toInt ∧ s.toInt + 1070 * r.length ≤ 100000)) → l.foldl (zbs gap al ti du tr y e s) b = b
  | [], _ => rfl
  | r :: l, h => by
    have h1 := h r (List.mem_cons_self ..)
    have k := (zco_b (al := al) hg hx r y e s h1.1 h1.2.1 h1.2.2).1
    have hb2 := Int32.lt_iff_toInt_lt.mp hb
    have e1 : zbs gap al ti du tr y e s b r = b := by
      unfold zbs
      rw [if_neg]
      rintro (z | z)
      · have := Int32.lt_iff_toInt_lt.mp z
        omega
      · have := congrArg Int32.toInt z.1
        omega
    rw [List.foldl_cons, e1]
    exact zprune hg hx tr y e s b hb l (fun r hr => h r (List.mem_cons_of_mem _ hr))
/-- what the fold leaves is below the start, once there was an order -/
theorem zfold_lt (tr : List Nat) (y : Nat) (e s : Int32) : ∀ (l : List (List Nat)) (b : Int32 × Int32 × List Nat), (l.foldl (zbs gap al ti du tr y e s) b).1 ≤ b.1
  | [], b => Int32.le_refl _
  | r :: l, b => by
    rw [List.foldl_cons]
    have ih := zfold_lt tr y e s l (zbs gap al ti du tr y e s b r)
    refine Int32.le_trans ih ?_
    unfold zbs
    split
    · rename_i q
      rcases q with z | z
      · exact Int32.le_of_lt z
      · exact Int32.le_of_eq z.1
    · exact Int32.le_refl _
end
