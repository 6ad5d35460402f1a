/-! the smallest methods, by hand -/
theorem zvp {i m : Int32} {n : Nat} (h : 0 ≤ i ∧ i < m) (hm : m.toInt = n) : vp_in i n := vp_in_iff.mpr ⟨by have := Int32.le_iff_toInt_le.mp h.1; simpa using this, by rw [← hm]; exact Int32.lt_iff_toInt_lt.mp h.2⟩
theorem w_within (d : Nat) (I : Nat → Nat → Int32) (J : Nat → Nat → Int64) (v lo hi : Int32) (Q : Option Value → zM → Prop) (l1 : (lo ≤ v ∧ v ≤ hi) → Q (some (.int 1)) (I, J, zR, 81)) (l0 : ¬ (lo ≤ v ∧ v ≤ hi) → Q (some (.int 0)) (I, J, zR, 81)) : zT (d + 1) 88 81 [.int v, .int lo, .int hi] (I, J, zR, 81) Q := by
  refine ⟨rfl, fun E At hE hC => ?_⟩
  refine hC 0 _ _ _ ?_
  refine And.intro (fun q1 => ?_) (fun q1 => And.intro (fun q2 => ?_) (fun q2 => ?_))
  · refine hC 14 _ _ _ (hC 15 _ _ _ (And.intro (Or.inl rfl) (l0 ?_)))
    grind
  · refine hC 14 _ _ _ (hC 15 _ _ _ (And.intro (Or.inl rfl) (l0 ?_)))
    grind
  · refine hC 15 _ _ _ (And.intro (Or.inr rfl) (l1 ?_))
    grind
theorem w_X1_has (d : Nat) (I : Nat → Nat → Int32) (J : Nat → Nat → Int64) (i : Int32) (Q : Option Value → zM → Prop) {n : Int32} (e : I 22 10 = n) (l1 : (0 ≤ i ∧ i < n) → Q (some (.int 1)) (I, J, zR, 81)) (l0 : ¬ (0 ≤ i ∧ i < n) → Q (some (.int 0)) (I, J, zR, 81)) : zT (d + 1) 3 81 [.ref 22, .int i] (I, J, zR, 81) Q := by
  subst e
  refine ⟨rfl, fun E At hE hC => ?_⟩
  refine hC 0 _ _ _ ?_
  refine And.intro (fun q1 => ?_) (fun q1 => And.intro (fun q2 => ?_) (fun q2 => ?_))
  · refine hC 16 _ _ _ (hC 17 _ _ _ (And.intro (Or.inl rfl) (l0 ?_)))
    grind
  · refine hC 16 _ _ _ (hC 17 _ _ _ (And.intro (Or.inl rfl) (l0 ?_)))
    have q2 : I 22 10 ≤ i := q2
    grind
  · refine hC 17 _ _ _ (And.intro (Or.inr rfl) (l1 ?_))
    have q2 : ¬ I 22 10 ≤ i := q2
    grind
theorem w_X2_has (d : Nat) (I : Nat → Nat → Int32) (J : Nat → Nat → Int64) (i : Int32) (Q : Option Value → zM → Prop) {n : Int32} (e : I 10 5 = n) (l1 : (0 ≤ i ∧ i < n) → Q (some (.int 1)) (I, J, zR, 81)) (l0 : ¬ (0 ≤ i ∧ i < n) → Q (some (.int 0)) (I, J, zR, 81)) : zT (d + 1) 15 81 [.ref 10, .int i] (I, J, zR, 81) Q := by
  subst e
  refine ⟨rfl, fun E At hE hC => ?_⟩
  refine hC 0 _ _ _ ?_
  refine And.intro (fun q1 => ?_) (fun q1 => And.intro (fun q2 => ?_) (fun q2 => ?_))
  · refine hC 16 _ _ _ (hC 17 _ _ _ (And.intro (Or.inl rfl) (l0 ?_)))
    grind
  · refine hC 16 _ _ _ (hC 17 _ _ _ (And.intro (Or.inl rfl) (l0 ?_)))
    have q2 : I 10 5 ≤ i := q2
    grind
  · refine hC 17 _ _ _ (And.intro (Or.inr rfl) (l1 ?_))
    have q2 : ¬ I 10 5 ≤ i := q2
    grind
theorem w_X6_has (d : Nat) (I : Nat → Nat → Int32) (J : Nat → Nat → Int64) (i : Int32) (Q : Option Value → zM → Prop) {n : Int32} (e : I 1 4 = n) (l1 : (0 ≤ i ∧ i < n) → Q (some (.int 1)) (I, J, zR, 81)) (l0 : ¬ (0 ≤ i ∧ i < n) → Q (some (.int 0)) (I, J, zR, 81)) : zT (d + 1) 39 81 [.ref 1, .int i] (I, J, zR, 81) Q := by
  subst e
  refine ⟨rfl, fun E At hE hC => ?_⟩
  refine hC 0 _ _ _ ?_
  refine And.intro (fun q1 => ?_) (fun q1 => And.intro (fun q2 => ?_) (fun q2 => ?_))
  · refine hC 16 _ _ _ (hC 17 _ _ _ (And.intro (Or.inl rfl) (l0 ?_)))
    grind
  · refine hC 16 _ _ _ (hC 17 _ _ _ (And.intro (Or.inl rfl) (l0 ?_)))
    have q2 : I 1 4 ≤ i := q2
    grind
  · refine hC 17 _ _ _ (And.intro (Or.inr rfl) (l1 ?_))
    have q2 : ¬ I 1 4 ≤ i := q2
    grind
theorem zle64 {a c : Int32} : a.toInt64 ≤ c.toInt64 ↔ a ≤ c := by
  rw [Int64.le_iff_toInt_le, Int32.le_iff_toInt_le, Int32.toInt_toInt64, Int32.toInt_toInt64]
theorem zlt64 {a c : Int32} : a.toInt64 < c.toInt64 ↔ a < c := by
  rw [Int64.lt_iff_toInt_lt, Int32.lt_iff_toInt_lt, Int32.toInt_toInt64, Int32.toInt_toInt64]
theorem zlc0 {x y : Int64} : lg_cmp x y < 0 ↔ x < y := by
  unfold lg_cmp
  constructor
  · intro h
    split at h
    · exact absurd h (by decide)
    · split at h
      · exact absurd h (by decide)
      · grind
  · intro h
    rw [if_neg (by grind), if_neg (by grind)]
    decide
theorem zlc1 {x y : Int64} : 0 < lg_cmp x y ↔ y < x := by
  unfold lg_cmp
  constructor
  · intro h
    split at h
    · assumption
    · split at h
      · exact absurd h (by decide)
      · exact absurd h (by decide)
  · intro h
    rw [if_pos h]
    decide
theorem w_in (d : Nat) (I : Nat → Nat → Int32) (J : Nat → Nat → Int64) (v lo hi : Int64) (Q : Option Value → zM → Prop) (l1 : (lo ≤ v ∧ v ≤ hi) → Q (some (.int 1)) (I, J, zR, 81)) (l0 : ¬ (lo ≤ v ∧ v ≤ hi) → Q (some (.int 0)) (I, J, zR, 81)) : zT (d + 1) 94 81 [.long v, .long lo, .long hi] (I, J, zR, 81) Q := by
  refine ⟨rfl, fun E At hE hC => ?_⟩
  refine hC 0 _ _ _ ?_
  refine And.intro (fun q1 => ?_) (fun q1 => And.intro (fun q2 => ?_) (fun q2 => ?_))
  · refine hC 17 _ _ _ (hC 18 _ _ _ (And.intro (Or.inl rfl) (l0 ?_)))
    have q1 := zlc0.mp q1
    grind
  · refine hC 17 _ _ _ (hC 18 _ _ _ (And.intro (Or.inl rfl) (l0 ?_)))
    have q2 := zlc1.mp q2
    grind
  · refine hC 18 _ _ _ (And.intro (Or.inr rfl) (l1 ?_))
    have q1 := fun z => q1 (zlc0.mpr z)
    have q2 := fun z => q2 (zlc1.mpr z)
    grind
theorem w_in32 (d : Nat) (I : Nat → Nat → Int32) (J : Nat → Nat → Int64) (v lo hi : Int32) (Q : Option Value → zM → Prop) (l1 : (lo ≤ v ∧ v ≤ hi) → Q (some (.int 1)) (I, J, zR, 81)) (l0 : ¬ (lo ≤ v ∧ v ≤ hi) → Q (some (.int 0)) (I, J, zR, 81)) : zT (d + 1) 94 81 [.long v.toInt64, .long lo.toInt64, .long hi.toInt64] (I, J, zR, 81) Q :=
  w_in d I J _ _ _ Q (fun h => l1 ⟨zle64.mp h.1, zle64.mp h.2⟩) (fun h => l0 (fun z => h ⟨zle64.mpr z.1, zle64.mpr z.2⟩))
theorem w_max (d : Nat) (I : Nat → Nat → Int32) (J : Nat → Nat → Int64) (x y : Int32) (Q : Option Value → zM → Prop) (l1 : Q (some (.int (if x < y then y else x))) (I, J, zR, 81)) : zT (d + 1) 149 81 [.int x, .int y] (I, J, zR, 81) Q := by
  refine ⟨rfl, fun E At hE hC => ?_⟩
  refine hC 0 _ _ _ ?_
  refine And.intro (fun q1 => ?_) (fun q1 => ?_)
  · rw [if_pos q1] at l1
    exact hC 9 _ _ _ (hC 10 _ _ _ l1)
  · rw [if_neg q1] at l1
    exact hC 10 _ _ _ l1
theorem w_min (d : Nat) (I : Nat → Nat → Int32) (J : Nat → Nat → Int64) (x y : Int32) (Q : Option Value → zM → Prop) (l1 : Q (some (.int (if y < x then y else x))) (I, J, zR, 81)) : zT (d + 1) 150 81 [.int x, .int y] (I, J, zR, 81) Q := by
  refine ⟨rfl, fun E At hE hC => ?_⟩
  refine hC 0 _ _ _ ?_
  refine And.intro (fun q1 => ?_) (fun q1 => ?_)
  · rw [if_pos q1] at l1
    exact hC 9 _ _ _ (hC 10 _ _ _ l1)
  · rw [if_neg q1] at l1
    exact hC 10 _ _ _ l1
theorem w_X9_isSheet (d : Nat) (I : Nat → Nat → Int32) (J : Nat → Nat → Int64) (s : Int32) (Q : Option Value → zM → Prop) (l1 : (0 ≤ s ∧ s ≤ 3) → Q (some (.int 1)) (I, J, zR, 81)) (l0 : ¬ (0 ≤ s ∧ s ≤ 3) → Q (some (.int 0)) (I, J, zR, 81)) : zT (d + 2) 89 81 [.int s] (I, J, zR, 81) Q := by
  refine ⟨rfl, fun E At hE hC => ?_⟩
  refine hC 0 _ _ _ ?_
  exact hE _ _ _ _ _ (w_within _ _ _ s 0 3 _ (fun q => And.intro (Or.inr rfl) (l1 q)) (fun q => And.intro (Or.inl rfl) (l0 q)))
theorem w_X9_isForm (d : Nat) (I : Nat → Nat → Int32) (J : Nat → Nat → Int64) (s : Int32) (Q : Option Value → zM → Prop) (l1 : (0 ≤ s ∧ s ≤ 2) → Q (some (.int 1)) (I, J, zR, 81)) (l0 : ¬ (0 ≤ s ∧ s ≤ 2) → Q (some (.int 0)) (I, J, zR, 81)) : zT (d + 2) 90 81 [.int s] (I, J, zR, 81) Q := by
  refine ⟨rfl, fun E At hE hC => ?_⟩
  refine hC 0 _ _ _ ?_
  exact hE _ _ _ _ _ (w_within _ _ _ s 0 2 _ (fun q => And.intro (Or.inr rfl) (l1 q)) (fun q => And.intro (Or.inl rfl) (l0 q)))
theorem w_X10_isSheet (d : Nat) (I : Nat → Nat → Int32) (J : Nat → Nat → Int64) (s : Int32) (Q : Option Value → zM → Prop) (l1 : (0 ≤ s ∧ s ≤ 3) → Q (some (.int 1)) (I, J, zR, 81)) (l0 : ¬ (0 ≤ s ∧ s ≤ 3) → Q (some (.int 0)) (I, J, zR, 81)) : zT (d + 2) 138 81 [.int s] (I, J, zR, 81) Q := by
  refine ⟨rfl, fun E At hE hC => ?_⟩
  refine hC 0 _ _ _ ?_
  exact hE _ _ _ _ _ (w_in32 _ _ _ s 0 3 _ (fun q => And.intro (Or.inr rfl) (l1 q)) (fun q => And.intro (Or.inl rfl) (l0 q)))
theorem w_X10_isProfile (d : Nat) (I : Nat → Nat → Int32) (J : Nat → Nat → Int64) (s : Int32) (Q : Option Value → zM → Prop) {n : Int32} (e : I 46 1 = n) (l1 : (0 ≤ s ∧ s ≤ n - 1) → Q (some (.int 1)) (I, J, zR, 81)) (l0 : ¬ (0 ≤ s ∧ s ≤ n - 1) → Q (some (.int 0)) (I, J, zR, 81)) : zT (d + 2) 95 81 [.ref 46, .int s] (I, J, zR, 81) Q := by
  subst e
  refine ⟨rfl, fun E At hE hC => ?_⟩
  refine hC 0 _ _ _ ?_
  exact hE _ _ _ _ _ (w_in32 _ _ _ s 0 (I 46 1 - 1) _ (fun q => And.intro (Or.inr rfl) (l1 q)) (fun q => And.intro (Or.inl rfl) (l0 q)))
theorem w_X10_isDie (d : Nat) (I : Nat → Nat → Int32) (J : Nat → Nat → Int64) (s : Int32) (Q : Option Value → zM → Prop) {n : Int32} (e : I 46 6 = n) (l1 : (0 ≤ s ∧ s ≤ n - 1) → Q (some (.int 1)) (I, J, zR, 81)) (l0 : ¬ (0 ≤ s ∧ s ≤ n - 1) → Q (some (.int 0)) (I, J, zR, 81)) : zT (d + 2) 96 81 [.ref 46, .int s] (I, J, zR, 81) Q := by
  subst e
  refine ⟨rfl, fun E At hE hC => ?_⟩
  refine hC 0 _ _ _ ?_
  exact hE _ _ _ _ _ (w_in32 _ _ _ s 0 (I 46 6 - 1) _ (fun q => And.intro (Or.inr rfl) (l1 q)) (fun q => And.intro (Or.inl rfl) (l0 q)))
theorem w_X10_isBar (d : Nat) (I : Nat → Nat → Int32) (J : Nat → Nat → Int64) (s : Int32) (Q : Option Value → zM → Prop) {n : Int32} (e : I 46 13 = n) (l1 : (0 ≤ s ∧ s ≤ n - 1) → Q (some (.int 1)) (I, J, zR, 81)) (l0 : ¬ (0 ≤ s ∧ s ≤ n - 1) → Q (some (.int 0)) (I, J, zR, 81)) : zT (d + 2) 112 81 [.ref 46, .int s] (I, J, zR, 81) Q := by
  subst e
  refine ⟨rfl, fun E At hE hC => ?_⟩
  refine hC 0 _ _ _ ?_
  exact hE _ _ _ _ _ (w_in32 _ _ _ s 0 (I 46 13 - 1) _ (fun q => And.intro (Or.inr rfl) (l1 q)) (fun q => And.intro (Or.inl rfl) (l0 q)))
theorem zvl_0_3 : vp_in 0 3 := by rw [vp_in_iff]; decide
theorem zvl_0_4 : vp_in 0 4 := by rw [vp_in_iff]; decide
theorem zvl_0_6 : vp_in 0 6 := by rw [vp_in_iff]; decide
theorem zvl_1_3 : vp_in 1 3 := by rw [vp_in_iff]; decide
theorem zvl_1_6 : vp_in 1 6 := by rw [vp_in_iff]; decide
theorem zvl_2_3 : vp_in 2 3 := by rw [vp_in_iff]; decide
theorem zvl_2_6 : vp_in 2 6 := by rw [vp_in_iff]; decide
theorem zvl_3_6 : vp_in 3 6 := by rw [vp_in_iff]; decide
theorem zvl_4_6 : vp_in 4 6 := by rw [vp_in_iff]; decide
theorem zvl_5_6 : vp_in 5 6 := by rw [vp_in_iff]; decide
