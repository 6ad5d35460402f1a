/-! copy -/
theorem zadd_tn {x y : Int32} (hx : 0 ≤ x ∧ x ≤ 1000) (hy : 0 ≤ y ∧ y ≤ 1000) : (x + y).toNatClampNeg = x.toNatClampNeg + y.toNatClampNeg := by
  have h0 : 0 ≤ x + y := by grind
  have e1 := ztn hx.1
  have e2 := ztn hy.1
  have e3 := ztn h0
  have b1 : x.toInt ≤ 1000 := Int32.le_iff_toInt_le.mp hx.2
  have b2 : y.toInt ≤ 1000 := Int32.le_iff_toInt_le.mp hy.2
  have e4 : (x + y).toInt = x.toInt + y.toInt := by
    rw [Int32.toInt_add, Int.bmod_eq_of_le (by omega) (by omega)]
  omega
theorem zlong {i n z : Int32} (hi : ¬ i < 0) (hn : ¬ n < 0) (hz : 0 ≤ z ∧ z ≤ 200) : (0 < lg_cmp (i.toInt64 + n.toInt64) z.toInt64 ↔ ¬ n ≤ z - i) := by
  have a1 : 0 ≤ i.toInt := by
    have : ¬ i.toInt < 0 := fun q => hi (Int32.lt_iff_toInt_lt.mpr q)
    omega
  have a2 : 0 ≤ n.toInt := by
    have : ¬ n.toInt < 0 := fun q => hn (Int32.lt_iff_toInt_lt.mpr q)
    omega
  have a3 : 0 ≤ z.toInt ∧ z.toInt ≤ 200 := ztoI hz
  have b1 := Int32.toInt_lt i
  have b2 := Int32.toInt_lt n
  rw [zlc1, Int64.lt_iff_toInt_lt, Int32.le_iff_toInt_le, Int64.toInt_add, Int32.toInt_toInt64, Int32.toInt_toInt64, Int32.toInt_toInt64, Int32.toInt_sub, Int.bmod_eq_of_le (by omega) (by omega), Int.bmod_eq_of_le (by omega) (by omega)]
  omega
theorem zlong2 {i n z : Int32} (hi : ¬ i < 0) (hn : ¬ n < 0) (hz : 0 ≤ z ∧ z ≤ 200) : (lg_cmp (i.toInt64 + n.toInt64) z.toInt64 ≤ 0 ↔ n ≤ z - i) := by
  have := zlong hi hn hz
  constructor
  · intro q; exact Classical.byContradiction fun w => by have := this.mpr w; grind
  · intro q
    have w : ¬ 0 < lg_cmp (i.toInt64 + n.toInt64) z.toInt64 := fun w => this.mp w q
    grind
theorem zcpy_0 {f g : Nat → Int32} {sp dp : Nat} : va_cpy f g sp dp 0 = g := by
  funext k
  unfold va_cpy
  rw [if_neg (by omega)]
theorem zcpy_s {f g : Nat → Int32} {sp dp n : Nat} : va_cpy f g sp dp (n + 1) = va_up (va_cpy f g sp dp n) (dp + n) (f (sp + n)) := by
  funext k
  by_cases q : k = dp + n
  · rw [q, zup_eq]
    unfold va_cpy
    rw [if_pos (by omega)]
    congr 1
    omega
  · rw [zup_ne q]
    unfold va_cpy
    by_cases w : dp ≤ k ∧ k < dp + n
    · rw [if_pos w, if_pos (by omega)]
    · rw [if_neg w, if_neg (by omega)]
/-- where a piece lies that fits a sheet -/
theorem zpc {s i n z a : Int32} (hs : 0 ≤ s ∧ s ≤ 3) (hi : ¬ i < 0) (hz : 0 ≤ z ∧ z ≤ 200) (hn : n ≤ z - i) (h0 : 0 ≤ a) (ha : a < n) : (0 ≤ 200 * s + i + a ∧ 200 * s + i + a < 800) ∧ (200 * s + i + a).toNatClampNeg = (200 * s + i).toNatClampNeg + a.toNatClampNeg ∧ (0 ≤ a ∧ a < 200) := by
  have hi2 : 0 ≤ i ∧ i + a < 200 ∧ i < 200 ∧ a < 200 ∧ 0 ≤ i + a := by
    have a1 : 0 ≤ i.toInt := by
      have : ¬ i.toInt < 0 := fun q => hi (Int32.lt_iff_toInt_lt.mpr q)
      omega
    have a3 : 0 ≤ z.toInt ∧ z.toInt ≤ 200 := ztoI hz
    have a4 : 0 ≤ a.toInt := Int32.le_iff_toInt_le.mp h0
    have a5 := Int32.lt_iff_toInt_lt.mp ha
    have b1 := Int32.toInt_lt i
    have a6 := Int32.le_iff_toInt_le.mp hn
    rw [Int32.toInt_sub, Int.bmod_eq_of_le (by omega) (by omega)] at a6
    have e : (i + a).toInt = i.toInt + a.toInt := by rw [Int32.toInt_add, Int.bmod_eq_of_le (by omega) (by omega)]
    have e2 : (200 : Int32).toInt = 200 := rfl
    refine ⟨Int32.le_iff_toInt_le.mpr a1, Int32.lt_iff_toInt_lt.mpr (by omega), Int32.lt_iff_toInt_lt.mpr (by omega), Int32.lt_iff_toInt_lt.mpr (by omega), Int32.le_iff_toInt_le.mpr (by rw [e]; show (0 : Int) ≤ _; omega)⟩
  have k1 := zb800b hs ⟨hi2.1, hi2.2.2.1⟩
  have k2 := zb800b hs ⟨hi2.2.2.2.2, hi2.2.1⟩
  have e : 200 * s + i + a = 200 * s + (i + a) := Int32.add_assoc _ _ _
  refine ⟨by rw [e]; exact k2, zadd_tn (by clear e k2; grind) (by clear e k1 k2; grind), h0, hi2.2.2.2.1⟩
theorem g_copy158 (d : Nat) (E : zE) (At : Nat → zC) (Q : Option Value → zM → Prop) (hE : ∀ y n a M' Q', zT (d + 0) y n a M' Q' → E y n a M' Q') (hC : ∀ pc st L M', zX 81 E Q At (zlk B_X10_copy pc) st L M' → At pc st L M') (I : Nat → Nat → Int32) (J : Nat → Nat → Int64) (s i t j n zt : Int32) (ht : 0 ≤ t ∧ t ≤ 3) (hj : ¬ j < 0) (hn0 : ¬ n < 0) (hzt : 0 ≤ zt ∧ zt ≤ 200) (hnt : n ≤ zt - j) (hn2 : 0 ≤ n ∧ n ≤ 200) (it : Nat → Int32) (sp : Nat) (hm : ∀ a : Nat, a < n.toNatClampNeg → I 80 a = it (sp + a)) (hQ : Q (some (.int 1)) (va_up I 79 (va_cpy it it sp (200 * t + j).toNatClampNeg n.toNatClampNeg), J, zR, 81)) : ∀ (r : Nat) (a : Int32), 0 ≤ a → n.toNatClampNeg = a.toNatClampNeg + r → At 158 [] [some (.ref 46), some (.int s), some (.int i), some (.int t), some (.int j), some (.int n), some (.int a)] (va_up I 79 (va_cpy it it sp (200 * t + j).toNatClampNeg a.toNatClampNeg), J, zR, 81)
  | 0, a, h0, hr => by
    have hl : n ≤ a := zlast h0 hn2.1 hr
    have e : a.toNatClampNeg = n.toNatClampNeg := by omega
    rw [e]
    exact g_X10_copy_158 d E At Q hE hC _ J s i t j n a (show _ = I 80 from rfl) (fun q => absurd hl q) (fun q => absurd hl q) (fun q => absurd hl q) (fun _ => hQ)
  | r + 1, a, h0, hr => by
    obtain ⟨h1, h2, h3⟩ := znext h0 (by clear hE hC hQ hm; grind) hr
    obtain ⟨p1, p2, p3⟩ := zpc ht hj hzt hnt h0 h1
    refine g_X10_copy_158 d E At Q hE hC _ J s i t j n a (show _ = I 80 from rfl) (fun _ => p3) (fun _ => p1) (fun _ => ?_) (fun q => absurd h1 (by clear hE hC hQ hm; grind))
    have ih := g_copy158 d E At Q hE hC I J s i t j n zt ht hj hn0 hzt hnt hn2 it sp hm hQ r (a + 1) h2 h3
    have e : (a + 1).toNatClampNeg = a.toNatClampNeg + 1 := by omega
    rw [e, zcpy_s, ← p2, ← hm a.toNatClampNeg (by omega), ← zuu (v := va_cpy it it sp (200 * t + j).toNatClampNeg a.toNatClampNeg)] at ih
    exact ih
theorem g_copy120 (d : Nat) (E : zE) (At : Nat → zC) (Q : Option Value → zM → Prop) (hE : ∀ y n a M' Q', zT (d + 0) y n a M' Q' → E y n a M' Q') (hC : ∀ pc st L M', zX 81 E Q At (zlk B_X10_copy pc) st L M' → At pc st L M') (I : Nat → Nat → Int32) (J : Nat → Nat → Int64) (s i t j n zs : Int32) (hs : 0 ≤ s ∧ s ≤ 3) (hi : ¬ i < 0) (hzs : 0 ≤ zs ∧ zs ≤ 200) (hns : n ≤ zs - i) (hn2 : 0 ≤ n ∧ n ≤ 200) (hA : ∀ m : Nat → Int32, (∀ a : Nat, a < n.toNatClampNeg → m a = I 79 ((200 * s + i).toNatClampNeg + a)) → At 158 [] [some (.ref 46), some (.int s), some (.int i), some (.int t), some (.int j), some (.int n), some (.int 0)] (va_up I 80 m, J, zR, 81)) : ∀ (r : Nat) (a : Int32) (m : Nat → Int32), 0 ≤ a → n.toNatClampNeg = a.toNatClampNeg + r → (∀ b : Nat, b < a.toNatClampNeg → m b = I 79 ((200 * s + i).toNatClampNeg + b)) → At 120 [] [some (.ref 46), some (.int s), some (.int i), some (.int t), some (.int j), some (.int n), some (.int a)] (va_up I 80 m, J, zR, 81)
  | 0, a, m, h0, hr, hm => by
    have hl : n ≤ a := zlast h0 hn2.1 hr
    exact g_X10_copy_120 d E At Q hE hC _ J s i t j n a (show _ = I 79 from rfl) (fun q => absurd hl q) (fun q => absurd hl q) (fun _ => hA m (fun b hb => hm b (by omega))) (fun q => absurd hl q)
  | r + 1, a, m, h0, hr, hm => by
    obtain ⟨h1, h2, h3⟩ := znext h0 (by clear hE hC hA hm; grind) hr
    obtain ⟨p1, p2, p3⟩ := zpc hs hi hzs hns h0 h1
    refine g_X10_copy_120 d E At Q hE hC _ J s i t j n a (show _ = I 79 from rfl) (fun _ => p1) (fun _ => p3) (fun q => absurd h1 (by clear hE hC hA hm; grind)) (fun _ => ?_)
    have e : (a + 1).toNatClampNeg = a.toNatClampNeg + 1 := by omega
    have ih := g_copy120 d E At Q hE hC I J s i t j n zs hs hi hzs hns hn2 hA r (a + 1) (va_up m a.toNatClampNeg (I 79 (200 * s + i + a).toNatClampNeg)) h2 h3 (fun b hb => by
      by_cases q : b = a.toNatClampNeg
      · rw [q, zup_eq, p2]
      · rw [zup_ne q]; exact hm b (by omega))
    rw [← zuu (v := m)] at ih
    exact ih
theorem zsz_n {n z i : Int32} (hi : ¬ i < 0) (hn : ¬ n < 0) (hz : 0 ≤ z ∧ z ≤ 200) (h : n ≤ z - i) : 0 ≤ n ∧ n ≤ 200 := by
  have a1 : 0 ≤ i.toInt := by
    have : ¬ i.toInt < 0 := fun q => hi (Int32.lt_iff_toInt_lt.mpr q)
    omega
  have a2 : 0 ≤ n.toInt := by
    have : ¬ n.toInt < 0 := fun q => hn (Int32.lt_iff_toInt_lt.mpr q)
    omega
  have a3 : 0 ≤ z.toInt ∧ z.toInt ≤ 200 := ztoI hz
  have b1 := Int32.toInt_lt i
  have a6 := Int32.le_iff_toInt_le.mp h
  rw [Int32.toInt_sub, Int.bmod_eq_of_le (by omega) (by omega)] at a6
  have e2 : (200 : Int32).toInt = 200 := rfl
  exact ⟨Int32.le_iff_toInt_le.mpr a2, Int32.le_iff_toInt_le.mpr (by omega)⟩
set_option maxHeartbeats 4000000 in
theorem w_copy10 (d : Nat) (I : Nat → Nat → Int32) (J : Nat → Nat → Int64) (a1 a2 a3 a4 a5 : Int32) (Q : Option Value → zM → Prop) {fi fi' : Int32} {it fo sz it' fo' sz' : Nat → Int32} (hh : zRh fi fi' it fo sz it' fo' sz') (e77 : I 77 = fo') (e78 : I 78 = sz') (e79 : I 79 = it') (l0 : ¬ ((0 ≤ a1 ∧ a1 ≤ 3) ∧ (0 ≤ a3 ∧ a3 ≤ 3)) → Q (some (.int (-2))) (I, J, zR, 81)) (l1 : (0 ≤ a1 ∧ a1 ≤ 3) → (0 ≤ a3 ∧ a3 ≤ 3) → (sz a1.toNatClampNeg = -1 ∨ sz a3.toNatClampNeg = -1) → Q (some (.int (-10 - 1))) (zwI (I, J, zR, 81) 46 51 1)) (l2 : (0 ≤ a1 ∧ a1 ≤ 3) → (0 ≤ a3 ∧ a3 ≤ 3) → ¬ sz a1.toNatClampNeg = -1 → ¬ sz a3.toNatClampNeg = -1 → ¬ fo a1.toNatClampNeg = fo a3.toNatClampNeg → Q (some (.int (-10 - 4))) (zwI (I, J, zR, 81) 46 51 4)) (l3 : (0 ≤ a1 ∧ a1 ≤ 3) → (0 ≤ a3 ∧ a3 ≤ 3) → ¬ sz a1.toNatClampNeg = -1 → ¬ sz a3.toNatClampNeg = -1 → fo a1.toNatClampNeg = fo a3.toNatClampNeg → ¬ (¬ a2 < 0 ∧ ¬ a4 < 0 ∧ ¬ a5 < 0 ∧ a5 ≤ sz a1.toNatClampNeg - a2 ∧ a5 ≤ sz a3.toNatClampNeg - a4) → Q (some (.int (-10 - 2))) (zwI (I, J, zR, 81) 46 51 2)) (l4 : (0 ≤ a1 ∧ a1 ≤ 3) → (0 ≤ a3 ∧ a3 ≤ 3) → ¬ sz a1.toNatClampNeg = -1 → ¬ sz a3.toNatClampNeg = -1 → fo a1.toNatClampNeg = fo a3.toNatClampNeg → (¬ a2 < 0 ∧ ¬ a4 < 0 ∧ ¬ a5 < 0 ∧ a5 ≤ sz a1.toNatClampNeg - a2 ∧ a5 ≤ sz a3.toNatClampNeg - a4) → ∀ m : Nat → Int32, Q (some (.int 1)) (va_up (va_up I 80 m) 79 (va_cpy it it (200 * a1 + a2).toNatClampNeg (200 * a3 + a4).toNatClampNeg a5.toNatClampNeg), J, zR, 81)) : zT (d + 3) 144 81 [.ref 46, .int a1, .int a2, .int a3, .int a4, .int a5] (I, J, zR, 81) Q := by
  have key : ∀ s : Int32, (0 ≤ s ∧ s ≤ 3) → (fo' s.toNatClampNeg < 0 ↔ sz s.toNatClampNeg = -1) ∧ (¬ sz s.toNatClampNeg = -1 → fo' s.toNatClampNeg = fo s.toNatClampNeg ∧ sz' s.toNatClampNeg = sz s.toNatClampNeg ∧ 0 ≤ sz s.toNatClampNeg ∧ sz s.toNatClampNeg ≤ 200) := fun s hs => by
    rcases hh.2.2 s hs.1 hs.2 with z | z
    · refine ⟨⟨fun _ => z.1, fun _ => by rw [z.2]; decide⟩, fun q => absurd z.1 q⟩
    · obtain ⟨z1, z2, z3, z4⟩ := z
      refine ⟨⟨fun q => ?_, fun q => ?_⟩, fun _ => ⟨z3, z2, z1⟩⟩
      · rw [z3] at q; exfalso; clear hh l0 l1 l2 l3 l4; grind
      · rw [q] at z1; exact absurd z1.1 (by decide)
  have four : ∀ s : Int32, (0 ≤ s ∧ s ≤ 3) → 0 ≤ s ∧ s < 4 := fun s hs => by clear hh l0 l1 l2 l3 l4 key; grind
  have nn : ∀ s : Int32, (0 ≤ s ∧ s ≤ 3) → (¬ fo' s.toNatClampNeg < 0 → ¬ sz s.toNatClampNeg = -1) := fun s hs q z => q ((key s hs).1.mpr z)
  have np : ∀ s : Int32, (0 ≤ s ∧ s ≤ 3) → (0 ≤ fo' s.toNatClampNeg → ¬ sz s.toNatClampNeg = -1) := fun s hs q z => by
    have := (key s hs).1.mpr z
    clear hh l0 l1 l2 l3 l4 key
    grind
  have feq : (0 ≤ a1 ∧ a1 ≤ 3) → (0 ≤ a3 ∧ a3 ≤ 3) → ¬ fo' a1.toNatClampNeg < 0 → 0 ≤ fo' a3.toNatClampNeg → (fo' a1.toNatClampNeg = fo' a3.toNatClampNeg ↔ fo a1.toNatClampNeg = fo a3.toNatClampNeg) := fun q1 q2 q3 q4 => by rw [((key a1 q1).2 (nn a1 q1 q3)).1, ((key a3 q2).2 (np a3 q2 q4)).1]
  refine ⟨rfl, fun E At hE hC => ?_⟩
  refine g_X10_copy_0 d E At Q hE hC I J a1 a2 a3 a4 a5 e77 e78 (fun q1 _ => four a1 q1) (fun _ q2 _ => four a3 q2) (fun q1 _ _ _ => four a1 q1) (fun _ q2 _ _ => four a3 q2) (fun q1 _ _ _ _ _ _ _ => four a1 q1) (fun _ q2 _ _ _ _ _ _ _ => four a3 q2) (fun q1 q2 q3 q4 q5 q6 q7 q8 q9 q10 => ?_) (fun q1 q2 q3 => l1 q1 q2 (Or.inl ((key a1 q1).1.mp q3))) (fun q1 q2 q3 q4 q5 q6 => l3 q1 q2 (nn a1 q1 q3) (np a3 q2 q4) ((feq q1 q2 q3 q4).mp q5) (fun z => z.1 q6)) (fun q1 q2 q3 q4 q5 q6 q7 => l3 q1 q2 (nn a1 q1 q3) (np a3 q2 q4) ((feq q1 q2 q3 q4).mp q5) (fun z => z.2.1 q7)) (fun q1 q2 q3 q4 q5 q6 q7 q8 => l3 q1 q2 (nn a1 q1 q3) (np a3 q2 q4) ((feq q1 q2 q3 q4).mp q5) (fun z => z.2.2.1 q8)) (fun q1 q2 q3 q4 q5 q6 q7 q8 q9 => ?_) (fun q1 q2 q3 q4 q5 q6 q7 q8 q9 q10 => ?_) (fun q1 q2 q3 q4 q5 => l2 q1 q2 (nn a1 q1 q3) (np a3 q2 q4) (fun z => q5 ((feq q1 q2 q3 q4).mpr z))) (fun q1 q2 q3 q4 => l1 q1 q2 (Or.inr ((key a3 q2).1.mp (by clear hh l0 l1 l2 l3 l4 key nn np feq four hE hC; grind)))) (fun q1 q2 => l0 (fun z => q2 z.2)) (fun q1 => l0 (fun z => q1 z.1))
  · have k1 := (key a1 q1).2 (nn a1 q1 q3)
    have k3 := (key a3 q2).2 (np a3 q2 q4)
    rw [k1.2.1, zlong q6 q8 k1.2.2] at q9
    rw [k3.2.1, zlong2 q7 q8 k3.2.2] at q10
    have q9' : a5 ≤ sz a1.toNatClampNeg - a2 := Classical.byContradiction q9
    have hn2 := zsz_n q6 q8 k1.2.2 q9'
    have l5 := l4 q1 q2 (nn a1 q1 q3) (np a3 q2 q4) ((feq q1 q2 q3 q4).mp q5) ⟨q6, q7, q8, q9', q10⟩
    have hit : it' = it := hh.2.1
    have ih := g_copy120 (d + 2) E At Q hE hC I J a1 a2 a3 a4 a5 (sz a1.toNatClampNeg) q1 q6 k1.2.2 q9' hn2 (fun m hm => by
      have i2 := g_copy158 (d + 2) E At Q hE hC (va_up I 80 m) J a1 a2 a3 a4 a5 (sz a3.toNatClampNeg) q2 q7 q8 k3.2.2 q10 hn2 it (200 * a1 + a2).toNatClampNeg (fun a ha => (hm a ha).trans (by rw [e79, hit])) (l5 m) a5.toNatClampNeg 0 (by decide) (Nat.zero_add _).symm
      have e0 : (0 : Int32).toNatClampNeg = 0 := rfl
      rw [e0, zcpy_0, zup_same (f := va_up I 80 m) (k := 79) (v := it) (e79.trans hit)] at i2
      exact i2) a5.toNatClampNeg 0 (I 80) (by decide) (Nat.zero_add _).symm (fun b hb => absurd hb (Nat.not_lt_zero b))
    rw [zself] at ih
    exact ih
  · have k1 := (key a1 q1).2 (nn a1 q1 q3)
    rw [k1.2.1, zlong q6 q8 k1.2.2] at q9
    exact l3 q1 q2 (nn a1 q1 q3) (np a3 q2 q4) ((feq q1 q2 q3 q4).mp q5) (fun z => q9 z.2.2.2.1)
  · have k3 := (key a3 q2).2 (np a3 q2 q4)
    rw [k3.2.1, zlong2 q7 q8 k3.2.2] at q10
    exact l3 q1 q2 (nn a1 q1 q3) (np a3 q2 q4) ((feq q1 q2 q3 q4).mp q5) (fun z => q10 z.2.2.2.2)
set_option maxHeartbeats 4000000 in
theorem w_move (d : Nat) (I : Nat → Nat → Int32) (J : Nat → Nat → Int64) (a1 a2 a3 a4 a5 : Int32) (Q : Option Value → zM → Prop) (hsz : ∀ s : Int32, 0 ≤ s → s ≤ 3 → I 45 s.toNatClampNeg = -1 ∨ (0 ≤ I 45 s.toNatClampNeg ∧ I 45 s.toNatClampNeg ≤ 200)) (q1 : 0 ≤ a1 ∧ a1 ≤ 3) (q2 : 0 ≤ a3 ∧ a3 ≤ 3) (l1 : (I 45 a1.toNatClampNeg = -1 ∨ I 45 a3.toNatClampNeg = -1) → Q (some (.int (-10 - 1))) (zwI (I, J, zR, 81) 42 1 1)) (l2 : ¬ I 45 a1.toNatClampNeg = -1 → ¬ I 45 a3.toNatClampNeg = -1 → ¬ I 44 a1.toNatClampNeg = I 44 a3.toNatClampNeg → Q (some (.int (-10 - 4))) (zwI (I, J, zR, 81) 42 1 4)) (l3 : ¬ I 45 a1.toNatClampNeg = -1 → ¬ I 45 a3.toNatClampNeg = -1 → I 44 a1.toNatClampNeg = I 44 a3.toNatClampNeg → ¬ (¬ a2 < 0 ∧ ¬ a4 < 0 ∧ ¬ a5 < 0 ∧ a5 ≤ I 45 a1.toNatClampNeg - a2 ∧ a5 ≤ I 45 a3.toNatClampNeg - a4) → Q (some (.int (-10 - 2))) (zwI (I, J, zR, 81) 42 1 2)) (l4 : ¬ I 45 a1.toNatClampNeg = -1 → ¬ I 45 a3.toNatClampNeg = -1 → I 44 a1.toNatClampNeg = I 44 a3.toNatClampNeg → (¬ a2 < 0 ∧ ¬ a4 < 0 ∧ ¬ a5 < 0 ∧ a5 ≤ I 45 a1.toNatClampNeg - a2 ∧ a5 ≤ I 45 a3.toNatClampNeg - a4) → Q (some (.int 1)) (va_up I 43 (va_cpy (I 43) (I 43) (200 * a1 + a2).toNatClampNeg (200 * a3 + a4).toNatClampNeg a5.toNatClampNeg), J, zR, 81)) : zT (d + 2) 47 81 [.ref 42, .int a1, .int a2, .int a3, .int a4, .int a5] (I, J, zR, 81) Q := by
  have four : ∀ s : Int32, (0 ≤ s ∧ s ≤ 3) → 0 ≤ s ∧ s < 4 := fun s hs => by clear hsz l1 l2 l3 l4; grind
  have f1 := four a1 q1
  have f3 := four a3 q2
  have gl : ∀ x y : Int32, ¬ x < y → y ≤ x := fun x y h => by clear hsz l1 l2 l3 l4; grind
  refine ⟨rfl, fun E At hE hC => ?_⟩
  replace hC : ∀ pc st L M', zX 81 E Q At (zlk B_X7_move pc) st L M' → At pc st L M' := hC
  refine g_X7_move_0 d E At Q hE hC I J a1 a2 a3 a4 a5 (show _ = I 44 from rfl) (show _ = I 45 from rfl) f1 (fun _ => f3) (fun _ _ => f1) (fun _ _ => f3) (fun _ _ _ _ _ _ => f1) (fun _ _ _ _ _ _ _ => f3) (fun c1 c2 c3 c4 c5 c6 c7 c8 => ?_) (fun c1 => l1 (Or.inl c1)) (fun c1 c2 c3 c4 => l3 c1 c2 c3 (fun z => z.1 c4)) (fun c1 c2 c3 c4 c5 => l3 c1 c2 c3 (fun z => z.2.1 c5)) (fun c1 c2 c3 c4 c5 c6 => l3 c1 c2 c3 (fun z => z.2.2.1 c6)) (fun c1 c2 c3 c4 c5 c6 c7 => l3 c1 c2 c3 (fun z => by have := z.2.2.2.1; clear hsz l1 l2 l3 l4 hE hC; grind)) (fun c1 c2 c3 c4 c5 c6 c7 c8 => l3 c1 c2 c3 (fun z => c8 z.2.2.2.2)) (fun c1 c2 c3 => l2 c1 c2 c3) (fun c1 c2 => l1 (Or.inr c2))
  refine hC 94 [] [some (.ref 42), some (.int a1), some (.int a2), some (.int a3), some (.int a4), some (.int a5)] _ ?_
  have c7' := gl _ _ c7
  have z1 : 0 ≤ I 45 a1.toNatClampNeg ∧ I 45 a1.toNatClampNeg ≤ 200 := by
    rcases hsz a1 q1.1 q1.2 with z | z
    · exact absurd z c1
    · exact z
  have z3 : 0 ≤ I 45 a3.toNatClampNeg ∧ I 45 a3.toNatClampNeg ≤ 200 := by
    rcases hsz a3 q2.1 q2.2 with z | z
    · exact absurd z c2
    · exact z
  have l5 := l4 c1 c2 c3 ⟨c4, c5, c6, c7', c8⟩
  have hn2 := zsz_n c4 c6 z1 c7'
  have fit : ∀ s i z : Int32, (0 ≤ s ∧ s ≤ 3) → ¬ i < 0 → (0 ≤ z ∧ z ≤ 200) → a5 ≤ z - i → 0 ≤ i ∧ ¬ s * 200 + i < 0 ∧ (s * 200 + i).toNatClampNeg + a5.toNatClampNeg ≤ 800 := fun s i z hs hi hz hle => by
    have e200 : (200 : Int32).toInt = 200 := rfl
    have b1 := Int32.toInt_lt i
    have t1 : 0 ≤ i.toInt := by
      have : ¬ i.toInt < 0 := fun q => hi (Int32.lt_iff_toInt_lt.mpr q)
      omega
    have t2 : 0 ≤ z.toInt ∧ z.toInt ≤ 200 := ztoI hz
    have t3 : 0 ≤ a5.toInt := Int32.le_iff_toInt_le.mp hn2.1
    have t4 := Int32.le_iff_toInt_le.mp hle
    rw [Int32.toInt_sub, Int.bmod_eq_of_le (by omega) (by omega)] at t4
    have t5 : 0 ≤ i := Int32.le_iff_toInt_le.mpr t1
    have h9 : s = 0 ∨ s = 1 ∨ s = 2 ∨ s = 3 := by clear hsz l1 l2 l3 l4 l5 hE hC; grind
    have t6 : 0 ≤ s * 200 ∧ (s * 200).toInt ≤ 600 := by rcases h9 with rfl | rfl | rfl | rfl <;> decide
    have t7 : (s * 200 + i).toInt = (s * 200).toInt + i.toInt := by
      have : 0 ≤ (s * 200).toInt := Int32.le_iff_toInt_le.mp t6.1
      rw [Int32.toInt_add, Int.bmod_eq_of_le (by omega) (by omega)]
    have t8 : 0 ≤ (s * 200).toInt := Int32.le_iff_toInt_le.mp t6.1
    have t9 : 0 ≤ s * 200 + i := Int32.le_iff_toInt_le.mpr (by rw [t7]; show (0 : Int) ≤ _; omega)
    have e1 := ztn t9
    have e2 := ztn hn2.1
    refine ⟨t5, fun q => ?_, ?_⟩
    · have := Int32.lt_iff_toInt_lt.mp q
      have e0 : (0 : Int32).toInt = 0 := rfl
      omega
    · omega
  have w1 := fit a1 a2 _ q1 c4 z1 c7'
  have w3 := fit a3 a4 _ q2 c5 z3 c8
  refine ⟨w1.2.1, w3.2.1, c6, w1.2.2, w3.2.2, ?_⟩
  rw [Int32.mul_comm 200 a1, Int32.mul_comm 200 a3] at l5
  exact l5
set_option maxHeartbeats 4000000 in
theorem op_copy (I : Nat → Nat → Int32) (J : Nat → Nat → Int64) (hR : zRel I J) (a1 a2 a3 a4 a5 : Int32) (Q : Option Value → zM → Prop) (h : ∀ r I1 J1, (∀ Q' : Option Value → zM → Prop, (∀ I2 J2, zRel I2 J2 → Q' (some (.int r)) (I2, J2, zR, 81)) → zT 60 144 81 [.ref 46, .int a1, .int a2, .int a3, .int a4, .int a5] (I1, J1, zR, 81) Q') → Q (some (.int r)) (I1, J1, zR, 81)) : zT 60 85 81 [.ref 0, .int a1, .int a2, .int a3, .int a4, .int a5] (I, J, zR, 81) Q := by
  obtain ⟨hp, hd, ho, hl, hb, hk, hq, ha, hs, hj, hc, hh, ht⟩ := id hR
  have bad : ¬ ((0 ≤ a1 ∧ a1 ≤ 3) ∧ (0 ≤ a3 ∧ a3 ≤ 3)) → Q (some (.int (-2))) (I, J, zR, 81) := fun c =>
    h _ _ _ (fun Q' hQ => w_copy10 57 I J a1 a2 a3 a4 a5 Q' hh rfl rfl rfl (fun _ => hQ _ _ hR) (fun q1 q2 => absurd ⟨q1, q2⟩ c) (fun q1 q2 => absurd ⟨q1, q2⟩ c) (fun q1 q2 => absurd ⟨q1, q2⟩ c) (fun q1 q2 => absurd ⟨q1, q2⟩ c))
  refine ⟨rfl, fun E At hE hC => ?_⟩
  replace hC : ∀ pc st L M', zX 81 E Q At (zlk B_X9_copy pc) st L M' → At pc st L M' := hC
  refine hC 0 [] [some (.ref 0), some (.int a1), some (.int a2), some (.int a3), some (.int a4), some (.int a5)] _ ?_
  refine hE _ _ _ _ _ (w_X9_isSheet 57 I J a1 _ (fun c1 => ?_) (fun c1 => ?_))
  · refine And.intro (fun qz => absurd qz (by decide)) (fun _ => ?_)
    refine hE _ _ _ _ _ (w_X9_isSheet 57 I J a3 _ (fun c2 => ?_) (fun c2 => ?_))
    · refine And.intro (fun _ => ?_) (fun qz => absurd qz (by decide))
      refine hC 17 [] [some (.ref 0), some (.int a1), some (.int a2), some (.int a3), some (.int a4), some (.int a5)] _ ?_
      refine hE _ _ _ _ _ (w_move 57 I J a1 a2 a3 a4 a5 _ (fun s h1 h2 => ?_) c1 c2 (fun q => ?_) (fun q1 q2 q3 => ?_) (fun q1 q2 q3 q4 => ?_) (fun q1 q2 q3 q4 => ?_))
      · rcases hh.2.2 s h1 h2 with z | z
        · exact Or.inl z.1
        · exact Or.inr z.1
      · exact h _ _ _ (fun Q' hQ => w_copy10 57 _ J a1 a2 a3 a4 a5 Q' hh rfl rfl rfl (fun z => absurd ⟨c1, c2⟩ z) (fun _ _ _ => hQ _ _ ⟨hp, hd, ho, hl, hb, hk, hq, ha, hs, hj, hc, zRh_fi hh, ht⟩) (fun _ _ y1 y2 => by rcases q with z | z; exact absurd z y1; exact absurd z y2) (fun _ _ y1 y2 => by rcases q with z | z; exact absurd z y1; exact absurd z y2) (fun _ _ y1 y2 => by rcases q with z | z; exact absurd z y1; exact absurd z y2))
      · exact h _ _ _ (fun Q' hQ => w_copy10 57 _ J a1 a2 a3 a4 a5 Q' hh rfl rfl rfl (fun z => absurd ⟨c1, c2⟩ z) (fun _ _ q => by rcases q with z | z; exact absurd z q1; exact absurd z q2) (fun _ _ _ _ _ => hQ _ _ ⟨hp, hd, ho, hl, hb, hk, hq, ha, hs, hj, hc, zRh_fi hh, ht⟩) (fun _ _ _ _ y => absurd y q3) (fun _ _ _ _ y => absurd y q3))
      · exact h _ _ _ (fun Q' hQ => w_copy10 57 _ J a1 a2 a3 a4 a5 Q' hh rfl rfl rfl (fun z => absurd ⟨c1, c2⟩ z) (fun _ _ q => by rcases q with z | z; exact absurd z q1; exact absurd z q2) (fun _ _ _ _ y => absurd q3 y) (fun _ _ _ _ _ _ => hQ _ _ ⟨hp, hd, ho, hl, hb, hk, hq, ha, hs, hj, hc, zRh_fi hh, ht⟩) (fun _ _ _ _ _ y => absurd y q4))
      · exact h _ _ _ (fun Q' hQ => w_copy10 57 _ J a1 a2 a3 a4 a5 Q' hh rfl rfl rfl (fun z => absurd ⟨c1, c2⟩ z) (fun _ _ q => by rcases q with z | z; exact absurd z q1; exact absurd z q2) (fun _ _ _ _ y => absurd q3 y) (fun _ _ _ _ _ y => absurd q4 y) (fun _ _ _ _ _ _ m => hQ _ _ ⟨hp, hd, ho, hl, hb, hk, hq, ha, hs, hj, hc, ⟨hh.1, rfl, hh.2.2⟩, ht⟩))
    · refine And.intro (fun qz => absurd rfl qz) (fun _ => ?_)
      exact hC 14 [] [some (.ref 0), some (.int a1), some (.int a2), some (.int a3), some (.int a4), some (.int a5)] _ (bad (fun z => c2 z.2))
  · refine And.intro (fun _ => ?_) (fun qz => absurd rfl qz)
    exact hC 14 [] [some (.ref 0), some (.int a1), some (.int a2), some (.int a3), some (.int a4), some (.int a5)] _ (bad (fun z => c1 z.1))
