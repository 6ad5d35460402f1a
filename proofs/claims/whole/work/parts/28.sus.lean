theorem g_X10_isSuspect_29b (d : Nat) (E : zE) (At : Nat → zC) (Q : Option Value → zM → Prop) (hE : ∀ y n a M' Q', zT (d + 0) y n a M' Q' → E y n a M' Q') (hC : ∀ pc st L M', zX 81 E Q At (zlk B_X10_isSuspect pc) st L M' → At pc st L M') (I : Nat → Nat → Int32) (J : Nat → Nat → Int64) (v1 : Int32) (v2 : Int32) (v3 : Int32) (v4 : Int32) (v5 : Int32) (z1 : ((2 : Int32) ≤ v3) → v2 = 0 ∨ v2 = 1) (k1 : (¬ ((2 : Int32) ≤ v3)) → At 42 [] [some (.ref 46), some (.int v1), some (.int v2), some (.int v3), some (.int 0), some (.int (v1 + v3))] (I, J, zR, 81)) (l1 : ((2 : Int32) ≤ v3) → Q (some (.int v2)) (I, J, zR, 81)) : At 29 [] [some (.ref 46), some (.int v1), some (.int v2), some (.int v3), some (.int v4), some (.int v5)] (I, J, zR, 81) := by
  refine hC 29 [] [some (.ref 46), some (.int v1), some (.int v2), some (.int v3), some (.int v4), some (.int v5)] _ ?_
  refine And.intro (fun q1 => ?_) (fun q1 => ?_)
  · skip
    refine hC 130 [] [some (.ref 46), some (.int v1), some (.int v2), some (.int v3), some (.int v4), some (.int v5)] _ ?_
    exact And.intro (z1 q1) (l1 q1)
  · skip
    exact k1 q1
/-! suspects: the nearest bar that was looked at, on each side -/
def zsn (di lo : Nat → Int32) (D n w : Int32) : Nat → Int32 → Int32
  | 0, _ => 0
  | r + 1, k => if k < 0 then 0 else if n ≤ k then 0 else if di k.toNatClampNeg = D then (if lo k.toNatClampNeg = 0 then zsn di lo D n w r (k + w) else if lo k.toNatClampNeg = 2 then 1 else 0) else zsn di lo D n w r (k + w)
theorem zsn_01 {di lo : Nat → Int32} {D n w : Int32} : ∀ (r : Nat) (k : Int32), zsn di lo D n w r k = 0 ∨ zsn di lo D n w r k = 1
  | 0, _ => Or.inl rfl
  | r + 1, k => by
    rw [zsn]
    split
    · exact Or.inl rfl
    split
    · exact Or.inl rfl
    split
    · split
      · exact zsn_01 r _
      · split
        · exact Or.inr rfl
        · exact Or.inl rfl
    · exact zsn_01 r _
def zhm (n w k : Int32) (r : Nat) : Prop := (w = -1 ∧ k.toInt < r) ∨ (w = 1 ∧ n.toInt ≤ k.toInt + r)
theorem zpm1 {k n : Int32} (hn : 0 ≤ n ∧ n ≤ 200) (h0 : ¬ k < 0) (h1 : ¬ n ≤ k) : (k + (-1)).toInt = k.toInt - 1 ∧ (k + 1).toInt = k.toInt + 1 := by
  have a0 : ¬ k.toInt < 0 := fun z => h0 (Int32.lt_iff_toInt_lt.mpr z)
  have a1 : ¬ n.toInt ≤ k.toInt := fun z => h1 (Int32.le_iff_toInt_le.mpr z)
  have a2 : n.toInt ≤ 200 := Int32.le_iff_toInt_le.mp hn.2
  have e1 : (-1 : Int32).toInt = -1 := rfl
  have e2 : (1 : Int32).toInt = 1 := rfl
  rw [Int32.toInt_add, Int32.toInt_add, e1, e2]
  refine ⟨?_, ?_⟩ <;> simp [Int.bmod] <;> omega
theorem zhm_next {n w k : Int32} {r : Nat} (hn : 0 ≤ n ∧ n ≤ 200) (h0 : ¬ k < 0) (h1 : ¬ n ≤ k) (h : zhm n w k (r + 1)) : zhm n w (k + w) r := by
  have e := zpm1 hn h0 h1
  rcases h with ⟨z, q⟩ | ⟨z, q⟩
  · subst z; exact Or.inl ⟨rfl, by rw [e.1]; omega⟩
  · subst z; exact Or.inr ⟨rfl, by rw [e.2]; omega⟩
theorem zhm_0 {n w k : Int32} (h : zhm n w k 0) : k < 0 ∨ n ≤ k := by
  rcases h with ⟨z, q⟩ | ⟨z, q⟩
  · exact Or.inl (Int32.lt_iff_toInt_lt.mpr (by show k.toInt < 0; omega))
  · exact Or.inr (Int32.le_iff_toInt_le.mpr (by omega))
/-- fuel beyond need changes nothing -/
theorem g_poorUpTo (d : Nat) (E : zE) (At : Nat → zC) (Q : Option Value → zM → Prop) (hE : ∀ y n a M' Q', zT (d + 0) y n a M' Q' → E y n a M' Q') (hC : ∀ pc st L M', zX 81 E Q At (zlk B_X1_poorUpTo pc) st L M' → At pc st L M') (I : Nat → Nat → Int32) (J : Nat → Nat → Int64) (n i : Int32) (hn : 0 ≤ n ∧ n ≤ 200) (hi : 0 ≤ i ∧ i < n) : ∀ (r : Nat) (k : Int32), zhm n (-1) k r → (-1 ≤ k ∧ k < n) → Q (some (.int (zsn (I 23) (I 32) (I 23 i.toNatClampNeg) n (-1) r k))) (I, J, zR, 81) → At 2 [] [some (.ref 22), some (.int i), some (.int k)] (I, J, zR, 81)
  | 0, k, hm, hk, hQ => by
    have hl : k < 0 := by rcases zhm_0 hm with z | z; exact z; exact absurd z (by clear hE hC hQ; grind)
    exact g_X1_poorUpTo_2 d E At Q hE hC I J i k rfl rfl (fun q => absurd hl q) (fun q => absurd hl q) (fun q => absurd hl q) (fun q => absurd hl q) (fun q => absurd hl q) (fun q => absurd hl q) (fun _ => hQ) (fun q => absurd hl q) (fun q => absurd hl q)
  | r + 1, k, hm, hk, hQ => by
    have hi2 : 0 ≤ i ∧ i < 200 := by clear hE hC hQ; grind
    have hnk : ¬ n ≤ k := by clear hE hC hQ; grind
    have hb : ¬ k < 0 → 0 ≤ k ∧ k < 200 := fun q => by clear hE hC hQ; grind
    have hk2 : ¬ k < 0 → -1 ≤ k + (-1) ∧ k + (-1) < n := fun q => by clear hE hC hQ; grind
    refine g_X1_poorUpTo_2 d E At Q hE hC I J i k rfl rfl hb (fun _ => hi2) (fun q _ => hb q) (fun q _ _ => hb q) (fun q1 q2 => ?_) (fun q1 q2 q3 => ?_) (fun q => ?_) (fun q1 q2 q3 q4 => ?_) (fun q1 q2 q3 q4 => ?_)
    · rw [zsn, if_neg q1, if_neg hnk, if_neg q2] at hQ; exact g_poorUpTo d E At Q hE hC I J n i hn hi r _ (zhm_next hn q1 hnk hm) (hk2 q1) hQ
    · rw [zsn, if_neg q1, if_neg hnk, if_pos q2, if_pos q3] at hQ; exact g_poorUpTo d E At Q hE hC I J n i hn hi r _ (zhm_next hn q1 hnk hm) (hk2 q1) hQ
    · rw [zsn, if_pos q] at hQ; exact hQ
    · rw [zsn, if_neg q1, if_neg hnk, if_pos q2, if_neg q3, if_neg q4] at hQ; exact hQ
    · rw [zsn, if_neg q1, if_neg hnk, if_pos q2, if_neg q3, if_pos q4] at hQ; exact hQ
theorem g_poorFrom (d : Nat) (E : zE) (At : Nat → zC) (Q : Option Value → zM → Prop) (hE : ∀ y n a M' Q', zT (d + 0) y n a M' Q' → E y n a M' Q') (hC : ∀ pc st L M', zX 81 E Q At (zlk B_X1_poorFrom pc) st L M' → At pc st L M') (I : Nat → Nat → Int32) (J : Nat → Nat → Int64) (i : Int32) (hn : 0 ≤ I 22 10 ∧ I 22 10 ≤ 200) (hi : 0 ≤ i ∧ i < I 22 10) : ∀ (r : Nat) (k : Int32), zhm (I 22 10) 1 k r → 0 ≤ k → Q (some (.int (zsn (I 23) (I 32) (I 23 i.toNatClampNeg) (I 22 10) 1 r k))) (I, J, zR, 81) → At 2 [] [some (.ref 22), some (.int i), some (.int k)] (I, J, zR, 81)
  | 0, k, hm, hk, hQ => by
    have hl : I 22 10 ≤ k := by rcases zhm_0 hm with z | z; exact absurd z (by clear hE hC hQ; grind); exact z
    exact g_X1_poorFrom_2 d E At Q hE hC I J i k rfl rfl rfl (fun q => absurd hl q) (fun q => absurd hl q) (fun q => absurd hl q) (fun q => absurd hl q) (fun q => absurd hl q) (fun q => absurd hl q) (fun _ => hQ) (fun q => absurd hl q) (fun q => absurd hl q)
  | r + 1, k, hm, hk, hQ => by
    have hi2 : 0 ≤ i ∧ i < 200 := by clear hE hC hQ; grind
    have h0 : ¬ k < 0 := by clear hE hC hQ; grind
    have hb : ¬ I 22 10 ≤ k → 0 ≤ k ∧ k < 200 := fun q => by clear hE hC hQ; grind
    have hk2 : ¬ I 22 10 ≤ k → 0 ≤ k + 1 := fun q => by clear hE hC hQ; grind
    refine g_X1_poorFrom_2 d E At Q hE hC I J i k rfl rfl rfl hb (fun _ => hi2) (fun q _ => hb q) (fun q _ _ => hb q) (fun q1 q2 => ?_) (fun q1 q2 q3 => ?_) (fun q => ?_) (fun q1 q2 q3 q4 => ?_) (fun q1 q2 q3 q4 => ?_)
    · rw [zsn, if_neg h0, if_neg q1, if_neg q2] at hQ; exact g_poorFrom d E At Q hE hC I J i hn hi r _ (zhm_next hn h0 q1 hm) (hk2 q1) hQ
    · rw [zsn, if_neg h0, if_neg q1, if_pos q2, if_pos q3] at hQ; exact g_poorFrom d E At Q hE hC I J i hn hi r _ (zhm_next hn h0 q1 hm) (hk2 q1) hQ
    · rw [zsn, if_neg h0, if_pos q] at hQ; exact hQ
    · rw [zsn, if_neg h0, if_neg q1, if_pos q2, if_neg q3, if_neg q4] at hQ; exact hQ
    · rw [zsn, if_neg h0, if_neg q1, if_pos q2, if_neg q3, if_pos q4] at hQ; exact hQ
def zsus (di lo : Nat → Int32) (n i : Int32) : Int32 := if lo i.toNatClampNeg = 1 then 0 else if zsn di lo (di i.toNatClampNeg) n (-1) (i.toNatClampNeg + 1) i = 0 then zsn di lo (di i.toNatClampNeg) n 1 (n.toNatClampNeg - i.toNatClampNeg) i else 1
theorem zhm_s {n i : Int32} (hn : 0 ≤ n ∧ n ≤ 200) (hi : 0 ≤ i ∧ i < n) : zhm n (-1) i (i.toNatClampNeg + 1) ∧ zhm n 1 i (n.toNatClampNeg - i.toNatClampNeg) ∧ zhm n (-1) (i + (-1)) i.toNatClampNeg ∧ zhm n 1 (i + 1) (n.toNatClampNeg - i.toNatClampNeg - 1) := by
  have e1 := ztn hi.1
  have e2 := ztn hn.1
  have e3 := (zlt_nat hi.1 hn.1).mp hi.2
  have e4 := zpm1 hn (show ¬ i < 0 by grind) (show ¬ n ≤ i by grind)
  refine ⟨Or.inl ⟨rfl, by omega⟩, Or.inr ⟨rfl, by omega⟩, Or.inl ⟨rfl, by omega⟩, Or.inr ⟨rfl, by omega⟩⟩
theorem w_X1_isSuspect (d : Nat) (I : Nat → Nat → Int32) (J : Nat → Nat → Int64) (i : Int32) (Q : Option Value → zM → Prop) (hn : 0 ≤ I 22 10 ∧ I 22 10 ≤ 200) (hi : 0 ≤ i ∧ i < I 22 10) (l : Q (some (.int (zsus (I 23) (I 32) (I 22 10) i))) (I, J, zR, 81)) : zT (d + 2) 11 81 [.ref 22, .int i] (I, J, zR, 81) Q := by
  refine ⟨rfl, fun E At hE hC => ?_⟩
  replace hC : ∀ pc st L M', zX 81 E Q At (zlk B_X1_isSuspect pc) st L M' → At pc st L M' := hC
  have hi2 : 0 ≤ i ∧ i < 200 := by clear hE hC l; grind
  have hm := zhm_s hn hi
  have f0 : Q (some (.int 0)) (I, J, zR, 81) → At 30 [] [some (.ref 22), some (.int i)] (I, J, zR, 81) := fun q => hC 30 [] [some (.ref 22), some (.int i)] _ (hC 31 [.int 0] [some (.ref 22), some (.int i)] _ (And.intro (Or.inl rfl) q))
  have f1 : Q (some (.int 1)) (I, J, zR, 81) → At 26 [] [some (.ref 22), some (.int i)] (I, J, zR, 81) := fun q => hC 26 [] [some (.ref 22), some (.int i)] _ (hC 31 [.int 1] [some (.ref 22), some (.int i)] _ (And.intro (Or.inr rfl) q))
  refine hC 0 [] [some (.ref 22), some (.int i)] _ ?_
  refine And.intro (zvp hi2 rfl) ?_
  unfold zsus at l
  refine And.intro (fun q => ?_) (fun q => ?_)
  · rw [if_pos q] at l; exact f0 l
  rw [if_neg q] at l
  refine hE _ _ _ _ _ ⟨rfl, fun E2 At2 hE2 hC2 => g_X1_poorUpTo_0 d E2 At2 _ hE2 hC2 I J i (g_poorUpTo d E2 At2 _ hE2 hC2 I J (I 22 10) i hn hi _ i hm.1 (by clear hE hC l hE2 hC2 f0 f1 hm; grind) ?_)⟩
  refine And.intro (fun q2 => ?_) (fun q2 => ?_)
  · rw [if_neg q2] at l; exact f1 l
  rw [if_pos q2] at l
  refine hE _ _ _ _ _ ⟨rfl, fun E3 At3 hE3 hC3 => g_X1_poorFrom_0 d E3 At3 _ hE3 hC3 I J i (g_poorFrom d E3 At3 _ hE3 hC3 I J i hn hi _ i hm.2.1 hi.1 ?_)⟩
  refine And.intro (fun q3 => ?_) (fun q3 => ?_)
  · rw [q3] at l; exact f0 l
  · refine f1 ?_
    rcases zsn_01 (di := I 23) (lo := I 32) (D := I 23 i.toNatClampNeg) (n := I 22 10) (w := 1) ((I 22 10).toNatClampNeg - i.toNatClampNeg) i with z | z
    · exact absurd z q3
    · rw [z] at l; exact l
def zis (s x : Int32) : Int32 := if s = 0 then x else 1
set_option maxHeartbeats 2000000 in
theorem g_sus42 (d : Nat) (E : zE) (At : Nat → zC) (Q : Option Value → zM → Prop) (hE : ∀ y n a M' Q', zT (d + 0) y n a M' Q' → E y n a M' Q') (hC : ∀ pc st L M', zX 81 E Q At (zlk B_X10_isSuspect pc) st L M' → At pc st L M') (I : Nat → Nat → Int32) (J : Nat → Nat → Int64) (i n w : Int32) (di lo lo' : Nat → Int32) (e57 : I 57 = di) (e64 : I 64 = lo') (e13 : I 46 13 = n) (hn : 0 ≤ n ∧ n ≤ 200) (hi : 0 ≤ i ∧ i < n) (hk : ∀ i : Int32, 0 ≤ i → i < n → (lo i.toNatClampNeg = 0 ∧ lo' i.toNatClampNeg = -1) ∨ (lo i.toNatClampNeg = 1 ∧ lo' i.toNatClampNeg = 1) ∨ (lo i.toNatClampNeg = 2 ∧ lo' i.toNatClampNeg = 0)) : ∀ (r : Nat) (k s : Int32), zhm n w k r → (s = 0 ∨ s = 1) → (∀ g k' : Int32, At 29 [] [some (.ref 46), some (.int i), some (.int (zis s (zsn di lo (di i.toNatClampNeg) n w r k))), some (.int (w + 2)), some (.int g), some (.int k')] (I, J, zR, 81)) → At 42 [] [some (.ref 46), some (.int i), some (.int s), some (.int w), some (.int 0), some (.int k)] (I, J, zR, 81) := by
  have hi2 : 0 ≤ i ∧ i < 200 := by clear hE hC hk; grind
  have hz0 : ∀ s : Int32, s = 0 ∨ s = 1 → zis s 0 = s := fun s h => by
    unfold zis
    rcases h with z | z <;> subst z <;> rfl
  have hex : ∀ s k : Int32, (∀ g k' : Int32, At 29 [] [some (.ref 46), some (.int i), some (.int s), some (.int (w + 2)), some (.int g), some (.int k')] (I, J, zR, 81)) → At 42 [] [some (.ref 46), some (.int i), some (.int s), some (.int w), some (.int 1), some (.int k)] (I, J, zR, 81) := fun s k hA =>
    g_X10_isSuspect_42 d E At Q hE hC I J i s w 1 k e57 e64 e13 (fun _ _ q => absurd q (by decide)) (fun _ _ q => absurd q (by decide)) (fun _ _ q => absurd q (by decide)) (fun _ _ q => absurd q (by decide)) (fun _ _ q => absurd q (by decide)) (fun _ => hA _ _) (fun _ _ => hA _ _) (fun _ _ _ => hA _ _) (fun _ _ q => absurd q (by decide)) (fun _ _ q => absurd q (by decide)) (fun _ _ q => absurd q (by decide)) (fun _ _ q => absurd q (by decide)) (fun _ _ q => absurd q (by decide)) (fun _ _ q => absurd q (by decide)) (fun _ _ q => absurd q (by decide))
  intro r
  induction r with
  | zero =>
    intro k s hm hs hA
    have hA2 := hA
    rw [show zis s (zsn di lo (di i.toNatClampNeg) n w 0 k) = s from hz0 s hs] at hA2
    have hx := zhm_0 hm
    have hno : ¬ k < 0 → ¬ n ≤ k → False := fun q1 q2 => by rcases hx with z | z; exact q1 z; exact q2 z
    exact g_X10_isSuspect_42 d E At Q hE hC I J i s w 0 k e57 e64 e13 (fun q1 q2 => (hno q1 q2).elim) (fun q1 q2 => (hno q1 q2).elim) (fun q1 q2 => (hno q1 q2).elim) (fun q1 q2 => (hno q1 q2).elim) (fun q1 q2 => (hno q1 q2).elim) (fun _ => hA2 _ _) (fun _ _ => hA2 _ _) (fun _ _ _ => hA2 _ _) (fun q1 q2 => (hno q1 q2).elim) (fun q1 q2 => (hno q1 q2).elim) (fun q1 q2 => (hno q1 q2).elim) (fun q1 q2 => (hno q1 q2).elim) (fun q1 q2 => (hno q1 q2).elim) (fun q1 q2 => (hno q1 q2).elim) (fun q1 q2 => (hno q1 q2).elim)
  | succ r ih =>
    intro k s hm hs hA
    have hb : ¬ k < 0 → ¬ n ≤ k → 0 ≤ k ∧ k < 200 := fun q1 q2 => by clear hE hC hA ih hk hex hz0; grind
    have hbn : ¬ k < 0 → ¬ n ≤ k → 0 ≤ k ∧ k < n := fun q1 q2 => by clear hE hC hA ih hk hex hz0; grind
    refine g_X10_isSuspect_42 d E At Q hE hC I J i s w 0 k e57 e64 e13 (fun q1 q2 _ => hb q1 q2) (fun _ _ _ => hi2) (fun q1 q2 _ _ => hb q1 q2) (fun q1 q2 _ _ _ _ => hb q1 q2) (fun q1 q2 _ _ _ _ => hb q1 q2) (fun q1 => ?_) (fun q1 q2 => ?_) (fun q1 q2 q3 => absurd rfl q3) (fun q1 q2 q3 q4 => ?_) (fun q1 q2 q3 q4 q5 q6 => ?_) (fun q1 q2 q3 q4 q5 q6 q7 => ?_) (fun q1 q2 q3 q4 q5 q6 q7 => ?_) (fun q1 q2 q3 q4 q5 q6 => ?_) (fun q1 q2 q3 q4 q5 q6 q7 => ?_) (fun q1 q2 q3 q4 q5 q6 q7 => absurd (q5.symm.trans q7) (by decide))
    · rw [zsn, if_pos q1, hz0 s hs] at hA; exact hA _ _
    · rw [zsn, if_neg q1, if_pos q2, hz0 s hs] at hA; exact hA _ _
    · rw [zsn, if_neg q1, if_neg q2, if_neg q4] at hA
      exact ih (k + w) s (zhm_next hn q1 q2 hm) hs hA
    · have e : ∀ x, zis s x = zis 1 (zsn di lo (di i.toNatClampNeg) n w r (k + w)) := fun x => by unfold zis; rw [if_neg q6, if_neg (by decide)]
      rw [e] at hA
      exact ih (k + w) 1 (zhm_next hn q1 q2 hm) (Or.inr rfl) hA
    · have hl := hk k (hbn q1 q2).1 (hbn q1 q2).2
      have hl0 : lo k.toNatClampNeg = 0 := by
        rcases hl with z | z | z
        · exact z.1
        · exact absurd z.2 q5
        · exact absurd z.2 q7
      rw [zsn, if_neg q1, if_neg q2, if_pos q4, if_pos hl0, q6] at hA
      exact ih (k + w) 0 (zhm_next hn q1 q2 hm) (Or.inl rfl) hA
    · have hl := hk k (hbn q1 q2).1 (hbn q1 q2).2
      have hl0 : lo k.toNatClampNeg = 2 := by
        rcases hl with z | z | z
        · exact absurd (z.2.symm.trans q7) (by decide)
        · exact absurd z.2 q5
        · exact z.1
      rw [zsn, if_neg q1, if_neg q2, if_pos q4, if_neg (by rw [hl0]; decide), if_pos hl0, q6] at hA
      have e : zis 0 1 = zis 1 (zsn di lo (di i.toNatClampNeg) n w r (k + w)) := by unfold zis; rw [if_pos rfl, if_neg (by decide)]
      rw [e] at hA
      exact ih (k + w) 1 (zhm_next hn q1 q2 hm) (Or.inr rfl) hA
    · have e : ∀ x, zis s x = 1 := fun x => by unfold zis; rw [if_neg q6]
      rw [e] at hA
      exact hex 1 (k + w) hA
    · have hl := hk k (hbn q1 q2).1 (hbn q1 q2).2
      have hl0 : lo k.toNatClampNeg = 1 := by
        rcases hl with z | z | z
        · exact absurd (z.2.symm.trans q5) (by decide)
        · exact z.1
        · exact absurd z.2 q7
      rw [zsn, if_neg q1, if_neg q2, if_pos q4, if_neg (by rw [hl0]; decide), if_neg (by rw [hl0]; decide), q6] at hA
      exact hex 0 (k + w) hA
theorem zis_01 {s x : Int32} (h : x = 0 ∨ x = 1) : zis s x = 0 ∨ zis s x = 1 := by
  unfold zis
  split
  · exact h
  · exact Or.inr rfl
theorem w_X10_isSuspect (d : Nat) (I : Nat → Nat → Int32) (J : Nat → Nat → Int64) (i : Int32) (Q : Option Value → zM → Prop) {n : Int32} {di lo lo' : Nat → Int32} (e57 : I 57 = di) (e64 : I 64 = lo') (e13 : I 46 13 = n) (hn : 0 ≤ n ∧ n ≤ 200) (hi : 0 ≤ i ∧ i < n) (hk : ∀ i : Int32, 0 ≤ i → i < n → (lo i.toNatClampNeg = 0 ∧ lo' i.toNatClampNeg = -1) ∨ (lo i.toNatClampNeg = 1 ∧ lo' i.toNatClampNeg = 1) ∨ (lo i.toNatClampNeg = 2 ∧ lo' i.toNatClampNeg = 0)) (l : Q (some (.int (zsus di lo n i))) (I, J, zR, 81)) : zT (d + 1) 133 81 [.ref 46, .int i] (I, J, zR, 81) Q := by
  have hi2 : 0 ≤ i ∧ i < 200 := by clear l hk; grind
  have hm := zhm_s hn hi
  have h0 : ¬ i < 0 := by clear l hk hm; grind
  have h1 : ¬ n ≤ i := by clear l hk hm; grind
  have hl := hk i hi.1 hi.2
  have er : n.toNatClampNeg - i.toNatClampNeg = (n.toNatClampNeg - i.toNatClampNeg - 1) + 1 := by
    have := (zlt_nat hi.1 hn.1).mp hi.2
    omega
  refine ⟨rfl, fun E At hE hC => ?_⟩
  have main : ∀ s : Int32, (s = 0 ∨ s = 1) → Q (some (.int (zis (zis s (zsn di lo (di i.toNatClampNeg) n (-1) i.toNatClampNeg (i + (-1)))) (zsn di lo (di i.toNatClampNeg) n 1 (n.toNatClampNeg - i.toNatClampNeg - 1) (i + 1))))) (I, J, zR, 81) → At 29 [] [some (.ref 46), some (.int i), some (.int s), some (.int (-1)), none, none] (I, J, zR, 81) := fun s hs hQ => by
    refine g_X10_isSuspect_29 d E At Q hE hC I J i s (-1) (fun q => absurd q (by decide)) (fun _ => ?_) (fun q => absurd q (by decide))
    refine g_sus42 d E At Q hE hC I J i n (-1) di lo lo' e57 e64 e13 hn hi hk i.toNatClampNeg (i + (-1)) s hm.2.2.1 hs (fun g k' => ?_)
    refine g_X10_isSuspect_29b d E At Q hE hC I J i _ (-1 + 2) g k' (fun q => absurd q (by decide)) (fun _ => ?_) (fun q => absurd q (by decide))
    refine g_sus42 d E At Q hE hC I J i n (-1 + 2) di lo lo' e57 e64 e13 hn hi hk (n.toNatClampNeg - i.toNatClampNeg - 1) (i + (-1 + 2)) _ hm.2.2.2 (zis_01 (zsn_01 _ _)) (fun g k' => ?_)
    exact g_X10_isSuspect_29b d E At Q hE hC I J i _ (-1 + 2 + 2) g k' (fun _ => zis_01 (zsn_01 _ _)) (fun q => absurd (by decide) q) (fun _ => hQ)
  refine g_X10_isSuspect_0 d E At Q hE hC I J i e64 hi2 (fun _ => hi2) (fun q1 q2 => ?_) (fun q1 q2 => ?_) (fun q => ?_)
  · have hl0 : lo i.toNatClampNeg = 0 := by
      rcases hl with z | z | z
      · exact z.1
      · exact absurd z.2 q1
      · exact absurd z.2 q2
    refine main 0 (Or.inl rfl) ?_
    unfold zsus at l
    rw [if_neg (by rw [hl0]; decide), er, zsn, if_neg h0, if_neg h1, if_pos rfl, if_pos hl0, zsn, if_neg h0, if_neg h1, if_pos rfl, if_pos hl0] at l
    exact l
  · have hl0 : lo i.toNatClampNeg = 2 := by
      rcases hl with z | z | z
      · exact absurd (z.2.symm.trans q2) (by decide)
      · exact absurd z.2 q1
      · exact z.1
    refine main 1 (Or.inr rfl) ?_
    unfold zsus at l
    have hz : zsn di lo (di i.toNatClampNeg) n (-1) (i.toNatClampNeg + 1) i = 1 := by rw [zsn, if_neg h0, if_neg h1, if_pos rfl, if_neg (by rw [hl0]; decide), if_pos hl0]
    rw [if_neg (by rw [hl0]; decide), hz, if_neg (by decide)] at l
    exact l
  · have hl0 : lo i.toNatClampNeg = 1 := by
      rcases hl with z | z | z
      · exact absurd (z.2.symm.trans q) (by decide)
      · exact z.1
      · exact absurd (z.2.symm.trans q) (by decide)
    unfold zsus at l
    rw [if_pos hl0] at l
    exact l
theorem zsus_01 {di lo : Nat → Int32} {n i : Int32} : zsus di lo n i = 0 ∨ zsus di lo n i = 1 := by
  unfold zsus
  split
  · exact Or.inl rfl
  · split
    · exact zsn_01 _ _
    · exact Or.inr rfl
theorem op_suspect (I : Nat → Nat → Int32) (J : Nat → Nat → Int64) (hR : zRel I J) (a1 : Int32) (Q : Option Value → zM → Prop) (h : ∀ r I1 J1, (∀ Q' : Option Value → zM → Prop, (∀ I2 J2, zRel I2 J2 → Q' (some (.int r)) (I2, J2, zR, 81)) → zT 60 134 81 [.ref 46, .int a1] (I1, J1, zR, 81) Q') → Q (some (.int r)) (I1, J1, zR, 81)) : zT 60 78 81 [.ref 0, .int a1] (I, J, zR, 81) Q := by
  obtain ⟨hp, hd, ho, hl, hb, hk, hq, ha, hs, hj, hc, hh, ht⟩ := id hR
  have b2 := hb.2.1
  have hm : ∀ (Q' : Option Value → zM → Prop), ((0 ≤ a1 ∧ a1 < I 22 10) → Q' (some (.int (zsus (I 23) (I 32) (I 22 10) a1))) (I, J, zR, 81)) → (¬ (0 ≤ a1 ∧ a1 < I 22 10) → Q' (some (.int (-2))) (I, J, zR, 81)) → zT 60 134 81 [.ref 46, .int a1] (I, J, zR, 81) Q' := by
    intro Q' k1 k2
    refine ⟨rfl, fun E At hE hC => ?_⟩
    replace hC : ∀ pc st L M', zX 81 E Q' At (zlk B_X10_suspect pc) st L M' → At pc st L M' := hC
    refine hC 0 [] [some (.ref 46), some (.int a1)] _ ?_
    refine hE _ _ _ _ _ (w_X10_isBar 57 I J a1 _ hb.1 (fun c1 => ?_) (fun c1 => ?_))
    · have c2 : 0 ≤ a1 ∧ a1 < I 22 10 := by clear h k1 k2 hE hC hR hp hd ho hl hb hk hq ha hs hj hc hh ht; grind
      refine And.intro (fun _ => ?_) (fun qz => absurd qz (by decide))
      refine hC 13 [] [some (.ref 46), some (.int a1)] _ ?_
      refine hE _ _ _ _ _ (w_X10_isSuspect 58 I J a1 _ hb.2.2.1.1 (show _ = I 64 from rfl) hb.1 b2 c2 hk.1 ?_)
      have k3 := k1 c2
      refine And.intro (fun q => ?_) (fun q => ?_)
      · rw [q] at k3
        exact hC 25 [] [some (.ref 46), some (.int a1)] _ (hC 26 [.int 0] [some (.ref 46), some (.int a1)] _ k3)
      · rcases zsus_01 (di := I 23) (lo := I 32) (n := I 22 10) (i := a1) with z | z
        · exact absurd z q
        · rw [z] at k3
          exact hC 26 [.int 1] [some (.ref 46), some (.int a1)] _ k3
    · have c2 : ¬ (0 ≤ a1 ∧ a1 < I 22 10) := by clear h k1 k2 hE hC hR hp hd ho hl hb hk hq ha hs hj hc hh ht; grind
      refine And.intro (fun qz => absurd rfl qz) (fun _ => ?_)
      exact hC 26 [.int (-2)] [some (.ref 46), some (.int a1)] _ (k2 c2)
  refine ⟨rfl, fun E At hE hC => ?_⟩
  replace hC : ∀ pc st L M', zX 81 E Q At (zlk B_X9_suspect pc) st L M' → At pc st L M' := hC
  refine hC 0 [] [some (.ref 0), some (.int a1)] _ ?_
  refine hE _ _ _ _ _ (w_X1_has 58 I J a1 _ rfl (fun c1 => ?_) (fun c1 => ?_))
  · refine And.intro (fun _ => ?_) (fun qz => absurd qz (by decide))
    refine hC 14 [] [some (.ref 0), some (.int a1)] _ ?_
    refine hE _ _ _ _ _ (w_X1_isSuspect 57 I J a1 _ b2 c1 ?_)
    have k3 := h _ _ _ (fun Q' hQ => hm Q' (fun _ => hQ _ _ hR) (fun z => absurd c1 z))
    refine And.intro (fun q => ?_) (fun q => ?_)
    · rw [q] at k3
      exact hC 29 [] [some (.ref 0), some (.int a1)] _ (hC 30 [.int 0] [some (.ref 0), some (.int a1)] _ k3)
    · rcases zsus_01 (di := I 23) (lo := I 32) (n := I 22 10) (i := a1) with z | z
      · exact absurd z q
      · rw [z] at k3
        exact hC 30 [.int 1] [some (.ref 0), some (.int a1)] _ k3
  · refine And.intro (fun qz => absurd rfl qz) (fun _ => ?_)
    exact h _ _ _ (fun Q' hQ => hm Q' (fun z => absurd z c1) (fun _ => hQ _ _ hR))
def zhl (go di lo : Nat → Int32) (n : Int32) : Nat → Int32 → Int32 → Int32
  | 0, _, s => s
  | r + 1, i, s => zhl go di lo n r (i + 1) (if zsus di lo n i = 0 then s else s + go i.toNatClampNeg)
theorem op_held (I : Nat → Nat → Int32) (J : Nat → Nat → Int64) (hR : zRel I J) (Q : Option Value → zM → Prop) (h : ∀ r I1 J1, (∀ Q' : Option Value → zM → Prop, (∀ I2 J2, zRel I2 J2 → Q' (some (.int r)) (I2, J2, zR, 81)) → zT 60 135 81 [.ref 46] (I1, J1, zR, 81) Q') → Q (some (.int r)) (I1, J1, zR, 81)) : zT 60 79 81 [.ref 0] (I, J, zR, 81) Q := by
  obtain ⟨hp, hd, ho, hl, hb, hk, hq, ha, hs, hj, hc, hh, ht⟩ := id hR
  have b2 := hb.2.1
  have b1 : I 46 13 = I 22 10 := hb.1
  have bg : I 60 = I 26 := hb.2.2.1.2.2.2.1
  have hm : ∀ (Q' : Option Value → zM → Prop), Q' (some (.int (zhl (I 26) (I 23) (I 32) (I 22 10) (I 22 10).toNatClampNeg 0 0))) (I, J, zR, 81) → zT 60 135 81 [.ref 46] (I, J, zR, 81) Q' := by
    intro Q' k1
    refine ⟨rfl, fun E At hE hC => ?_⟩
    replace hC : ∀ pc st L M', zX 81 E Q' At (zlk B_X10_held pc) st L M' → At pc st L M' := hC
    have loop : ∀ (r : Nat) (i s : Int32), 0 ≤ i → (I 22 10).toNatClampNeg = i.toNatClampNeg + r → Q' (some (.int (zhl (I 26) (I 23) (I 32) (I 22 10) r i s))) (I, J, zR, 81) → At 4 [] [some (.ref 46), some (.int s), some (.int i)] (I, J, zR, 81) := by
      intro r
      induction r with
      | zero =>
        intro i s h0 hr hQ
        have hl : I 22 10 ≤ i := zlast h0 b2.1 hr
        refine hC 4 [] [some (.ref 46), some (.int s), some (.int i)] _ ?_
        refine And.intro (fun _ => ?_) (fun qz => absurd (show I 46 13 ≤ i by rw [b1]; exact hl) qz)
        exact hC 39 [] [some (.ref 46), some (.int s), some (.int i)] _ hQ
      | succ r ih =>
        intro i s h0 hr hQ
        obtain ⟨h1, h2, h3⟩ := znext h0 (n := I 22 10) (by clear h ih k1 hE hC hR hp hd ho hl hb hk hq ha hs hj hc hh ht hQ; grind) hr
        have hbi : 0 ≤ i ∧ i < 200 := by clear h ih k1 hE hC hR hp hd ho hl hb hk hq ha hs hj hc hh ht hQ; grind
        refine hC 4 [] [some (.ref 46), some (.int s), some (.int i)] _ ?_
        refine And.intro (fun qz => absurd qz (show ¬ I 46 13 ≤ i by rw [b1]; clear h ih k1 hE hC hR hp hd ho hl hb hk hq ha hs hj hc hh ht hQ; grind)) (fun _ => ?_)
        refine hE _ _ _ _ _ (w_X10_isSuspect 58 I J i _ hb.2.2.1.1 (show _ = I 64 from rfl) hb.1 b2 ⟨h0, h1⟩ hk.1 ?_)
        rw [zhl] at hQ
        refine And.intro (fun q => ?_) (fun q => ?_)
        · rw [if_pos q] at hQ
          refine hC 30 [.int s] [some (.ref 46), some (.int s), some (.int i)] _ (hC 31 [.int 0, .int s] [some (.ref 46), some (.int s), some (.int i)] _ ?_)
          have k2 := ih (i + 1) (s + 0) h2 h3 (by rw [Int32.add_zero]; exact hQ)
          exact k2
        · rw [if_neg q] at hQ
          refine And.intro (zvp hbi rfl) ?_
          refine hC 31 [.int (I 60 i.toNatClampNeg), .int s] [some (.ref 46), some (.int s), some (.int i)] _ ?_
          have k2 := ih (i + 1) (s + I 60 i.toNatClampNeg) h2 h3 (by rw [bg]; exact hQ)
          exact k2
    refine hC 0 [] [some (.ref 46), none, none] _ ?_
    exact loop _ 0 0 (by decide) (Nat.zero_add _).symm k1
  refine ⟨rfl, fun E At hE hC => ?_⟩
  replace hC : ∀ pc st L M', zX 81 E Q At (zlk B_X9_held pc) st L M' → At pc st L M' := hC
  have loop : ∀ (r : Nat) (i s : Int32), 0 ≤ i → (I 22 10).toNatClampNeg = i.toNatClampNeg + r → Q (some (.int (zhl (I 26) (I 23) (I 32) (I 22 10) r i s))) (I, J, zR, 81) → At 4 [] [some (.ref 0), some (.int s), some (.int i)] (I, J, zR, 81) := by
    intro r
    induction r with
    | zero =>
      intro i s h0 hr hQ
      have hl : I 22 10 ≤ i := zlast h0 b2.1 hr
      refine hC 4 [] [some (.ref 0), some (.int s), some (.int i)] _ ?_
      refine And.intro (fun _ => ?_) (fun qz => absurd hl qz)
      exact hC 44 [] [some (.ref 0), some (.int s), some (.int i)] _ hQ
    | succ r ih =>
      intro i s h0 hr hQ
      obtain ⟨h1, h2, h3⟩ := znext h0 (n := I 22 10) (by clear h ih hm hE hC hR hp hd ho hl hb hk hq ha hs hj hc hh ht hQ; grind) hr
      have hbi : 0 ≤ i ∧ i < 200 := by clear h ih hm hE hC hR hp hd ho hl hb hk hq ha hs hj hc hh ht hQ; grind
      have hni : ¬ I 22 10 ≤ i := by clear h ih hm hE hC hR hp hd ho hl hb hk hq ha hs hj hc hh ht hQ; grind
      refine hC 4 [] [some (.ref 0), some (.int s), some (.int i)] _ ?_
      refine And.intro (fun qz => absurd qz hni) (fun _ => ?_)
      refine hE _ _ _ _ _ (w_X1_isSuspect 57 I J i _ b2 ⟨h0, h1⟩ ?_)
      rw [zhl] at hQ
      refine And.intro (fun q => ?_) (fun q => ?_)
      · rw [if_pos q] at hQ
        exact hC 38 [] [some (.ref 0), some (.int s), some (.int i)] _ (ih (i + 1) s h2 h3 hQ)
      · rw [if_neg q] at hQ
        refine And.intro (zvp hbi rfl) ?_
        exact hC 38 [] [some (.ref 0), some (.int (s + I 26 i.toNatClampNeg)), some (.int i)] _ (ih (i + 1) _ h2 h3 hQ)
  refine hC 0 [] [some (.ref 0), none, none] _ ?_
  refine loop _ 0 0 (by decide) (Nat.zero_add _).symm ?_
  exact h _ _ _ (fun Q' hQ => hm Q' (hQ _ _ hR))
