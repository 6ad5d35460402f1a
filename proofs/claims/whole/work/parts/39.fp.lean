/-! the reference's pattern -/
theorem w_most (d : Nat) (I : Nat → Nat → Int32) (J : Nat → Nat → Int64) (p o n v : Int32) (Q : Option Value → zM → Prop) {os ow : Nat → Int32} (e66 : I 66 = os) (e68 : I 68 = ow) (hp : 0 ≤ p ∧ p < n) (hn : n ≤ 8) (ho : 0 ≤ o ∧ o ≤ 2) (hv : zMo os ow p o = v) (l : Q (some (.int v)) (I, J, zR, 81)) : zT (d + 1) 107 81 [.ref 46, .int p, .int o] (I, J, zR, 81) Q := by
  have hp8 : 0 ≤ p ∧ p < 8 := by clear l; grind
  have hb := zb24b hp hn ho
  subst hv
  unfold zMo at l
  refine w_X10_most d I J p o Q e66 e68 hp8 (fun _ => hb) (fun _ _ => hb) (fun q1 q2 => ?_) (fun q1 q2 => ?_) (fun q1 => ?_)
  · rw [if_neg (show ¬ os p.toNatClampNeg ≤ o by clear l; grind)] at l
    by_cases w : ow (3 * p + o).toNatClampNeg < 60
    · rw [if_pos w] at l; exact l
    · rw [if_neg w] at l
      have e : ow (3 * p + o).toNatClampNeg = 60 := by clear l; grind
      rw [e]; exact l
  · rw [if_neg (show ¬ os p.toNatClampNeg ≤ o by clear l; grind), if_neg (show ¬ ow (3 * p + o).toNatClampNeg < 60 by clear l; grind)] at l
    exact l
  · rw [if_pos (show os p.toNatClampNeg ≤ o by clear l; grind)] at l
    exact l
theorem w_len (d : Nat) (I : Nat → Nat → Int32) (J : Nat → Nat → Int64) (p o n v : Int32) (Q : Option Value → zM → Prop) {os ol : Nat → Int32} (e66 : I 66 = os) (e67 : I 67 = ol) (hp : 0 ≤ p ∧ p < n) (hn : n ≤ 8) (ho : 0 ≤ o ∧ o ≤ 2) (hv : zLe os ol p o = v) (l : Q (some (.int v)) (I, J, zR, 81)) : zT (d + 1) 109 81 [.ref 46, .int p, .int o] (I, J, zR, 81) Q := by
  have hp8 : 0 ≤ p ∧ p < 8 := by clear l; grind
  have hb := zb24b hp hn ho
  subst hv
  unfold zLe at l
  refine w_X10_lengthOf d I J p o Q e66 e67 hp8 (fun _ => hb) (fun q => ?_) (fun q => ?_)
  · rw [if_pos q] at l; exact l
  · rw [if_neg q] at l; exact l
def zMf (I I' : Nat → Nat → Int32) : Prop := (∀ c, c ≠ 46 → c ≠ 69 → I' c = I c) ∧ ∀ j, j ≠ 29 → I' 46 j = I 46 j
def zMs (I : Nat → Nat → Int32) (st : zS4) : Prop := I 46 29 = zo st.1 ∧ (st.1 = -1 ∨ (I 69 0 = zo st.2.1 ∧ I 69 1 = zo st.2.2.1 ∧ I 69 2 = zo st.2.2.2))
theorem zMf_tr {I I1 I2 : Nat → Nat → Int32} (h1 : zMf I I1) (h2 : zMf I1 I2) : zMf I I2 := ⟨fun c q1 q2 => (h2.1 c q1 q2).trans (h1.1 c q1 q2), fun j q => (h2.2 j q).trans (h1.2 j q)⟩
def zPar.okm (P : zPar) (st : zS4) : Prop := st = (-1, 0, 0, 0) ∨ P.ok st
theorem zPar.okm_po (P : zPar) {st : zS4} {a b : Nat} (hs : P.okm st) (ha : a ≤ P.m0) (hb : b ≤ P.m1) (hl : 0 ≤ zlf P.l0 P.l1 P.k P.R a b) : P.okm (zpo P.l0 P.l1 P.l2 st a b (P.cc (zlf P.l0 P.l1 P.k P.R a b))) := by
  refine Or.inr ?_
  rcases hs with z | z
  · subst z
    have hcc := P.ccb hl
    rw [zpo_first (by omega) (by omega) hcc.1 P.b0.1 P.b1.1 P.b2.1 (fun z => by have := P.h0; omega) (fun z => by have := P.h1; omega) (fun z => by have := P.h2; omega)]
    have := P.bR
    have := P.bk
    exact P.ok_po ⟨⟨Int.le_refl _, by show (0 : Int) ≤ P.R; omega⟩, ⟨Int.le_refl _, by show (0 : Int) ≤ P.m0; omega⟩, ⟨Int.le_refl _, by show (0 : Int) ≤ P.m1; omega⟩, ⟨Int.le_refl _, by show (0 : Int) ≤ P.m2; omega⟩⟩ ha hb hl
  · exact P.ok_po z ha hb hl
theorem zPar.okmb (P : zPar) {st : zS4} (hs : P.okm st) : (-1 ≤ st.1 ∧ st.1 ≤ 300000) ∧ (0 ≤ st.2.1 ∧ st.2.1 ≤ 60) ∧ (0 ≤ st.2.2.1 ∧ st.2.2.1 ≤ 60) ∧ (0 ≤ st.2.2.2 ∧ st.2.2.2 ≤ 60) := by
  have := P.bR
  have := P.c0
  have := P.c1
  have := P.c2
  rcases hs with z | z
  · subst z; decide
  · obtain ⟨z0, z1, z2, z3⟩ := z
    omega
theorem zcc_val (P : zPar) {x : Int} (hx : 0 ≤ x) (hl : 100 ≤ P.l2) : (if x / (P.l2 + P.k) ≤ P.m2 then x / (P.l2 + P.k) else (P.m2 : Int)) = P.cc x := by
  have hk := P.bk
  have hq : 0 ≤ x / (P.l2 + P.k) := Int.ediv_nonneg hx (by omega)
  unfold zPar.cc zft
  by_cases q : P.m2 = 0
  · rw [if_pos q, q]
    by_cases w : x / (P.l2 + P.k) ≤ ((0 : Nat) : Int)
    · rw [if_pos w]; omega
    · rw [if_neg w]
  · rw [if_neg q]
    by_cases w : x / (P.l2 + P.k) ≤ P.m2
    · rw [if_pos w]; omega
    · rw [if_neg w]; omega
