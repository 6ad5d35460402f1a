/-! the pattern: all pairs tried, against the search that leaves out what can't win -/
abbrev zS4 := Int × Int × Int × Int
def zpo (l0 l1 l2 : Int) (st : zS4) (a b c : Int) : zS4 := if st.1 < a * l0 + b * l1 + c * l2 ∨ (a * l0 + b * l1 + c * l2 = st.1 ∧ a + b + c < st.2.1 + st.2.2.1 + st.2.2.2) then (a * l0 + b * l1 + c * l2, a, b, c) else st
def zlf (l0 l1 k R a b : Int) : Int := R - a * (l0 + k) - b * (l1 + k)
def zrb (l0 l1 l2 k R : Int) (cc : Int → Int) (a : Int) : Nat → zS4 → zS4
  | 0, st => st
  | b + 1, st => zrb l0 l1 l2 k R cc a b (if 0 ≤ zlf l0 l1 k R a b then zpo l0 l1 l2 st a b (cc (zlf l0 l1 k R a b)) else st)
def zra (l0 l1 l2 k R : Int) (cc : Int → Int) (m1 : Nat) : Nat → zS4 → zS4
  | 0, st => st
  | a + 1, st => zra l0 l1 l2 k R cc m1 a (zrb l0 l1 l2 k R cc a (m1 + 1) st)
def zcb (l0 l1 l2 k R : Int) (cc : Int → Int) (m2 : Nat) (a : Int) : Nat → zS4 → zS4
  | 0, st => st
  | b + 1, st => if a * l0 + b * l1 + m2 * l2 < st.1 then st else zcb l0 l1 l2 k R cc m2 a b (zpo l0 l1 l2 st a b (cc (zlf l0 l1 k R a b)))
def zca (l0 l1 l2 k R : Int) (cc : Int → Int) (m1 m2 : Nat) (f1 : Nat → Nat) : Nat → zS4 → zS4
  | 0, st => st
  | a + 1, st => if a * l0 + (m1 * l1 + m2 * l2) < st.1 then st else zca l0 l1 l2 k R cc m1 m2 f1 a (zcb l0 l1 l2 k R cc m2 a (f1 a + 1) st)
theorem zmulmono {x y z : Int} (h : x ≤ y) (hz : 0 ≤ z) : x * z ≤ y * z := Int.mul_le_mul_of_nonneg_right h hz
theorem zpo_no {l0 l1 l2 : Int} {st : zS4} {a b c m : Int} (hc : c ≤ m) (h2 : 0 ≤ l2) (h : a * l0 + b * l1 + m * l2 < st.1) : zpo l0 l1 l2 st a b c = st := by
  have := zmulmono hc h2
  unfold zpo
  rw [if_neg]
  rintro (q | ⟨q, _⟩) <;> omega
section
variable {l0 l1 l2 k R : Int} {cc : Int → Int} {m1 m2 : Nat}
theorem zrb_stop (hc : ∀ x, 0 ≤ x → 0 ≤ cc x ∧ cc x ≤ m2) (h1 : 0 ≤ l1) (h2 : 0 ≤ l2) {a : Int} {st : zS4} : ∀ b : Nat, (a * l0 + (b - 1 : Int) * l1 + m2 * l2 < st.1) → zrb l0 l1 l2 k R cc a b st = st
  | 0, _ => rfl
  | b + 1, h => by
    rw [zrb]
    have e : ((b + 1 : Nat) : Int) - 1 = b := by omega
    rw [e] at h
    have hn : (if 0 ≤ zlf l0 l1 k R a b then zpo l0 l1 l2 st a b (cc (zlf l0 l1 k R a b)) else st) = st := by
      split
      · rename_i q; exact zpo_no (hc _ q).2 h2 h
      · rfl
    rw [hn]
    refine zrb_stop hc h1 h2 b ?_
    have := zmulmono (show (b - 1 : Int) ≤ b by omega) h1
    omega
theorem zrb_zcb (hc : ∀ x, 0 ≤ x → 0 ≤ cc x ∧ cc x ≤ m2) (h1 : 0 ≤ l1) (h2 : 0 ≤ l2) {a : Int} : ∀ (b : Nat) (st : zS4), (∀ b' : Nat, b' < b → 0 ≤ zlf l0 l1 k R a b') → zrb l0 l1 l2 k R cc a b st = zcb l0 l1 l2 k R cc m2 a b st
  | 0, _, _ => rfl
  | b + 1, st, h => by
    rw [zcb]
    split
    · rename_i q
      refine zrb_stop hc h1 h2 (b + 1) ?_
      have e : ((b + 1 : Nat) : Int) - 1 = b := by omega
      rw [e]; exact q
    · rw [zrb, if_pos (h b (by omega))]
      exact zrb_zcb hc h1 h2 b _ (fun b' hb => h b' (by omega))
theorem zrb_skip {a : Int} {f : Nat} {st : zS4} : ∀ n : Nat, (∀ b' : Nat, f ≤ b' → b' < f + n → zlf l0 l1 k R a b' < 0) → zrb l0 l1 l2 k R cc a (f + n) st = zrb l0 l1 l2 k R cc a f st
  | 0, _ => rfl
  | n + 1, h => by
    show zrb l0 l1 l2 k R cc a (f + n + 1) st = _
    rw [zrb, if_neg (by have := h (f + n) (by omega) (by omega); omega)]
    exact zrb_skip n (fun b' q1 q2 => h b' q1 (by omega))
theorem zra_stop (hc : ∀ x, 0 ≤ x → 0 ≤ cc x ∧ cc x ≤ m2) (h0 : 0 ≤ l0) (h1 : 0 ≤ l1) (h2 : 0 ≤ l2) {st : zS4} : ∀ a : Nat, ((a - 1 : Int) * l0 + (m1 * l1 + m2 * l2) < st.1) → zra l0 l1 l2 k R cc m1 a st = st
  | 0, _ => rfl
  | a + 1, h => by
    have e : ((a + 1 : Nat) : Int) - 1 = a := by omega
    rw [e] at h
    rw [zra, zrb_stop hc h1 h2 (m1 + 1) (by have e : ((m1 + 1 : Nat) : Int) - 1 = m1 := by omega
                                            rw [e]; omega)]
    refine zra_stop hc h0 h1 h2 a ?_
    have := zmulmono (show (a - 1 : Int) ≤ a by omega) h0
    omega
theorem zra_zca (hc : ∀ x, 0 ≤ x → 0 ≤ cc x ∧ cc x ≤ m2) (h0 : 0 ≤ l0) (h1 : 0 ≤ l1) (h2 : 0 ≤ l2) {f1 : Nat → Nat} : ∀ (a : Nat) (st : zS4), (∀ a' : Nat, a' < a → f1 a' ≤ m1 ∧ (∀ b : Nat, b ≤ f1 a' → 0 ≤ zlf l0 l1 k R a' b) ∧ ∀ b : Nat, f1 a' < b → b ≤ m1 → zlf l0 l1 k R a' b < 0) → zra l0 l1 l2 k R cc m1 a st = zca l0 l1 l2 k R cc m1 m2 f1 a st
  | 0, _, _ => rfl
  | a + 1, st, h => by
    rw [zca]
    split
    · rename_i q
      refine zra_stop hc h0 h1 h2 (a + 1) ?_
      have e : ((a + 1 : Nat) : Int) - 1 = a := by omega
      rw [e]; exact q
    · obtain ⟨q1, q2, q3⟩ := h a (by omega)
      have e : m1 + 1 = (f1 a + 1) + (m1 - f1 a) := by omega
      rw [zra, e, zrb_skip (m1 - f1 a) (fun b' z1 z2 => q3 b' (by omega) (by omega)), zrb_zcb hc h1 h2 (f1 a + 1) st (fun b' z => q2 b' (by omega))]
      exact zra_zca hc h0 h1 h2 a _ (fun a' z => h a' (by omega))
theorem zrb_none {a : Int} {st : zS4} : ∀ n : Nat, (∀ b' : Nat, b' < n → zlf l0 l1 k R a b' < 0) → zrb l0 l1 l2 k R cc a n st = st := fun n h => by
  have := zrb_skip (l0 := l0) (l1 := l1) (l2 := l2) (k := k) (R := R) (cc := cc) (a := a) (f := 0) (st := st) n (fun b' _ q => h b' (by omega))
  rw [Nat.zero_add] at this
  exact this
theorem zra_skip {f : Nat} {st : zS4} : ∀ n : Nat, (∀ a' : Nat, f ≤ a' → a' < f + n → ∀ b : Nat, b ≤ m1 → zlf l0 l1 k R a' b < 0) → zra l0 l1 l2 k R cc m1 (f + n) st = zra l0 l1 l2 k R cc m1 f st
  | 0, _ => rfl
  | n + 1, h => by
    show zra l0 l1 l2 k R cc m1 (f + n + 1) st = _
    rw [zra, zrb_none (m1 + 1) (fun b' q => h (f + n) (by omega) (by omega) b' (by omega))]
    exact zra_skip n (fun a' q1 q2 => h a' q1 (by omega))
/-- the first pair that fits wipes out the start -/
theorem zpo_first {a b c : Int} (ha : 0 ≤ a) (hb : 0 ≤ b) (hcc : 0 ≤ c) (h0 : 0 ≤ l0) (h1 : 0 ≤ l1) (h2 : 0 ≤ l2) (z0 : l0 = 0 → a = 0) (z1 : l1 = 0 → b = 0) (z2 : l2 = 0 → c = 0) : zpo l0 l1 l2 (-1, 0, 0, 0) a b c = zpo l0 l1 l2 (0, 0, 0, 0) a b c := by
  have p0 := Int.mul_nonneg ha h0
  have p1 := Int.mul_nonneg hb h1
  have p2 := Int.mul_nonneg hcc h2
  unfold zpo
  rw [if_pos (Or.inl (by show (-1 : Int) < _; omega))]
  by_cases q : 0 < a * l0 + b * l1 + c * l2
  · rw [if_pos (Or.inl q)]
  · have k0 : a = 0 := by
      rcases Int.mul_eq_zero.mp (show a * l0 = 0 by omega) with z | z
      · exact z
      · exact z0 z
    have k1 : b = 0 := by
      rcases Int.mul_eq_zero.mp (show b * l1 = 0 by omega) with z | z
      · exact z
      · exact z1 z
    have k2 : c = 0 := by
      rcases Int.mul_eq_zero.mp (show c * l2 = 0 by omega) with z | z
      · exact z
      · exact z2 z
    subst k0 k1 k2
    rw [if_neg (by rintro (w | ⟨_, w⟩) <;> simp at w)]
    simp
theorem zra_all {m0 f0 : Nat} {f1 : Nat → Nat} (hc : ∀ x, 0 ≤ x → 0 ≤ cc x ∧ cc x ≤ m2) (h0 : 0 ≤ l0) (h1 : 0 ≤ l1) (h2 : 0 ≤ l2) (z0 : l0 = 0 → m0 = 0) (z1 : l1 = 0 → m1 = 0) (z2 : l2 = 0 → m2 = 0) (hf0 : f0 ≤ m0) (hs : ∀ a : Nat, f0 < a → a ≤ m0 → ∀ b : Nat, b ≤ m1 → zlf l0 l1 k R a b < 0) (hf : ∀ a' : Nat, a' < f0 + 1 → f1 a' ≤ m1 ∧ (∀ b : Nat, b ≤ f1 a' → 0 ≤ zlf l0 l1 k R a' b) ∧ ∀ b : Nat, f1 a' < b → b ≤ m1 → zlf l0 l1 k R a' b < 0) : zra l0 l1 l2 k R cc m1 (m0 + 1) (-1, 0, 0, 0) = zca l0 l1 l2 k R cc m1 m2 f1 (f0 + 1) (0, 0, 0, 0) := by
  have e : m0 + 1 = (f0 + 1) + (m0 - f0) := by omega
  rw [e, zra_skip (m0 - f0) (fun a' q1 q2 => hs a' (by omega) (by omega)), ← zra_zca hc h0 h1 h2 (f0 + 1) _ hf]
  obtain ⟨q1, q2, q3⟩ := hf f0 (by omega)
  have e2 : m1 + 1 = (f1 f0 + 1) + (m1 - f1 f0) := by omega
  have hcc := hc _ (q2 (f1 f0) (Nat.le_refl _))
  rw [zra, zra, e2, zrb_skip (m1 - f1 f0) (fun b' z1 z2 => q3 b' (by omega) (by omega)), zrb_skip (m1 - f1 f0) (fun b' z1 z2 => q3 b' (by omega) (by omega)), zrb, zrb, if_pos (q2 _ (Nat.le_refl _)), if_pos (q2 _ (Nat.le_refl _)), zpo_first (by omega) (by omega) hcc.1 h0 h1 h2 (fun z => by have := z0 z; omega) (fun z => by have := z1 z; omega) (fun z => by have := z2 z; omega)]
/-- what holds of the start and of every pair that fits holds of the end -/
theorem zrb_inv {a : Int} (P : zS4 → Prop) (h : ∀ (st : zS4) (b : Nat), b ≤ m1 → P st → 0 ≤ zlf l0 l1 k R a b → P (zpo l0 l1 l2 st a b (cc (zlf l0 l1 k R a b)))) : ∀ (b : Nat) (st : zS4), b ≤ m1 + 1 → P st → P (zrb l0 l1 l2 k R cc a b st)
  | 0, _, _, hP => hP
  | b + 1, st, hb, hP => by
    rw [zrb]
    refine zrb_inv P h b _ (by omega) ?_
    split
    · rename_i q; exact h st b (by omega) hP q
    · exact hP
theorem zra_inv {m0 : Nat} (P : zS4 → Prop) (h : ∀ (st : zS4) (a b : Nat), a ≤ m0 → b ≤ m1 → P st → 0 ≤ zlf l0 l1 k R a b → P (zpo l0 l1 l2 st a b (cc (zlf l0 l1 k R a b)))) : ∀ (a : Nat) (st : zS4), a ≤ m0 + 1 → P st → P (zra l0 l1 l2 k R cc m1 a st)
  | 0, _, _, hP => hP
  | a + 1, st, ha, hP => by
    rw [zra]
    exact zra_inv P h a _ (by omega) (zrb_inv P (fun st b q1 q2 q3 => h st a b (by omega) q1 q2 q3) (m1 + 1) st (Nat.le_refl _) hP)
end
/-! a fitting number -/
def zft (m : Nat) (l k x : Int) : Nat := if m = 0 then 0 else (min (m : Int) (x / (l + k))).toNat
theorem zft_le {m : Nat} {l k x : Int} (hs : m ≠ 0 → 0 < l + k) (hx : 0 ≤ x) : zft m l k x ≤ m ∧ ((zft m l k x : Nat) : Int) * (l + k) ≤ x ∨ (zft m l k x ≤ m ∧ m = 0) := by
  by_cases q : m = 0
  · right; unfold zft; rw [if_pos q]; omega
  · left
    have hp := hs q
    have hd : 0 ≤ x / (l + k) := Int.ediv_nonneg hx (by omega)
    unfold zft
    rw [if_neg q]
    refine ⟨by omega, ?_⟩
    have h1 : (((min (m : Int) (x / (l + k))).toNat : Nat) : Int) = min (m : Int) (x / (l + k)) := by omega
    rw [h1]
    have h2 := zmulmono (show min (m : Int) (x / (l + k)) ≤ x / (l + k) by omega) (show 0 ≤ l + k by omega)
    have h3 := Int.ediv_mul_le x (show l + k ≠ 0 by omega)
    omega
theorem zft_gt {m : Nat} {l k x : Int} (hs : m ≠ 0 → 0 < l + k) {b : Nat} (h1 : zft m l k x < b) (h2 : b ≤ m) (hx : 0 ≤ x) : x < (b : Int) * (l + k) := by
  have q : m ≠ 0 := by omega
  have hp := hs q
  have hd : 0 ≤ x / (l + k) := Int.ediv_nonneg hx (by omega)
  unfold zft at h1
  rw [if_neg q] at h1
  have h3 : x / (l + k) + 1 ≤ b := by omega
  have h4 := zmulmono h3 (show 0 ≤ l + k by omega)
  have h5 := Int.lt_ediv_add_one_mul_self x hp
  omega
section
variable {l0 l1 l2 k R : Int} {cc : Int → Int} {m1 m2 : Nat}
theorem zcb_inv {a : Int} {f : Nat} (P : zS4 → Prop) (h : ∀ (st : zS4) (b : Nat), b ≤ f → P st → P (zpo l0 l1 l2 st a b (cc (zlf l0 l1 k R a b)))) : ∀ (b : Nat) (st : zS4), b ≤ f + 1 → P st → P (zcb l0 l1 l2 k R cc m2 a b st)
  | 0, _, _, hP => hP
  | b + 1, st, hb, hP => by
    rw [zcb]
    split
    · exact hP
    · exact zcb_inv P h b _ (by omega) (h st b (by omega) hP)
theorem zca_inv {f0 : Nat} {f1 : Nat → Nat} (P : zS4 → Prop) (h : ∀ (st : zS4) (a b : Nat), a ≤ f0 → b ≤ f1 a → P st → P (zpo l0 l1 l2 st a b (cc (zlf l0 l1 k R a b)))) : ∀ (a : Nat) (st : zS4), a ≤ f0 + 1 → P st → P (zca l0 l1 l2 k R cc m1 m2 f1 a st)
  | 0, _, _, hP => hP
  | a + 1, st, ha, hP => by
    rw [zca]
    split
    · exact hP
    · exact zca_inv P h a _ (by omega) (zcb_inv P (fun st b q1 q2 => h st a b (by omega) q1 q2) (f1 a + 1) st (Nat.le_refl _) hP)
end
/-- the one pattern: what both sides come to -/
abbrev zPr : Type := (Int × Int × Int × Int × Int) × Nat × Nat × Nat
def zPar : Type := {P : zPr // (0 ≤ P.1.1 ∧ P.1.1 ≤ 9000) ∧ (0 ≤ P.1.2.1 ∧ P.1.2.1 ≤ 9000) ∧ (0 ≤ P.1.2.2.1 ∧ P.1.2.2.1 ≤ 9000) ∧ (0 ≤ P.1.2.2.2.1 ∧ P.1.2.2.2.1 ≤ 20) ∧ (P.1.2.2.2.1 ≤ P.1.2.2.2.2 ∧ P.1.2.2.2.2 ≤ 300000) ∧ P.2.1 ≤ 60 ∧ P.2.2.1 ≤ 60 ∧ P.2.2.2 ≤ 60 ∧ (P.2.1 ≠ 0 → 100 ≤ P.1.1) ∧ (P.2.2.1 ≠ 0 → 100 ≤ P.1.2.1) ∧ (P.2.2.2 ≠ 0 → 100 ≤ P.1.2.2.1)}
def zPar.l0 (P : zPar) : Int := P.1.1.1
def zPar.l1 (P : zPar) : Int := P.1.1.2.1
def zPar.l2 (P : zPar) : Int := P.1.1.2.2.1
def zPar.k (P : zPar) : Int := P.1.1.2.2.2.1
def zPar.R (P : zPar) : Int := P.1.1.2.2.2.2
def zPar.m0 (P : zPar) : Nat := P.1.2.1
def zPar.m1 (P : zPar) : Nat := P.1.2.2.1
def zPar.m2 (P : zPar) : Nat := P.1.2.2.2
theorem zPar.b0 (P : zPar) : 0 ≤ P.l0 ∧ P.l0 ≤ 9000 := P.2.1
theorem zPar.b1 (P : zPar) : 0 ≤ P.l1 ∧ P.l1 ≤ 9000 := P.2.2.1
theorem zPar.b2 (P : zPar) : 0 ≤ P.l2 ∧ P.l2 ≤ 9000 := P.2.2.2.1
theorem zPar.bk (P : zPar) : 0 ≤ P.k ∧ P.k ≤ 20 := P.2.2.2.2.1
theorem zPar.bR (P : zPar) : P.k ≤ P.R ∧ P.R ≤ 300000 := P.2.2.2.2.2.1
theorem zPar.c0 (P : zPar) : P.m0 ≤ 60 := P.2.2.2.2.2.2.1
theorem zPar.c1 (P : zPar) : P.m1 ≤ 60 := P.2.2.2.2.2.2.2.1
theorem zPar.c2 (P : zPar) : P.m2 ≤ 60 := P.2.2.2.2.2.2.2.2.1
theorem zPar.h0 (P : zPar) : P.m0 ≠ 0 → 100 ≤ P.l0 := P.2.2.2.2.2.2.2.2.2.1
theorem zPar.h1 (P : zPar) : P.m1 ≠ 0 → 100 ≤ P.l1 := P.2.2.2.2.2.2.2.2.2.2.1
theorem zPar.h2 (P : zPar) : P.m2 ≠ 0 → 100 ≤ P.l2 := P.2.2.2.2.2.2.2.2.2.2.2
def zPar.cc (P : zPar) (x : Int) : Int := (zft P.m2 P.l2 P.k x : Nat)
def zPar.f0 (P : zPar) : Nat := zft P.m0 P.l0 P.k P.R
def zPar.f1 (P : zPar) (a : Nat) : Nat := zft P.m1 P.l1 P.k (P.R - a * (P.l0 + P.k))
def zPar.S (P : zPar) : zS4 := zca P.l0 P.l1 P.l2 P.k P.R P.cc P.m1 P.m2 P.f1 (P.f0 + 1) (0, 0, 0, 0)
def zPar.ok (P : zPar) (st : zS4) : Prop := (0 ≤ st.1 ∧ st.1 ≤ P.R) ∧ (0 ≤ st.2.1 ∧ st.2.1 ≤ P.m0) ∧ (0 ≤ st.2.2.1 ∧ st.2.2.1 ≤ P.m1) ∧ (0 ≤ st.2.2.2 ∧ st.2.2.2 ≤ P.m2)
theorem zPar.left0 (P : zPar) {a : Nat} (ha : a ≤ P.f0) : 0 ≤ P.R - a * (P.l0 + P.k) := by
  have hR : 0 ≤ P.R := by have := P.bR; have := P.bk; omega
  rcases zft_le (m := P.m0) (l := P.l0) (k := P.k) (x := P.R) (fun q => by have := P.h0 q; have := P.bk; omega) hR with z | z
  · have h1 := zmulmono (show (a : Int) ≤ (P.f0 : Nat) by omega) (show 0 ≤ P.l0 + P.k by have := P.b0; have := P.bk; omega)
    have h2 := z.2
    unfold zPar.f0 at h1
    omega
  · have : a = 0 := by unfold zPar.f0 at ha; omega
    subst this
    simpa using hR
theorem zPar.left1 (P : zPar) {a b : Nat} (ha : a ≤ P.f0) (hb : b ≤ P.f1 a) : 0 ≤ zlf P.l0 P.l1 P.k P.R a b := by
  have hx := P.left0 ha
  unfold zlf
  rcases zft_le (m := P.m1) (l := P.l1) (k := P.k) (x := P.R - a * (P.l0 + P.k)) (fun q => by have := P.h1 q; have := P.bk; omega) hx with z | z
  · have h1 := zmulmono (show (b : Int) ≤ (P.f1 a : Nat) by omega) (show 0 ≤ P.l1 + P.k by have := P.b1; have := P.bk; omega)
    have h2 := z.2
    unfold zPar.f1 at h1
    omega
  · have : b = 0 := by unfold zPar.f1 at hb; omega
    subst this
    simpa using hx
theorem zPar.ccb (P : zPar) {x : Int} (hx : 0 ≤ x) : 0 ≤ P.cc x ∧ P.cc x ≤ P.m2 := by
  unfold zPar.cc
  rcases zft_le (m := P.m2) (l := P.l2) (k := P.k) (x := x) (fun q => by have := P.h2 q; have := P.bk; omega) hx with z | z <;> omega
theorem zPar.f0b (P : zPar) : P.f0 ≤ P.m0 := by
  have hR : 0 ≤ P.R := by have := P.bR; have := P.bk; omega
  unfold zPar.f0
  rcases zft_le (m := P.m0) (l := P.l0) (k := P.k) (x := P.R) (fun q => by have := P.h0 q; have := P.bk; omega) hR with z | z <;> omega
theorem zPar.f1b (P : zPar) {a : Nat} (ha : a ≤ P.f0) : P.f1 a ≤ P.m1 := by
  unfold zPar.f1
  rcases zft_le (m := P.m1) (l := P.l1) (k := P.k) (fun q => by have := P.h1 q; have := P.bk; omega) (P.left0 ha) with z | z <;> omega
theorem zPar.ok_po (P : zPar) {st : zS4} {a b : Nat} (hs : P.ok st) (ha : a ≤ P.m0) (hb : b ≤ P.m1) (hl : 0 ≤ zlf P.l0 P.l1 P.k P.R a b) : P.ok (zpo P.l0 P.l1 P.l2 st a b (P.cc (zlf P.l0 P.l1 P.k P.R a b))) := by
  have hc := P.ccb hl
  have ab0 := P.b0
  have ab1 := P.b1
  have ab2 := P.b2
  have ak := P.bk
  unfold zpo
  split
  · refine ⟨⟨?_, ?_⟩, ⟨by show (0 : Int) ≤ a; omega, by show (a : Int) ≤ P.m0; omega⟩, ⟨by show (0 : Int) ≤ b; omega, by show (b : Int) ≤ P.m1; omega⟩, hc⟩
    · have t0 := Int.mul_nonneg (show (0 : Int) ≤ a by omega) ab0.1
      have t1 := Int.mul_nonneg (show (0 : Int) ≤ b by omega) ab1.1
      have t2 := Int.mul_nonneg hc.1 ab2.1
      show 0 ≤ a * P.l0 + b * P.l1 + P.cc (zlf P.l0 P.l1 P.k P.R a b) * P.l2
      omega
    · have t0 := zmulmono (x := P.l0) (y := P.l0 + P.k) (by omega) (show (0 : Int) ≤ a by omega)
      have t1 := zmulmono (x := P.l1) (y := P.l1 + P.k) (by omega) (show (0 : Int) ≤ b by omega)
      have t2 : P.cc (zlf P.l0 P.l1 P.k P.R a b) * P.l2 ≤ zlf P.l0 P.l1 P.k P.R a b := by
        unfold zPar.cc
        rcases zft_le (m := P.m2) (l := P.l2) (k := P.k) (x := zlf P.l0 P.l1 P.k P.R a b) (fun q => by have := P.h2 q; omega) hl with z | z
        · have := zmulmono (x := P.l2) (y := P.l2 + P.k) (z := ((zft P.m2 P.l2 P.k (zlf P.l0 P.l1 P.k P.R a b) : Nat) : Int)) (by omega) (by omega)
          rw [Int.mul_comm P.l2, Int.mul_comm (P.l2 + P.k)] at this
          omega
        · have e : zft P.m2 P.l2 P.k (zlf P.l0 P.l1 P.k P.R a b) = 0 := by omega
          rw [e]
          simpa using hl
      rw [Int.mul_comm P.l0, Int.mul_comm (P.l0 + P.k)] at t0
      rw [Int.mul_comm P.l1, Int.mul_comm (P.l1 + P.k)] at t1
      show a * P.l0 + b * P.l1 + P.cc (zlf P.l0 P.l1 P.k P.R a b) * P.l2 ≤ P.R
      have e : zlf P.l0 P.l1 P.k P.R a b = P.R - a * (P.l0 + P.k) - b * (P.l1 + P.k) := rfl
      omega
  · exact hs
theorem zPar.okS (P : zPar) : P.ok P.S := by
  refine zca_inv P.ok (fun st a b ha hb hs => P.ok_po hs (Nat.le_trans ha P.f0b) (Nat.le_trans hb (P.f1b ha)) (P.left1 ha hb)) (P.f0 + 1) _ (Nat.le_refl _) ?_
  have := P.bR
  have := P.bk
  exact ⟨⟨Int.le_refl _, by show (0 : Int) ≤ P.R; omega⟩, ⟨Int.le_refl _, by show (0 : Int) ≤ P.m0; omega⟩, ⟨Int.le_refl _, by show (0 : Int) ≤ P.m1; omega⟩, ⟨Int.le_refl _, by show (0 : Int) ≤ P.m2; omega⟩⟩
theorem zPar.all (P : zPar) : zra P.l0 P.l1 P.l2 P.k P.R P.cc P.m1 (P.m0 + 1) (-1, 0, 0, 0) = P.S := by
  have hR : 0 ≤ P.R := by have := P.bR; have := P.bk; omega
  refine zra_all (fun x hx => P.ccb hx) P.b0.1 P.b1.1 P.b2.1 (fun z => Classical.byContradiction fun q => by have := P.h0 q; omega) (fun z => Classical.byContradiction fun q => by have := P.h1 q; omega) (fun z => Classical.byContradiction fun q => by have := P.h2 q; omega) P.f0b (fun a q1 q2 b q3 => ?_) (fun a ha => ⟨P.f1b (by omega), fun b hb => P.left1 (by omega) hb, fun b q1 q2 => ?_⟩)
  · have := zft_gt (m := P.m0) (l := P.l0) (k := P.k) (x := P.R) (fun q => by have := P.h0 q; have := P.bk; omega) q1 q2 hR
    have t := Int.mul_nonneg (show (0 : Int) ≤ b by omega) (show 0 ≤ P.l1 + P.k by have := P.b1; have := P.bk; omega)
    unfold zlf
    omega
  · have := zft_gt (m := P.m1) (l := P.l1) (k := P.k) (fun q => by have := P.h1 q; have := P.bk; omega) q1 q2 (P.left0 (a := a) (by omega))
    unfold zlf
    omega
