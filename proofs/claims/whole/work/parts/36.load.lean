theorem g_X4_load_2o (d : Nat) (E : zE) (At : Nat → zC) (Q : Option Value → zM → Prop) (hE : ∀ y n a M' Q', zT (d + 1) y n a M' Q' → E y n a M' Q') (hC : ∀ pc st L M', zX 81 E Q At (zlk B_X4_load pc) st L M' → At pc st L M') (I : Nat → Nat → Int32) (J : Nat → Nat → Int64) (o4 : Option Value) (o5 : Option Value) (v2 : Int32) (v3 : Int32) {f7 : Nat → Int32} (e7 : I 7 = f7) {f8 : Nat → Int32} (e8 : I 8 = f8) {f9 : Nat → Int32} (e9 : I 9 = f9) (b1 : (¬ ((3 : Int32) ≤ v3)) → 0 ≤ v2 ∧ v2 < 8) (b2 : (¬ ((3 : Int32) ≤ v3)) → ((f7 (v2 : Int32).toNatClampNeg) ≤ v3) → 0 ≤ v3 ∧ v3 < 3) (b3 : (¬ ((3 : Int32) ≤ v3)) → ((f7 (v2 : Int32).toNatClampNeg) ≤ v3) → 0 ≤ v3 ∧ v3 < 3) (b4 : (¬ ((3 : Int32) ≤ v3)) → (¬ ((f7 (v2 : Int32).toNatClampNeg) ≤ v3)) → 0 ≤ ((v2 * 3) + v3) ∧ ((v2 * 3) + v3) < 24) (b5 : (¬ ((3 : Int32) ≤ v3)) → (¬ ((f7 (v2 : Int32).toNatClampNeg) ≤ v3)) → 0 ≤ v3 ∧ v3 < 3) (b6 : (¬ ((3 : Int32) ≤ v3)) → (¬ ((f7 (v2 : Int32).toNatClampNeg) ≤ v3)) → 0 ≤ ((v2 * 3) + v3) ∧ ((v2 * 3) + v3) < 24) (b7 : (¬ ((3 : Int32) ≤ v3)) → (¬ ((f7 (v2 : Int32).toNatClampNeg) ≤ v3)) → 0 ≤ v3 ∧ v3 < 3) (k1 : (¬ ((3 : Int32) ≤ v3)) → ((f7 (v2 : Int32).toNatClampNeg) ≤ v3) → At 2 [] [some (.ref 18), some (.ref 6), some (.int v2), some (.int (v3 + 1)), some (.int 0), some (.int ((v2 * 3) + v3))] (zwI (zwI (I, J, zR, 81) 20 (v3 : Int32).toNatClampNeg 0) 21 (v3 : Int32).toNatClampNeg 0)) (k2 : (¬ ((3 : Int32) ≤ v3)) → (¬ ((f7 (v2 : Int32).toNatClampNeg) ≤ v3)) → At 2 [] [some (.ref 18), some (.ref 6), some (.int v2), some (.int (v3 + 1)), some (.int 1), some (.int ((v2 * 3) + v3))] (zwI (zwI (I, J, zR, 81) 20 (v3 : Int32).toNatClampNeg (f8 (((v2 * 3) + v3) : Int32).toNatClampNeg)) 21 (v3 : Int32).toNatClampNeg (if (f9 (((v2 * 3) + v3) : Int32).toNatClampNeg) < 60 then (f9 (((v2 * 3) + v3) : Int32).toNatClampNeg) else 60))) (l1 : ((3 : Int32) ≤ v3) → Q none (I, J, zR, 81)) : At 2 [] [some (.ref 18), some (.ref 6), some (.int v2), some (.int v3), o4, o5] (I, J, zR, 81) := by
  subst e7 e8 e9
  refine hC 2 [] [some (.ref 18), some (.ref 6), some (.int v2), some (.int v3), o4, o5] _ ?_
  refine And.intro (fun q1 => ?_) (fun q1 => ?_)
  · skip
    refine hC 86 [] [some (.ref 18), some (.ref 6), some (.int v2), some (.int v3), o4, o5] _ ?_
    exact l1 q1
  · skip
    refine And.intro (zvp (b1 q1) rfl) ?_
    refine And.intro (fun q2 => ?_) (fun q2 => ?_)
    · skip
      refine hC 21 [] [some (.ref 18), some (.ref 6), some (.int v2), some (.int v3), o4, o5] _ ?_
      refine hC 22 [.int 0] [some (.ref 18), some (.ref 6), some (.int v2), some (.int v3), o4, o5] _ ?_
      refine And.intro (fun _ => ?_) (fun qz => absurd qz (by decide))
      refine hC 51 [.int v3, .ref 20] [some (.ref 18), some (.ref 6), some (.int v2), some (.int v3), some (.int 0), some (.int ((v2 * 3) + v3))] _ ?_
      refine hC 52 [.int 0, .int v3, .ref 20] [some (.ref 18), some (.ref 6), some (.int v2), some (.int v3), some (.int 0), some (.int ((v2 * 3) + v3))] _ ?_
      refine And.intro (zvp (b2 q1 q2) rfl) ?_
      refine And.intro (fun _ => ?_) (fun qz => absurd qz (by decide))
      refine hC 78 [.int v3, .ref 21] [some (.ref 18), some (.ref 6), some (.int v2), some (.int v3), some (.int 0), some (.int ((v2 * 3) + v3))] _ ?_
      refine hC 79 [.int 0, .int v3, .ref 21] [some (.ref 18), some (.ref 6), some (.int v2), some (.int v3), some (.int 0), some (.int ((v2 * 3) + v3))] _ ?_
      refine And.intro (zvp (b3 q1 q2) rfl) ?_
      exact k1 q1 q2
    · skip
      refine hC 22 [.int 1] [some (.ref 18), some (.ref 6), some (.int v2), some (.int v3), o4, o5] _ ?_
      refine And.intro (fun qz => absurd qz (by decide)) (fun _ => ?_)
      refine And.intro (zvp (b4 q1 q2) rfl) ?_
      refine hC 52 [.int (I 8 (((v2 * 3) + v3) : Int32).toNatClampNeg), .int v3, .ref 20] [some (.ref 18), some (.ref 6), some (.int v2), some (.int v3), some (.int 1), some (.int ((v2 * 3) + v3))] _ ?_
      refine And.intro (zvp (b5 q1 q2) rfl) ?_
      refine And.intro (fun qz => absurd qz (by decide)) (fun _ => ?_)
      refine And.intro (zvp (b6 q1 q2) rfl) ?_
      refine hE _ _ _ _ _ (w_min _ _ _ (60) _ _   (?_))
      · skip
        refine hC 79 [.int (if (I 9 (((v2 * 3) + v3) : Int32).toNatClampNeg) < 60 then (I 9 (((v2 * 3) + v3) : Int32).toNatClampNeg) else 60), .int v3, .ref 21] [some (.ref 18), some (.ref 6), some (.int v2), some (.int v3), some (.int 1), some (.int ((v2 * 3) + v3))] _ ?_
        refine And.intro (zvp (b7 q1 q2) rfl) ?_
        exact k2 q1 q2
/-! the class's pattern: what is loaded, what fits, what is offered -/
def zLe (os ol : Nat → Int32) (p o : Int32) : Int32 := if os p.toNatClampNeg ≤ o then 0 else ol (3 * p + o).toNatClampNeg
def zMo (os ow : Nat → Int32) (p o : Int32) : Int32 := if os p.toNatClampNeg ≤ o then 0 else (if ow (3 * p + o).toNatClampNeg < 60 then ow (3 * p + o).toNatClampNeg else 60)
def zCf (I I' : Nat → Nat → Int32) : Prop := ∀ c, c ≠ 18 → c ≠ 19 → c ≠ 20 → c ≠ 21 → I' c = I c
theorem w_load (d : Nat) (I : Nat → Nat → Int32) (J : Nat → Nat → Int64) (p n : Int32) (Q : Option Value → zM → Prop) (hp : 0 ≤ p ∧ p < n) (hn : n ≤ 8) (ho : 0 ≤ I 7 p.toNatClampNeg ∧ I 7 p.toNatClampNeg ≤ 3) (l : ∀ I' : Nat → Nat → Int32, zCf I I' → I' 18 = I 18 → I' 19 = I 19 → (I' 20 0 = zLe (I 7) (I 8) p 0 ∧ I' 20 1 = zLe (I 7) (I 8) p 1 ∧ I' 20 2 = zLe (I 7) (I 8) p 2) → (I' 21 0 = zMo (I 7) (I 9) p 0 ∧ I' 21 1 = zMo (I 7) (I 9) p 1 ∧ I' 21 2 = zMo (I 7) (I 9) p 2) → Q none (I', J, zR, 81)) : zT (d + 2) 27 81 [.ref 18, .ref 6, .int p] (I, J, zR, 81) Q := by
  have hp8 : 0 ≤ p ∧ p < 8 := by clear l; grind
  refine ⟨rfl, fun E At hE hC => ?_⟩
  replace hC : ∀ pc st L M', zX 81 E Q At (zlk B_X4_load pc) st L M' → At pc st L M' := hC
  have step : ∀ (I1 : Nat → Nat → Int32) (o : Int32) (w4 w5 : Option Value), I1 7 = I 7 → I1 8 = I 8 → I1 9 = I 9 → (0 ≤ o ∧ o < 3) → (∀ x4 x5 : Option Value, At 2 [] [some (.ref 18), some (.ref 6), some (.int p), some (.int (o + 1)), x4, x5] (zwI (zwI (I1, J, zR, 81) 20 o.toNatClampNeg (zLe (I 7) (I 8) p o)) 21 o.toNatClampNeg (zMo (I 7) (I 9) p o))) → At 2 [] [some (.ref 18), some (.ref 6), some (.int p), some (.int o), w4, w5] (I1, J, zR, 81) := by
    intro I1 o w4 w5 e7 e8 e9 h3 hA
    have h3n : ¬ (3 : Int32) ≤ o := by clear l hE hC hA; grind
    have hb : ¬ I 7 p.toNatClampNeg ≤ o → 0 ≤ p * 3 + o ∧ p * 3 + o < 24 := fun q => zb24 hp hn (by clear l hE hC hA; grind)
    refine g_X4_load_2o d E At Q hE hC I1 J w4 w5 p o e7 e8 e9 (fun _ => hp8) (fun _ _ => h3) (fun _ _ => h3) (fun _ q => hb q) (fun _ _ => h3) (fun _ q => hb q) (fun _ _ => h3) (fun _ q => ?_) (fun _ q => ?_) (fun q => absurd q h3n)
    · have := hA (some (.int 0)) (some (.int (p * 3 + o)))
      unfold zLe zMo at this
      rw [if_pos q, if_pos q] at this
      exact this
    · have := hA (some (.int 1)) (some (.int (p * 3 + o)))
      unfold zLe zMo at this
      rw [if_neg q, if_neg q, Int32.mul_comm 3 p] at this
      exact this
  refine hC 0 [] [some (.ref 18), some (.ref 6), some (.int p), none, none, none] _ ?_
  refine step I 0 none none rfl rfl rfl (by decide) (fun x4 x5 => ?_)
  refine step _ (0 + 1) x4 x5 rfl rfl rfl (by decide) (fun x4 x5 => ?_)
  refine step _ (0 + 1 + 1) x4 x5 rfl rfl rfl (by decide) (fun x4 x5 => ?_)
  refine g_X4_load_2o d E At Q hE hC _ J x4 x5 p (0 + 1 + 1 + 1) rfl rfl rfl (fun q => absurd (by decide) q) (fun q => absurd (by decide) q) (fun q => absurd (by decide) q) (fun q => absurd (by decide) q) (fun q => absurd (by decide) q) (fun q => absurd (by decide) q) (fun q => absurd (by decide) q) (fun q => absurd (by decide) q) (fun q => absurd (by decide) q) (fun _ => ?_)
  refine l _ (fun c h18 h19 h20 h21 => ?_) rfl rfl ⟨rfl, rfl, rfl⟩ ⟨rfl, rfl, rfl⟩
  show va_up (va_up (va_up (va_up (va_up (va_up I 20 _) 21 _) 20 _) 21 _) 20 _) 21 _ c = I c
  rw [zup_ne h21, zup_ne h20, zup_ne h21, zup_ne h20, zup_ne h21, zup_ne h20]
def zCv (P : zPar) (I : Nat → Nat → Int32) : Prop := (I 20 0 = zo P.l0 ∧ I 20 1 = zo P.l1 ∧ I 20 2 = zo P.l2) ∧ (I 21 0 = zo (P.m0 : Nat) ∧ I 21 1 = zo (P.m1 : Nat) ∧ I 21 2 = zo (P.m2 : Nat)) ∧ I 18 4 = zo P.k
def zCs (I : Nat → Nat → Int32) (st : zS4) : Prop := I 18 1 = zo st.1 ∧ I 19 0 = zo st.2.1 ∧ I 19 1 = zo st.2.2.1 ∧ I 19 2 = zo st.2.2.2
theorem w_fit (d : Nat) (I : Nat → Nat → Int32) (J : Nat → Nat → Int64) (o y : Int32) (l k x : Int) (m : Nat) (Q : Option Value → zM → Prop) (ho : 0 ≤ o ∧ o < 3) (e20 : I 20 o.toNatClampNeg = zo l) (e21 : I 21 o.toNatClampNeg = zo m) (e18 : I 18 4 = zo k) (hy : y = zo x) (hl : 0 ≤ l ∧ l ≤ 9000) (hm : m ≤ 60) (hk : 0 ≤ k ∧ k ≤ 20) (hml : m ≠ 0 → 100 ≤ l) (hx : 0 ≤ x ∧ x ≤ 300000) (L : Q (some (.int (zo (zft m l k x : Nat)))) (I, J, zR, 81)) : zT (d + 2) 29 81 [.ref 18, .int o, .int y] (I, J, zR, 81) Q := by
  subst hy
  have z0 : (0 : Int32) = zo 0 := rfl
  have c1 : (I 21 o.toNatClampNeg ≤ 0 ↔ (m : Int) ≤ 0) := by rw [e21, z0]; exact zo_le ⟨by omega, by omega⟩ ⟨by omega, by omega⟩
  have c2 : (I 20 o.toNatClampNeg + I 18 4 ≤ 0 ↔ l + k ≤ 0) := by rw [e20, e18, zo_add, z0]; exact zo_le ⟨by omega, by omega⟩ ⟨by omega, by omega⟩
  have c3 : (0 : Int32) ≤ zo x := by rw [z0]; exact (zo_le ⟨by omega, by omega⟩ ⟨by omega, by omega⟩).mpr hx.1
  refine w_X4_fitting d I J o (zo x) Q rfl rfl rfl ho ho (fun _ _ _ => ho) (fun _ q2 _ z => q2 (by rw [z]; decide)) (fun q => ?_) (fun q1 q2 => ?_) (fun q1 q2 q3 => ?_) (fun _ _ q3 => absurd c3 q3)
  · have e : zft m l k x = 0 := by
      have := c1.mp q
      unfold zft
      rw [if_pos (by omega)]
    rw [e] at L
    exact L
  · have h1 : ¬ (m : Int) ≤ 0 := fun z => q1 (c1.mpr z)
    have h2 := c2.mp q2
    have h3 := hml (by omega)
    exfalso
    omega
  · have h1 : ¬ (m : Int) ≤ 0 := fun z => q1 (c1.mpr z)
    have h3 := hml (by omega)
    have hq : 0 ≤ x / (l + k) := Int.ediv_nonneg hx.1 (by omega)
    have hq2 : x / (l + k) ≤ x := Int.ediv_le_self (l + k) hx.1
    rw [e20, e18, e21, zo_add, zo_div ⟨hx.1, by omega⟩ ⟨by omega, by omega⟩]
    unfold zft at L
    rw [if_neg (by omega)] at L
    by_cases w : x / (l + k) < m
    · rw [if_pos ((zo_lt ⟨by omega, by omega⟩ ⟨by omega, by omega⟩).mpr w)]
      have e : (((min (m : Int) (x / (l + k))).toNat : Nat) : Int) = x / (l + k) := by omega
      rw [e] at L
      exact L
    · rw [if_neg (fun z => w ((zo_lt ⟨by omega, by omega⟩ ⟨by omega, by omega⟩).mp z))]
      have e : (((min (m : Int) (x / (l + k))).toNat : Nat) : Int) = m := by omega
      rw [e] at L
      exact L
theorem zsum3 (P : zPar) {a b c : Int} (ha : 0 ≤ a ∧ a ≤ 60) (hb : 0 ≤ b ∧ b ≤ 60) (hc : 0 ≤ c ∧ c ≤ 60) : 0 ≤ a * P.l0 + b * P.l1 + c * P.l2 ∧ a * P.l0 + b * P.l1 + c * P.l2 ≤ 1620000 := by
  have t0 := zmb ha P.b0
  have t1 := zmb hb P.b1
  have t2 := zmb hc P.b2
  omega
set_option maxHeartbeats 2000000 in
theorem w_off (d : Nat) (P : zPar) (I : Nat → Nat → Int32) (J : Nat → Nat → Int64) (st : zS4) (a b c : Int) (Q : Option Value → zM → Prop) (hv : zCv P I) (hs : zCs I st) (hok : P.ok st) (ha : 0 ≤ a ∧ a ≤ 60) (hb : 0 ≤ b ∧ b ≤ 60) (hc : 0 ≤ c ∧ c ≤ 60) (L : ∀ I' : Nat → Nat → Int32, zCf I I' → zCv P I' → zCs I' (zpo P.l0 P.l1 P.l2 st a b c) → Q none (I', J, zR, 81)) : zT (d + 1) 30 81 [.ref 18, .int (zo a), .int (zo b), .int (zo c)] (I, J, zR, 81) Q := by
  have v0 := hv.1.1
  have v1 := hv.1.2.1
  have v2 := hv.1.2.2
  obtain ⟨s0, s1, s2, s3⟩ := hs
  obtain ⟨k0, k1, k2, k3⟩ := hok
  have bR := P.bR
  have n0 := P.c0
  have n1 := P.c1
  have n2 := P.c2
  have sb := zsum3 P ha hb hc
  have es : zo a * I 20 0 + zo b * I 20 1 + zo c * I 20 2 = zo (a * P.l0 + b * P.l1 + c * P.l2) := by rw [v0, v1, v2, zo_mul, zo_mul, zo_mul, zo_add, zo_add]
  have c1 : (I 19 0 + I 19 1 + I 19 2 ≤ zo a + zo b + zo c ↔ st.2.1 + st.2.2.1 + st.2.2.2 ≤ a + b + c) := by rw [s1, s2, s3, zo_add, zo_add, zo_add, zo_add]; exact zo_le ⟨by omega, by omega⟩ ⟨by omega, by omega⟩
  have c2 : (I 18 1 < zo a * I 20 0 + zo b * I 20 1 + zo c * I 20 2 ↔ st.1 < a * P.l0 + b * P.l1 + c * P.l2) := by rw [es, s0]; exact zo_lt ⟨by omega, by omega⟩ ⟨by omega, by omega⟩
  have c3 : (zo a * I 20 0 + zo b * I 20 1 + zo c * I 20 2 = I 18 1 ↔ a * P.l0 + b * P.l1 + c * P.l2 = st.1) := by rw [es, s0]; exact zo_eq ⟨by omega, by omega⟩ ⟨by omega, by omega⟩
  have keep : ¬ (st.1 < a * P.l0 + b * P.l1 + c * P.l2 ∨ (a * P.l0 + b * P.l1 + c * P.l2 = st.1 ∧ a + b + c < st.2.1 + st.2.2.1 + st.2.2.2)) → Q none (I, J, zR, 81) := fun q => by
    refine L I (fun _ _ _ _ _ => rfl) hv ?_
    unfold zpo
    rw [if_neg q]
    exact ⟨s0, s1, s2, s3⟩
  have take : (st.1 < a * P.l0 + b * P.l1 + c * P.l2 ∨ (a * P.l0 + b * P.l1 + c * P.l2 = st.1 ∧ a + b + c < st.2.1 + st.2.2.1 + st.2.2.2)) → Q none (zwI (zwI (zwI (zwI (I, J, zR, 81) 18 1 (zo a * I 20 0 + zo b * I 20 1 + zo c * I 20 2)) 19 0 (zo a)) 19 1 (zo b)) 19 2 (zo c)) := fun q => by
    refine L (va_up (va_up (va_up (va_up I 18 (va_up (I 18) 1 (zo a * I 20 0 + zo b * I 20 1 + zo c * I 20 2))) 19 (va_up (I 19) 0 (zo a))) 19 (va_up (va_up (I 19) 0 (zo a)) 1 (zo b))) 19 (va_up (va_up (va_up (I 19) 0 (zo a)) 1 (zo b)) 2 (zo c))) (fun c h18 h19 _ _ => by rw [zup_ne h19, zup_ne h19, zup_ne h19, zup_ne h18]) ⟨hv.1, hv.2.1, hv.2.2⟩ ?_
    unfold zpo
    rw [if_pos q]
    exact ⟨es, rfl, rfl, rfl⟩
  refine w_X4_offer d I J (zo a) (zo b) (zo c) Q rfl rfl rfl (fun _ q2 => take (Or.inl (c2.mp q2))) (fun q1 q2 q3 => keep ?_) (fun q1 q2 q3 => keep ?_) (fun _ q2 => take (Or.inl (c2.mp q2))) (fun q1 q2 q3 => keep ?_) (fun q1 q2 q3 => take (Or.inr ⟨c3.mp q3, ?_⟩))
  · rintro (z | z)
    · exact q2 (c2.mpr z)
    · exact q3 (c3.mpr z.1)
  · have q4 := c1.mp q1
    rintro (z | z)
    · exact q2 (c2.mpr z)
    · have := z.2
      omega
  · rintro (z | z)
    · exact q2 (c2.mpr z)
    · exact q3 (c3.mpr z.1)
  · have q4 : ¬ (st.2.1 + st.2.2.1 + st.2.2.2 ≤ a + b + c) := fun z => q1 (c1.mpr z)
    omega
