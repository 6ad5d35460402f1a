set_option maxHeartbeats 2000000 in
theorem g_fp25 (d : Nat) (E : zE) (At : Nat → zC) (Q : Option Value → zM → Prop) (hE : ∀ y n a M' Q', zT (d + 1) y n a M' Q' → E y n a M' Q') (hC : ∀ pc st L M', zX 81 E Q At (zlk B_X10_findPattern pc) st L M' → At pc st L M') (P : zPar) (J : Nat → Nat → Int64) (p u n : Int32) (os ol ow la : Nat → Int32) (hp : 0 ≤ p ∧ p < n) (hn : n ≤ 8) (hP : zPp P os ol ow la p u) (hl2 : 3 ≤ os p.toNatClampNeg → 100 ≤ P.l2) : ∀ (a : Nat) (st : zS4) (I : Nat → Nat → Int32) (o6 o7 o8 o9 : Option Value), a ≤ P.m0 + 1 → I 66 = os → I 67 = ol → I 68 = ow → I 47 = la → zMs I st → P.okm st → (∀ I' : Nat → Nat → Int32, zMf I I' → zMs I' (zra P.l0 P.l1 P.l2 P.k P.R P.cc P.m1 a st) → Q none (I', J, zR, 81)) → At 25 [] [some (.ref 46), some (.int p), some (.int u), some (.int (zo P.R)), some (.int (zo (st.2.1 + st.2.2.1 + st.2.2.2))), some (.int (zo ((a : Int) - 1))), o6, o7, o8, o9] (I, J, zR, 81)
  | 0, st, I, o6, o7, o8, o9, hb, e66, e67, e68, e47, hs, hok, K => by
    refine hC 25 [] [some (.ref 46), some (.int p), some (.int u), some (.int (zo P.R)), some (.int (zo (st.2.1 + st.2.2.1 + st.2.2.2))), some (.int (zo (((0 : Nat) : Int) - 1))), o6, o7, o8, o9] _ ?_
    refine And.intro (fun _ => ?_) (fun qz => absurd (by decide) qz)
    exact hC 255 [] [some (.ref 46), some (.int p), some (.int u), some (.int (zo P.R)), some (.int (zo (st.2.1 + st.2.2.1 + st.2.2.2))), some (.int (zo (((0 : Nat) : Int) - 1))), o6, o7, o8, o9] _ (K I ⟨fun _ _ _ => rfl, fun _ _ => rfl⟩ hs)
  | a + 1, st, I, o6, o7, o8, o9, hb, e66, e67, e68, e47, hs, hok, K => by
    have e : ((a + 1 : Nat) : Int) - 1 = a := by omega
    rw [e]
    have n0 := P.c0
    have z0 : (0 : Int32) = zo 0 := rfl
    have hneg : ¬ zo a < 0 := by rw [z0, zo_lt ⟨by omega, by omega⟩ ⟨by omega, by omega⟩]; omega
    refine hC 25 [] [some (.ref 46), some (.int p), some (.int u), some (.int (zo P.R)), some (.int (zo (st.2.1 + st.2.2.1 + st.2.2.2))), some (.int (zo a)), o6, o7, o8, o9] _ ?_
    refine And.intro (fun qz => absurd qz hneg) (fun _ => ?_)
    refine hE _ _ _ _ _ (w_most d I J p 1 n (zo (P.m1 : Nat)) _ e66 e68 hp hn (by decide) hP.2.1.2.1 ?_)
    have i1 := g_fp38 d E At Q hE hC P J p u n os ol ow la hp hn hP hl2 a (by omega) (P.m1 + 1) st I o7 o8 o9 (Nat.le_refl _) e66 e67 e68 e47 hs hok (fun I1 st1 o7 o8 o9 es f1 s1 k1 => by
      refine hC 249 [] [some (.ref 46), some (.int p), some (.int u), some (.int (zo P.R)), some (.int (zo (st1.2.1 + st1.2.2.1 + st1.2.2.2))), some (.int (zo a)), some (.int (zo (-1))), o7, o8, o9] _ ?_
      have ih := g_fp25 d E At Q hE hC P J p u n os ol ow la hp hn hP hl2 a st1 I1 (some (.int (zo (-1)))) o7 o8 o9 (by omega) ((f1.1 66 (by decide) (by decide)).trans e66) ((f1.1 67 (by decide) (by decide)).trans e67) ((f1.1 68 (by decide) (by decide)).trans e68) ((f1.1 47 (by decide) (by decide)).trans e47) s1 k1 (fun I' f2 s2 => K I' (zMf_tr f1 f2) (by rw [zra, ← es]; exact s2))
      rw [← zo_dec] at ih
      exact ih)
    have e2 : ((P.m1 + 1 : Nat) : Int) - 1 = (P.m1 : Nat) := by omega
    rw [e2] at i1
    exact i1
theorem w_findPattern (d : Nat) (P : zPar) (I : Nat → Nat → Int32) (J : Nat → Nat → Int64) (p u n : Int32) (Q : Option Value → zM → Prop) {os ol ow la : Nat → Int32} (e66 : I 66 = os) (e67 : I 67 = ol) (e68 : I 68 = ow) (e47 : I 47 = la) (hp : 0 ≤ p ∧ p < n) (hn : n ≤ 8) (hP : zPp P os ol ow la p u) (hl2 : 3 ≤ os p.toNatClampNeg → 100 ≤ P.l2) (K : ∀ I' : Nat → Nat → Int32, zMf I I' → I' 46 29 = zo P.S.1 → (I' 69 0 = zo P.S.2.1 ∧ I' 69 1 = zo P.S.2.2.1 ∧ I' 69 2 = zo P.S.2.2.2) → Q none (I', J, zR, 81)) : zT (d + 2) 108 81 [.ref 46, .int p, .int u] (I, J, zR, 81) Q := by
  refine ⟨rfl, fun E At hE hC => ?_⟩
  replace hC : ∀ pc st L M', zX 81 E Q At (zlk B_X10_findPattern pc) st L M' → At pc st L M' := hC
  refine hC 0 [] [some (.ref 46), some (.int p), some (.int u), none, none, none, none, none, none, none] _ ?_
  refine And.intro zvl_4_6 ?_
  refine hE _ _ _ _ _ (w_most d _ J p 0 n (zo (P.m0 : Nat)) _ e66 e68 hp hn (by decide) hP.2.1.1 ?_)
  have i1 := g_fp25 d E At Q hE hC P J p u n os ol ow la hp hn hP hl2 (P.m0 + 1) (-1, 0, 0, 0) (va_up I 46 (va_up (I 46) 29 (-1))) none none none none (Nat.le_refl _) e66 e67 e68 e47 ⟨by rw [zo_m1]; rfl, Or.inl rfl⟩ (Or.inl rfl) (fun I' f2 s2 => by
    rw [P.all] at s2
    have hok := P.okS
    refine K I' (zMf_tr ⟨fun c h46 _ => zup_ne h46, fun j hj => by
      show va_up (I 46) 29 (-1) j = I 46 j
      exact zup_ne hj⟩ f2) s2.1 ?_
    rcases s2.2 with z | z
    · exfalso
      have := hok.1.1
      omega
    · exact z)
  have e2 : ((P.m0 + 1 : Nat) : Int) - 1 = (P.m0 : Nat) := by omega
  have e3 : zo P.R = u + I 47 4 := by rw [e47]; exact hP.2.2.2.symm
  have e4 : zo ((0 : Int) + 0 + 0) = 0 := rfl
  have e5 : zo (((-1, 0, 0, 0) : zS4).2.1 + ((-1, 0, 0, 0) : zS4).2.2.1 + ((-1, 0, 0, 0) : zS4).2.2.2) = 0 := rfl
  rw [e2, e3, e5] at i1
  exact i1
theorem zRel_C {I I' : Nat → Nat → Int32} {J : Nat → Nat → Int64} (h : zCf I I') (hR : zRel I J) : zRel I' J := by
  have e0 := h 0 (by decide) (by decide) (by decide) (by decide)
  have e1 := h 1 (by decide) (by decide) (by decide) (by decide)
  have e2 := h 2 (by decide) (by decide) (by decide) (by decide)
  have e3 := h 3 (by decide) (by decide) (by decide) (by decide)
  have e4 := h 4 (by decide) (by decide) (by decide) (by decide)
  have e5 := h 5 (by decide) (by decide) (by decide) (by decide)
  have e7 := h 7 (by decide) (by decide) (by decide) (by decide)
  have e8 := h 8 (by decide) (by decide) (by decide) (by decide)
  have e9 := h 9 (by decide) (by decide) (by decide) (by decide)
  have e10 := h 10 (by decide) (by decide) (by decide) (by decide)
  have e11 := h 11 (by decide) (by decide) (by decide) (by decide)
  have e12 := h 12 (by decide) (by decide) (by decide) (by decide)
  have e13 := h 13 (by decide) (by decide) (by decide) (by decide)
  have e14 := h 14 (by decide) (by decide) (by decide) (by decide)
  have e15 := h 15 (by decide) (by decide) (by decide) (by decide)
  have e16 := h 16 (by decide) (by decide) (by decide) (by decide)
  have e22 := h 22 (by decide) (by decide) (by decide) (by decide)
  have e23 := h 23 (by decide) (by decide) (by decide) (by decide)
  have e24 := h 24 (by decide) (by decide) (by decide) (by decide)
  have e25 := h 25 (by decide) (by decide) (by decide) (by decide)
  have e26 := h 26 (by decide) (by decide) (by decide) (by decide)
  have e27 := h 27 (by decide) (by decide) (by decide) (by decide)
  have e28 := h 28 (by decide) (by decide) (by decide) (by decide)
  have e29 := h 29 (by decide) (by decide) (by decide) (by decide)
  have e30 := h 30 (by decide) (by decide) (by decide) (by decide)
  have e31 := h 31 (by decide) (by decide) (by decide) (by decide)
  have e32 := h 32 (by decide) (by decide) (by decide) (by decide)
  have e33 := h 33 (by decide) (by decide) (by decide) (by decide)
  have e34 := h 34 (by decide) (by decide) (by decide) (by decide)
  have e35 := h 35 (by decide) (by decide) (by decide) (by decide)
  have e36 := h 36 (by decide) (by decide) (by decide) (by decide)
  have e37 := h 37 (by decide) (by decide) (by decide) (by decide)
  have e38 := h 38 (by decide) (by decide) (by decide) (by decide)
  have e39 := h 39 (by decide) (by decide) (by decide) (by decide)
  have e41 := h 41 (by decide) (by decide) (by decide) (by decide)
  have e42 := h 42 (by decide) (by decide) (by decide) (by decide)
  have e43 := h 43 (by decide) (by decide) (by decide) (by decide)
  have e44 := h 44 (by decide) (by decide) (by decide) (by decide)
  have e45 := h 45 (by decide) (by decide) (by decide) (by decide)
  have e47 := h 47 (by decide) (by decide) (by decide) (by decide)
  have e48 := h 48 (by decide) (by decide) (by decide) (by decide)
  have e49 := h 49 (by decide) (by decide) (by decide) (by decide)
  have e50 := h 50 (by decide) (by decide) (by decide) (by decide)
  have e51 := h 51 (by decide) (by decide) (by decide) (by decide)
  have e52 := h 52 (by decide) (by decide) (by decide) (by decide)
  have e53 := h 53 (by decide) (by decide) (by decide) (by decide)
  have e54 := h 54 (by decide) (by decide) (by decide) (by decide)
  have e55 := h 55 (by decide) (by decide) (by decide) (by decide)
  have e56 := h 56 (by decide) (by decide) (by decide) (by decide)
  have e57 := h 57 (by decide) (by decide) (by decide) (by decide)
  have e58 := h 58 (by decide) (by decide) (by decide) (by decide)
  have e59 := h 59 (by decide) (by decide) (by decide) (by decide)
  have e60 := h 60 (by decide) (by decide) (by decide) (by decide)
  have e61 := h 61 (by decide) (by decide) (by decide) (by decide)
  have e62 := h 62 (by decide) (by decide) (by decide) (by decide)
  have e63 := h 63 (by decide) (by decide) (by decide) (by decide)
  have e64 := h 64 (by decide) (by decide) (by decide) (by decide)
  have e66 := h 66 (by decide) (by decide) (by decide) (by decide)
  have e67 := h 67 (by decide) (by decide) (by decide) (by decide)
  have e68 := h 68 (by decide) (by decide) (by decide) (by decide)
  have e70 := h 70 (by decide) (by decide) (by decide) (by decide)
  have e71 := h 71 (by decide) (by decide) (by decide) (by decide)
  have e72 := h 72 (by decide) (by decide) (by decide) (by decide)
  have e73 := h 73 (by decide) (by decide) (by decide) (by decide)
  have e77 := h 77 (by decide) (by decide) (by decide) (by decide)
  have e78 := h 78 (by decide) (by decide) (by decide) (by decide)
  have e79 := h 79 (by decide) (by decide) (by decide) (by decide)
  have e46 := h 46 (by decide) (by decide) (by decide) (by decide)
  unfold zRel
  rw [e0, e1, e2, e3, e4, e5, e7, e8, e9, e10, e11, e12, e13, e14, e15, e16, e22, e23, e24, e25, e26, e27, e28, e29, e30, e31, e32, e33, e34, e35, e36, e37, e38, e39, e41, e42, e43, e44, e45, e47, e48, e49, e50, e51, e52, e53, e54, e55, e56, e57, e58, e59, e60, e61, e62, e63, e64, e66, e67, e68, e70, e71, e72, e73, e77, e78, e79, e46]
  exact hR
theorem zRel_M {I I' : Nat → Nat → Int32} {J : Nat → Nat → Int64} (h : ∀ c, c ≠ 46 → c ≠ 69 → I' c = I c) (h2 : ∀ j, j < 29 ∨ 34 < j → I' 46 j = I 46 j) (hR : zRel I J) : zRel I' J := by
  have e0 := h 0 (by decide) (by decide)
  have e1 := h 1 (by decide) (by decide)
  have e2 := h 2 (by decide) (by decide)
  have e3 := h 3 (by decide) (by decide)
  have e4 := h 4 (by decide) (by decide)
  have e5 := h 5 (by decide) (by decide)
  have e7 := h 7 (by decide) (by decide)
  have e8 := h 8 (by decide) (by decide)
  have e9 := h 9 (by decide) (by decide)
  have e10 := h 10 (by decide) (by decide)
  have e11 := h 11 (by decide) (by decide)
  have e12 := h 12 (by decide) (by decide)
  have e13 := h 13 (by decide) (by decide)
  have e14 := h 14 (by decide) (by decide)
  have e15 := h 15 (by decide) (by decide)
  have e16 := h 16 (by decide) (by decide)
  have e22 := h 22 (by decide) (by decide)
  have e23 := h 23 (by decide) (by decide)
  have e24 := h 24 (by decide) (by decide)
  have e25 := h 25 (by decide) (by decide)
  have e26 := h 26 (by decide) (by decide)
  have e27 := h 27 (by decide) (by decide)
  have e28 := h 28 (by decide) (by decide)
  have e29 := h 29 (by decide) (by decide)
  have e30 := h 30 (by decide) (by decide)
  have e31 := h 31 (by decide) (by decide)
  have e32 := h 32 (by decide) (by decide)
  have e33 := h 33 (by decide) (by decide)
  have e34 := h 34 (by decide) (by decide)
  have e35 := h 35 (by decide) (by decide)
  have e36 := h 36 (by decide) (by decide)
  have e37 := h 37 (by decide) (by decide)
  have e38 := h 38 (by decide) (by decide)
  have e39 := h 39 (by decide) (by decide)
  have e41 := h 41 (by decide) (by decide)
  have e42 := h 42 (by decide) (by decide)
  have e43 := h 43 (by decide) (by decide)
  have e44 := h 44 (by decide) (by decide)
  have e45 := h 45 (by decide) (by decide)
  have e47 := h 47 (by decide) (by decide)
  have e48 := h 48 (by decide) (by decide)
  have e49 := h 49 (by decide) (by decide)
  have e50 := h 50 (by decide) (by decide)
  have e51 := h 51 (by decide) (by decide)
  have e52 := h 52 (by decide) (by decide)
  have e53 := h 53 (by decide) (by decide)
  have e54 := h 54 (by decide) (by decide)
  have e55 := h 55 (by decide) (by decide)
  have e56 := h 56 (by decide) (by decide)
  have e57 := h 57 (by decide) (by decide)
  have e58 := h 58 (by decide) (by decide)
  have e59 := h 59 (by decide) (by decide)
  have e60 := h 60 (by decide) (by decide)
  have e61 := h 61 (by decide) (by decide)
  have e62 := h 62 (by decide) (by decide)
  have e63 := h 63 (by decide) (by decide)
  have e64 := h 64 (by decide) (by decide)
  have e66 := h 66 (by decide) (by decide)
  have e67 := h 67 (by decide) (by decide)
  have e68 := h 68 (by decide) (by decide)
  have e70 := h 70 (by decide) (by decide)
  have e71 := h 71 (by decide) (by decide)
  have e72 := h 72 (by decide) (by decide)
  have e73 := h 73 (by decide) (by decide)
  have e77 := h 77 (by decide) (by decide)
  have e78 := h 78 (by decide) (by decide)
  have e79 := h 79 (by decide) (by decide)
  have f1 := h2 1 (by decide)
  have f6 := h2 6 (by decide)
  have f12 := h2 12 (by decide)
  have f13 := h2 13 (by decide)
  have f22 := h2 22 (by decide)
  have f23 := h2 23 (by decide)
  have f35 := h2 35 (by decide)
  have f37 := h2 37 (by decide)
  have f41 := h2 41 (by decide)
  have f44 := h2 44 (by decide)
  have f45 := h2 45 (by decide)
  have f51 := h2 51 (by decide)
  unfold zRel
  rw [e0, e1, e2, e3, e4, e5, e7, e8, e9, e10, e11, e12, e13, e14, e15, e16, e22, e23, e24, e25, e26, e27, e28, e29, e30, e31, e32, e33, e34, e35, e36, e37, e38, e39, e41, e42, e43, e44, e45, e47, e48, e49, e50, e51, e52, e53, e54, e55, e56, e57, e58, e59, e60, e61, e62, e63, e64, e66, e67, e68, e70, e71, e72, e73, e77, e78, e79, f1, f6, f12, f13, f22, f23, f35, f37, f41, f44, f45, f51]
  exact hR
theorem zMf_R {I I' : Nat → Nat → Int32} {J : Nat → Nat → Int64} (h : zMf I I') (hR : zRel I J) : zRel I' J := zRel_M h.1 (fun j hj => h.2 j (by omega)) hR
theorem zLMb {np p o : Int32} {os ol ow os' ol' ow' : Nat → Int32} (h : zRo np os ol ow os' ol' ow') (hp : 0 ≤ p ∧ p < np) (ho : 0 ≤ o) : (0 ≤ (zLe os ol p o).toInt ∧ (zLe os ol p o).toInt ≤ 9000) ∧ (0 ≤ (zMo os ow p o).toInt ∧ (zMo os ow p o).toInt ≤ 60) ∧ ((zMo os ow p o).toInt ≠ 0 → 100 ≤ (zLe os ol p o).toInt) ∧ (¬ os p.toNatClampNeg ≤ o → 100 ≤ (zLe os ol p o).toInt) := by
  unfold zLe zMo
  by_cases q : os p.toNatClampNeg ≤ o
  · rw [if_pos q, if_pos q]
    refine ⟨by decide, by decide, fun z => absurd rfl z, fun z => absurd q z⟩
  · rw [if_neg q, if_neg q]
    have k := h.2.2.2 p o hp.1 hp.2 ho (by clear h; grind)
    have k1 := ztoI k.1
    have k2 := ztoI k.2
    have e1 : (100 : Int32).toInt = 100 := rfl
    have e2 : (9000 : Int32).toInt = 9000 := rfl
    have e3 : (0 : Int32).toInt = 0 := rfl
    have e4 : (500 : Int32).toInt = 500 := rfl
    rw [e1, e2] at k1
    rw [e3, e4] at k2
    refine ⟨by omega, ?_, fun _ => k1.1, fun _ => k1.1⟩
    by_cases w : ow (3 * p + o).toNatClampNeg < 60
    · rw [if_pos w]
      have := Int32.lt_iff_toInt_lt.mp w
      have e5 : (60 : Int32).toInt = 60 := rfl
      omega
    · rw [if_neg w]; decide
theorem zmkP {I : Nat → Nat → Int32} {J : Nat → Nat → Int64} (hR : zRel I J) {p u : Int32} (hp : 0 ≤ p ∧ p < I 1 4) (hu : 0 ≤ u ∧ u ≤ 200000) : ∃ P : zPar, zPp P (I 7) (I 8) (I 9) (I 16) p u ∧ (3 ≤ I 7 p.toNatClampNeg → 100 ≤ P.l2) ∧ P.R = u.toInt + P.k := by
  obtain ⟨_, _, ho, hl, _⟩ := hR
  obtain ⟨a1, a2, a3, a4⟩ := zLMb ho hp (o := 0) (by decide)
  obtain ⟨b1, b2, b3, b4⟩ := zLMb ho hp (o := 1) (by decide)
  obtain ⟨c1, c2, c3, c4⟩ := zLMb ho hp (o := 2) (by decide)
  have k := ztoI hl.2.2.2.2.2.1
  have ku := ztoI hu
  have e1 : (200000 : Int32).toInt = 200000 := rfl
  have e2 : (20 : Int32).toInt = 20 := rfl
  have e3 : (0 : Int32).toInt = 0 := rfl
  rw [e2, e3] at k
  rw [e1, e3] at ku
  have m0 : (((zMo (I 7) (I 9) p 0).toInt.toNat : Nat) : Int) = (zMo (I 7) (I 9) p 0).toInt := by omega
  have m1 : (((zMo (I 7) (I 9) p 1).toInt.toNat : Nat) : Int) = (zMo (I 7) (I 9) p 1).toInt := by omega
  have m2 : (((zMo (I 7) (I 9) p 2).toInt.toNat : Nat) : Int) = (zMo (I 7) (I 9) p 2).toInt := by omega
  refine ⟨⟨(((zLe (I 7) (I 8) p 0).toInt, (zLe (I 7) (I 8) p 1).toInt, (zLe (I 7) (I 8) p 2).toInt, (I 16 4).toInt, u.toInt + (I 16 4).toInt), (zMo (I 7) (I 9) p 0).toInt.toNat, (zMo (I 7) (I 9) p 1).toInt.toNat, (zMo (I 7) (I 9) p 2).toInt.toNat), a1, b1, c1, k, ⟨by show (I 16 4).toInt ≤ u.toInt + (I 16 4).toInt; omega, by show u.toInt + (I 16 4).toInt ≤ 300000; omega⟩, by show (zMo (I 7) (I 9) p 0).toInt.toNat ≤ 60; omega, by show (zMo (I 7) (I 9) p 1).toInt.toNat ≤ 60; omega, by show (zMo (I 7) (I 9) p 2).toInt.toNat ≤ 60; omega, fun q => a3 (fun z => q (by show (zMo (I 7) (I 9) p 0).toInt.toNat = 0; omega)), fun q => b3 (fun z => q (by show (zMo (I 7) (I 9) p 1).toInt.toNat = 0; omega)), fun q => c3 (fun z => q (by show (zMo (I 7) (I 9) p 2).toInt.toNat = 0; omega))⟩, ⟨⟨(zo_self _).symm, (zo_self _).symm, (zo_self _).symm⟩, ⟨?_, ?_, ?_⟩, (zo_self _).symm, ?_⟩, fun q => c4 (by clear a1 a2 a3 a4 b1 b2 b3 b4 c1 c2 c3 c4 ho hl; grind), rfl⟩
  · show _ = zo (((zMo (I 7) (I 9) p 0).toInt.toNat : Nat) : Int)
    rw [m0]; exact (zo_self _).symm
  · show _ = zo (((zMo (I 7) (I 9) p 1).toInt.toNat : Nat) : Int)
    rw [m1]; exact (zo_self _).symm
  · show _ = zo (((zMo (I 7) (I 9) p 2).toInt.toNat : Nat) : Int)
    rw [m2]; exact (zo_self _).symm
  · show _ = zo (u.toInt + (I 16 4).toInt)
    rw [← zo_add, zo_self, zo_self]
