theorem zCf_tr {I I1 I2 : Nat → Nat → Int32} (h1 : zCf I I1) (h2 : zCf I1 I2) : zCf I I2 := fun c q1 q2 q3 q4 => (h2 c q1 q2 q3 q4).trans (h1 c q1 q2 q3 q4)
theorem zo_m1 : zo (-1) = -1 := by decide
theorem zo_dec (b : Int) : zo b + (-1) = zo (b - 1) := by
  rw [← zo_m1, zo_add, Int.sub_eq_add_neg]
theorem zPar.xb (P : zPar) {a : Nat} (ha : a ≤ P.f0) : 0 ≤ P.R - a * (P.l0 + P.k) ∧ P.R - a * (P.l0 + P.k) ≤ 300000 := by
  refine ⟨P.left0 ha, ?_⟩
  have := Int.mul_nonneg (show (0 : Int) ≤ a by omega) (show 0 ≤ P.l0 + P.k by have := P.b0; have := P.bk; omega)
  have := P.bR
  omega
theorem zPar.lb (P : zPar) {a b : Nat} (ha : a ≤ P.f0) (hb : b ≤ P.f1 a) : 0 ≤ zlf P.l0 P.l1 P.k P.R a b ∧ zlf P.l0 P.l1 P.k P.R a b ≤ 300000 := by
  refine ⟨P.left1 ha hb, ?_⟩
  have := Int.mul_nonneg (show (0 : Int) ≤ b by omega) (show 0 ≤ P.l1 + P.k by have := P.b1; have := P.bk; omega)
  have := P.xb ha
  unfold zlf
  omega
set_option maxHeartbeats 2000000 in
theorem g_second (d : Nat) (E : zE) (At : Nat → zC) (Q : Option Value → zM → Prop) (hE : ∀ y n a M' Q', zT (d + 2) y n a M' Q' → E y n a M' Q') (hC : ∀ pc st L M', zX 81 E Q At (zlk B_X4_seekSecond pc) st L M' → At pc st L M') (P : zPar) (J : Nat → Nat → Int64) (a : Nat) (ha : a ≤ P.f0) : ∀ (b : Nat) (st : zS4) (I : Nat → Nat → Int32), b ≤ P.f1 a + 1 → zCv P I → zCs I st → P.ok st → (∀ I' : Nat → Nat → Int32, zCf I I' → zCv P I' → zCs I' (zcb P.l0 P.l1 P.l2 P.k P.R P.cc P.m2 a b st) → Q none (I', J, zR, 81)) → At 7 [] [some (.ref 18), some (.int (zo a)), some (.int (zo (P.R - a * (P.l0 + P.k)))), some (.int (zo ((b : Int) - 1)))] (I, J, zR, 81)
  | 0, st, I, hb, hv, hs, hok, K => by
    refine hC 7 [] [some (.ref 18), some (.int (zo a)), some (.int (zo (P.R - a * (P.l0 + P.k)))), some (.int (zo (((0 : Nat) : Int) - 1)))] _ ?_
    refine And.intro (fun _ => ?_) (fun qz => absurd (by decide) qz)
    exact hC 84 [] [some (.ref 18), some (.int (zo a)), some (.int (zo (P.R - a * (P.l0 + P.k)))), some (.int (zo (((0 : Nat) : Int) - 1)))] _ (K I (fun _ _ _ _ _ => rfl) hv hs)
  | b + 1, st, I, hb, hv, hs, hok, K => by
    have e : ((b + 1 : Nat) : Int) - 1 = b := by omega
    rw [e]
    have n0 := P.c0
    have n1 := P.c1
    have n2 := P.c2
    have hf0 := P.f0b
    have hf1 := P.f1b ha
    have ha6 : 0 ≤ (a : Int) ∧ (a : Int) ≤ 60 := by omega
    have hb6 : 0 ≤ (b : Int) ∧ (b : Int) ≤ 60 := by omega
    have hm6 : 0 ≤ (P.m2 : Int) ∧ (P.m2 : Int) ≤ 60 := by omega
    have lb := P.lb ha (b := b) (by omega)
    have hcc := P.ccb lb.1
    have sb := zsum3 P ha6 hb6 hm6
    have bR := P.bR
    obtain ⟨⟨v0, v1, v2⟩, ⟨w0, w1, w2⟩, vk⟩ := id hv
    have s0 := hs.1
    have es : zo a * I 20 0 + zo b * I 20 1 + I 21 2 * I 20 2 = zo (a * P.l0 + b * P.l1 + P.m2 * P.l2) := by rw [v0, v1, v2, w2, zo_mul, zo_mul, zo_mul, zo_add, zo_add]
    have z0 : (0 : Int32) = zo 0 := rfl
    have hneg : ¬ zo b < 0 := by rw [z0, zo_lt ⟨by omega, by omega⟩ ⟨by omega, by omega⟩]; omega
    have cnd : (I 18 1 ≤ zo a * I 20 0 + zo b * I 20 1 + I 21 2 * I 20 2 ↔ st.1 ≤ a * P.l0 + b * P.l1 + P.m2 * P.l2) := by
      have := hok.1
      rw [es, s0]
      exact zo_le ⟨by omega, by omega⟩ ⟨by omega, by omega⟩
    refine hC 7 [] [some (.ref 18), some (.int (zo a)), some (.int (zo (P.R - a * (P.l0 + P.k)))), some (.int (zo b))] _ ?_
    refine And.intro (fun qz => absurd qz hneg) (fun _ => ?_)
    refine And.intro zvl_0_3 (And.intro zvl_1_3 (And.intro zvl_2_3 (And.intro zvl_2_3 ?_)))
    refine And.intro (fun q => ?_) (fun q => ?_)
    · have q1 : ¬ a * P.l0 + b * P.l1 + P.m2 * P.l2 < st.1 := by have := cnd.mp q; omega
      refine hC 52 [] [some (.ref 18), some (.int (zo a)), some (.int (zo (P.R - a * (P.l0 + P.k)))), some (.int (zo b))] _ ?_
      refine And.intro zvl_1_3 ?_
      have ey : zo (P.R - a * (P.l0 + P.k)) - zo b * (I 20 1 + I 18 4) = zo (zlf P.l0 P.l1 P.k P.R a b) := by rw [v1, vk, zo_add, zo_mul, zo_sub]; rfl
      refine hE _ _ _ _ _ (w_fit d I J 2 _ P.l2 P.k (zlf P.l0 P.l1 P.k P.R a b) P.m2 _ (by decide) v2 w2 vk ey P.b2 n2 P.bk P.h2 lb ?_)
      refine hE _ _ _ _ _ (w_off (d + 1) P I J st a b (P.cc (zlf P.l0 P.l1 P.k P.R a b)) _ hv hs hok ha6 hb6 (by omega) (fun I1 f1 g1 k1 => ?_))
      have ih := g_second d E At Q hE hC P J a ha b _ I1 (by omega) g1 k1 (P.ok_po hok (by omega) (by omega) lb.1) (fun I' f2 g2 k2 => K I' (zCf_tr f1 f2) g2 (by rw [zcb, if_neg q1]; exact k2))
      rw [← zo_dec] at ih
      exact ih
    · have q1 : a * P.l0 + b * P.l1 + P.m2 * P.l2 < st.1 := by
        have : ¬ st.1 ≤ a * P.l0 + b * P.l1 + P.m2 * P.l2 := fun z => q (cnd.mpr z)
        omega
      refine hC 84 [] [some (.ref 18), some (.int (zo a)), some (.int (zo (P.R - a * (P.l0 + P.k)))), some (.int (zo b))] _ ?_
      exact K I (fun _ _ _ _ _ => rfl) hv (by rw [zcb, if_pos q1]; exact hs)
theorem w_second (d : Nat) (P : zPar) (I : Nat → Nat → Int32) (J : Nat → Nat → Int64) (a : Nat) (y : Int32) (st : zS4) (Q : Option Value → zM → Prop) (ha : a ≤ P.f0) (hy : y = zo (P.R - a * (P.l0 + P.k))) (hv : zCv P I) (hs : zCs I st) (hok : P.ok st) (K : ∀ I' : Nat → Nat → Int32, zCf I I' → zCv P I' → zCs I' (zcb P.l0 P.l1 P.l2 P.k P.R P.cc P.m2 a (P.f1 a + 1) st) → Q none (I', J, zR, 81)) : zT (d + 3) 28 81 [.ref 18, .int (zo a), .int y] (I, J, zR, 81) Q := by
  subst hy
  refine ⟨rfl, fun E At hE hC => ?_⟩
  replace hC : ∀ pc st L M', zX 81 E Q At (zlk B_X4_seekSecond pc) st L M' → At pc st L M' := hC
  refine hC 0 [] [some (.ref 18), some (.int (zo a)), some (.int (zo (P.R - a * (P.l0 + P.k)))), none] _ ?_
  refine hE _ _ _ _ _ (w_fit d I J 1 _ P.l1 P.k (P.R - a * (P.l0 + P.k)) P.m1 _ (by decide) hv.1.2.1 hv.2.1.2.1 hv.2.2 rfl P.b1 P.c1 P.bk P.h1 (P.xb ha) ?_)
  have ih := g_second d E At Q hE hC P J a ha (P.f1 a + 1) st I (Nat.le_refl _) hv hs hok K
  have e : ((P.f1 a + 1 : Nat) : Int) - 1 = (P.f1 a : Nat) := by omega
  rw [e] at ih
  exact ih
