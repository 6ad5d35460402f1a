set_option maxHeartbeats 2000000 in
theorem g_seek (d : Nat) (E : zE) (At : Nat → zC) (Q : Option Value → zM → Prop) (hE : ∀ y n a M' Q', zT (d + 3) y n a M' Q' → E y n a M' Q') (hC : ∀ pc st L M', zX 81 E Q At (zlk B_X4_seek pc) st L M' → At pc st L M') (P : zPar) (J : Nat → Nat → Int64) (p u : Int32) : ∀ (a : Nat) (st : zS4) (I : Nat → Nat → Int32), a ≤ P.f0 + 1 → zCv P I → zCs I st → P.ok st → (∀ I' : Nat → Nat → Int32, zCf I I' → zCv P I' → zCs I' (zca P.l0 P.l1 P.l2 P.k P.R P.cc P.m1 P.m2 P.f1 a st) → Q none (I', J, zR, 81)) → At 82 [] [some (.ref 18), some (.ref 6), some (.int p), some (.int u), some (.int (zo P.k)), some (.int (zo P.R)), some (.int (zo (P.m1 * P.l1 + P.m2 * P.l2))), some (.int (zo ((a : Int) - 1)))] (I, J, zR, 81)
  | 0, st, I, hb, hv, hs, hok, K => by
    refine hC 82 [] [some (.ref 18), some (.ref 6), some (.int p), some (.int u), some (.int (zo P.k)), some (.int (zo P.R)), some (.int (zo (P.m1 * P.l1 + P.m2 * P.l2))), some (.int (zo (((0 : Nat) : Int) - 1)))] _ ?_
    refine And.intro (fun _ => ?_) (fun qz => absurd (by decide) qz)
    exact hC 136 [] [some (.ref 18), some (.ref 6), some (.int p), some (.int u), some (.int (zo P.k)), some (.int (zo P.R)), some (.int (zo (P.m1 * P.l1 + P.m2 * P.l2))), some (.int (zo (((0 : Nat) : Int) - 1)))] _ (K I (fun _ _ _ _ _ => rfl) hv hs)
  | a + 1, st, I, hb, hv, hs, hok, K => by
    have e : ((a + 1 : Nat) : Int) - 1 = a := by omega
    rw [e]
    have n0 := P.c0
    have n1 := P.c1
    have n2 := P.c2
    have hf0 := P.f0b
    have ha : a ≤ P.f0 := by omega
    have hf1 := P.f1b ha
    have ha6 : 0 ≤ (a : Int) ∧ (a : Int) ≤ 60 := by omega
    have hm1 : 0 ≤ (P.m1 : Int) ∧ (P.m1 : Int) ≤ 60 := by omega
    have hm2 : 0 ≤ (P.m2 : Int) ∧ (P.m2 : Int) ≤ 60 := by omega
    have sb := zsum3 P ha6 hm1 hm2
    have bR := P.bR
    obtain ⟨⟨v0, v1, v2⟩, ⟨w0, w1, w2⟩, vk⟩ := id hv
    have s0 := hs.1
    have es : zo a * I 20 0 + zo (P.m1 * P.l1 + P.m2 * P.l2) = zo (a * P.l0 + (P.m1 * P.l1 + P.m2 * P.l2)) := by rw [v0, zo_mul, zo_add]
    have z0 : (0 : Int32) = zo 0 := rfl
    have hneg : ¬ zo a < 0 := by rw [z0, zo_lt ⟨by omega, by omega⟩ ⟨by omega, by omega⟩]; omega
    have cnd : (I 18 1 ≤ zo a * I 20 0 + zo (P.m1 * P.l1 + P.m2 * P.l2) ↔ st.1 ≤ a * P.l0 + (P.m1 * P.l1 + P.m2 * P.l2)) := by
      have := hok.1
      rw [es, s0]
      exact zo_le ⟨by omega, by omega⟩ ⟨by omega, by omega⟩
    refine hC 82 [] [some (.ref 18), some (.ref 6), some (.int p), some (.int u), some (.int (zo P.k)), some (.int (zo P.R)), some (.int (zo (P.m1 * P.l1 + P.m2 * P.l2))), some (.int (zo a))] _ ?_
    refine And.intro (fun qz => absurd qz hneg) (fun _ => ?_)
    refine And.intro zvl_0_3 ?_
    refine And.intro (fun q => ?_) (fun q => ?_)
    · have q1 : ¬ a * P.l0 + (P.m1 * P.l1 + P.m2 * P.l2) < st.1 := by have := cnd.mp q; omega
      refine hC 109 [] [some (.ref 18), some (.ref 6), some (.int p), some (.int u), some (.int (zo P.k)), some (.int (zo P.R)), some (.int (zo (P.m1 * P.l1 + P.m2 * P.l2))), some (.int (zo a))] _ ?_
      refine And.intro zvl_0_3 ?_
      have ey : zo P.R - zo a * (I 20 0 + zo P.k) = zo (P.R - a * (P.l0 + P.k)) := by rw [v0, zo_add, zo_mul, zo_sub]
      refine hE _ _ _ _ _ (w_second d P I J a _ st _ ha ey hv hs hok (fun I1 f1 g1 k1 => ?_))
      have okb : P.ok (zcb P.l0 P.l1 P.l2 P.k P.R P.cc P.m2 a (P.f1 a + 1) st) := zcb_inv P.ok (fun st b q1 q2 => P.ok_po q2 (by omega) (by omega) (P.left1 ha q1)) (P.f1 a + 1) st (Nat.le_refl _) hok
      have ih := g_seek d E At Q hE hC P J p u a _ I1 (by omega) g1 k1 okb (fun I' f2 g2 k2 => K I' (zCf_tr f1 f2) g2 (by rw [zca, if_neg q1]; exact k2))
      rw [← zo_dec] at ih
      exact ih
    · have q1 : a * P.l0 + (P.m1 * P.l1 + P.m2 * P.l2) < st.1 := by
        have : ¬ st.1 ≤ a * P.l0 + (P.m1 * P.l1 + P.m2 * P.l2) := fun z => q (cnd.mpr z)
        omega
      refine hC 136 [] [some (.ref 18), some (.ref 6), some (.int p), some (.int u), some (.int (zo P.k)), some (.int (zo P.R)), some (.int (zo (P.m1 * P.l1 + P.m2 * P.l2))), some (.int (zo a))] _ ?_
      exact K I (fun _ _ _ _ _ => rfl) hv (by rw [zca, if_pos q1]; exact hs)
/-- the numbers of a pattern, as the cells hold them -/
def zPp (P : zPar) (os ol ow la : Nat → Int32) (p u : Int32) : Prop := (zLe os ol p 0 = zo P.l0 ∧ zLe os ol p 1 = zo P.l1 ∧ zLe os ol p 2 = zo P.l2) ∧ (zMo os ow p 0 = zo (P.m0 : Nat) ∧ zMo os ow p 1 = zo (P.m1 : Nat) ∧ zMo os ow p 2 = zo (P.m2 : Nat)) ∧ la 4 = zo P.k ∧ u + la 4 = zo P.R
set_option maxHeartbeats 2000000 in
theorem w_seek (d : Nat) (P : zPar) (I : Nat → Nat → Int32) (J : Nat → Nat → Int64) (p u kf n : Int32) (Q : Option Value → zM → Prop) (hp : 0 ≤ p ∧ p < n) (hn : n ≤ 8) (ho : 0 ≤ I 7 p.toNatClampNeg ∧ I 7 p.toNatClampNeg ≤ 3) (hkf : kf = I 16 4) (hP : zPp P (I 7) (I 8) (I 9) (I 16) p u) (K : ∀ I' : Nat → Nat → Int32, zCf I I' → zCs I' P.S → Q none (I', J, zR, 81)) : zT (d + 4) 26 81 [.ref 18, .ref 6, .int p, .int u, .int kf] (I, J, zR, 81) Q := by
  obtain ⟨⟨p0, p1, p2⟩, ⟨r0, r1, r2⟩, pk, pR⟩ := hP
  rw [pk] at hkf
  subst hkf
  refine ⟨rfl, fun E At hE hC => ?_⟩
  replace hC : ∀ pc st L M', zX 81 E Q At (zlk B_X4_seek pc) st L M' → At pc st L M' := hC
  refine hC 0 [] [some (.ref 18), some (.ref 6), some (.int p), some (.int u), some (.int (zo P.k)), none, none, none] _ ?_
  refine hE _ _ _ _ _ (w_load (d + 1) I J p n _ hp hn ho (fun I1 f1 g18 g19 g20 g21 => ?_))
  obtain ⟨x0, x1, x2⟩ := g20
  obtain ⟨y0, y1, y2⟩ := g21
  rw [p0] at x0
  rw [p1] at x1
  rw [p2] at x2
  rw [r0] at y0
  rw [r1] at y1
  rw [r2] at y2
  refine And.intro zvl_0_3 (And.intro zvl_1_3 (And.intro zvl_2_3 (And.intro zvl_1_3 (And.intro zvl_1_3 (And.intro zvl_2_3 (And.intro zvl_2_3 ?_))))))
  have bR := P.bR
  have bk := P.bk
  have hv : zCv P (va_up (va_up (va_up (va_up (va_up I1 18 (va_up (I1 18) 4 (zo P.k))) 18 (va_up (va_up (I1 18) 4 (zo P.k)) 1 0)) 19 (va_up (I1 19) 0 0)) 19 (va_up (va_up (I1 19) 0 0) 1 0)) 19 (va_up (va_up (va_up (I1 19) 0 0) 1 0) 2 0)) := ⟨⟨x0, x1, x2⟩, ⟨y0, y1, y2⟩, rfl⟩
  have hs : zCs (va_up (va_up (va_up (va_up (va_up I1 18 (va_up (I1 18) 4 (zo P.k))) 18 (va_up (va_up (I1 18) 4 (zo P.k)) 1 0)) 19 (va_up (I1 19) 0 0)) 19 (va_up (va_up (I1 19) 0 0) 1 0)) 19 (va_up (va_up (va_up (I1 19) 0 0) 1 0) 2 0)) (0, 0, 0, 0) := ⟨rfl, rfl, rfl, rfl⟩
  have hf : zCf I (va_up (va_up (va_up (va_up (va_up I1 18 (va_up (I1 18) 4 (zo P.k))) 18 (va_up (va_up (I1 18) 4 (zo P.k)) 1 0)) 19 (va_up (I1 19) 0 0)) 19 (va_up (va_up (I1 19) 0 0) 1 0)) 19 (va_up (va_up (va_up (I1 19) 0 0) 1 0) 2 0)) := fun c h18 h19 h20 h21 => by
    rw [zup_ne h19, zup_ne h19, zup_ne h19, zup_ne h18, zup_ne h18]
    exact f1 c h18 h19 h20 h21
  have eo : I1 21 1 * I1 20 1 + I1 21 2 * I1 20 2 = zo (P.m1 * P.l1 + P.m2 * P.l2) := by rw [x1, x2, y1, y2, zo_mul, zo_mul, zo_add]
  have eR : u + zo P.k = zo P.R := by rw [← pk]; exact pR
  refine hE _ _ _ _ _ (w_fit (d + 1) _ J 0 _ P.l0 P.k P.R P.m0 _ (by decide) x0 y0 rfl eR P.b0 P.c0 P.bk P.h0 ⟨by omega, bR.2⟩ ?_)
  have ok0 : P.ok (0, 0, 0, 0) := ⟨⟨Int.le_refl _, by show (0 : Int) ≤ P.R; omega⟩, ⟨Int.le_refl _, by show (0 : Int) ≤ P.m0; omega⟩, ⟨Int.le_refl _, by show (0 : Int) ≤ P.m1; omega⟩, ⟨Int.le_refl _, by show (0 : Int) ≤ P.m2; omega⟩⟩
  have ih := g_seek d E At Q hE hC P J p u (P.f0 + 1) (0, 0, 0, 0) _ (Nat.le_refl _) hv hs ok0 (fun I' f2 g2 k2 => K I' (zCf_tr hf f2) k2)
  have e : ((P.f0 + 1 : Nat) : Int) - 1 = (P.f0 : Nat) := by omega
  rw [e, ← eo, ← eR] at ih
  exact ih
