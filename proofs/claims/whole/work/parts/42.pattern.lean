set_option maxHeartbeats 2000000 in
theorem w_pattern10 (d : Nat) (P : zPar) (I : Nat → Nat → Int32) (J : Nat → Nat → Int64) (a1 a2 a3 n : Int32) (Q : Option Value → zM → Prop) {os ol ow la : Nat → Int32} (e1 : I 46 1 = n) (e66 : I 66 = os) (e67 : I 67 = ol) (e68 : I 68 = ow) (e47 : I 47 = la) (hn : 0 ≤ n ∧ n ≤ 8) (c1 : 0 ≤ a1 ∧ a1 < n) (c2 : 0 ≤ a2 ∧ a2 ≤ 200000) (c3 : 0 ≤ a3 ∧ a3 ≤ 3) (hP : zPp P os ol ow la a1 a2) (hl2 : 3 ≤ os a1.toNatClampNeg → 100 ≤ P.l2) (K : ∀ I' : Nat → Nat → Int32, zMf I I' → I' 46 29 = zo P.S.1 → (I' 69 0 = zo P.S.2.1 ∧ I' 69 1 = zo P.S.2.2.1 ∧ I' 69 2 = zo P.S.2.2.2) → (a3 = 3 → Q (some (.int (I' 46 29))) (I', J, zR, 81)) ∧ (¬ a3 = 3 → Q (some (.int (I' 69 a3.toNatClampNeg))) (I', J, zR, 81))) : zT (d + 3) 116 81 [.ref 46, .int a1, .int a2, .int a3] (I, J, zR, 81) Q := by
  have c1' : 0 ≤ a1 ∧ a1 ≤ n - 1 := by clear K; grind
  refine ⟨rfl, fun E At hE hC => ?_⟩
  replace hC : ∀ pc st L M', zX 81 E Q At (zlk B_X10_pattern pc) st L M' → At pc st L M' := hC
  refine hC 0 [] [some (.ref 46), some (.int a1), some (.int a2), some (.int a3)] _ ?_
  refine hE _ _ _ _ _ (w_X10_isProfile d I J a1 _ e1 (fun _ => ?_) (fun q => absurd c1' q))
  refine And.intro (fun qz => absurd qz (by decide)) (fun _ => ?_)
  refine hE _ _ _ _ _ (w_in32 (d + 1) I J a2 0 200000 _ (fun _ => ?_) (fun q => absurd c2 q))
  refine And.intro (fun qz => absurd qz (by decide)) (fun _ => ?_)
  refine hE _ _ _ _ _ (w_in32 (d + 1) I J a3 0 3 _ (fun _ => ?_) (fun q => absurd c3 q))
  refine And.intro (fun _ => ?_) (fun qz => absurd qz (by decide))
  refine hC 35 [] [some (.ref 46), some (.int a1), some (.int a2), some (.int a3)] _ ?_
  refine hE _ _ _ _ _ (w_findPattern d P I J a1 a2 n _ e66 e67 e68 e47 c1 hn.2 hP hl2 (fun I1 f1 g1 s1 => ?_))
  have k := K I1 f1 g1 s1
  refine And.intro (fun q => ?_) (fun q => ?_)
  · refine hC 53 [] [some (.ref 46), some (.int a1), some (.int a2), some (.int a3)] _ ?_
    refine And.intro (zvp (show 0 ≤ a3 ∧ a3 < 3 by clear K k hE hC; grind) rfl) ?_
    exact hC 59 [.int (I1 69 a3.toNatClampNeg)] [some (.ref 46), some (.int a1), some (.int a2), some (.int a3)] _ (k.2 q)
  · exact hC 59 [.int (I1 46 29)] [some (.ref 46), some (.int a1), some (.int a2), some (.int a3)] _ (k.1 q)
theorem w_pattern10b (d : Nat) (I : Nat → Nat → Int32) (J : Nat → Nat → Int64) (a1 a2 a3 n : Int32) (Q : Option Value → zM → Prop) (e1 : I 46 1 = n) (hn : 0 ≤ n ∧ n ≤ 8) (c : ¬ ((0 ≤ a1 ∧ a1 < n) ∧ (0 ≤ a2 ∧ a2 ≤ 200000) ∧ (0 ≤ a3 ∧ a3 ≤ 3))) (K : Q (some (.int (-2))) (I, J, zR, 81)) : zT (d + 3) 116 81 [.ref 46, .int a1, .int a2, .int a3] (I, J, zR, 81) Q := by
  refine ⟨rfl, fun E At hE hC => ?_⟩
  replace hC : ∀ pc st L M', zX 81 E Q At (zlk B_X10_pattern pc) st L M' → At pc st L M' := hC
  have bad : At 32 [] [some (.ref 46), some (.int a1), some (.int a2), some (.int a3)] (I, J, zR, 81) := hC 32 [] [some (.ref 46), some (.int a1), some (.int a2), some (.int a3)] _ K
  refine hC 0 [] [some (.ref 46), some (.int a1), some (.int a2), some (.int a3)] _ ?_
  refine hE _ _ _ _ _ (w_X10_isProfile d I J a1 _ e1 (fun q1 => ?_) (fun q => And.intro (fun _ => bad) (fun qz => absurd rfl qz)))
  refine And.intro (fun qz => absurd qz (by decide)) (fun _ => ?_)
  refine hE _ _ _ _ _ (w_in32 (d + 1) I J a2 0 200000 _ (fun q2 => ?_) (fun q => And.intro (fun _ => bad) (fun qz => absurd rfl qz)))
  refine And.intro (fun qz => absurd qz (by decide)) (fun _ => ?_)
  refine hE _ _ _ _ _ (w_in32 (d + 1) I J a3 0 3 _ (fun q3 => ?_) (fun q => And.intro (fun qz => absurd rfl qz) (fun _ => bad)))
  exact absurd ⟨by clear bad K hE hC c; grind, q2, q3⟩ c
set_option maxHeartbeats 2000000 in
theorem op_pattern (I : Nat → Nat → Int32) (J : Nat → Nat → Int64) (hR : zRel I J) (a1 a2 a3 : Int32) (Q : Option Value → zM → Prop) (h : ∀ r I1 J1, (∀ Q' : Option Value → zM → Prop, (∀ I2 J2, zRel I2 J2 → Q' (some (.int r)) (I2, J2, zR, 81)) → zT 60 116 81 [.ref 46, .int a1, .int a2, .int a3] (I1, J1, zR, 81) Q') → Q (some (.int r)) (I1, J1, zR, 81)) : zT 60 66 81 [.ref 0, .int a1, .int a2, .int a3] (I, J, zR, 81) Q := by
  obtain ⟨hp, hd, ho, hl, hb, hk, hq, ha, hs, hj, hc, hh, ht⟩ := id hR
  have p2 := hp.2.1
  refine ⟨rfl, fun E At hE hC => ?_⟩
  replace hC : ∀ pc st L M', zX 81 E Q At (zlk B_X9_pattern pc) st L M' → At pc st L M' := hC
  have bad : ¬ ((0 ≤ a1 ∧ a1 < I 1 4) ∧ (0 ≤ a2 ∧ a2 ≤ 200000) ∧ (0 ≤ a3 ∧ a3 ≤ 3)) → At 30 [] [some (.ref 0), some (.int a1), some (.int a2), some (.int a3)] (I, J, zR, 81) := fun c => by
    refine hC 30 [] [some (.ref 0), some (.int a1), some (.int a2), some (.int a3)] _ ?_
    exact h _ _ _ (fun Q' hQ => w_pattern10b 57 I J a1 a2 a3 (I 1 4) Q' hp.1 p2 c (hQ _ _ hR))
  refine hC 0 [] [some (.ref 0), some (.int a1), some (.int a2), some (.int a3)] _ ?_
  refine hE _ _ _ _ _ (w_X6_has 58 I J a1 _ rfl (fun c1 => ?_) (fun q => And.intro (fun _ => bad (fun z => q z.1)) (fun qz => absurd rfl qz)))
  refine And.intro (fun qz => absurd qz (by decide)) (fun _ => ?_)
  refine hE _ _ _ _ _ (w_within 58 I J a2 0 200000 _ (fun c2 => ?_) (fun q => And.intro (fun _ => bad (fun z => q z.2.1)) (fun qz => absurd rfl qz)))
  refine And.intro (fun qz => absurd qz (by decide)) (fun _ => ?_)
  refine hE _ _ _ _ _ (w_within 58 I J a3 0 3 _ (fun c3 => ?_) (fun q => And.intro (fun qz => absurd rfl qz) (fun _ => bad (fun z => q z.2.2))))
  refine And.intro (fun _ => ?_) (fun qz => absurd qz (by decide))
  refine hC 33 [] [some (.ref 0), some (.int a1), some (.int a2), some (.int a3)] _ ?_
  refine And.intro zvl_4_6 ?_
  obtain ⟨P, hP, hl2, hPR⟩ := zmkP hR c1 c2
  refine hE _ _ _ _ _ (w_seek 55 P I J a1 a2 _ (I 1 4) _ c1 p2.2 (ho.2.1 _) rfl hP (fun I1 f1 s1 => ?_))
  obtain ⟨s0, s1, s2, s3⟩ := s1
  have hR1 := zRel_C f1 hR
  have ref : ∀ (Q' : Option Value → zM → Prop) (r : Int32), (a3 = 3 → r = zo P.S.1) → (¬ a3 = 3 → ∀ f : Nat → Int32, f 0 = zo P.S.2.1 → f 1 = zo P.S.2.2.1 → f 2 = zo P.S.2.2.2 → f a3.toNatClampNeg = r) → (∀ I2 J2, zRel I2 J2 → Q' (some (.int r)) (I2, J2, zR, 81)) → zT 60 116 81 [.ref 46, .int a1, .int a2, .int a3] (I1, J, zR, 81) Q' := fun Q' r hr1 hr2 hQ => by
    refine w_pattern10 57 P I1 J a1 a2 a3 (I 1 4) Q' (by rw [f1 46 (by decide) (by decide) (by decide) (by decide)]; exact hp.1) ((f1 66 (by decide) (by decide) (by decide) (by decide)).trans ho.1.1) ((f1 67 (by decide) (by decide) (by decide) (by decide)).trans ho.1.2.1) ((f1 68 (by decide) (by decide) (by decide) (by decide)).trans ho.1.2.2) ((f1 47 (by decide) (by decide) (by decide) (by decide)).trans hl.1) p2 c1 c2 c3 hP hl2 (fun I2 f2 g2 t2 => ⟨fun q => ?_, fun q => ?_⟩)
    · rw [g2, ← hr1 q]
      exact hQ _ _ (zMf_R f2 hR1)
    · rw [hr2 q (I2 69) t2.1 t2.2.1 t2.2.2]
      exact hQ _ _ (zMf_R f2 hR1)
  refine And.intro (fun q => ?_) (fun q => ?_)
  · refine hC 67 [] [some (.ref 0), some (.int a1), some (.int a2), some (.int a3)] _ ?_
    refine And.intro (zvp (show 0 ≤ a3 ∧ a3 < 3 by clear hR hR1 ref bad h hE hC hp hd ho hl hb hk hq ha hs hj hc hh ht hP hl2 f1; grind) rfl) ?_
    refine hC 76 [.int (I1 19 a3.toNatClampNeg)] [some (.ref 0), some (.int a1), some (.int a2), some (.int a3)] _ ?_
    refine h _ _ _ (fun Q' hQ => ref Q' _ (fun z => absurd z q) (fun _ f t0 t1 t2 => ?_) hQ)
    have h9 : a3 = 0 ∨ a3 = 1 ∨ a3 = 2 := by clear hR hR1 ref bad h hE hC hp hd ho hl hb hk hq ha hs hj hc hh ht hP hl2 f1 hQ; grind
    rcases h9 with rfl | rfl | rfl
    · exact t0.trans s1.symm
    · exact t1.trans s2.symm
    · exact t2.trans s3.symm
  · refine hC 76 [.int (I1 18 1)] [some (.ref 0), some (.int a1), some (.int a2), some (.int a3)] _ ?_
    exact h _ _ _ (fun Q' hQ => ref Q' _ (fun _ => s0) (fun z => absurd q z) hQ)
