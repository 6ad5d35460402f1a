theorem w_leastWorn (d : Nat) (I : Nat → Nat → Int32) (J : Nat → Nat → Int64) (p tk : Int32) (Q : Option Value → zM → Prop) (hn : 0 ≤ I 10 5 ∧ I 10 5 ≤ 12) (l : Q (some (.int (zrdF p tk (I 11) (I 12) (I 13) (I 15) (I 10 5).toNatClampNeg 0 (-1)))) (I, J, zR, 81)) : zT (d + 4) 20 81 [.ref 10, .int p, .int tk] (I, J, zR, 81) Q :=
  ⟨rfl, fun E At hE hC => g_X2_leastWorn_0 (d + 3) E At Q hE hC I J p tk (g_leastWorn d E At Q hE hC I J p tk hn _ 0 (-1) (by decide) (Or.inl rfl) (Nat.zero_add _).symm l)⟩
set_option maxHeartbeats 2000000 in
theorem g_ready10 (d : Nat) (E : zE) (At : Nat → zC) (Q : Option Value → zM → Prop) (hE : ∀ y n a M' Q', zT (d + 2) y n a M' Q' → E y n a M' Q') (hC : ∀ pc st L M', zX 81 E Q At (zlk B_X10_ready pc) st L M' → At pc st L M') (I : Nat → Nat → Int32) (J : Nat → Nat → Int64) (p n tk : Int32) (pr li sh wa : Nat → Int32) (e1 : I 52 = pr) (e2 : I 53 = li) (e3 : I 54 = sh) (e4 : I 56 = wa) (e5 : I 46 12 = tk) (e6 : I 46 6 = n) (hn : 0 ≤ n ∧ n ≤ 12) : ∀ (r : Nat) (i b : Int32), 0 ≤ i → (b = -1 ∨ (0 ≤ b ∧ b < n)) → n.toNatClampNeg = i.toNatClampNeg + r → Q (some (.int (zrdF p tk pr li sh wa r i b))) (I, J, zR, 81) → At 15 [] [some (.ref 46), some (.int p), some (.int b), some (.int i)] (I, J, zR, 81)
  | 0, i, b, h0, hb, hr, hQ => by
    have hl := zlast h0 hn.1 hr
    exact g_X10_ready_15 d E At Q hE hC I J p b i e1 e2 e3 e4 e5 e6 (fun q => absurd hl q) (fun q => absurd hl q) (fun q => absurd hl q) (fun q => absurd hl q) (fun q => absurd hl q) (fun q => absurd hl q) (fun q => absurd hl q) (fun q => absurd hl q) (fun q => absurd hl q) (fun q => absurd hl q) (fun q => absurd hl q) (fun q => absurd hl q) (fun q => absurd hl q) (fun q => absurd hl q) (fun _ => hQ)
  | r + 1, i, b, h0, hb, hr, hQ => by
    obtain ⟨h1, h2, h3⟩ := znext h0 (by clear hE hC hQ; grind) hr
    have hbi : 0 ≤ i ∧ i < 12 := by clear hE hC hQ; grind
    have ih := g_ready10 d E At Q hE hC I J p n tk pr li sh wa e1 e2 e3 e4 e5 e6 hn r (i + 1) (zrst p tk pr li sh wa b i) h2 (zrst_in hb ⟨h0, h1⟩) h3 hQ
    refine g_X10_ready_15 d E At Q hE hC I J p b i e1 e2 e3 e4 e5 e6 (fun _ => hbi) (fun _ _ => hbi) (fun _ _ _ => hbi) (fun _ _ _ _ => hbi) (fun _ _ _ _ => hbi) (fun _ _ _ _ _ _ => hbi) (fun _ _ _ _ _ q => ?_) (fun q1 q2 => ?_) (fun q1 q2 q3 => ?_) (fun q1 q2 q3 q4 q5 => ?_) (fun q1 q2 q3 q4 q5 q6 => ?_) (fun q1 q2 q3 q4 q5 q6 q7 => ?_) (fun q1 q2 q3 q4 q5 q6 q7 => ?_) (fun q1 q2 q3 q4 => ?_) (fun q => ?_)
    · clear hE hC hQ ih; grind
    · rwa [zrst, if_neg (fun z => q2 z.1)] at ih
    · rwa [zrst, if_neg (fun z => z.2.1 q3)] at ih
    · rwa [zrst, if_neg (fun z => z.2.2.2.1 q5)] at ih
    · rwa [zrst, if_pos ⟨q2, q3, q4, q5, Or.inl q6⟩] at ih
    · rwa [zrst, if_neg (fun z => by rcases z.2.2.2.2 with w | w; exact q6 w; exact absurd q7 (by clear hE hC hQ ih; grind))] at ih
    · rwa [zrst, if_pos ⟨q2, q3, q4, q5, Or.inr (by clear hE hC hQ ih; grind)⟩] at ih
    · rwa [zrst, if_neg (fun z => q4 z.2.2.1)] at ih
    · exfalso; clear hE hC hQ ih; grind
theorem op_ready (I : Nat → Nat → Int32) (J : Nat → Nat → Int64) (hR : zRel I J) (a1 : Int32) (Q : Option Value → zM → Prop) (h : ∀ r I1 J1, (∀ Q' : Option Value → zM → Prop, (∀ I2 J2, zRel I2 J2 → Q' (some (.int r)) (I2, J2, zR, 81)) → zT 60 104 81 [.ref 46, .int a1] (I1, J1, zR, 81) Q') → Q (some (.int r)) (I1, J1, zR, 81)) : zT 60 59 81 [.ref 0, .int a1] (I, J, zR, 81) Q := by
  obtain ⟨hp, hd, ho, hl, hb, hk, hq, ha, hs, hj, hc, hh, ht⟩ := id hR
  have p2 := hp.2.1
  have d2 := hd.2.1
  have hm : ∀ (Q' : Option Value → zM → Prop), ((0 ≤ a1 ∧ a1 < I 1 4) → Q' (some (.int (zrdF a1 (I 0 11) (I 11) (I 12) (I 13) (I 15) (I 10 5).toNatClampNeg 0 (-1)))) (I, J, zR, 81)) → (¬ (0 ≤ a1 ∧ a1 < I 1 4) → Q' (some (.int (-2))) (I, J, zR, 81)) → zT 60 104 81 [.ref 46, .int a1] (I, J, zR, 81) Q' := by
    intro Q' k1 k2
    refine ⟨rfl, fun E At hE hC => g_X10_ready_0 57 E At Q' hE hC I J a1 hp.1 (fun c => ?_) (fun c => k2 (by clear h k1 k2 hE hC; grind))⟩
    exact g_ready10 57 E At Q' hE hC I J a1 (I 10 5) (I 0 11) (I 11) (I 12) (I 13) (I 15) hd.2.2.1.1 hd.2.2.1.2.1 hd.2.2.1.2.2.1 hd.2.2.1.2.2.2.2 ht.1 hd.1 d2 _ 0 (-1) (by decide) (Or.inl rfl) (Nat.zero_add _).symm (k1 (by clear h k1 k2 hE hC; grind))
  refine ⟨rfl, fun E At hE hC => ?_⟩
  replace hC : ∀ pc st L M', zX 81 E Q At (zlk B_X9_ready pc) st L M' → At pc st L M' := hC
  refine hC 0 [] [some (.ref 0), some (.int a1)] _ ?_
  refine hE _ _ _ _ _ (w_X6_has 58 I J a1 _ rfl (fun c1 => ?_) (fun c1 => ?_))
  · refine And.intro (fun _ => ?_) (fun qz => absurd qz (by decide))
    refine hC 14 [] [some (.ref 0), some (.int a1)] _ ?_
    refine hE _ _ _ _ _ (w_leastWorn 55 I J a1 (I 0 11) _ d2 ?_)
    exact h _ _ _ (fun Q' hQ => hm Q' (fun _ => hQ _ _ hR) (fun z => absurd c1 z))
  · refine And.intro (fun qz => absurd rfl qz) (fun _ => ?_)
    exact h _ _ _ (fun Q' hQ => hm Q' (fun z => absurd z c1) (fun _ => hQ _ _ hR))
