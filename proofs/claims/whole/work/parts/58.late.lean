/-! late, planned -/
theorem zRel_N {I I' : Nat → Nat → Int32} {J : Nat → Nat → Int64} (h : ∀ c, c ≠ 74 → c ≠ 75 → I' c = I c) (hR : zRel I J) : zRel I' J := by
  have e0 := h 0 (by decide) (by decide)
  have e1 := h 1 (by decide) (by decide)
  have e2 := h 2 (by decide) (by decide)
  have e3 := h 3 (by decide) (by decide)
  have e4 := h 4 (by decide) (by decide)
  have e5 := h 5 (by decide) (by decide)
  have e7 := h 7 (by decide) (by decide)
  have e8 := h 8 (by decide) (by decide)
  have e9 := h 9 (by decide) (by decide)
  have e10 := h 10 (by decide) (by decide)
  have e11 := h 11 (by decide) (by decide)
  have e12 := h 12 (by decide) (by decide)
  have e13 := h 13 (by decide) (by decide)
  have e14 := h 14 (by decide) (by decide)
  have e15 := h 15 (by decide) (by decide)
  have e16 := h 16 (by decide) (by decide)
  have e22 := h 22 (by decide) (by decide)
  have e23 := h 23 (by decide) (by decide)
  have e24 := h 24 (by decide) (by decide)
  have e25 := h 25 (by decide) (by decide)
  have e26 := h 26 (by decide) (by decide)
  have e27 := h 27 (by decide) (by decide)
  have e28 := h 28 (by decide) (by decide)
  have e29 := h 29 (by decide) (by decide)
  have e30 := h 30 (by decide) (by decide)
  have e31 := h 31 (by decide) (by decide)
  have e32 := h 32 (by decide) (by decide)
  have e33 := h 33 (by decide) (by decide)
  have e34 := h 34 (by decide) (by decide)
  have e37 := h 37 (by decide) (by decide)
  have e38 := h 38 (by decide) (by decide)
  have e39 := h 39 (by decide) (by decide)
  have e41 := h 41 (by decide) (by decide)
  have e42 := h 42 (by decide) (by decide)
  have e43 := h 43 (by decide) (by decide)
  have e44 := h 44 (by decide) (by decide)
  have e45 := h 45 (by decide) (by decide)
  have e46 := h 46 (by decide) (by decide)
  have e47 := h 47 (by decide) (by decide)
  have e48 := h 48 (by decide) (by decide)
  have e49 := h 49 (by decide) (by decide)
  have e50 := h 50 (by decide) (by decide)
  have e51 := h 51 (by decide) (by decide)
  have e52 := h 52 (by decide) (by decide)
  have e53 := h 53 (by decide) (by decide)
  have e54 := h 54 (by decide) (by decide)
  have e55 := h 55 (by decide) (by decide)
  have e56 := h 56 (by decide) (by decide)
  have e57 := h 57 (by decide) (by decide)
  have e58 := h 58 (by decide) (by decide)
  have e59 := h 59 (by decide) (by decide)
  have e60 := h 60 (by decide) (by decide)
  have e61 := h 61 (by decide) (by decide)
  have e62 := h 62 (by decide) (by decide)
  have e63 := h 63 (by decide) (by decide)
  have e64 := h 64 (by decide) (by decide)
  have e66 := h 66 (by decide) (by decide)
  have e67 := h 67 (by decide) (by decide)
  have e68 := h 68 (by decide) (by decide)
  have e70 := h 70 (by decide) (by decide)
  have e71 := h 71 (by decide) (by decide)
  have e72 := h 72 (by decide) (by decide)
  have e73 := h 73 (by decide) (by decide)
  have e77 := h 77 (by decide) (by decide)
  have e78 := h 78 (by decide) (by decide)
  have e79 := h 79 (by decide) (by decide)
  have e35 := h 35 (by decide) (by decide)
  have e36 := h 36 (by decide) (by decide)
  unfold zRel
  rw [e0, e1, e2, e3, e4, e5, e7, e8, e9, e10, e11, e12, e13, e14, e15, e16, e22, e23, e24, e25, e26, e27, e28, e29, e30, e31, e32, e33, e34, e37, e38, e39, e41, e42, e43, e44, e45, e46, e47, e48, e49, e50, e51, e52, e53, e54, e55, e56, e57, e58, e59, e60, e61, e62, e63, e64, e66, e67, e68, e70, e71, e72, e73, e77, e78, e79, e35, e36]
  exact hR
theorem zRel_S {I I' : Nat → Nat → Int32} {J : Nat → Nat → Int64} (h : ∀ c, c ≠ 35 → c ≠ 36 → c ≠ 40 → I' c = I c) (h1 : I' 35 1 = I 35 1) (h8 : I' 35 8 = I 35 8) (hc' : zRc (I 35 1) (I 35 8) (I' 35 10) (I' 35 2) (I' 36) (I 37) (I 38) (I 39) (I 41)) (hR : zRel I J) : zRel I' J := by
  obtain ⟨hp, hd, ho, hl, hb, hk, hq, ha, hs, hj, hc, hh, ht⟩ := hR
  have e0 := h 0 (by decide) (by decide) (by decide)
  have e1 := h 1 (by decide) (by decide) (by decide)
  have e2 := h 2 (by decide) (by decide) (by decide)
  have e3 := h 3 (by decide) (by decide) (by decide)
  have e4 := h 4 (by decide) (by decide) (by decide)
  have e5 := h 5 (by decide) (by decide) (by decide)
  have e7 := h 7 (by decide) (by decide) (by decide)
  have e8 := h 8 (by decide) (by decide) (by decide)
  have e9 := h 9 (by decide) (by decide) (by decide)
  have e10 := h 10 (by decide) (by decide) (by decide)
  have e11 := h 11 (by decide) (by decide) (by decide)
  have e12 := h 12 (by decide) (by decide) (by decide)
  have e13 := h 13 (by decide) (by decide) (by decide)
  have e14 := h 14 (by decide) (by decide) (by decide)
  have e15 := h 15 (by decide) (by decide) (by decide)
  have e16 := h 16 (by decide) (by decide) (by decide)
  have e22 := h 22 (by decide) (by decide) (by decide)
  have e23 := h 23 (by decide) (by decide) (by decide)
  have e24 := h 24 (by decide) (by decide) (by decide)
  have e25 := h 25 (by decide) (by decide) (by decide)
  have e26 := h 26 (by decide) (by decide) (by decide)
  have e27 := h 27 (by decide) (by decide) (by decide)
  have e28 := h 28 (by decide) (by decide) (by decide)
  have e29 := h 29 (by decide) (by decide) (by decide)
  have e30 := h 30 (by decide) (by decide) (by decide)
  have e31 := h 31 (by decide) (by decide) (by decide)
  have e32 := h 32 (by decide) (by decide) (by decide)
  have e33 := h 33 (by decide) (by decide) (by decide)
  have e34 := h 34 (by decide) (by decide) (by decide)
  have e37 := h 37 (by decide) (by decide) (by decide)
  have e38 := h 38 (by decide) (by decide) (by decide)
  have e39 := h 39 (by decide) (by decide) (by decide)
  have e41 := h 41 (by decide) (by decide) (by decide)
  have e42 := h 42 (by decide) (by decide) (by decide)
  have e43 := h 43 (by decide) (by decide) (by decide)
  have e44 := h 44 (by decide) (by decide) (by decide)
  have e45 := h 45 (by decide) (by decide) (by decide)
  have e46 := h 46 (by decide) (by decide) (by decide)
  have e47 := h 47 (by decide) (by decide) (by decide)
  have e48 := h 48 (by decide) (by decide) (by decide)
  have e49 := h 49 (by decide) (by decide) (by decide)
  have e50 := h 50 (by decide) (by decide) (by decide)
  have e51 := h 51 (by decide) (by decide) (by decide)
  have e52 := h 52 (by decide) (by decide) (by decide)
  have e53 := h 53 (by decide) (by decide) (by decide)
  have e54 := h 54 (by decide) (by decide) (by decide)
  have e55 := h 55 (by decide) (by decide) (by decide)
  have e56 := h 56 (by decide) (by decide) (by decide)
  have e57 := h 57 (by decide) (by decide) (by decide)
  have e58 := h 58 (by decide) (by decide) (by decide)
  have e59 := h 59 (by decide) (by decide) (by decide)
  have e60 := h 60 (by decide) (by decide) (by decide)
  have e61 := h 61 (by decide) (by decide) (by decide)
  have e62 := h 62 (by decide) (by decide) (by decide)
  have e63 := h 63 (by decide) (by decide) (by decide)
  have e64 := h 64 (by decide) (by decide) (by decide)
  have e66 := h 66 (by decide) (by decide) (by decide)
  have e67 := h 67 (by decide) (by decide) (by decide)
  have e68 := h 68 (by decide) (by decide) (by decide)
  have e70 := h 70 (by decide) (by decide) (by decide)
  have e71 := h 71 (by decide) (by decide) (by decide)
  have e72 := h 72 (by decide) (by decide) (by decide)
  have e73 := h 73 (by decide) (by decide) (by decide)
  have e77 := h 77 (by decide) (by decide) (by decide)
  have e78 := h 78 (by decide) (by decide) (by decide)
  have e79 := h 79 (by decide) (by decide) (by decide)
  unfold zRel
  rw [e0, e1, e2, e3, e4, e5, e7, e8, e9, e10, e11, e12, e13, e14, e15, e16, e22, e23, e24, e25, e26, e27, e28, e29, e30, e31, e32, e33, e34, e37, e38, e39, e41, e42, e43, e44, e45, e46, e47, e48, e49, e50, e51, e52, e53, e54, e55, e56, e57, e58, e59, e60, e61, e62, e63, e64, e66, e67, e68, e70, e71, e72, e73, e77, e78, e79, h1, h8]
  exact ⟨hp, hd, ho, hl, hb, hk, hq, ha, hs, hj, hc', hh, ht⟩
theorem zJ_of {I : Nat → Nat → Int32} {J : Nat → Nat → Int64} (hR : zRel I J) : zJ (I 35 1).toNatClampNeg I (I 35 8) (I 37) (I 38) (I 39) ∧ zJr (I 35 1).toNatClampNeg I (I 35 8) (I 37) (I 38) (I 39) (I 71) (I 48) ∧ zo ((I 35 1).toNatClampNeg : Nat) = I 35 1 ∧ (I 35 1).toNatClampNeg ≤ 7 := by
  obtain ⟨hp, hd, ho, hl, hb, hk, hq, ha, hs, hj, hc, hh, ht⟩ := hR
  have n2 := hj.2.1
  have en : zo ((I 35 1).toNatClampNeg : Nat) = I 35 1 := by rw [← ztn n2.1, zo_self]
  have n7 : (I 35 1).toNatClampNeg ≤ 7 := (zle_nat n2.1 (by decide)).mp n2.2
  have p2 := hp.2.1
  have key : ∀ x : Nat, x < (I 35 1).toNatClampNeg → (0 ≤ I 71 x ∧ I 71 x < I 1 4) ∧ I 37 x = I 2 (I 71 x).toNatClampNeg ∧ (1 ≤ I 38 x ∧ I 38 x ≤ 50) ∧ (0 ≤ I 39 x ∧ I 39 x ≤ 1000) := fun x hx => by
    have k := hj.2.2.2.2 (zo (x : Nat)) (zo_nn (by omega)) (by rw [← en, zo_lt ⟨by omega, by omega⟩ ⟨by omega, by omega⟩]; omega)
    rw [zo_tn (by omega)] at k
    exact k
  refine ⟨⟨n7, en.symm, rfl, rfl, rfl, rfl, hj.2.2.1.2, fun x hx => ⟨(key x hx).2.2.1, (key x hx).2.2.2⟩⟩, ⟨n7, hj.1.trans en.symm, hj.2.2.1.1, rfl, rfl, hj.2.2.2.1.1, hj.2.2.2.1.2, hj.2.2.1.2, fun x hx => ⟨(key x hx).2.2.1, (key x hx).2.2.2, ⟨(key x hx).1.1, ?_⟩, ?_⟩⟩, en, n7⟩
  · have := (key x hx).1.2
    clear key hp hd ho hl hb hk hq ha hs hj hc hh ht
    grind
  · rw [hp.2.2.1.1]
    exact (key x hx).2.1
/-- both sides' plans, once settled -/
theorem zplans {I I1 : Nat → Nat → Int32} {J : Nat → Nat → Int64} (hR : zRel I J) (f1 : ∀ c, c ≠ 35 → c ≠ 36 → c ≠ 40 → I1 c = I c) (f2 : ∀ j, j ≠ 2 → j ≠ 9 → j ≠ 10 → I1 35 j = I 35 j) (s1 : I1 35 10 = 1) (s2 : I1 35 2 = (zplan (I 35 1).toNatClampNeg (I 35 8) (I 37) (I 38) (I 39)).1) (s3 : ∀ j, j < (I 35 1).toNatClampNeg → I1 36 j = Int32.ofNat ((zplan (I 35 1).toNatClampNeg (I 35 8) (I 37) (I 38) (I 39)).2.2.getD j 0)) : zRel I1 J ∧ zJr (I 35 1).toNatClampNeg I1 (I 35 8) (I 37) (I 38) (I 39) (I 71) (I 48) := by
  have hJ := zJ_of hR
  have hc := hR.2.2.2.2.2.2.2.2.2.2.1
  refine ⟨zRel_S f1 (f2 1 (by decide) (by decide) (by decide)) (f2 8 (by decide) (by decide) (by decide)) ⟨Or.inr s1, hc.2.1, fun _ => ⟨s2, s3⟩⟩ hR, ?_⟩
  obtain ⟨hn, j37, j41, j48, j71, j72, j73, hg, hx⟩ := hJ.2.1
  have e46 := f1 46 (by decide) (by decide) (by decide)
  exact ⟨hn, by rw [e46]; exact j37, by rw [e46]; exact j41, (f1 48 (by decide) (by decide) (by decide)).trans j48, (f1 71 (by decide) (by decide) (by decide)).trans j71, (f1 72 (by decide) (by decide) (by decide)).trans j72, (f1 73 (by decide) (by decide) (by decide)).trans j73, hg, hx⟩
theorem op_late (I : Nat → Nat → Int32) (J : Nat → Nat → Int64) (hR : zRel I J) (Q : Option Value → zM → Prop) (h : ∀ r I1 J1, (∀ Q' : Option Value → zM → Prop, (∀ I2 J2, zRel I2 J2 → Q' (some (.int r)) (I2, J2, zR, 81)) → zT 60 124 81 [.ref 46] (I1, J1, zR, 81) Q') → Q (some (.int r)) (I1, J1, zR, 81)) : zT 60 72 81 [.ref 0] (I, J, zR, 81) Q := by
  have hJ := zJ_of hR
  have hc := hR.2.2.2.2.2.2.2.2.2.2.1
  refine ⟨rfl, fun E At hE hC => ?_⟩
  replace hC : ∀ pc st L M', zX 81 E Q At (zlk B_X9_late pc) st L M' → At pc st L M' := hC
  refine hC 0 [] [some (.ref 0)] _ ?_
  refine hE _ _ _ _ _ (w_settle (I 35 1).toNatClampNeg I J (I 35 8) (I 37) (I 38) (I 39) 42 _ hJ.1 hc (fun I1 f1 f2 s1 s2 s3 => ?_))
  obtain ⟨hR1, hJ1⟩ := zplans hR f1 f2 s1 s2 s3
  refine h _ _ _ (fun Q' hQ => ⟨rfl, fun E2 At2 hE2 hC2 => ?_⟩)
  replace hC2 : ∀ pc st L M', zX 81 E2 Q' At2 (zlk B_X10_late pc) st L M' → At2 pc st L M' := hC2
  refine hC2 0 [] [some (.ref 46)] _ ?_
  refine hE2 _ _ _ _ _ (w_findOrder 57 (I 35 1).toNatClampNeg I1 J (I 35 8) (I 37) (I 38) (I 39) (I 71) (I 48) _ hJ1 (fun I2 f3 p3 => ?_))
  exact zfin s2.symm rfl (hQ _ _ (zRel_N f3 hR1))
theorem op_planned (I : Nat → Nat → Int32) (J : Nat → Nat → Int64) (hR : zRel I J) (a1 : Int32) (Q : Option Value → zM → Prop) (h : ∀ r I1 J1, (∀ Q' : Option Value → zM → Prop, (∀ I2 J2, zRel I2 J2 → Q' (some (.int r)) (I2, J2, zR, 81)) → zT 60 125 81 [.ref 46, .int a1] (I1, J1, zR, 81) Q') → Q (some (.int r)) (I1, J1, zR, 81)) : zT 60 73 81 [.ref 0, .int a1] (I, J, zR, 81) Q := by
  have hJ := zJ_of hR
  have hc := hR.2.2.2.2.2.2.2.2.2.2.1
  have hj := hR.2.2.2.2.2.2.2.2.2.1
  have n2 := hj.2.1
  have n1 := hj.1
  refine ⟨rfl, fun E At hE hC => ?_⟩
  replace hC : ∀ pc st L M', zX 81 E Q At (zlk B_X9_planned pc) st L M' → At pc st L M' := hC
  refine hC 0 [] [some (.ref 0), some (.int a1)] _ ?_
  refine hE _ _ _ _ _ (w_within 58 I J a1 0 (I 35 1 - 1) _ (fun c1 => ?_) (fun c1 => ?_))
  · refine And.intro (fun _ => ?_) (fun qz => absurd qz (by decide))
    have a7 : 0 ≤ a1 ∧ a1 < 7 := by clear h hE hC hR hJ hc hj; grind
    have an : a1.toNatClampNeg < (I 35 1).toNatClampNeg := (zlt_nat a7.1 n2.1).mp (by clear h hE hC hR hJ hc hj; grind)
    refine hC 20 [] [some (.ref 0), some (.int a1)] _ ?_
    refine hE _ _ _ _ _ (w_settle (I 35 1).toNatClampNeg I J (I 35 8) (I 37) (I 38) (I 39) 42 _ hJ.1 hc (fun I1 f1 f2 s1 s2 s3 => ?_))
    obtain ⟨hR1, hJ1⟩ := zplans hR f1 f2 s1 s2 s3
    refine And.intro (zvp a7 rfl) ?_
    refine h _ _ _ (fun Q' hQ => ⟨rfl, fun E2 At2 hE2 hC2 => ?_⟩)
    replace hC2 : ∀ pc st L M', zX 81 E2 Q' At2 (zlk B_X10_planned pc) st L M' → At2 pc st L M' := hC2
    refine hC2 0 [] [some (.ref 46), some (.int a1), none] _ ?_
    have e37 : I1 46 37 = I 35 1 := by rw [f1 46 (by decide) (by decide) (by decide)]; exact n1
    refine hE2 _ _ _ _ _ (w_in32 58 I1 J a1 0 (I1 46 37 - 1) _ (fun _ => ?_) (fun q => absurd (by rw [e37]; exact c1) q))
    refine And.intro (fun _ => ?_) (fun qz => absurd qz (by decide))
    refine hC2 19 [] [some (.ref 46), some (.int a1), none] _ ?_
    refine hE2 _ _ _ _ _ (w_findOrder 57 (I 35 1).toNatClampNeg I1 J (I 35 8) (I 37) (I 38) (I 39) (I 71) (I 48) _ hJ1 (fun I2 f3 p3 => ?_))
    refine And.intro (zvp a7 rfl) ?_
    refine zfin ?_ rfl (hQ _ _ (zRel_N f3 hR1))
    show I2 75 a1.toNatClampNeg = I1 36 a1.toNatClampNeg
    rw [p3 _ an, s3 _ an]
    exact Int32.ofInt_eq_ofNat
  · refine And.intro (fun qz => absurd rfl qz) (fun _ => ?_)
    refine h _ _ _ (fun Q' hQ => ⟨rfl, fun E2 At2 hE2 hC2 => ?_⟩)
    replace hC2 : ∀ pc st L M', zX 81 E2 Q' At2 (zlk B_X10_planned pc) st L M' → At2 pc st L M' := hC2
    refine hC2 0 [] [some (.ref 46), some (.int a1), none] _ ?_
    refine hE2 _ _ _ _ _ (w_in32 58 I J a1 0 (I 46 37 - 1) _ (fun q => absurd (by rw [n1] at q; exact q) c1) (fun _ => ?_))
    refine And.intro (fun qz => absurd rfl qz) (fun _ => ?_)
    exact hQ _ _ hR
