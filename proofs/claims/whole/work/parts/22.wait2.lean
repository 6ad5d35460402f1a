theorem g_waiting10 (d : Nat) (E : zE) (At : Nat → zC) (Q : Option Value → zM → Prop) (hE : ∀ y n a M' Q', zT (d + 1) y n a M' Q' → E y n a M' Q') (hC : ∀ pc st L M', zX 81 E Q At (zlk B_X10_waiting pc) st L M' → At pc st L M') (I : Nat → Nat → Int32) (J : Nat → Nat → Int64) (n : Int32) (go ba g : Nat → Int32) (e1 : I 60 = go) (e2 : I 63 = ba) (e3 : I 76 = g) (e4 : I 46 13 = n) (hn : 0 ≤ n ∧ n ≤ 200) (hg : ∀ j, j < 200 → g j = 0) : ∀ (r : Nat) (i c : Int32), 0 ≤ i → n.toNatClampNeg = i.toNatClampNeg + r → Q (some (.int (zwtF go ba r i c))) (I, J, zR, 81) → At 8 [] [some (.ref 46), some (.int c), some (.int i)] (I, J, zR, 81)
  | 0, i, c, h0, hr, hQ => by
    have hl := zlast h0 hn.1 hr
    exact g_X10_waiting_8 d E At Q hE hC I J c i e1 e2 e3 e4 (fun q => absurd hl q) (fun q => absurd hl q) (fun q => absurd hl q) (fun q => absurd hl q) (fun q => absurd hl q) (fun q => absurd hl q) (fun q => absurd hl q) (fun _ => hQ)
  | r + 1, i, c, h0, hr, hQ => by
    obtain ⟨h1, h2, h3⟩ := znext h0 (by clear hE hC hQ hg; grind) hr
    have hbi : 0 ≤ i ∧ i < 200 := by clear hE hC hQ hg; grind
    have hi2 : i.toNatClampNeg < 200 := (zlt_nat h0 (by decide)).mp hbi.2
    have ih := g_waiting10 d E At Q hE hC I J n go ba g e1 e2 e3 e4 hn hg r (i + 1) (zwtS go ba c i) h2 h3 hQ
    refine g_X10_waiting_8 d E At Q hE hC I J c i e1 e2 e3 e4 (fun _ => hbi) (fun _ _ => hbi) (fun _ _ _ => hbi) (fun q1 q2 => ?_) (fun q1 q2 q3 => ?_) (fun q1 q2 q3 q4 => ?_) (fun q1 q2 q3 q4 => ?_) (fun q => ?_)
    · rw [Int32.add_zero]; rwa [zwtS, if_neg (fun z => q2 z.2)] at ih
    · rw [Int32.add_zero]; rwa [zwtS, if_neg (fun z => z.1 q3)] at ih
    · exact absurd (hg _ hi2) q4
    · rwa [zwtS, if_pos ⟨q3, q2⟩] at ih
    · exfalso; clear hE hC hQ ih hg; grind
theorem w_waiting10 (d : Nat) (I : Nat → Nat → Int32) (J : Nat → Nat → Int64) (Q : Option Value → zM → Prop) {n : Int32} {go ba : Nat → Int32} (e1 : I 60 = go) (e2 : I 63 = ba) (e4 : I 46 13 = n) (hn : 0 ≤ n ∧ n ≤ 200) (l : ∀ g : Nat → Int32, Q (some (.int (zwtF go ba n.toNatClampNeg 0 0))) (va_up I 76 g, J, zR, 81)) : zT (d + 2) 145 81 [.ref 46] (I, J, zR, 81) Q := by
  refine ⟨rfl, fun E At hE hC => ?_⟩
  replace hC : ∀ pc st L M', zX 81 E Q At (zlk B_X10_waiting pc) st L M' → At pc st L M' := hC
  refine hC 0 [] [some (.ref 46), none, none] _ ?_
  refine hE _ _ _ _ _ (w_noneGone d I J _ (fun g hg => ?_))
  exact g_waiting10 d E At Q hE hC (va_up I 76 g) J n go ba g e1 e2 rfl e4 hn hg n.toNatClampNeg 0 0 (by decide) (Nat.zero_add _).symm (l g)
