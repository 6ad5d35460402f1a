/-! how many bars wait -/
def zwtS (go ba : Nat → Int32) (c i : Int32) : Int32 := if ¬ go i.toNatClampNeg ≤ 0 ∧ ba i.toNatClampNeg = -1 then c + 1 else c
def zwtF (go ba : Nat → Int32) : Nat → Int32 → Int32 → Int32
  | 0, _, c => c
  | r + 1, i, c => zwtF go ba r (i + 1) (zwtS go ba c i)
theorem g_waiting (d : Nat) (E : zE) (At : Nat → zC) (Q : Option Value → zM → Prop) (hE : ∀ y n a M' Q', zT (d + 1) y n a M' Q' → E y n a M' Q') (hC : ∀ pc st L M', zX 81 E Q At (zlk B_X1_waiting pc) st L M' → At pc st L M') (I : Nat → Nat → Int32) (J : Nat → Nat → Int64) (hn : 0 ≤ I 22 10 ∧ I 22 10 ≤ 200) : ∀ (r : Nat) (i c : Int32), 0 ≤ i → (I 22 10).toNatClampNeg = i.toNatClampNeg + r → Q (some (.int (zwtF (I 26) (I 29) r i c))) (I, J, zR, 81) → At 4 [] [some (.ref 22), some (.int c), some (.int i)] (I, J, zR, 81)
  | 0, i, c, h0, hr, hQ => by
    have hl := zlast h0 hn.1 hr
    exact g_X1_waiting_4 d E At Q hE hC I J c i rfl rfl rfl (fun q => absurd hl q) (fun q => absurd hl q) (fun q => absurd hl q) (fun q => absurd hl q) (fun q => absurd hl q) (fun _ => hQ)
  | r + 1, i, c, h0, hr, hQ => by
    obtain ⟨h1, h2, h3⟩ := znext h0 (by clear hE hC hQ; grind) hr
    have hbi : 0 ≤ i ∧ i < 200 := by clear hE hC hQ; grind
    have ih := g_waiting d E At Q hE hC I J hn r (i + 1) (zwtS (I 26) (I 29) c i) h2 h3 hQ
    refine g_X1_waiting_4 d E At Q hE hC I J c i rfl rfl rfl (fun _ => hbi) (fun _ _ => hbi) (fun q1 q2 => ?_) (fun q1 q2 q3 => ?_) (fun q1 q2 q3 => ?_) (fun q => ?_)
    · rwa [zwtS, if_neg (fun z => z.1 q2)] at ih
    · rwa [zwtS, if_neg (fun z => q3 z.2)] at ih
    · rwa [zwtS, if_pos ⟨q2, q3⟩] at ih
    · exfalso; clear hE hC hQ ih; grind
theorem w_waiting (d : Nat) (I : Nat → Nat → Int32) (J : Nat → Nat → Int64) (Q : Option Value → zM → Prop) (hn : 0 ≤ I 22 10 ∧ I 22 10 ≤ 200) (l : Q (some (.int (zwtF (I 26) (I 29) (I 22 10).toNatClampNeg 0 0))) (I, J, zR, 81)) : zT (d + 2) 7 81 [.ref 22] (I, J, zR, 81) Q :=
  ⟨rfl, fun E At hE hC => g_X1_waiting_0 (d + 1) E At Q hE hC I J (g_waiting d E At Q hE hC I J hn _ 0 0 (by decide) (Nat.zero_add _).symm l)⟩
