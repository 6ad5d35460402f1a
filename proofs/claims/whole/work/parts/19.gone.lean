/-! noneGone: the reference's own marks are taken away -/
theorem zuu {α : Type} {f : Nat → α} {k : Nat} {v w : α} : va_up (va_up f k v) k w = va_up f k w := by
  funext j
  by_cases h : j = k
  · rw [h, zup_eq, zup_eq]
  · rw [zup_ne h, zup_ne h, zup_ne h]
theorem zself {α : Type} {f : Nat → α} {k : Nat} : va_up f k (f k) = f := by
  funext j
  by_cases h : j = k
  · rw [h, zup_eq]
  · rw [zup_ne h]
theorem g_noneGone (d : Nat) (E : zE) (At : Nat → zC) (Q : Option Value → zM → Prop) (hE : ∀ y n a M' Q', zT (d + 0) y n a M' Q' → E y n a M' Q') (hC : ∀ pc st L M', zX 81 E Q At (zlk B_X10_noneGone pc) st L M' → At pc st L M') (I : Nat → Nat → Int32) (J : Nat → Nat → Int64) (l : ∀ g : Nat → Int32, (∀ j, j < 200 → g j = 0) → Q none (va_up I 76 g, J, zR, 81)) : ∀ (r : Nat) (i : Int32) (g : Nat → Int32), 0 ≤ i → (200 : Int32).toNatClampNeg = i.toNatClampNeg + r → (∀ j, j < i.toNatClampNeg → g j = 0) → At 2 [] [some (.ref 46), some (.int i)] (va_up I 76 g, J, zR, 81)
  | 0, i, g, h0, hr, hg => by
    have hl := zlast h0 (by decide) hr
    have h2 : (200 : Int32).toNatClampNeg = 200 := rfl
    exact g_X10_noneGone_2 d E At Q hE hC (va_up I 76 g) J i (fun q => absurd hl q) (fun q => absurd hl q) (fun _ => l g (fun j hj => hg j (by omega)))
  | r + 1, i, g, h0, hr, hg => by
    obtain ⟨h1, h2, h3⟩ := znext h0 (by decide) hr
    have h5 : i.toNatClampNeg + 1 = (i + 1).toNatClampNeg := by omega
    refine g_X10_noneGone_2 d E At Q hE hC (va_up I 76 g) J i (fun _ => ⟨h0, h1⟩) (fun _ => ?_) (fun q => absurd h1 (by clear hE hC l hg; grind))
    have ih := g_noneGone d E At Q hE hC I J l r (i + 1) (va_up g i.toNatClampNeg 0) h2 h3 (fun j hj => by
      by_cases q : j = i.toNatClampNeg
      · rw [q, zup_eq]
      · rw [zup_ne q]; exact hg j (by omega))
    rw [← zuu (v := g)] at ih
    exact ih
theorem w_noneGone (d : Nat) (I : Nat → Nat → Int32) (J : Nat → Nat → Int64) (Q : Option Value → zM → Prop) (l : ∀ g : Nat → Int32, (∀ j, j < 200 → g j = 0) → Q none (va_up I 76 g, J, zR, 81)) : zT (d + 1) 128 81 [.ref 46] (I, J, zR, 81) Q := by
  refine ⟨rfl, fun E At hE hC => g_X10_noneGone_0 d E At Q hE hC I J ?_⟩
  have h := g_noneGone d E At Q hE hC I J l 200 0 (I 76) (by decide) rfl (fun j hj => absurd hj (Nat.not_lt_zero j))
  rw [zself] at h
  exact h
