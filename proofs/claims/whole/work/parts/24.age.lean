/-! age: the first bar that waits, the oven filled -/
def zfw (go ba g : Nat → Int32) : Nat → Int32 → Int32
  | 0, _ => -1
  | r + 1, i => if go i.toNatClampNeg ≤ 0 then zfw go ba g r (i + 1) else if ba i.toNatClampNeg = -1 then (if g i.toNatClampNeg = 0 then i else zfw go ba g r (i + 1)) else zfw go ba g r (i + 1)
theorem zlt200 {i n : Int32} (h0 : 0 ≤ i) (hn : 0 ≤ n ∧ n ≤ 200) (h1 : i < n) : i.toNatClampNeg < 200 := (zlt_nat h0 (by decide)).mp (show i < 200 by grind)
theorem zfw_cg {go ba g g' : Nat → Int32} {n : Int32} (hn : 0 ≤ n ∧ n ≤ 200) (h : ∀ j, j < 200 → g j = g' j) : ∀ (r : Nat) (i : Int32), 0 ≤ i → n.toNatClampNeg = i.toNatClampNeg + r → zfw go ba g r i = zfw go ba g' r i
  | 0, i, _, _ => rfl
  | r + 1, i, h0, hr => by
    obtain ⟨h1, h2, h3⟩ := znext h0 (by clear h; grind) hr
    rw [zfw, zfw, h _ (zlt200 h0 hn h1), zfw_cg hn h r (i + 1) h2 h3]
theorem zfw_in {go ba g : Nat → Int32} {n : Int32} (hn : 0 ≤ n ∧ n ≤ 200) : ∀ (r : Nat) (i : Int32), 0 ≤ i → n.toNatClampNeg = i.toNatClampNeg + r → zfw go ba g r i = -1 ∨ ((0 ≤ zfw go ba g r i ∧ zfw go ba g r i < n) ∧ ¬ go (zfw go ba g r i).toNatClampNeg ≤ 0 ∧ ba (zfw go ba g r i).toNatClampNeg = -1 ∧ g (zfw go ba g r i).toNatClampNeg = 0)
  | 0, i, _, _ => Or.inl rfl
  | r + 1, i, h0, hr => by
    obtain ⟨h1, h2, h3⟩ := znext h0 (by grind) hr
    have ih := zfw_in (go := go) (ba := ba) (g := g) hn r (i + 1) h2 h3
    rw [zfw]
    split
    · exact ih
    · rename_i q1
      split
      · rename_i q2
        split
        · rename_i q3
          exact Or.inr ⟨⟨h0, h1⟩, q1, q2, q3⟩
        · exact ih
      · exact ih
theorem g_firstWaiting (d : Nat) (E : zE) (At : Nat → zC) (Q : Option Value → zM → Prop) (hE : ∀ y n a M' Q', zT (d + 1) y n a M' Q' → E y n a M' Q') (hC : ∀ pc st L M', zX 81 E Q At (zlk B_X1_firstWaiting pc) st L M' → At pc st L M') (I : Nat → Nat → Int32) (J : Nat → Nat → Int64) (hn : 0 ≤ I 22 10 ∧ I 22 10 ≤ 200) : ∀ (r : Nat) (i : Int32), 0 ≤ i → (I 22 10).toNatClampNeg = i.toNatClampNeg + r → Q (some (.int (zfw (I 26) (I 29) (fun _ => 0) r i))) (I, J, zR, 81) → At 2 [] [some (.ref 22), some (.int i)] (I, J, zR, 81)
  | 0, i, h0, hr, hQ => by
    have hl := zlast h0 hn.1 hr
    exact g_X1_firstWaiting_2 d E At Q hE hC I J i rfl rfl rfl (fun q => absurd hl q) (fun q => absurd hl q) (fun q => absurd hl q) (fun q => absurd hl q) (fun _ => hQ) (fun q => absurd hl q)
  | r + 1, i, h0, hr, hQ => by
    obtain ⟨h1, h2, h3⟩ := znext h0 (by clear hE hC hQ; grind) hr
    have hbi : 0 ≤ i ∧ i < 200 := by clear hE hC hQ; grind
    refine g_X1_firstWaiting_2 d E At Q hE hC I J i rfl rfl rfl (fun _ => hbi) (fun _ _ => hbi) (fun q1 q2 => ?_) (fun q1 q2 q3 => ?_) (fun q => ?_) (fun q1 q2 q3 => ?_)
    · rw [zfw, if_pos q2] at hQ; exact g_firstWaiting d E At Q hE hC I J hn r (i + 1) h2 h3 hQ
    · rw [zfw, if_neg q2, if_neg q3] at hQ; exact g_firstWaiting d E At Q hE hC I J hn r (i + 1) h2 h3 hQ
    · exfalso; clear hE hC hQ; grind
    · rw [zfw, if_neg q2, if_pos q3, if_pos rfl] at hQ; exact hQ
theorem w_firstWaiting (d : Nat) (I : Nat → Nat → Int32) (J : Nat → Nat → Int64) (Q : Option Value → zM → Prop) (hn : 0 ≤ I 22 10 ∧ I 22 10 ≤ 200) (l : Q (some (.int (zfw (I 26) (I 29) (fun _ => 0) (I 22 10).toNatClampNeg 0))) (I, J, zR, 81)) : zT (d + 2) 8 81 [.ref 22] (I, J, zR, 81) Q :=
  ⟨rfl, fun E At hE hC => g_X1_firstWaiting_0 (d + 1) E At Q hE hC I J (g_firstWaiting d E At Q hE hC I J hn _ 0 (by decide) (Nat.zero_add _).symm l)⟩
def zfo (go ba rc : Nat → Int32) (f oven : Int32) : Nat → Int32 → Int32 → Int32 → (Nat → Int32) → Int32 × (Nat → Int32)
  | 0, _, n, _, g => (n, g)
  | r + 1, i, n, s, g => if go i.toNatClampNeg ≤ 0 then zfo go ba rc f oven r (i + 1) n s g else if ba i.toNatClampNeg = -1 then (if g i.toNatClampNeg = 0 then (if rc i.toNatClampNeg = f then (if n = 0 then zfo go ba rc f oven r (i + 1) (n + 1) (s + go i.toNatClampNeg) (va_up g i.toNatClampNeg 1) else if oven < s + go i.toNatClampNeg then (n, g) else zfo go ba rc f oven r (i + 1) (n + 1) (s + go i.toNatClampNeg) (va_up g i.toNatClampNeg 1)) else zfo go ba rc f oven r (i + 1) n s g) else zfo go ba rc f oven r (i + 1) n s g) else zfo go ba rc f oven r (i + 1) n s g
theorem zfo_cg {go ba rc : Nat → Int32} {f oven n : Int32} (hn : 0 ≤ n ∧ n ≤ 200) : ∀ (r : Nat) (i c s : Int32) (g g' : Nat → Int32), 0 ≤ i → n.toNatClampNeg = i.toNatClampNeg + r → (∀ j, j < 200 → g j = g' j) → (zfo go ba rc f oven r i c s g).1 = (zfo go ba rc f oven r i c s g').1 ∧ ∀ j, j < 200 → (zfo go ba rc f oven r i c s g).2 j = (zfo go ba rc f oven r i c s g').2 j
  | 0, i, c, s, g, g', _, _, h => ⟨rfl, h⟩
  | r + 1, i, c, s, g, g', h0, hr, h => by
    obtain ⟨h1, h2, h3⟩ := znext h0 (by clear h; grind) hr
    have hu : ∀ j, j < 200 → va_up g i.toNatClampNeg 1 j = va_up g' i.toNatClampNeg 1 j := fun j hj => by
      by_cases q : j = i.toNatClampNeg
      · rw [q, zup_eq, zup_eq]
      · rw [zup_ne q, zup_ne q]; exact h j hj
    rw [zfo, zfo, h _ (zlt200 h0 hn h1)]
    by_cases c1 : go i.toNatClampNeg ≤ 0
    · rw [if_pos c1, if_pos c1]; exact zfo_cg hn r _ _ _ _ _ h2 h3 h
    rw [if_neg c1, if_neg c1]
    by_cases c2 : ba i.toNatClampNeg = -1
    · rw [if_pos c2, if_pos c2]
      by_cases c3 : g' i.toNatClampNeg = 0
      · rw [if_pos c3, if_pos c3]
        by_cases c4 : rc i.toNatClampNeg = f
        · rw [if_pos c4, if_pos c4]
          by_cases c5 : c = 0
          · rw [if_pos c5, if_pos c5]; exact zfo_cg hn r _ _ _ _ _ h2 h3 hu
          · rw [if_neg c5, if_neg c5]
            by_cases c6 : oven < s + go i.toNatClampNeg
            · rw [if_pos c6, if_pos c6]; exact ⟨rfl, h⟩
            · rw [if_neg c6, if_neg c6]; exact zfo_cg hn r _ _ _ _ _ h2 h3 hu
        · rw [if_neg c4, if_neg c4]; exact zfo_cg hn r _ _ _ _ _ h2 h3 h
      · rw [if_neg c3, if_neg c3]; exact zfo_cg hn r _ _ _ _ _ h2 h3 h
    · rw [if_neg c2, if_neg c2]; exact zfo_cg hn r _ _ _ _ _ h2 h3 h
/-- no mark from n on, and no number that falls -/
theorem zfo_hi {go ba rc : Nat → Int32} {f oven n : Int32} (hn : 0 ≤ n ∧ n ≤ 200) : ∀ (r : Nat) (i c s : Int32) (g : Nat → Int32), 0 ≤ i → n.toNatClampNeg = i.toNatClampNeg + r → (0 ≤ c ∧ c ≤ i) → (∀ j, n.toNatClampNeg ≤ j → (zfo go ba rc f oven r i c s g).2 j = g j) ∧ c ≤ (zfo go ba rc f oven r i c s g).1
  | 0, i, c, s, g, _, _, hc => ⟨fun _ _ => rfl, Int32.le_refl c⟩
  | r + 1, i, c, s, g, h0, hr, hc => by
    obtain ⟨h1, h2, h3⟩ := znext h0 (by grind) hr
    have k0 := zfo_hi (go := go) (ba := ba) (rc := rc) (f := f) (oven := oven) hn r (i + 1) c s g h2 h3 (by grind)
    have k1 := zfo_hi (go := go) (ba := ba) (rc := rc) (f := f) (oven := oven) hn r (i + 1) (c + 1) (s + go i.toNatClampNeg) (va_up g i.toNatClampNeg 1) h2 h3 (by grind)
    have k2 : (∀ j, n.toNatClampNeg ≤ j → (zfo go ba rc f oven r (i + 1) (c + 1) (s + go i.toNatClampNeg) (va_up g i.toNatClampNeg 1)).2 j = g j) ∧ c ≤ (zfo go ba rc f oven r (i + 1) (c + 1) (s + go i.toNatClampNeg) (va_up g i.toNatClampNeg 1)).1 := by
      refine ⟨fun j hj => (k1.1 j hj).trans (zup_ne (by omega)), ?_⟩
      have := k1.2
      clear k0 k1
      grind
    clear k1
    rw [zfo]
    by_cases c1 : go i.toNatClampNeg ≤ 0
    · rw [if_pos c1]; exact k0
    rw [if_neg c1]
    by_cases c2 : ba i.toNatClampNeg = -1
    · rw [if_pos c2]
      by_cases c3 : g i.toNatClampNeg = 0
      · rw [if_pos c3]
        by_cases c4 : rc i.toNatClampNeg = f
        · rw [if_pos c4]
          by_cases c5 : c = 0
          · rw [if_pos c5]; exact k2
          · rw [if_neg c5]
            by_cases c6 : oven < s + go i.toNatClampNeg
            · rw [if_pos c6]; exact ⟨fun _ _ => rfl, Int32.le_refl c⟩
            · rw [if_neg c6]; exact k2
        · rw [if_neg c4]; exact k0
      · rw [if_neg c3]; exact k0
    · rw [if_neg c2]; exact k0
def zmg (num : Int32) (g b : Nat → Int32) (j : Nat) : Int32 := if g j = 0 then b j else num
theorem zmg_up {num : Int32} {g b : Nat → Int32} {k : Nat} : zmg num (va_up g k 1) b = va_up (zmg num g b) k num := by
  funext j
  by_cases q : j = k
  · rw [q, zup_eq]; unfold zmg; rw [zup_eq, if_neg (by decide)]
  · rw [zup_ne q]; unfold zmg; rw [zup_ne q]
theorem zmg_0 {num : Int32} {b : Nat → Int32} : zmg num (fun _ => 0) b = b := by
  funext j
  exact if_pos rfl
set_option maxHeartbeats 2000000 in
theorem g_fillOven (d : Nat) (E : zE) (At : Nat → zC) (Q : Option Value → zM → Prop) (hE : ∀ y n a M' Q', zT (d + 1) y n a M' Q' → E y n a M' Q') (hC : ∀ pc st L M', zX 81 E Q At (zlk B_X1_fillOven pc) st L M' → At pc st L M') (I : Nat → Nat → Int32) (J : Nat → Nat → Int64) (hn : 0 ≤ I 22 10 ∧ I 22 10 ≤ 200) (f oven num : Int32) (hf : 0 ≤ f ∧ f < 200) : ∀ (r : Nat) (i c s : Int32) (g : Nat → Int32), 0 ≤ i → (I 22 10).toNatClampNeg = i.toNatClampNeg + r → (0 ≤ c ∧ c ≤ i) → (∀ j, i.toNatClampNeg ≤ j → g j = 0) → Q (some (.int (zfo (I 26) (I 29) (I 30) (I 30 f.toNatClampNeg) oven r i c s g).1)) (va_up I 29 (zmg num (zfo (I 26) (I 29) (I 30) (I 30 f.toNatClampNeg) oven r i c s g).2 (I 29)), J, zR, 81) → At 9 [] [some (.ref 22), some (.int f), some (.int oven), some (.int num), some (.int c), some (.int s), some (.int i)] (va_up I 29 (zmg num g (I 29)), J, zR, 81)
  | 0, i, c, s, g, h0, hr, hc, hg, hQ => by
    have hl : I 22 10 ≤ i := zlast h0 hn.1 hr
    exact g_X1_fillOven_9 d E At Q hE hC (va_up I 29 (zmg num g (I 29))) J f oven num c s i (show _ = I 26 from rfl) (show _ = zmg num g (I 29) from rfl) (show _ = I 30 from rfl) (show _ = I 22 10 from rfl) (fun q => absurd hl q) (fun q => absurd hl q) (fun q => absurd hl q) (fun q => absurd hl q) (fun q => absurd hl q) (fun q => absurd hl q) (fun q => absurd hl q) (fun q => absurd hl q) (fun q => absurd hl q) (fun q => absurd hl q) (fun q => absurd hl q) (fun q => absurd hl q) (fun q => absurd hl q) (fun q => absurd hl q) (fun _ => hQ) (fun q => absurd hl q)
  | r + 1, i, c, s, g, h0, hr, hc, hg, hQ => by
    obtain ⟨h1, h2, h3⟩ := znext h0 (by clear hE hC hQ hg; grind) hr
    have hbi : 0 ≤ i ∧ i < 200 := by clear hE hC hQ hg; grind
    have hgi := hg i.toNatClampNeg (Nat.le_refl _)
    have hz : zmg num g (I 29) i.toNatClampNeg = I 29 i.toNatClampNeg := if_pos hgi
    have hg2 : ∀ j, (i + 1).toNatClampNeg ≤ j → g j = 0 := fun j hj => hg j (by omega)
    have hg3 : ∀ j, (i + 1).toNatClampNeg ≤ j → va_up g i.toNatClampNeg 1 j = 0 := fun j hj => (zup_ne (by omega)).trans (hg j (by omega))
    have hc2 : 0 ≤ c ∧ c ≤ i + 1 := by clear hE hC hQ hg hg2 hg3; grind
    have hc3 : 0 ≤ c + 1 ∧ c + 1 ≤ i + 1 := by clear hE hC hQ hg hg2 hg3; grind
    refine g_X1_fillOven_9 d E At Q hE hC (va_up I 29 (zmg num g (I 29))) J f oven num c s i (show _ = I 26 from rfl) (show _ = zmg num g (I 29) from rfl) (show _ = I 30 from rfl) (show _ = I 22 10 from rfl) (fun _ => hbi) (fun _ _ => hbi) (fun _ _ _ => hbi) (fun _ _ _ => hf) (fun _ _ _ _ _ => hbi) (fun _ _ _ _ _ => hbi) (fun _ _ _ _ _ => hbi) (fun _ _ _ _ _ _ => hbi) (fun _ _ _ _ _ _ => hbi) (fun q1 q2 => ?_) (fun q1 q2 q3 => ?_) (fun q1 q2 q3 q4 q5 => ?_) (fun q1 q2 q3 q4 q5 q6 => ?_) (fun q1 q2 q3 q4 => ?_) (fun q => absurd h1 (by clear hE hC hQ hg hg2 hg3; grind)) (fun q1 q2 q3 q4 q5 q6 => ?_)
    · rw [zfo, if_pos q2] at hQ; exact g_fillOven d E At Q hE hC I J hn f oven num hf r (i + 1) c s g h2 h3 hc2 hg2 hQ
    · rw [hz] at q3; rw [zfo, if_neg q2, if_neg q3] at hQ; exact g_fillOven d E At Q hE hC I J hn f oven num hf r (i + 1) c s g h2 h3 hc2 hg2 hQ
    · rw [hz] at q3; rw [zfo, if_neg q2, if_pos q3, if_pos hgi, if_pos q4, if_pos (show c = 0 by clear hE hC hQ hg hg2 hg3; grind)] at hQ
      have ih := g_fillOven d E At Q hE hC I J hn f oven num hf r (i + 1) (c + 1) (s + I 26 i.toNatClampNeg) (va_up g i.toNatClampNeg 1) h2 h3 hc3 hg3 hQ
      rw [zmg_up, ← zuu (v := zmg num g (I 29))] at ih
      exact ih
    · rw [hz] at q3; rw [zfo, if_neg q2, if_pos q3, if_pos hgi, if_pos q4, if_neg (show ¬ c = 0 by clear hE hC hQ hg hg2 hg3; grind), if_neg (show ¬ oven < s + I 26 i.toNatClampNeg by clear hE hC hQ hg hg2 hg3; grind)] at hQ
      have ih := g_fillOven d E At Q hE hC I J hn f oven num hf r (i + 1) (c + 1) (s + I 26 i.toNatClampNeg) (va_up g i.toNatClampNeg 1) h2 h3 hc3 hg3 hQ
      rw [zmg_up, ← zuu (v := zmg num g (I 29))] at ih
      exact ih
    · rw [hz] at q3; rw [zfo, if_neg q2, if_pos q3, if_pos hgi, if_neg q4] at hQ; exact g_fillOven d E At Q hE hC I J hn f oven num hf r (i + 1) c s g h2 h3 hc2 hg2 hQ
    · rw [hz] at q3; rw [zfo, if_neg q2, if_pos q3, if_pos hgi, if_pos q4, if_neg (show ¬ c = 0 by clear hE hC hQ hg hg2 hg3; grind), if_pos (show oven < s + I 26 i.toNatClampNeg by clear hE hC hQ hg hg2 hg3; grind)] at hQ
      exact hQ
theorem w_fillOven (d : Nat) (I : Nat → Nat → Int32) (J : Nat → Nat → Int64) (Q : Option Value → zM → Prop) (hn : 0 ≤ I 22 10 ∧ I 22 10 ≤ 200) (f oven num : Int32) (hf : 0 ≤ f ∧ f < I 22 10) (l : Q (some (.int (zfo (I 26) (I 29) (I 30) (I 30 f.toNatClampNeg) oven ((I 22 10).toNatClampNeg - f.toNatClampNeg) f 0 0 (fun _ => 0)).1)) (va_up I 29 (zmg num (zfo (I 26) (I 29) (I 30) (I 30 f.toNatClampNeg) oven ((I 22 10).toNatClampNeg - f.toNatClampNeg) f 0 0 (fun _ => 0)).2 (I 29)), J, zR, 81)) : zT (d + 2) 9 81 [.ref 22, .int f, .int oven, .int num] (I, J, zR, 81) Q := by
  refine ⟨rfl, fun E At hE hC => g_X1_fillOven_0 (d + 1) E At Q hE hC I J f oven num ?_⟩
  have h1 := (zlt_nat hf.1 hn.1).mp hf.2
  have ih := g_fillOven d E At Q hE hC I J hn f oven num (by clear hE hC l; grind) _ f 0 0 (fun _ => 0) hf.1 (by omega) ⟨by decide, hf.1⟩ (fun _ _ => rfl) l
  rw [zmg_0, zself] at ih
  exact ih
