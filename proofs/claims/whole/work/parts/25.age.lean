theorem g_X10_age_18 (d : Nat) (E : zE) (At : Nat → zC) (Q : Option Value → zM → Prop) (hE : ∀ y n a M' Q', zT (d + 0) y n a M' Q' → E y n a M' Q') (hC : ∀ pc st L M', zX 81 E Q At (zlk B_X10_age pc) st L M' → At pc st L M') (I : Nat → Nat → Int32) (J : Nat → Nat → Int64) (v1 : Int32) (v2 : Int32) {f63 : Nat → Int32} (e63 : I 63 = f63) {f76 : Nat → Int32} (e76 : I 76 = f76) {s46_13 : Int32} (e46_13 : I 46 13 = s46_13) {s46_45 : Int32} (e46_45 : I 46 45 = s46_45) (b1 : (¬ (s46_13 ≤ v2)) → 0 ≤ v2 ∧ v2 < 200) (b2 : (¬ (s46_13 ≤ v2)) → ((f76 (v2 : Int32).toNatClampNeg) = 0) → 0 ≤ v2 ∧ v2 < 200) (b3 : (¬ (s46_13 ≤ v2)) → ((f76 (v2 : Int32).toNatClampNeg) = 0) → 0 ≤ v2 ∧ v2 < 200) (b4 : (¬ (s46_13 ≤ v2)) → (¬ ((f76 (v2 : Int32).toNatClampNeg) = 0)) → 0 ≤ v2 ∧ v2 < 200) (k1 : (¬ (s46_13 ≤ v2)) → ((f76 (v2 : Int32).toNatClampNeg) = 0) → At 18 [] [some (.ref 46), some (.int v1), some (.int (v2 + 1))] (zwI (I, J, zR, 81) 63 (v2 : Int32).toNatClampNeg (f63 (v2 : Int32).toNatClampNeg))) (k2 : (¬ (s46_13 ≤ v2)) → (¬ ((f76 (v2 : Int32).toNatClampNeg) = 0)) → At 18 [] [some (.ref 46), some (.int v1), some (.int (v2 + 1))] (zwI (I, J, zR, 81) 63 (v2 : Int32).toNatClampNeg s46_45)) (l1 : (s46_13 ≤ v2) → Q (some (.int v1)) (zwI (I, J, zR, 81) 46 45 (s46_45 + 1))) : At 18 [] [some (.ref 46), some (.int v1), some (.int v2)] (I, J, zR, 81) := by
  subst e63 e76 e46_13 e46_45
  refine hC 18 [] [some (.ref 46), some (.int v1), some (.int v2)] _ ?_
  refine And.intro (fun q1 => ?_) (fun q1 => ?_)
  · skip
    refine hC 60 [] [some (.ref 46), some (.int v1), some (.int v2)] _ ?_
    exact l1 q1
  · skip
    refine And.intro (zvp (b1 q1) rfl) ?_
    refine And.intro (fun q2 => ?_) (fun q2 => ?_)
    · skip
      refine hC 47 [.int v2, .ref 63] [some (.ref 46), some (.int v1), some (.int v2)] _ ?_
      refine And.intro (zvp (b2 q1 q2) rfl) ?_
      refine hC 53 [.int (I 63 (v2 : Int32).toNatClampNeg), .int v2, .ref 63] [some (.ref 46), some (.int v1), some (.int v2)] _ ?_
      refine And.intro (zvp (b3 q1 q2) rfl) ?_
      exact k1 q1 q2
    · skip
      refine hC 53 [.int (I 46 45), .int v2, .ref 63] [some (.ref 46), some (.int v1), some (.int v2)] _ ?_
      refine And.intro (zvp (b4 q1 q2) rfl) ?_
      exact k2 q1 q2
theorem zup_same {α : Type} {f : Nat → α} {k : Nat} {v : α} (h : f k = v) : va_up f k v = f := by rw [← h]; exact zself
theorem zfo_skip {go ba rc : Nat → Int32} {f oven i n s : Int32} {g : Nat → Int32} {r : Nat} (h : go i.toNatClampNeg ≤ 0 ∨ ¬ ba i.toNatClampNeg = -1 ∨ ¬ g i.toNatClampNeg = 0 ∨ ¬ rc i.toNatClampNeg = f) : zfo go ba rc f oven (r + 1) i n s g = zfo go ba rc f oven r (i + 1) n s g := by
  rw [zfo]
  by_cases c1 : go i.toNatClampNeg ≤ 0
  · rw [if_pos c1]
  rw [if_neg c1]
  by_cases c2 : ba i.toNatClampNeg = -1
  · rw [if_pos c2]
    by_cases c3 : g i.toNatClampNeg = 0
    · rw [if_pos c3]
      by_cases c4 : rc i.toNatClampNeg = f
      · rcases h with z | z | z | z
        · exact absurd z c1
        · exact absurd c2 z
        · exact absurd c3 z
        · exact absurd c4 z
      · rw [if_neg c4]
    · rw [if_neg c3]
  · rw [if_neg c2]
theorem zfo_take {go ba rc : Nat → Int32} {f oven i n s : Int32} {g : Nat → Int32} {r : Nat} (c1 : ¬ go i.toNatClampNeg ≤ 0) (c2 : ba i.toNatClampNeg = -1) (c3 : g i.toNatClampNeg = 0) (c4 : rc i.toNatClampNeg = f) (c5 : n = 0 ∨ ¬ oven < s + go i.toNatClampNeg) : zfo go ba rc f oven (r + 1) i n s g = zfo go ba rc f oven r (i + 1) (n + 1) (s + go i.toNatClampNeg) (va_up g i.toNatClampNeg 1) := by
  rw [zfo, if_neg c1, if_pos c2, if_pos c3, if_pos c4]
  by_cases q : n = 0
  · rw [if_pos q]
  · rw [if_neg q, if_neg (fun z => by rcases c5 with w | w; exact q w; exact w z)]
theorem zfo_stop {go ba rc : Nat → Int32} {f oven i n s : Int32} {g : Nat → Int32} {r : Nat} (c1 : ¬ go i.toNatClampNeg ≤ 0) (c2 : ba i.toNatClampNeg = -1) (c3 : g i.toNatClampNeg = 0) (c4 : rc i.toNatClampNeg = f) (c5 : ¬ n = 0) (c6 : oven < s + go i.toNatClampNeg) : zfo go ba rc f oven (r + 1) i n s g = (n, g) := by
  rw [zfo, if_neg c1, if_pos c2, if_pos c3, if_pos c4, if_neg c5, if_pos c6]
theorem zfw_skip {go ba g : Nat → Int32} {i : Int32} {r : Nat} (h : go i.toNatClampNeg ≤ 0 ∨ ¬ ba i.toNatClampNeg = -1 ∨ ¬ g i.toNatClampNeg = 0) : zfw go ba g (r + 1) i = zfw go ba g r (i + 1) := by
  rw [zfw]
  by_cases c1 : go i.toNatClampNeg ≤ 0
  · rw [if_pos c1]
  rw [if_neg c1]
  by_cases c2 : ba i.toNatClampNeg = -1
  · rw [if_pos c2]
    by_cases c3 : g i.toNatClampNeg = 0
    · rcases h with z | z | z
      · exact absurd z c1
      · exact absurd c2 z
      · exact absurd c3 z
    · rw [if_neg c3]
  · rw [if_neg c2]
/-- the oven takes at least the first one -/
theorem zfo_pos {go ba rc : Nat → Int32} {f oven n : Int32} {g : Nat → Int32} (hn : 0 ≤ n ∧ n ≤ 200) (hf : 0 ≤ f ∧ f < n) (c1 : ¬ go f.toNatClampNeg ≤ 0) (c2 : ba f.toNatClampNeg = -1) (c3 : g f.toNatClampNeg = 0) : 1 ≤ (zfo go ba rc (rc f.toNatClampNeg) oven (n.toNatClampNeg - f.toNatClampNeg) f 0 0 g).1 := by
  have h1 := (zlt_nat hf.1 hn.1).mp hf.2
  obtain ⟨r, hr⟩ : ∃ r, n.toNatClampNeg - f.toNatClampNeg = r + 1 := ⟨n.toNatClampNeg - f.toNatClampNeg - 1, by omega⟩
  obtain ⟨k1, k2, k3⟩ := znext hf.1 (n := n) (r := r) (by grind) (by omega)
  rw [hr, zfo_take c1 c2 c3 rfl (Or.inl rfl)]
  exact (zfo_hi (go := go) (ba := ba) (rc := rc) (f := rc f.toNatClampNeg) (oven := oven) hn r (f + 1) (0 + 1) (0 + go f.toNatClampNeg) (va_up g f.toNatClampNeg 1) k2 k3 (by grind)).2
set_option maxHeartbeats 4000000 in
theorem g_takes54 (d : Nat) (E : zE) (At : Nat → zC) (Q : Option Value → zM → Prop) (hE : ∀ y n a M' Q', zT (d + 1) y n a M' Q' → E y n a M' Q') (hC : ∀ pc st L M', zX 81 E Q At (zlk B_X10_takes pc) st L M' → At pc st L M') (I : Nat → Nat → Int32) (J : Nat → Nat → Int64) (n room f : Int32) (go ba rc di pr re : Nat → Int32) (e50 : I 50 = re) (e52 : I 52 = pr) (e57 : I 57 = di) (e60 : I 60 = go) (e63 : I 63 = ba) (e13 : I 46 13 = n) (e44 : I 46 44 = room) (hn : 0 ≤ n ∧ n ≤ 200) (hf : 0 ≤ f ∧ f < n) (hb : ∀ i : Int32, 0 ≤ i → i < n → (0 ≤ di i.toNatClampNeg ∧ di i.toNatClampNeg < 12) ∧ (0 ≤ pr (di i.toNatClampNeg).toNatClampNeg ∧ pr (di i.toNatClampNeg).toNatClampNeg < 8) ∧ re (pr (di i.toNatClampNeg).toNatClampNeg).toNatClampNeg = rc i.toNatClampNeg) : ∀ (r : Nat) (i c s : Int32) (g : Nat → Int32), 0 ≤ i → n.toNatClampNeg = i.toNatClampNeg + r → Q (some (.int (zfo go ba rc (rc f.toNatClampNeg) room r i c s g).1)) (va_up I 76 (zfo go ba rc (rc f.toNatClampNeg) room r i c s g).2, J, zR, 81) → At 54 [] [some (.ref 46), some (.int f), some (.int c), some (.int s), some (.int 1), some (.int i)] (va_up I 76 g, J, zR, 81)
  | 0, i, c, s, g, h0, hr, hQ => by
    have hl : n ≤ i := zlast h0 hn.1 hr
    exact g_X10_takes_54 d E At Q hE hC (va_up I 76 g) J f c s 1 i e50 e52 e57 e60 e63 (show _ = g from rfl) e13 e44 (fun q => absurd hl q) (fun q => absurd hl q) (fun q => absurd hl q) (fun q => absurd hl q) (fun q => absurd hl q) (fun q => absurd hl q) (fun q => absurd hl q) (fun q => absurd hl q) (fun q => absurd hl q) (fun q => absurd hl q) (fun q => absurd hl q) (fun q => absurd hl q) (fun q => absurd hl q) (fun q => absurd hl q) (fun q => absurd hl q) (fun q => absurd hl q) (fun q => absurd hl q) (fun q => absurd hl q) (fun q => absurd hl q) (fun q => absurd hl q) (fun q => absurd hl q) (fun _ => hQ) (fun q => absurd hl q)
  | r + 1, i, c, s, g, h0, hr, hQ => by
    obtain ⟨h1, h2, h3⟩ := znext h0 (by clear hE hC hQ hb; grind) hr
    have hbi : 0 ≤ i ∧ i < 200 := by clear hE hC hQ hb; grind
    have hf2 : 0 ≤ f ∧ f < 200 := by clear hE hC hQ hb; grind
    obtain ⟨w1, w2, w3⟩ := hb i h0 h1
    obtain ⟨u1, u2, u3⟩ := hb f hf.1 hf.2
    refine g_X10_takes_54 d E At Q hE hC (va_up I 76 g) J f c s 1 i e50 e52 e57 e60 e63 (show _ = g from rfl) e13 e44 (fun _ _ => hbi) (fun _ _ _ => hbi) (fun _ _ _ _ => hbi) (fun _ _ _ _ _ => hbi) (fun _ _ _ _ _ => w1) (fun _ _ _ _ _ => w2) (fun _ _ _ _ _ => hf2) (fun _ _ _ _ _ => u1) (fun _ _ _ _ _ => u2) (fun _ _ _ _ _ _ _ => hbi) (fun _ _ _ _ _ _ _ => hbi) (fun _ _ _ _ _ _ _ => hbi) (fun _ _ _ _ _ _ _ _ => hbi) (fun _ _ _ _ _ _ _ _ => hbi) (fun q1 q2 q3 => ?_) (fun q1 q2 q3 q4 => ?_) (fun q1 q2 q3 q4 q5 => ?_) (fun q1 q2 q3 q4 q5 q6 => ?_) (fun q1 q2 q3 q4 q5 q6 q7 => ?_) (fun q1 q2 q3 q4 q5 q6 q7 q8 => ?_) (fun q1 q2 q3 q4 q5 q6 q7 q8 => ?_) (fun q => absurd h1 (by clear hE hC hQ hb; grind)) (fun _ q => absurd q (by decide))
    · rw [zfo_skip (Or.inr (Or.inl q3))] at hQ
      exact g_takes54 d E At Q hE hC I J n room f go ba rc di pr re e50 e52 e57 e60 e63 e13 e44 hn hf hb r (i + 1) c s g h2 h3 hQ
    · rw [zfo_skip (Or.inl q4)] at hQ
      exact g_takes54 d E At Q hE hC I J n room f go ba rc di pr re e50 e52 e57 e60 e63 e13 e44 hn hf hb r (i + 1) c s g h2 h3 hQ
    · rw [zfo_skip (Or.inr (Or.inr (Or.inl q5)))] at hQ
      exact g_takes54 d E At Q hE hC I J n room f go ba rc di pr re e50 e52 e57 e60 e63 e13 e44 hn hf hb r (i + 1) c s g h2 h3 hQ
    · rw [w3, u3] at q6
      rw [zfo_skip (Or.inr (Or.inr (Or.inr q6)))] at hQ
      exact g_takes54 d E At Q hE hC I J n room f go ba rc di pr re e50 e52 e57 e60 e63 e13 e44 hn hf hb r (i + 1) c s g h2 h3 hQ
    · rw [w3, u3] at q6
      rw [zfo_take q4 q3 q5 q6 (Or.inl q7)] at hQ
      have ih := g_takes54 d E At Q hE hC I J n room f go ba rc di pr re e50 e52 e57 e60 e63 e13 e44 hn hf hb r (i + 1) (c + 1) _ _ h2 h3 hQ
      rw [← zuu (v := g)] at ih
      exact ih
    · rw [w3, u3] at q6
      rw [zfo_stop q4 q3 q5 q6 q7 q8] at hQ
      exact g_X10_takes_54 d E At Q hE hC (va_up I 76 g) J f c s 0 (i + 1) e50 e52 e57 e60 e63 (show _ = g from rfl) e13 e44 (fun _ q => absurd rfl q) (fun _ q => absurd rfl q) (fun _ q => absurd rfl q) (fun _ q => absurd rfl q) (fun _ q => absurd rfl q) (fun _ q => absurd rfl q) (fun _ q => absurd rfl q) (fun _ q => absurd rfl q) (fun _ q => absurd rfl q) (fun _ q => absurd rfl q) (fun _ q => absurd rfl q) (fun _ q => absurd rfl q) (fun _ q => absurd rfl q) (fun _ q => absurd rfl q) (fun _ q => absurd rfl q) (fun _ q => absurd rfl q) (fun _ q => absurd rfl q) (fun _ q => absurd rfl q) (fun _ q => absurd rfl q) (fun _ q => absurd rfl q) (fun _ q => absurd rfl q) (fun _ => hQ) (fun _ _ => hQ)
    · rw [w3, u3] at q6
      rw [zfo_take q4 q3 q5 q6 (Or.inr q8)] at hQ
      have ih := g_takes54 d E At Q hE hC I J n room f go ba rc di pr re e50 e52 e57 e60 e63 e13 e44 hn hf hb r (i + 1) (c + 1) _ _ h2 h3 hQ
      rw [← zuu (v := g)] at ih
      exact ih
theorem g_takes4 (d : Nat) (E : zE) (At : Nat → zC) (Q : Option Value → zM → Prop) (hE : ∀ y n a M' Q', zT (d + 1) y n a M' Q' → E y n a M' Q') (hC : ∀ pc st L M', zX 81 E Q At (zlk B_X10_takes pc) st L M' → At pc st L M') (I : Nat → Nat → Int32) (J : Nat → Nat → Int64) (n : Int32) (go ba g : Nat → Int32) (e60 : I 60 = go) (e63 : I 63 = ba) (e76 : I 76 = g) (e13 : I 46 13 = n) (hn : 0 ≤ n ∧ n ≤ 200) : ∀ (r : Nat) (i : Int32), 0 ≤ i → n.toNatClampNeg = i.toNatClampNeg + r → (zfw go ba g r i = -1 → Q (some (.int 0)) (I, J, zR, 81)) → (¬ zfw go ba g r i = -1 → At 54 [] [some (.ref 46), some (.int (zfw go ba g r i)), some (.int 0), some (.int 0), some (.int 1), some (.int (zfw go ba g r i))] (I, J, zR, 81)) → At 4 [] [some (.ref 46), some (.int (-1)), some (.int i), none, none, none] (I, J, zR, 81)
  | 0, i, h0, hr, l0, l1 => by
    have hl : n ≤ i := zlast h0 hn.1 hr
    exact g_X10_takes_4 d E At Q hE hC I J (-1) i e60 e63 e76 e13 (fun q => absurd hl q) (fun q => absurd hl q) (fun q => absurd hl q) (fun _ q => absurd rfl q) (fun q => absurd hl q) (fun q => absurd hl q) (fun q => absurd hl q) (fun q => absurd hl q) (fun q => absurd hl q) (fun _ _ => l0 rfl) (fun q => absurd hl q)
  | r + 1, i, h0, hr, l0, l1 => by
    obtain ⟨h1, h2, h3⟩ := znext h0 (by clear hE hC l0 l1; grind) hr
    have hbi : 0 ≤ i ∧ i < 200 := by clear hE hC l0 l1; grind
    refine g_X10_takes_4 d E At Q hE hC I J (-1) i e60 e63 e76 e13 (fun _ _ => hbi) (fun _ _ _ => hbi) (fun _ _ _ _ => hbi) (fun _ q => absurd rfl q) (fun _ q => absurd rfl q) (fun q1 q2 q3 => ?_) (fun q1 q2 q3 q4 => ?_) (fun q1 q2 q3 q4 q5 => ?_) (fun q1 q2 q3 q4 q5 => ?_) (fun q => absurd h1 (by clear hE hC l0 l1; grind)) (fun _ q => absurd rfl q)
    · rw [zfw_skip (Or.inr (Or.inl q3))] at l0 l1
      exact g_takes4 d E At Q hE hC I J n go ba g e60 e63 e76 e13 hn r (i + 1) h2 h3 l0 l1
    · rw [zfw_skip (Or.inl q4)] at l0 l1
      exact g_takes4 d E At Q hE hC I J n go ba g e60 e63 e76 e13 hn r (i + 1) h2 h3 l0 l1
    · rw [zfw_skip (Or.inr (Or.inr q5))] at l0 l1
      exact g_takes4 d E At Q hE hC I J n go ba g e60 e63 e76 e13 hn r (i + 1) h2 h3 l0 l1
    · have hi1 : ¬ i = -1 := by clear hE hC l0 l1; grind
      rw [zfw, if_neg q4, if_pos q3, if_pos q5] at l1
      have ha := l1 hi1
      exact g_X10_takes_4 d E At Q hE hC I J i (i + 1) e60 e63 e76 e13 (fun _ q => absurd q hi1) (fun _ q => absurd q hi1) (fun _ q => absurd q hi1) (fun _ _ => ha) (fun _ _ _ => ha) (fun _ q => absurd q hi1) (fun _ q => absurd q hi1) (fun _ q => absurd q hi1) (fun _ q => absurd q hi1) (fun _ q => absurd q hi1) (fun _ _ q => absurd q hi1)
theorem w_takes (d : Nat) (I : Nat → Nat → Int32) (J : Nat → Nat → Int64) (Q : Option Value → zM → Prop) {n room : Int32} {go ba rc di pr re g : Nat → Int32} (e50 : I 50 = re) (e52 : I 52 = pr) (e57 : I 57 = di) (e60 : I 60 = go) (e63 : I 63 = ba) (e76 : I 76 = g) (e13 : I 46 13 = n) (e44 : I 46 44 = room) (hn : 0 ≤ n ∧ n ≤ 200) (hb : ∀ i : Int32, 0 ≤ i → i < n → (0 ≤ di i.toNatClampNeg ∧ di i.toNatClampNeg < 12) ∧ (0 ≤ pr (di i.toNatClampNeg).toNatClampNeg ∧ pr (di i.toNatClampNeg).toNatClampNeg < 8) ∧ re (pr (di i.toNatClampNeg).toNatClampNeg).toNatClampNeg = rc i.toNatClampNeg) (l0 : zfw go ba g n.toNatClampNeg 0 = -1 → Q (some (.int 0)) (I, J, zR, 81)) (l1 : ¬ zfw go ba g n.toNatClampNeg 0 = -1 → Q (some (.int (zfo go ba rc (rc (zfw go ba g n.toNatClampNeg 0).toNatClampNeg) room (n.toNatClampNeg - (zfw go ba g n.toNatClampNeg 0).toNatClampNeg) (zfw go ba g n.toNatClampNeg 0) 0 0 g).1)) (va_up I 76 (zfo go ba rc (rc (zfw go ba g n.toNatClampNeg 0).toNatClampNeg) room (n.toNatClampNeg - (zfw go ba g n.toNatClampNeg 0).toNatClampNeg) (zfw go ba g n.toNatClampNeg 0) 0 0 g).2, J, zR, 81)) : zT (d + 2) 129 81 [.ref 46] (I, J, zR, 81) Q := by
  refine ⟨rfl, fun E At hE hC => g_X10_takes_0 (d + 1) E At Q hE hC I J ?_⟩
  refine g_takes4 d E At Q hE hC I J n go ba g e60 e63 e76 e13 hn n.toNatClampNeg 0 (by decide) (Nat.zero_add _).symm l0 (fun hne => ?_)
  rcases zfw_in (go := go) (ba := ba) (g := g) hn n.toNatClampNeg 0 (by decide) (Nat.zero_add _).symm with z | ⟨z1, z2, z3, z4⟩
  · exact absurd z hne
  · have h1 := (zlt_nat z1.1 hn.1).mp z1.2
    have ih := g_takes54 d E At Q hE hC I J n room (zfw go ba g n.toNatClampNeg 0) go ba rc di pr re e50 e52 e57 e60 e63 e13 e44 hn z1 hb _ _ 0 0 g z1.1 (by omega) (l1 hne)
    rw [zup_same e76] at ih
    exact ih
def zma (num : Int32) (g b : Nat → Int32) (m j : Nat) : Int32 := if j < m ∧ ¬ g j = 0 then num else b j
theorem zma_0 {num : Int32} {g b : Nat → Int32} {m : Nat} (h : g m = 0) : zma num g b (m + 1) = va_up (zma num g b m) m (zma num g b m m) := by
  rw [zself]
  funext j
  unfold zma
  by_cases w : j < m ∧ ¬ g j = 0
  · rw [if_pos w, if_pos ⟨by omega, w.2⟩]
  · rw [if_neg w, if_neg (fun z => w ⟨by have : j ≠ m := fun q => z.2 (q ▸ h)
                                         omega, z.2⟩)]
theorem zma_1 {num : Int32} {g b : Nat → Int32} {m : Nat} (h : ¬ g m = 0) : zma num g b (m + 1) = va_up (zma num g b m) m num := by
  funext j
  by_cases q : j = m
  · rw [q, zup_eq]; unfold zma; rw [if_pos ⟨by omega, h⟩]
  · rw [zup_ne q]
    unfold zma
    by_cases w : j < m ∧ ¬ g j = 0
    · rw [if_pos w, if_pos ⟨by omega, w.2⟩]
    · rw [if_neg w, if_neg (fun z => w ⟨by omega, z.2⟩)]
theorem zma_z {num : Int32} {g b : Nat → Int32} : zma num g b 0 = b := by
  funext j
  exact if_neg (fun z => absurd z.1 (Nat.not_lt_zero j))
theorem g_age10 (d : Nat) (E : zE) (At : Nat → zC) (Q : Option Value → zM → Prop) (hE : ∀ y n a M' Q', zT (d + 0) y n a M' Q' → E y n a M' Q') (hC : ∀ pc st L M', zX 81 E Q At (zlk B_X10_age pc) st L M' → At pc st L M') (I : Nat → Nat → Int32) (J : Nat → Nat → Int64) (n num c : Int32) (ba g : Nat → Int32) (e76 : I 76 = g) (e13 : I 46 13 = n) (e45 : I 46 45 = num) (hn : 0 ≤ n ∧ n ≤ 200) (hQ : Q (some (.int c)) (zwI (va_up I 63 (zma num g ba n.toNatClampNeg), J, zR, 81) 46 45 (num + 1))) : ∀ (r : Nat) (i : Int32), 0 ≤ i → n.toNatClampNeg = i.toNatClampNeg + r → At 18 [] [some (.ref 46), some (.int c), some (.int i)] (va_up I 63 (zma num g ba i.toNatClampNeg), J, zR, 81)
  | 0, i, h0, hr => by
    have hl : n ≤ i := zlast h0 hn.1 hr
    have hi : i.toNatClampNeg = n.toNatClampNeg := by omega
    rw [hi]
    exact g_X10_age_18 d E At Q hE hC (va_up I 63 (zma num g ba n.toNatClampNeg)) J c i (show _ = zma num g ba n.toNatClampNeg from rfl) e76 e13 e45 (fun q => absurd hl q) (fun q => absurd hl q) (fun q => absurd hl q) (fun q => absurd hl q) (fun q => absurd hl q) (fun q => absurd hl q) (fun _ => hQ)
  | r + 1, i, h0, hr => by
    obtain ⟨h1, h2, h3⟩ := znext h0 (by clear hE hC hQ; grind) hr
    have hbi : 0 ≤ i ∧ i < 200 := by clear hE hC hQ; grind
    have ih := g_age10 d E At Q hE hC I J n num c ba g e76 e13 e45 hn hQ r (i + 1) h2 h3
    have hi : (i + 1).toNatClampNeg = i.toNatClampNeg + 1 := by omega
    rw [hi] at ih
    refine g_X10_age_18 d E At Q hE hC (va_up I 63 (zma num g ba i.toNatClampNeg)) J c i (show _ = zma num g ba i.toNatClampNeg from rfl) e76 e13 e45 (fun _ => hbi) (fun _ _ => hbi) (fun _ _ => hbi) (fun _ _ => hbi) (fun q1 q2 => ?_) (fun q1 q2 => ?_) (fun q => absurd h1 (by clear hE hC hQ ih; grind))
    · rw [zma_0 q2, ← zuu (v := zma num g ba i.toNatClampNeg)] at ih
      exact ih
    · rw [zma_1 q2, ← zuu (v := zma num g ba i.toNatClampNeg)] at ih
      exact ih
set_option maxHeartbeats 2000000 in
theorem w_age10 (d : Nat) (I : Nat → Nat → Int32) (J : Nat → Nat → Int64) (Q : Option Value → zM → Prop) {n room num : Int32} {go ba rc di pr re : Nat → Int32} (e50 : I 50 = re) (e52 : I 52 = pr) (e57 : I 57 = di) (e60 : I 60 = go) (e63 : I 63 = ba) (e13 : I 46 13 = n) (e44 : I 46 44 = room) (e45 : I 46 45 = num) (hn : 0 ≤ n ∧ n ≤ 200) (hb : ∀ i : Int32, 0 ≤ i → i < n → (0 ≤ di i.toNatClampNeg ∧ di i.toNatClampNeg < 12) ∧ (0 ≤ pr (di i.toNatClampNeg).toNatClampNeg ∧ pr (di i.toNatClampNeg).toNatClampNeg < 8) ∧ re (pr (di i.toNatClampNeg).toNatClampNeg).toNatClampNeg = rc i.toNatClampNeg) (l0 : zfw go ba (fun _ => 0) n.toNatClampNeg 0 = -1 → ∀ g : Nat → Int32, Q (some (.int (-3))) (va_up I 76 g, J, zR, 81)) (l1 : ¬ zfw go ba (fun _ => 0) n.toNatClampNeg 0 = -1 → ∀ g : Nat → Int32, Q (some (.int (zfo go ba rc (rc (zfw go ba (fun _ => 0) n.toNatClampNeg 0).toNatClampNeg) room (n.toNatClampNeg - (zfw go ba (fun _ => 0) n.toNatClampNeg 0).toNatClampNeg) (zfw go ba (fun _ => 0) n.toNatClampNeg 0) 0 0 (fun _ => 0)).1)) (zwI (va_up (va_up I 76 g) 63 (zmg num (zfo go ba rc (rc (zfw go ba (fun _ => 0) n.toNatClampNeg 0).toNatClampNeg) room (n.toNatClampNeg - (zfw go ba (fun _ => 0) n.toNatClampNeg 0).toNatClampNeg) (zfw go ba (fun _ => 0) n.toNatClampNeg 0) 0 0 (fun _ => 0)).2 ba), J, zR, 81) 46 45 (num + 1))) : zT (d + 3) 130 81 [.ref 46] (I, J, zR, 81) Q := by
  refine ⟨rfl, fun E At hE hC => ?_⟩
  replace hC : ∀ pc st L M', zX 81 E Q At (zlk B_X10_age pc) st L M' → At pc st L M' := hC
  refine hC 0 [] [some (.ref 46), none, none] _ ?_
  refine hE _ _ _ _ _ (w_noneGone (d + 1) I J _ (fun g hg => ?_))
  have hz : zfw go ba g n.toNatClampNeg 0 = zfw go ba (fun _ => 0) n.toNatClampNeg 0 := zfw_cg hn hg n.toNatClampNeg 0 (by decide) (Nat.zero_add _).symm
  refine hE _ _ _ _ _ (w_takes d (va_up I 76 g) J _ e50 e52 e57 e60 e63 (show _ = g from rfl) e13 e44 hn hb (fun q => ?_) (fun q => ?_))
  · refine And.intro (fun qz => absurd rfl qz) (fun _ => ?_)
    exact l0 (hz ▸ q) g
  · rw [hz] at q ⊢
    have l2 := l1 q
    clear l0 l1
    generalize hF : zfw go ba (fun _ => 0) n.toNatClampNeg 0 = f at l2 q hz ⊢
    rcases zfw_in (go := go) (ba := ba) (g := fun _ => 0) hn n.toNatClampNeg 0 (by decide) (Nat.zero_add _).symm with z | ⟨z1, z2, z3, z4⟩
    · rw [hF] at z; exact absurd z q
    · rw [hF] at z1 z2 z3
      have hf1 := (zlt_nat z1.1 hn.1).mp z1.2
      have hcg := zfo_cg (go := go) (ba := ba) (rc := rc) (f := rc f.toNatClampNeg) (oven := room) hn (n.toNatClampNeg - f.toNatClampNeg) f 0 0 g (fun _ => 0) z1.1 (by omega) hg
      have hhi := zfo_hi (go := go) (ba := ba) (rc := rc) (f := rc f.toNatClampNeg) (oven := room) hn (n.toNatClampNeg - f.toNatClampNeg) f 0 0 (fun _ => 0) z1.1 (by omega) ⟨by decide, z1.1⟩
      have hps := zfo_pos (go := go) (ba := ba) (rc := rc) (oven := room) (g := g) hn z1 z2 z3 (hg _ (zlt200 z1.1 hn z1.2))
      have hn2 : n.toNatClampNeg ≤ 200 := (zle_nat hn.1 (by decide)).mp hn.2
      have hfun : zma num (zfo go ba rc (rc f.toNatClampNeg) room (n.toNatClampNeg - f.toNatClampNeg) f 0 0 g).2 ba n.toNatClampNeg = zmg num (zfo go ba rc (rc f.toNatClampNeg) room (n.toNatClampNeg - f.toNatClampNeg) f 0 0 (fun _ => 0)).2 ba := by
        funext j
        unfold zma zmg
        by_cases w : j < n.toNatClampNeg
        · rw [hcg.2 j (by omega)]
          by_cases y : (zfo go ba rc (rc f.toNatClampNeg) room (n.toNatClampNeg - f.toNatClampNeg) f 0 0 (fun _ => 0)).2 j = 0
          · rw [if_neg (fun v => v.2 y), if_pos y]
          · rw [if_pos ⟨w, y⟩, if_neg y]
        · rw [if_neg (fun v => w v.1), if_pos (hhi.1 j (by omega))]
      have ha := fun h => g_age10 (d + 2) E At Q hE hC (va_up (va_up I 76 g) 76 (zfo go ba rc (rc f.toNatClampNeg) room (n.toNatClampNeg - f.toNatClampNeg) f 0 0 g).2) J n num (zfo go ba rc (rc f.toNatClampNeg) room (n.toNatClampNeg - f.toNatClampNeg) f 0 0 g).1 ba (zfo go ba rc (rc f.toNatClampNeg) room (n.toNatClampNeg - f.toNatClampNeg) f 0 0 g).2 rfl e13 e45 hn h n.toNatClampNeg 0 (by decide) (Nat.zero_add _).symm
      refine And.intro (fun _ => ?_) (fun qz => absurd qz (by clear hE hC l2 hb hcg hhi ha hg; grind))
      refine hC 16 [] [some (.ref 46), some (.int (zfo go ba rc (rc f.toNatClampNeg) room (n.toNatClampNeg - f.toNatClampNeg) f 0 0 g).1), none] _ ?_
      have e9 : zma num (zfo go ba rc (rc f.toNatClampNeg) room (n.toNatClampNeg - f.toNatClampNeg) f 0 0 g).2 ba (0 : Int32).toNatClampNeg = ba := zma_z
      rw [e9, hfun, hcg.1] at ha
      have e8 : va_up (va_up (va_up I 76 g) 76 (zfo go ba rc (rc f.toNatClampNeg) room (n.toNatClampNeg - f.toNatClampNeg) f 0 0 g).2) 63 ba = va_up (va_up I 76 g) 76 (zfo go ba rc (rc f.toNatClampNeg) room (n.toNatClampNeg - f.toNatClampNeg) f 0 0 g).2 := zup_same (show _ = ba from e63)
      rw [e8, zuu] at ha
      rw [hcg.1, zuu]
      exact ha (l2 _)
theorem zRbb {I : Nat → Nat → Int32} {J : Nat → Nat → Int64} (hR : zRel I J) : ∀ i : Int32, 0 ≤ i → i < I 22 10 → (0 ≤ I 23 i.toNatClampNeg ∧ I 23 i.toNatClampNeg < 12) ∧ (0 ≤ I 11 (I 23 i.toNatClampNeg).toNatClampNeg ∧ I 11 (I 23 i.toNatClampNeg).toNatClampNeg < 8) ∧ I 4 (I 11 (I 23 i.toNatClampNeg).toNatClampNeg).toNatClampNeg = I 30 i.toNatClampNeg := by
  obtain ⟨hp, hd, ho, hl, hb, hk, hq, ha, hs, hj, hc, hh, ht⟩ := hR
  intro i h1 h2
  obtain ⟨q1, q2, q3, q4⟩ := hb.2.2.2 i h1 h2
  have q5 := hd.2.2.2.1 _ q1.1 q1.2
  have p2 := hp.2.1
  have d2 := hd.2.1
  exact ⟨⟨q1.1, by clear hp hd ho hl hb hk hq ha hs hj hc hh ht; grind⟩, ⟨q5.1, by clear hp hd ho hl hb hk hq ha hs hj hc hh ht; grind⟩, q2.symm⟩
set_option maxHeartbeats 2000000 in
theorem op_age (I : Nat → Nat → Int32) (J : Nat → Nat → Int64) (hR : zRel I J) (Q : Option Value → zM → Prop) (h : ∀ r I1 J1, (∀ Q' : Option Value → zM → Prop, (∀ I2 J2, zRel I2 J2 → Q' (some (.int r)) (I2, J2, zR, 81)) → zT 60 130 81 [.ref 46] (I1, J1, zR, 81) Q') → Q (some (.int r)) (I1, J1, zR, 81)) : zT 60 75 81 [.ref 0] (I, J, zR, 81) Q := by
  have hbb := zRbb hR
  obtain ⟨hp, hd, ho, hl, hb, hk, hq, ha, hs, hj, hc, hh, ht⟩ := id hR
  have b2 := hb.2.1
  refine ⟨rfl, fun E At hE hC => ?_⟩
  replace hC : ∀ pc st L M', zX 81 E Q At (zlk B_X9_age pc) st L M' → At pc st L M' := hC
  refine hC 0 [] [some (.ref 0), none, none] _ ?_
  refine hE _ _ _ _ _ (w_firstWaiting 57 I J _ b2 ?_)
  refine And.intro (fun q => ?_) (fun q => ?_)
  · refine hC 16 [] [some (.ref 0), some (.int (zfw (I 26) (I 29) (fun _ => 0) (I 22 10).toNatClampNeg 0)), none] _ ?_
    have hz : 0 ≤ zfw (I 26) (I 29) (fun _ => 0) (I 22 10).toNatClampNeg 0 ∧ zfw (I 26) (I 29) (fun _ => 0) (I 22 10).toNatClampNeg 0 < I 22 10 := by
      rcases zfw_in (go := I 26) (ba := I 29) (g := fun _ => 0) b2 (I 22 10).toNatClampNeg 0 (by decide) (Nat.zero_add _).symm with z | ⟨z1, z2, z3, z4⟩
      · exact absurd z q
      · exact z1
    refine hE _ _ _ _ _ (w_fillOven 57 I J _ b2 _ _ _ hz ?_)
    refine h _ _ _ (fun Q' hQ => w_age10 57 _ J Q' (re := I 4) (pr := I 11) (di := I 23) (go := I 26) (ba := I 29) (rc := I 30) (n := I 22 10) (room := I 0 13) (num := I 0 14) hp.2.2.1.2.2.1 hd.2.2.1.1 hb.2.2.1.1 hb.2.2.1.2.2.2.1 hb.2.2.1.2.2.2.2.2.2 hb.1 ht.2.1 ht.2.2.2 b2 hbb (fun z => absurd z q) (fun _ g => hQ _ _ ?_))
    exact ⟨hp, hd, ho, hl, ⟨hb.1, hb.2.1, ⟨hb.2.2.1.1, hb.2.2.1.2.1, hb.2.2.1.2.2.1, hb.2.2.1.2.2.2.1, hb.2.2.1.2.2.2.2.1, hb.2.2.1.2.2.2.2.2.1, rfl⟩, hb.2.2.2⟩, hk, hq, ha, hs, hj, hc, hh, ⟨ht.1, ht.2.1, ht.2.2.1, rfl⟩⟩
  · exact h _ _ _ (fun Q' hQ => w_age10 57 I J Q' (re := I 4) (pr := I 11) (di := I 23) (go := I 26) (ba := I 29) (rc := I 30) (n := I 22 10) (room := I 0 13) (num := I 0 14) hp.2.2.1.2.2.1 hd.2.2.1.1 hb.2.2.1.1 hb.2.2.1.2.2.2.1 hb.2.2.1.2.2.2.2.2.2 hb.1 ht.2.1 ht.2.2.2 b2 hbb (fun _ g => hQ _ _ hR) (fun z => absurd q z))
