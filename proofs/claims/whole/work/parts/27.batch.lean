set_option maxHeartbeats 2000000 in
theorem g_ovens (d : Nat) (E : zE) (At : Nat → zC) (Q : Option Value → zM → Prop) (hE : ∀ y n a M' Q', zT (d + 1) y n a M' Q' → E y n a M' Q') (hC : ∀ pc st L M', zX 81 E Q At (zlk B_X1_ovensNeeded pc) st L M' → At pc st L M') (I : Nat → Nat → Int32) (J : Nat → Nat → Int64) (hn : 0 ≤ I 22 10 ∧ I 22 10 ≤ 200) (f oven : Int32) : ∀ (r : Nat) (i o s : Int32), 0 ≤ i → (I 22 10).toNatClampNeg = i.toNatClampNeg + r → Q (some (.int (zov (I 26) (I 29) (I 30) (fun _ => 0) f oven r i o s))) (I, J, zR, 81) → At 8 [] [some (.ref 22), some (.int f), some (.int oven), some (.int o), some (.int s), some (.int i)] (I, J, zR, 81)
  | 0, i, o, s, h0, hr, hQ => by
    have hl : I 22 10 ≤ i := zlast h0 hn.1 hr
    exact g_X1_ovensNeeded_8 d E At Q hE hC I J f oven o s i rfl rfl rfl rfl (fun q => absurd hl q) (fun q => absurd hl q) (fun q => absurd hl q) (fun q => absurd hl q) (fun q => absurd hl q) (fun q => absurd hl q) (fun q => absurd hl q) (fun q => absurd hl q) (fun q => absurd hl q) (fun q => absurd hl q) (fun q => absurd hl q) (fun q => absurd hl q) (fun q => absurd hl q) (fun _ => hQ)
  | r + 1, i, o, s, h0, hr, hQ => by
    obtain ⟨h1, h2, h3⟩ := znext h0 (by clear hE hC hQ; grind) hr
    have hbi : 0 ≤ i ∧ i < 200 := by clear hE hC hQ; grind
    refine g_X1_ovensNeeded_8 d E At Q hE hC I J f oven o s i rfl rfl rfl rfl (fun _ => hbi) (fun _ _ => hbi) (fun _ _ _ => hbi) (fun _ _ _ _ _ => hbi) (fun _ _ _ _ _ => hbi) (fun _ _ _ _ _ _ => hbi) (fun _ _ _ _ _ _ => hbi) (fun q1 q2 => ?_) (fun q1 q2 q3 => ?_) (fun q1 q2 q3 q4 q5 => ?_) (fun q1 q2 q3 q4 q5 q6 => ?_) (fun q1 q2 q3 q4 q5 q6 => ?_) (fun q1 q2 q3 q4 => ?_) (fun q => absurd h1 (by clear hE hC hQ; grind))
    · rw [zov_skip (Or.inl q2)] at hQ; exact g_ovens d E At Q hE hC I J hn f oven r (i + 1) _ _ h2 h3 hQ
    · rw [zov_skip (Or.inr (Or.inl q3))] at hQ; exact g_ovens d E At Q hE hC I J hn f oven r (i + 1) _ _ h2 h3 hQ
    · rw [zov_new q2 q3 rfl q4 (Or.inl q5)] at hQ; exact g_ovens d E At Q hE hC I J hn f oven r (i + 1) _ _ h2 h3 hQ
    · rw [zov_add q2 q3 rfl q4 q5 q6] at hQ; exact g_ovens d E At Q hE hC I J hn f oven r (i + 1) _ _ h2 h3 hQ
    · rw [zov_new q2 q3 rfl q4 (Or.inr q6)] at hQ; exact g_ovens d E At Q hE hC I J hn f oven r (i + 1) _ _ h2 h3 hQ
    · rw [zov_skip (Or.inr (Or.inr (Or.inr q4)))] at hQ; exact g_ovens d E At Q hE hC I J hn f oven r (i + 1) _ _ h2 h3 hQ
theorem w_ovens (d : Nat) (I : Nat → Nat → Int32) (J : Nat → Nat → Int64) (Q : Option Value → zM → Prop) (hn : 0 ≤ I 22 10 ∧ I 22 10 ≤ 200) (f oven : Int32) (l : Q (some (.int (zov (I 26) (I 29) (I 30) (fun _ => 0) f oven (I 22 10).toNatClampNeg 0 0 0))) (I, J, zR, 81)) : zT (d + 2) 10 81 [.ref 22, .int f, .int oven] (I, J, zR, 81) Q :=
  ⟨rfl, fun E At hE hC => g_X1_ovensNeeded_0 (d + 1) E At Q hE hC I J f oven (g_ovens d E At Q hE hC I J hn f oven _ 0 0 0 (by decide) (Nat.zero_add _).symm l)⟩
def zovs (go ba rc g : Nat → Int32) (oven n : Int32) : Int32 := 0 + zov go ba rc g 0 oven n.toNatClampNeg 0 0 0 + zov go ba rc g (0 + 1) oven n.toNatClampNeg 0 0 0 + zov go ba rc g (0 + 1 + 1) oven n.toNatClampNeg 0 0 0 + zov go ba rc g (0 + 1 + 1 + 1) oven n.toNatClampNeg 0 0 0
theorem zovs_cg {go ba rc g g' : Nat → Int32} {oven n : Int32} (hn : 0 ≤ n ∧ n ≤ 200) (h : ∀ j, j < 200 → g j = g' j) : zovs go ba rc g oven n = zovs go ba rc g' oven n := by
  have k : ∀ f, zov go ba rc g f oven n.toNatClampNeg 0 0 0 = zov go ba rc g' f oven n.toNatClampNeg 0 0 0 := fun f => zov_cg hn _ 0 0 0 (by decide) (Nat.zero_add _).symm (fun j _ q _ => h j q)
  unfold zovs
  rw [k, k, k, k]
theorem zovs_b {go ba rc g : Nat → Int32} {oven n : Int32} (hn : 0 ≤ n ∧ n ≤ 200) : 0 ≤ zovs go ba rc g oven n ∧ zovs go ba rc g oven n ≤ 800 := by
  have k : ∀ f, 0 ≤ zov go ba rc g f oven n.toNatClampNeg 0 0 0 ∧ zov go ba rc g f oven n.toNatClampNeg 0 0 0 ≤ n := fun f => zov_b hn _ 0 0 0 (by decide) (Nat.zero_add _).symm (by decide)
  have k0 := k 0
  have k1 := k (0 + 1)
  have k2 := k (0 + 1 + 1)
  have k3 := k (0 + 1 + 1 + 1)
  unfold zovs
  clear k
  generalize zov go ba rc g 0 oven n.toNatClampNeg 0 0 0 = a at *
  generalize zov go ba rc g (0 + 1) oven n.toNatClampNeg 0 0 0 = b at *
  generalize zov go ba rc g (0 + 1 + 1) oven n.toNatClampNeg 0 0 0 = c at *
  generalize zov go ba rc g (0 + 1 + 1 + 1) oven n.toNatClampNeg 0 0 0 = e at *
  grind
theorem zovs_step {go ba rc g : Nat → Int32} {oven n : Int32} (hn : 0 ≤ n ∧ n ≤ 200) (hr : ∀ i : Int32, 0 ≤ i → i < n → 0 ≤ rc i.toNatClampNeg ∧ rc i.toNatClampNeg ≤ 3) (hne : ¬ zfw go ba g n.toNatClampNeg 0 = -1) : zovs go ba rc (zfo go ba rc (rc (zfw go ba g n.toNatClampNeg 0).toNatClampNeg) oven (n.toNatClampNeg - (zfw go ba g n.toNatClampNeg 0).toNatClampNeg) (zfw go ba g n.toNatClampNeg 0) 0 0 g).2 oven n + 1 = zovs go ba rc g oven n := by
  have k1 := (zov_first (go := go) (ba := ba) (rc := rc) (oven := oven) hn g n.toNatClampNeg 0 (by decide) (Nat.zero_add _).symm hne).1
  rcases zfw_in (go := go) (ba := ba) (g := g) hn n.toNatClampNeg 0 (by decide) (Nat.zero_add _).symm with z | ⟨z1, z2, z3, z4⟩
  · exact absurd z hne
  have hr4 := hr _ z1.1 z1.2
  generalize hG : (zfo go ba rc (rc (zfw go ba g n.toNatClampNeg 0).toNatClampNeg) oven (n.toNatClampNeg - (zfw go ba g n.toNatClampNeg 0).toNatClampNeg) (zfw go ba g n.toNatClampNeg 0) 0 0 g).2 = g' at k1 ⊢
  have k : ∀ f, ¬ f = rc (zfw go ba g n.toNatClampNeg 0).toNatClampNeg → zov go ba rc g' f oven n.toNatClampNeg 0 0 0 = zov go ba rc g f oven n.toNatClampNeg 0 0 0 := fun f hf => zov_cg hn _ 0 0 0 (by decide) (Nat.zero_add _).symm (fun j _ _ q => by
    rw [← hG]
    exact zfo_rc j (fun z => hf (q.symm.trans z)) _ _ _ _ _)
  generalize rc (zfw go ba g n.toNatClampNeg 0).toNatClampNeg = F at *
  have h9 : F = 0 ∨ F = 1 ∨ F = 2 ∨ F = 3 := by clear k k1 hr hG z4; grind
  unfold zovs
  rcases h9 with rfl | rfl | rfl | rfl
  · rw [← k1, k (0 + 1) (by decide), k (0 + 1 + 1) (by decide), k (0 + 1 + 1 + 1) (by decide)]
    clear k k1 hr hG z4
    grind
  · have k2 : zov go ba rc g' (0 + 1) oven n.toNatClampNeg 0 0 0 + 1 = zov go ba rc g (0 + 1) oven n.toNatClampNeg 0 0 0 := k1
    rw [← k2, k 0 (by decide), k (0 + 1 + 1) (by decide), k (0 + 1 + 1 + 1) (by decide)]
    clear k k1 hr hG z4
    grind
  · have k2 : zov go ba rc g' (0 + 1 + 1) oven n.toNatClampNeg 0 0 0 + 1 = zov go ba rc g (0 + 1 + 1) oven n.toNatClampNeg 0 0 0 := k1
    rw [← k2, k 0 (by decide), k (0 + 1) (by decide), k (0 + 1 + 1 + 1) (by decide)]
    clear k k1 hr hG z4
    grind
  · have k2 : zov go ba rc g' (0 + 1 + 1 + 1) oven n.toNatClampNeg 0 0 0 + 1 = zov go ba rc g (0 + 1 + 1 + 1) oven n.toNatClampNeg 0 0 0 := k1
    rw [← k2, k 0 (by decide), k (0 + 1) (by decide), k (0 + 1 + 1) (by decide)]
    clear k k1 hr hG z4
    grind
theorem zovs_0 {go ba rc g : Nat → Int32} {oven n : Int32} (hn : 0 ≤ n ∧ n ≤ 200) (h : zfw go ba g n.toNatClampNeg 0 = -1) : zovs go ba rc g oven n = 0 := by
  have k : ∀ f, zov go ba rc g f oven n.toNatClampNeg 0 0 0 = 0 := fun f => zov_zero hn _ 0 0 0 (by decide) (Nat.zero_add _).symm h
  unfold zovs
  rw [k, k, k, k]
  rfl
theorem g_batches10 (d : Nat) (E : zE) (At : Nat → zC) (Q : Option Value → zM → Prop) (hE : ∀ y n a M' Q', zT (d + 2) y n a M' Q' → E y n a M' Q') (hC : ∀ pc st L M', zX 81 E Q At (zlk B_X10_batches pc) st L M' → At pc st L M') (I : Nat → Nat → Int32) (J : Nat → Nat → Int64) (n room : Int32) (go ba rc di pr re : Nat → Int32) (e50 : I 50 = re) (e52 : I 52 = pr) (e57 : I 57 = di) (e60 : I 60 = go) (e63 : I 63 = ba) (e13 : I 46 13 = n) (e44 : I 46 44 = room) (hn : 0 ≤ n ∧ n ≤ 200) (hb : ∀ i : Int32, 0 ≤ i → i < n → (0 ≤ di i.toNatClampNeg ∧ di i.toNatClampNeg < 12) ∧ (0 ≤ pr (di i.toNatClampNeg).toNatClampNeg ∧ pr (di i.toNatClampNeg).toNatClampNeg < 8) ∧ re (pr (di i.toNatClampNeg).toNatClampNeg).toNatClampNeg = rc i.toNatClampNeg) (hr : ∀ i : Int32, 0 ≤ i → i < n → 0 ≤ rc i.toNatClampNeg ∧ rc i.toNatClampNeg ≤ 3) : ∀ (k : Nat) (c : Int32) (g : Nat → Int32), (zovs go ba rc g room n).toNatClampNeg ≤ k → (∀ g' : Nat → Int32, Q (some (.int (c + zovs go ba rc g room n))) (va_up I 76 g', J, zR, 81)) → At 6 [] [some (.ref 46), some (.int c)] (va_up I 76 g, J, zR, 81) := by
  intro k
  induction k with
  | zero =>
    intro c g hk hQ
    have hz : zfw go ba g n.toNatClampNeg 0 = -1 := Classical.byContradiction fun q => by
      have s := zovs_step (oven := room) (rc := rc) hn hr q
      have b1 := zovs_b (go := go) (ba := ba) (rc := rc) (g := (zfo go ba rc (rc (zfw go ba g n.toNatClampNeg 0).toNatClampNeg) room (n.toNatClampNeg - (zfw go ba g n.toNatClampNeg 0).toNatClampNeg) (zfw go ba g n.toNatClampNeg 0) 0 0 g).2) (oven := room) hn
      have b2 : zovs go ba rc g room n = 0 := zinj (zovs_b hn).1 (by decide) (Nat.le_zero.mp hk)
      rw [b2] at s
      clear hQ hC hE hb hr
      grind
    refine hC 6 [] [some (.ref 46), some (.int c)] _ ?_
    refine hE _ _ _ _ _ (w_takes d (va_up I 76 g) J _ e50 e52 e57 e60 e63 (show _ = g from rfl) e13 e44 hn hb (fun q => ?_) (fun q => absurd hz q))
    refine And.intro (fun _ => ?_) (fun qz => absurd (by decide) qz)
    refine hC 19 [] [some (.ref 46), some (.int c)] _ ?_
    have := hQ g
    rw [zovs_0 hn hz, Int32.add_zero] at this
    exact this
  | succ k ih =>
    intro c g hk hQ
    refine hC 6 [] [some (.ref 46), some (.int c)] _ ?_
    refine hE _ _ _ _ _ (w_takes d (va_up I 76 g) J _ e50 e52 e57 e60 e63 (show _ = g from rfl) e13 e44 hn hb (fun q => ?_) (fun q => ?_))
    · refine And.intro (fun _ => ?_) (fun qz => absurd (by decide) qz)
      refine hC 19 [] [some (.ref 46), some (.int c)] _ ?_
      have := hQ g
      rw [zovs_0 hn q, Int32.add_zero] at this
      exact this
    · have s := zovs_step (oven := room) (rc := rc) hn hr q
      have b1 := zovs_b (go := go) (ba := ba) (rc := rc) (g := (zfo go ba rc (rc (zfw go ba g n.toNatClampNeg 0).toNatClampNeg) room (n.toNatClampNeg - (zfw go ba g n.toNatClampNeg 0).toNatClampNeg) (zfw go ba g n.toNatClampNeg 0) 0 0 g).2) (oven := room) hn
      have b2 := zovs_b (go := go) (ba := ba) (rc := rc) (g := g) (oven := room) hn
      have hps : 1 ≤ (zfo go ba rc (rc (zfw go ba g n.toNatClampNeg 0).toNatClampNeg) room (n.toNatClampNeg - (zfw go ba g n.toNatClampNeg 0).toNatClampNeg) (zfw go ba g n.toNatClampNeg 0) 0 0 g).1 := by
        rcases zfw_in (go := go) (ba := ba) (g := g) hn n.toNatClampNeg 0 (by decide) (Nat.zero_add _).symm with z | ⟨z1, z2, z3, z4⟩
        · exact absurd z q
        · exact zfo_pos hn z1 z2 z3 z4
      refine And.intro (fun qz => absurd hps (by clear hQ hC hE hb hr ih s b1 b2; grind)) (fun _ => ?_)
      have e := ih (c + 1) (zfo go ba rc (rc (zfw go ba g n.toNatClampNeg 0).toNatClampNeg) room (n.toNatClampNeg - (zfw go ba g n.toNatClampNeg 0).toNatClampNeg) (zfw go ba g n.toNatClampNeg 0) 0 0 g).2 (by
        have lt : zovs go ba rc (zfo go ba rc (rc (zfw go ba g n.toNatClampNeg 0).toNatClampNeg) room (n.toNatClampNeg - (zfw go ba g n.toNatClampNeg 0).toNatClampNeg) (zfw go ba g n.toNatClampNeg 0) 0 0 g).2 room n < zovs go ba rc g room n := by
          clear hQ hC hE hb hr ih hps
          grind
        have := (zlt_nat b1.1 b2.1).mp lt
        omega) (fun g' => by
        have := hQ g'
        rw [← s] at this
        have e2 : c + 1 + zovs go ba rc (zfo go ba rc (rc (zfw go ba g n.toNatClampNeg 0).toNatClampNeg) room (n.toNatClampNeg - (zfw go ba g n.toNatClampNeg 0).toNatClampNeg) (zfw go ba g n.toNatClampNeg 0) 0 0 g).2 room n = c + (zovs go ba rc (zfo go ba rc (rc (zfw go ba g n.toNatClampNeg 0).toNatClampNeg) room (n.toNatClampNeg - (zfw go ba g n.toNatClampNeg 0).toNatClampNeg) (zfw go ba g n.toNatClampNeg 0) 0 0 g).2 room n + 1) := by
          clear hQ hC hE hb hr ih hps this s
          grind
        rw [e2]
        exact this)
      rw [← zuu (v := g)] at e
      exact e
theorem w_batches10 (d : Nat) (I : Nat → Nat → Int32) (J : Nat → Nat → Int64) (Q : Option Value → zM → Prop) {n room : Int32} {go ba rc di pr re : Nat → Int32} (e50 : I 50 = re) (e52 : I 52 = pr) (e57 : I 57 = di) (e60 : I 60 = go) (e63 : I 63 = ba) (e13 : I 46 13 = n) (e44 : I 46 44 = room) (hn : 0 ≤ n ∧ n ≤ 200) (hb : ∀ i : Int32, 0 ≤ i → i < n → (0 ≤ di i.toNatClampNeg ∧ di i.toNatClampNeg < 12) ∧ (0 ≤ pr (di i.toNatClampNeg).toNatClampNeg ∧ pr (di i.toNatClampNeg).toNatClampNeg < 8) ∧ re (pr (di i.toNatClampNeg).toNatClampNeg).toNatClampNeg = rc i.toNatClampNeg) (hr : ∀ i : Int32, 0 ≤ i → i < n → 0 ≤ rc i.toNatClampNeg ∧ rc i.toNatClampNeg ≤ 3) (l : ∀ g : Nat → Int32, Q (some (.int (zovs go ba rc (fun _ => 0) room n))) (va_up I 76 g, J, zR, 81)) : zT (d + 3) 131 81 [.ref 46] (I, J, zR, 81) Q := by
  refine ⟨rfl, fun E At hE hC => ?_⟩
  replace hC : ∀ pc st L M', zX 81 E Q At (zlk B_X10_batches pc) st L M' → At pc st L M' := hC
  refine hC 0 [] [some (.ref 46), none] _ ?_
  refine hE _ _ _ _ _ (w_noneGone (d + 1) I J _ (fun g hg => ?_))
  refine g_batches10 d E At Q hE hC I J n room go ba rc di pr re e50 e52 e57 e60 e63 e13 e44 hn hb hr _ 0 g (Nat.le_refl _) (fun g' => ?_)
  rw [Int32.zero_add, zovs_cg hn hg]
  exact l g'
theorem op_batches (I : Nat → Nat → Int32) (J : Nat → Nat → Int64) (hR : zRel I J) (Q : Option Value → zM → Prop) (h : ∀ r I1 J1, (∀ Q' : Option Value → zM → Prop, (∀ I2 J2, zRel I2 J2 → Q' (some (.int r)) (I2, J2, zR, 81)) → zT 60 131 81 [.ref 46] (I1, J1, zR, 81) Q') → Q (some (.int r)) (I1, J1, zR, 81)) : zT 60 76 81 [.ref 0] (I, J, zR, 81) Q := by
  have hbb := zRbb hR
  obtain ⟨hp, hd, ho, hl, hb, hk, hq, ha, hs, hj, hc, hh, ht⟩ := id hR
  have b2 := hb.2.1
  have hr4 : ∀ i : Int32, 0 ≤ i → i < I 22 10 → 0 ≤ I 30 i.toNatClampNeg ∧ I 30 i.toNatClampNeg ≤ 3 := fun i h1 h2 => by
    obtain ⟨q1, q2, q3, q4⟩ := hb.2.2.2 i h1 h2
    have q5 := hd.2.2.2.1 _ q1.1 q1.2
    rw [q2]
    exact (hp.2.2.2 _ q5.1 q5.2).2.2.1
  refine ⟨rfl, fun E At hE hC => ?_⟩
  replace hC : ∀ pc st L M', zX 81 E Q At (zlk B_X9_batches pc) st L M' → At pc st L M' := hC
  have step : ∀ x k : Int32, ¬ 4 ≤ k → At 4 [] [some (.ref 0), some (.int (x + zov (I 26) (I 29) (I 30) (fun _ => 0) k (I 0 13) (I 22 10).toNatClampNeg 0 0 0)), some (.int (k + 1))] (I, J, zR, 81) → At 4 [] [some (.ref 0), some (.int x), some (.int k)] (I, J, zR, 81) := fun x k hk hA => by
    refine hC 4 [] [some (.ref 0), some (.int x), some (.int k)] _ ?_
    refine And.intro (fun qz => absurd qz hk) (fun _ => ?_)
    exact hE _ _ _ _ _ (w_ovens 57 I J _ b2 k (I 0 13) hA)
  refine hC 0 [] [some (.ref 0), none, none] _ ?_
  refine step 0 0 (by decide) (step _ _ (by decide) (step _ _ (by decide) (step _ _ (by decide) ?_)))
  refine hC 4 [] [some (.ref 0), some (.int (zovs (I 26) (I 29) (I 30) (fun _ => 0) (I 0 13) (I 22 10))), some (.int (0 + 1 + 1 + 1 + 1))] _ ?_
  refine And.intro (fun _ => ?_) (fun qz => absurd (by decide) qz)
  refine hC 30 [] [some (.ref 0), some (.int (zovs (I 26) (I 29) (I 30) (fun _ => 0) (I 0 13) (I 22 10))), some (.int (0 + 1 + 1 + 1 + 1))] _ ?_
  exact h _ _ _ (fun Q' hQ => w_batches10 57 I J Q' (re := I 4) (pr := I 11) (di := I 23) (go := I 26) (ba := I 29) (rc := I 30) (n := I 22 10) (room := I 0 13) hp.2.2.1.2.2.1 hd.2.2.1.1 hb.2.2.1.1 hb.2.2.1.2.2.2.1 hb.2.2.1.2.2.2.2.2.2 hb.1 ht.2.1 b2 hbb hr4 (fun g => hQ _ _ hR))
