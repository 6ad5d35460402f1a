set_option maxHeartbeats 4000000 in
theorem w_digest10 (I : Nat → Nat → Int32) (J : Nat → Nat → Int64) (hR : zRel I J) (Q : Option Value → zM → Prop) (h : ∀ g : Nat → Int32, Q (some (.long (zdg I))) (va_up I 76 g, J, zR, 81)) : zT 60 147 81 [.ref 46] (I, J, zR, 81) Q := by
  obtain ⟨hp, hd, ho, hl, hb, hk, hq, ha, hs, hj, hc, hh, ht⟩ := id hR
  have p1 : I 46 1 = I 1 4 := hp.1
  have d1 : I 46 6 = I 10 5 := hd.1
  have b1 : I 46 13 = I 22 10 := hb.1
  have o1 : I 66 = I 7 := ho.1.1
  have o3 : I 68 = I 9 := ho.1.2.2
  have p2 := hp.2.1
  have d2 := hd.2.1
  have b2 := hb.2.1
  have o2 := ho.2.1
  refine ⟨rfl, fun E At hE hC => ?_⟩
  replace hC : ∀ pc st L M', zX 81 E Q At (zlk B_X10_digest pc) st L M' → At pc st L M' := hC
  have oin : ∀ (g : Nat → Int32) (p : Int32) (hp1 : 0 ≤ p ∧ p < I 1 4) (r : Nat) (o : Int32) (x : Int64), 0 ≤ o → (I 7 p.toNatClampNeg).toNatClampNeg = o.toNatClampNeg + r → (∀ j : Int32, At 210 [] [some (.ref 46), some (.long (zdO (I 9) p r o x)), none, some (.int (p)), some (.int j)] (va_up I 76 g, J, zR, 81)) → At 174 [] [some (.ref 46), some (.long (x)), none, some (.int (p)), some (.int o)] (va_up I 76 g, J, zR, 81) := by
    intro g p hp1 r
    have q3 := o2 p.toNatClampNeg
    have hp8 : 0 ≤ p ∧ p < 8 := by clear hE hC hR hp hd ho hl hb hk hq ha hs hj hc hh ht h; grind
    induction r with
    | zero =>
      intro o x h0 hr hA
      have hl2 : I 66 p.toNatClampNeg ≤ o := by rw [o1]; exact zlast h0 q3.1 hr
      refine hC 174 [] [some (.ref 46), some (.long (x)), none, some (.int (p)), some (.int o)] _ ?_
      refine And.intro (zvp hp8 rfl) ?_
      exact And.intro (fun _ => hA o) (fun qz => absurd hl2 qz)
    | succ r ih =>
      intro o x h0 hr hA
      obtain ⟨h1, h2, h3⟩ := znext h0 (n := I 7 p.toNatClampNeg) (by clear hE hC hR hp hd ho hl hb hk hq ha hs hj hc hh ht h ih hA o2; grind) hr
      have hno : ¬ I 66 p.toNatClampNeg ≤ o := by rw [o1]; clear hE hC hR hp hd ho hl hb hk hq ha hs hj hc hh ht h ih hA o2; grind
      have c2 : 0 ≤ o ∧ o ≤ 2 := by clear hE hC hR hp hd ho hl hb hk hq ha hs hj hc hh ht h ih hA o2; grind
      refine hC 174 [] [some (.ref 46), some (.long (x)), none, some (.int (p)), some (.int o)] _ ?_
      refine And.intro (zvp hp8 rfl) ?_
      refine And.intro (fun qz => absurd qz hno) (fun _ => ?_)
      refine And.intro (zvp (zb24b hp1 p2.2 c2) rfl) ?_
      have i2 := ih (o + 1) (z31 x (I 68 (3 * p + o).toNatClampNeg)) h2 h3 (by rw [o3]; exact hA)
      exact i2
  have oout : ∀ (g : Nat → Int32) (r : Nat) (p : Int32) (x : Int64) (w : Option Value), 0 ≤ p → (I 1 4).toNatClampNeg = p.toNatClampNeg + r → Q (some (.long (zdP (I 7) (I 9) r p x))) (va_up I 76 g, J, zR, 81) → At 163 [] [some (.ref 46), some (.long (x)), none, some (.int (p)), w] (va_up I 76 g, J, zR, 81) := by
    intro g r
    induction r with
    | zero =>
      intro p x w h0 hr hA
      have hl2 : I 46 1 ≤ p := by rw [p1]; exact zlast h0 p2.1 hr
      refine hC 163 [] [some (.ref 46), some (.long (x)), none, some (.int (p)), w] _ ?_
      refine And.intro (fun _ => ?_) (fun qz => absurd hl2 qz)
      exact hC 216 [] [some (.ref 46), some (.long (x)), none, some (.int (p)), w] _ hA
    | succ r ih =>
      intro p x w h0 hr hA
      obtain ⟨h1, h2, h3⟩ := znext h0 (n := I 1 4) (by clear hE hC hR hp hd ho hl hb hk hq ha hs hj hc hh ht h ih hA o2 oin; grind) hr
      have hno : ¬ I 46 1 ≤ p := by rw [p1]; clear hE hC hR hp hd ho hl hb hk hq ha hs hj hc hh ht h ih hA o2 oin; grind
      refine hC 163 [] [some (.ref 46), some (.long (x)), none, some (.int (p)), w] _ ?_
      refine And.intro (fun qz => absurd qz hno) (fun _ => ?_)
      refine oin g p ⟨h0, h1⟩ (I 7 p.toNatClampNeg).toNatClampNeg 0 x (by decide) (Nat.zero_add _).symm (fun j => ?_)
      refine hC 210 [] [some (.ref 46), some (.long (zdO (I 9) p (I 7 p.toNatClampNeg).toNatClampNeg 0 x)), none, some (.int (p)), some (.int j)] _ ?_
      exact ih (p + 1) _ _ h2 h3 hA
  have acc : ∀ (g : Nat → Int32) (x : Int64) (w : Option Value), Q (some (.long (zdP (I 7) (I 9) (I 1 4).toNatClampNeg 0 (zdA (I 33) x)))) (va_up I 76 g, J, zR, 81) → At 136 [] [some (.ref 46), some (.long (x)), none, some (.int (0)), w] (va_up I 76 g, J, zR, 81) := by
    intro g x w hA
    refine hC 136 [] [some (.ref 46), some (.long (x)), none, some (.int (0)), w] _ ?_
    refine And.intro (fun qz => absurd qz (by decide)) (fun _ => ?_)
    refine hE _ _ _ _ _ (w_acc10_0 57 (va_up I 76 g) J _ ha ?_)
    refine hC 136 [] [some (.ref 46), some (.long (z31 (x) (I 33 0))), none, some (.int (0 + 1)), w] _ ?_
    refine And.intro (fun qz => absurd qz (by decide)) (fun _ => ?_)
    refine hE _ _ _ _ _ (w_acc10_1 57 (va_up I 76 g) J _ ha ?_)
    refine hC 136 [] [some (.ref 46), some (.long (z31 (z31 (x) (I 33 0)) (I 33 1))), none, some (.int (0 + 1 + 1)), w] _ ?_
    refine And.intro (fun qz => absurd qz (by decide)) (fun _ => ?_)
    refine hE _ _ _ _ _ (w_acc10_2 57 (va_up I 76 g) J _ ha ?_)
    refine hC 136 [] [some (.ref 46), some (.long (z31 (z31 (z31 (x) (I 33 0)) (I 33 1)) (I 33 2))), none, some (.int (0 + 1 + 1 + 1)), w] _ ?_
    refine And.intro (fun qz => absurd qz (by decide)) (fun _ => ?_)
    refine hE _ _ _ _ _ (w_acc10_3 57 (va_up I 76 g) J _ ha ?_)
    refine hC 136 [] [some (.ref 46), some (.long (z31 (z31 (z31 (z31 (x) (I 33 0)) (I 33 1)) (I 33 2)) (I 33 3))), none, some (.int (0 + 1 + 1 + 1 + 1)), w] _ ?_
    refine And.intro (fun qz => absurd qz (by decide)) (fun _ => ?_)
    refine hE _ _ _ _ _ (w_acc10_4 57 (va_up I 76 g) J _ ha ?_)
    refine hC 136 [] [some (.ref 46), some (.long (z31 (z31 (z31 (z31 (z31 (x) (I 33 0)) (I 33 1)) (I 33 2)) (I 33 3)) (I 33 4))), none, some (.int (0 + 1 + 1 + 1 + 1 + 1)), w] _ ?_
    refine And.intro (fun qz => absurd qz (by decide)) (fun _ => ?_)
    refine hE _ _ _ _ _ (w_acc10_5 57 (va_up I 76 g) J _ ha ?_)
    refine hC 136 [] [some (.ref 46), some (.long (z31 (z31 (z31 (z31 (z31 (z31 (x) (I 33 0)) (I 33 1)) (I 33 2)) (I 33 3)) (I 33 4)) (I 33 5))), none, some (.int (0 + 1 + 1 + 1 + 1 + 1 + 1)), w] _ ?_
    refine And.intro (fun qz => absurd qz (by decide)) (fun _ => ?_)
    refine hE _ _ _ _ _ (w_acc10_6 57 (va_up I 76 g) J _ ha ?_)
    refine hC 136 [] [some (.ref 46), some (.long (z31 (z31 (z31 (z31 (z31 (z31 (z31 (x) (I 33 0)) (I 33 1)) (I 33 2)) (I 33 3)) (I 33 4)) (I 33 5)) (I 33 6))), none, some (.int (0 + 1 + 1 + 1 + 1 + 1 + 1 + 1)), w] _ ?_
    refine And.intro (fun _ => ?_) (fun qz => absurd (by decide) qz)
    refine hC 161 [] [some (.ref 46), some (.long (z31 (z31 (z31 (z31 (z31 (z31 (z31 (x) (I 33 0)) (I 33 1)) (I 33 2)) (I 33 3)) (I 33 4)) (I 33 5)) (I 33 6))), none, some (.int (0 + 1 + 1 + 1 + 1 + 1 + 1 + 1)), w] _ ?_
    exact oout g _ 0 _ w (by decide) (Nat.zero_add _).symm hA
  have bars : ∀ (g : Nat → Int32) (r : Nat) (i : Int32) (x : Int64) (w : Option Value), 0 ≤ i → (I 22 10).toNatClampNeg = i.toNatClampNeg + r → Q (some (.long (zdP (I 7) (I 9) (I 1 4).toNatClampNeg 0 (zdA (I 33) (zdB (I 26) (I 27) (I 28) (I 29) r i x))))) (va_up I 76 g, J, zR, 81) → At 89 [] [some (.ref 46), some (.long (x)), none, some (.int (i)), w] (va_up I 76 g, J, zR, 81) := by
    intro g r
    induction r with
    | zero =>
      intro i x w h0 hr hA
      have hl2 : I 46 13 ≤ i := by rw [b1]; exact zlast h0 b2.1 hr
      refine hC 89 [] [some (.ref 46), some (.long (x)), none, some (.int (i)), w] _ ?_
      refine And.intro (fun _ => ?_) (fun qz => absurd hl2 qz)
      refine hC 134 [] [some (.ref 46), some (.long (x)), none, some (.int (i)), w] _ ?_
      exact acc g x w hA
    | succ r ih =>
      intro i x w h0 hr hA
      obtain ⟨h1, h2, h3⟩ := znext h0 (n := I 22 10) (by clear hE hC hR hp hd ho hl hb hk hq ha hs hj hc hh ht h ih hA o2 oin oout acc; grind) hr
      have hno : ¬ I 46 13 ≤ i := by rw [b1]; clear hE hC hR hp hd ho hl hb hk hq ha hs hj hc hh ht h ih hA o2 oin oout acc; grind
      refine hC 89 [] [some (.ref 46), some (.long (x)), none, some (.int (i)), w] _ ?_
      refine And.intro (fun qz => absurd qz hno) (fun _ => ?_)
      refine hC 100 [] [some (.ref 46), some (.long (x)), none, some (.int (i)), some (.int (3))] _ ?_
      refine And.intro (fun qz => absurd qz (by decide)) (fun _ => ?_)
      refine hE _ _ _ _ _ (w_bar10_3 56 (va_up I 76 g) J i _ hb.2.2.1.2.2.2.1 hb.1 b2 ⟨h0, h1⟩ ?_)
      refine hC 100 [] [some (.ref 46), some (.long (z31 (x) (I 26 i.toNatClampNeg))), none, some (.int (i)), some (.int (3 + 1))] _ ?_
      refine And.intro (fun qz => absurd qz (by decide)) (fun _ => ?_)
      refine hE _ _ _ _ _ (w_bar10_4 56 (va_up I 76 g) J i _ hb.2.2.1.2.2.2.2.1 hb.1 b2 ⟨h0, h1⟩ ?_)
      refine hC 100 [] [some (.ref 46), some (.long (z31 (z31 (x) (I 26 i.toNatClampNeg)) (I 27 i.toNatClampNeg))), none, some (.int (i)), some (.int (3 + 1 + 1))] _ ?_
      refine And.intro (fun qz => absurd qz (by decide)) (fun _ => ?_)
      refine hE _ _ _ _ _ (w_bar10_5 56 (va_up I 76 g) J i _ hb.2.2.1.2.2.2.2.2.1 hb.1 b2 ⟨h0, h1⟩ ?_)
      refine hC 100 [] [some (.ref 46), some (.long (z31 (z31 (z31 (x) (I 26 i.toNatClampNeg)) (I 27 i.toNatClampNeg)) (I 28 i.toNatClampNeg))), none, some (.int (i)), some (.int (3 + 1 + 1 + 1))] _ ?_
      refine And.intro (fun qz => absurd qz (by decide)) (fun _ => ?_)
      refine hE _ _ _ _ _ (w_bar10_6 56 (va_up I 76 g) J i _ hb.2.2.1.2.2.2.2.2.2 hb.1 b2 ⟨h0, h1⟩ ?_)
      refine hC 100 [] [some (.ref 46), some (.long (z31 (z31 (z31 (z31 (x) (I 26 i.toNatClampNeg)) (I 27 i.toNatClampNeg)) (I 28 i.toNatClampNeg)) (I 29 i.toNatClampNeg))), none, some (.int (i)), some (.int (3 + 1 + 1 + 1 + 1))] _ ?_
      refine And.intro (fun _ => ?_) (fun qz => absurd (by decide) qz)
      refine hC 128 [] [some (.ref 46), some (.long (z31 (z31 (z31 (z31 (x) (I 26 i.toNatClampNeg)) (I 27 i.toNatClampNeg)) (I 28 i.toNatClampNeg)) (I 29 i.toNatClampNeg))), none, some (.int (i)), some (.int (3 + 1 + 1 + 1 + 1))] _ ?_
      exact ih (i + 1) _ _ h2 h3 hA
  have dies : ∀ (g : Nat → Int32) (r : Nat) (i : Int32) (x : Int64) (w : Option Value), 0 ≤ i → (I 10 5).toNatClampNeg = i.toNatClampNeg + r → Q (some (.long (zdP (I 7) (I 9) (I 1 4).toNatClampNeg 0 (zdA (I 33) (zdB (I 26) (I 27) (I 28) (I 29) (I 22 10).toNatClampNeg 0 (zdD (I 0 11) (I 12) (I 13) (I 15) r i x)))))) (va_up I 76 g, J, zR, 81) → At 43 [] [some (.ref 46), some (.long (x)), none, some (.int (i)), w] (va_up I 76 g, J, zR, 81) := by
    intro g r
    induction r with
    | zero =>
      intro i x w h0 hr hA
      have hl2 : I 46 6 ≤ i := by rw [d1]; exact zlast h0 d2.1 hr
      refine hC 43 [] [some (.ref 46), some (.long (x)), none, some (.int (i)), w] _ ?_
      refine And.intro (fun _ => ?_) (fun qz => absurd hl2 qz)
      refine hC 87 [] [some (.ref 46), some (.long (x)), none, some (.int (i)), w] _ ?_
      exact bars g _ 0 x w (by decide) (Nat.zero_add _).symm hA
    | succ r ih =>
      intro i x w h0 hr hA
      obtain ⟨h1, h2, h3⟩ := znext h0 (n := I 10 5) (by clear hE hC hR hp hd ho hl hb hk hq ha hs hj hc hh ht h ih hA o2 oin oout acc bars; grind) hr
      have hno : ¬ I 46 6 ≤ i := by rw [d1]; clear hE hC hR hp hd ho hl hb hk hq ha hs hj hc hh ht h ih hA o2 oin oout acc bars; grind
      refine hC 43 [] [some (.ref 46), some (.long (x)), none, some (.int (i)), w] _ ?_
      refine And.intro (fun qz => absurd qz hno) (fun _ => ?_)
      refine hC 54 [] [some (.ref 46), some (.long (x)), none, some (.int (i)), some (.int (2))] _ ?_
      refine And.intro (fun qz => absurd qz (by decide)) (fun _ => ?_)
      refine hE _ _ _ _ _ (w_about10_2 56 (va_up I 76 g) J i _ hd.2.2.1.2.1 hd.2.2.1.2.2.1 hd.2.2.1.2.2.2.2 ht.1 hd.1 d2 ⟨h0, h1⟩ ?_)
      refine hC 54 [] [some (.ref 46), some (.long (z31 (x) (I 13 i.toNatClampNeg))), none, some (.int (i)), some (.int (2 + 1))] _ ?_
      refine And.intro (fun qz => absurd qz (by decide)) (fun _ => ?_)
      refine hE _ _ _ _ _ (w_about10_3 56 (va_up I 76 g) J i _ hd.2.2.1.2.1 hd.2.2.1.2.2.1 hd.2.2.1.2.2.2.2 ht.1 hd.1 d2 ⟨h0, h1⟩ ?_)
      refine hC 54 [] [some (.ref 46), some (.long (z31 (z31 (x) (I 13 i.toNatClampNeg)) (zab3 (I 0 11) (I 15) i))), none, some (.int (i)), some (.int (2 + 1 + 1))] _ ?_
      refine And.intro (fun qz => absurd qz (by decide)) (fun _ => ?_)
      refine hE _ _ _ _ _ (w_about10_4 56 (va_up I 76 g) J i _ hd.2.2.1.2.1 hd.2.2.1.2.2.1 hd.2.2.1.2.2.2.2 ht.1 hd.1 d2 ⟨h0, h1⟩ ?_)
      refine hC 54 [] [some (.ref 46), some (.long (z31 (z31 (z31 (x) (I 13 i.toNatClampNeg)) (zab3 (I 0 11) (I 15) i)) (zab4 (I 0 11) (I 12) (I 13) (I 15) i))), none, some (.int (i)), some (.int (2 + 1 + 1 + 1))] _ ?_
      refine And.intro (fun _ => ?_) (fun qz => absurd (by decide) qz)
      refine hC 81 [] [some (.ref 46), some (.long (z31 (z31 (z31 (x) (I 13 i.toNatClampNeg)) (zab3 (I 0 11) (I 15) i)) (zab4 (I 0 11) (I 12) (I 13) (I 15) i))), none, some (.int (i)), some (.int (2 + 1 + 1 + 1))] _ ?_
      exact ih (i + 1) _ _ h2 h3 hA
  refine hC 0 [] [some (.ref 46), none, none, none, none] _ ?_
  refine hC 6 [] [some (.ref 46), some (.long (17)), none, some (.int (0)), none] _ ?_
  refine And.intro (fun qz => absurd qz (by decide)) (fun _ => ?_)
  refine And.intro (fun _ => ?_) (fun qz => absurd qz (by decide))
  refine hC 22 [] [some (.ref 46), some (.long (17)), none, some (.int (0)), none] _ ?_
  refine hE _ _ _ _ _ (w_count10 56 I J (0) _ hb.2.2.1.2.2.2.1 hb.2.2.1.2.2.2.2.2.2 hb.1 b2 (fun q => absurd q (by decide)) (fun _ => ?_) (fun q => absurd q (by decide)) (fun q => absurd q (by decide)) (fun q => absurd q (by decide)) (fun q => absurd q (by decide)) (fun q => absurd q (by decide)) (fun q => absurd q (by decide)) (fun q => absurd q (by decide)))
  refine hC 34 [.long (z31 (17) (I 46 1))] [some (.ref 46), some (.long (17)), none, some (.int (0)), none] _ ?_
  refine hC 6 [] [some (.ref 46), some (.long (z31 (17) (I 46 1))), none, some (.int (0 + 1)), none] _ ?_
  refine And.intro (fun qz => absurd qz (by decide)) (fun _ => ?_)
  refine And.intro (fun _ => ?_) (fun qz => absurd qz (by decide))
  refine hC 22 [] [some (.ref 46), some (.long (z31 (17) (I 46 1))), none, some (.int (0 + 1)), none] _ ?_
  refine hE _ _ _ _ _ (w_count10 56 I J (0 + 1) _ hb.2.2.1.2.2.2.1 hb.2.2.1.2.2.2.2.2.2 hb.1 b2 (fun q => absurd q (by decide)) (fun q => absurd q (by decide)) (fun _ => ?_) (fun q => absurd q (by decide)) (fun q => absurd q (by decide)) (fun q => absurd q (by decide)) (fun q => absurd q (by decide)) (fun q => absurd q (by decide)) (fun q => absurd q (by decide)))
  refine hC 34 [.long (z31 (z31 (17) (I 46 1)) (I 46 6))] [some (.ref 46), some (.long (z31 (17) (I 46 1))), none, some (.int (0 + 1)), none] _ ?_
  refine hC 6 [] [some (.ref 46), some (.long (z31 (z31 (17) (I 46 1)) (I 46 6))), none, some (.int (0 + 1 + 1)), none] _ ?_
  refine And.intro (fun qz => absurd qz (by decide)) (fun _ => ?_)
  refine And.intro (fun _ => ?_) (fun qz => absurd qz (by decide))
  refine hC 22 [] [some (.ref 46), some (.long (z31 (z31 (17) (I 46 1)) (I 46 6))), none, some (.int (0 + 1 + 1)), none] _ ?_
  refine hE _ _ _ _ _ (w_count10 56 I J (0 + 1 + 1) _ hb.2.2.1.2.2.2.1 hb.2.2.1.2.2.2.2.2.2 hb.1 b2 (fun q => absurd q (by decide)) (fun q => absurd q (by decide)) (fun q => absurd q (by decide)) (fun _ => ?_) (fun q => absurd q (by decide)) (fun q => absurd q (by decide)) (fun q => absurd q (by decide)) (fun q => absurd q (by decide)) (fun q => absurd q (by decide)))
  refine hC 34 [.long (z31 (z31 (z31 (17) (I 46 1)) (I 46 6)) (I 46 12))] [some (.ref 46), some (.long (z31 (z31 (17) (I 46 1)) (I 46 6))), none, some (.int (0 + 1 + 1)), none] _ ?_
  refine hC 6 [] [some (.ref 46), some (.long (z31 (z31 (z31 (17) (I 46 1)) (I 46 6)) (I 46 12))), none, some (.int (0 + 1 + 1 + 1)), none] _ ?_
  refine And.intro (fun qz => absurd qz (by decide)) (fun _ => ?_)
  refine And.intro (fun _ => ?_) (fun qz => absurd qz (by decide))
  refine hC 22 [] [some (.ref 46), some (.long (z31 (z31 (z31 (17) (I 46 1)) (I 46 6)) (I 46 12))), none, some (.int (0 + 1 + 1 + 1)), none] _ ?_
  refine hE _ _ _ _ _ (w_count10 56 I J (0 + 1 + 1 + 1) _ hb.2.2.1.2.2.2.1 hb.2.2.1.2.2.2.2.2.2 hb.1 b2 (fun q => absurd q (by decide)) (fun q => absurd q (by decide)) (fun q => absurd q (by decide)) (fun q => absurd q (by decide)) (fun _ => ?_) (fun q => absurd q (by decide)) (fun q => absurd q (by decide)) (fun q => absurd q (by decide)) (fun q => absurd q (by decide)))
  refine hC 34 [.long (z31 (z31 (z31 (z31 (17) (I 46 1)) (I 46 6)) (I 46 12)) (I 46 13))] [some (.ref 46), some (.long (z31 (z31 (z31 (17) (I 46 1)) (I 46 6)) (I 46 12))), none, some (.int (0 + 1 + 1 + 1)), none] _ ?_
  refine hC 6 [] [some (.ref 46), some (.long (z31 (z31 (z31 (z31 (17) (I 46 1)) (I 46 6)) (I 46 12)) (I 46 13))), none, some (.int (0 + 1 + 1 + 1 + 1)), none] _ ?_
  refine And.intro (fun qz => absurd qz (by decide)) (fun _ => ?_)
  refine And.intro (fun _ => ?_) (fun qz => absurd qz (by decide))
  refine hC 22 [] [some (.ref 46), some (.long (z31 (z31 (z31 (z31 (17) (I 46 1)) (I 46 6)) (I 46 12)) (I 46 13))), none, some (.int (0 + 1 + 1 + 1 + 1)), none] _ ?_
  refine hE _ _ _ _ _ (w_count10 56 I J (0 + 1 + 1 + 1 + 1) _ hb.2.2.1.2.2.2.1 hb.2.2.1.2.2.2.2.2.2 hb.1 b2 (fun q => absurd q (by decide)) (fun q => absurd q (by decide)) (fun q => absurd q (by decide)) (fun q => absurd q (by decide)) (fun q => absurd q (by decide)) (fun _ => ?_) (fun q => absurd q (by decide)) (fun q => absurd q (by decide)) (fun q => absurd q (by decide)))
  refine hC 34 [.long (z31 (z31 (z31 (z31 (z31 (17) (I 46 1)) (I 46 6)) (I 46 12)) (I 46 13)) (I 46 37))] [some (.ref 46), some (.long (z31 (z31 (z31 (z31 (17) (I 46 1)) (I 46 6)) (I 46 12)) (I 46 13))), none, some (.int (0 + 1 + 1 + 1 + 1)), none] _ ?_
  refine hC 6 [] [some (.ref 46), some (.long (z31 (z31 (z31 (z31 (z31 (17) (I 46 1)) (I 46 6)) (I 46 12)) (I 46 13)) (I 46 37))), none, some (.int (0 + 1 + 1 + 1 + 1 + 1)), none] _ ?_
  refine And.intro (fun qz => absurd qz (by decide)) (fun _ => ?_)
  refine And.intro (fun _ => ?_) (fun qz => absurd qz (by decide))
  refine hC 22 [] [some (.ref 46), some (.long (z31 (z31 (z31 (z31 (z31 (17) (I 46 1)) (I 46 6)) (I 46 12)) (I 46 13)) (I 46 37))), none, some (.int (0 + 1 + 1 + 1 + 1 + 1)), none] _ ?_
  refine hE _ _ _ _ _ (w_count10 56 I J (0 + 1 + 1 + 1 + 1 + 1) _ hb.2.2.1.2.2.2.1 hb.2.2.1.2.2.2.2.2.2 hb.1 b2 (fun q => absurd q (by decide)) (fun q => absurd q (by decide)) (fun q => absurd q (by decide)) (fun q => absurd q (by decide)) (fun q => absurd q (by decide)) (fun q => absurd q (by decide)) (fun _ => ?_) (fun q => absurd q (by decide)) (fun q => absurd q (by decide)))
  refine hC 34 [.long (z31 (z31 (z31 (z31 (z31 (z31 (17) (I 46 1)) (I 46 6)) (I 46 12)) (I 46 13)) (I 46 37)) (I 46 45))] [some (.ref 46), some (.long (z31 (z31 (z31 (z31 (z31 (17) (I 46 1)) (I 46 6)) (I 46 12)) (I 46 13)) (I 46 37))), none, some (.int (0 + 1 + 1 + 1 + 1 + 1)), none] _ ?_
  refine hC 6 [] [some (.ref 46), some (.long (z31 (z31 (z31 (z31 (z31 (z31 (17) (I 46 1)) (I 46 6)) (I 46 12)) (I 46 13)) (I 46 37)) (I 46 45))), none, some (.int (0 + 1 + 1 + 1 + 1 + 1 + 1)), none] _ ?_
  refine And.intro (fun qz => absurd qz (by decide)) (fun _ => ?_)
  refine And.intro (fun qz => absurd (by decide) qz) (fun _ => ?_)
  refine hC 34 [.long (z31 (z31 (z31 (z31 (z31 (z31 (17) (I 46 1)) (I 46 6)) (I 46 12)) (I 46 13)) (I 46 37)) (I 46 45))] [some (.ref 46), some (.long (z31 (z31 (z31 (z31 (z31 (z31 (17) (I 46 1)) (I 46 6)) (I 46 12)) (I 46 13)) (I 46 37)) (I 46 45))), none, some (.int (0 + 1 + 1 + 1 + 1 + 1 + 1)), none] _ ?_
  refine hC 6 [] [some (.ref 46), some (.long (z31 (z31 (z31 (z31 (z31 (z31 (17) (I 46 1)) (I 46 6)) (I 46 12)) (I 46 13)) (I 46 37)) (I 46 45))), none, some (.int (0 + 1 + 1 + 1 + 1 + 1 + 1 + 1)), none] _ ?_
  refine And.intro (fun qz => absurd qz (by decide)) (fun _ => ?_)
  refine And.intro (fun _ => ?_) (fun qz => absurd qz (by decide))
  refine hC 22 [] [some (.ref 46), some (.long (z31 (z31 (z31 (z31 (z31 (z31 (17) (I 46 1)) (I 46 6)) (I 46 12)) (I 46 13)) (I 46 37)) (I 46 45))), none, some (.int (0 + 1 + 1 + 1 + 1 + 1 + 1 + 1)), none] _ ?_
  refine hE _ _ _ _ _ (w_count10 56 I J (0 + 1 + 1 + 1 + 1 + 1 + 1 + 1) _ hb.2.2.1.2.2.2.1 hb.2.2.1.2.2.2.2.2.2 hb.1 b2 (fun q => absurd q (by decide)) (fun q => absurd q (by decide)) (fun q => absurd q (by decide)) (fun q => absurd q (by decide)) (fun q => absurd q (by decide)) (fun q => absurd q (by decide)) (fun q => absurd q (by decide)) (fun q => absurd q (by decide)) (fun _ g => ?_))
  refine hC 34 [.long (z31 (z31 (z31 (z31 (z31 (z31 (z31 (17) (I 46 1)) (I 46 6)) (I 46 12)) (I 46 13)) (I 46 37)) (I 46 45)) (zwtF (I 26) (I 29) (I 22 10).toNatClampNeg 0 0))] [some (.ref 46), some (.long (z31 (z31 (z31 (z31 (z31 (z31 (17) (I 46 1)) (I 46 6)) (I 46 12)) (I 46 13)) (I 46 37)) (I 46 45))), none, some (.int (0 + 1 + 1 + 1 + 1 + 1 + 1 + 1)), none] _ ?_
  refine hC 6 [] [some (.ref 46), some (.long (z31 (z31 (z31 (z31 (z31 (z31 (z31 (17) (I 46 1)) (I 46 6)) (I 46 12)) (I 46 13)) (I 46 37)) (I 46 45)) (zwtF (I 26) (I 29) (I 22 10).toNatClampNeg 0 0))), none, some (.int (0 + 1 + 1 + 1 + 1 + 1 + 1 + 1 + 1)), none] _ ?_
  refine And.intro (fun _ => ?_) (fun qz => absurd (by decide) qz)
  refine hC 41 [] [some (.ref 46), some (.long (z31 (z31 (z31 (z31 (z31 (z31 (z31 (17) (I 46 1)) (I 46 6)) (I 46 12)) (I 46 13)) (I 46 37)) (I 46 45)) (zwtF (I 26) (I 29) (I 22 10).toNatClampNeg 0 0))), none, some (.int (0 + 1 + 1 + 1 + 1 + 1 + 1 + 1 + 1)), none] _ ?_
  refine dies g _ 0 _ none (by decide) (Nat.zero_add _).symm ?_
  have hg := h g
  unfold zdg at hg
  rw [hp.1, hd.1, ht.1, hb.1, hj.1, ht.2.2.2]
  exact hg
theorem op_digest (I : Nat → Nat → Int32) (J : Nat → Nat → Int64) (hR : zRel I J) (Q : Option Value → zM → Prop) (h : ∀ r I1 J1, (∀ Q' : Option Value → zM → Prop, (∀ I2 J2, zRel I2 J2 → Q' (some (.long r)) (I2, J2, zR, 81)) → zT 60 147 81 [.ref 46] (I1, J1, zR, 81) Q') → Q (some (.long r)) (I1, J1, zR, 81)) : zT 60 87 81 [.ref 0] (I, J, zR, 81) Q :=
  w_digest9 I J hR Q (h _ _ _ (fun Q' hQ => w_digest10 I J hR Q' (fun g => hQ _ _ hR)))
