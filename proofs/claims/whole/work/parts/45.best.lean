theorem zRel_C5 {I I' : Nat → Nat → Int32} {J : Nat → Nat → Int64} (h : zC5 I I') (hR : zRel I J) : zRel I' J := by
  have e0 := h 0 (by decide) (by decide) (by decide) (by decide) (by decide)
  have e1 := h 1 (by decide) (by decide) (by decide) (by decide) (by decide)
  have e2 := h 2 (by decide) (by decide) (by decide) (by decide) (by decide)
  have e3 := h 3 (by decide) (by decide) (by decide) (by decide) (by decide)
  have e4 := h 4 (by decide) (by decide) (by decide) (by decide) (by decide)
  have e5 := h 5 (by decide) (by decide) (by decide) (by decide) (by decide)
  have e7 := h 7 (by decide) (by decide) (by decide) (by decide) (by decide)
  have e8 := h 8 (by decide) (by decide) (by decide) (by decide) (by decide)
  have e9 := h 9 (by decide) (by decide) (by decide) (by decide) (by decide)
  have e10 := h 10 (by decide) (by decide) (by decide) (by decide) (by decide)
  have e11 := h 11 (by decide) (by decide) (by decide) (by decide) (by decide)
  have e12 := h 12 (by decide) (by decide) (by decide) (by decide) (by decide)
  have e13 := h 13 (by decide) (by decide) (by decide) (by decide) (by decide)
  have e14 := h 14 (by decide) (by decide) (by decide) (by decide) (by decide)
  have e15 := h 15 (by decide) (by decide) (by decide) (by decide) (by decide)
  have e16 := h 16 (by decide) (by decide) (by decide) (by decide) (by decide)
  have e22 := h 22 (by decide) (by decide) (by decide) (by decide) (by decide)
  have e23 := h 23 (by decide) (by decide) (by decide) (by decide) (by decide)
  have e24 := h 24 (by decide) (by decide) (by decide) (by decide) (by decide)
  have e25 := h 25 (by decide) (by decide) (by decide) (by decide) (by decide)
  have e26 := h 26 (by decide) (by decide) (by decide) (by decide) (by decide)
  have e27 := h 27 (by decide) (by decide) (by decide) (by decide) (by decide)
  have e28 := h 28 (by decide) (by decide) (by decide) (by decide) (by decide)
  have e29 := h 29 (by decide) (by decide) (by decide) (by decide) (by decide)
  have e30 := h 30 (by decide) (by decide) (by decide) (by decide) (by decide)
  have e31 := h 31 (by decide) (by decide) (by decide) (by decide) (by decide)
  have e32 := h 32 (by decide) (by decide) (by decide) (by decide) (by decide)
  have e33 := h 33 (by decide) (by decide) (by decide) (by decide) (by decide)
  have e34 := h 34 (by decide) (by decide) (by decide) (by decide) (by decide)
  have e35 := h 35 (by decide) (by decide) (by decide) (by decide) (by decide)
  have e36 := h 36 (by decide) (by decide) (by decide) (by decide) (by decide)
  have e37 := h 37 (by decide) (by decide) (by decide) (by decide) (by decide)
  have e38 := h 38 (by decide) (by decide) (by decide) (by decide) (by decide)
  have e39 := h 39 (by decide) (by decide) (by decide) (by decide) (by decide)
  have e41 := h 41 (by decide) (by decide) (by decide) (by decide) (by decide)
  have e42 := h 42 (by decide) (by decide) (by decide) (by decide) (by decide)
  have e43 := h 43 (by decide) (by decide) (by decide) (by decide) (by decide)
  have e44 := h 44 (by decide) (by decide) (by decide) (by decide) (by decide)
  have e45 := h 45 (by decide) (by decide) (by decide) (by decide) (by decide)
  have e47 := h 47 (by decide) (by decide) (by decide) (by decide) (by decide)
  have e48 := h 48 (by decide) (by decide) (by decide) (by decide) (by decide)
  have e49 := h 49 (by decide) (by decide) (by decide) (by decide) (by decide)
  have e50 := h 50 (by decide) (by decide) (by decide) (by decide) (by decide)
  have e51 := h 51 (by decide) (by decide) (by decide) (by decide) (by decide)
  have e52 := h 52 (by decide) (by decide) (by decide) (by decide) (by decide)
  have e53 := h 53 (by decide) (by decide) (by decide) (by decide) (by decide)
  have e54 := h 54 (by decide) (by decide) (by decide) (by decide) (by decide)
  have e55 := h 55 (by decide) (by decide) (by decide) (by decide) (by decide)
  have e56 := h 56 (by decide) (by decide) (by decide) (by decide) (by decide)
  have e57 := h 57 (by decide) (by decide) (by decide) (by decide) (by decide)
  have e58 := h 58 (by decide) (by decide) (by decide) (by decide) (by decide)
  have e59 := h 59 (by decide) (by decide) (by decide) (by decide) (by decide)
  have e60 := h 60 (by decide) (by decide) (by decide) (by decide) (by decide)
  have e61 := h 61 (by decide) (by decide) (by decide) (by decide) (by decide)
  have e62 := h 62 (by decide) (by decide) (by decide) (by decide) (by decide)
  have e63 := h 63 (by decide) (by decide) (by decide) (by decide) (by decide)
  have e64 := h 64 (by decide) (by decide) (by decide) (by decide) (by decide)
  have e66 := h 66 (by decide) (by decide) (by decide) (by decide) (by decide)
  have e67 := h 67 (by decide) (by decide) (by decide) (by decide) (by decide)
  have e68 := h 68 (by decide) (by decide) (by decide) (by decide) (by decide)
  have e70 := h 70 (by decide) (by decide) (by decide) (by decide) (by decide)
  have e71 := h 71 (by decide) (by decide) (by decide) (by decide) (by decide)
  have e72 := h 72 (by decide) (by decide) (by decide) (by decide) (by decide)
  have e73 := h 73 (by decide) (by decide) (by decide) (by decide) (by decide)
  have e77 := h 77 (by decide) (by decide) (by decide) (by decide) (by decide)
  have e78 := h 78 (by decide) (by decide) (by decide) (by decide) (by decide)
  have e79 := h 79 (by decide) (by decide) (by decide) (by decide) (by decide)
  have e46 := h 46 (by decide) (by decide) (by decide) (by decide) (by decide)
  unfold zRel
  rw [e0, e1, e2, e3, e4, e5, e7, e8, e9, e10, e11, e12, e13, e14, e15, e16, e22, e23, e24, e25, e26, e27, e28, e29, e30, e31, e32, e33, e34, e35, e36, e37, e38, e39, e41, e42, e43, e44, e45, e47, e48, e49, e50, e51, e52, e53, e54, e55, e56, e57, e58, e59, e60, e61, e62, e63, e64, e66, e67, e68, e70, e71, e72, e73, e77, e78, e79, e46]
  exact hR
/-! the billet that pays best -/
def zpay (g b bg bt : Int32) : Int32 := if 0 < g then (if bt = -1 then 1 else if 0 < lg_cmp (g.toInt64 * bt.toInt64) (bg.toInt64 * b.toInt64) then 1 else if lg_cmp (g.toInt64 * bt.toInt64) (bg.toInt64 * b.toInt64) = 0 then (if bt ≤ b then 0 else 1) else 0) else 0
theorem w_pay (d : Nat) (I : Nat → Nat → Int32) (J : Nat → Nat → Int64) (g b bg bt : Int32) (Q : Option Value → zM → Prop) (l : Q (some (.int (zpay g b bg bt))) (I, J, zR, 81)) : zT (d + 1) 92 81 [.int g, .int b, .int bg, .int bt] (I, J, zR, 81) Q := by
  unfold zpay at l
  refine w_X9_paysMore d I J g b bg bt Q (fun q1 q2 q3 => ?_) (fun q1 q2 q3 q4 => ?_) (fun q1 q2 q3 q4 q5 => ?_) (fun q1 q2 q3 q4 q5 => ?_) (fun q1 q2 => ?_) (fun q1 => ?_)
  · rw [if_pos q1, if_neg q2, if_pos q3] at l; exact l
  · rw [if_pos q1, if_neg q2, if_neg q3, if_neg q4] at l; exact l
  · rw [if_pos q1, if_neg q2, if_neg q3, if_pos q4, if_pos q5] at l; exact l
  · rw [if_pos q1, if_neg q2, if_neg q3, if_pos q4, if_neg q5] at l; exact l
  · rw [if_pos q1, if_pos q2] at l; exact l
  · rw [if_neg q1] at l; exact l
def zbf (st : Nat → Int32) (g : Int32 → Int32) : Nat → Int32 → Int32 → Int32 → Int32
  | 0, _, bt, _ => bt
  | r + 1, i, bt, bg => if zpay (g (st i.toNatClampNeg)) (st i.toNatClampNeg) bg bt = 0 then zbf st g r (i + 1) bt bg else zbf st g r (i + 1) (st i.toNatClampNeg) (g (st i.toNatClampNeg))
/-- what g says: the goods of a billet -/
def zgo (I : Nat → Nat → Int32) (p w : Int32) (g : Int32 → Int32) : Prop := ∀ b : Int32, 200 ≤ b ∧ b ≤ 1200 → ∃ P : zPar, zPp P (I 7) (I 8) (I 9) (I 16) p (zU (I 16) (zA (I 16) b (I 3 p.toNatClampNeg)) w) ∧ (3 ≤ I 7 p.toNatClampNeg → 100 ≤ P.l2) ∧ P.R = (zU (I 16) (zA (I 16) b (I 3 p.toNatClampNeg)) w).toInt + P.k ∧ g b = zo P.S.1
theorem zUb {I : Nat → Nat → Int32} {J : Nat → Nat → Int64} (hR : zRel I J) {p b w : Int32} (hp : 0 ≤ p ∧ p < I 1 4) (hb : 200 ≤ b ∧ b ≤ 1200) : 0 ≤ zU (I 16) (zA (I 16) b (I 3 p.toNatClampNeg)) w ∧ zU (I 16) (zA (I 16) b (I 3 p.toNatClampNeg)) w ≤ 97920 := by
  obtain ⟨hp', _, _, hl, _⟩ := hR
  have r := (hp'.2.2.2 p hp.1 hp.2).2.1
  have a := (zall (la := I 16) hb hl.2.1 r hl.2.2.2.2.2.2).2
  exact zU_b a hl.2.2.1.1 hl.2.2.2.1.1 hl.2.2.2.2.1.1
theorem zgo_ex {I : Nat → Nat → Int32} {J : Nat → Nat → Int64} (hR : zRel I J) {p : Int32} (w : Int32) (hp : 0 ≤ p ∧ p < I 1 4) : ∃ g : Int32 → Int32, zgo I p w g := by
  refine Classical.axiomOfChoice (r := fun (b v : Int32) => 200 ≤ b ∧ b ≤ 1200 → ∃ P : zPar, zPp P (I 7) (I 8) (I 9) (I 16) p (zU (I 16) (zA (I 16) b (I 3 p.toNatClampNeg)) w) ∧ (3 ≤ I 7 p.toNatClampNeg → 100 ≤ P.l2) ∧ P.R = (zU (I 16) (zA (I 16) b (I 3 p.toNatClampNeg)) w).toInt + P.k ∧ v = zo P.S.1) (fun b => ?_)
  by_cases hb : 200 ≤ b ∧ b ≤ 1200
  · have u := zUb (w := w) hR hp hb
    obtain ⟨P, h1, h2, h3⟩ := zmkP hR hp (u := zU (I 16) (zA (I 16) b (I 3 p.toNatClampNeg)) w) ⟨u.1, by clear hR; grind⟩
    exact ⟨zo P.S.1, fun _ => ⟨P, h1, h2, h3, rfl⟩⟩
  · exact ⟨0, fun z => absurd z hb⟩
set_option maxHeartbeats 4000000 in
theorem g_best9 (d : Nat) (E : zE) (At : Nat → zC) (Q : Option Value → zM → Prop) (hE : ∀ y n a M' Q', zT (d + 5) y n a M' Q' → E y n a M' Q') (hC : ∀ pc st L M', zX 81 E Q At (zlk B_X9_best pc) st L M' → At pc st L M') (I : Nat → Nat → Int32) (J : Nat → Nat → Int64) (a w : Int32) (g : Int32 → Int32) (ha : 0 ≤ a ∧ a < 12) (hp : 0 ≤ I 11 a.toNatClampNeg ∧ I 11 a.toNatClampNeg < I 1 4) (hn : I 1 4 ≤ 8) (ho : 0 ≤ I 7 (I 11 a.toNatClampNeg).toNatClampNeg ∧ I 7 (I 11 a.toNatClampNeg).toNatClampNeg ≤ 3) (hg : zgo I (I 11 a.toNatClampNeg) w g) (hs : 0 ≤ I 0 12 ∧ I 0 12 ≤ 6) (hst : ∀ i : Int32, 0 ≤ i → i < I 0 12 → 200 ≤ I 34 i.toNatClampNeg ∧ I 34 i.toNatClampNeg ≤ 1200) : ∀ (r : Nat) (i bt bg : Int32) (I' : Nat → Nat → Int32) (o : Option Value), 0 ≤ i → (I 0 12).toNatClampNeg = i.toNatClampNeg + r → zC5 I I' → (∀ I2 : Nat → Nat → Int32, zC5 I I2 → Q (some (.int (zbf (I 34) g r i bt bg))) (I2, J, zR, 81)) → At 22 [] [some (.ref 0), some (.int a), some (.int w), some (.int bt), some (.int bg), some (.int i), o] (I', J, zR, 81)
  | 0, i, bt, bg, I', o, h0, hr, f, K => by
    have hl : I' 0 12 ≤ i := by rw [f 0 (by decide) (by decide) (by decide) (by decide) (by decide)]; exact zlast h0 hs.1 hr
    refine hC 22 [] [some (.ref 0), some (.int a), some (.int w), some (.int bt), some (.int bg), some (.int i), o] _ ?_
    refine And.intro (fun _ => ?_) (fun qz => absurd hl qz)
    exact hC 92 [] [some (.ref 0), some (.int a), some (.int w), some (.int bt), some (.int bg), some (.int i), o] _ (K I' f)
  | r + 1, i, bt, bg, I', o, h0, hr, f, K => by
    obtain ⟨h1, h2, h3⟩ := znext h0 (n := I 0 12) (by clear hE hC K hg hst f; grind) hr
    have e0 := f 0 (by decide) (by decide) (by decide) (by decide) (by decide)
    have e34 := f 34 (by decide) (by decide) (by decide) (by decide) (by decide)
    have e11 := f 11 (by decide) (by decide) (by decide) (by decide) (by decide)
    have e7 := f 7 (by decide) (by decide) (by decide) (by decide) (by decide)
    have e8 := f 8 (by decide) (by decide) (by decide) (by decide) (by decide)
    have e9 := f 9 (by decide) (by decide) (by decide) (by decide) (by decide)
    have e16 := f 16 (by decide) (by decide) (by decide) (by decide) (by decide)
    have e3 := f 3 (by decide) (by decide) (by decide) (by decide) (by decide)
    have hno : ¬ I' 0 12 ≤ i := by rw [e0]; clear hE hC K hg hst f; grind
    have hi6 : 0 ≤ i ∧ i < 6 := by clear hE hC K hg hst f; grind
    have hb := hst i h0 h1
    obtain ⟨P, hP, hl2, hPR, eg⟩ := hg _ hb
    refine hC 22 [] [some (.ref 0), some (.int a), some (.int w), some (.int bt), some (.int bg), some (.int i), o] _ ?_
    refine And.intro (fun qz => absurd qz hno) (fun _ => ?_)
    refine And.intro (zvp hi6 rfl) ?_
    refine And.intro (zvp ha rfl) ?_
    refine hE _ _ _ _ _ (w_foresee d P I' J (I' 11 a.toNatClampNeg) (I' 34 i.toNatClampNeg) w (I 1 4) _ (by rw [e11]; exact hp) hn (by rw [e7, e11]; exact ho) (by rw [e7, e8, e9, e16, e3, e11, e34]; exact hP) (fun I2 f2 t0 t1 t2 t3 t4 t6 t7 s2 => ?_))
    have f3 : zC5 I I2 := fun c q1 q2 q3 q4 q5 => (f2 c q1 q2 q3 q4 q5).trans (f c q1 q2 q3 q4 q5)
    refine hE _ _ _ _ _ (w_pay (d + 4) I2 J (I2 17 6) (I' 34 i.toNatClampNeg) bg bt _ ?_)
    have eg2 : I2 17 6 = g (I 34 i.toNatClampNeg) := by rw [t6, eg]
    refine And.intro (fun q => ?_) (fun q => ?_)
    · refine hC 86 [] [some (.ref 0), some (.int a), some (.int w), some (.int bt), some (.int bg), some (.int i), some (.int (I' 34 i.toNatClampNeg))] _ ?_
      refine g_best9 d E At Q hE hC I J a w g ha hp hn ho hg hs hst r (i + 1) bt bg I2 _ h2 h3 f3 (fun I3 f4 => ?_)
      have := K I3 f4
      rw [zbf, if_pos (show zpay (g (I 34 i.toNatClampNeg)) (I 34 i.toNatClampNeg) bg bt = 0 by rw [← eg2, ← e34]; exact q)] at this
      exact this
    · refine hC 86 [] [some (.ref 0), some (.int a), some (.int w), some (.int (I' 34 i.toNatClampNeg)), some (.int (I2 17 6)), some (.int i), some (.int (I' 34 i.toNatClampNeg))] _ ?_
      have ih := g_best9 d E At Q hE hC I J a w g ha hp hn ho hg hs hst r (i + 1) (I 34 i.toNatClampNeg) (g (I 34 i.toNatClampNeg)) I2 (some (.int (I 34 i.toNatClampNeg))) h2 h3 f3 (fun I3 f4 => by
        have := K I3 f4
        rw [zbf, if_neg (show ¬ zpay (g (I 34 i.toNatClampNeg)) (I 34 i.toNatClampNeg) bg bt = 0 by rw [← eg2, ← e34]; exact q)] at this
        exact this)
      rw [← eg2, ← e34] at ih
      exact ih
/-- the reference's cells that a bar found may change -/
def zM5 (I I' : Nat → Nat → Int32) : Prop := (∀ c, c ≠ 46 → c ≠ 69 → I' c = I c) ∧ ∀ j, j < 29 ∨ 34 < j → I' 46 j = I 46 j
set_option maxHeartbeats 4000000 in
theorem g_best10 (d : Nat) (E : zE) (At : Nat → zC) (Q : Option Value → zM → Prop) (hE : ∀ y n a M' Q', zT (d + 3) y n a M' Q' → E y n a M' Q') (hC : ∀ pc st L M', zX 81 E Q At (zlk B_X10_best pc) st L M' → At pc st L M') (I : Nat → Nat → Int32) (J : Nat → Nat → Int64) (hR : zRel I J) (a w : Int32) (g : Int32 → Int32) (ha : 0 ≤ a ∧ a < 12) (hp : 0 ≤ I 11 a.toNatClampNeg ∧ I 11 a.toNatClampNeg < I 1 4) (hg : zgo I (I 11 a.toNatClampNeg) w g) : ∀ (r : Nat) (i bt bg : Int32) (I' : Nat → Nat → Int32) (o6 o7 o8 o9 : Option Value), 0 ≤ i → (I 0 12).toNatClampNeg = i.toNatClampNeg + r → zM5 I I' → (∀ I2 : Nat → Nat → Int32, zM5 I I2 → Q (some (.int (zbf (I 34) g r i bt bg))) (I2, J, zR, 81)) → At 19 [] [some (.ref 46), some (.int a), some (.int w), some (.int bt), some (.int bg), some (.int i), o6, o7, o8, o9] (I', J, zR, 81)
  | 0, i, bt, bg, I', o6, o7, o8, o9, h0, hr, f, K => by
    have hs := hR.2.2.2.2.2.2.2.2.1
    have hl : I' 46 35 ≤ i := by rw [f.2 35 (by omega), hs.1]; exact zlast h0 hs.2.1.1 hr
    refine hC 19 [] [some (.ref 46), some (.int a), some (.int w), some (.int bt), some (.int bg), some (.int i), o6, o7, o8, o9] _ ?_
    refine And.intro (fun _ => ?_) (fun qz => absurd hl qz)
    exact hC 142 [] [some (.ref 46), some (.int a), some (.int w), some (.int bt), some (.int bg), some (.int i), o6, o7, o8, o9] _ (K I' f)
  | r + 1, i, bt, bg, I', o6, o7, o8, o9, h0, hr, f, K => by
    obtain ⟨hp1, hd1, ho1, hl1, _, _, _, _, hs, _⟩ := id hR
    have s2 := hs.2.1
    have n2 := hp1.2.1
    obtain ⟨h1, h2, h3⟩ := znext h0 (n := I 0 12) (by clear hE hC K hg f hR hp1 hd1 ho1 hl1 hs; grind) hr
    have e35 : I' 46 35 = I 0 12 := (f.2 35 (by omega)).trans hs.1
    have e70 : I' 70 = I 34 := (f.1 70 (by decide) (by decide)).trans hs.2.2.1
    have e52 : I' 52 = I 11 := (f.1 52 (by decide) (by decide)).trans hd1.2.2.1.1
    have e66 : I' 66 = I 7 := (f.1 66 (by decide) (by decide)).trans ho1.1.1
    have e67 : I' 67 = I 8 := (f.1 67 (by decide) (by decide)).trans ho1.1.2.1
    have e68 : I' 68 = I 9 := (f.1 68 (by decide) (by decide)).trans ho1.1.2.2
    have e47 : I' 47 = I 16 := (f.1 47 (by decide) (by decide)).trans hl1.1
    have e49 : I' 49 = I 3 := (f.1 49 (by decide) (by decide)).trans hp1.2.2.1.2.1
    have hno : ¬ I' 46 35 ≤ i := by rw [e35]; clear hE hC K hg f hR hp1 hd1 ho1 hl1 hs; grind
    have hi6 : 0 ≤ i ∧ i < 6 := by clear hE hC K hg f hR hp1 hd1 ho1 hl1 hs; grind
    have hb := hs.2.2.2 i h0 h1
    obtain ⟨P, hP, hl2, hPR, eg⟩ := hg _ hb
    refine hC 19 [] [some (.ref 46), some (.int a), some (.int w), some (.int bt), some (.int bg), some (.int i), o6, o7, o8, o9] _ ?_
    refine And.intro (fun qz => absurd qz hno) (fun _ => ?_)
    refine And.intro (zvp ha rfl) ?_
    refine And.intro (zvp hi6 rfl) ?_
    refine hE _ _ _ _ _ (w_findBar d P I' J (I' 52 a.toNatClampNeg) (I' 70 i.toNatClampNeg) w (I 1 4) _ e66 e67 e68 e47 e49 (by rw [e52]; exact hp) n2.2 (by rw [e70]; exact hb) hl1.2.1 (by rw [e52]; exact (hp1.2.2.2 _ hp.1 hp.2).2.1) hl1.2.2.2.2.2.2 (by rw [e52, e70]; exact hP) (by rw [e52]; exact hl2) (fun I2 f2 g2 t1 s1 _ _ _ _ _ => ?_))
    have f3 : zM5 I I2 := ⟨fun c q1 q2 => (f2 c q1 q2).trans (f.1 c q1 q2), fun j q => (g2 j q).trans (f.2 j q)⟩
    have e70b : I2 70 = I 34 := (f3.1 70 (by decide) (by decide)).trans hs.2.2.1
    have eg2 : I2 46 29 = g (I 34 i.toNatClampNeg) := by rw [t1, eg]
    have skip : ∀ o6 o7 o8 o9 : Option Value, zpay (g (I 34 i.toNatClampNeg)) (I 34 i.toNatClampNeg) bg bt = 0 → At 136 [] [some (.ref 46), some (.int a), some (.int w), some (.int bt), some (.int bg), some (.int i), o6, o7, o8, o9] (I2, J, zR, 81) := fun o6 o7 o8 o9 q => by
      refine hC 136 [] [some (.ref 46), some (.int a), some (.int w), some (.int bt), some (.int bg), some (.int i), o6, o7, o8, o9] _ ?_
      refine g_best10 d E At Q hE hC I J hR a w g ha hp hg r (i + 1) bt bg I2 o6 o7 o8 o9 h2 h3 f3 (fun I3 f4 => ?_)
      have := K I3 f4
      rw [zbf, if_pos q] at this
      exact this
    have take : ∀ o6 o7 o8 o9 : Option Value, zpay (g (I 34 i.toNatClampNeg)) (I 34 i.toNatClampNeg) bg bt = 1 → At 122 [] [some (.ref 46), some (.int a), some (.int w), some (.int bt), some (.int bg), some (.int i), o6, o7, o8, o9] (I2, J, zR, 81) := fun o6 o7 o8 o9 q => by
      refine hC 122 [] [some (.ref 46), some (.int a), some (.int w), some (.int bt), some (.int bg), some (.int i), o6, o7, o8, o9] _ ?_
      refine And.intro (zvp hi6 rfl) ?_
      refine hC 136 [] [some (.ref 46), some (.int a), some (.int w), some (.int (I2 70 i.toNatClampNeg)), some (.int (I2 46 29)), some (.int i), o6, o7, o8, o9] _ ?_
      have ih := g_best10 d E At Q hE hC I J hR a w g ha hp hg r (i + 1) (I 34 i.toNatClampNeg) (g (I 34 i.toNatClampNeg)) I2 o6 o7 o8 o9 h2 h3 f3 (fun I3 f4 => by
        have := K I3 f4
        rw [zbf, if_neg (by rw [q]; decide)] at this
        exact this)
      rw [← eg2, ← e70b] at ih
      exact ih
    refine And.intro (fun q => ?_) (fun q => ?_)
    · refine skip o6 o7 o8 o9 ?_
      unfold zpay
      rw [if_neg (show ¬ 0 < g (I 34 i.toNatClampNeg) by rw [← eg2]; have q' : I2 46 29 ≤ 0 := q; clear skip take hE hC K hg f f2 g2 f3 hR hp1 hd1 ho1 hl1 hs; grind)]
    have gpos : 0 < g (I 34 i.toNatClampNeg) := by
      rw [← eg2]
      have q' : ¬ I2 46 29 ≤ 0 := q
      clear skip take hE hC K hg f f2 g2 f3 hR hp1 hd1 ho1 hl1 hs
      grind
    refine And.intro (fun q1 => ?_) (fun q1 => ?_)
    · refine hC 62 [] [some (.ref 46), some (.int a), some (.int w), some (.int bt), some (.int bg), some (.int i), o6, o7, o8, o9] _ ?_
      refine hC 70 [.long ((I2 46 29).toInt64 * bt.toInt64)] [some (.ref 46), some (.int a), some (.int w), some (.int bt), some (.int bg), some (.int i), o6, o7, o8, o9] _ ?_
      refine And.intro (fun _ => ?_) (fun qz => absurd qz q1)
      refine hC 81 [] [some (.ref 46), some (.int a), some (.int w), some (.int bt), some (.int bg), some (.int i), some (.long ((I2 46 29).toInt64 * bt.toInt64)), none, o8, o9] _ ?_
      refine And.intro (zvp hi6 rfl) ?_
      refine hC 93 [.long (bg.toInt64 * (I2 70 i.toNatClampNeg).toInt64)] [some (.ref 46), some (.int a), some (.int w), some (.int bt), some (.int bg), some (.int i), some (.long ((I2 46 29).toInt64 * bt.toInt64)), none, o8, o9] _ ?_
      have ec : lg_cmp ((I2 46 29).toInt64 * bt.toInt64) (bg.toInt64 * (I2 70 i.toNatClampNeg).toInt64) = lg_cmp ((g (I 34 i.toNatClampNeg)).toInt64 * bt.toInt64) (bg.toInt64 * (I 34 i.toNatClampNeg).toInt64) := by rw [eg2, e70b]
      refine And.intro (fun q2 => take _ _ _ _ ?_) (fun q2 => ?_)
      · rw [ec] at q2
        unfold zpay
        rw [if_pos gpos, if_neg q1, if_pos q2]
      rw [ec] at q2
      refine And.intro (fun q3 => skip _ _ _ _ ?_) (fun q3 => ?_)
      · rw [ec] at q3
        unfold zpay
        rw [if_pos gpos, if_neg q1, if_neg q2, if_neg q3]
      rw [ec] at q3
      refine And.intro (zvp hi6 rfl) ?_
      refine And.intro (fun q4 => skip _ _ _ _ ?_) (fun q4 => take _ _ _ _ ?_)
      · have q5 : bt ≤ I 34 i.toNatClampNeg := by rw [← e70b]; exact q4
        unfold zpay
        rw [if_pos gpos, if_neg q1, if_neg q2, if_pos q3, if_pos q5]
      · have q5 : ¬ bt ≤ I 34 i.toNatClampNeg := by rw [← e70b]; exact q4
        unfold zpay
        rw [if_pos gpos, if_neg q1, if_neg q2, if_pos q3, if_neg q5]
    · refine hC 70 [.long 1] [some (.ref 46), some (.int a), some (.int w), some (.int bt), some (.int bg), some (.int i), o6, o7, o8, o9] _ ?_
      refine And.intro (fun qz => absurd q1 qz) (fun _ => ?_)
      refine hC 93 [.long 0] [some (.ref 46), some (.int a), some (.int w), some (.int bt), some (.int bg), some (.int i), some (.long 1), none, o8, o9] _ ?_
      refine And.intro (fun _ => take _ _ _ _ ?_) (fun qz => absurd (by decide) qz)
      unfold zpay
      rw [if_pos gpos, if_pos q1]
theorem op_best (I : Nat → Nat → Int32) (J : Nat → Nat → Int64) (hR : zRel I J) (a1 a2 : Int32) (Q : Option Value → zM → Prop) (h : ∀ r I1 J1, (∀ Q' : Option Value → zM → Prop, (∀ I2 J2, zRel I2 J2 → Q' (some (.int r)) (I2, J2, zR, 81)) → zT 60 119 81 [.ref 46, .int a1, .int a2] (I1, J1, zR, 81) Q') → Q (some (.int r)) (I1, J1, zR, 81)) : zT 60 69 81 [.ref 0, .int a1, .int a2] (I, J, zR, 81) Q := by
  obtain ⟨hp, hd, ho, hl, hb, hk, hq, ha, hs, hj, hc, hh, ht⟩ := id hR
  have p2 := hp.2.1
  have d2 := hd.2.1
  refine ⟨rfl, fun E At hE hC => ?_⟩
  replace hC : ∀ pc st L M', zX 81 E Q At (zlk B_X9_best pc) st L M' → At pc st L M' := hC
  refine hC 0 [] [some (.ref 0), some (.int a1), some (.int a2), none, none, none, none] _ ?_
  refine hE _ _ _ _ _ (w_X2_has 58 I J a1 _ rfl (fun c1 => ?_) (fun c1 => ?_))
  · refine And.intro (fun _ => ?_) (fun qz => absurd qz (by decide))
    refine hC 14 [] [some (.ref 0), some (.int a1), some (.int a2), none, none, none, none] _ ?_
    have ha12 : 0 ≤ a1 ∧ a1 < 12 := by clear h hE hC hR hp hd ho hl hb hk hq ha hs hj hc hh ht; grind
    have hpp := hd.2.2.2.1 a1 c1.1 c1.2
    obtain ⟨g, hg⟩ := zgo_ex hR a2 hpp
    refine g_best9 54 E At Q hE hC I J a1 a2 g ha12 hpp p2.2 (ho.2.1 _) hg hs.2.1 hs.2.2.2 (I 0 12).toNatClampNeg 0 (-1) 0 I none (by decide) (Nat.zero_add _).symm (fun _ _ _ _ _ _ => rfl) (fun I1 f1 => ?_)
    have hR1 := zRel_C5 f1 hR
    have e0 := f1 0 (by decide) (by decide) (by decide) (by decide) (by decide)
    have e1 := f1 1 (by decide) (by decide) (by decide) (by decide) (by decide)
    have e3 := f1 3 (by decide) (by decide) (by decide) (by decide) (by decide)
    have e7 := f1 7 (by decide) (by decide) (by decide) (by decide) (by decide)
    have e8 := f1 8 (by decide) (by decide) (by decide) (by decide) (by decide)
    have e9 := f1 9 (by decide) (by decide) (by decide) (by decide) (by decide)
    have e10 := f1 10 (by decide) (by decide) (by decide) (by decide) (by decide)
    have e11 := f1 11 (by decide) (by decide) (by decide) (by decide) (by decide)
    have e16 := f1 16 (by decide) (by decide) (by decide) (by decide) (by decide)
    have e34 := f1 34 (by decide) (by decide) (by decide) (by decide) (by decide)
    have hg1 : zgo I1 (I1 11 a1.toNatClampNeg) a2 g := by
      unfold zgo
      rw [e7, e8, e9, e16, e3, e11]
      exact hg
    refine h _ _ _ (fun Q' hQ => ⟨rfl, fun E2 At2 hE2 hC2 => ?_⟩)
    replace hC2 : ∀ pc st L M', zX 81 E2 Q' At2 (zlk B_X10_best pc) st L M' → At2 pc st L M' := hC2
    refine hC2 0 [] [some (.ref 46), some (.int a1), some (.int a2), none, none, none, none, none, none, none] _ ?_
    refine hE2 _ _ _ _ _ (w_X10_isDie 57 I1 J a1 _ hR1.2.1.1 (fun _ => ?_) (fun q => absurd (show 0 ≤ a1 ∧ a1 ≤ I1 10 5 - 1 by rw [e10]; clear h hQ hE hC hE2 hC2 hR hR1 hp hd ho hl hb hk hq ha hs hj hc hh ht hg hg1 f1 q; grind) q))
    refine And.intro (fun _ => ?_) (fun qz => absurd qz (by decide))
    refine hC2 11 [] [some (.ref 46), some (.int a1), some (.int a2), none, none, none, none, none, none, none] _ ?_
    have i2 := g_best10 56 E2 At2 Q' hE2 hC2 I1 J hR1 a1 a2 g ha12 (by rw [e11, e1]; exact hpp) hg1 (I1 0 12).toNatClampNeg 0 (-1) 0 I1 none none none none (by decide) (Nat.zero_add _).symm ⟨fun _ _ _ => rfl, fun _ _ => rfl⟩ (fun I3 f3 => by
      rw [e34, e0]
      exact hQ _ _ (zRel_M f3.1 f3.2 hR1))
    exact i2
  · refine And.intro (fun qz => absurd rfl qz) (fun _ => ?_)
    refine h _ _ _ (fun Q' hQ => ⟨rfl, fun E2 At2 hE2 hC2 => ?_⟩)
    replace hC2 : ∀ pc st L M', zX 81 E2 Q' At2 (zlk B_X10_best pc) st L M' → At2 pc st L M' := hC2
    refine hC2 0 [] [some (.ref 46), some (.int a1), some (.int a2), none, none, none, none, none, none, none] _ ?_
    refine hE2 _ _ _ _ _ (w_X10_isDie 57 I J a1 _ hd.1 (fun q => absurd (show 0 ≤ a1 ∧ a1 < I 10 5 by clear h hQ hE hC hE2 hC2 hR hp hd ho hl hb hk hq ha hs hj hc hh ht c1; grind) c1) (fun q => ?_))
    refine And.intro (fun qz => absurd rfl qz) (fun _ => ?_)
    exact hQ _ _ hR
