theorem g_X7_move_0 (d : Nat) (E : zE) (At : Nat → zC) (Q : Option Value → zM → Prop) (hE : ∀ y n a M' Q', zT (d + 1) y n a M' Q' → E y n a M' Q') (hC : ∀ pc st L M', zX 81 E Q At (zlk B_X7_move pc) st L M' → At pc st L M') (I : Nat → Nat → Int32) (J : Nat → Nat → Int64) (v1 : Int32) (v2 : Int32) (v3 : Int32) (v4 : Int32) (v5 : Int32) {f44 : Nat → Int32} (e44 : I 44 = f44) {f45 : Nat → Int32} (e45 : I 45 = f45) (b1 : 0 ≤ v1 ∧ v1 < 4) (b2 : (¬ ((f45 (v1 : Int32).toNatClampNeg) = (-1))) → 0 ≤ v3 ∧ v3 < 4) (b3 : (¬ ((f45 (v1 : Int32).toNatClampNeg) = (-1))) → (¬ ((f45 (v3 : Int32).toNatClampNeg) = (-1))) → 0 ≤ v1 ∧ v1 < 4) (b4 : (¬ ((f45 (v1 : Int32).toNatClampNeg) = (-1))) → (¬ ((f45 (v3 : Int32).toNatClampNeg) = (-1))) → 0 ≤ v3 ∧ v3 < 4) (b5 : (¬ ((f45 (v1 : Int32).toNatClampNeg) = (-1))) → (¬ ((f45 (v3 : Int32).toNatClampNeg) = (-1))) → ((f44 (v1 : Int32).toNatClampNeg) = (f44 (v3 : Int32).toNatClampNeg)) → (¬ (v2 < 0)) → (¬ (v4 < 0)) → (¬ (v5 < 0)) → 0 ≤ v1 ∧ v1 < 4) (b6 : (¬ ((f45 (v1 : Int32).toNatClampNeg) = (-1))) → (¬ ((f45 (v3 : Int32).toNatClampNeg) = (-1))) → ((f44 (v1 : Int32).toNatClampNeg) = (f44 (v3 : Int32).toNatClampNeg)) → (¬ (v2 < 0)) → (¬ (v4 < 0)) → (¬ (v5 < 0)) → (¬ (((f45 (v1 : Int32).toNatClampNeg) - v2) < v5)) → 0 ≤ v3 ∧ v3 < 4) (k1 : (¬ ((f45 (v1 : Int32).toNatClampNeg) = (-1))) → (¬ ((f45 (v3 : Int32).toNatClampNeg) = (-1))) → ((f44 (v1 : Int32).toNatClampNeg) = (f44 (v3 : Int32).toNatClampNeg)) → (¬ (v2 < 0)) → (¬ (v4 < 0)) → (¬ (v5 < 0)) → (¬ (((f45 (v1 : Int32).toNatClampNeg) - v2) < v5)) → (v5 ≤ ((f45 (v3 : Int32).toNatClampNeg) - v4)) → At 94 [] [some (.ref 42), some (.int v1), some (.int v2), some (.int v3), some (.int v4), some (.int v5)] (I, J, zR, 81)) (l1 : ((f45 (v1 : Int32).toNatClampNeg) = (-1)) → Q (some (.int ((-10) - 1))) (zwI (I, J, zR, 81) 42 1 1)) (l2 : (¬ ((f45 (v1 : Int32).toNatClampNeg) = (-1))) → (¬ ((f45 (v3 : Int32).toNatClampNeg) = (-1))) → ((f44 (v1 : Int32).toNatClampNeg) = (f44 (v3 : Int32).toNatClampNeg)) → (v2 < 0) → Q (some (.int ((-10) - 2))) (zwI (I, J, zR, 81) 42 1 2)) (l3 : (¬ ((f45 (v1 : Int32).toNatClampNeg) = (-1))) → (¬ ((f45 (v3 : Int32).toNatClampNeg) = (-1))) → ((f44 (v1 : Int32).toNatClampNeg) = (f44 (v3 : Int32).toNatClampNeg)) → (¬ (v2 < 0)) → (v4 < 0) → Q (some (.int ((-10) - 2))) (zwI (I, J, zR, 81) 42 1 2)) (l4 : (¬ ((f45 (v1 : Int32).toNatClampNeg) = (-1))) → (¬ ((f45 (v3 : Int32).toNatClampNeg) = (-1))) → ((f44 (v1 : Int32).toNatClampNeg) = (f44 (v3 : Int32).toNatClampNeg)) → (¬ (v2 < 0)) → (¬ (v4 < 0)) → (v5 < 0) → Q (some (.int ((-10) - 2))) (zwI (I, J, zR, 81) 42 1 2)) (l5 : (¬ ((f45 (v1 : Int32).toNatClampNeg) = (-1))) → (¬ ((f45 (v3 : Int32).toNatClampNeg) = (-1))) → ((f44 (v1 : Int32).toNatClampNeg) = (f44 (v3 : Int32).toNatClampNeg)) → (¬ (v2 < 0)) → (¬ (v4 < 0)) → (¬ (v5 < 0)) → (((f45 (v1 : Int32).toNatClampNeg) - v2) < v5) → Q (some (.int ((-10) - 2))) (zwI (I, J, zR, 81) 42 1 2)) (l6 : (¬ ((f45 (v1 : Int32).toNatClampNeg) = (-1))) → (¬ ((f45 (v3 : Int32).toNatClampNeg) = (-1))) → ((f44 (v1 : Int32).toNatClampNeg) = (f44 (v3 : Int32).toNatClampNeg)) → (¬ (v2 < 0)) → (¬ (v4 < 0)) → (¬ (v5 < 0)) → (¬ (((f45 (v1 : Int32).toNatClampNeg) - v2) < v5)) → (¬ (v5 ≤ ((f45 (v3 : Int32).toNatClampNeg) - v4))) → Q (some (.int ((-10) - 2))) (zwI (I, J, zR, 81) 42 1 2)) (l7 : (¬ ((f45 (v1 : Int32).toNatClampNeg) = (-1))) → (¬ ((f45 (v3 : Int32).toNatClampNeg) = (-1))) → (¬ ((f44 (v1 : Int32).toNatClampNeg) = (f44 (v3 : Int32).toNatClampNeg))) → Q (some (.int ((-10) - 4))) (zwI (I, J, zR, 81) 42 1 4)) (l8 : (¬ ((f45 (v1 : Int32).toNatClampNeg) = (-1))) → ((f45 (v3 : Int32).toNatClampNeg) = (-1)) → Q (some (.int ((-10) - 1))) (zwI (I, J, zR, 81) 42 1 1)) : At 0 [] [some (.ref 42), some (.int v1), some (.int v2), some (.int v3), some (.int v4), some (.int v5)] (I, J, zR, 81) := by
  subst e44 e45
  refine hC 0 [] [some (.ref 42), some (.int v1), some (.int v2), some (.int v3), some (.int v4), some (.int v5)] _ ?_
  refine And.intro (zvp (b1) rfl) ?_
  refine And.intro (fun q1 => ?_) (fun q1 => ?_)
  · skip
    refine hC 20 [] [some (.ref 42), some (.int v1), some (.int v2), some (.int v3), some (.int v4), some (.int v5)] _ ?_
    refine hE _ _ _ _ _ (w_X7_found _ _ _ (1) _   (?_))
    · skip
      exact l1 q1
  · skip
    refine And.intro (zvp (b2 q1) rfl) ?_
    refine And.intro (fun q2 => ?_) (fun q2 => ?_)
    · skip
      refine hC 26 [] [some (.ref 42), some (.int v1), some (.int v2), some (.int v3), some (.int v4), some (.int v5)] _ ?_
      refine And.intro (zvp (b3 q1 q2) rfl) ?_
      refine And.intro (zvp (b4 q1 q2) rfl) ?_
      refine And.intro (fun q3 => ?_) (fun q3 => ?_)
      · skip
        refine hC 47 [] [some (.ref 42), some (.int v1), some (.int v2), some (.int v3), some (.int v4), some (.int v5)] _ ?_
        refine And.intro (fun q4 => ?_) (fun q4 => ?_)
        · skip
          refine hC 88 [] [some (.ref 42), some (.int v1), some (.int v2), some (.int v3), some (.int v4), some (.int v5)] _ ?_
          refine hE _ _ _ _ _ (w_X7_found _ _ _ (2) _   (?_))
          · skip
            exact l2 q1 q2 q3 q4
        · skip
          refine And.intro (fun q5 => ?_) (fun q5 => ?_)
          · skip
            refine hC 88 [] [some (.ref 42), some (.int v1), some (.int v2), some (.int v3), some (.int v4), some (.int v5)] _ ?_
            refine hE _ _ _ _ _ (w_X7_found _ _ _ (2) _   (?_))
            · skip
              exact l3 q1 q2 q3 q4 q5
          · skip
            refine And.intro (fun q6 => ?_) (fun q6 => ?_)
            · skip
              refine hC 88 [] [some (.ref 42), some (.int v1), some (.int v2), some (.int v3), some (.int v4), some (.int v5)] _ ?_
              refine hE _ _ _ _ _ (w_X7_found _ _ _ (2) _   (?_))
              · skip
                exact l4 q1 q2 q3 q4 q5 q6
            · skip
              refine And.intro (zvp (b5 q1 q2 q3 q4 q5 q6) rfl) ?_
              refine And.intro (fun q7 => ?_) (fun q7 => ?_)
              · skip
                refine hC 88 [] [some (.ref 42), some (.int v1), some (.int v2), some (.int v3), some (.int v4), some (.int v5)] _ ?_
                refine hE _ _ _ _ _ (w_X7_found _ _ _ (2) _   (?_))
                · skip
                  exact l5 q1 q2 q3 q4 q5 q6 q7
              · skip
                refine And.intro (zvp (b6 q1 q2 q3 q4 q5 q6 q7) rfl) ?_
                refine And.intro (fun q8 => ?_) (fun q8 => ?_)
                · skip
                  exact k1 q1 q2 q3 q4 q5 q6 q7 q8
                · skip
                  refine hC 88 [] [some (.ref 42), some (.int v1), some (.int v2), some (.int v3), some (.int v4), some (.int v5)] _ ?_
                  refine hE _ _ _ _ _ (w_X7_found _ _ _ (2) _   (?_))
                  · skip
                    exact l6 q1 q2 q3 q4 q5 q6 q7 q8
      · skip
        refine hE _ _ _ _ _ (w_X7_found _ _ _ (4) _   (?_))
        · skip
          exact l7 q1 q2 q3
    · skip
      refine hC 20 [] [some (.ref 42), some (.int v1), some (.int v2), some (.int v3), some (.int v4), some (.int v5)] _ ?_
      refine hE _ _ _ _ _ (w_X7_found _ _ _ (1) _   (?_))
      · skip
        exact l8 q1 q2
/-! sheet -/
def zzr (s : Int32) : Nat → Int32 → (Nat → Int32) → (Nat → Int32)
  | 0, _, f => f
  | r + 1, i, f => zzr s r (i + 1) (va_up f (200 * s + i).toNatClampNeg 0)
theorem g_renew (d : Nat) (E : zE) (At : Nat → zC) (Q : Option Value → zM → Prop) (hE : ∀ y n a M' Q', zT (d + 0) y n a M' Q' → E y n a M' Q') (hC : ∀ pc st L M', zX 81 E Q At (zlk B_X7_renew pc) st L M' → At pc st L M') (I : Nat → Nat → Int32) (J : Nat → Nat → Int64) (s fm n : Int32) (hs : 0 ≤ s ∧ s ≤ 3) (hn : 0 ≤ n ∧ n ≤ 200) : ∀ (r : Nat) (i : Int32) (f : Nat → Int32), 0 ≤ i → n.toNatClampNeg = i.toNatClampNeg + r → Q (some (.int n)) (va_up I 43 (zzr s r i f), J, zR, 81) → At 27 [] [some (.ref 42), some (.int s), some (.int fm), some (.int n), some (.int i)] (va_up I 43 f, J, zR, 81)
  | 0, i, f, h0, hr, hQ => by
    have hl : n ≤ i := zlast h0 hn.1 hr
    exact g_X7_renew_27 d E At Q hE hC (va_up I 43 f) J s fm n i (fun q => absurd hl q) (fun q => absurd hl q) (fun _ => hQ)
  | r + 1, i, f, h0, hr, hQ => by
    obtain ⟨h1, h2, h3⟩ := znext h0 (by clear hE hC hQ; grind) hr
    have hbi : 0 ≤ i ∧ i < 200 := by clear hE hC hQ; grind
    refine g_X7_renew_27 d E At Q hE hC (va_up I 43 f) J s fm n i (fun _ => zb800 hs hbi) (fun _ => ?_) (fun q => absurd h1 (by clear hE hC hQ; grind))
    have ih := g_renew d E At Q hE hC I J s fm n hs hn r (i + 1) _ h2 h3 hQ
    rw [← zuu (v := f), Int32.mul_comm 200 s] at ih
    exact ih
theorem g_sheet10 (d : Nat) (E : zE) (At : Nat → zC) (Q : Option Value → zM → Prop) (hE : ∀ y n a M' Q', zT (d + 0) y n a M' Q' → E y n a M' Q') (hC : ∀ pc st L M', zX 81 E Q At (zlk B_X10_sheet pc) st L M' → At pc st L M') (I : Nat → Nat → Int32) (J : Nat → Nat → Int64) (s fm n : Int32) (hs : 0 ≤ s ∧ s ≤ 3) (hn : 0 ≤ n ∧ n ≤ 200) : ∀ (r : Nat) (i : Int32) (f : Nat → Int32), 0 ≤ i → n.toNatClampNeg = i.toNatClampNeg + r → Q (some (.int n)) (va_up I 79 (zzr s r i f), J, zR, 81) → At 56 [] [some (.ref 46), some (.int s), some (.int fm), some (.int n), some (.int i)] (va_up I 79 f, J, zR, 81)
  | 0, i, f, h0, hr, hQ => by
    have hl : n ≤ i := zlast h0 hn.1 hr
    exact g_X10_sheet_56 d E At Q hE hC (va_up I 79 f) J s fm n i (fun q => absurd hl q) (fun q => absurd hl q) (fun _ => hQ)
  | r + 1, i, f, h0, hr, hQ => by
    obtain ⟨h1, h2, h3⟩ := znext h0 (by clear hE hC hQ; grind) hr
    have hbi : 0 ≤ i ∧ i < 200 := by clear hE hC hQ; grind
    refine g_X10_sheet_56 d E At Q hE hC (va_up I 79 f) J s fm n i (fun _ => zb800b hs hbi) (fun _ => ?_) (fun q => absurd h1 (by clear hE hC hQ; grind))
    have ih := g_sheet10 d E At Q hE hC I J s fm n hs hn r (i + 1) _ h2 h3 hQ
    rw [← zuu (v := f)] at ih
    exact ih
theorem zRh_new {fi fi' s fm n : Int32} {it fo sz it' fo' sz' it2 : Nat → Int32} (h : zRh fi fi' it fo sz it' fo' sz') (hs : 0 ≤ s) (hn : 0 ≤ n ∧ n ≤ 200) (hf : 0 ≤ fm ∧ fm ≤ 2) : zRh fi fi' it2 (va_up fo s.toNatClampNeg fm) (va_up sz s.toNatClampNeg n) it2 (va_up fo' s.toNatClampNeg fm) (va_up sz' s.toNatClampNeg n) := by
  refine ⟨h.1, rfl, fun k h1 h2 => ?_⟩
  rw [zup_i h1 hs, zup_i h1 hs, zup_i h1 hs, zup_i h1 hs]
  by_cases q : k = s
  · rw [if_pos q, if_pos q, if_pos q, if_pos q]; exact Or.inr ⟨hn, rfl, rfl, hf⟩
  · rw [if_neg q, if_neg q, if_neg q, if_neg q]; exact h.2.2 k h1 h2
set_option maxHeartbeats 2000000 in
theorem op_sheet (I : Nat → Nat → Int32) (J : Nat → Nat → Int64) (hR : zRel I J) (a1 a2 a3 : Int32) (Q : Option Value → zM → Prop) (h : ∀ r I1 J1, (∀ Q' : Option Value → zM → Prop, (∀ I2 J2, zRel I2 J2 → Q' (some (.int r)) (I2, J2, zR, 81)) → zT 60 139 81 [.ref 46, .int a1, .int a2, .int a3] (I1, J1, zR, 81) Q') → Q (some (.int r)) (I1, J1, zR, 81)) : zT 60 81 81 [.ref 0, .int a1, .int a2, .int a3] (I, J, zR, 81) Q := by
  obtain ⟨hp, hd, ho, hl, hb, hk, hq, ha, hs, hj, hc, hh, ht⟩ := id hR
  have bad : (¬ (0 ≤ a1 ∧ a1 ≤ 3) ∨ ¬ (0 ≤ a2 ∧ a2 ≤ 2) ∨ ¬ a3 ≤ 200) → Q (some (.int (-2))) (I, J, zR, 81) := fun c => by
    refine h _ _ _ (fun Q' hQ => ⟨rfl, fun E At hE hC => ?_⟩)
    refine g_X10_sheet_0 57 E At Q' hE hC I J a1 a2 a3 (fun q1 q2 q3 _ => ?_) (fun q1 q2 q3 _ => ?_) (fun q1 q2 q3 _ => ?_) (fun q1 q2 q3 _ => ?_) (fun _ _ _ => hQ _ _ hR) (fun _ _ => hQ _ _ hR) (fun _ => hQ _ _ hR)
    all_goals (exfalso; rcases c with z | z | z; exact z q1; exact z q2; exact z q3)
  refine ⟨rfl, fun E At hE hC => ?_⟩
  replace hC : ∀ pc st L M', zX 81 E Q At (zlk B_X9_sheet pc) st L M' → At pc st L M' := hC
  refine hC 0 [] [some (.ref 0), some (.int a1), some (.int a2), some (.int a3)] _ ?_
  refine hE _ _ _ _ _ (w_X9_isSheet 57 I J a1 _ (fun c1 => ?_) (fun c1 => ?_))
  · refine And.intro (fun qz => absurd qz (by decide)) (fun _ => ?_)
    refine hE _ _ _ _ _ (w_X9_isForm 57 I J a2 _ (fun c2 => ?_) (fun c2 => ?_))
    · refine And.intro (fun qz => absurd qz (by decide)) (fun _ => ?_)
      refine And.intro (fun c3 => ?_) (fun c3 => ?_)
      · refine hC 24 [] [some (.ref 0), some (.int a1), some (.int a2), some (.int a3)] _ ?_
        have c14 : 0 ≤ a1 ∧ a1 < 4 := by clear h bad hE hC hR hp hd ho hl hb hk hq ha hs hj hc hh ht; grind
        refine hE _ _ _ _ _ ⟨rfl, fun E2 At2 hE2 hC2 => ?_⟩
        refine g_X7_renew_0 57 E2 At2 _ hE2 hC2 I J a1 a2 a3 (fun _ => c14) (fun _ => c14) (fun c4 => ?_) (fun c4 => ?_)
        · have ih := g_renew 58 E2 At2 _ hE2 hC2 (va_up (va_up I 44 (va_up (I 44) a1.toNatClampNeg a2)) 45 (va_up (I 45) a1.toNatClampNeg a3)) J a1 a2 a3 c1 ⟨c4, c3⟩ a3.toNatClampNeg 0 (I 43) (by decide) (Nat.zero_add _).symm (h _ _ _ (fun Q' hQ => ⟨rfl, fun E3 At3 hE3 hC3 => g_X10_sheet_0 57 E3 At3 Q' hE3 hC3 _ J a1 a2 a3 (fun _ _ _ _ => c14) (fun _ _ _ _ => c14) (fun _ _ _ _ => ?_) (fun _ _ _ q => absurd c4 q) (fun _ _ q => absurd c3 q) (fun _ q => absurd c2 q) (fun q => absurd c1 q)⟩))
          · rw [zup_same (f := va_up (va_up I 44 (va_up (I 44) a1.toNatClampNeg a2)) 45 (va_up (I 45) a1.toNatClampNeg a3)) (k := 43) (v := I 43) rfl] at ih
            exact ih
          · have ih2 := g_sheet10 59 E3 At3 Q' hE3 hC3 (va_up (va_up (va_up (va_up (va_up I 44 (va_up (I 44) a1.toNatClampNeg a2)) 45 (va_up (I 45) a1.toNatClampNeg a3)) 43 (zzr a1 a3.toNatClampNeg 0 (I 43))) 77 (va_up (I 77) a1.toNatClampNeg a2)) 78 (va_up (I 78) a1.toNatClampNeg a3)) J a1 a2 a3 c1 ⟨c4, c3⟩ a3.toNatClampNeg 0 (I 43) (by decide) (Nat.zero_add _).symm (hQ _ _ ⟨hp, hd, ho, hl, hb, hk, hq, ha, hs, hj, hc, zRh_new hh c1.1 ⟨c4, c3⟩ c2, ht⟩)
            rw [zup_same (f := va_up (va_up (va_up (va_up (va_up I 44 (va_up (I 44) a1.toNatClampNeg a2)) 45 (va_up (I 45) a1.toNatClampNeg a3)) 43 (zzr a1 a3.toNatClampNeg 0 (I 43))) 77 (va_up (I 77) a1.toNatClampNeg a2)) 78 (va_up (I 78) a1.toNatClampNeg a3)) (k := 79) (v := I 43) hh.2.1] at ih2
            exact ih2
        · refine h _ _ _ (fun Q' hQ => ⟨rfl, fun E3 At3 hE3 hC3 => g_X10_sheet_0 57 E3 At3 Q' hE3 hC3 _ J a1 a2 a3 (fun _ _ _ q => absurd q c4) (fun _ _ _ q => absurd q c4) (fun _ _ _ q => absurd q c4) (fun _ _ _ _ => ?_) (fun _ _ q => absurd c3 q) (fun _ q => absurd c2 q) (fun q => absurd c1 q)⟩)
          exact hQ _ _ ⟨hp, hd, ho, hl, hb, hk, hq, ha, hs, hj, hc, zRh_fi hh, ht⟩
      · exact hC 21 [] [some (.ref 0), some (.int a1), some (.int a2), some (.int a3)] _ (bad (Or.inr (Or.inr c3)))
    · refine And.intro (fun _ => ?_) (fun qz => absurd rfl qz)
      exact hC 21 [] [some (.ref 0), some (.int a1), some (.int a2), some (.int a3)] _ (bad (Or.inr (Or.inl c2)))
  · refine And.intro (fun _ => ?_) (fun qz => absurd rfl qz)
    exact hC 21 [] [some (.ref 0), some (.int a1), some (.int a2), some (.int a3)] _ (bad (Or.inl c1))
