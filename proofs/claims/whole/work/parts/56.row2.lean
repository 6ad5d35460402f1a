def zyk (l : List Nat) : Nat → Nat
  | 0 => 7
  | m + 1 => l.getD m 0
def zJr (n : Nat) (I : Nat → Nat → Int32) (gap : Int32) (al ti du pr alp : Nat → Int32) : Prop := n ≤ 7 ∧ I 46 37 = zo (n : Nat) ∧ I 46 41 = gap ∧ I 48 = alp ∧ I 71 = pr ∧ I 72 = ti ∧ I 73 = du ∧ (0 ≤ gap ∧ gap ≤ 20) ∧ ∀ x : Nat, x < n → (1 ≤ ti x ∧ ti x ≤ 50) ∧ (0 ≤ du x ∧ du x ≤ 1000) ∧ (0 ≤ pr x ∧ pr x < 8) ∧ al x = alp (pr x).toNatClampNeg
set_option maxHeartbeats 4000000 in
theorem g_fo53 (E : zE) (At : Nat → zC) (Q : Option Value → zM → Prop) (hC : ∀ pc st L M', zX 81 E Q At (zlk B_X10_findOrder pc) st L M' → At pc st L M') (I : Nat → Nat → Int32) (J : Nat → Nat → Int64) (n : Nat) (gap : Int32) (al ti du pr alp : Nat → Int32) (hJ : zJr n I gap al ti du pr alp) (bt be mo : Int32) (l : List Nat) (hl : zRw n (I 74) l) (hln : ∀ j, j < n → l.getD j 0 < n) : ∀ (r k : Nat) (e s : Int32) (o7 : Option Value), k + r = n → (0 ≤ e.toInt ∧ e.toInt ≤ 70 * k) → (0 ≤ s.toInt ∧ s.toInt ≤ 560 * k) → (∀ o7 : Option Value, At 168 [] [some (.ref 46), some (.int (bt)), some (.int (be)), some (.int (mo)), some (.int ((zco gap al ti du (l.drop k) (zyk l k) e s).2)), some (.int ((zco gap al ti du (l.drop k) (zyk l k) e s).1)), some (.int (zo (n : Nat))), o7] (I, J, zR, 81)) → At 53 [] [some (.ref 46), some (.int (bt)), some (.int (be)), some (.int (mo)), some (.int (e)), some (.int (s)), some (.int (zo (k : Nat))), o7] (I, J, zR, 81)
  | 0, k, e, s, o7, hk, he, hs, K => by
    obtain ⟨hn, j37, j41, j48, j71, j72, j73, hg, hx⟩ := id hJ
    have ek : k = n := by omega
    subst ek
    have ed : l.drop k = [] := List.drop_eq_nil_of_le (by rw [hl.1]; exact Nat.le_refl _)
    rw [ed] at K
    refine hC 53 [] [some (.ref 46), some (.int (bt)), some (.int (be)), some (.int (mo)), some (.int (e)), some (.int (s)), some (.int (zo (k : Nat))), o7] _ ?_
    refine And.intro (fun _ => K o7) (fun qz => absurd (show I 46 37 ≤ zo (k : Nat) by rw [j37]; exact Int32.le_refl _) qz)
  | r + 1, k, e, s, o7, hk, he, hs, K => by
    obtain ⟨hn, j37, j41, j48, j71, j72, j73, hg, hx⟩ := id hJ
    have hkl : k < l.length := by rw [hl.1]; omega
    have k7 : 0 ≤ zo (k : Int) ∧ zo (k : Int) < 7 := zo_in (m := 7) (by omega) (by omega)
    have ek : (zo (k : Int)).toNatClampNeg = k := zo_tn (by omega)
    have hno : ¬ I 46 37 ≤ zo (k : Nat) := by rw [j37, zo_le ⟨by omega, by omega⟩ ⟨by omega, by omega⟩]; omega
    have ed : l.drop k = l.getD k 0 :: l.drop (k + 1) := by
      have e1 : l.getD k 0 = l[k] := by simp [List.getD, List.getElem?_eq_getElem hkl]
      rw [e1]
      exact List.drop_eq_getElem_cons hkl
    rw [ed, zco_s] at K
    have hxn := hln k (by omega)
    have eX : (I 74 (zo (k : Nat)).toNatClampNeg) = zo (l.getD k 0 : Nat) := by rw [ek]; exact hl.2.2 k (by omega)
    have tX : (I 74 (zo (k : Nat)).toNatClampNeg).toNatClampNeg = l.getD k 0 := by rw [eX]; exact zo_tn (by omega)
    have X7 : 0 ≤ (I 74 (zo (k : Nat)).toNatClampNeg) ∧ (I 74 (zo (k : Nat)).toNatClampNeg) < 7 := by rw [eX]; exact zo_in (m := 7) (by omega) (by omega)
    have hxx := hx _ hxn
    have sb := zstep_b (al := al) (y := zyk l k) (e := e) (s := s) hg hxx.1 hxx.2.1 ⟨he.1, by omega⟩ ⟨hs.1, by omega⟩
    have h119 : ∀ e1 : Int32, e1 = e + (if zyk l k = 7 ∨ al (zyk l k) = al (l.getD k 0) then 0 else gap) → At 119 [] [some (.ref 46), some (.int (bt)), some (.int (be)), some (.int (mo)), some (.int (e1)), some (.int (s)), some (.int (zo (k : Nat))), some (.int (I 74 (zo (k : Nat)).toNatClampNeg))] (I, J, zR, 81) := fun e1 ee => by
      have en : e1 + I 72 (I 74 (zo (k : Nat)).toNatClampNeg).toNatClampNeg = zne gap al ti (zyk l k) e (l.getD k 0) := by unfold zne; rw [ee, tX, j72]
      have edu : I 73 (I 74 (zo (k : Nat)).toNatClampNeg).toNatClampNeg = du (l.getD k 0) := by rw [tX, j73]
      refine hC 119 [] [some (.ref 46), some (.int (bt)), some (.int (be)), some (.int (mo)), some (.int (e1)), some (.int (s)), some (.int (zo (k : Nat))), some (.int (I 74 (zo (k : Nat)).toNatClampNeg))] _ ?_
      refine And.intro (zvp X7 rfl) (And.intro (zvp X7 rfl) ?_)
      have nb : 0 ≤ zne gap al ti (zyk l k) e (l.getD k 0) ∧ zne gap al ti (zyk l k) e (l.getD k 0) ≤ 2000 := by
        have e2 : (2000 : Int32).toInt = 2000 := rfl
        refine ⟨Int32.le_iff_toInt_le.mpr sb.1.1, Int32.le_iff_toInt_le.mpr ?_⟩
        rw [e2]
        omega
      have fin : ∀ s1 : Int32, s1 = zns gap al ti du (zyk l k) e s (l.getD k 0) → At 53 [] [some (.ref 46), some (.int (bt)), some (.int (be)), some (.int (mo)), some (.int (e1 + I 72 (I 74 (zo (k : Nat)).toNatClampNeg).toNatClampNeg)), some (.int (s1)), some (.int (zo (k : Nat) + 1)), some (.int (I 74 (zo (k : Nat)).toNatClampNeg))] (I, J, zR, 81) := fun s1 es => by
        rw [es, en]
        have ih := g_fo53 E At Q hC I J n gap al ti du pr alp hJ bt be mo l hl hln r (k + 1) (zne gap al ti (zyk l k) e (l.getD k 0)) (zns gap al ti du (zyk l k) e s (l.getD k 0)) (some (.int (I 74 (zo (k : Nat)).toNatClampNeg))) (by omega) (by omega) (by omega) K
        rw [← zo_s1] at ih
        exact ih
      refine And.intro (fun q => ?_) (fun q => ?_)
      · have q1 : zne gap al ti (zyk l k) e (l.getD k 0) ≤ du (l.getD k 0) := by rw [← en, ← edu]; exact q
        refine hC 158 [.int s] [some (.ref 46), some (.int (bt)), some (.int (be)), some (.int (mo)), some (.int (e1 + I 72 (I 74 (zo (k : Nat)).toNatClampNeg).toNatClampNeg)), some (.int (s)), some (.int (zo (k : Nat))), some (.int (I 74 (zo (k : Nat)).toNatClampNeg))] _ ?_
        refine hC 159 [.int 0, .int s] [some (.ref 46), some (.int (bt)), some (.int (be)), some (.int (mo)), some (.int (e1 + I 72 (I 74 (zo (k : Nat)).toNatClampNeg).toNatClampNeg)), some (.int (s)), some (.int (zo (k : Nat))), some (.int (I 74 (zo (k : Nat)).toNatClampNeg))] _ ?_
        refine fin (s + 0) ?_
        unfold zns
        rw [if_neg]
        have := hxx.2.1
        generalize zne gap al ti (zyk l k) e (l.getD k 0) = A at *
        generalize du (l.getD k 0) = B at *
        clear hC K fin hJ hx hl hln hxx sb
        grind
      · have q1 : ¬ zne gap al ti (zyk l k) e (l.getD k 0) ≤ du (l.getD k 0) := by rw [← en, ← edu]; exact q
        refine And.intro (zvp X7 rfl) ?_
        refine hC 159 [.int (e1 + I 72 (I 74 (zo (k : Nat)).toNatClampNeg).toNatClampNeg - I 73 (I 74 (zo (k : Nat)).toNatClampNeg).toNatClampNeg), .int s] [some (.ref 46), some (.int (bt)), some (.int (be)), some (.int (mo)), some (.int (e1 + I 72 (I 74 (zo (k : Nat)).toNatClampNeg).toNatClampNeg)), some (.int (s)), some (.int (zo (k : Nat))), some (.int (I 74 (zo (k : Nat)).toNatClampNeg))] _ ?_
        refine fin (s + (e1 + I 72 (I 74 (zo (k : Nat)).toNatClampNeg).toNatClampNeg - I 73 (I 74 (zo (k : Nat)).toNatClampNeg).toNatClampNeg)) ?_
        unfold zns
        rw [en, edu, if_pos]
        have := hxx.2.1
        generalize zne gap al ti (zyk l k) e (l.getD k 0) = A at *
        generalize du (l.getD k 0) = B at *
        clear hC K fin hJ hx hl hln hxx sb
        grind
    refine hC 53 [] [some (.ref 46), some (.int (bt)), some (.int (be)), some (.int (mo)), some (.int (e)), some (.int (s)), some (.int (zo (k : Nat))), o7] _ ?_
    refine And.intro (fun qz => absurd qz hno) (fun _ => ?_)
    refine And.intro (zvp k7 rfl) ?_
    have z0 : (0 : Int32) = zo 0 := rfl
    refine And.intro (fun q => ?_) (fun q => ?_)
    · have q1 : k = 0 := by
        have q2 : zo (k : Int) ≤ 0 := q
        rw [z0, zo_le ⟨by omega, by omega⟩ ⟨by omega, by omega⟩] at q2
        omega
      refine h119 e ?_
      rw [if_pos (Or.inl (by rw [q1]; rfl)), Int32.add_zero]
    · have q1 : 0 < k := by
        have q2 : ¬ zo (k : Int) ≤ 0 := q
        rw [z0, zo_le ⟨by omega, by omega⟩ ⟨by omega, by omega⟩] at q2
        omega
      have yk : zyk l k = l.getD (k - 1) 0 := by
        have : k = (k - 1) + 1 := by omega
        rw [this]
        rfl
      have hyn := hln (k - 1) (by omega)
      have hyy := hx _ hyn
      have ek1 : zo (k : Int) - 1 = zo ((k - 1 : Nat) : Int) := zo_p1 q1
      have eY : I 74 (zo (k : Int) - 1).toNatClampNeg = zo (l.getD (k - 1) 0 : Nat) := by rw [ek1, zo_tn (by omega)]; exact hl.2.2 (k - 1) (by omega)
      have tY : (I 74 (zo (k : Int) - 1).toNatClampNeg).toNatClampNeg = l.getD (k - 1) 0 := by rw [eY]; exact zo_tn (by omega)
      have aX : I 48 (I 71 (I 74 (zo (k : Nat)).toNatClampNeg).toNatClampNeg).toNatClampNeg = al (l.getD k 0) := by rw [tX, j71, j48]; exact hxx.2.2.2.symm
      have aY : I 48 (I 71 (I 74 (zo (k : Int) - 1).toNatClampNeg).toNatClampNeg).toNatClampNeg = al (zyk l k) := by rw [tY, j71, j48, yk]; exact hyy.2.2.2.symm
      refine And.intro (zvp X7 rfl) ?_
      refine And.intro (zvp (show 0 ≤ I 71 (I 74 (zo (k : Nat)).toNatClampNeg).toNatClampNeg ∧ I 71 (I 74 (zo (k : Nat)).toNatClampNeg).toNatClampNeg < 8 by rw [tX, j71]; exact hxx.2.2.1) rfl) ?_
      refine And.intro (zvp (show 0 ≤ zo (k : Int) - 1 ∧ zo (k : Int) - 1 < 7 by rw [ek1]; exact zo_in (m := 7) (by omega) (by omega)) rfl) ?_
      refine And.intro (zvp (show 0 ≤ I 74 (zo (k : Int) - 1).toNatClampNeg ∧ I 74 (zo (k : Int) - 1).toNatClampNeg < 7 by rw [eY]; exact zo_in (m := 7) (by omega) (by omega)) rfl) ?_
      refine And.intro (zvp (show 0 ≤ I 71 (I 74 (zo (k : Int) - 1).toNatClampNeg).toNatClampNeg ∧ I 71 (I 74 (zo (k : Int) - 1).toNatClampNeg).toNatClampNeg < 8 by rw [tY, j71]; exact hyy.2.2.1) rfl) ?_
      refine And.intro (fun w => ?_) (fun w => ?_)
      · have w1 : al (zyk l k) = al (l.getD k 0) := by rw [← aX, ← aY]; exact w.symm
        refine h119 e ?_
        rw [if_pos (Or.inr w1), Int32.add_zero]
      · have w1 : ¬ al (zyk l k) = al (l.getD k 0) := by rw [← aX, ← aY]; exact fun z => w z.symm
        refine h119 (e + I 46 41) ?_
        rw [if_neg, j41]
        rintro (z | z)
        · rw [yk] at z
          omega
        · exact w1 z
