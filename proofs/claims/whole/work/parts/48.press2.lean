set_option maxHeartbeats 4000000 in
theorem w_press10 (d : Nat) (P : zPar) (I : Nat → Nat → Int32) (J : Nat → Nat → Int64) (a b w n nd nb tk : Int32) (Q : Option Value → zM → Prop) {os ol ow la ra pr li sh ev wa : Nat → Int32} (e6 : I 46 6 = nd) (e12 : I 46 12 = tk) (e13 : I 46 13 = nb) (e47 : I 47 = la) (e49 : I 49 = ra) (e52 : I 52 = pr) (e53 : I 53 = li) (e54 : I 54 = sh) (e55 : I 55 = ev) (e56 : I 56 = wa) (e66 : I 66 = os) (e67 : I 67 = ol) (e68 : I 68 = ow) (hnd : 0 ≤ nd ∧ nd ≤ 12) (ha : 0 ≤ a ∧ a < nd) (hb : 200 ≤ b ∧ b ≤ 1200) (m1 : ¬ wa a.toNatClampNeg = -1) (m2 : 3 ≤ tk - wa a.toNatClampNeg ∧ tk - wa a.toNatClampNeg ≤ 12) (m3 : ¬ li a.toNatClampNeg ≤ sh a.toNatClampNeg) (hnb : 0 ≤ nb ∧ nb < 200) (hp : 0 ≤ pr a.toNatClampNeg ∧ pr a.toNatClampNeg < n) (hn : n ≤ 8) (ho : 0 ≤ os (pr a.toNatClampNeg).toNatClampNeg ∧ os (pr a.toNatClampNeg).toNatClampNeg ≤ 3) (hw : (w = 1 ∧ I 46 22 = a ∧ I 46 23 = tk - 1) ∨ (w = 0 ∧ ¬ (I 46 22 = a ∧ I 46 23 = tk - 1))) (h0 : 0 ≤ la 0 ∧ la 0 ≤ 100) (hr : 5 ≤ ra (pr a.toNatClampNeg).toNatClampNeg ∧ ra (pr a.toNatClampNeg).toNatClampNeg ≤ 80) (h5 : 0 ≤ la 5 ∧ la 5 ≤ 20) (hP : zPp P os ol ow la (pr a.toNatClampNeg) (zU la (zA la b (ra (pr a.toNatClampNeg).toNatClampNeg)) w)) (hl2 : 3 ≤ os (pr a.toNatClampNeg).toNatClampNeg → 100 ≤ P.l2) (K : ∀ I' : Nat → Nat → Int32, (∀ c, c ≠ 46 → c ≠ 69 → I' c = I c) → (∀ j, j < 29 ∨ 34 < j → I' 46 j = I 46 j) → (I' 69 0 = zo P.S.2.1 ∧ I' 69 1 = zo P.S.2.2.1 ∧ I' 69 2 = zo P.S.2.2.2) → Q (some (.int (zo P.S.1))) ((zwI (zwI (zwI (zwI (zwI (zwJ (zwJ (zwJ (zwJ (zwJ (zwJ (zwJ (zwI (zwI (zwI (zwI (zwI (zwI (zwI (zwI (zwI (va_up I' 68 (zsv (I' 69) (pr a.toNatClampNeg) (os (pr a.toNatClampNeg).toNatClampNeg).toNatClampNeg 0 ow), J, zR, 81) 57 nb.toNatClampNeg a) 58 nb.toNatClampNeg b) 59 nb.toNatClampNeg (zA la b (ra (pr a.toNatClampNeg).toNatClampNeg))) 60 nb.toNatClampNeg (zo P.S.1)) 61 nb.toNatClampNeg ((zU la (zA la b (ra (pr a.toNatClampNeg).toNatClampNeg)) w) - (zo P.S.1))) 62 nb.toNatClampNeg (zW la (zA la b (ra (pr a.toNatClampNeg).toNatClampNeg)) w)) 63 nb.toNatClampNeg (-1)) 64 nb.toNatClampNeg (-1)) 46 13 (nb + 1)) 65 0 (J 65 0 + ((zH la (zA la b (ra (pr a.toNatClampNeg).toNatClampNeg)))).toInt64)) 65 1 (J 65 1 + ((zTl la (zA la b (ra (pr a.toNatClampNeg).toNatClampNeg)))).toInt64)) 65 2 (J 65 2 + ((zW la (zA la b (ra (pr a.toNatClampNeg).toNatClampNeg)) w)).toInt64)) 65 3 (J 65 3 + ((zo P.S.1)).toInt64)) 65 4 (J 65 4 + (((zU la (zA la b (ra (pr a.toNatClampNeg).toNatClampNeg)) w) - (zo P.S.1))).toInt64)) 65 5 (J 65 5 + ((zA la b (ra (pr a.toNatClampNeg).toNatClampNeg))).toInt64)) 65 6 (J 65 6 + (b).toInt64)) 54 a.toNatClampNeg (sh a.toNatClampNeg + 1)) 55 a.toNatClampNeg (ev a.toNatClampNeg + 1)) 46 22 a) 46 23 tk) 46 12 (tk + 1)))) : zT (d + 4) 111 81 [.ref 46, .int a, .int b] (I, J, zR, 81) Q := by
  have ha12 : 0 ≤ a ∧ a < 12 := by clear K; grind
  have ha2 : 0 ≤ a ∧ a ≤ nd - 1 := by clear K; grind
  refine ⟨rfl, fun E At hE hC => ?_⟩
  replace hC : ∀ pc st L M', zX 81 E Q At (zlk B_X10_press pc) st L M' → At pc st L M' := hC
  have h85 : At 85 [.int w, .int b, .int (I 52 a.toNatClampNeg), .ref 46] [some (.ref 46), some (.int a), some (.int b), some (.int (I 52 a.toNatClampNeg)), none] (I, J, zR, 81) := by
    refine hC 85 [.int w, .int b, .int (I 52 a.toNatClampNeg), .ref 46] [some (.ref 46), some (.int a), some (.int b), some (.int (I 52 a.toNatClampNeg)), none] _ ?_
    refine hE _ _ _ _ _ (w_findBar d P I J (I 52 a.toNatClampNeg) b w n _ e66 e67 e68 e47 e49 (by rw [e52]; exact hp) hn hb h0 (by rw [e52]; exact hr) h5 (by rw [e52]; exact hP) (by rw [e52]; exact hl2) (fun I1 f1 g1 t29 s1 t30 t31 t32 t33 t34 => ?_))
    have k := K I1 f1 g1 s1
    have ep : I 52 a.toNatClampNeg = pr a.toNatClampNeg := by rw [e52]
    have x66 : I1 66 = os := (f1 66 (by decide) (by decide)).trans e66
    have x68 : I1 68 = ow := (f1 68 (by decide) (by decide)).trans e68
    have x54 : I1 54 = sh := (f1 54 (by decide) (by decide)).trans e54
    have x55 : I1 55 = ev := (f1 55 (by decide) (by decide)).trans e55
    have x12 : I1 46 12 = tk := (g1 12 (by omega)).trans e12
    have x13 : I1 46 13 = nb := (g1 13 (by omega)).trans e13
    rw [ep] at t30 t31 t32 t33 t34 ⊢
    have i1 := g_press91 (d + 3) E At Q hE hC I1 J a b (pr a.toNatClampNeg) n hp hn x66 ho (os (pr a.toNatClampNeg).toNatClampNeg).toNatClampNeg 0 ow (by decide) (Nat.zero_add _).symm (fun o2 => by
      refine hC 129 [] [some (.ref 46), some (.int a), some (.int b), some (.int (pr a.toNatClampNeg)), some (.int o2)] _ ?_
      refine p_X10_press_129_0 E At Q _ _ a b (pr a.toNatClampNeg) o2 x13 hnb hnb ?_
      refine p_X10_press_129_12 E At Q _ _ a b (pr a.toNatClampNeg) o2 x13 t29 t30 hnb hnb ?_
      refine p_X10_press_129_26 E At Q _ _ a b (pr a.toNatClampNeg) o2 x13 t29 t33 t34 hnb hnb ?_
      refine p_X10_press_129_43 E At Q _ _ a b (pr a.toNatClampNeg) o2 x13 hnb hnb ?_
      refine p_X10_press_129_55 E At Q _ _ a b (pr a.toNatClampNeg) o2 rfl x13 t31 ?_
      refine p_X10_press_129_71 E At Q _ _ a b (pr a.toNatClampNeg) o2 rfl t32 t33 ?_
      refine p_X10_press_129_91 E At Q _ _ a b (pr a.toNatClampNeg) o2 rfl t29 t34 ?_
      refine p_X10_press_129_114 E At Q _ _ a b (pr a.toNatClampNeg) o2 rfl t30 ?_
      refine p_X10_press_129_133 E At Q _ _ a b (pr a.toNatClampNeg) o2 x54 x55 ha12 ha12 ha12 ha12 ?_
      refine p_X10_press_129_149 E At Q _ _ a b (pr a.toNatClampNeg) o2 x12 ?_
      refine p_X10_press_129_156 E At Q _ _ a b (pr a.toNatClampNeg) o2 x12 t29 ?_
      exact k)
    rw [zup_same x68] at i1
    exact i1
  refine hC 0 [] [some (.ref 46), some (.int a), some (.int b), none, none] _ ?_
  refine hE _ _ _ _ _ (w_X10_isDie (d + 1) I J a _ e6 (fun _ => ?_) (fun q => absurd ha2 q))
  refine And.intro (fun qz => absurd qz (by decide)) (fun _ => ?_)
  refine hE _ _ _ _ _ (w_in32 (d + 2) I J b 200 1200 _ (fun _ => ?_) (fun q => absurd hb q))
  refine And.intro (fun _ => ?_) (fun qz => absurd qz (by decide))
  refine hC 25 [] [some (.ref 46), some (.int a), some (.int b), none, none] _ ?_
  refine hE _ _ _ _ _ (w_X10_mayPress (d + 1) I J a _ e53 e54 e56 e12 ha12 (fun _ => ha12) (fun _ _ => ha12) (fun _ _ => ha12) (fun q => absurd q m1) (fun _ _ q => absurd q m3) (fun _ _ _ => ?_) (fun _ q => absurd m2 q))
  refine And.intro (fun _ => ?_) (fun qz => absurd qz (by decide))
  refine hC 36 [] [some (.ref 46), some (.int a), some (.int b), none, none] _ ?_
  refine And.intro (fun _ => ?_) (fun qz => absurd (show nb = 200 by rw [← e13]; exact qz) (by clear K h85 hE hC qz; grind))
  refine hC 49 [] [some (.ref 46), some (.int a), some (.int b), none, none] _ ?_
  refine And.intro (zvp ha12 rfl) ?_
  have no : ¬ (I 46 22 = a ∧ I 46 23 = tk - 1) → At 84 [.int b, .int (I 52 a.toNatClampNeg), .ref 46] [some (.ref 46), some (.int a), some (.int b), some (.int (I 52 a.toNatClampNeg)), none] (I, J, zR, 81) := fun q => by
    have w0 : w = 0 := by
      rcases hw with z | z
      · exact absurd z.2 q
      · exact z.1
    rw [w0] at h85
    exact hC 84 [.int b, .int (I 52 a.toNatClampNeg), .ref 46] [some (.ref 46), some (.int a), some (.int b), some (.int (I 52 a.toNatClampNeg)), none] _ h85
  refine And.intro (fun q => no (fun z => q z.1)) (fun q => ?_)
  refine And.intro (fun q2 => no (fun z => q2 (by show I 46 23 = I 46 12 - 1; rw [e12]; exact z.2))) (fun q2 => ?_)
  have w1 : w = 1 := by
    rcases hw with z | z
    · exact z.1
    · exact absurd ⟨q, by have q3 : I 46 23 = I 46 12 - 1 := q2; rw [e12] at q3; exact q3⟩ z.2
  rw [w1] at h85
  exact h85
