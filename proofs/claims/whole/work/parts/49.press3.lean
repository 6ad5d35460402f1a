theorem zRel_press {I I4 : Nat → Nat → Int32} {J J4 : Nat → Nat → Int64} {a b w go : Int32} {pc : Nat → Int32} (hR : zRel I J) (ha : 0 ≤ a ∧ a < I 10 5) (hn : I 22 10 < 200) (hg : 0 ≤ go ∧ go ≤ 100000) (hv0 : ∀ o : Int32, 0 ≤ o → o ≤ 2 → I 7 (I 11 a.toNatClampNeg).toNatClampNeg ≤ o → pc o.toNatClampNeg = 0) (hv1 : ∀ o : Int32, 0 ≤ o → o ≤ 2 → ¬ I 7 (I 11 a.toNatClampNeg).toNatClampNeg ≤ o → 0 ≤ I 9 (3 * (I 11 a.toNatClampNeg) + o).toNatClampNeg - pc o.toNatClampNeg ∧ I 9 (3 * (I 11 a.toNatClampNeg) + o).toNatClampNeg - pc o.toNatClampNeg ≤ 500) (u1 : I4 1 = I 1) (u2 : I4 2 = I 2) (u3 : I4 3 = I 3) (u4 : I4 4 = I 4) (u5 : I4 5 = I 5) (u7 : I4 7 = I 7) (u8 : I4 8 = I 8) (u10 : I4 10 = I 10) (u11 : I4 11 = I 11) (u12 : I4 12 = I 12) (u15 : I4 15 = I 15) (u16 : I4 16 = I 16) (u32 : I4 32 = I 32) (u34 : I4 34 = I 34) (u35 : I4 35 = I 35) (u36 : I4 36 = I 36) (u37 : I4 37 = I 37) (u38 : I4 38 = I 38) (u39 : I4 39 = I 39) (u41 : I4 41 = I 41) (u42 : I4 42 = I 42) (u43 : I4 43 = I 43) (u44 : I4 44 = I 44) (u45 : I4 45 = I 45) (u47 : I4 47 = I 47) (u48 : I4 48 = I 48) (u49 : I4 49 = I 49) (u50 : I4 50 = I 50) (u51 : I4 51 = I 51) (u52 : I4 52 = I 52) (u53 : I4 53 = I 53) (u56 : I4 56 = I 56) (u66 : I4 66 = I 66) (u67 : I4 67 = I 67) (u70 : I4 70 = I 70) (u71 : I4 71 = I 71) (u72 : I4 72 = I 72) (u73 : I4 73 = I 73) (u77 : I4 77 = I 77) (u78 : I4 78 = I 78) (u79 : I4 79 = I 79) (u0 : I4 0 = va_up (I 0) 11 (I 0 11 + 1)) (u9 : I4 9 = zsv pc (I 11 a.toNatClampNeg) 3 0 (I 9)) (u13 : I4 13 = va_up (I 13) a.toNatClampNeg (I 13 a.toNatClampNeg + 1)) (u14 : I4 14 = va_up (I 14) a.toNatClampNeg (I 14 a.toNatClampNeg + 1)) (u22 : I4 22 = va_up (va_up (I 22) 10 (I 22 10 + 1)) 11 (I 0 11)) (u23 : I4 23 = va_up (I 23) (I 22 10).toNatClampNeg a) (u24 : I4 24 = va_up (I 24) (I 22 10).toNatClampNeg b) (u25 : I4 25 = va_up (I 25) (I 22 10).toNatClampNeg (zA (I 16) b (I 3 (I 11 a.toNatClampNeg).toNatClampNeg))) (u26 : I4 26 = va_up (I 26) (I 22 10).toNatClampNeg go) (u27 : I4 27 = va_up (I 27) (I 22 10).toNatClampNeg ((zU (I 16) (zA (I 16) b (I 3 (I 11 a.toNatClampNeg).toNatClampNeg)) w) - go)) (u28 : I4 28 = va_up (I 28) (I 22 10).toNatClampNeg (zW (I 16) (zA (I 16) b (I 3 (I 11 a.toNatClampNeg).toNatClampNeg)) w)) (u29 : I4 29 = va_up (I 29) (I 22 10).toNatClampNeg (-1)) (u30 : I4 30 = va_up (I 30) (I 22 10).toNatClampNeg (I 4 (I 11 a.toNatClampNeg).toNatClampNeg)) (u31 : I4 31 = va_up (I 31) (I 22 10).toNatClampNeg (I 5 (I 11 a.toNatClampNeg).toNatClampNeg)) (u33 : I4 33 = va_up (va_up (va_up (va_up (va_up (va_up (va_up (I 33) 0 (I 33 0 + (zH (I 16) (zA (I 16) b (I 3 (I 11 a.toNatClampNeg).toNatClampNeg))))) 1 (I 33 1 + (zTl (I 16) (zA (I 16) b (I 3 (I 11 a.toNatClampNeg).toNatClampNeg))))) 2 (I 33 2 + (zW (I 16) (zA (I 16) b (I 3 (I 11 a.toNatClampNeg).toNatClampNeg)) w))) 3 (I 33 3 + go)) 4 (I 33 4 + ((zU (I 16) (zA (I 16) b (I 3 (I 11 a.toNatClampNeg).toNatClampNeg)) w) - go))) 5 (I 33 5 + (zA (I 16) b (I 3 (I 11 a.toNatClampNeg).toNatClampNeg)))) 6 (I 33 6 + b)) (u54 : I4 54 = va_up (I 54) a.toNatClampNeg (I 13 a.toNatClampNeg + 1)) (u55 : I4 55 = va_up (I 55) a.toNatClampNeg (I 14 a.toNatClampNeg + 1)) (u57 : I4 57 = va_up (I 57) (I 22 10).toNatClampNeg a) (u58 : I4 58 = va_up (I 58) (I 22 10).toNatClampNeg b) (u59 : I4 59 = va_up (I 59) (I 22 10).toNatClampNeg (zA (I 16) b (I 3 (I 11 a.toNatClampNeg).toNatClampNeg))) (u60 : I4 60 = va_up (I 60) (I 22 10).toNatClampNeg go) (u61 : I4 61 = va_up (I 61) (I 22 10).toNatClampNeg ((zU (I 16) (zA (I 16) b (I 3 (I 11 a.toNatClampNeg).toNatClampNeg)) w) - go)) (u62 : I4 62 = va_up (I 62) (I 22 10).toNatClampNeg (zW (I 16) (zA (I 16) b (I 3 (I 11 a.toNatClampNeg).toNatClampNeg)) w)) (u63 : I4 63 = va_up (I 63) (I 22 10).toNatClampNeg (-1)) (u64 : I4 64 = va_up (I 64) (I 22 10).toNatClampNeg (-1)) (u68 : I4 68 = zsv pc (I 11 a.toNatClampNeg) 3 0 (I 9)) (t1 : I4 46 1 = I 46 1) (t6 : I4 46 6 = I 46 6) (t35 : I4 46 35 = I 46 35) (t37 : I4 46 37 = I 46 37) (t41 : I4 46 41 = I 46 41) (t44 : I4 46 44 = I 46 44) (t45 : I4 46 45 = I 46 45) (t51 : I4 46 51 = I 46 51) (t12 : I4 46 12 = I 0 11 + 1) (t13 : I4 46 13 = I 22 10 + 1) (t22 : I4 46 22 = a) (t23 : I4 46 23 = I 0 11) (v65 : J4 65 = va_up (va_up (va_up (va_up (va_up (va_up (va_up (J 65) 0 (J 65 0 + ((zH (I 16) (zA (I 16) b (I 3 (I 11 a.toNatClampNeg).toNatClampNeg)))).toInt64)) 1 (J 65 1 + ((zTl (I 16) (zA (I 16) b (I 3 (I 11 a.toNatClampNeg).toNatClampNeg)))).toInt64)) 2 (J 65 2 + ((zW (I 16) (zA (I 16) b (I 3 (I 11 a.toNatClampNeg).toNatClampNeg)) w)).toInt64)) 3 (J 65 3 + (go).toInt64)) 4 (J 65 4 + (((zU (I 16) (zA (I 16) b (I 3 (I 11 a.toNatClampNeg).toNatClampNeg)) w) - go)).toInt64)) 5 (J 65 5 + ((zA (I 16) b (I 3 (I 11 a.toNatClampNeg).toNatClampNeg))).toInt64)) 6 (J 65 6 + (b).toInt64)) : zRel I4 J4 := by
  obtain ⟨hp, hd, ho, hl, hb, hk, hq, hA, hs, hj, hc, hh, ht⟩ := id hR
  have b2 := hb.2.1
  have p2 := hp.2.1
  have hpp := hd.2.2.2.1 a ha.1 ha.2
  unfold zRel
  rw [u1, u2, u3, u4, u5, u7, u8, u10, u11, u12, u15, u16, u32, u34, u35, u36, u37, u38, u39, u41, u42, u43, u44, u45, u47, u48, u49, u50, u51, u52, u53, u56, u66, u67, u70, u71, u72, u73, u77, u78, u79, u0, u9, u13, u14, u22, u23, u24, u25, u26, u27, u28, u29, u30, u31, u33, u54, u55, u57, u58, u59, u60, u61, u62, u63, u64, u68, t1, t6, t35, t37, t41, t44, t45, t51, t12, t13, t22, t23, v65]
  refine ⟨hp, zRd_wear hd ha _ _, zRo_serve ho p2.2 hpp hv0 hv1, hl, ?_, zRk_add hk ⟨b2.1, hn⟩, ⟨rfl, Or.inr ⟨?_, ?_⟩⟩, zRa_add hA _ _ _ _ _ _ _, hs, hj, hc, hh, ⟨rfl, ht.2.1, ht.2.2.1, ht.2.2.2⟩⟩
  · exact zRb_add hb hn ha rfl rfl hg
  · show 0 < I 22 10 + 1
    clear hR hp hd ho hl hb hk hq hA hs hj hc hh ht hv0 hv1
    grind
  · show a = va_up (I 23) (I 22 10).toNatClampNeg a (I 22 10 + 1 - 1).toNatClampNeg
    have e : I 22 10 + 1 - 1 = I 22 10 := by
      clear hR hp hd ho hl hb hk hq hA hs hj hc hh ht hv0 hv1
      grind
    rw [e, zup_eq]
def zlw (n lt a t : Int32) (di : Nat → Int32) : Int32 := if n ≤ 0 then 0 else if di (n - 1).toNatClampNeg = a then (if lt = t then 1 else 0) else 0
theorem w_latest (d : Nat) (I : Nat → Nat → Int32) (J : Nat → Nat → Int64) (a t : Int32) (Q : Option Value → zM → Prop) (hn : 0 ≤ I 22 10 ∧ I 22 10 ≤ 200) (l : Q (some (.int (zlw (I 22 10) (I 22 11) a t (I 23)))) (I, J, zR, 81)) : zT (d + 1) 4 81 [.ref 22, .int a, .int t] (I, J, zR, 81) Q := by
  unfold zlw at l
  refine w_X1_latestWas d I J a t Q rfl rfl rfl (fun q => by clear l; grind) (fun q1 => ?_) (fun q1 q2 => ?_) (fun q1 q2 q3 => ?_) (fun q1 q2 q3 => ?_)
  · rw [if_pos q1] at l; exact l
  · rw [if_neg q1, if_neg q2] at l; exact l
  · rw [if_neg q1, if_pos q2, if_neg q3] at l; exact l
  · rw [if_neg q1, if_pos q2, if_pos q3] at l; exact l
theorem zlw_w {n lt lt' ld' a t : Int32} {di : Nat → Int32} (h : zRq n lt lt' ld' di) (ha : 0 ≤ a) : (zlw n lt a t di = 1 ∧ ld' = a ∧ lt' = t) ∨ (zlw n lt a t di = 0 ∧ ¬ (ld' = a ∧ lt' = t)) := by
  unfold zlw
  obtain ⟨h1, h2⟩ := h
  rcases h2 with ⟨z1, z2⟩ | ⟨z1, z2⟩
  · rw [if_pos (by rw [z1]; decide)]
    exact Or.inr ⟨rfl, fun z => by rw [z2] at z; have := z.1; clear h1; grind⟩
  · rw [if_neg (by clear h1 z2; grind)]
    by_cases q : di (n - 1).toNatClampNeg = a
    · rw [if_pos q]
      by_cases q2 : lt = t
      · rw [if_pos q2]; exact Or.inl ⟨rfl, z2.trans q, h1.trans q2⟩
      · rw [if_neg q2]; exact Or.inr ⟨rfl, fun z => q2 (h1.symm.trans z.2)⟩
    · rw [if_neg q]; exact Or.inr ⟨rfl, fun z => q (z2.symm.trans z.1)⟩
theorem w_press10r (d : Nat) (I : Nat → Nat → Int32) (J : Nat → Nat → Int64) (a b nd nb tk : Int32) (Q : Option Value → zM → Prop) {li sh wa : Nat → Int32} (e6 : I 46 6 = nd) (e12 : I 46 12 = tk) (e13 : I 46 13 = nb) (e53 : I 53 = li) (e54 : I 54 = sh) (e56 : I 56 = wa) (hnd : 0 ≤ nd ∧ nd ≤ 12) (k1 : ¬ ((0 ≤ a ∧ a < nd) ∧ (200 ≤ b ∧ b ≤ 1200)) → Q (some (.int (-2))) (I, J, zR, 81)) (k2 : (0 ≤ a ∧ a < nd) → (200 ≤ b ∧ b ≤ 1200) → ¬ (¬ wa a.toNatClampNeg = -1 ∧ (3 ≤ tk - wa a.toNatClampNeg ∧ tk - wa a.toNatClampNeg ≤ 12) ∧ ¬ li a.toNatClampNeg ≤ sh a.toNatClampNeg) → Q (some (.int (-3))) (I, J, zR, 81)) (k3 : (0 ≤ a ∧ a < nd) → (200 ≤ b ∧ b ≤ 1200) → (¬ wa a.toNatClampNeg = -1 ∧ (3 ≤ tk - wa a.toNatClampNeg ∧ tk - wa a.toNatClampNeg ≤ 12) ∧ ¬ li a.toNatClampNeg ≤ sh a.toNatClampNeg) → nb = 200 ∧ Q (some (.int (-4))) (I, J, zR, 81)) : zT (d + 4) 111 81 [.ref 46, .int a, .int b] (I, J, zR, 81) Q := by
  refine ⟨rfl, fun E At hE hC => ?_⟩
  replace hC : ∀ pc st L M', zX 81 E Q At (zlk B_X10_press pc) st L M' → At pc st L M' := hC
  have bad : ¬ ((0 ≤ a ∧ a < nd) ∧ (200 ≤ b ∧ b ≤ 1200)) → At 22 [] [some (.ref 46), some (.int a), some (.int b), none, none] (I, J, zR, 81) := fun q => hC 22 [] [some (.ref 46), some (.int a), some (.int b), none, none] _ (k1 q)
  refine hC 0 [] [some (.ref 46), some (.int a), some (.int b), none, none] _ ?_
  refine hE _ _ _ _ _ (w_X10_isDie (d + 1) I J a _ e6 (fun q1 => ?_) (fun q1 => ?_))
  · have c1 : 0 ≤ a ∧ a < nd := by clear k1 k2 k3 bad hE hC; grind
    have ha12 : 0 ≤ a ∧ a < 12 := by clear k1 k2 k3 bad hE hC; grind
    refine And.intro (fun qz => absurd qz (by decide)) (fun _ => ?_)
    refine hE _ _ _ _ _ (w_in32 (d + 2) I J b 200 1200 _ (fun c2 => ?_) (fun q => And.intro (fun qz => absurd rfl qz) (fun _ => bad (fun z => q z.2))))
    refine And.intro (fun _ => ?_) (fun qz => absurd qz (by decide))
    refine hC 25 [] [some (.ref 46), some (.int a), some (.int b), none, none] _ ?_
    refine hE _ _ _ _ _ (w_X10_mayPress (d + 1) I J a _ e53 e54 e56 e12 ha12 (fun _ => ha12) (fun _ _ => ha12) (fun _ _ => ha12) (fun q => ?_) (fun _ _ q => ?_) (fun m1 m2 m3 => ?_) (fun _ q => ?_))
    · exact And.intro (fun qz => absurd rfl qz) (fun _ => k2 c1 c2 (fun z => z.1 q))
    · exact And.intro (fun qz => absurd rfl qz) (fun _ => k2 c1 c2 (fun z => z.2.2 q))
    · refine And.intro (fun _ => ?_) (fun qz => absurd qz (by decide))
      refine hC 36 [] [some (.ref 46), some (.int a), some (.int b), none, none] _ ?_
      have k4 := k3 c1 c2 ⟨m1, m2, m3⟩
      exact And.intro (fun q => absurd (show I 46 13 = 200 by rw [e13]; exact k4.1) q) (fun _ => k4.2)
    · exact And.intro (fun qz => absurd rfl qz) (fun _ => k2 c1 c2 (fun z => q z.2.1))
  · refine And.intro (fun _ => bad (fun z => q1 ?_)) (fun qz => absurd rfl qz)
    have := z.1
    clear k1 k2 k3 bad hE hC q1
    grind
set_option maxHeartbeats 8000000 in
theorem op_press (I : Nat → Nat → Int32) (J : Nat → Nat → Int64) (hR : zRel I J) (a1 a2 : Int32) (Q : Option Value → zM → Prop) (h : ∀ r I1 J1, (∀ Q' : Option Value → zM → Prop, (∀ I2 J2, zRel I2 J2 → Q' (some (.int r)) (I2, J2, zR, 81)) → zT 60 111 81 [.ref 46, .int a1, .int a2] (I1, J1, zR, 81) Q') → Q (some (.int r)) (I1, J1, zR, 81)) : zT 60 62 81 [.ref 0, .int a1, .int a2] (I, J, zR, 81) Q := by
  obtain ⟨hp, hd, ho, hl, hb, hk, hq, ha, hs, hj, hc, hh, ht⟩ := id hR
  have p2 := hp.2.1
  have d2 := hd.2.1
  have b2 := hb.2.1
  refine ⟨rfl, fun E At hE hC => ?_⟩
  replace hC : ∀ pc st L M', zX 81 E Q At (zlk B_X9_press pc) st L M' → At pc st L M' := hC
  have bad : ¬ ((0 ≤ a1 ∧ a1 < I 10 5) ∧ (200 ≤ a2 ∧ a2 ≤ 1200)) → At 24 [] [some (.ref 0), some (.int a1), some (.int a2), none] (I, J, zR, 81) := fun q => by
    refine hC 24 [] [some (.ref 0), some (.int a1), some (.int a2), none] _ ?_
    exact h _ _ _ (fun Q' hQ => w_press10r 56 I J a1 a2 (I 10 5) (I 22 10) (I 0 11) Q' hd.1 ht.1 hb.1 hd.2.2.1.2.1 hd.2.2.1.2.2.1 hd.2.2.1.2.2.2.2 d2 (fun _ => hQ _ _ hR) (fun z1 z2 => absurd ⟨z1, z2⟩ q) (fun z1 z2 => absurd ⟨z1, z2⟩ q))
  refine hC 0 [] [some (.ref 0), some (.int a1), some (.int a2), none] _ ?_
  refine hE _ _ _ _ _ (w_X2_has 58 I J a1 _ rfl (fun c1 => ?_) (fun q => And.intro (fun _ => bad (fun z => q z.1)) (fun qz => absurd rfl qz)))
  refine And.intro (fun qz => absurd qz (by decide)) (fun _ => ?_)
  refine hE _ _ _ _ _ (w_within 58 I J a2 200 1200 _ (fun c2 => ?_) (fun q => And.intro (fun qz => absurd rfl qz) (fun _ => bad (fun z => q z.2))))
  refine And.intro (fun _ => ?_) (fun qz => absurd qz (by decide))
  refine hC 27 [] [some (.ref 0), some (.int a1), some (.int a2), none] _ ?_
  have ha12 : 0 ≤ a1 ∧ a1 < 12 := by clear h bad hE hC hR hp hd ho hl hb hk hq ha hs hj hc hh ht; grind
  have notm : ¬ (¬ I 15 a1.toNatClampNeg = -1 ∧ (3 ≤ I 0 11 - I 15 a1.toNatClampNeg ∧ I 0 11 - I 15 a1.toNatClampNeg ≤ 12) ∧ ¬ I 12 a1.toNatClampNeg ≤ I 13 a1.toNatClampNeg) → Q (some (.int (-3))) (I, J, zR, 81) := fun q =>
    h _ _ _ (fun Q' hQ => w_press10r 56 I J a1 a2 (I 10 5) (I 22 10) (I 0 11) Q' hd.1 ht.1 hb.1 hd.2.2.1.2.1 hd.2.2.1.2.2.1 hd.2.2.1.2.2.2.2 d2 (fun z => absurd ⟨c1, c2⟩ z) (fun _ _ _ => hQ _ _ hR) (fun _ _ z => absurd z q))
  refine hE _ _ _ _ _ (w_X2_mayPress 56 I J a1 _ _ rfl rfl rfl ha12 (fun _ => ha12) (fun _ _ => ha12) (fun _ _ => ha12) (fun q => ?_) (fun _ _ q => ?_) (fun m1 m2 m3 => ?_) (fun _ q => ?_))
  · exact And.intro (fun qz => absurd rfl qz) (fun _ => notm (fun z => z.1 q))
  · exact And.intro (fun qz => absurd rfl qz) (fun _ => notm (fun z => z.2.2 q))
  · refine And.intro (fun _ => ?_) (fun qz => absurd qz (by decide))
    refine hC 45 [] [some (.ref 0), some (.int a1), some (.int a2), none] _ ?_
    refine And.intro (fun c3 => ?_) (fun c3 => ?_)
    · refine hC 61 [] [some (.ref 0), some (.int a1), some (.int a2), none] _ ?_
      refine And.intro (zvp ha12 rfl) ?_
      refine hE _ _ _ _ _ (w_latest 58 I J a1 (I 0 11 - 1) _ b2 ?_)
      have hw := zlw_w (t := I 0 11 - 1) hq c1.1
      generalize zlw (I 22 10) (I 22 11) a1 (I 0 11 - 1) (I 23) = w at hw ⊢
      have hpp := hd.2.2.2.1 a1 c1.1 c1.2
      have hp8 : 0 ≤ I 11 a1.toNatClampNeg ∧ I 11 a1.toNatClampNeg < 8 := by clear h bad notm hE hC hR hp hd ho hl hb hk hq ha hs hj hc hh ht; grind
      have ub := zUb (w := w) hR hpp c2
      obtain ⟨P, hP, hl2, hPR⟩ := zmkP hR hpp (u := zU (I 16) (zA (I 16) a2 (I 3 (I 11 a1.toNatClampNeg).toNatClampNeg)) w) ⟨ub.1, by clear h bad notm hE hC hR hp hd ho hl hb hk hq ha hs hj hc hh ht; grind⟩
      refine hE _ _ _ _ _ (w_foresee 54 P I J (I 11 a1.toNatClampNeg) a2 w (I 1 4) _ hpp p2.2 (ho.2.1 _) hP (fun I1 f1 t0 t1 t2 t3 t4 t6 t7 s1 => ?_))
      have hok := P.okS
      have ukk := ztoI ub
      have gb : 0 ≤ zo P.S.1 ∧ zo P.S.1 ≤ 100000 := by
        have z0 : (0 : Int32) = zo 0 := rfl
        have z1 : (100000 : Int32) = zo 100000 := rfl
        have e9 : (97920 : Int32).toInt = 97920 := rfl
        have bk := P.bk
        have b0 := hok.1
        rw [e9] at ukk
        rw [z0, z1, zo_le ⟨by omega, by omega⟩ ⟨by omega, by omega⟩, zo_le ⟨by omega, by omega⟩ ⟨by omega, by omega⟩]
        omega
      have pq0 := zpiece ho hpp (o := 0) (by decide) (x := P.S.2.1) (m := P.m0) hok.2.1 P.c0 hP.2.1.1
      have pq1 := zpiece ho hpp (o := 1) (by decide) (x := P.S.2.2.1) (m := P.m1) hok.2.2.1 P.c1 hP.2.1.2.1
      have pq2 := zpiece ho hpp (o := 2) (by decide) (x := P.S.2.2.2) (m := P.m2) hok.2.2.2 P.c2 hP.2.1.2.2
      have o012 : ∀ o : Int32, 0 ≤ o → o ≤ 2 → o = 0 ∨ o = 1 ∨ o = 2 := fun o q1 q2 => by clear h bad notm hE hC hR hp hd ho hl hb hk hq ha hs hj hc hh ht hP hl2 f1 pq0 pq1 pq2 hok; grind
      have hv0 : ∀ o : Int32, 0 ≤ o → o ≤ 2 → I 7 (I 11 a1.toNatClampNeg).toNatClampNeg ≤ o → I1 19 o.toNatClampNeg = 0 := fun o q1 q2 q3 => by
        rcases o012 o q1 q2 with rfl | rfl | rfl
        · exact s1.1.trans (pq0.1 q3)
        · exact s1.2.1.trans (pq1.1 q3)
        · exact s1.2.2.trans (pq2.1 q3)
      have hv1 : ∀ o : Int32, 0 ≤ o → o ≤ 2 → ¬ I 7 (I 11 a1.toNatClampNeg).toNatClampNeg ≤ o → 0 ≤ I 9 (3 * I 11 a1.toNatClampNeg + o).toNatClampNeg - I1 19 o.toNatClampNeg ∧ I 9 (3 * I 11 a1.toNatClampNeg + o).toNatClampNeg - I1 19 o.toNatClampNeg ≤ 500 := fun o q1 q2 q3 => by
        rcases o012 o q1 q2 with rfl | rfl | rfl
        · rw [show I1 19 (0 : Int32).toNatClampNeg = _ from s1.1]; exact pq0.2 q3
        · rw [show I1 19 (1 : Int32).toNatClampNeg = _ from s1.2.1]; exact pq1.2 q3
        · rw [show I1 19 (2 : Int32).toNatClampNeg = _ from s1.2.2]; exact pq2.2 q3
      have e0 := f1 0 (by decide) (by decide) (by decide) (by decide) (by decide)
      have e1 := f1 1 (by decide) (by decide) (by decide) (by decide) (by decide)
      have e2 := f1 2 (by decide) (by decide) (by decide) (by decide) (by decide)
      have e3 := f1 3 (by decide) (by decide) (by decide) (by decide) (by decide)
      have e4 := f1 4 (by decide) (by decide) (by decide) (by decide) (by decide)
      have e5 := f1 5 (by decide) (by decide) (by decide) (by decide) (by decide)
      have e7 := f1 7 (by decide) (by decide) (by decide) (by decide) (by decide)
      have e8 := f1 8 (by decide) (by decide) (by decide) (by decide) (by decide)
      have e9 := f1 9 (by decide) (by decide) (by decide) (by decide) (by decide)
      have e10 := f1 10 (by decide) (by decide) (by decide) (by decide) (by decide)
      have e11 := f1 11 (by decide) (by decide) (by decide) (by decide) (by decide)
      have e12 := f1 12 (by decide) (by decide) (by decide) (by decide) (by decide)
      have e13 := f1 13 (by decide) (by decide) (by decide) (by decide) (by decide)
      have e14 := f1 14 (by decide) (by decide) (by decide) (by decide) (by decide)
      have e15 := f1 15 (by decide) (by decide) (by decide) (by decide) (by decide)
      have e16 := f1 16 (by decide) (by decide) (by decide) (by decide) (by decide)
      have e22 := f1 22 (by decide) (by decide) (by decide) (by decide) (by decide)
      have e23 := f1 23 (by decide) (by decide) (by decide) (by decide) (by decide)
      have e24 := f1 24 (by decide) (by decide) (by decide) (by decide) (by decide)
      have e25 := f1 25 (by decide) (by decide) (by decide) (by decide) (by decide)
      have e26 := f1 26 (by decide) (by decide) (by decide) (by decide) (by decide)
      have e27 := f1 27 (by decide) (by decide) (by decide) (by decide) (by decide)
      have e28 := f1 28 (by decide) (by decide) (by decide) (by decide) (by decide)
      have e29 := f1 29 (by decide) (by decide) (by decide) (by decide) (by decide)
      have e30 := f1 30 (by decide) (by decide) (by decide) (by decide) (by decide)
      have e31 := f1 31 (by decide) (by decide) (by decide) (by decide) (by decide)
      have e32 := f1 32 (by decide) (by decide) (by decide) (by decide) (by decide)
      have e33 := f1 33 (by decide) (by decide) (by decide) (by decide) (by decide)
      have e34 := f1 34 (by decide) (by decide) (by decide) (by decide) (by decide)
      have e35 := f1 35 (by decide) (by decide) (by decide) (by decide) (by decide)
      have e36 := f1 36 (by decide) (by decide) (by decide) (by decide) (by decide)
      have e37 := f1 37 (by decide) (by decide) (by decide) (by decide) (by decide)
      have e38 := f1 38 (by decide) (by decide) (by decide) (by decide) (by decide)
      have e39 := f1 39 (by decide) (by decide) (by decide) (by decide) (by decide)
      have e41 := f1 41 (by decide) (by decide) (by decide) (by decide) (by decide)
      have e42 := f1 42 (by decide) (by decide) (by decide) (by decide) (by decide)
      have e43 := f1 43 (by decide) (by decide) (by decide) (by decide) (by decide)
      have e44 := f1 44 (by decide) (by decide) (by decide) (by decide) (by decide)
      have e45 := f1 45 (by decide) (by decide) (by decide) (by decide) (by decide)
      have e46 := f1 46 (by decide) (by decide) (by decide) (by decide) (by decide)
      have e47 := f1 47 (by decide) (by decide) (by decide) (by decide) (by decide)
      have e48 := f1 48 (by decide) (by decide) (by decide) (by decide) (by decide)
      have e49 := f1 49 (by decide) (by decide) (by decide) (by decide) (by decide)
      have e50 := f1 50 (by decide) (by decide) (by decide) (by decide) (by decide)
      have e51 := f1 51 (by decide) (by decide) (by decide) (by decide) (by decide)
      have e52 := f1 52 (by decide) (by decide) (by decide) (by decide) (by decide)
      have e53 := f1 53 (by decide) (by decide) (by decide) (by decide) (by decide)
      have e54 := f1 54 (by decide) (by decide) (by decide) (by decide) (by decide)
      have e55 := f1 55 (by decide) (by decide) (by decide) (by decide) (by decide)
      have e56 := f1 56 (by decide) (by decide) (by decide) (by decide) (by decide)
      have e57 := f1 57 (by decide) (by decide) (by decide) (by decide) (by decide)
      have e58 := f1 58 (by decide) (by decide) (by decide) (by decide) (by decide)
      have e59 := f1 59 (by decide) (by decide) (by decide) (by decide) (by decide)
      have e60 := f1 60 (by decide) (by decide) (by decide) (by decide) (by decide)
      have e61 := f1 61 (by decide) (by decide) (by decide) (by decide) (by decide)
      have e62 := f1 62 (by decide) (by decide) (by decide) (by decide) (by decide)
      have e63 := f1 63 (by decide) (by decide) (by decide) (by decide) (by decide)
      have e64 := f1 64 (by decide) (by decide) (by decide) (by decide) (by decide)
      have e66 := f1 66 (by decide) (by decide) (by decide) (by decide) (by decide)
      have e67 := f1 67 (by decide) (by decide) (by decide) (by decide) (by decide)
      have e68 := f1 68 (by decide) (by decide) (by decide) (by decide) (by decide)
      have e70 := f1 70 (by decide) (by decide) (by decide) (by decide) (by decide)
      have e71 := f1 71 (by decide) (by decide) (by decide) (by decide) (by decide)
      have e72 := f1 72 (by decide) (by decide) (by decide) (by decide) (by decide)
      have e73 := f1 73 (by decide) (by decide) (by decide) (by decide) (by decide)
      have e77 := f1 77 (by decide) (by decide) (by decide) (by decide) (by decide)
      have e78 := f1 78 (by decide) (by decide) (by decide) (by decide) (by decide)
      have e79 := f1 79 (by decide) (by decide) (by decide) (by decide) (by decide)
      have n3 : 0 ≤ I 22 10 ∧ I 22 10 < 200 := ⟨b2.1, c3⟩
      refine And.intro (zvp hp8 rfl) ?_
      refine And.intro (zvp hp8 rfl) ?_
      have rA : I1 4 (I 11 a1.toNatClampNeg).toNatClampNeg = I 4 (I 11 a1.toNatClampNeg).toNatClampNeg := by rw [e4]
      refine hE _ _ _ _ _ (w_X1_add 58 I1 J a1 _ _ _ _ t0 t1 t4 t6 t7 (congrFun e22 10) (fun _ => n3) (fun _ => n3) (fun _ => n3) (fun _ => n3) (fun _ => n3) (fun _ => n3) (fun _ => n3) (fun _ => n3) (fun _ => n3) (fun _ => ?_) (fun q => absurd c3 q))
      refine hE _ _ _ _ _ (w_X0_enter 58 _ J _ t0 t1 t2 t3 t4 t6 t7 (congrFun e33 0) (congrFun e33 1) (congrFun e33 2) (congrFun e33 3) (congrFun e33 4) (congrFun e33 5) (congrFun e33 6) ?_)
      refine hE _ _ _ _ _ (w_serve 58 _ J (I 11 a1.toNatClampNeg) (I 1 4) _ hpp p2.2 (show _ = I1 19 from rfl) e9 ?_)
      refine hE _ _ _ _ _ (w_X2_wear 58 _ J a1 _ e13 e14 ha12 ha12 ha12 ha12 ?_)
      refine h _ _ _ (fun Q' hQ => ?_)
      refine w_press10 56 P _ J a1 a2 w (I 1 4) (I 10 5) (I 22 10) (I 0 11) Q' ((congrFun e46 6).trans hd.1) ((congrFun e46 12).trans ht.1) ((congrFun e46 13).trans hb.1) (e47.trans hl.1) (e49.trans hp.2.2.1.2.1) (e52.trans hd.2.2.1.1) (e53.trans hd.2.2.1.2.1) (e54.trans hd.2.2.1.2.2.1) (e55.trans hd.2.2.1.2.2.2.1) (e56.trans hd.2.2.1.2.2.2.2) (e66.trans ho.1.1) (e67.trans ho.1.2.1) (e68.trans ho.1.2.2) d2 c1 c2 m1 m2 m3 n3 hpp p2.2 (ho.2.1 _) (by
        rcases hw with z | z
        · exact Or.inl ⟨z.1, (congrFun e46 22).trans z.2.1, (congrFun e46 23).trans z.2.2⟩
        · exact Or.inr ⟨z.1, fun y => z.2 ⟨(congrFun e46 22).symm.trans y.1, (congrFun e46 23).symm.trans y.2⟩⟩) hl.2.1 ((hp.2.2.2 _ hpp.1 hpp.2).2.1) hl.2.2.2.2.2.2 hP hl2 (fun I3 f3 g3 s3 => ?_)
      refine zfin t6.symm rfl (hQ _ _ (zRel_press (a := a1) (b := a2) (w := w) (go := zo P.S.1) (pc := I1 19) hR c1 c3 gb hv0 hv1 ((f3 1 (by decide) (by decide)).trans e1) ((f3 2 (by decide) (by decide)).trans e2) ((f3 3 (by decide) (by decide)).trans e3) ((f3 4 (by decide) (by decide)).trans e4) ((f3 5 (by decide) (by decide)).trans e5) ((f3 7 (by decide) (by decide)).trans e7) ((f3 8 (by decide) (by decide)).trans e8) ((f3 10 (by decide) (by decide)).trans e10) ((f3 11 (by decide) (by decide)).trans e11) ((f3 12 (by decide) (by decide)).trans e12) ((f3 15 (by decide) (by decide)).trans e15) ((f3 16 (by decide) (by decide)).trans e16) ((f3 32 (by decide) (by decide)).trans e32) ((f3 34 (by decide) (by decide)).trans e34) ((f3 35 (by decide) (by decide)).trans e35) ((f3 36 (by decide) (by decide)).trans e36) ((f3 37 (by decide) (by decide)).trans e37) ((f3 38 (by decide) (by decide)).trans e38) ((f3 39 (by decide) (by decide)).trans e39) ((f3 41 (by decide) (by decide)).trans e41) ((f3 42 (by decide) (by decide)).trans e42) ((f3 43 (by decide) (by decide)).trans e43) ((f3 44 (by decide) (by decide)).trans e44) ((f3 45 (by decide) (by decide)).trans e45) ((f3 47 (by decide) (by decide)).trans e47) ((f3 48 (by decide) (by decide)).trans e48) ((f3 49 (by decide) (by decide)).trans e49) ((f3 50 (by decide) (by decide)).trans e50) ((f3 51 (by decide) (by decide)).trans e51) ((f3 52 (by decide) (by decide)).trans e52) ((f3 53 (by decide) (by decide)).trans e53) ((f3 56 (by decide) (by decide)).trans e56) ((f3 66 (by decide) (by decide)).trans e66) ((f3 67 (by decide) (by decide)).trans e67) ((f3 70 (by decide) (by decide)).trans e70) ((f3 71 (by decide) (by decide)).trans e71) ((f3 72 (by decide) (by decide)).trans e72) ((f3 73 (by decide) (by decide)).trans e73) ((f3 77 (by decide) (by decide)).trans e77) ((f3 78 (by decide) (by decide)).trans e78) ((f3 79 (by decide) (by decide)).trans e79) ((f3 0 (by decide) (by decide)).trans (by show va_up (I1 0) 11 (I1 0 11 + 1) = _; rw [e0])) ((f3 9 (by decide) (by decide)).trans rfl) ((f3 13 (by decide) (by decide)).trans (zcg_up e13)) ((f3 14 (by decide) (by decide)).trans (zcg_up e14)) ((f3 22 (by decide) (by decide)).trans (by show va_up (va_up (I1 22) 10 (I 22 10 + 1)) 11 (I1 0 11) = _; rw [e22, e0])) ((f3 23 (by decide) (by decide)).trans (zcg_up e23)) ((f3 24 (by decide) (by decide)).trans (zcg_up e24)) ((f3 25 (by decide) (by decide)).trans (zcg_up e25)) ((f3 26 (by decide) (by decide)).trans (zcg_up e26)) ((f3 27 (by decide) (by decide)).trans (zcg_up e27)) ((f3 28 (by decide) (by decide)).trans (zcg_up e28)) ((f3 29 (by decide) (by decide)).trans (zcg_up e29)) ((f3 30 (by decide) (by decide)).trans (by show va_up (I1 30) (I 22 10).toNatClampNeg (I1 4 (I 11 a1.toNatClampNeg).toNatClampNeg) = _; rw [e30, e4])) ((f3 31 (by decide) (by decide)).trans (by show va_up (I1 31) (I 22 10).toNatClampNeg (I1 5 (I 11 a1.toNatClampNeg).toNatClampNeg) = _; rw [e31, e5])) ((f3 33 (by decide) (by decide)).trans (zcg_up (zcg_up (zcg_up (zcg_up (zcg_up (zcg_up (zcg_up e33)))))))) (zcg_up ((f3 54 (by decide) (by decide)).trans e54)) (zcg_up ((f3 55 (by decide) (by decide)).trans e55)) (zcg_up ((f3 57 (by decide) (by decide)).trans e57)) (zcg_up ((f3 58 (by decide) (by decide)).trans e58)) (zcg_up ((f3 59 (by decide) (by decide)).trans e59)) (zcg_up ((f3 60 (by decide) (by decide)).trans e60)) (zcg_up ((f3 61 (by decide) (by decide)).trans e61)) (zcg_up ((f3 62 (by decide) (by decide)).trans e62)) (zcg_up ((f3 63 (by decide) (by decide)).trans e63)) (zcg_up ((f3 64 (by decide) (by decide)).trans e64)) (zsv_cut (ho.2.1 _) (s3.1.trans s1.1.symm) (s3.2.1.trans s1.2.1.symm) (s3.2.2.trans s1.2.2.symm) hv0) ((g3 1 (by omega)).trans (congrFun e46 1)) ((g3 6 (by omega)).trans (congrFun e46 6)) ((g3 35 (by omega)).trans (congrFun e46 35)) ((g3 37 (by omega)).trans (congrFun e46 37)) ((g3 41 (by omega)).trans (congrFun e46 41)) ((g3 44 (by omega)).trans (congrFun e46 44)) ((g3 45 (by omega)).trans (congrFun e46 45)) ((g3 51 (by omega)).trans (congrFun e46 51)) rfl rfl rfl rfl rfl))
    · refine h _ _ _ (fun Q' hQ => w_press10r 56 I J a1 a2 (I 10 5) (I 22 10) (I 0 11) Q' hd.1 ht.1 hb.1 hd.2.2.1.2.1 hd.2.2.1.2.2.1 hd.2.2.1.2.2.2.2 d2 (fun z => absurd ⟨c1, c2⟩ z) (fun _ _ z => absurd ⟨m1, m2, m3⟩ z) (fun _ _ _ => ⟨?_, hQ _ _ hR⟩))
      have c4 : ¬ I 22 10 < 200 := c3
      clear h bad notm hQ hE hC hR hp hd ho hl hb hk hq ha hs hj hc hh ht c3
      grind
  · exact And.intro (fun qz => absurd rfl qz) (fun _ => notm (fun z => q z.2.1))
