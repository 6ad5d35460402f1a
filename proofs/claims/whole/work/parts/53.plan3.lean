theorem zprune2 {n k place : Nat} {I0 : Nat → Nat → Int32} {gap : Int32} {al ti du : Nat → Int32} (hJ : zJ n I0 gap al ti du) {tr : List Nat} {e s : Int32} {b : zBb} (hk : place + k = n) (he : 0 ≤ e.toInt ∧ e.toInt ≤ 70 * place) (hs : 0 ≤ s.toInt ∧ s.toInt ≤ 560 * place) (hb : ¬ s ≤ b.1) : (zpm k (zrest n tr)).foldl (zbs gap al ti du tr (zy tr) e s) b = b := by
  obtain ⟨hn, j1, j8, j37, j38, j39, hg, hx⟩ := hJ
  refine zprune hg hx tr (zy tr) e s b (by grind) _ (fun r hr => ?_)
  obtain ⟨q1, q2⟩ := zpm_mem k _ r hr
  refine ⟨fun x hxr => zrest_lt (q2 x hxr), ⟨he.1, ?_⟩, ⟨hs.1, ?_⟩⟩
  · rw [q1]; omega
  · rw [q1]; omega
set_option maxHeartbeats 4000000 in
theorem w_fill (n : Nat) (I0 : Nat → Nat → Int32) (J : Nat → Nat → Int64) (gap : Int32) (al ti du : Nat → Int32) (hJ : zJ n I0 gap al ti du) : ∀ k d : Nat, zFill n I0 J gap al ti du k (d + 2 * k + 2) := by
  intro k
  have z0 : (0 : Int32) = zo 0 := rfl
  induction k with
  | zero =>
    intro d place v ev sv e s tr b I Q hk hv hev hsv htr hlt he hs hI K
    subst hv hev hsv
    obtain ⟨hn, j1, j8, j37, j38, j39, hg, hx⟩ := id hJ
    obtain ⟨f1, f2, f3, f4, f5, f6, f7⟩ := id hI
    refine ⟨rfl, fun E At hE hC => ?_⟩
    replace hC : ∀ pc st L M', zX 81 E Q At (zlk B_X5_fillPlace pc) st L M' → At pc st L M' := hC
    refine hC 0 [] [some (.ref 35), some (.int (zo (place : Nat))), some (.int ev), some (.int sv), none] _ ?_
    refine And.intro (fun q => ?_) (fun q => ?_)
    · refine hC 9 [] [some (.ref 35), some (.int (zo (place : Nat))), some (.int ev), some (.int sv), none] _ ?_
      have e1 : I 35 1 = zo (n : Nat) := (f2 1 (by decide) (by decide)).trans j1
      refine And.intro (fun _ => ?_) (fun qz => absurd (show I 35 1 ≤ zo (place : Nat) by rw [e1, show n = place by omega]; exact Int32.le_refl _) qz)
      refine hC 23 [] [some (.ref 35), some (.int (zo (place : Nat))), some (.int ev), some (.int sv), none] _ ?_
      refine hE _ _ _ _ _ (w_keep d n I0 I J gap al ti du ev sv (zy tr) tr b _ hn j1 (by omega) hI (by omega) (fun I' g => ?_))
      exact K I' g
    · refine K I ?_
      rw [zprune2 hJ hk he hs (by rw [← f3]; exact q)]
      exact hI
  | succ k ih =>
    intro d place v ev sv e s tr b I Q hk hv hev hsv htr hlt he hs hI K
    subst hv hev hsv
    obtain ⟨hn, j1, j8, j37, j38, j39, hg, hx⟩ := id hJ
    obtain ⟨f1, f2, f3, f4, f5, f6, f7⟩ := id hI
    refine ⟨rfl, fun E At hE hC => ?_⟩
    replace hC : ∀ pc st L M', zX 81 E Q At (zlk B_X5_fillPlace pc) st L M' → At pc st L M' := hC
    replace hE : ∀ y n a M' Q', zT (d + 2 * k + 1 + 2) y n a M' Q' → E y n a M' Q' := hE
    have loop : ∀ (r i : Nat) (b : zBb) (I : Nat → Nat → Int32), i + r = n → zIn n I0 I tr b → (∀ I' : Nat → Nat → Int32, zIn n I0 I' tr ((zrl n i tr).foldl (fun b x => (zpm k (zrest n (tr ++ [x]))).foldl (zbs gap al ti du (tr ++ [x]) x (zne gap al ti (zy tr) ev x) (zns gap al ti du (zy tr) ev sv x)) b) b) → Q none (I', J, zR, 81)) → At 33 [] [some (.ref 35), some (.int (zo (place : Nat))), some (.int ev), some (.int sv), some (.int (zo (i : Nat)))] (I, J, zR, 81) := by
      intro r
      induction r with
      | zero =>
        intro i b I hi hI K
        have e1 : I 35 1 = zo (n : Nat) := (hI.2.1 1 (by decide) (by decide)).trans j1
        have : i = n := by omega
        subst this
        refine hC 33 [] [some (.ref 35), some (.int (zo (place : Nat))), some (.int ev), some (.int sv), some (.int (zo (i : Nat)))] _ ?_
        refine And.intro (fun _ => ?_) (fun qz => absurd (show I 35 1 ≤ zo (i : Nat) by rw [e1]; exact Int32.le_refl _) qz)
        refine hC 67 [] [some (.ref 35), some (.int (zo (place : Nat))), some (.int ev), some (.int sv), some (.int (zo (i : Nat)))] _ ?_
        rw [zrl_n] at K
        exact K I hI
      | succ r ihr =>
        intro i b I hi hI K
        have e1 : I 35 1 = zo (n : Nat) := (hI.2.1 1 (by decide) (by decide)).trans j1
        have i7 : 0 ≤ zo (i : Int) ∧ zo (i : Int) < 7 := zo_in (m := 7) (by omega) (by omega)
        have ei : (zo (i : Int)).toNatClampNeg = i := zo_tn (by omega)
        have hno : ¬ I 35 1 ≤ zo (i : Nat) := by rw [e1, zo_le ⟨by omega, by omega⟩ ⟨by omega, by omega⟩]; omega
        have us : I 41 (zo (i : Int)).toNatClampNeg = if i ∈ tr then 1 else 0 := by rw [ei]; exact hI.2.2.2.2.1 i
        refine hC 33 [] [some (.ref 35), some (.int (zo (place : Nat))), some (.int ev), some (.int sv), some (.int (zo (i : Nat)))] _ ?_
        refine And.intro (fun qz => absurd qz hno) (fun _ => ?_)
        refine And.intro (zvp i7 rfl) ?_
        rw [zrl_s (by omega)] at K
        have on : ∀ (b : zBb) (I1 : Nat → Nat → Int32), zIn n I0 I1 tr b → (∀ I' : Nat → Nat → Int32, zIn n I0 I' tr ((zrl n (i + 1) tr).foldl (fun b x => (zpm k (zrest n (tr ++ [x]))).foldl (zbs gap al ti du (tr ++ [x]) x (zne gap al ti (zy tr) ev x) (zns gap al ti du (zy tr) ev sv x)) b) b) → Q none (I', J, zR, 81)) → At 61 [] [some (.ref 35), some (.int (zo (place : Nat))), some (.int ev), some (.int sv), some (.int (zo (i : Nat)))] (I1, J, zR, 81) := fun b I1 h1 K1 => by
          refine hC 61 [] [some (.ref 35), some (.int (zo (place : Nat))), some (.int ev), some (.int sv), some (.int (zo (i : Nat)))] _ ?_
          have := ihr (i + 1) b I1 (by omega) h1 K1
          rw [← zo_s1] at this
          exact this
        refine And.intro (fun q => ?_) (fun q => ?_)
        · have hm : i ∈ tr := Classical.byContradiction fun w => q (by rw [if_neg w] at us; exact us)
          rw [if_pos hm] at K
          exact on b I hI K
        · have hm : i ∉ tr := fun w => by
            have q2 : I 41 (zo (i : Int)).toNatClampNeg = 0 := q
            rw [us, if_pos w] at q2
            revert q2
            decide
          rw [if_neg hm] at K
          refine hE _ _ _ _ _ (w_try n I0 J gap al ti du hJ k (d + 2 * k + 1) (ih d) place i ev sv tr b I _ (by omega) htr hlt (by omega) hm he hs hI (fun I1 h1 => ?_))
          exact on _ I1 h1 K
    refine hC 0 [] [some (.ref 35), some (.int (zo (place : Nat))), some (.int ev), some (.int sv), none] _ ?_
    refine And.intro (fun q => ?_) (fun q => ?_)
    · refine hC 9 [] [some (.ref 35), some (.int (zo (place : Nat))), some (.int ev), some (.int sv), none] _ ?_
      have e1 : I 35 1 = zo (n : Nat) := (f2 1 (by decide) (by decide)).trans j1
      have hno : ¬ I 35 1 ≤ zo (place : Nat) := by rw [e1, zo_le ⟨by omega, by omega⟩ ⟨by omega, by omega⟩]; omega
      refine And.intro (fun qz => absurd qz hno) (fun _ => ?_)
      refine And.intro (fun _ => ?_) (fun qz => absurd (show zo (place : Int) < 7 from (zo_in (m := 7) (by omega) (by omega)).2) qz)
      refine hC 30 [] [some (.ref 35), some (.int (zo (place : Nat))), some (.int ev), some (.int sv), none] _ ?_
      refine loop n 0 b I (by omega) hI (fun I' g => K I' ?_)
      rw [zperm_s, ← zrl_0]
      exact g
    · refine K I ?_
      rw [zprune2 hJ hk he hs (by rw [← f3]; exact q)]
      exact hI
theorem zbs_bst (gap : Int32) (al ti du : Nat → Int32) : zbs gap al ti du [] (zy []) 0 0 = zbst gap al ti du := by
  funext b r
  unfold zbs zbst
  rw [List.nil_append]
  rfl
theorem zrest_nil (n : Nat) : zrest n [] = List.range n := by
  unfold zrest
  rw [List.filter_eq_self]
  intro a _
  simp
theorem zpm_ne : ∀ (k : Nat) (l : List Nat), l.Nodup → l.length = k → zpm k l ≠ []
  | 0, l, _, _ => by simp [zpm]
  | k + 1, [], _, h => by simp at h
  | k + 1, x :: l, hn, h => by
    have ih := zpm_ne k ((x :: l).erase x) (hn.erase x) (by simp at h ⊢; omega)
    unfold zpm
    rw [List.flatMap_cons]
    intro z
    have := (List.append_eq_nil_iff.mp z).1
    rw [List.map_eq_nil_iff] at this
    exact ih this
/-- the plan is never without an order -/
theorem zplan_lt {n : Nat} {gap : Int32} {al ti du : Nat → Int32} (hn : n ≤ 7) (hg : 0 ≤ gap ∧ gap ≤ 20) (hx : ∀ x : Nat, x < n → (1 ≤ ti x ∧ ti x ≤ 50) ∧ (0 ≤ du x ∧ du x ≤ 1000)) : ¬ (zplan n gap al ti du).1 = 2147483647 := by
  unfold zplan
  have hne := zpm_ne n (List.range n) List.nodup_range List.length_range
  cases hl : zpm n (List.range n) with
  | nil => exact absurd hl hne
  | cons r l =>
    rw [List.foldl_cons, ← zbs_bst]
    have hm : r ∈ zpm n (List.range n) := by rw [hl]; exact List.mem_cons_self ..
    obtain ⟨q1, q2⟩ := zpm_mem n _ r hm
    have cb := zco_b (al := al) hg hx r 7 0 0 (fun x hxr => List.mem_range.mp (q2 x hxr)) ⟨by decide, by rw [q1]; show (0 : Int) + 70 * n ≤ 1000; omega⟩ ⟨by decide, by rw [q1]; show (0 : Int) + 1070 * n ≤ 100000; omega⟩
    have lt := zfold_lt (gap := gap) (al := al) (ti := ti) (du := du) [] (zy []) 0 0 l (zbs gap al ti du [] (zy []) 0 0 (2147483647, 2147483647, []) r)
    have st : (zbs gap al ti du [] (zy []) 0 0 (2147483647, 2147483647, []) r).1 < 2147483647 := by
      unfold zbs
      have e9 : (2147483647 : Int32).toInt = 2147483647 := rfl
      have c : (zco gap al ti du r (zy []) 0 0).1 < 2147483647 := by
        rw [Int32.lt_iff_toInt_lt, e9]
        have : (zco gap al ti du r (zy []) 0 0).1.toInt ≤ 100000 := cb.2
        omega
      rw [if_pos (Or.inl c)]
      exact c
    intro z
    rw [z] at lt
    clear cb
    grind
set_option maxHeartbeats 2000000 in
theorem w_settle (n : Nat) (I : Nat → Nat → Int32) (J : Nat → Nat → Int64) (gap : Int32) (al ti du : Nat → Int32) (d : Nat) (Q : Option Value → zM → Prop) (hJ : zJ n I gap al ti du) (hc : zRc (I 35 1) (I 35 8) (I 35 10) (I 35 2) (I 36) (I 37) (I 38) (I 39) (I 41)) (K : ∀ I' : Nat → Nat → Int32, (∀ c, c ≠ 35 → c ≠ 36 → c ≠ 40 → I' c = I c) → (∀ j, j ≠ 2 → j ≠ 9 → j ≠ 10 → I' 35 j = I 35 j) → I' 35 10 = 1 → I' 35 2 = (zplan n gap al ti du).1 → (∀ j, j < n → I' 36 j = Int32.ofNat ((zplan n gap al ti du).2.2.getD j 0)) → Q none (I', J, zR, 81)) : zT (d + 17) 34 81 [.ref 35] (I, J, zR, 81) Q := by
  obtain ⟨hn, j1, j8, j37, j38, j39, hg, hx⟩ := id hJ
  have tn : (I 35 1).toNatClampNeg = n := by rw [j1]; exact zo_tn (by omega)
  refine ⟨rfl, fun E At hE hC => ?_⟩
  replace hC : ∀ pc st L M', zX 81 E Q At (zlk B_X5_settle pc) st L M' → At pc st L M' := hC
  refine hC 0 [] [some (.ref 35)] _ ?_
  refine And.intro (fun q => ?_) (fun q => ?_)
  · refine hC 8 [] [some (.ref 35)] _ ?_
    have hF := w_fill n (va_up (va_up I 35 (va_up (I 35) 2 2147483647)) 35 (va_up (va_up (I 35) 2 2147483647) 9 2147483647)) J gap al ti du ⟨hn, j1, j8, j37, j38, j39, hg, hx⟩ n (d + 14 - 2 * n)
    have ed : d + 14 - 2 * n + 2 * n + 2 = d + 16 := by omega
    rw [ed] at hF
    refine hE _ _ _ _ _ (hF 0 0 0 0 0 0 [] (2147483647, 2147483647, []) _ _ (by omega) rfl rfl rfl rfl (fun x hx => absurd hx (by simp)) ⟨by decide, by decide⟩ ⟨by decide, by decide⟩ ⟨fun _ _ _ _ _ => rfl, fun _ _ _ => rfl, rfl, rfl, fun j => ?_, fun i hi => absurd hi (Nat.not_lt_zero i), Or.inl rfl⟩ (fun I1 g1 => ?_))
    · rw [if_neg (by simp)]
      exact hc.2.1 j
    · rw [zrest_nil, zbs_bst] at g1
      obtain ⟨f1, f2, f3, f4, f5, f6, f7⟩ := g1
      refine And.intro (Or.inr rfl) ?_
      refine K (va_up I1 35 (va_up (I1 35) 10 1)) (fun c h35 h36 h40 => ?_) (fun j h2 h9 h10 => ?_) rfl ?_ (fun j hj => ?_)
      · rw [zup_ne h35]
        by_cases h41 : c = 41
        · rw [h41]
          funext j
          rw [f5 j, if_neg (by simp)]
          exact (hc.2.1 j).symm
        · rw [f1 c h35 h36 h40 h41, zup_ne h35, zup_ne h35]
      · show va_up (I1 35) 10 1 j = I 35 j
        rw [zup_ne h10, f2 j h2 h9]
        show va_up (va_up (I 35) 2 2147483647) 9 2147483647 j = I 35 j
        rw [zup_ne h9, zup_ne h2]
      · exact f3
      · show I1 36 j = _
        rcases f7 with z | z
        · exact absurd z (zplan_lt hn hg hx)
        · rw [z j hj]
          exact Int32.ofInt_eq_ofNat
  · have hc1 : I 35 10 = 1 := by
      rcases hc.1 with z | z
      · exact absurd z q
      · exact z
    have hc2 := hc.2.2 hc1
    rw [tn, j8, j37, j38, j39] at hc2
    exact K I (fun _ _ _ _ => rfl) (fun _ _ _ _ => rfl) hc1 hc2.1 hc2.2
