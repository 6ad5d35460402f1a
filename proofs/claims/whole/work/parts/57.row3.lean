theorem g_fo200 (E : zE) (At : Nat → zC) (Q : Option Value → zM → Prop) (hC : ∀ pc st L M', zX 81 E Q At (zlk B_X10_findOrder pc) st L M' → At pc st L M') (I : Nat → Nat → Int32) (J : Nat → Nat → Int64) (n : Nat) (hn : n ≤ 7) (j37 : I 46 37 = zo (n : Nat)) (bt be mo e s : Int32) (o7 : Option Value) (K : ∀ f : Nat → Int32, (∀ j, j < n → f j = I 74 j) → At 229 [] [some (.ref 46), some (.int bt), some (.int be), some (.int mo), some (.int e), some (.int s), some (.int (zo (n : Nat))), o7] (va_up I 75 f, J, zR, 81)) : ∀ (r k : Nat) (f : Nat → Int32), k + r = n → (∀ j, j < k → f j = I 74 j) → At 200 [] [some (.ref 46), some (.int bt), some (.int be), some (.int mo), some (.int e), some (.int s), some (.int (zo (k : Nat))), o7] (va_up I 75 f, J, zR, 81)
  | 0, k, f, hk, hf => by
    have : k = n := by omega
    subst this
    refine hC 200 [] [some (.ref 46), some (.int bt), some (.int be), some (.int mo), some (.int e), some (.int s), some (.int (zo (k : Nat))), o7] _ ?_
    exact And.intro (fun _ => K f hf) (fun qz => absurd (show I 46 37 ≤ zo (k : Nat) by rw [j37]; exact Int32.le_refl _) qz)
  | r + 1, k, f, hk, hf => by
    have k7 : 0 ≤ zo (k : Int) ∧ zo (k : Int) < 7 := zo_in (m := 7) (by omega) (by omega)
    have ek : (zo (k : Int)).toNatClampNeg = k := zo_tn (by omega)
    have hno : ¬ I 46 37 ≤ zo (k : Nat) := by rw [j37, zo_le ⟨by omega, by omega⟩ ⟨by omega, by omega⟩]; omega
    refine hC 200 [] [some (.ref 46), some (.int bt), some (.int be), some (.int mo), some (.int e), some (.int s), some (.int (zo (k : Nat))), o7] _ ?_
    refine And.intro (fun qz => absurd qz hno) (fun _ => ?_)
    refine And.intro (zvp k7 rfl) (And.intro (zvp k7 rfl) ?_)
    have ih := g_fo200 E At Q hC I J n hn j37 bt be mo e s o7 K r (k + 1) (va_up f k (I 74 k)) (by omega) (fun j hj => by
      by_cases q : j = k
      · rw [q, zup_eq]
      · rw [zup_ne q]; exact hf j (by omega))
    rw [← zo_s1, ← zuu (v := f)] at ih
    have e9 : va_up (va_up I 75 f) 75 (va_up f (zo (k : Int)).toNatClampNeg (I 74 (zo (k : Int)).toNatClampNeg)) = va_up (va_up I 75 f) 75 (va_up f k (I 74 k)) := by rw [ek]
    rw [← e9] at ih
    exact ih
def zbR (n : Nat) (I : Nat → Nat → Int32) (bt be : Int32) (b : zBb) : Prop := (bt = -1 ∧ b = (2147483647, 2147483647, [])) ∨ (¬ bt = -1 ∧ bt = b.1 ∧ be = b.2.1 ∧ ∀ j, j < n → I 75 j = zo (b.2.2.getD j 0 : Nat))
set_option maxHeartbeats 4000000 in
theorem g_fo_row (E : zE) (At : Nat → zC) (Q : Option Value → zM → Prop) (hC : ∀ pc st L M', zX 81 E Q At (zlk B_X10_findOrder pc) st L M' → At pc st L M') (J : Nat → Nat → Int64) (n : Nat) (gap : Int32) (al ti du pr alp : Nat → Int32) (l : List Nat) (I : Nat → Nat → Int32) (bt be : Int32) (b : zBb) (o4 o5 o6 o7 : Option Value) (hJ : zJr n I gap al ti du pr alp) (hr : l.length = n ∧ ∀ x ∈ l, x < n) (hl : zRw n (I 74) l) (hb : zbR n I bt be b) (K : ∀ (I1 : Nat → Nat → Int32) (bt1 be1 e s k : Int32) (o7 : Option Value), (∀ c, c ≠ 75 → I1 c = I c) → zbR n I1 bt1 be1 (zbst gap al ti du b l) → ¬ bt1 = -1 → At 229 [] [some (.ref 46), some (.int bt1), some (.int be1), some (.int 1), some (.int e), some (.int s), some (.int k), o7] (I1, J, zR, 81)) : At 40 [] [some (.ref 46), some (.int bt), some (.int be), some (.int 1), o4, o5, o6, o7] (I, J, zR, 81) := by
  obtain ⟨hn, j37, j41, j48, j71, j72, j73, hg, hx⟩ := id hJ
  have hln : ∀ j, j < n → l.getD j 0 < n := fun j hj => by
    have hjl : j < l.length := by rw [hr.1]; exact hj
    have e1 : l.getD j 0 = l[j] := by simp [List.getD, List.getElem?_eq_getElem hjl]
    rw [e1]
    exact hr.2 _ (List.getElem_mem hjl)
  have cb := zco_b (al := al) hg (fun x h => ⟨(hx x h).1, (hx x h).2.1⟩) l 7 0 0 hr.2 ⟨by decide, by rw [hr.1]; show (0 : Int) + 70 * n ≤ 1000; omega⟩ ⟨by decide, by rw [hr.1]; show (0 : Int) + 1070 * n ≤ 100000; omega⟩
  have e0 : (0 : Int32).toInt = 0 := rfl
  rw [e0] at cb
  have cm : ¬ (zco gap al ti du l 7 0 0).1 = -1 := fun z => by
    have z2 := congrArg Int32.toInt z
    have e1 : (-1 : Int32).toInt = -1 := rfl
    omega
  have cM : (zco gap al ti du l 7 0 0).1 < 2147483647 := by
    have e9 : (2147483647 : Int32).toInt = 2147483647 := rfl
    rw [Int32.lt_iff_toInt_lt, e9]
    omega
  refine hC 40 [] [some (.ref 46), some (.int bt), some (.int be), some (.int 1), o4, o5, o6, o7] _ ?_
  refine And.intro (fun qz => absurd qz (by decide)) (fun _ => ?_)
  refine g_fo53 E At Q hC I J n gap al ti du pr alp hJ bt be 1 l hl hln n 0 0 0 o7 (by omega) ⟨by decide, by decide⟩ ⟨by decide, by decide⟩ (fun o7 => ?_)
  show At 168 [] [some (.ref 46), some (.int bt), some (.int be), some (.int 1), some (.int (zco gap al ti du l 7 0 0).2), some (.int (zco gap al ti du l 7 0 0).1), some (.int (zo (n : Nat))), o7] (I, J, zR, 81)
  have take : ((zco gap al ti du l 7 0 0).1 < b.1 ∨ ((zco gap al ti du l 7 0 0).1 = b.1 ∧ (zco gap al ti du l 7 0 0).2 < b.2.1)) → At 191 [] [some (.ref 46), some (.int bt), some (.int be), some (.int 1), some (.int (zco gap al ti du l 7 0 0).2), some (.int (zco gap al ti du l 7 0 0).1), some (.int (zo (n : Nat))), o7] (I, J, zR, 81) := fun q => by
    have ez : zbst gap al ti du b l = ((zco gap al ti du l 7 0 0).1, (zco gap al ti du l 7 0 0).2, l) := if_pos q
    refine hC 191 [] [some (.ref 46), some (.int bt), some (.int be), some (.int 1), some (.int (zco gap al ti du l 7 0 0).2), some (.int (zco gap al ti du l 7 0 0).1), some (.int (zo (n : Nat))), o7] _ ?_
    have i2 := g_fo200 E At Q hC I J n hn j37 (zco gap al ti du l 7 0 0).1 (zco gap al ti du l 7 0 0).2 1 (zco gap al ti du l 7 0 0).2 (zco gap al ti du l 7 0 0).1 o7 (fun f hf => K (va_up I 75 f) _ _ _ _ _ _ (fun c h75 => zup_ne h75) (by
      rw [ez]
      exact Or.inr ⟨cm, rfl, rfl, fun j hj => (hf j hj).trans (hl.2.2 j hj)⟩) cm) n 0 (I 75) (by omega) (fun j hj => absurd hj (Nat.not_lt_zero j))
    rw [zself] at i2
    exact i2
  have keep : ¬ bt = -1 → ¬ ((zco gap al ti du l 7 0 0).1 < b.1 ∨ ((zco gap al ti du l 7 0 0).1 = b.1 ∧ (zco gap al ti du l 7 0 0).2 < b.2.1)) → At 229 [] [some (.ref 46), some (.int bt), some (.int be), some (.int 1), some (.int (zco gap al ti du l 7 0 0).2), some (.int (zco gap al ti du l 7 0 0).1), some (.int (zo (n : Nat))), o7] (I, J, zR, 81) := fun h0 q => by
    have ez : zbst gap al ti du b l = b := if_neg q
    refine K I bt be _ _ _ _ (fun _ _ => rfl) ?_ h0
    rw [ez]
    exact hb
  refine hC 168 [] [some (.ref 46), some (.int bt), some (.int be), some (.int 1), some (.int (zco gap al ti du l 7 0 0).2), some (.int (zco gap al ti du l 7 0 0).1), some (.int (zo (n : Nat))), o7] _ ?_
  refine And.intro (fun q => take (Or.inl ?_)) (fun q => ?_)
  · rcases hb with z | z
    · rw [z.2]; exact cM
    · exact absurd q z.1
  · rcases hb with z | z
    · exact absurd z.1 q
    have z1 := z.2.1
    have z2 := z.2.2.1
    refine And.intro (fun q2 => take (Or.inl (by rw [← z1]; exact q2))) (fun q2 => ?_)
    have q2' : ¬ (zco gap al ti du l 7 0 0).1 < b.1 := by rw [← z1]; exact q2
    refine And.intro (fun q3 => keep q ?_) (fun q3 => ?_)
    · have q3' : ¬ (zco gap al ti du l 7 0 0).1 = b.1 := by rw [← z1]; exact q3
      rintro (y | y)
      · exact q2' y
      · exact q3' y.1
    have q3' : (zco gap al ti du l 7 0 0).1 = b.1 := by rw [← z1]; exact q3
    refine And.intro (fun q4 => keep q ?_) (fun q4 => take (Or.inr ⟨q3', ?_⟩))
    · have q4' : b.2.1 ≤ (zco gap al ti du l 7 0 0).2 := by rw [← z2]; exact q4
      rintro (y | y)
      · exact q2' y
      · exact absurd y.2 (Int32.not_lt.mpr q4')
    · have q4' : ¬ b.2.1 ≤ (zco gap al ti du l 7 0 0).2 := by rw [← z2]; exact q4
      exact Int32.not_le.mp q4'
theorem zJr_f {n : Nat} {I I' : Nat → Nat → Int32} {gap : Int32} {al ti du pr alp : Nat → Int32} (h : zJr n I gap al ti du pr alp) (f : ∀ c, c ≠ 74 → c ≠ 75 → I' c = I c) : zJr n I' gap al ti du pr alp := by
  obtain ⟨hn, j37, j41, j48, j71, j72, j73, hg, hx⟩ := h
  have e46 := f 46 (by decide) (by decide)
  exact ⟨hn, by rw [e46]; exact j37, by rw [e46]; exact j41, (f 48 (by decide) (by decide)).trans j48, (f 71 (by decide) (by decide)).trans j71, (f 72 (by decide) (by decide)).trans j72, (f 73 (by decide) (by decide)).trans j73, hg, hx⟩
set_option maxHeartbeats 4000000 in
theorem g_fo40 (d : Nat) (E : zE) (At : Nat → zC) (Q : Option Value → zM → Prop) (hE : ∀ y n a M' Q', zT (d + 1) y n a M' Q' → E y n a M' Q') (hC : ∀ pc st L M', zX 81 E Q At (zlk B_X10_findOrder pc) st L M' → At pc st L M') (J : Nat → Nat → Int64) (n : Nat) (h1 : 1 ≤ n) (gap : Int32) (al ti du pr alp : Nat → Int32) : ∀ (t : List (List Nat)) (l : List Nat) (I : Nat → Nat → Int32) (bt be : Int32) (b : zBb) (o4 o5 o6 o7 : Option Value), zJr n I gap al ti du pr alp → zchk n (l :: t) = true → (∀ r ∈ l :: t, r.length = n ∧ ∀ x ∈ r, x < n) → zRw n (I 74) l → zbR n I bt be b → (∀ I' : Nat → Nat → Int32, (∀ c, c ≠ 74 → c ≠ 75 → I' c = I c) → (∀ j, j < n → I' 75 j = zo (((l :: t).foldl (zbst gap al ti du) b).2.2.getD j 0 : Nat)) → Q (some (.int ((l :: t).foldl (zbst gap al ti du) b).1)) (I', J, zR, 81)) → At 40 [] [some (.ref 46), some (.int bt), some (.int be), some (.int 1), o4, o5, o6, o7] (I, J, zR, 81)
  | [], l, I, bt, be, b, o4, o5, o6, o7, hJ, hch, hr, hl, hb, K => by
    refine g_fo_row E At Q hC J n gap al ti du pr alp l I bt be b o4 o5 o6 o7 hJ (hr l (List.mem_cons_self ..)) hl hb (fun I1 bt1 be1 e s k o7 f1 hb1 hne => ?_)
    have e37 : I1 46 37 = zo (n : Nat) := by rw [f1 46 (by decide)]; exact hJ.2.1
    refine hC 229 [] [some (.ref 46), some (.int bt1), some (.int be1), some (.int 1), some (.int e), some (.int s), some (.int k), o7] _ ?_
    have hx : zxr n l = none := by
      unfold zchk at hch
      cases hz : zxr n l with
      | none => rfl
      | some k => rw [hz] at hch; exact absurd (show false = true from hch) (by decide)
    refine hE _ _ _ _ _ (w_nextRow d n I1 J l _ h1 hJ.1 e37 (by rw [f1 74 (by decide)]; exact hl) (fun _ => ?_) (fun l2 f2 q _ => by rw [hx] at q; exact absurd q (by simp)))
    refine hC 40 [] [some (.ref 46), some (.int bt1), some (.int be1), some (.int 0), some (.int e), some (.int s), some (.int k), o7] _ ?_
    refine And.intro (fun _ => ?_) (fun qz => absurd rfl qz)
    refine hC 237 [] [some (.ref 46), some (.int bt1), some (.int be1), some (.int 0), some (.int e), some (.int s), some (.int k), o7] _ ?_
    refine And.intro (fun _ => ?_) (fun qz => absurd qz hne)
    refine hC 246 [] [some (.ref 46), some (.int bt1), some (.int be1), some (.int 0), some (.int e), some (.int s), some (.int k), o7] _ ?_
    refine hC 247 [.int bt1] [some (.ref 46), some (.int bt1), some (.int be1), some (.int 0), some (.int e), some (.int s), some (.int k), o7] _ ?_
    rcases hb1 with z | z
    · exact absurd z.1 hne
    · have k2 := K I1 (fun c _ h75 => f1 c h75) z.2.2.2
      rw [z.2.1]
      exact k2
  | m :: t, l, I, bt, be, b, o4, o5, o6, o7, hJ, hch, hr, hl, hb, K => by
    refine g_fo_row E At Q hC J n gap al ti du pr alp l I bt be b o4 o5 o6 o7 hJ (hr l (List.mem_cons_self ..)) hl hb (fun I1 bt1 be1 e s k o7 f1 hb1 hne => ?_)
    have e37 : I1 46 37 = zo (n : Nat) := by rw [f1 46 (by decide)]; exact hJ.2.1
    refine hC 229 [] [some (.ref 46), some (.int bt1), some (.int be1), some (.int 1), some (.int e), some (.int s), some (.int k), o7] _ ?_
    have hx : zxr n l = some m ∧ zchk n (m :: t) = true := by
      unfold zchk at hch
      rw [Bool.and_eq_true] at hch
      refine ⟨?_, hch.2⟩
      have h3 := hch.1
      cases hz : zxr n l with
      | none => rw [hz] at h3; exact absurd (show false = true from h3) (by decide)
      | some k => rw [hz] at h3; rw [zleq_eq k m h3]
    refine hE _ _ _ _ _ (w_nextRow d n I1 J l _ h1 hJ.1 e37 (by rw [f1 74 (by decide)]; exact hl) (fun q => by rw [hx.1] at q; exact absurd q (by simp)) (fun l2 f2 q hl2 => ?_))
    have em : m = l2 := by
      have q2 := hx.1.symm.trans q
      exact Option.some.inj q2
    have ff : ∀ c, c ≠ 74 → c ≠ 75 → va_up I1 74 f2 c = I c := fun c h74 h75 => (zup_ne h74).trans (f1 c h75)
    refine g_fo40 d E At Q hE hC J n h1 gap al ti du pr alp t m (va_up I1 74 f2) bt1 be1 (zbst gap al ti du b l) (some (.int e)) (some (.int s)) (some (.int k)) o7 (zJr_f hJ ff) hx.2 (fun r h => hr r (List.mem_cons_of_mem _ h)) (by rw [em]; exact hl2) hb1 (fun I' f3 p3 => K I' (fun c h74 h75 => (f3 c h74 h75).trans (ff c h74 h75)) p3)
theorem g_fo2 (E : zE) (At : Nat → zC) (Q : Option Value → zM → Prop) (hC : ∀ pc st L M', zX 81 E Q At (zlk B_X10_findOrder pc) st L M' → At pc st L M') (I : Nat → Nat → Int32) (J : Nat → Nat → Int64) (n : Nat) (hn : n ≤ 7) (j37 : I 46 37 = zo (n : Nat)) (K : ∀ f : Nat → Int32, (∀ j, j < n → f j = zo (j : Nat)) → At 23 [] [some (.ref 46), some (.int (zo (n : Nat))), none, none, none, none, none, none] (va_up I 74 f, J, zR, 81)) : ∀ (r k : Nat) (f : Nat → Int32), k + r = n → (∀ j, j < k → f j = zo (j : Nat)) → At 2 [] [some (.ref 46), some (.int (zo (k : Nat))), none, none, none, none, none, none] (va_up I 74 f, J, zR, 81)
  | 0, k, f, hk, hf => by
    have : k = n := by omega
    subst this
    refine hC 2 [] [some (.ref 46), some (.int (zo (k : Nat))), none, none, none, none, none, none] _ ?_
    exact And.intro (fun _ => K f hf) (fun qz => absurd (show I 46 37 ≤ zo (k : Nat) by rw [j37]; exact Int32.le_refl _) qz)
  | r + 1, k, f, hk, hf => by
    have k7 : 0 ≤ zo (k : Int) ∧ zo (k : Int) < 7 := zo_in (m := 7) (by omega) (by omega)
    have ek : (zo (k : Int)).toNatClampNeg = k := zo_tn (by omega)
    have hno : ¬ I 46 37 ≤ zo (k : Nat) := by rw [j37, zo_le ⟨by omega, by omega⟩ ⟨by omega, by omega⟩]; omega
    refine hC 2 [] [some (.ref 46), some (.int (zo (k : Nat))), none, none, none, none, none, none] _ ?_
    refine And.intro (fun qz => absurd qz hno) (fun _ => ?_)
    refine And.intro (zvp k7 rfl) ?_
    have ih := g_fo2 E At Q hC I J n hn j37 K r (k + 1) (va_up f k (zo (k : Nat))) (by omega) (fun j hj => by
      by_cases q : j = k
      · rw [q, zup_eq]
      · rw [zup_ne q]; exact hf j (by omega))
    have e9 : va_up (va_up I 74 f) 74 (va_up f (zo (k : Int)).toNatClampNeg (zo (k : Nat))) = va_up I 74 (va_up f k (zo (k : Nat))) := by rw [ek, zuu]
    rw [← zo_s1, ← e9] at ih
    exact ih
set_option maxHeartbeats 2000000 in
theorem w_findOrder (d n : Nat) (I : Nat → Nat → Int32) (J : Nat → Nat → Int64) (gap : Int32) (al ti du pr alp : Nat → Int32) (Q : Option Value → zM → Prop) (hJ : zJr n I gap al ti du pr alp) (K : ∀ I' : Nat → Nat → Int32, (∀ c, c ≠ 74 → c ≠ 75 → I' c = I c) → (∀ j, j < n → I' 75 j = zo ((zplan n gap al ti du).2.2.getD j 0 : Nat)) → Q (some (.int (zplan n gap al ti du).1)) (I', J, zR, 81)) : zT (d + 2) 123 81 [.ref 46] (I, J, zR, 81) Q := by
  obtain ⟨hn, j37, j41, j48, j71, j72, j73, hg, hx⟩ := id hJ
  refine ⟨rfl, fun E At hE hC => ?_⟩
  replace hC : ∀ pc st L M', zX 81 E Q At (zlk B_X10_findOrder pc) st L M' → At pc st L M' := hC
  refine hC 0 [] [some (.ref 46), none, none, none, none, none, none, none] _ ?_
  have i1 := g_fo2 E At Q hC I J n hn j37 (fun f hf => by
    refine hC 23 [] [some (.ref 46), some (.int (zo (n : Nat))), none, none, none, none, none, none] _ ?_
    have z0 : (0 : Int32) = zo 0 := rfl
    refine And.intro (fun q => ?_) (fun q => ?_)
    · have q1 : n = 0 := by
        have q2 : I 46 37 ≤ 0 := q
        rw [j37, z0, zo_le ⟨by omega, by omega⟩ ⟨by omega, by omega⟩] at q2
        omega
      subst q1
      refine hC 38 [] [some (.ref 46), some (.int (-1)), some (.int 0), none, none, none, none, none] _ ?_
      refine hC 39 [.int 0] [some (.ref 46), some (.int (-1)), some (.int 0), none, none, none, none, none] _ ?_
      refine hC 40 [] [some (.ref 46), some (.int (-1)), some (.int 0), some (.int 0), none, none, none, none] _ ?_
      refine And.intro (fun _ => ?_) (fun qz => absurd rfl qz)
      refine hC 237 [] [some (.ref 46), some (.int (-1)), some (.int 0), some (.int 0), none, none, none, none] _ ?_
      refine And.intro (fun qz => absurd rfl qz) (fun _ => ?_)
      refine hC 247 [.int 0] [some (.ref 46), some (.int (-1)), some (.int 0), some (.int 0), none, none, none, none] _ ?_
      have k2 := K (va_up I 74 f) (fun c h74 _ => zup_ne h74) (fun j hj => absurd hj (Nat.not_lt_zero j))
      have ez : (zplan 0 gap al ti du).1 = 0 := by
        have ep : zpm 0 (List.range 0) = [[]] := rfl
        have ec : zco gap al ti du [] 7 0 0 = (0, 0) := rfl
        have lt : (0 : Int32) < 2147483647 := by decide
        unfold zplan
        rw [ep, List.foldl_cons, List.foldl_nil]
        unfold zbst
        rw [ec, if_pos (Or.inl lt)]
      rw [ez] at k2
      exact k2
    · have q1 : 1 ≤ n := by
        have q2 : ¬ I 46 37 ≤ 0 := q
        rw [j37, z0, zo_le ⟨by omega, by omega⟩ ⟨by omega, by omega⟩] at q2
        omega
      refine hC 39 [.int 1] [some (.ref 46), some (.int (-1)), some (.int 0), none, none, none, none, none] _ ?_
      obtain ⟨t, ht⟩ := zpm_hd0 n
      have hch := zchk_n q1 hn
      rw [ht] at hch
      refine g_fo40 d E At Q hE hC J n q1 gap al ti du pr alp t (List.range n) (va_up I 74 f) (-1) 0 (2147483647, 2147483647, []) none none none none (zJr_f hJ (fun c h74 _ => zup_ne h74)) hch (fun r hr => ?_) ?_ (Or.inl ⟨rfl, rfl⟩) (fun I' f3 p3 => ?_)
      · rw [← ht] at hr
        obtain ⟨w1, w2⟩ := zpm_mem n _ r hr
        exact ⟨w1, fun x hx => List.mem_range.mp (w2 x hx)⟩
      · have eg : ∀ j, j < n → (List.range n).getD j 0 = j := fun j hj => by
          have hjl : j < (List.range n).length := by rw [List.length_range]; exact hj
          have e1 : (List.range n).getD j 0 = (List.range n)[j] := by simp [List.getD, List.getElem?_eq_getElem hjl]
          rw [e1, List.getElem_range]
        exact ⟨List.length_range, fun j hj => by rw [eg j hj]; omega, fun j hj => by rw [eg j hj]; exact hf j hj⟩
      · have ep : zplan n gap al ti du = (List.range n :: t).foldl (zbst gap al ti du) (2147483647, 2147483647, []) := by unfold zplan; rw [ht]
        rw [ep] at K
        exact K I' (fun c h74 h75 => (f3 c h74 h75).trans (zup_ne h74)) p3) n 0 (I 74) (by omega) (fun j hj => absurd hj (Nat.not_lt_zero j))
  rw [zself] at i1
  exact i1
