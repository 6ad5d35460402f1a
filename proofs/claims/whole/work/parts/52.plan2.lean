def zrl (n i : Nat) (tr : List Nat) : List Nat := (List.range' i (n - i)).filter (fun x => decide (x ∉ tr))
theorem zrl_0 (n : Nat) (tr : List Nat) : zrl n 0 tr = zrest n tr := by
  unfold zrl zrest
  rw [List.range_eq_range']
  rfl
theorem zrl_n (n : Nat) (tr : List Nat) : zrl n n tr = [] := by
  unfold zrl
  rw [Nat.sub_self]
  rfl
theorem zrl_s {n i : Nat} (h : i < n) (tr : List Nat) : zrl n i tr = if i ∈ tr then zrl n (i + 1) tr else i :: zrl n (i + 1) tr := by
  unfold zrl
  have e : n - i = (n - (i + 1)) + 1 := by omega
  rw [e, List.range'_succ, List.filter_cons]
  by_cases q : i ∈ tr
  · simp [q]
  · simp [q]
/-- what must hold of the jobs -/
def zJ (n : Nat) (I0 : Nat → Nat → Int32) (gap : Int32) (al ti du : Nat → Int32) : Prop := n ≤ 7 ∧ I0 35 1 = zo (n : Nat) ∧ I0 35 8 = gap ∧ I0 37 = al ∧ I0 38 = ti ∧ I0 39 = du ∧ (0 ≤ gap ∧ gap ≤ 20) ∧ ∀ x : Nat, x < n → (1 ≤ ti x ∧ ti x ≤ 50) ∧ (0 ≤ du x ∧ du x ≤ 1000)
def zFill (n : Nat) (I0 : Nat → Nat → Int32) (J : Nat → Nat → Int64) (gap : Int32) (al ti du : Nat → Int32) (k d : Nat) : Prop := ∀ (place : Nat) (v ev sv e s : Int32) (tr : List Nat) (b : zBb) (I : Nat → Nat → Int32) (Q : Option Value → zM → Prop), place + k = n → v = zo (place : Nat) → ev = e → sv = s → tr.length = place → (∀ x ∈ tr, x < n) → (0 ≤ e.toInt ∧ e.toInt ≤ 70 * place) → (0 ≤ s.toInt ∧ s.toInt ≤ 560 * place) → zIn n I0 I tr b → (∀ I' : Nat → Nat → Int32, zIn n I0 I' tr ((zpm k (zrest n tr)).foldl (zbs gap al ti du tr (zy tr) e s) b) → Q none (I', J, zR, 81)) → zT d 35 81 [.ref 35, .int v, .int ev, .int sv] (I, J, zR, 81) Q
set_option maxHeartbeats 4000000 in
theorem w_try (n : Nat) (I0 : Nat → Nat → Int32) (J : Nat → Nat → Int64) (gap : Int32) (al ti du : Nat → Int32) (hJ : zJ n I0 gap al ti du) (k d : Nat) (hF : zFill n I0 J gap al ti du k (d + 1)) (place x : Nat) (e s : Int32) (tr : List Nat) (b : zBb) (I : Nat → Nat → Int32) (Q : Option Value → zM → Prop) (hk : place + (k + 1) = n) (htr : tr.length = place) (hlt : ∀ z ∈ tr, z < n) (hx : x < n) (hxt : x ∉ tr) (he : 0 ≤ e.toInt ∧ e.toInt ≤ 70 * place) (hs : 0 ≤ s.toInt ∧ s.toInt ≤ 560 * place) (hI : zIn n I0 I tr b) (K : ∀ I' : Nat → Nat → Int32, zIn n I0 I' tr ((zpm k (zrest n (tr ++ [x]))).foldl (zbs gap al ti du (tr ++ [x]) x (zne gap al ti (zy tr) e x) (zns gap al ti du (zy tr) e s x)) b) → Q none (I', J, zR, 81)) : zT (d + 2) 36 81 [.ref 35, .int (zo (place : Nat)), .int (zo (x : Nat)), .int e, .int s] (I, J, zR, 81) Q := by
  obtain ⟨hn, j1, j8, j37, j38, j39, hg, hb⟩ := hJ
  obtain ⟨f1, f2, f3, f4, f5, f6, f7⟩ := id hI
  have p7 : 0 ≤ zo (place : Int) ∧ zo (place : Int) < 7 := zo_in (m := 7) (by omega) (by omega)
  have x7 : 0 ≤ zo (x : Int) ∧ zo (x : Int) < 7 := zo_in (m := 7) (by omega) (by omega)
  have ex : (zo (x : Int)).toNatClampNeg = x := zo_tn (by omega)
  have ep : (zo (place : Int)).toNatClampNeg = place := zo_tn (by omega)
  have e37 : I 37 = al := (f1 37 (by decide) (by decide) (by decide) (by decide)).trans j37
  have e38 : I 38 = ti := (f1 38 (by decide) (by decide) (by decide) (by decide)).trans j38
  have e39 : I 39 = du := (f1 39 (by decide) (by decide) (by decide) (by decide)).trans j39
  have e8 : I 35 8 = gap := (f2 8 (by decide) (by decide)).trans j8
  have sb := zstep_b (al := al) (y := zy tr) (e := e) (s := s) hg (hb x hx).1 (hb x hx).2 ⟨he.1, by omega⟩ ⟨hs.1, by omega⟩
  refine ⟨rfl, fun E At hE hC => ?_⟩
  replace hC : ∀ pc st L M', zX 81 E Q At (zlk B_X5_tryJob pc) st L M' → At pc st L M' := hC
  have h47 : ∀ g c : Int32, g = (if zy tr = 7 ∨ al (zy tr) = al x then 0 else gap) → At 47 [.int g, .int e] [some (.ref 35), some (.int (zo (place : Nat))), some (.int (zo (x : Nat))), some (.int e), some (.int s), some (.int c), none] (I, J, zR, 81) := fun g c eg => by
    refine hC 47 [.int g, .int e] [some (.ref 35), some (.int (zo (place : Nat))), some (.int (zo (x : Nat))), some (.int e), some (.int s), some (.int c), none] _ ?_
    refine And.intro (zvp x7 rfl) ?_
    refine And.intro (zvp x7 rfl) (And.intro (Or.inr rfl) ?_)
    refine And.intro (zvp p7 rfl) ?_
    refine And.intro (zvp x7 rfl) ?_
    refine hE _ _ _ _ _ (w_max d _ J 0 _ _ ?_)
    have en : e + g + I 38 (zo (x : Int)).toNatClampNeg = zne gap al ti (zy tr) e x := by unfold zne; rw [eg, ex, e38]
    have es : s + (if 0 < e + g + I 38 (zo (x : Int)).toNatClampNeg - I 39 (zo (x : Int)).toNatClampNeg then e + g + I 38 (zo (x : Int)).toNatClampNeg - I 39 (zo (x : Int)).toNatClampNeg else 0) = zns gap al ti du (zy tr) e s x := by rw [en, ex, e39]; rfl
    refine hE _ _ _ _ _ (hF (place + 1) _ _ _ (zne gap al ti (zy tr) e x) (zns gap al ti du (zy tr) e s x) (tr ++ [x]) b _ _ (by omega) (zo_s1 place) en es (by rw [List.length_append, htr]; rfl) (fun z hz => ?_) (by omega) (by omega) ?_ (fun I2 g2 => ?_))
    · rcases List.mem_append.mp hz with w | w
      · exact hlt z w
      · rw [List.mem_singleton] at w; rw [w]; exact hx
    · refine ⟨fun c h35 h36 h40 h41 => ?_, f2, f3, f4, fun j => ?_, fun i hi => ?_, f7⟩
      · show va_up (va_up I 41 _) 40 _ c = I0 c
        rw [zup_ne h40, zup_ne h41]; exact f1 c h35 h36 h40 h41
      · show va_up (I 41) (zo (x : Int)).toNatClampNeg 1 j = _
        rw [ex]
        by_cases q : j = x
        · rw [q, zup_eq, if_pos (by simp)]
        · rw [zup_ne q, f5 j]
          by_cases w : j ∈ tr
          · rw [if_pos w, if_pos (by simp [w])]
          · rw [if_neg w, if_neg (by simp [w, q])]
      · show va_up (I 40) (zo (place : Int)).toNatClampNeg (zo (x : Nat)) i = _
        rw [ep]
        by_cases q : i = place
        · rw [q, zup_eq, ← htr]
          simp [List.getD]
        · rw [List.length_append, htr] at hi
          have hi2 : i < place := by simp at hi; omega
          rw [zup_ne q, f6 i (by omega)]
          have : (tr ++ [x]).getD i 0 = tr.getD i 0 := by
            simp only [List.getD]
            rw [List.getElem?_append_left (by omega)]
          rw [this]
    · refine And.intro (zvp x7 rfl) (And.intro (Or.inl rfl) ?_)
      rw [zy_app] at g2
      obtain ⟨g1, g2b, g3, g4, g5, g6, g7⟩ := g2
      refine K (va_up I2 41 (va_up (I2 41) (zo (x : Int)).toNatClampNeg 0)) ⟨fun c h35 h36 h40 h41 => ?_, g2b, g3, g4, fun j => ?_, fun i hi => ?_, g7⟩
      · rw [zup_ne h41]; exact g1 c h35 h36 h40 h41
      · show va_up (I2 41) (zo (x : Int)).toNatClampNeg 0 j = _
        rw [ex]
        by_cases q : j = x
        · rw [q, zup_eq, if_neg hxt]
        · rw [zup_ne q, g5 j]
          by_cases w : j ∈ tr
          · rw [if_pos w, if_pos (by simp [w])]
          · rw [if_neg w, if_neg (by simp [w, q])]
      · show I2 40 i = _
        have hi2 : i < (tr ++ [x]).length := by simp; omega
        rw [g6 i hi2]
        have : (tr ++ [x]).getD i 0 = tr.getD i 0 := by
          simp only [List.getD]
          rw [List.getElem?_append_left (by omega)]
        rw [this]
  have h31 : ∀ c : Int32, (c = 0 ∨ c = 1) → (c = 0 ↔ (zy tr = 7 ∨ al (zy tr) = al x)) → At 31 [.int c] [some (.ref 35), some (.int (zo (place : Nat))), some (.int (zo (x : Nat))), some (.int e), some (.int s), none, none] (I, J, zR, 81) := fun c hc hcy => by
    refine hC 31 [.int c] [some (.ref 35), some (.int (zo (place : Nat))), some (.int (zo (x : Nat))), some (.int e), some (.int s), none, none] _ ?_
    refine And.intro (fun q => ?_) (fun q => ?_)
    · refine hC 46 [.int e] [some (.ref 35), some (.int (zo (place : Nat))), some (.int (zo (x : Nat))), some (.int e), some (.int s), some (.int c), none] _ ?_
      exact h47 0 c (by rw [if_pos (hcy.mp q)])
    · exact h47 (I 35 8) c (by rw [if_neg (fun z => q (hcy.mpr z))]; exact e8)
  refine hC 0 [] [some (.ref 35), some (.int (zo (place : Nat))), some (.int (zo (x : Nat))), some (.int e), some (.int s), none, none] _ ?_
  have z0 : (0 : Int32) = zo 0 := rfl
  refine And.intro (fun q => ?_) (fun q => ?_)
  · have q1 : (place : Int) ≤ 0 := by
      have q2 : zo (place : Int) ≤ 0 := q
      rw [z0, zo_le ⟨by omega, by omega⟩ ⟨by omega, by omega⟩] at q2
      exact q2
    refine hC 30 [] [some (.ref 35), some (.int (zo (place : Nat))), some (.int (zo (x : Nat))), some (.int e), some (.int s), none, none] _ ?_
    refine h31 0 (Or.inl rfl) ⟨fun _ => Or.inl ?_, fun _ => rfl⟩
    unfold zy
    have : tr.length = 0 := by omega
    rw [this]
  · have q1 : 0 < place := by
      have q2 : ¬ zo (place : Int) ≤ 0 := q
      rw [z0, zo_le ⟨by omega, by omega⟩ ⟨by omega, by omega⟩] at q2
      omega
    have eq1 : zo (place : Int) - 1 = zo ((place - 1 : Nat) : Int) := zo_p1 q1
    have y1 : zy tr = tr.getD (place - 1) 0 := by
      unfold zy
      have : tr.length = (place - 1) + 1 := by omega
      rw [this]
    have ym : zy tr < n := by
      rw [y1]
      have hl : place - 1 < tr.length := by omega
      have : tr.getD (place - 1) 0 = tr[place - 1] := by simp [List.getD, List.getElem?_eq_getElem hl]
      rw [this]
      exact hlt _ (List.getElem_mem hl)
    have t1 : I 40 (zo (place : Int) - 1).toNatClampNeg = zo (zy tr : Nat) := by
      rw [eq1, zo_tn (by omega), f6 (place - 1) (by omega), y1]
    have t2 : I 37 (I 40 (zo (place : Int) - 1).toNatClampNeg).toNatClampNeg = al (zy tr) := by rw [t1, zo_tn (by omega), e37]
    have t3 : I 37 (zo (x : Int)).toNatClampNeg = al x := by rw [ex, e37]
    refine And.intro (zvp (show 0 ≤ zo (place : Int) - 1 ∧ zo (place : Int) - 1 < 7 by rw [eq1]; exact zo_in (m := 7) (by omega) (by omega)) rfl) ?_
    refine And.intro (zvp (show 0 ≤ I 40 (zo (place : Int) - 1).toNatClampNeg ∧ I 40 (zo (place : Int) - 1).toNatClampNeg < 7 by rw [t1]; exact zo_in (m := 7) (by omega) (by omega)) rfl) ?_
    refine And.intro (zvp x7 rfl) ?_
    refine And.intro (fun w => ?_) (fun w => ?_)
    · have w1 : al (zy tr) = al x := by rw [← t2, ← t3]; exact w
      refine hC 30 [] [some (.ref 35), some (.int (zo (place : Nat))), some (.int (zo (x : Nat))), some (.int e), some (.int s), none, none] _ ?_
      exact h31 0 (Or.inl rfl) ⟨fun _ => Or.inr w1, fun _ => rfl⟩
    · have w1 : ¬ al (zy tr) = al x := by rw [← t2, ← t3]; exact w
      refine h31 1 (Or.inr rfl) ⟨fun z => absurd z (by decide), fun z => ?_⟩
      rcases z with z | z
      · omega
      · exact absurd z w1
