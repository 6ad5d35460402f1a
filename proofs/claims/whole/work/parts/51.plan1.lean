/-! the plan of the class -/
theorem zo_nn {k : Nat} (h : k ≤ 1000) : 0 ≤ zo (k : Int) := by
  have z0 : (0 : Int32) = zo 0 := rfl
  rw [z0, zo_le ⟨by omega, by omega⟩ ⟨by omega, by omega⟩]
  omega
theorem zo_tn {k : Nat} (h : k ≤ 1000) : (zo (k : Int)).toNatClampNeg = k := by
  have e := ztn (zo_nn h)
  rw [zo_toInt ⟨by omega, by omega⟩] at e
  omega
theorem zo_in {k m : Nat} (h : k < m) (hm : m ≤ 1000) : 0 ≤ zo (k : Int) ∧ zo (k : Int) < zo (m : Int) := ⟨zo_nn (by omega), (zo_lt ⟨by omega, by omega⟩ ⟨by omega, by omega⟩).mpr (by omega)⟩
theorem zo_s1 (k : Nat) : zo (k : Int) + 1 = zo ((k + 1 : Nat) : Int) := by
  have : (1 : Int32) = zo 1 := rfl
  rw [this, zo_add]
  rfl
theorem zo_p1 {k : Nat} (h : 0 < k) : zo (k : Int) - 1 = zo ((k - 1 : Nat) : Int) := by
  have : (1 : Int32) = zo 1 := rfl
  rw [this, zo_sub]
  congr 1
  omega
abbrev zBb : Type := Int32 × Int32 × List Nat
def zIn (n : Nat) (I0 I : Nat → Nat → Int32) (tr : List Nat) (b : zBb) : Prop :=
  (∀ c, c ≠ 35 → c ≠ 36 → c ≠ 40 → c ≠ 41 → I c = I0 c) ∧ (∀ j, j ≠ 2 → j ≠ 9 → I 35 j = I0 35 j) ∧ I 35 2 = b.1 ∧ I 35 9 = b.2.1 ∧ (∀ j, I 41 j = if j ∈ tr then 1 else 0) ∧ (∀ i, i < tr.length → I 40 i = zo (tr.getD i 0 : Nat)) ∧ (b.1 = 2147483647 ∨ ∀ j, j < n → I 36 j = zo (b.2.2.getD j 0 : Nat))
def zy (tr : List Nat) : Nat := match tr.length with
  | 0 => 7
  | m + 1 => tr.getD m 0
theorem zy_app (tr : List Nat) (x : Nat) : zy (tr ++ [x]) = x := by
  unfold zy
  have : (tr ++ [x]).length = tr.length + 1 := by simp
  rw [this]
  simp [List.getD]
theorem g_keep (d : Nat) (E : zE) (At : Nat → zC) (Q : Option Value → zM → Prop) (hE : ∀ y n a M' Q', zT (d + 0) y n a M' Q' → E y n a M' Q') (hC : ∀ pc st L M', zX 81 E Q At (zlk B_X5_keepIfBetter pc) st L M' → At pc st L M') (I : Nat → Nat → Int32) (J : Nat → Nat → Int64) (e s n : Int32) (e1 : I 35 1 = n) (hn : 0 ≤ n ∧ n ≤ 7) (K : ∀ f : Nat → Int32, (∀ j, j < n.toNatClampNeg → f j = I 40 j) → Q none (va_up I 36 f, J, zR, 81)) : ∀ (r : Nat) (i : Int32) (f : Nat → Int32), 0 ≤ i → n.toNatClampNeg = i.toNatClampNeg + r → (∀ j, j < i.toNatClampNeg → f j = I 40 j) → At 36 [] [some (.ref 35), some (.int e), some (.int s), some (.int i)] (va_up I 36 f, J, zR, 81)
  | 0, i, f, h0, hr, hf => by
    have hl : n ≤ i := zlast h0 hn.1 hr
    exact g_X5_keepIfBetter_36 d E At Q hE hC (va_up I 36 f) J e s i (show _ = I 40 from rfl) e1 (fun q => absurd hl q) (fun q => absurd hl q) (fun q => absurd hl q) (fun _ => K f (fun j hj => hf j (by omega)))
  | r + 1, i, f, h0, hr, hf => by
    obtain ⟨h1, h2, h3⟩ := znext h0 (by clear hE hC K hf; grind) hr
    have hbi : 0 ≤ i ∧ i < 7 := by clear hE hC K hf; grind
    refine g_X5_keepIfBetter_36 d E At Q hE hC (va_up I 36 f) J e s i (show _ = I 40 from rfl) e1 (fun _ => hbi) (fun _ => hbi) (fun _ => ?_) (fun q => absurd h1 (by clear hE hC K hf; grind))
    have ih := g_keep d E At Q hE hC I J e s n e1 hn K r (i + 1) (va_up f i.toNatClampNeg (I 40 i.toNatClampNeg)) h2 h3 (fun j hj => by
      by_cases q : j = i.toNatClampNeg
      · rw [q, zup_eq]
      · rw [zup_ne q]; exact hf j (by omega))
    rw [← zuu (v := f)] at ih
    exact ih
theorem w_keep (d n : Nat) (I0 I : Nat → Nat → Int32) (J : Nat → Nat → Int64) (gap : Int32) (al ti du : Nat → Int32) (e s : Int32) (y : Nat) (tr : List Nat) (b : zBb) (Q : Option Value → zM → Prop) (hn : n ≤ 7) (h1 : I0 35 1 = zo (n : Nat)) (htr : tr.length = n) (hI : zIn n I0 I tr b) (hs : s.toInt < 2147483647) (K : ∀ I' : Nat → Nat → Int32, zIn n I0 I' tr (zbs gap al ti du tr y e s b []) → Q none (I', J, zR, 81)) : zT (d + 1) 37 81 [.ref 35, .int e, .int s] (I, J, zR, 81) Q := by
  obtain ⟨f1, f2, f3, f4, f5, f6, f7⟩ := id hI
  have hn7 : 0 ≤ zo (n : Int) ∧ zo (n : Int) ≤ 7 := ⟨zo_nn (by omega), (zo_le (y := 7) ⟨by omega, by omega⟩ ⟨by omega, by omega⟩).mpr (by omega)⟩
  have e1 : I 35 1 = zo (n : Nat) := (f2 1 (by decide) (by decide)).trans h1
  refine ⟨rfl, fun E At hE hC => ?_⟩
  have take : (s < b.1 ∨ (s = b.1 ∧ e < b.2.1)) → At 36 [] [some (.ref 35), some (.int e), some (.int s), some (.int 0)] (zwI (zwI (I, J, zR, 81) 35 2 s) 35 9 e) := fun q => by
    have ih := g_keep d E At Q hE hC (va_up (va_up I 35 (va_up (I 35) 2 s)) 35 (va_up (va_up (I 35) 2 s) 9 e)) J e s (zo (n : Nat)) e1 hn7 (fun f hf => by
      refine K _ ?_
      have eb : zbs gap al ti du tr y e s b [] = (s, e, tr ++ []) := by unfold zbs; exact if_pos q
      rw [eb]
      refine ⟨fun c h35 h36 h40 h41 => ?_, fun j h2 h9 => ?_, rfl, rfl, f5, f6, Or.inr (fun j hj => ?_)⟩
      · rw [zup_ne h36, zup_ne h35, zup_ne h35]; exact f1 c h35 h36 h40 h41
      · show va_up (va_up (I 35) 2 s) 9 e j = I0 35 j
        rw [zup_ne h9, zup_ne h2]; exact f2 j h2 h9
      · show f j = _
        rw [hf j (by rw [zo_tn (by omega)]; exact hj), List.append_nil]
        exact f6 j (by omega)) n 0 (I 36) (by decide) (by rw [zo_tn (by omega)]; exact (Nat.zero_add _).symm) (fun j hj => absurd hj (Nat.not_lt_zero j))
    rw [zup_same (f := va_up (va_up I 35 (va_up (I 35) 2 s)) 35 (va_up (va_up (I 35) 2 s) 9 e)) (k := 36) (v := I 36) rfl] at ih
    exact ih
  have keep : ¬ (s < b.1 ∨ (s = b.1 ∧ e < b.2.1)) → Q none (I, J, zR, 81) := fun q => by
    refine K I ?_
    have eb : zbs gap al ti du tr y e s b [] = b := by unfold zbs; exact if_neg q
    rw [eb]
    exact hI
  refine g_X5_keepIfBetter_0 d E At Q hE hC I J e s f3 f4 (fun q => take (Or.inl q)) (fun q1 q2 q3 => take (Or.inr ⟨q2, by clear hE hC K take keep hI f1 f2 f5 f6 f7; grind⟩)) (fun q1 q2 => keep ?_) (fun q1 q2 q3 => keep ?_)
  · rintro (z | z)
    · exact q1 z
    · exact q2 z.1
  · rintro (z | z)
    · exact q1 z
    · have := z.2
      clear hE hC K take keep hI f1 f2 f5 f6 f7
      grind
