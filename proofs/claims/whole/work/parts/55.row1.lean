def zRw (n : Nat) (f : Nat → Int32) (l : List Nat) : Prop := l.length = n ∧ (∀ j, j < n → l.getD j 0 < 8) ∧ ∀ j, j < n → f j = zo (l.getD j 0 : Nat)
theorem zgs {l : List Nat} {a j v : Nat} (ha : a < l.length) : (l.set a v).getD j 0 = if j = a then v else l.getD j 0 := by
  simp only [List.getD]
  by_cases q : j = a
  · subst q
    rw [if_pos rfl, List.getElem?_set_self ha]
    rfl
  · rw [if_neg q, List.getElem?_set_ne (fun z => q z.symm)]
theorem zRw_s {n a b : Nat} {f : Nat → Int32} {l : List Nat} (h : zRw n f l) (ha : a < n) (hb : b < n) : zRw n (va_up (va_up f a (f b)) b (f a)) (zxs l a b) := by
  obtain ⟨h1, h2, h3⟩ := h
  have e : ∀ j, (zxs l a b).getD j 0 = if j = b then l.getD a 0 else if j = a then l.getD b 0 else l.getD j 0 := fun j => by
    unfold zxs
    rw [zgs (by rw [List.length_set]; omega), zgs (by omega)]
  refine ⟨by unfold zxs; rw [List.length_set, List.length_set]; exact h1, fun j hj => ?_, fun j hj => ?_⟩
  · rw [e]
    split
    · exact h2 a ha
    · split
      · exact h2 b hb
      · exact h2 j hj
  · rw [e]
    by_cases q : j = b
    · rw [if_pos q, q, zup_eq]; exact h3 a ha
    · rw [if_neg q, zup_ne q]
      by_cases w : j = a
      · rw [if_pos w, w, zup_eq]; exact h3 b hb
      · rw [if_neg w, zup_ne w]; exact h3 j hj
theorem zrw_le {n i j : Nat} {f : Nat → Int32} {l : List Nat} (h : zRw n f l) (hi : i < n) (hj : j < n) : (f i ≤ f j ↔ l.getD i 0 ≤ l.getD j 0) := by
  have a := h.2.1 i hi
  have b := h.2.1 j hj
  rw [h.2.2 i hi, h.2.2 j hj, zo_le ⟨by omega, by omega⟩ ⟨by omega, by omega⟩]
  omega
theorem g_row7 (d : Nat) (E : zE) (At : Nat → zC) (Q : Option Value → zM → Prop) (hE : ∀ y n a M' Q', zT (d + 0) y n a M' Q' → E y n a M' Q') (hC : ∀ pc st L M', zX 81 E Q At (zlk B_X10_nextRow pc) st L M' → At pc st L M') (I : Nat → Nat → Int32) (J : Nat → Nat → Int64) (n : Nat) (l : List Nat) (h1 : 1 ≤ n) (h7 : n ≤ 7) (en : I 46 37 = zo (n : Nat)) (hl : zRw n (I 74) l) : ∀ m : Nat, m ≤ n - 1 → (zxi l m = none → Q (some (.int 0)) (I, J, zR, 81)) → (∀ i, zxi l m = some i → i + 1 < n → ¬ l.getD (i + 1) 0 < l.getD i 0 → At 47 [] [some (.ref 46), some (.int (zo (i : Nat))), some (.int (zo (n : Nat) - 1)), none, none, none] (I, J, zR, 81)) → At 7 [] [some (.ref 46), some (.int (zo ((m : Int) - 1))), none, none, none, none] (I, J, zR, 81)
  | 0, _, l0, _ => by
    have hneg : zo (((0 : Nat) : Int) - 1) < 0 := by decide
    exact g_X10_nextRow_7 d E At Q hE hC I J _ rfl en (fun q => absurd hneg q) (fun q => absurd hneg q) (fun _ q => absurd q (by decide)) (fun q => absurd hneg q) (fun q => absurd hneg q) (fun _ _ => l0 rfl) (fun q => absurd hneg q)
  | m + 1, hm, l0, l1 => by
    have e : ((m + 1 : Nat) : Int) - 1 = (m : Nat) := by omega
    rw [e]
    have z0 : (0 : Int32) = zo 0 := rfl
    have hneg : ¬ zo (m : Int) < 0 := by rw [z0, zo_lt ⟨by omega, by omega⟩ ⟨by omega, by omega⟩]; omega
    have em : (zo (m : Int)).toNatClampNeg = m := zo_tn (by omega)
    have em1 : (zo (m : Int) + 1).toNatClampNeg = m + 1 := by rw [zo_s1]; exact zo_tn (by omega)
    have c : (I 74 (zo (m : Int)).toNatClampNeg ≤ I 74 (zo (m : Int) + 1).toNatClampNeg ↔ l.getD m 0 ≤ l.getD (m + 1) 0) := by rw [em, em1]; exact zrw_le hl (by omega) (by omega)
    refine g_X10_nextRow_7 d E At Q hE hC I J (zo (m : Nat)) rfl en (fun _ => zo_in (m := 7) (by omega) (by omega)) (fun _ => by rw [zo_s1]; exact zo_in (m := 7) (by omega) (by omega)) (fun q => absurd q hneg) (fun _ q _ => ?_) (fun _ q => ?_) (fun q => absurd q hneg) (fun _ _ q => absurd (zo_nn (by omega)) q)
    · have q1 := c.mp q
      refine l1 m ?_ (by omega) (by omega)
      unfold zxi
      have : Nat.blt (l.getD (m + 1) 0) (l.getD m 0) = false := by
        rw [Bool.eq_false_iff]
        intro z
        have := Nat.blt_eq.mp z
        omega
      rw [this]
      rfl
    · have q1 : ¬ l.getD m 0 ≤ l.getD (m + 1) 0 := fun z => q (c.mpr z)
      have hb : Nat.blt (l.getD (m + 1) 0) (l.getD m 0) = true := Nat.blt_eq.mpr (by omega)
      have ex : zxi l (m + 1) = zxi l m := by
        show cond (Nat.blt (l.getD (m + 1) 0) (l.getD m 0)) (zxi l m) (some m) = _
        rw [hb]
        rfl
      rw [ex] at l0 l1
      have ih := g_row7 d E At Q hE hC I J n l h1 h7 en hl m (by omega) l0 l1
      rw [← zo_dec] at ih
      exact ih
theorem g_row107 (d : Nat) (E : zE) (At : Nat → zC) (Q : Option Value → zM → Prop) (hE : ∀ y n a M' Q', zT (d + 0) y n a M' Q' → E y n a M' Q') (hC : ∀ pc st L M', zX 81 E Q At (zlk B_X10_nextRow pc) st L M' → At pc st L M') (I : Nat → Nat → Int32) (J : Nat → Nat → Int64) (n : Nat) (h7 : n ≤ 7) : ∀ (fu a b : Nat) (v1 v2 v3 : Int32) (l : List Nat) (f : Nat → Int32), b ≤ a + 2 * fu → a ≤ n → b < n → zRw n f l → (∀ f' : Nat → Int32, zRw n f' (zxv fu l a b) → Q (some (.int 1)) (va_up I 74 f', J, zR, 81)) → At 107 [] [some (.ref 46), some (.int v1), some (.int v2), some (.int v3), some (.int (zo (a : Nat))), some (.int (zo (b : Nat)))] (va_up I 74 f, J, zR, 81)
  | 0, a, b, v1, v2, v3, l, f, hab, ha, hb, hl, K => by
    have c : zo (b : Int) ≤ zo (a : Int) := (zo_le ⟨by omega, by omega⟩ ⟨by omega, by omega⟩).mpr (by omega)
    exact g_X10_nextRow_107 d E At Q hE hC (va_up I 74 f) J v1 v2 v3 _ _ (show _ = f from rfl) (fun q => absurd c q) (fun q => absurd c q) (fun q => absurd c q) (fun q => absurd c q) (fun q => absurd c q) (fun _ => K f hl)
  | fu + 1, a, b, v1, v2, v3, l, f, hab, ha, hb, hl, K => by
    by_cases w : a < b
    · have hlt : Nat.blt a b = true := Nat.blt_eq.mpr w
      have nc : ¬ zo (b : Int) ≤ zo (a : Int) := by rw [zo_le ⟨by omega, by omega⟩ ⟨by omega, by omega⟩]; omega
      have ea : (zo (a : Int)).toNatClampNeg = a := zo_tn (by omega)
      have eb : (zo (b : Int)).toNatClampNeg = b := zo_tn (by omega)
      have a7 : 0 ≤ zo (a : Int) ∧ zo (a : Int) < 7 := zo_in (m := 7) (by omega) (by omega)
      have b7 : 0 ≤ zo (b : Int) ∧ zo (b : Int) < 7 := zo_in (m := 7) (by omega) (by omega)
      refine g_X10_nextRow_107 d E At Q hE hC (va_up I 74 f) J v1 v2 v3 _ _ (show _ = f from rfl) (fun _ => a7) (fun _ => b7) (fun _ => a7) (fun _ => b7) (fun _ => ?_) (fun q => absurd q nc)
      have ex : zxv (fu + 1) l a b = zxv fu (zxs l a b) (a + 1) (b - 1) := by
        show cond (Nat.blt a b) _ _ = _
        rw [hlt]
        rfl
      rw [ex] at K
      have ih := g_row107 d E At Q hE hC I J n h7 fu (a + 1) (b - 1) v1 v2 (f a) (zxs l a b) (va_up (va_up f a (f b)) b (f a)) (by omega) (by omega) (by omega) (zRw_s hl (by omega) hb) K
      have e2 : ((b - 1 : Nat) : Int) = (b : Int) - 1 := by omega
      have em : va_up (va_up (va_up I 74 f) 74 (va_up f a (f b))) 74 (va_up (va_up f a (f b)) b (f a)) = va_up I 74 (va_up (va_up f a (f b)) b (f a)) := by rw [zuu, zuu]
      rw [← zo_s1 a, e2, ← zo_dec, ← em] at ih
      rw [ea, eb]
      exact ih
    · have c : zo (b : Int) ≤ zo (a : Int) := (zo_le ⟨by omega, by omega⟩ ⟨by omega, by omega⟩).mpr (by omega)
      have hlt : Nat.blt a b = false := by
        rw [Bool.eq_false_iff]
        intro z
        exact w (Nat.blt_eq.mp z)
      have ex : zxv (fu + 1) l a b = l := by
        show cond (Nat.blt a b) _ _ = _
        rw [hlt]
        rfl
      rw [ex] at K
      exact g_X10_nextRow_107 d E At Q hE hC (va_up I 74 f) J v1 v2 v3 _ _ (show _ = f from rfl) (fun q => absurd c q) (fun q => absurd c q) (fun q => absurd c q) (fun q => absurd c q) (fun q => absurd c q) (fun _ => K f hl)
theorem g_row47 (d : Nat) (E : zE) (At : Nat → zC) (Q : Option Value → zM → Prop) (hE : ∀ y n a M' Q', zT (d + 0) y n a M' Q' → E y n a M' Q') (hC : ∀ pc st L M', zX 81 E Q At (zlk B_X10_nextRow pc) st L M' → At pc st L M') (I : Nat → Nat → Int32) (J : Nat → Nat → Int64) (n i : Nat) (l : List Nat) (h7 : n ≤ 7) (en : I 46 37 = zo (n : Nat)) (hl : zRw n (I 74) l) (hi : i + 1 < n) (hge : ¬ l.getD (i + 1) 0 < l.getD i 0) : ∀ j : Nat, i + 1 ≤ j → j < n → (∀ f' : Nat → Int32, zRw n f' (zxv n (zxs l i (zxj l (l.getD i 0) j)) (i + 1) (n - 1)) → Q (some (.int 1)) (va_up I 74 f', J, zR, 81)) → At 47 [] [some (.ref 46), some (.int (zo (i : Nat))), some (.int (zo (j : Nat))), none, none, none] (I, J, zR, 81)
  | 0, hj, _, _ => absurd hj (by omega)
  | j + 1, hj, hjn, K => by
    have ei : (zo (i : Int)).toNatClampNeg = i := zo_tn (by omega)
    have ej : (zo ((j + 1 : Nat) : Int)).toNatClampNeg = j + 1 := zo_tn (by omega)
    have i7 : 0 ≤ zo (i : Int) ∧ zo (i : Int) < 7 := zo_in (m := 7) (by omega) (by omega)
    have j7 : 0 ≤ zo ((j + 1 : Nat) : Int) ∧ zo ((j + 1 : Nat) : Int) < 7 := zo_in (m := 7) (by omega) (by omega)
    have c : (I 74 (zo (i : Int)).toNatClampNeg ≤ I 74 (zo ((j + 1 : Nat) : Int)).toNatClampNeg ↔ l.getD i 0 ≤ l.getD (j + 1) 0) := by rw [ei, ej]; exact zrw_le hl (by omega) (by omega)
    refine g_X10_nextRow_47 d E At Q hE hC I J (zo (i : Nat)) (zo ((j + 1 : Nat) : Int)) rfl en j7 i7 (fun _ => i7) (fun _ => j7) (fun _ => i7) (fun _ => j7) (fun q => ?_) (fun q => ?_)
    · have q1 := c.mp q
      have hb : Nat.blt (l.getD (j + 1) 0) (l.getD i 0) = false := by
        rw [Bool.eq_false_iff]
        intro z
        have := Nat.blt_eq.mp z
        omega
      have ex : zxj l (l.getD i 0) (j + 1) = j + 1 := by
        show cond (Nat.blt (l.getD (j + 1) 0) (l.getD i 0)) _ _ = _
        rw [hb]
        rfl
      rw [ex] at K
      have ih := g_row107 d E At Q hE hC I J n h7 n (i + 1) (n - 1) (zo (i : Nat)) (zo ((j + 1 : Nat) : Int)) (I 74 i) (zxs l i (j + 1)) (va_up (va_up (I 74) i (I 74 (j + 1))) (j + 1) (I 74 i)) (by omega) (by omega) (by omega) (zRw_s hl (by omega) hjn) K
      have e9 : zo ((n - 1 : Nat) : Int) = zo (n : Nat) - 1 := (zo_p1 (by omega)).symm
      rw [← zo_s1 i, e9, ← zuu (v := va_up (I 74) i (I 74 (j + 1)))] at ih
      rw [ei, ej]
      exact ih
    · have q1 : ¬ l.getD i 0 ≤ l.getD (j + 1) 0 := fun z => q (c.mpr z)
      have hb : Nat.blt (l.getD (j + 1) 0) (l.getD i 0) = true := Nat.blt_eq.mpr (by omega)
      have ex : zxj l (l.getD i 0) (j + 1) = zxj l (l.getD i 0) j := by
        show cond (Nat.blt (l.getD (j + 1) 0) (l.getD i 0)) _ _ = _
        rw [hb]
        rfl
      rw [ex] at K
      have hne : j + 1 ≠ i + 1 := fun z => by
        rw [z] at q1
        omega
      have ih := g_row47 d E At Q hE hC I J n i l h7 en hl hi hge j (by omega) (by omega) K
      have e2 : ((j + 1 : Nat) : Int) - 1 = (j : Nat) := by omega
      have e3 : zo ((j + 1 : Nat) : Int) + (-1) = zo (j : Nat) := by rw [zo_dec, e2]
      rw [← e3] at ih
      exact ih
theorem w_nextRow (d n : Nat) (I : Nat → Nat → Int32) (J : Nat → Nat → Int64) (l : List Nat) (Q : Option Value → zM → Prop) (h1 : 1 ≤ n) (h7 : n ≤ 7) (en : I 46 37 = zo (n : Nat)) (hl : zRw n (I 74) l) (l0 : zxr n l = none → Q (some (.int 0)) (I, J, zR, 81)) (l1 : ∀ (l' : List Nat) (f' : Nat → Int32), zxr n l = some l' → zRw n f' l' → Q (some (.int 1)) (va_up I 74 f', J, zR, 81)) : zT (d + 1) 122 81 [.ref 46] (I, J, zR, 81) Q := by
  refine ⟨rfl, fun E At hE hC => g_X10_nextRow_0 d E At Q hE hC I J en ?_⟩
  have ih := g_row7 d E At Q hE hC I J n l h1 h7 en hl (n - 1) (Nat.le_refl _) (fun q => l0 (by unfold zxr; rw [q])) (fun i q hi hge => by
    have i2 := g_row47 d E At Q hE hC I J n i l h7 en hl hi hge (n - 1) (by omega) (by omega) (fun f' hf => l1 _ f' (by unfold zxr; rw [q]) hf)
    rw [← zo_p1 (by omega)] at i2
    exact i2)
  have e : ((n - 1 : Nat) : Int) - 1 = (n : Int) - 2 := by omega
  have e2 : zo (n : Int) - 2 = zo ((n : Int) - 2) := zo_sub (n : Int) 2
  rw [e, ← e2] at ih
  exact ih
