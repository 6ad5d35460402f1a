/-! batches: the ovens that each recipe needs, against ovens filled one after the other -/
def zov (go ba rc g : Nat → Int32) (f oven : Int32) : Nat → Int32 → Int32 → Int32 → Int32
  | 0, _, o, _ => o
  | r + 1, i, o, s => if go i.toNatClampNeg ≤ 0 then zov go ba rc g f oven r (i + 1) o s else if ba i.toNatClampNeg = -1 then (if g i.toNatClampNeg = 0 then (if rc i.toNatClampNeg = f then (if o = 0 then zov go ba rc g f oven r (i + 1) (o + 1) (0 + go i.toNatClampNeg) else if s + go i.toNatClampNeg ≤ oven then zov go ba rc g f oven r (i + 1) o (s + go i.toNatClampNeg) else zov go ba rc g f oven r (i + 1) (o + 1) (0 + go i.toNatClampNeg)) else zov go ba rc g f oven r (i + 1) o s) else zov go ba rc g f oven r (i + 1) o s) else zov go ba rc g f oven r (i + 1) o s
section
variable {go ba rc : Nat → Int32} {oven n : Int32}
theorem zov_skip {f i o s : Int32} {g : Nat → Int32} {r : Nat} (h : go i.toNatClampNeg ≤ 0 ∨ ¬ ba i.toNatClampNeg = -1 ∨ ¬ g i.toNatClampNeg = 0 ∨ ¬ rc i.toNatClampNeg = f) : zov go ba rc g f oven (r + 1) i o s = zov go ba rc g f oven r (i + 1) o s := by
  rw [zov]
  by_cases c1 : go i.toNatClampNeg ≤ 0
  · rw [if_pos c1]
  rw [if_neg c1]
  by_cases c2 : ba i.toNatClampNeg = -1
  · rw [if_pos c2]
    by_cases c3 : g i.toNatClampNeg = 0
    · rw [if_pos c3]
      by_cases c4 : rc i.toNatClampNeg = f
      · rcases h with z | z | z | z
        · exact absurd z c1
        · exact absurd c2 z
        · exact absurd c3 z
        · exact absurd c4 z
      · rw [if_neg c4]
    · rw [if_neg c3]
  · rw [if_neg c2]
theorem zov_new {f i o s : Int32} {g : Nat → Int32} {r : Nat} (c1 : ¬ go i.toNatClampNeg ≤ 0) (c2 : ba i.toNatClampNeg = -1) (c3 : g i.toNatClampNeg = 0) (c4 : rc i.toNatClampNeg = f) (c5 : o = 0 ∨ ¬ s + go i.toNatClampNeg ≤ oven) : zov go ba rc g f oven (r + 1) i o s = zov go ba rc g f oven r (i + 1) (o + 1) (0 + go i.toNatClampNeg) := by
  rw [zov, if_neg c1, if_pos c2, if_pos c3, if_pos c4]
  by_cases q : o = 0
  · rw [if_pos q]
  · rw [if_neg q, if_neg (by rcases c5 with w | w; exact absurd w q; exact w)]
theorem zov_add {f i o s : Int32} {g : Nat → Int32} {r : Nat} (c1 : ¬ go i.toNatClampNeg ≤ 0) (c2 : ba i.toNatClampNeg = -1) (c3 : g i.toNatClampNeg = 0) (c4 : rc i.toNatClampNeg = f) (c5 : ¬ o = 0) (c6 : s + go i.toNatClampNeg ≤ oven) : zov go ba rc g f oven (r + 1) i o s = zov go ba rc g f oven r (i + 1) o (s + go i.toNatClampNeg) := by
  rw [zov, if_neg c1, if_pos c2, if_pos c3, if_pos c4, if_neg c5, if_pos c6]
/-- what a bar can be: passed over; taken up -/
theorem zwt_cases (f i : Int32) (g : Nat → Int32) : (go i.toNatClampNeg ≤ 0 ∨ ¬ ba i.toNatClampNeg = -1 ∨ ¬ g i.toNatClampNeg = 0 ∨ ¬ rc i.toNatClampNeg = f) ∨ (¬ go i.toNatClampNeg ≤ 0 ∧ ba i.toNatClampNeg = -1 ∧ g i.toNatClampNeg = 0 ∧ rc i.toNatClampNeg = f) := by
  by_cases c1 : go i.toNatClampNeg ≤ 0
  · exact Or.inl (Or.inl c1)
  by_cases c2 : ba i.toNatClampNeg = -1
  · by_cases c3 : g i.toNatClampNeg = 0
    · by_cases c4 : rc i.toNatClampNeg = f
      · exact Or.inr ⟨c1, c2, c3, c4⟩
      · exact Or.inl (Or.inr (Or.inr (Or.inr c4)))
    · exact Or.inl (Or.inr (Or.inr (Or.inl c3)))
  · exact Or.inl (Or.inr (Or.inl c2))
theorem zov_cg {f : Int32} {g g' : Nat → Int32} (hn : 0 ≤ n ∧ n ≤ 200) : ∀ (r : Nat) (i o s : Int32), 0 ≤ i → n.toNatClampNeg = i.toNatClampNeg + r → (∀ j, i.toNatClampNeg ≤ j → j < 200 → rc j = f → g j = g' j) → zov go ba rc g f oven r i o s = zov go ba rc g' f oven r i o s
  | 0, i, o, s, _, _, _ => rfl
  | r + 1, i, o, s, h0, hr, h => by
    obtain ⟨h1, h2, h3⟩ := znext h0 (by clear h; grind) hr
    have hi := zlt200 h0 hn h1
    have hh : ∀ j, (i + 1).toNatClampNeg ≤ j → j < 200 → rc j = f → g j = g' j := fun j q => h j (by omega)
    by_cases c4 : rc i.toNatClampNeg = f
    · have e := h _ (Nat.le_refl _) hi c4
      rw [zov, zov, e, zov_cg hn r (i + 1) _ _ h2 h3 hh, zov_cg hn r (i + 1) (o + 1) _ h2 h3 hh, zov_cg hn r (i + 1) o (s + go i.toNatClampNeg) h2 h3 hh]
    · rw [zov_skip (Or.inr (Or.inr (Or.inr c4))), zov_skip (Or.inr (Or.inr (Or.inr c4)))]
      exact zov_cg hn r (i + 1) o s h2 h3 hh
theorem zov_b {f : Int32} {g : Nat → Int32} (hn : 0 ≤ n ∧ n ≤ 200) : ∀ (r : Nat) (i o s : Int32), 0 ≤ i → n.toNatClampNeg = i.toNatClampNeg + r → (0 ≤ o ∧ o ≤ i) → 0 ≤ zov go ba rc g f oven r i o s ∧ zov go ba rc g f oven r i o s ≤ n
  | 0, i, o, s, h0, hr, ho => by
    have : i ≤ n := (zle_nat h0 hn.1).mpr (by omega)
    rw [zov]
    grind
  | r + 1, i, o, s, h0, hr, ho => by
    obtain ⟨h1, h2, h3⟩ := znext h0 (by grind) hr
    have ho2 : 0 ≤ o ∧ o ≤ i + 1 := by grind
    have ho3 : 0 ≤ o + 1 ∧ o + 1 ≤ i + 1 := by grind
    rcases zwt_cases (go := go) (ba := ba) (rc := rc) f i g with q | ⟨c1, c2, c3, c4⟩
    · rw [zov_skip q]; exact zov_b hn r (i + 1) o s h2 h3 ho2
    · by_cases c5 : o = 0 ∨ ¬ s + go i.toNatClampNeg ≤ oven
      · rw [zov_new c1 c2 c3 c4 c5]; exact zov_b hn r (i + 1) _ _ h2 h3 ho3
      · rw [zov_add c1 c2 c3 c4 (fun z => c5 (Or.inl z)) (Classical.byContradiction fun z => c5 (Or.inr z))]
        exact zov_b hn r (i + 1) _ _ h2 h3 ho2
theorem zov_shift {f : Int32} {g : Nat → Int32} (hn : 0 ≤ n ∧ n ≤ 200) : ∀ (r : Nat) (i o s : Int32), 0 ≤ i → n.toNatClampNeg = i.toNatClampNeg + r → (1 ≤ o ∧ o ≤ i + 2) → zov go ba rc g f oven r i (o + 1) s = zov go ba rc g f oven r i o s + 1
  | 0, i, o, s, h0, hr, ho => rfl
  | r + 1, i, o, s, h0, hr, ho => by
    obtain ⟨h1, h2, h3⟩ := znext h0 (by grind) hr
    have ho2 : 1 ≤ o ∧ o ≤ i + 1 + 2 := by grind
    have ho3 : 1 ≤ o + 1 ∧ o + 1 ≤ i + 1 + 2 := by grind
    have hne : ¬ o = 0 := by grind
    have hne2 : ¬ o + 1 = 0 := by grind
    rcases zwt_cases (go := go) (ba := ba) (rc := rc) f i g with q | ⟨c1, c2, c3, c4⟩
    · rw [zov_skip q, zov_skip q]; exact zov_shift hn r (i + 1) o s h2 h3 ho2
    · by_cases c5 : s + go i.toNatClampNeg ≤ oven
      · rw [zov_add c1 c2 c3 c4 hne c5, zov_add c1 c2 c3 c4 hne2 c5]; exact zov_shift hn r (i + 1) o _ h2 h3 ho2
      · rw [zov_new c1 c2 c3 c4 (Or.inr c5), zov_new c1 c2 c3 c4 (Or.inr c5)]; exact zov_shift hn r (i + 1) _ _ h2 h3 ho3
theorem zfo_lo {f : Int32} (hn : 0 ≤ n ∧ n ≤ 200) : ∀ (r : Nat) (i c s : Int32) (g : Nat → Int32) (j : Nat), 0 ≤ i → n.toNatClampNeg = i.toNatClampNeg + r → j < i.toNatClampNeg → (zfo go ba rc f oven r i c s g).2 j = g j
  | 0, i, c, s, g, j, _, _, _ => rfl
  | r + 1, i, c, s, g, j, h0, hr, hj => by
    obtain ⟨h1, h2, h3⟩ := znext h0 (by grind) hr
    rcases zwt_cases (go := go) (ba := ba) (rc := rc) f i g with q | ⟨c1, c2, c3, c4⟩
    · rw [zfo_skip q]; exact zfo_lo hn r (i + 1) c s g j h2 h3 (by omega)
    · by_cases c5 : c = 0 ∨ ¬ oven < s + go i.toNatClampNeg
      · rw [zfo_take c1 c2 c3 c4 c5]; exact (zfo_lo hn r (i + 1) _ _ _ j h2 h3 (by omega)).trans (zup_ne (by omega))
      · rw [zfo_stop c1 c2 c3 c4 (fun z => c5 (Or.inl z)) (Classical.byContradiction fun z => c5 (Or.inr z))]
theorem zfo_rc {f : Int32} (j : Nat) (hj : ¬ rc j = f) : ∀ (r : Nat) (i c s : Int32) (g : Nat → Int32), (zfo go ba rc f oven r i c s g).2 j = g j
  | 0, i, c, s, g => rfl
  | r + 1, i, c, s, g => by
    rcases zwt_cases (go := go) (ba := ba) (rc := rc) f i g with q | ⟨c1, c2, c3, c4⟩
    · rw [zfo_skip q]; exact zfo_rc j hj r (i + 1) c s g
    · by_cases c5 : c = 0 ∨ ¬ oven < s + go i.toNatClampNeg
      · rw [zfo_take c1 c2 c3 c4 c5]
        exact (zfo_rc j hj r (i + 1) _ _ _).trans (zup_ne (fun z => hj (by rw [z]; exact c4)))
      · rw [zfo_stop c1 c2 c3 c4 (fun z => c5 (Or.inl z)) (Classical.byContradiction fun z => c5 (Or.inr z))]
/-- an oven that is filled is one oven less -/
theorem zov_fill {f : Int32} (hn : 0 ≤ n ∧ n ≤ 200) : ∀ (r : Nat) (i c s : Int32) (g : Nat → Int32), 0 ≤ i → n.toNatClampNeg = i.toNatClampNeg + r → (1 ≤ c ∧ c ≤ i) → zov go ba rc (zfo go ba rc f oven r i c s g).2 f oven r i 0 0 + 1 = zov go ba rc g f oven r i 1 s
  | 0, i, c, s, g, _, _, _ => rfl
  | r + 1, i, c, s, g, h0, hr, hc => by
    obtain ⟨h1, h2, h3⟩ := znext h0 (by grind) hr
    have hi := zlt200 h0 hn h1
    have hc2 : 1 ≤ c ∧ c ≤ i + 1 := by grind
    have hc3 : 1 ≤ c + 1 ∧ c + 1 ≤ i + 1 := by grind
    have hne : ¬ c = 0 := by grind
    rcases zwt_cases (go := go) (ba := ba) (rc := rc) f i g with q | ⟨c1, c2, c3, c4⟩
    · rw [zfo_skip q, zov_skip q]
      have e := zfo_lo (go := go) (ba := ba) (rc := rc) (oven := oven) (f := f) hn r (i + 1) c s g i.toNatClampNeg h2 h3 (by omega)
      rw [zov_skip (by rw [e]; exact q)]
      exact zov_fill hn r (i + 1) c s g h2 h3 hc2
    · by_cases c5 : oven < s + go i.toNatClampNeg
      · rw [zfo_stop c1 c2 c3 c4 hne c5, zov_new c1 c2 c3 c4 (Or.inl rfl), zov_new c1 c2 c3 c4 (Or.inr (by grind))]
        exact (zov_shift hn r (i + 1) 1 _ h2 h3 (by grind)).symm
      · rw [zfo_take c1 c2 c3 c4 (Or.inr c5), zov_add c1 c2 c3 c4 (by decide) (by grind)]
        have e := zfo_lo (go := go) (ba := ba) (rc := rc) (oven := oven) (f := f) hn r (i + 1) (c + 1) (s + go i.toNatClampNeg) (va_up g i.toNatClampNeg 1) i.toNatClampNeg h2 h3 (by omega)
        rw [zov_skip (Or.inr (Or.inr (Or.inl (by rw [e, zup_eq]; decide))))]
        rw [zov_fill hn r (i + 1) (c + 1) _ _ h2 h3 hc3]
        exact zov_cg hn r (i + 1) 1 _ h2 h3 (fun j q _ _ => zup_ne (by omega))
theorem zov_first (hn : 0 ≤ n ∧ n ≤ 200) (g : Nat → Int32) : ∀ (r : Nat) (i : Int32), 0 ≤ i → n.toNatClampNeg = i.toNatClampNeg + r → ¬ zfw go ba g r i = -1 → zov go ba rc (zfo go ba rc (rc (zfw go ba g r i).toNatClampNeg) oven (n.toNatClampNeg - (zfw go ba g r i).toNatClampNeg) (zfw go ba g r i) 0 0 g).2 (rc (zfw go ba g r i).toNatClampNeg) oven r i 0 0 + 1 = zov go ba rc g (rc (zfw go ba g r i).toNatClampNeg) oven r i 0 0 ∧ i ≤ zfw go ba g r i
  | 0, i, _, _, hne => absurd rfl hne
  | r + 1, i, h0, hr, hne => by
    obtain ⟨h1, h2, h3⟩ := znext h0 (by grind) hr
    have hi := zlt200 h0 hn h1
    by_cases w : go i.toNatClampNeg ≤ 0 ∨ ¬ ba i.toNatClampNeg = -1 ∨ ¬ g i.toNatClampNeg = 0
    · rw [zfw_skip w] at hne ⊢
      obtain ⟨k1, k2⟩ := zov_first hn g r (i + 1) h2 h3 hne
      rcases zfw_in (go := go) (ba := ba) (g := g) hn r (i + 1) h2 h3 with z | ⟨z1, z2, z3, z4⟩
      · exact absurd z hne
      have hw : ∀ f : Int32, go i.toNatClampNeg ≤ 0 ∨ ¬ ba i.toNatClampNeg = -1 ∨ ¬ g i.toNatClampNeg = 0 ∨ ¬ rc i.toNatClampNeg = f := fun f => by
        rcases w with z | z | z
        · exact Or.inl z
        · exact Or.inr (Or.inl z)
        · exact Or.inr (Or.inr (Or.inl z))
      have hlt := (zlt_nat z1.1 hn.1).mp z1.2
      have hle := (zle_nat h2 z1.1).mp k2
      have e := zfo_lo (go := go) (ba := ba) (rc := rc) (oven := oven) (f := rc (zfw go ba g r (i + 1)).toNatClampNeg) hn (n.toNatClampNeg - (zfw go ba g r (i + 1)).toNatClampNeg) (zfw go ba g r (i + 1)) 0 0 g i.toNatClampNeg z1.1 (by omega) (by omega)
      rw [zov_skip (hw _), zov_skip (by rw [e]; exact hw _)]
      exact ⟨k1, by clear k1 e; grind⟩
    · have c1 : ¬ go i.toNatClampNeg ≤ 0 := fun z => w (Or.inl z)
      have c2 : ba i.toNatClampNeg = -1 := Classical.byContradiction fun z => w (Or.inr (Or.inl z))
      have c3 : g i.toNatClampNeg = 0 := Classical.byContradiction fun z => w (Or.inr (Or.inr z))
      have ef : zfw go ba g (r + 1) i = i := by rw [zfw, if_neg c1, if_pos c2, if_pos c3]
      rw [ef]
      have er : n.toNatClampNeg - i.toNatClampNeg = r + 1 := by omega
      refine ⟨?_, Int32.le_refl i⟩
      rw [er, zfo_take c1 c2 c3 rfl (Or.inl rfl), zov_new c1 c2 c3 rfl (Or.inl rfl)]
      have e := zfo_lo (go := go) (ba := ba) (rc := rc) (oven := oven) (f := rc i.toNatClampNeg) hn r (i + 1) (0 + 1) (0 + go i.toNatClampNeg) (va_up g i.toNatClampNeg 1) i.toNatClampNeg h2 h3 (by omega)
      rw [zov_skip (Or.inr (Or.inr (Or.inl (by rw [e, zup_eq]; decide)))), zov_fill hn r (i + 1) (0 + 1) _ _ h2 h3 (by grind)]
      exact zov_cg hn r (i + 1) _ _ h2 h3 (fun j q _ _ => zup_ne (by omega))
theorem zov_zero {f : Int32} {g : Nat → Int32} (hn : 0 ≤ n ∧ n ≤ 200) : ∀ (r : Nat) (i o s : Int32), 0 ≤ i → n.toNatClampNeg = i.toNatClampNeg + r → zfw go ba g r i = -1 → zov go ba rc g f oven r i o s = o
  | 0, i, o, s, _, _, _ => rfl
  | r + 1, i, o, s, h0, hr, hz => by
    obtain ⟨h1, h2, h3⟩ := znext h0 (by grind) hr
    by_cases w : go i.toNatClampNeg ≤ 0 ∨ ¬ ba i.toNatClampNeg = -1 ∨ ¬ g i.toNatClampNeg = 0
    · rw [zfw_skip w] at hz
      rw [zov_skip (by rcases w with z | z | z; exact Or.inl z; exact Or.inr (Or.inl z); exact Or.inr (Or.inr (Or.inl z)))]
      exact zov_zero hn r (i + 1) o s h2 h3 hz
    · have c1 : ¬ go i.toNatClampNeg ≤ 0 := fun z => w (Or.inl z)
      have c2 : ba i.toNatClampNeg = -1 := Classical.byContradiction fun z => w (Or.inr (Or.inl z))
      have c3 : g i.toNatClampNeg = 0 := Classical.byContradiction fun z => w (Or.inr (Or.inr z))
      rw [zfw, if_neg c1, if_pos c2, if_pos c3] at hz
      exfalso
      grind
end
