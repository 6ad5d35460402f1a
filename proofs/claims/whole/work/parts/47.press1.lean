/-! press: how the groups move -/
def zsv (pc : Nat → Int32) (p : Int32) : Nat → Int32 → (Nat → Int32) → (Nat → Int32)
  | 0, _, f => f
  | r + 1, o, f => zsv pc p r (o + 1) (va_up f (3 * p + o).toNatClampNeg (f (3 * p + o).toNatClampNeg - pc o.toNatClampNeg))
theorem zsub0 {f : Nat → Int32} {k : Nat} {v : Int32} (h : v = 0) : va_up f k (f k - v) = f := by
  rw [h, Int32.sub_zero]
  exact zself
theorem zsv_cut {pc pc' : Nat → Int32} {p k : Int32} {f : Nat → Int32} (hk : 0 ≤ k ∧ k ≤ 3) (e0 : pc' 0 = pc 0) (e1 : pc' 1 = pc 1) (e2 : pc' 2 = pc 2) (z : ∀ o : Int32, 0 ≤ o → o ≤ 2 → k ≤ o → pc o.toNatClampNeg = 0) : zsv pc' p k.toNatClampNeg 0 f = zsv pc p 3 0 f := by
  have h9 : k = 0 ∨ k = 1 ∨ k = 2 ∨ k = 3 := by clear z; grind
  have z0 : k ≤ 0 → pc 0 = 0 := z 0 (by decide) (by decide)
  have z1 : k ≤ 1 → pc 1 = 0 := z 1 (by decide) (by decide)
  have z2 : k ≤ 2 → pc 2 = 0 := z 2 (by decide) (by decide)
  clear z
  have e : zsv pc p 3 0 f = va_up (va_up (va_up f (3 * p + 0).toNatClampNeg (f (3 * p + 0).toNatClampNeg - pc 0)) (3 * p + 1).toNatClampNeg ((va_up f (3 * p + 0).toNatClampNeg (f (3 * p + 0).toNatClampNeg - pc 0)) (3 * p + 1).toNatClampNeg - pc 1)) (3 * p + 2).toNatClampNeg ((va_up (va_up f (3 * p + 0).toNatClampNeg (f (3 * p + 0).toNatClampNeg - pc 0)) (3 * p + 1).toNatClampNeg ((va_up f (3 * p + 0).toNatClampNeg (f (3 * p + 0).toNatClampNeg - pc 0)) (3 * p + 1).toNatClampNeg - pc 1)) (3 * p + 2).toNatClampNeg - pc 2) := rfl
  rw [e]
  rcases h9 with rfl | rfl | rfl | rfl
  · rw [zsub0 (z0 (by decide)), zsub0 (z1 (by decide)), zsub0 (z2 (by decide))]
    rfl
  · rw [zsub0 (z1 (by decide)), zsub0 (z2 (by decide)), ← e0]
    rfl
  · rw [zsub0 (z2 (by decide)), ← e0, ← e1]
    rfl
  · rw [← e0, ← e1, ← e2]
    rfl
theorem zRo_sub {np p o v : Int32} {os ol ow os' ol' : Nat → Int32} (h : zRo np os ol ow os' ol' ow) (hn : np ≤ 8) (hp : 0 ≤ p ∧ p < np) (ho : 0 ≤ o ∧ o ≤ 2) (hv0 : os p.toNatClampNeg ≤ o → v = 0) (hv1 : ¬ os p.toNatClampNeg ≤ o → 0 ≤ ow (3 * p + o).toNatClampNeg - v ∧ ow (3 * p + o).toNatClampNeg - v ≤ 500) : zRo np os ol (va_up ow (3 * p + o).toNatClampNeg (ow (3 * p + o).toNatClampNeg - v)) os' ol' (va_up ow (3 * p + o).toNatClampNeg (ow (3 * p + o).toNatClampNeg - v)) := by
  by_cases q : os p.toNatClampNeg ≤ o
  · rw [zsub0 (hv0 q)]
    exact h
  · obtain ⟨⟨o1, o2, o3⟩, o4, o5, o6⟩ := h
    refine ⟨⟨o1, o2, rfl⟩, o4, o5, fun p2 k h1 h2 h3 h4 => ?_⟩
    have e4 := o4 p2.toNatClampNeg
    have k1 := zb24b ⟨h1, h2⟩ hn (o := k) ⟨h3, by clear o4 o5 o6; grind⟩
    have k2 := zb24b hp hn ho
    have k6 := o6 p2 k h1 h2 h3 h4
    refine ⟨k6.1, ?_⟩
    rw [zup_i k1.1 k2.1]
    by_cases w : 3 * p2 + k = 3 * p + o
    · rw [if_pos w]; exact hv1 q
    · rw [if_neg w]; exact k6.2
theorem zix {p o k n : Int32} (hp : 0 ≤ p ∧ p < n) (hn : n ≤ 8) (ho : 0 ≤ o ∧ o ≤ 2) (hk : 0 ≤ k ∧ k ≤ 2) (h : o ≠ k) : (3 * p + o).toNatClampNeg ≠ (3 * p + k).toNatClampNeg := fun z => by
  have := zinj (zb24b hp hn ho).1 (zb24b hp hn hk).1 z
  grind
theorem zRo_serve {np p : Int32} {os ol ow os' ol' ow' pc : Nat → Int32} (h : zRo np os ol ow os' ol' ow') (hn : np ≤ 8) (hp : 0 ≤ p ∧ p < np) (hv0 : ∀ o : Int32, 0 ≤ o → o ≤ 2 → os p.toNatClampNeg ≤ o → pc o.toNatClampNeg = 0) (hv1 : ∀ o : Int32, 0 ≤ o → o ≤ 2 → ¬ os p.toNatClampNeg ≤ o → 0 ≤ ow (3 * p + o).toNatClampNeg - pc o.toNatClampNeg ∧ ow (3 * p + o).toNatClampNeg - pc o.toNatClampNeg ≤ 500) : zRo np os ol (zsv pc p 3 0 ow) os' ol' (zsv pc p 3 0 ow) := by
  have h1 : zRo np os ol ow os' ol' ow := ⟨⟨h.1.1, h.1.2.1, rfl⟩, h.2⟩
  have s0 := zRo_sub h1 hn hp (o := 0) (v := pc 0) (by decide) (hv0 0 (by decide) (by decide)) (hv1 0 (by decide) (by decide))
  have s1 := zRo_sub s0 hn hp (o := 1) (v := pc 1) (by decide) (hv0 1 (by decide) (by decide)) (fun q => by
    rw [zup_ne (zix hp hn (by decide) (by decide) (by decide))]
    exact hv1 1 (by decide) (by decide) q)
  have s2 := zRo_sub s1 hn hp (o := 2) (v := pc 2) (by decide) (hv0 2 (by decide) (by decide)) (fun q => by
    rw [zup_ne (zix hp hn (by decide) (by decide) (by decide)), zup_ne (zix hp hn (by decide) (by decide) (by decide))]
    exact hv1 2 (by decide) (by decide) q)
  exact s2
/-- a piece is no more than is wanted -/
theorem zpiece {np p o : Int32} {os ol ow os' ol' ow' : Nat → Int32} {x : Int} {m : Nat} (h : zRo np os ol ow os' ol' ow') (hp : 0 ≤ p ∧ p < np) (ho : 0 ≤ o) (hx : 0 ≤ x ∧ x ≤ m) (hm : m ≤ 60) (e : zMo os ow p o = zo (m : Nat)) : (os p.toNatClampNeg ≤ o → zo x = 0) ∧ (¬ os p.toNatClampNeg ≤ o → 0 ≤ ow (3 * p + o).toNatClampNeg - zo x ∧ ow (3 * p + o).toNatClampNeg - zo x ≤ 500) := by
  have z0 : (0 : Int32) = zo 0 := rfl
  refine ⟨fun q => ?_, fun q => ?_⟩
  · unfold zMo at e
    rw [if_pos q, z0, zo_eq ⟨by omega, by omega⟩ ⟨by omega, by omega⟩] at e
    have : x = 0 := by omega
    rw [this]
    rfl
  · have k := (h.2.2.2 p o hp.1 hp.2 ho (by clear h; grind)).2
    have l1 : 0 ≤ zo x := by rw [z0, zo_le ⟨by omega, by omega⟩ ⟨by omega, by omega⟩]; exact hx.1
    have l2 : zo x ≤ zo (m : Nat) := by rw [zo_le ⟨by omega, by omega⟩ ⟨by omega, by omega⟩]; exact hx.2
    rw [← e] at l2
    unfold zMo at l2
    rw [if_neg q] at l2
    generalize zo x = y at *
    generalize ow (3 * p + o).toNatClampNeg = v at *
    clear e h
    split at l2 <;> grind
theorem zRd_wear {np n n' a : Int32} {pr li sh ev wa pr' li' sh' ev' wa' : Nat → Int32} (h : zRd np n n' pr li sh ev wa pr' li' sh' ev' wa') (ha : 0 ≤ a ∧ a < n) (x y : Int32) : zRd np n n' pr li (va_up sh a.toNatClampNeg x) (va_up ev a.toNatClampNeg y) wa pr' li' (va_up sh' a.toNatClampNeg x) (va_up ev' a.toNatClampNeg y) wa' := by
  refine ⟨h.1, h.2.1, ⟨h.2.2.1.1, h.2.2.1.2.1, zcg_up h.2.2.1.2.2.1, zcg_up h.2.2.1.2.2.2.1, h.2.2.1.2.2.2.2⟩, h.2.2.2.1, fun j hj => ?_⟩
  have := (zlt_nat ha.1 h.2.1.1).mp ha.2
  rw [zup_ne (by omega), zup_ne (by omega)]
  exact h.2.2.2.2 j hj
theorem zRb_add {nd n n' a b le1 go1 cu1 we1 rc1 gm1 : Int32} {di bi le go cu we ba di' bi' le' go' cu' we' ba' rc gm re gr pr : Nat → Int32} (h : zRb nd n n' di bi le go cu we ba di' bi' le' go' cu' we' ba' rc gm re gr pr) (hn : n < 200) (ha : 0 ≤ a ∧ a < nd) (e1 : rc1 = re (pr a.toNatClampNeg).toNatClampNeg) (e2 : gm1 = gr (pr a.toNatClampNeg).toNatClampNeg) (hg : 0 ≤ go1 ∧ go1 ≤ 100000) : zRb nd (n + 1) (n + 1) (va_up di n.toNatClampNeg a) (va_up bi n.toNatClampNeg b) (va_up le n.toNatClampNeg le1) (va_up go n.toNatClampNeg go1) (va_up cu n.toNatClampNeg cu1) (va_up we n.toNatClampNeg we1) (va_up ba n.toNatClampNeg (-1)) (va_up di' n.toNatClampNeg a) (va_up bi' n.toNatClampNeg b) (va_up le' n.toNatClampNeg le1) (va_up go' n.toNatClampNeg go1) (va_up cu' n.toNatClampNeg cu1) (va_up we' n.toNatClampNeg we1) (va_up ba' n.toNatClampNeg (-1)) (va_up rc n.toNatClampNeg rc1) (va_up gm n.toNatClampNeg gm1) re gr pr := by
  obtain ⟨b1, b2, ⟨c1, c2, c3, c4, c5, c6, c7⟩, b4⟩ := h
  refine ⟨rfl, by clear b4; grind, ⟨zcg_up c1, zcg_up c2, zcg_up c3, zcg_up c4, zcg_up c5, zcg_up c6, zcg_up c7⟩, fun i hi hl => ?_⟩
  rw [zup_i hi b2.1, zup_i hi b2.1, zup_i hi b2.1, zup_i hi b2.1]
  by_cases q : i = n
  · rw [if_pos q, if_pos q, if_pos q, if_pos q]; exact ⟨ha, e1, e2, hg⟩
  · rw [if_neg q, if_neg q, if_neg q, if_neg q]; exact b4 i hi (by clear b4; grind)
theorem zRk_add {n : Int32} {lo lo' : Nat → Int32} (h : zRk n lo lo') (hn : 0 ≤ n ∧ n < 200) : zRk (n + 1) lo (va_up lo' n.toNatClampNeg (-1)) := by
  refine ⟨fun i hi hl => ?_, fun j hj => h.2 j ?_⟩
  · rw [zup_i hi hn.1]
    by_cases q : i = n
    · rw [if_pos q, q]; exact Or.inl ⟨h.2 _ (Nat.le_refl _), rfl⟩
    · rw [if_neg q]; exact h.1 i hi (by clear h; grind)
  · have : n.toNatClampNeg ≤ (n + 1).toNatClampNeg := (zle_nat hn.1 (by clear h; grind)).mp (by clear h; grind)
    omega
theorem zad32 {g : Int64} {a x : Int32} (h : g.toInt32 = a) : (g + x.toInt64).toInt32 = a + x := by
  rw [Int64.toInt32_add, Int32.toInt32_toInt64, h]
theorem zRa_add {ac : Nat → Int32} {g : Nat → Int64} (h : zRa ac g) (x0 x1 x2 x3 x4 x5 x6 : Int32) : zRa (va_up (va_up (va_up (va_up (va_up (va_up (va_up ac 0 (ac 0 + x0)) 1 (ac 1 + x1)) 2 (ac 2 + x2)) 3 (ac 3 + x3)) 4 (ac 4 + x4)) 5 (ac 5 + x5)) 6 (ac 6 + x6)) (va_up (va_up (va_up (va_up (va_up (va_up (va_up g 0 (g 0 + x0.toInt64)) 1 (g 1 + x1.toInt64)) 2 (g 2 + x2.toInt64)) 3 (g 3 + x3.toInt64)) 4 (g 4 + x4.toInt64)) 5 (g 5 + x5.toInt64)) 6 (g 6 + x6.toInt64)) := by
  intro k hk
  have h9 : k = 0 ∨ k = 1 ∨ k = 2 ∨ k = 3 ∨ k = 4 ∨ k = 5 ∨ k = 6 := by omega
  rcases h9 with rfl | rfl | rfl | rfl | rfl | rfl | rfl
  · exact zad32 (h 0 (by decide))
  · exact zad32 (h 1 (by decide))
  · exact zad32 (h 2 (by decide))
  · exact zad32 (h 3 (by decide))
  · exact zad32 (h 4 (by decide))
  · exact zad32 (h 5 (by decide))
  · exact zad32 (h 6 (by decide))
theorem g_serve (d : Nat) (E : zE) (At : Nat → zC) (Q : Option Value → zM → Prop) (hE : ∀ y n a M' Q', zT (d + 0) y n a M' Q' → E y n a M' Q') (hC : ∀ pc st L M', zX 81 E Q At (zlk B_X3_serve pc) st L M' → At pc st L M') (I : Nat → Nat → Int32) (J : Nat → Nat → Int64) (p n : Int32) (hp : 0 ≤ p ∧ p < n) (hn : n ≤ 8) : ∀ (r : Nat) (o : Int32) (f : Nat → Int32), 0 ≤ o → (3 : Int32).toNatClampNeg = o.toNatClampNeg + r → Q none (va_up I 9 (zsv (I 19) p r o f), J, zR, 81) → At 2 [] [some (.ref 6), some (.int p), some (.ref 19), some (.int o)] (va_up I 9 f, J, zR, 81)
  | 0, o, f, h0, hr, hQ => by
    have hl := zlast h0 (by decide) hr
    exact g_X3_serve_2 d E At Q hE hC (va_up I 9 f) J p o (show _ = I 19 from rfl) (show _ = f from rfl) (fun q => absurd hl q) (fun q => absurd hl q) (fun q => absurd hl q) (fun q => absurd hl q) (fun _ => hQ)
  | r + 1, o, f, h0, hr, hQ => by
    obtain ⟨h1, h2, h3⟩ := znext h0 (by decide) hr
    have hb := zb24 hp hn (o := o) ⟨h0, by clear hE hC hQ; grind⟩
    refine g_X3_serve_2 d E At Q hE hC (va_up I 9 f) J p o (show _ = I 19 from rfl) (show _ = f from rfl) (fun _ => hb) (fun _ => ⟨h0, h1⟩) (fun _ => hb) (fun _ => ?_) (fun q => absurd h1 (by clear hE hC hQ; grind))
    have ih := g_serve d E At Q hE hC I J p n hp hn r (o + 1) _ h2 h3 hQ
    rw [← zuu (v := f), Int32.mul_comm 3 p] at ih
    exact ih
theorem w_serve (d : Nat) (I : Nat → Nat → Int32) (J : Nat → Nat → Int64) (p n : Int32) (Q : Option Value → zM → Prop) (hp : 0 ≤ p ∧ p < n) (hn : n ≤ 8) {pc f : Nat → Int32} (e19 : I 19 = pc) (e9 : I 9 = f) (K : Q none (va_up I 9 (zsv pc p 3 0 f), J, zR, 81)) : zT (d + 1) 24 81 [.ref 6, .int p, .ref 19] (I, J, zR, 81) Q := by
  subst e19 e9
  refine ⟨rfl, fun E At hE hC => g_X3_serve_0 d E At Q hE hC I J p ?_⟩
  have ih := g_serve d E At Q hE hC I J p n hp hn 3 0 (I 9) (by decide) rfl K
  rw [zself] at ih
  exact ih
theorem g_press91 (d : Nat) (E : zE) (At : Nat → zC) (Q : Option Value → zM → Prop) (hE : ∀ y n a M' Q', zT (d + 0) y n a M' Q' → E y n a M' Q') (hC : ∀ pc st L M', zX 81 E Q At (zlk B_X10_press pc) st L M' → At pc st L M') (I : Nat → Nat → Int32) (J : Nat → Nat → Int64) (a b p n : Int32) (hp : 0 ≤ p ∧ p < n) (hn : n ≤ 8) {os : Nat → Int32} (e66 : I 66 = os) (ho : 0 ≤ os p.toNatClampNeg ∧ os p.toNatClampNeg ≤ 3) : ∀ (r : Nat) (o : Int32) (f : Nat → Int32), 0 ≤ o → (os p.toNatClampNeg).toNatClampNeg = o.toNatClampNeg + r → (∀ o2 : Int32, At 129 [] [some (.ref 46), some (.int a), some (.int b), some (.int p), some (.int o2)] (va_up I 68 (zsv (I 69) p r o f), J, zR, 81)) → At 91 [] [some (.ref 46), some (.int a), some (.int b), some (.int p), some (.int o)] (va_up I 68 f, J, zR, 81)
  | 0, o, f, h0, hr, K => by
    have hp8 : 0 ≤ p ∧ p < 8 := by clear hE hC K; grind
    have hl : os p.toNatClampNeg ≤ o := zlast h0 ho.1 hr
    exact g_X10_press_91 d E At Q hE hC (va_up I 68 f) J a b p o e66 (show _ = f from rfl) (show _ = I 69 from rfl) hp8 (fun q => absurd hl q) (fun q => absurd hl q) (fun q => absurd hl q) (fun _ => K o) (fun q => absurd hl q)
  | r + 1, o, f, h0, hr, K => by
    have hp8 : 0 ≤ p ∧ p < 8 := by clear hE hC K; grind
    obtain ⟨h1, h2, h3⟩ := znext h0 (n := os p.toNatClampNeg) (by clear hE hC K; grind) hr
    have ho2 : 0 ≤ o ∧ o ≤ 2 := by clear hE hC K; grind
    have hb := zb24b hp hn ho2
    refine g_X10_press_91 d E At Q hE hC (va_up I 68 f) J a b p o e66 (show _ = f from rfl) (show _ = I 69 from rfl) hp8 (fun _ => hb) (fun _ => by clear hE hC K; grind) (fun _ => hb) (fun q => absurd h1 (by clear hE hC K; grind)) (fun _ => ?_)
    have ih := g_press91 d E At Q hE hC I J a b p n hp hn e66 ho r (o + 1) _ h2 h3 K
    rw [← zuu (v := f)] at ih
    exact ih
