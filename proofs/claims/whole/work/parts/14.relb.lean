/-! how the relation's groups move -/
theorem zcg_up {α : Type} {f g : Nat → α} {k : Nat} {v : α} (h : f = g) : va_up f k v = va_up g k v := by rw [h]
theorem zup_z {f : Nat → Int32} {k : Nat} {v : Int32} (h : f k = v) : va_up f k v = f := by rw [← h]; exact zup_id
theorem zRp_add {n n' a r e g : Int32} {al ra re gr al' ra' re' gr' : Nat → Int32} (h : zRp n n' al ra re gr al' ra' re' gr') (hn : ¬ 8 ≤ n) (h1 : 0 ≤ a ∧ a ≤ 2) (h2 : 5 ≤ r ∧ r ≤ 80) (h3 : 0 ≤ e ∧ e ≤ 3) (h4 : 100 ≤ g ∧ g ≤ 9999) : zRp (n + 1) (n + 1) (va_up al n.toNatClampNeg a) (va_up ra n.toNatClampNeg r) (va_up re n.toNatClampNeg e) (va_up gr n.toNatClampNeg g) (va_up al' n.toNatClampNeg a) (va_up ra' n.toNatClampNeg r) (va_up re' n.toNatClampNeg e) (va_up gr' n.toNatClampNeg g) := by
  obtain ⟨p1, p2, ⟨p3, p4, p5, p6⟩, p7⟩ := h
  refine ⟨rfl, by grind, ⟨zcg_up p3, zcg_up p4, zcg_up p5, zcg_up p6⟩, fun i hi hl => ?_⟩
  rw [zup_i hi p2.1, zup_i hi p2.1, zup_i hi p2.1, zup_i hi p2.1]
  by_cases q : i = n
  · rw [if_pos q, if_pos q, if_pos q, if_pos q]
    exact ⟨h1, h2, h3, h4⟩
  · rw [if_neg q, if_neg q, if_neg q, if_neg q]
    exact p7 i hi (by clear p7; grind)
theorem zRd_np {np n n' : Int32} {pr li sh ev wa pr' li' sh' ev' wa' : Nat → Int32} (h : zRd np n n' pr li sh ev wa pr' li' sh' ev' wa') (hn : 0 ≤ np ∧ np ≤ 8) : zRd (np + 1) n n' pr li sh ev wa pr' li' sh' ev' wa' := by
  obtain ⟨d1, d2, d3, d8, d9⟩ := h
  exact ⟨d1, d2, d3, fun i hi hl => by have := d8 i hi hl; clear d8 d9; grind, d9⟩
theorem zRo_np {np : Int32} {os ol ow os' ol' ow' : Nat → Int32} (h : zRo np os ol ow os' ol' ow') (hn : 0 ≤ np ∧ np ≤ 8) : zRo (np + 1) os ol ow (va_up os' np.toNatClampNeg 0) ol' ow' := by
  obtain ⟨⟨o1, o2, o3⟩, o4, o5, o6⟩ := h
  have hz : os np.toNatClampNeg = 0 := o5 _ (Nat.le_refl _)
  refine ⟨⟨(zcg_up o1).trans (zup_z hz), o2, o3⟩, o4, fun j hj => o5 j ?_, fun p o h1 h2 h3 h4 => ?_⟩
  · have : np.toNatClampNeg ≤ (np + 1).toNatClampNeg := (zle_nat hn.1 (by grind)).mp (by grind)
    omega
  · by_cases q : p = np
    · rw [q, hz] at h4
      exfalso; clear o4 o5 o6; grind
    · exact o6 p o h1 (by clear o4 o5 o6; grind) h3 h4
theorem zRb_pf {np nd n n' e g : Int32} {di bi le go cu we ba di' bi' le' go' cu' we' ba' rc gm re gr pr : Nat → Int32} (h : zRb nd n n' di bi le go cu we ba di' bi' le' go' cu' we' ba' rc gm re gr pr) (hn : 0 ≤ np) (hd : ∀ i : Int32, 0 ≤ i → i < nd → 0 ≤ pr i.toNatClampNeg ∧ pr i.toNatClampNeg < np) : zRb nd n n' di bi le go cu we ba di' bi' le' go' cu' we' ba' rc gm (va_up re np.toNatClampNeg e) (va_up gr np.toNatClampNeg g) pr := by
  obtain ⟨b1, b2, b3, b4⟩ := h
  refine ⟨b1, b2, b3, fun i hi hl => ?_⟩
  obtain ⟨q1, q2, q3, q4⟩ := b4 i hi hl
  have q5 := hd _ q1.1 q1.2
  have hne : (pr (di i.toNatClampNeg).toNatClampNeg).toNatClampNeg ≠ np.toNatClampNeg := fun z => by
    have := zinj q5.1 hn z
    clear b4 hd
    grind
  exact ⟨q1, by rw [zup_ne hne]; exact q2, by rw [zup_ne hne]; exact q3, q4⟩
theorem zRj_np {np n n' gap gap' a : Int32} {al ti du pr' ti' du' alp : Nat → Int32} (h : zRj np n n' gap gap' al ti du pr' ti' du' alp) (hn : 0 ≤ np ∧ np ≤ 8) : zRj (np + 1) n n' gap gap' al ti du pr' ti' du' (va_up alp np.toNatClampNeg a) := by
  obtain ⟨j1, j2, j3, j4, j5⟩ := h
  refine ⟨j1, j2, j3, j4, fun i hi hl => ?_⟩
  obtain ⟨q1, q2, q3, q4⟩ := j5 i hi hl
  have hne : (pr' i.toNatClampNeg).toNatClampNeg ≠ np.toNatClampNeg := fun z => by
    have := zinj q1.1 hn.1 z
    clear j5
    grind
  exact ⟨⟨q1.1, by clear j5; grind⟩, by rw [zup_ne hne]; exact q2, q3, q4⟩
theorem zRd_add {np n n' a l : Int32} {pr li sh ev wa pr' li' sh' ev' wa' : Nat → Int32} (h : zRd np n n' pr li sh ev wa pr' li' sh' ev' wa') (hn : ¬ 12 ≤ n) (ha : 0 ≤ a ∧ a < np) : zRd np (n + 1) (n + 1) (va_up pr n.toNatClampNeg a) (va_up li n.toNatClampNeg l) sh ev (va_up wa n.toNatClampNeg (-1)) (va_up pr' n.toNatClampNeg a) (va_up li' n.toNatClampNeg l) (va_up sh' n.toNatClampNeg 0) (va_up ev' n.toNatClampNeg 0) (va_up wa' n.toNatClampNeg (-1)) := by
  obtain ⟨d1, d2, ⟨d3, d4, d5, d6, d7⟩, d8, d9⟩ := h
  have z1 := (d9 _ (Nat.le_refl _)).1
  have z2 := (d9 _ (Nat.le_refl _)).2
  refine ⟨rfl, by clear d8 d9; grind, ⟨zcg_up d3, zcg_up d4, (zcg_up d5).trans (zup_z z1), (zcg_up d6).trans (zup_z z2), zcg_up d7⟩, fun i hi hl => ?_, fun j hj => d9 j ?_⟩
  · rw [zup_i hi d2.1]
    by_cases q : i = n
    · rw [if_pos q]; exact ha
    · rw [if_neg q]; exact d8 i hi (by clear d8 d9; grind)
  · have : n.toNatClampNeg ≤ (n + 1).toNatClampNeg := (zle_nat d2.1 (by clear d8 d9; grind)).mp (by clear d8 d9; grind)
    omega
theorem zRb_nd {nd n n' a : Int32} {di bi le go cu we ba di' bi' le' go' cu' we' ba' rc gm re gr pr : Nat → Int32} (h : zRb nd n n' di bi le go cu we ba di' bi' le' go' cu' we' ba' rc gm re gr pr) (hn : 0 ≤ nd ∧ nd ≤ 12) : zRb (nd + 1) n n' di bi le go cu we ba di' bi' le' go' cu' we' ba' rc gm re gr (va_up pr nd.toNatClampNeg a) := by
  obtain ⟨b1, b2, b3, b4⟩ := h
  refine ⟨b1, b2, b3, fun i hi hl => ?_⟩
  obtain ⟨q1, q2, q3, q4⟩ := b4 i hi hl
  have hne : (di i.toNatClampNeg).toNatClampNeg ≠ nd.toNatClampNeg := fun z => by
    have := zinj q1.1 hn.1 z
    clear b4
    grind
  exact ⟨⟨q1.1, by clear b4; grind⟩, by rw [zup_ne hne]; exact q2, by rw [zup_ne hne]; exact q3, q4⟩
theorem zRd_wa {np n n' v : Int32} {k : Nat} {pr li sh ev wa pr' li' sh' ev' wa' : Nat → Int32} (h : zRd np n n' pr li sh ev wa pr' li' sh' ev' wa') : zRd np n n' pr li sh ev (va_up wa k v) pr' li' sh' ev' (va_up wa' k v) :=
  ⟨h.1, h.2.1, ⟨h.2.2.1.1, h.2.2.1.2.1, h.2.2.1.2.2.1, h.2.2.1.2.2.2.1, zcg_up h.2.2.1.2.2.2.2⟩, h.2.2.2.1, h.2.2.2.2⟩
theorem zRd_s0 {np n n' : Int32} {k : Nat} {pr li sh ev wa pr' li' sh' ev' wa' : Nat → Int32} (h : zRd np n n' pr li sh ev wa pr' li' sh' ev' wa') : zRd np n n' pr li (va_up sh k 0) ev wa pr' li' (va_up sh' k 0) ev' wa' := by
  refine ⟨h.1, h.2.1, ⟨h.2.2.1.1, h.2.2.1.2.1, zcg_up h.2.2.1.2.2.1, h.2.2.1.2.2.2.1, h.2.2.1.2.2.2.2⟩, h.2.2.2.1, fun j hj => ⟨?_, (h.2.2.2.2 j hj).2⟩⟩
  by_cases q : j = k
  · rw [q, zup_eq]
  · rw [zup_ne q]; exact (h.2.2.2.2 j hj).1
theorem zRl_set {la la' : Nat → Int32} {a v : Int32} (h : zRl la la') (ha : 0 ≤ a ∧ a ≤ 5) (hv : 0 ≤ v ∧ v ≤ zlim a.toNatClampNeg) : zRl (va_up la a.toNatClampNeg v) (va_up la' a.toNatClampNeg v) := by
  obtain ⟨l1, l2, l3, l4, l5, l6, l7⟩ := h
  have h9 : a = 0 ∨ a = 1 ∨ a = 2 ∨ a = 3 ∨ a = 4 ∨ a = 5 := by clear l1; grind
  rcases h9 with rfl | rfl | rfl | rfl | rfl | rfl
  · exact ⟨zcg_up l1, hv, l3, l4, l5, l6, l7⟩
  · exact ⟨zcg_up l1, l2, hv, l4, l5, l6, l7⟩
  · exact ⟨zcg_up l1, l2, l3, hv, l5, l6, l7⟩
  · exact ⟨zcg_up l1, l2, l3, l4, hv, l6, l7⟩
  · exact ⟨zcg_up l1, l2, l3, l4, l5, hv, l7⟩
  · exact ⟨zcg_up l1, l2, l3, l4, l5, l6, hv⟩
theorem zRs_add {n n' a : Int32} {st st' : Nat → Int32} (h : zRs n n' st st') (hn : ¬ 6 ≤ n) (ha : 200 ≤ a ∧ a ≤ 1200) : zRs (n + 1) (n + 1) (va_up st n.toNatClampNeg a) (va_up st' n.toNatClampNeg a) := by
  obtain ⟨s1, s2, s3, s4⟩ := h
  refine ⟨rfl, by clear s4; grind, zcg_up s3, fun i hi hl => ?_⟩
  rw [zup_i hi s2.1]
  by_cases q : i = n
  · rw [if_pos q]; exact ha
  · rw [if_neg q]; exact s4 i hi (by clear s4; grind)
theorem zRj_add {np n n' gap gap' p a t d : Int32} {al ti du pr' ti' du' alp : Nat → Int32} (h : zRj np n n' gap gap' al ti du pr' ti' du' alp) (hn : ¬ 7 ≤ n) (hp : 0 ≤ p ∧ p < np) (ha : a = alp p.toNatClampNeg) (ht : 1 ≤ t ∧ t ≤ 50) (hd : 0 ≤ d ∧ d ≤ 1000) : zRj np (n + 1) (n + 1) gap gap' (va_up al n.toNatClampNeg a) (va_up ti n.toNatClampNeg t) (va_up du n.toNatClampNeg d) (va_up pr' n.toNatClampNeg p) (va_up ti' n.toNatClampNeg t) (va_up du' n.toNatClampNeg d) alp := by
  obtain ⟨j1, j2, j3, j4, j5⟩ := h
  refine ⟨rfl, by clear j5; grind, j3, ⟨zcg_up j4.1, zcg_up j4.2⟩, fun i hi hl => ?_⟩
  rw [zup_i hi j2.1, zup_i hi j2.1, zup_i hi j2.1, zup_i hi j2.1]
  by_cases q : i = n
  · rw [if_pos q, if_pos q, if_pos q, if_pos q]
    exact ⟨hp, ha, ht, hd⟩
  · rw [if_neg q, if_neg q, if_neg q, if_neg q]
    exact j5 i hi (by clear j5; grind)
theorem zRc_off {n gap ll : Int32} {sq al ti du us : Nat → Int32} (hu : ∀ j : Nat, us j = 0) : zRc n gap 0 ll sq al ti du us := ⟨Or.inl rfl, hu, fun q => absurd q (by decide)⟩
theorem zRj_gap {np n n' gap gap' a : Int32} {al ti du pr' ti' du' alp : Nat → Int32} (h : zRj np n n' gap gap' al ti du pr' ti' du' alp) (ha : 0 ≤ a ∧ a ≤ 20) : zRj np n n' a a al ti du pr' ti' du' alp := ⟨h.1, h.2.1, ⟨rfl, ha⟩, h.2.2.2⟩
theorem zRk_set {n a v w : Int32} {lo lo' : Nat → Int32} (h : zRk n lo lo') (ha : 0 ≤ a ∧ a < n) (hv : (v = 1 ∧ w = 1) ∨ (v = 2 ∧ w = 0)) : zRk n (va_up lo a.toNatClampNeg v) (va_up lo' a.toNatClampNeg w) := by
  refine ⟨fun i hi hl => ?_, fun j hj => ?_⟩
  · rw [zup_i hi ha.1, zup_i hi ha.1]
    by_cases q : i = a
    · rw [if_pos q, if_pos q]; exact Or.inr hv
    · rw [if_neg q, if_neg q]; exact h.1 i hi hl
  · have : a.toNatClampNeg < n.toNatClampNeg := (zlt_nat ha.1 (by clear h; grind)).mp ha.2
    rw [zup_ne (by omega)]
    exact h.2 j hj
theorem zRh_fi {fi fi' v : Int32} {it fo sz it' fo' sz' : Nat → Int32} (h : zRh fi fi' it fo sz it' fo' sz') : zRh v v it fo sz it' fo' sz' := ⟨rfl, h.2⟩
theorem zRh_it {fi fi' v : Int32} {k : Nat} {it fo sz it' fo' sz' : Nat → Int32} (h : zRh fi fi' it fo sz it' fo' sz') : zRh fi fi' (va_up it k v) fo sz (va_up it' k v) fo' sz' := ⟨h.1, zcg_up h.2.1, h.2.2⟩
theorem zRh_lose {fi fi' a : Int32} {it fo sz it' fo' sz' : Nat → Int32} (h : zRh fi fi' it fo sz it' fo' sz') (ha : 0 ≤ a) : zRh fi fi' it fo (va_up sz a.toNatClampNeg (-1)) it' (va_up fo' a.toNatClampNeg (-1)) sz' := by
  refine ⟨h.1, h.2.1, fun s h1 h2 => ?_⟩
  rw [zup_i h1 ha, zup_i h1 ha]
  by_cases q : s = a
  · rw [if_pos q, if_pos q]; exact Or.inl ⟨rfl, rfl⟩
  · rw [if_neg q, if_neg q]; exact h.2.2 s h1 h2
theorem zRo_add {np p l w : Int32} {os ol ow os' ol' ow' : Nat → Int32} (h : zRo np os ol ow os' ol' ow') (hn : 0 ≤ np ∧ np ≤ 8) (hp : 0 ≤ p ∧ p < np) (hf : ¬ 3 ≤ os p.toNatClampNeg) (hl : 100 ≤ l ∧ l ≤ 9000) (hw : 0 ≤ w ∧ w ≤ 500) : zRo np (va_up os p.toNatClampNeg (os p.toNatClampNeg + 1)) (va_up ol (p * 3 + os p.toNatClampNeg).toNatClampNeg l) (va_up ow (p * 3 + os p.toNatClampNeg).toNatClampNeg w) (va_up os' p.toNatClampNeg (os p.toNatClampNeg + 1)) (va_up ol' (3 * p + os p.toNatClampNeg).toNatClampNeg l) (va_up ow' (3 * p + os p.toNatClampNeg).toNatClampNeg w) := by
  obtain ⟨⟨o1, o2, o3⟩, o4, o5, o6⟩ := h
  have o7 := o4 p.toNatClampNeg
  have hc : p * 3 = 3 * p := Int32.mul_comm p 3
  rw [hc]
  refine ⟨⟨zcg_up o1, zcg_up o2, zcg_up o3⟩, fun j => ?_, fun j hj => ?_, fun p2 o h1 h2 h3 h4 => ?_⟩
  · by_cases q : j = p.toNatClampNeg
    · rw [q, zup_eq]; clear o4 o5 o6; grind
    · rw [zup_ne q]; exact o4 j
  · have : p.toNatClampNeg < np.toNatClampNeg := (zlt_nat hp.1 hn.1).mp hp.2
    rw [zup_ne (by omega)]
    exact o5 j hj
  · rw [zup_i h1 hp.1] at h4
    have e1 := o4 p2.toNatClampNeg
    have k1 : 0 ≤ 3 * p2 + o := by clear o4 o5 o6; split at h4 <;> grind
    have k2 : 0 ≤ 3 * p + os p.toNatClampNeg := by clear o4 o5 o6; grind
    rw [zup_i k1 k2, zup_i k1 k2]
    by_cases q : 3 * p2 + o = 3 * p + os p.toNatClampNeg
    · rw [if_pos q, if_pos q]; exact ⟨hl, hw⟩
    · rw [if_neg q, if_neg q]
      refine o6 p2 o h1 h2 h3 ?_
      clear o4 o5 o6
      split at h4
      · rename_i z; subst z; grind
      · exact h4
theorem zRh_it2 {fi fi' v : Int32} {k k' : Nat} {it fo sz it' fo' sz' : Nat → Int32} (h : zRh fi fi' it fo sz it' fo' sz') (hk : k' = k) : zRh fi fi' (va_up it k v) fo sz (va_up it' k' v) fo' sz' := by
  rw [hk]
  exact zRh_it h
theorem zlim_v (a : Int32) : (a = 0 → zlim a.toNatClampNeg = 100) ∧ (1 ≤ a → a < 4 → zlim a.toNatClampNeg = 5000) ∧ (4 ≤ a → a ≤ 5 → zlim a.toNatClampNeg = 20) := by
  refine ⟨fun h => by rw [h]; rfl, fun h1 h2 => ?_, fun h1 h2 => ?_⟩
  · have h9 : a = 1 ∨ a = 2 ∨ a = 3 := by grind
    rcases h9 with rfl | rfl | rfl <;> rfl
  · have h9 : a = 4 ∨ a = 5 := by grind
    rcases h9 with rfl | rfl <;> rfl
theorem ztoI {p : Int32} {a b : Int32} (h : a ≤ p ∧ p ≤ b) : a.toInt ≤ p.toInt ∧ p.toInt ≤ b.toInt := ⟨Int32.le_iff_toInt_le.mp h.1, Int32.le_iff_toInt_le.mp h.2⟩
theorem zb24 {p o n : Int32} (hp : 0 ≤ p ∧ p < n) (hn : n ≤ 8) (ho : 0 ≤ o ∧ o ≤ 2) : 0 ≤ p * 3 + o ∧ p * 3 + o < 24 := by
  have h9 : p = 0 ∨ p = 1 ∨ p = 2 ∨ p = 3 ∨ p = 4 ∨ p = 5 ∨ p = 6 ∨ p = 7 := by grind
  have h8 : o = 0 ∨ o = 1 ∨ o = 2 := by grind
  rcases h9 with rfl | rfl | rfl | rfl | rfl | rfl | rfl | rfl <;> rcases h8 with rfl | rfl | rfl <;> decide
theorem zb24b {p o n : Int32} (hp : 0 ≤ p ∧ p < n) (hn : n ≤ 8) (ho : 0 ≤ o ∧ o ≤ 2) : 0 ≤ 3 * p + o ∧ 3 * p + o < 24 := by
  rw [Int32.mul_comm 3 p]
  exact zb24 hp hn ho
theorem zb800 {s i : Int32} (hs : 0 ≤ s ∧ s ≤ 3) (hi : 0 ≤ i ∧ i < 200) : 0 ≤ s * 200 + i ∧ s * 200 + i < 800 := by
  have h9 : s = 0 ∨ s = 1 ∨ s = 2 ∨ s = 3 := by grind
  rcases h9 with rfl | rfl | rfl | rfl <;> grind
theorem zb800b {s i : Int32} (hs : 0 ≤ s ∧ s ≤ 3) (hi : 0 ≤ i ∧ i < 200) : 0 ≤ 200 * s + i ∧ 200 * s + i < 800 := by
  rw [Int32.mul_comm 200 s]
  exact zb800 hs hi
