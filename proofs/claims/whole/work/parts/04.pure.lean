/-! ===== EACH OP IS SOUND over the kit's rows ===== -/
def zgood : List Cond := lw_tbl.filter goodWord
theorem zgood_at {w : Cond} (i : Nat) (h : lw_tbl[i]? = some w) (hg : goodWord w = true) : w ∈ zgood := List.mem_filter.mpr ⟨List.mem_of_getElem? h, hg⟩
theorem zgood_sub {ws : List Cond} (ps : List Nat) (hp : ws = ps.filterMap (fun i => lw_tbl[i]?)) (h : ws.all goodWord = true) : ∀ w ∈ ws, w ∈ zgood := by
  intro w hw
  have h1 := List.all_eq_true.mp h w hw
  rw [hp] at hw
  obtain ⟨i, -, hi⟩ := List.mem_filterMap.mp hw
  exact zgood_at i hi h1
theorem zgood_ok {w : Cond} (h : w ∈ zgood) : (w.onTables && w.keeps) = true ∨ ∃ ty, w = .arrayClass ty := good_of_word (List.mem_filter.mp h).2
theorem zcond {c : Bool} {P : Prop} (h : cond c P False) : c = true ∧ P := by
  cases c
  · exact h.elim
  · exact ⟨rfl, h⟩
def zadr (B aL b k : Nat) : Nat := if k < 900 then B + k else if k = 1000 then aL else b
theorem zadr_lt {B aL b k : Nat} (h : k < 900) : zadr B aL b k = B + k := if_pos h
def zdn (B aL b : Nat) (v : Value) : Value := match v with
  | .ref k => .ref (zadr B aL b k)
  | w => w
theorem zdn_cat {B aL b : Nat} {v : Value} : (zdn B aL b v).category = v.category := by cases v <;> rfl
def zfv (B : Nat) (M : zM) (k ci j : Nat) : Value := cond (zfr ci j) (va_rf ((M.2.2.1 k j).map (fun r => B + r))) (.int (M.1 k j))
def zcell (X : ClassId × ClassId × ClassId) (B : Nat) (M : zM) (k : Nat) : va_E := match zshp k with
  | .inl ci => .inr (ci, (List.range (zN ci)).map (zfv B M k ci))
  | .inr q => if q.1 = 0 then .inl (X.1, q.2, .inl (M.1 k)) else if q.1 = 1 then .inl (X.2.1, q.2, .inr (.inl (M.2.1 k))) else .inl (X.2.2, q.2, .inl (M.1 k))
def zw (X : ClassId × ClassId × ClassId) (B : Nat) (M : zM) : va_W := (List.range M.2.2.2).map (fun k => (B + k, zcell X B M k))
section ZPURE
variable {X : ClassId × ClassId × ClassId} {B : Nat} {M M' : zM} {k ci n : Nat}
theorem zcell_o (h : zshp k = .inl ci) : zcell X B M k = .inr (ci, (List.range (zN ci)).map (zfv B M k ci)) := by simp only [zcell, h]
theorem zcell_i (h : zshp k = .inr (0, n)) : zcell X B M k = .inl (X.1, n, .inl (M.1 k)) := by simp [zcell, h]
theorem zcell_j (h : zshp k = .inr (1, n)) : zcell X B M k = .inl (X.2.1, n, .inr (.inl (M.2.1 k))) := by simp [zcell, h]
theorem zcell_z (h : zshp k = .inr (2, n)) : zcell X B M k = .inl (X.2.2, n, .inl (M.1 k)) := by simp [zcell, h]
theorem zcell_cg (h1 : M.1 k = M'.1 k) (h2 : M.2.1 k = M'.2.1 k) (h3 : M.2.2.1 k = M'.2.2.1 k) : zcell X B M k = zcell X B M' k := by
  have hf : ∀ c, zfv B M k c = zfv B M' k c := fun c => by funext j; simp only [zfv, h1, h3]
  unfold zcell
  cases zshp k with
  | inl c => simp only [hf]
  | inr q => simp only [h1, h2]
theorem zokO_ok (h : zokO M k ci = true) : k < M.2.2.2 ∧ zshp k = .inl ci := by
  simp only [zokO, Bool.and_eq_true] at h
  obtain ⟨h1, h2⟩ := h
  refine ⟨Nat.le_of_ble_eq_true h1, ?_⟩
  cases hs : zshp k with
  | inl c => rw [hs] at h2; rw [Nat.eq_of_beq_eq_true h2]
  | inr q => rw [hs] at h2; cases h2
theorem zlen_ok {ty : Nat} (h : zlen M k ty = some n) : k < M.2.2.2 ∧ zshp k = .inr (ty, n) := by
  unfold zlen at h
  cases hb : Nat.blt k M.2.2.2 with
  | false => rw [hb] at h; cases h
  | true =>
    rw [hb] at h
    refine ⟨Nat.le_of_ble_eq_true hb, ?_⟩
    cases hs : zshp k with
    | inl c => rw [hs] at h; cases h
    | inr q =>
      rw [hs] at h
      dsimp only at h
      cases hq : Nat.beq q.1 ty with
      | false => rw [hq] at h; cases h
      | true =>
        rw [hq] at h
        have e1 := Nat.eq_of_beq_eq_true hq
        have e2 : q.2 = n := Option.some.inj h
        rw [← e1, ← e2]
theorem zw_get (h : k < M.2.2.2) : (zw X B M)[k]? = some (B + k, zcell X B M k) := by
  simp [zw, h]
theorem zw_D : va_D (fun q => B ≤ q) (zw X B M) := by
  refine ⟨fun i j p q hi hj hpq => ?_, fun i q hi => ?_⟩
  · simp only [zw, List.getElem?_map, Option.map_eq_some_iff] at hi hj
    obtain ⟨a, ha, rfl⟩ := hi
    obtain ⟨c, hc, rfl⟩ := hj
    have h1 := (List.getElem?_eq_some_iff.mp ha).2
    have h2 := (List.getElem?_eq_some_iff.mp hc).2
    simp only [List.getElem_range] at h1 h2
    dsimp only at hpq
    omega
  · simp only [zw, List.getElem?_map, Option.map_eq_some_iff] at hi
    obtain ⟨a, ha, rfl⟩ := hi
    exact Nat.le_add_right _ _
theorem zw_set (hk : k < M.2.2.2) (hn : M'.2.2.2 = M.2.2.2) (h : ∀ j, j ≠ k → zcell X B M' j = zcell X B M j) {e : va_E} (he : zcell X B M' k = e) : (zw X B M).set k (B + k, e) = zw X B M' := by
  subst he
  apply List.ext_getElem?
  intro i
  by_cases hi : i = k
  · subst hi
    rw [List.getElem?_set_self (by simpa [zw] using hk), zw_get (by omega)]
  · rw [List.getElem?_set_ne (Ne.symm hi)]
    by_cases hl : i < M.2.2.2
    · rw [zw_get hl, zw_get (by omega), h i hi]
    · rw [List.getElem?_eq_none (by simp [zw]; omega), List.getElem?_eq_none (by simp [zw]; omega)]
theorem zw_push (hn : M'.2.2.2 = M.2.2.2 + 1) (h : ∀ j, j < M.2.2.2 → zcell X B M' j = zcell X B M j) {e : va_E} (he : zcell X B M' M.2.2.2 = e) : zw X B M ++ [(B + M.2.2.2, e)] = zw X B M' := by
  subst he
  unfold zw
  rw [hn, List.range_succ, List.map_append]
  congr 1
  exact List.map_congr_left (fun j hj => by rw [h j (List.mem_range.mp hj)])
theorem zsetm {f f' : Nat → Value} {N j : Nat} {v : Value} (hj : j < N) (h1 : f' j = v) (h2 : ∀ i, i ≠ j → f' i = f i) : ((List.range N).map f).set j v = (List.range N).map f' := by
  apply List.ext_getElem?
  intro i
  by_cases hi : i = j
  · subst hi
    rw [List.getElem?_set_self (by simpa using hj)]
    simp [hj, h1]
  · rw [List.getElem?_set_ne (Ne.symm hi)]
    simp only [List.getElem?_map]
    by_cases hl : i < N
    · simp [hl, h2 i hi]
    · simp [hl]
theorem zwI_cell {j i : Nat} {v : Int32} (h : i ≠ k) : zcell X B (zwI M k j v) i = zcell X B M i := zcell_cg (by simp [zwI, va_up, h]) rfl rfl
theorem zwJ_cell {j i : Nat} {v : Int64} (h : i ≠ k) : zcell X B (zwJ M k j v) i = zcell X B M i := zcell_cg rfl (by simp [zwJ, va_up, h]) rfl
theorem zwR_cell {j i r : Nat} (h : i ≠ k) : zcell X B (zwR M k j r) i = zcell X B M i := zcell_cg rfl rfl (by simp [zwR, va_up, h])
theorem zwA_cell {f : Nat → Int32} {i : Nat} (h : i ≠ k) : zcell X B (zwA M k f) i = zcell X B M i := zcell_cg (by simp [zwA, va_up, h]) rfl rfl
theorem znew_cell {i : Nat} (h : i < M.2.2.2) : zcell X B (znew M) i = zcell X B M i := by
  have h : i ≠ M.2.2.2 := by omega
  exact zcell_cg (by simp [znew, va_up, h]) (by simp [znew, va_up, h]) (by simp [znew, va_up, h])
/-- the locals, by their places -/
def zlo (f : Value → Value) : Nat → zL → List (Nat × Value)
  | _, [] => []
  | i, none :: r => zlo f (i + 1) r
  | i, some v :: r => (i, f v) :: zlo f (i + 1) r
theorem zlo_mem {f : Value → Value} : ∀ (L : zL) (i : Nat) (q : Nat × Value), q ∈ zlo f i L ↔ ∃ (k : Nat) (w : Value), L[k]? = some (some w) ∧ q = (i + k, f w)
  | [], i, q => by simp [zlo]
  | none :: r, i, q => by
    rw [zlo, zlo_mem r (i + 1) q]
    constructor
    · rintro ⟨k, w, h1, h2⟩
      exact ⟨k + 1, w, by simpa using h1, by rw [h2]; simp only [Prod.mk.injEq, and_true]; omega⟩
    · rintro ⟨k, w, h1, h2⟩
      cases k with
      | zero => simp at h1
      | succ k => exact ⟨k, w, by simpa using h1, by rw [h2]; simp only [Prod.mk.injEq, and_true]; omega⟩
  | some v :: r, i, q => by
    rw [zlo, List.mem_cons, zlo_mem r (i + 1) q]
    constructor
    · rintro (h | ⟨k, w, h1, h2⟩)
      · exact ⟨0, v, by simp, by rw [h]; simp⟩
      · exact ⟨k + 1, w, by simpa using h1, by rw [h2]; simp only [Prod.mk.injEq, and_true]; omega⟩
    · rintro ⟨k, w, h1, h2⟩
      cases k with
      | zero => simp at h1; subst h1; exact Or.inl (by rw [h2]; simp)
      | succ k => exact Or.inr ⟨k, w, by simpa using h1, by rw [h2]; simp only [Prod.mk.injEq, and_true]; omega⟩
def zLH (B aL b nL : Nat) (L : zL) (ls : Array Slot) : Prop := L.length = nL ∧ lv_has ls nL (zlo (zdn B aL b) 0 L)
theorem zLH.get {B aL b nL i : Nat} {L : zL} {ls : Array Slot} {w : Value} (h : zLH B aL b nL L ls) (hi : L[i]? = some (some w)) : ls[i]? = some (.val (zdn B aL b w)) := by
  have := h.2.2.2 (i, zdn B aL b w) ((zlo_mem L 0 _).mpr ⟨i, w, hi, by simp⟩)
  exact this
theorem zkill_len {L : zL} {i : Nat} : (zkill L i).length = L.length := by
  cases i with
  | zero => rfl
  | succ i =>
    unfold zkill
    dsimp only
    split
    · rename_i w _
      cases Nat.beq w.category 2 <;> simp
    · rfl
theorem zkill_get {L : zL} {i k : Nat} {w : Value} (h : (zkill L i)[k]? = some (some w)) : L[k]? = some (some w) ∧ (k + 1 = i → ¬ w.category = 2) := by
  cases i with
  | zero => exact ⟨h, fun q => by omega⟩
  | succ i =>
    unfold zkill at h
    dsimp only at h
    split at h
    · rename_i w0 hw0
      cases hb : Nat.beq w0.category 2 with
      | true =>
        rw [hb] at h
        simp only [cond_true] at h
        by_cases hk : k = i
        · subst hk
          rw [List.getElem?_set_self (List.getElem?_eq_some_iff.mp hw0).1] at h
          cases h
        · rw [List.getElem?_set_ne (Ne.symm hk)] at h
          exact ⟨h, fun q => by omega⟩
      | false =>
        rw [hb] at h
        simp only [cond_false] at h
        refine ⟨h, fun q hc => ?_⟩
        have hk : k = i := by omega
        subst hk
        rw [hw0] at h
        cases h
        rw [hc] at hb
        exact absurd hb (by decide)
    · rename_i hne
      refine ⟨h, fun q => ?_⟩
      have hk : k = i := by omega
      subst hk
      exact absurd h (hne w)
theorem zst_get {L : zL} {i k : Nat} {v w : Value} (h : (zst L i v)[k]? = some (some w)) : (k = i ∧ w = v) ∨ (k ≠ i ∧ L[k]? = some (some w) ∧ (k + 1 = i → ¬ w.category = 2)) := by
  unfold zst at h
  by_cases hk : k = i
  · subst hk
    by_cases hl : k < (zkill L k).length
    · rw [List.getElem?_set_self hl] at h
      cases h
      exact Or.inl ⟨rfl, rfl⟩
    · rw [List.getElem?_eq_none (by simp; omega)] at h
      cases h
  · rw [List.getElem?_set_ne (Ne.symm hk)] at h
    exact Or.inr ⟨hk, zkill_get h⟩
theorem zst2_get {L : zL} {i k : Nat} {v w : Value} (h : (zst2 L i v)[k]? = some (some w)) : (k = i ∧ w = v) ∨ (k ≠ i ∧ k ≠ i + 1 ∧ L[k]? = some (some w) ∧ (k + 1 = i → ¬ w.category = 2)) := by
  have h : ((zst L i v).set (i + 1) none)[k]? = some (some w) := h
  by_cases hk : k = i + 1
  · subst hk
    by_cases hl : i + 1 < (zst L i v).length
    · rw [List.getElem?_set_self hl] at h
      cases h
    · rw [List.getElem?_eq_none (by simp; omega)] at h
      cases h
  · rw [List.getElem?_set_ne (Ne.symm hk)] at h
    rcases zst_get h with q | ⟨q1, q2⟩
    · exact Or.inl q
    · exact Or.inr ⟨q1, hk, q2⟩
theorem zLH.put1 {B aL b nL i : Nat} {L : zL} {ls ls' : Array Slot} {v : Value} (h : zLH B aL b nL L ls) (h' : lv_has ls' nL ((i, zdn B aL b v) :: (zlo (zdn B aL b) 0 L).filter (fun q => !(q.1 == i) && !(q.1 + 1 == i && q.2.category == 2)))) : zLH B aL b nL (zst L i v) ls' := by
  refine ⟨by simp only [zst, List.length_set, zkill_len]; exact h.1, h'.1, h'.2.1, fun q hq => ?_⟩
  obtain ⟨k, w, h1, rfl⟩ := (zlo_mem _ 0 q).mp hq
  refine h'.2.2 _ ?_
  rcases zst_get h1 with ⟨rfl, rfl⟩ | ⟨h2, h3, h4⟩
  · simp
  · refine List.mem_cons_of_mem _ (List.mem_filter.mpr ⟨(zlo_mem L 0 _).mpr ⟨k, w, h3, rfl⟩, ?_⟩)
    simp only [Nat.zero_add, zdn_cat]
    by_cases hk : k + 1 = i
    · simp [h2, h4 hk]
    · simp [h2, hk]
theorem zLH.put2 {B aL b nL i : Nat} {L : zL} {ls ls' : Array Slot} {v : Value} (h : zLH B aL b nL L ls) (h' : lv_has ls' nL ((i, zdn B aL b v) :: (zlo (zdn B aL b) 0 L).filter (fun q => !(q.1 == i) && (!(q.1 == i + 1) && !(q.1 + 1 == i && q.2.category == 2))))) : zLH B aL b nL (zst2 L i v) ls' := by
  refine ⟨by simp only [zst2, List.length_set, zkill_len]; exact h.1, h'.1, h'.2.1, fun q hq => ?_⟩
  obtain ⟨k, w, h1, rfl⟩ := (zlo_mem _ 0 q).mp hq
  refine h'.2.2 _ ?_
  rcases zst2_get h1 with ⟨rfl, rfl⟩ | ⟨h2, h5, h3, h4⟩
  · simp
  · refine List.mem_cons_of_mem _ (List.mem_filter.mpr ⟨(zlo_mem L 0 _).mpr ⟨k, w, h3, rfl⟩, ?_⟩)
    simp only [Nat.zero_add, zdn_cat]
    by_cases hk : k + 1 = i
    · simp [h2, h5, h4 hk]
    · simp [h2, h5, hk]
end ZPURE
