/-! the reference's rows: the next one -/
def zxi (l : List Nat) : Nat → Option Nat
  | 0 => none
  | i + 1 => cond (Nat.blt (l.getD (i + 1) 0) (l.getD i 0)) (zxi l i) (some i)
def zxj (l : List Nat) (v : Nat) : Nat → Nat
  | 0 => 0
  | j + 1 => cond (Nat.blt (l.getD (j + 1) 0) v) (zxj l v j) (j + 1)
def zxs (l : List Nat) (a b : Nat) : List Nat := (l.set a (l.getD b 0)).set b (l.getD a 0)
def zxv : Nat → List Nat → Nat → Nat → List Nat
  | 0, l, _, _ => l
  | f + 1, l, a, b => cond (Nat.blt a b) (zxv f (zxs l a b) (a + 1) (b - 1)) l
def zxr (n : Nat) (l : List Nat) : Option (List Nat) := match zxi l (n - 1) with
  | none => none
  | some i => some (zxv n (zxs l i (zxj l (l.getD i 0) (n - 1))) (i + 1) (n - 1))
def zleq : List Nat → List Nat → Bool
  | [], [] => true
  | x :: l, y :: m => Nat.beq x y && zleq l m
  | _, _ => false
theorem zleq_eq : ∀ l m : List Nat, zleq l m = true → l = m
  | [], [], _ => rfl
  | [], _ :: _, h => by simp [zleq] at h
  | _ :: _, [], h => by simp [zleq] at h
  | x :: l, y :: m, h => by
    unfold zleq at h
    rw [Bool.and_eq_true] at h
    rw [Nat.eq_of_beq_eq_true h.1, zleq_eq l m h.2]
def zchk (n : Nat) : List (List Nat) → Bool
  | [] => true
  | l :: t => match t with
    | [] => match zxr n l with
      | none => true
      | some _ => false
    | m :: _ => (match zxr n l with
      | none => false
      | some k => zleq k m) && zchk n t
theorem zchk_1 : zchk 1 (zpm 1 (List.range 1)) = true := by decide +kernel
theorem zchk_2 : zchk 2 (zpm 2 (List.range 2)) = true := by decide +kernel
theorem zchk_3 : zchk 3 (zpm 3 (List.range 3)) = true := by decide +kernel
theorem zchk_4 : zchk 4 (zpm 4 (List.range 4)) = true := by decide +kernel
theorem zchk_5 : zchk 5 (zpm 5 (List.range 5)) = true := by decide +kernel
theorem zchk_6 : zchk 6 (zpm 6 (List.range 6)) = true := by decide +kernel
theorem zchk_7 : zchk 7 (zpm 7 (List.range 7)) = true := by decide +kernel
theorem zchk_n {n : Nat} (h1 : 1 ≤ n) (h7 : n ≤ 7) : zchk n (zpm n (List.range n)) = true := by
  have h9 : n = 1 ∨ n = 2 ∨ n = 3 ∨ n = 4 ∨ n = 5 ∨ n = 6 ∨ n = 7 := by omega
  rcases h9 with rfl | rfl | rfl | rfl | rfl | rfl | rfl
  · exact zchk_1
  · exact zchk_2
  · exact zchk_3
  · exact zchk_4
  · exact zchk_5
  · exact zchk_6
  · exact zchk_7
theorem zpm_hd : ∀ (k s : Nat), ∃ t, zpm k (List.range' s k) = List.range' s k :: t
  | 0, s => ⟨[], rfl⟩
  | k + 1, s => by
    obtain ⟨t, ht⟩ := zpm_hd k (s + 1)
    have e : List.range' s (k + 1) = s :: List.range' (s + 1) k := List.range'_succ
    rw [e]
    unfold zpm
    rw [List.flatMap_cons, List.erase_cons_head, ht, List.map_cons]
    exact ⟨_, rfl⟩
theorem zpm_hd0 (n : Nat) : ∃ t, zpm n (List.range n) = List.range n :: t := by
  rw [List.range_eq_range']
  exact zpm_hd n 0
