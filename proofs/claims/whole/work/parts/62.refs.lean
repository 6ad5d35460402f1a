theorem zrh0 (k : Nat) (h : 81 ≤ k) : zr0 k = fun _ => none := by
  unfold zr0
  rw [zup_ne (by omega)]
theorem zrh1 (k : Nat) (h : 81 ≤ k) : zr1 k = fun _ => none := by
  unfold zr1
  rw [zup_ne (by omega), zup_ne (by omega), zup_ne (by omega), zup_ne (by omega), zup_ne (by omega), zup_ne (by omega), zup_ne (by omega), zup_ne (by omega), zup_ne (by omega), zup_ne (by omega), zrh0 k h]
theorem zrh2 (k : Nat) (h : 81 ≤ k) : zr2 k = fun _ => none := by
  unfold zr2
  rw [zup_ne (by omega), zup_ne (by omega), zup_ne (by omega), zup_ne (by omega), zup_ne (by omega), zup_ne (by omega), zup_ne (by omega), zup_ne (by omega), zrh1 k h]
theorem zrh3 (k : Nat) (h : 81 ≤ k) : zr3 k = fun _ => none := by
  unfold zr3
  rw [zup_ne (by omega), zup_ne (by omega), zup_ne (by omega), zup_ne (by omega), zup_ne (by omega), zup_ne (by omega), zup_ne (by omega), zup_ne (by omega), zup_ne (by omega), zup_ne (by omega), zup_ne (by omega), zup_ne (by omega), zrh2 k h]
theorem zrh4 (k : Nat) (h : 81 ≤ k) : zr4 k = fun _ => none := by
  unfold zr4
  rw [zup_ne (by omega), zup_ne (by omega), zrh3 k h]
theorem zrh5 (k : Nat) (h : 81 ≤ k) : zr5 k = fun _ => none := by
  unfold zr5
  rw [zup_ne (by omega), zup_ne (by omega), zrh4 k h]
theorem zrh6 (k : Nat) (h : 81 ≤ k) : zr6 k = fun _ => none := by
  unfold zr6
  rw [zup_ne (by omega), zup_ne (by omega), zup_ne (by omega), zup_ne (by omega), zup_ne (by omega), zup_ne (by omega), zup_ne (by omega), zup_ne (by omega), zrh5 k h]
theorem zrh7 (k : Nat) (h : 81 ≤ k) : zr7 k = fun _ => none := by
  unfold zr7
  rw [zup_ne (by omega), zup_ne (by omega), zup_ne (by omega), zup_ne (by omega), zup_ne (by omega), zup_ne (by omega), zup_ne (by omega), zup_ne (by omega), zup_ne (by omega), zup_ne (by omega), zup_ne (by omega), zup_ne (by omega), zup_ne (by omega), zup_ne (by omega), zup_ne (by omega), zup_ne (by omega), zup_ne (by omega), zup_ne (by omega), zup_ne (by omega), zup_ne (by omega), zup_ne (by omega), zup_ne (by omega), zrh6 k h]
theorem zrh8 (k : Nat) (h : 81 ≤ k) : zr8 k = fun _ => none := by
  unfold zr8
  rw [zup_ne (by omega), zup_ne (by omega), zrh7 k h]
theorem zrh9 (k : Nat) (h : 81 ≤ k) : zr9 k = fun _ => none := by
  unfold zr9
  rw [zup_ne (by omega), zup_ne (by omega), zrh8 k h]
theorem zrh10 (k : Nat) (h : 81 ≤ k) : zr10 k = fun _ => none := by
  unfold zr10
  rw [zup_ne (by omega), zup_ne (by omega), zup_ne (by omega), zup_ne (by omega), zup_ne (by omega), zup_ne (by omega), zup_ne (by omega), zup_ne (by omega), zup_ne (by omega), zup_ne (by omega), zup_ne (by omega), zup_ne (by omega), zup_ne (by omega), zup_ne (by omega), zrh9 k h]
theorem zrh11 (k : Nat) (h : 81 ≤ k) : zr11 k = fun _ => none := by
  unfold zr11
  rw [zup_ne (by omega), zup_ne (by omega), zup_ne (by omega), zup_ne (by omega), zup_ne (by omega), zup_ne (by omega), zup_ne (by omega), zup_ne (by omega), zrh10 k h]
theorem zrh12 (k : Nat) (h : 81 ≤ k) : zr12 k = fun _ => none := by
  unfold zr12
  exact zrh11 k h
theorem zrh13 (k : Nat) (h : 81 ≤ k) : zr13 k = fun _ => none := by
  unfold zr13
  exact zrh12 k h
theorem zrh14 (k : Nat) (h : 81 ≤ k) : zr14 k = fun _ => none := by
  unfold zr14
  exact zrh13 k h
theorem zrh15 (k : Nat) (h : 81 ≤ k) : zr15 k = fun _ => none := by
  unfold zr15
  exact zrh14 k h
theorem zrh16 (k : Nat) (h : 81 ≤ k) : zr16 k = fun _ => none := by
  unfold zr16
  rw [zup_ne (by omega), zrh15 k h]
theorem zrh17 (k : Nat) (h : 81 ≤ k) : zr17 k = fun _ => none := by
  unfold zr17
  rw [zup_ne (by omega), zup_ne (by omega), zup_ne (by omega), zup_ne (by omega), zup_ne (by omega), zup_ne (by omega), zrh16 k h]
theorem zrh18 (k : Nat) (h : 81 ≤ k) : zr18 k = fun _ => none := by
  unfold zr18
  rw [zup_ne (by omega), zup_ne (by omega), zup_ne (by omega), zup_ne (by omega), zup_ne (by omega), zup_ne (by omega), zrh17 k h]
theorem zrh19 (k : Nat) (h : 81 ≤ k) : zr19 k = fun _ => none := by
  unfold zr19
  rw [zup_ne (by omega), zup_ne (by omega), zup_ne (by omega), zup_ne (by omega), zup_ne (by omega), zup_ne (by omega), zrh18 k h]
theorem zrh20 (k : Nat) (h : 81 ≤ k) : zr20 k = fun _ => none := by
  unfold zr20
  rw [zup_ne (by omega), zup_ne (by omega), zup_ne (by omega), zup_ne (by omega), zup_ne (by omega), zup_ne (by omega), zrh19 k h]
theorem zrh21 (k : Nat) (h : 81 ≤ k) : zr21 k = fun _ => none := by
  unfold zr21
  rw [zup_ne (by omega), zup_ne (by omega), zup_ne (by omega), zup_ne (by omega), zup_ne (by omega), zup_ne (by omega), zrh20 k h]
theorem zrh22 (k : Nat) (h : 81 ≤ k) : zr22 k = fun _ => none := by
  unfold zr22
  rw [zup_ne (by omega), zup_ne (by omega), zup_ne (by omega), zup_ne (by omega), zup_ne (by omega), zup_ne (by omega), zrh21 k h]
theorem zrh23 (k : Nat) (h : 81 ≤ k) : zr23 k = fun _ => none := by
  unfold zr23
  rw [zup_ne (by omega), zup_ne (by omega), zrh22 k h]
theorem zrh24 (k : Nat) (h : 81 ≤ k) : zr24 k = fun _ => none := by
  unfold zr24
  rw [zup_ne (by omega), zup_ne (by omega), zup_ne (by omega), zup_ne (by omega), zup_ne (by omega), zup_ne (by omega), zrh23 k h]
theorem zrh25 (k : Nat) (h : 81 ≤ k) : zr25 k = fun _ => none := by
  unfold zr25
  rw [zup_ne (by omega), zup_ne (by omega), zup_ne (by omega), zup_ne (by omega), zup_ne (by omega), zup_ne (by omega), zrh24 k h]
theorem zrh26 (k : Nat) (h : 81 ≤ k) : zr26 k = fun _ => none := by
  unfold zr26
  rw [zup_ne (by omega), zup_ne (by omega), zup_ne (by omega), zup_ne (by omega), zrh25 k h]
theorem zrh27 (k : Nat) (h : 81 ≤ k) : zr27 k = fun _ => none := by
  unfold zr27
  rw [zup_ne (by omega), zup_ne (by omega), zup_ne (by omega), zup_ne (by omega), zrh26 k h]
theorem zrh28 (k : Nat) (h : 81 ≤ k) : zr28 k = fun _ => none := by
  unfold zr28
  rw [zup_ne (by omega), zup_ne (by omega), zup_ne (by omega), zup_ne (by omega), zup_ne (by omega), zup_ne (by omega), zrh27 k h]
theorem zrh29 (k : Nat) (h : 81 ≤ k) : zr29 k = fun _ => none := by
  unfold zr29
  rw [zup_ne (by omega), zup_ne (by omega), zup_ne (by omega), zup_ne (by omega), zrh28 k h]
theorem zrh30 (k : Nat) (h : 81 ≤ k) : zr30 k = fun _ => none := by
  unfold zr30
  exact zrh29 k h
theorem zrh31 (k : Nat) (h : 81 ≤ k) : zr31 k = fun _ => none := by
  unfold zr31
  exact zrh30 k h
theorem zrh32 (k : Nat) (h : 81 ≤ k) : zr32 k = fun _ => none := by
  unfold zr32
  exact zrh31 k h
theorem zrh33 (k : Nat) (h : 81 ≤ k) : zr33 k = fun _ => none := by
  unfold zr33
  exact zrh32 k h
theorem zrh34 (k : Nat) (h : 81 ≤ k) : zr34 k = fun _ => none := by
  unfold zr34
  exact zrh33 k h
theorem zrh35 (k : Nat) (h : 81 ≤ k) : zr35 k = fun _ => none := by
  unfold zr35
  exact zrh34 k h
set_option maxRecDepth 20000 in
theorem zrk0 : zr35 0 = zR 0 := by
  funext j
  match j with
  | 0 => rfl
  | 1 => rfl
  | 2 => rfl
  | 3 => rfl
  | 4 => rfl
  | 5 => rfl
  | 6 => rfl
  | 7 => rfl
  | 8 => rfl
  | 9 => rfl
  | 10 => rfl
  | 11 => rfl
  | 12 => rfl
  | 13 => rfl
  | 14 => rfl
  | j + 15 => rfl
set_option maxRecDepth 20000 in
theorem zrk1 : zr35 1 = zR 1 := by
  funext j
  match j with
  | 0 => rfl
  | 1 => rfl
  | 2 => rfl
  | 3 => rfl
  | 4 => rfl
  | j + 5 => rfl
set_option maxRecDepth 20000 in
theorem zrk2 : zr35 2 = zR 2 := rfl
set_option maxRecDepth 20000 in
theorem zrk3 : zr35 3 = zR 3 := rfl
set_option maxRecDepth 20000 in
theorem zrk4 : zr35 4 = zR 4 := rfl
set_option maxRecDepth 20000 in
theorem zrk5 : zr35 5 = zR 5 := rfl
set_option maxRecDepth 20000 in
theorem zrk6 : zr35 6 = zR 6 := by
  funext j
  match j with
  | 0 => rfl
  | 1 => rfl
  | 2 => rfl
  | j + 3 => rfl
set_option maxRecDepth 20000 in
theorem zrk7 : zr35 7 = zR 7 := rfl
set_option maxRecDepth 20000 in
theorem zrk8 : zr35 8 = zR 8 := rfl
set_option maxRecDepth 20000 in
theorem zrk9 : zr35 9 = zR 9 := rfl
set_option maxRecDepth 20000 in
theorem zrk10 : zr35 10 = zR 10 := by
  funext j
  match j with
  | 0 => rfl
  | 1 => rfl
  | 2 => rfl
  | 3 => rfl
  | 4 => rfl
  | 5 => rfl
  | j + 6 => rfl
set_option maxRecDepth 20000 in
theorem zrk11 : zr35 11 = zR 11 := rfl
set_option maxRecDepth 20000 in
theorem zrk12 : zr35 12 = zR 12 := rfl
set_option maxRecDepth 20000 in
theorem zrk13 : zr35 13 = zR 13 := rfl
set_option maxRecDepth 20000 in
theorem zrk14 : zr35 14 = zR 14 := rfl
set_option maxRecDepth 20000 in
theorem zrk15 : zr35 15 = zR 15 := rfl
set_option maxRecDepth 20000 in
theorem zrk16 : zr35 16 = zR 16 := rfl
set_option maxRecDepth 20000 in
theorem zrk17 : zr35 17 = zR 17 := by
  funext j
  match j with
  | 0 => rfl
  | 1 => rfl
  | 2 => rfl
  | 3 => rfl
  | 4 => rfl
  | 5 => rfl
  | 6 => rfl
  | 7 => rfl
  | j + 8 => rfl
set_option maxRecDepth 20000 in
theorem zrk18 : zr35 18 = zR 18 := by
  funext j
  match j with
  | 0 => rfl
  | 1 => rfl
  | 2 => rfl
  | 3 => rfl
  | 4 => rfl
  | j + 5 => rfl
set_option maxRecDepth 20000 in
theorem zrk19 : zr35 19 = zR 19 := rfl
set_option maxRecDepth 20000 in
theorem zrk20 : zr35 20 = zR 20 := rfl
set_option maxRecDepth 20000 in
theorem zrk21 : zr35 21 = zR 21 := rfl
set_option maxRecDepth 20000 in
theorem zrk22 : zr35 22 = zR 22 := by
  funext j
  match j with
  | 0 => rfl
  | 1 => rfl
  | 2 => rfl
  | 3 => rfl
  | 4 => rfl
  | 5 => rfl
  | 6 => rfl
  | 7 => rfl
  | 8 => rfl
  | 9 => rfl
  | 10 => rfl
  | 11 => rfl
  | j + 12 => rfl
set_option maxRecDepth 20000 in
theorem zrk23 : zr35 23 = zR 23 := rfl
set_option maxRecDepth 20000 in
theorem zrk24 : zr35 24 = zR 24 := rfl
set_option maxRecDepth 20000 in
theorem zrk25 : zr35 25 = zR 25 := rfl
set_option maxRecDepth 20000 in
theorem zrk26 : zr35 26 = zR 26 := rfl
set_option maxRecDepth 20000 in
theorem zrk27 : zr35 27 = zR 27 := rfl
set_option maxRecDepth 20000 in
theorem zrk28 : zr35 28 = zR 28 := rfl
set_option maxRecDepth 20000 in
theorem zrk29 : zr35 29 = zR 29 := rfl
set_option maxRecDepth 20000 in
theorem zrk30 : zr35 30 = zR 30 := rfl
set_option maxRecDepth 20000 in
theorem zrk31 : zr35 31 = zR 31 := rfl
set_option maxRecDepth 20000 in
theorem zrk32 : zr35 32 = zR 32 := rfl
set_option maxRecDepth 20000 in
theorem zrk33 : zr35 33 = zR 33 := by
  funext j
  match j with
  | 0 => rfl
  | 1 => rfl
  | 2 => rfl
  | 3 => rfl
  | 4 => rfl
  | 5 => rfl
  | 6 => rfl
  | j + 7 => rfl
set_option maxRecDepth 20000 in
theorem zrk34 : zr35 34 = zR 34 := rfl
set_option maxRecDepth 20000 in
theorem zrk35 : zr35 35 = zR 35 := by
  funext j
  match j with
  | 0 => rfl
  | 1 => rfl
  | 2 => rfl
  | 3 => rfl
  | 4 => rfl
  | 5 => rfl
  | 6 => rfl
  | 7 => rfl
  | 8 => rfl
  | 9 => rfl
  | 10 => rfl
  | j + 11 => rfl
set_option maxRecDepth 20000 in
theorem zrk36 : zr35 36 = zR 36 := rfl
set_option maxRecDepth 20000 in
theorem zrk37 : zr35 37 = zR 37 := rfl
set_option maxRecDepth 20000 in
theorem zrk38 : zr35 38 = zR 38 := rfl
set_option maxRecDepth 20000 in
theorem zrk39 : zr35 39 = zR 39 := rfl
set_option maxRecDepth 20000 in
theorem zrk40 : zr35 40 = zR 40 := rfl
set_option maxRecDepth 20000 in
theorem zrk41 : zr35 41 = zR 41 := rfl
set_option maxRecDepth 20000 in
theorem zrk42 : zr35 42 = zR 42 := by
  funext j
  match j with
  | 0 => rfl
  | 1 => rfl
  | 2 => rfl
  | 3 => rfl
  | j + 4 => rfl
set_option maxRecDepth 20000 in
theorem zrk43 : zr35 43 = zR 43 := rfl
set_option maxRecDepth 20000 in
theorem zrk44 : zr35 44 = zR 44 := rfl
set_option maxRecDepth 20000 in
theorem zrk45 : zr35 45 = zR 45 := rfl
set_option maxRecDepth 20000 in
theorem zrk46 : zr35 46 = zR 46 := by
  funext j
  match j with
  | 0 => rfl
  | 1 => rfl
  | 2 => rfl
  | 3 => rfl
  | 4 => rfl
  | 5 => rfl
  | 6 => rfl
  | 7 => rfl
  | 8 => rfl
  | 9 => rfl
  | 10 => rfl
  | 11 => rfl
  | 12 => rfl
  | 13 => rfl
  | 14 => rfl
  | 15 => rfl
  | 16 => rfl
  | 17 => rfl
  | 18 => rfl
  | 19 => rfl
  | 20 => rfl
  | 21 => rfl
  | 22 => rfl
  | 23 => rfl
  | 24 => rfl
  | 25 => rfl
  | 26 => rfl
  | 27 => rfl
  | 28 => rfl
  | 29 => rfl
  | 30 => rfl
  | 31 => rfl
  | 32 => rfl
  | 33 => rfl
  | 34 => rfl
  | 35 => rfl
  | 36 => rfl
  | 37 => rfl
  | 38 => rfl
  | 39 => rfl
  | 40 => rfl
  | 41 => rfl
  | 42 => rfl
  | 43 => rfl
  | 44 => rfl
  | 45 => rfl
  | 46 => rfl
  | 47 => rfl
  | 48 => rfl
  | 49 => rfl
  | 50 => rfl
  | 51 => rfl
  | j + 52 => rfl
set_option maxRecDepth 20000 in
theorem zrk47 : zr35 47 = zR 47 := rfl
set_option maxRecDepth 20000 in
theorem zrk48 : zr35 48 = zR 48 := rfl
set_option maxRecDepth 20000 in
theorem zrk49 : zr35 49 = zR 49 := rfl
set_option maxRecDepth 20000 in
theorem zrk50 : zr35 50 = zR 50 := rfl
set_option maxRecDepth 20000 in
theorem zrk51 : zr35 51 = zR 51 := rfl
set_option maxRecDepth 20000 in
theorem zrk52 : zr35 52 = zR 52 := rfl
set_option maxRecDepth 20000 in
theorem zrk53 : zr35 53 = zR 53 := rfl
set_option maxRecDepth 20000 in
theorem zrk54 : zr35 54 = zR 54 := rfl
set_option maxRecDepth 20000 in
theorem zrk55 : zr35 55 = zR 55 := rfl
set_option maxRecDepth 20000 in
theorem zrk56 : zr35 56 = zR 56 := rfl
set_option maxRecDepth 20000 in
theorem zrk57 : zr35 57 = zR 57 := rfl
set_option maxRecDepth 20000 in
theorem zrk58 : zr35 58 = zR 58 := rfl
set_option maxRecDepth 20000 in
theorem zrk59 : zr35 59 = zR 59 := rfl
set_option maxRecDepth 20000 in
theorem zrk60 : zr35 60 = zR 60 := rfl
set_option maxRecDepth 20000 in
theorem zrk61 : zr35 61 = zR 61 := rfl
set_option maxRecDepth 20000 in
theorem zrk62 : zr35 62 = zR 62 := rfl
set_option maxRecDepth 20000 in
theorem zrk63 : zr35 63 = zR 63 := rfl
set_option maxRecDepth 20000 in
theorem zrk64 : zr35 64 = zR 64 := rfl
set_option maxRecDepth 20000 in
theorem zrk65 : zr35 65 = zR 65 := rfl
set_option maxRecDepth 20000 in
theorem zrk66 : zr35 66 = zR 66 := rfl
set_option maxRecDepth 20000 in
theorem zrk67 : zr35 67 = zR 67 := rfl
set_option maxRecDepth 20000 in
theorem zrk68 : zr35 68 = zR 68 := rfl
set_option maxRecDepth 20000 in
theorem zrk69 : zr35 69 = zR 69 := rfl
set_option maxRecDepth 20000 in
theorem zrk70 : zr35 70 = zR 70 := rfl
set_option maxRecDepth 20000 in
theorem zrk71 : zr35 71 = zR 71 := rfl
set_option maxRecDepth 20000 in
theorem zrk72 : zr35 72 = zR 72 := rfl
set_option maxRecDepth 20000 in
theorem zrk73 : zr35 73 = zR 73 := rfl
set_option maxRecDepth 20000 in
theorem zrk74 : zr35 74 = zR 74 := rfl
set_option maxRecDepth 20000 in
theorem zrk75 : zr35 75 = zR 75 := rfl
set_option maxRecDepth 20000 in
theorem zrk76 : zr35 76 = zR 76 := rfl
set_option maxRecDepth 20000 in
theorem zrk77 : zr35 77 = zR 77 := rfl
set_option maxRecDepth 20000 in
theorem zrk78 : zr35 78 = zR 78 := rfl
set_option maxRecDepth 20000 in
theorem zrk79 : zr35 79 = zR 79 := rfl
set_option maxRecDepth 20000 in
theorem zrk80 : zr35 80 = zR 80 := rfl
set_option maxRecDepth 20000 in
theorem zrF : zr35 = zR := by
  funext k
  by_cases h : 81 ≤ k
  · rw [zrh35 k h]
    funext j
    unfold zR
    simp only [List.getD]
    rw [List.getElem?_eq_none (show zRL.length ≤ k from h)]
    rfl
  · match k, h with
    | 0, _ => exact zrk0
    | 1, _ => exact zrk1
    | 2, _ => exact zrk2
    | 3, _ => exact zrk3
    | 4, _ => exact zrk4
    | 5, _ => exact zrk5
    | 6, _ => exact zrk6
    | 7, _ => exact zrk7
    | 8, _ => exact zrk8
    | 9, _ => exact zrk9
    | 10, _ => exact zrk10
    | 11, _ => exact zrk11
    | 12, _ => exact zrk12
    | 13, _ => exact zrk13
    | 14, _ => exact zrk14
    | 15, _ => exact zrk15
    | 16, _ => exact zrk16
    | 17, _ => exact zrk17
    | 18, _ => exact zrk18
    | 19, _ => exact zrk19
    | 20, _ => exact zrk20
    | 21, _ => exact zrk21
    | 22, _ => exact zrk22
    | 23, _ => exact zrk23
    | 24, _ => exact zrk24
    | 25, _ => exact zrk25
    | 26, _ => exact zrk26
    | 27, _ => exact zrk27
    | 28, _ => exact zrk28
    | 29, _ => exact zrk29
    | 30, _ => exact zrk30
    | 31, _ => exact zrk31
    | 32, _ => exact zrk32
    | 33, _ => exact zrk33
    | 34, _ => exact zrk34
    | 35, _ => exact zrk35
    | 36, _ => exact zrk36
    | 37, _ => exact zrk37
    | 38, _ => exact zrk38
    | 39, _ => exact zrk39
    | 40, _ => exact zrk40
    | 41, _ => exact zrk41
    | 42, _ => exact zrk42
    | 43, _ => exact zrk43
    | 44, _ => exact zrk44
    | 45, _ => exact zrk45
    | 46, _ => exact zrk46
    | 47, _ => exact zrk47
    | 48, _ => exact zrk48
    | 49, _ => exact zrk49
    | 50, _ => exact zrk50
    | 51, _ => exact zrk51
    | 52, _ => exact zrk52
    | 53, _ => exact zrk53
    | 54, _ => exact zrk54
    | 55, _ => exact zrk55
    | 56, _ => exact zrk56
    | 57, _ => exact zrk57
    | 58, _ => exact zrk58
    | 59, _ => exact zrk59
    | 60, _ => exact zrk60
    | 61, _ => exact zrk61
    | 62, _ => exact zrk62
    | 63, _ => exact zrk63
    | 64, _ => exact zrk64
    | 65, _ => exact zrk65
    | 66, _ => exact zrk66
    | 67, _ => exact zrk67
    | 68, _ => exact zrk68
    | 69, _ => exact zrk69
    | 70, _ => exact zrk70
    | 71, _ => exact zrk71
    | 72, _ => exact zrk72
    | 73, _ => exact zrk73
    | 74, _ => exact zrk74
    | 75, _ => exact zrk75
    | 76, _ => exact zrk76
    | 77, _ => exact zrk77
    | 78, _ => exact zrk78
    | 79, _ => exact zrk79
    | 80, _ => exact zrk80
    | k + 81, h => exact absurd (Nat.le_add_left 81 k) h
