/-! ready: both sides as one fold -/
def zrst (p tk : Int32) (pr li sh wa : Nat → Int32) (b i : Int32) : Int32 := if pr i.toNatClampNeg = p ∧ ¬ wa i.toNatClampNeg = -1 ∧ (3 ≤ tk - wa i.toNatClampNeg ∧ tk - wa i.toNatClampNeg ≤ 12) ∧ ¬ li i.toNatClampNeg ≤ sh i.toNatClampNeg ∧ (b = -1 ∨ sh i.toNatClampNeg < sh b.toNatClampNeg) then i else b
def zrdF (p tk : Int32) (pr li sh wa : Nat → Int32) : Nat → Int32 → Int32 → Int32
  | 0, _, b => b
  | r + 1, i, b => zrdF p tk pr li sh wa r (i + 1) (zrst p tk pr li sh wa b i)
theorem zrst_in {p tk n b i : Int32} {pr li sh wa : Nat → Int32} (hb : b = -1 ∨ (0 ≤ b ∧ b < n)) (hi : 0 ≤ i ∧ i < n) : zrst p tk pr li sh wa b i = -1 ∨ (0 ≤ zrst p tk pr li sh wa b i ∧ zrst p tk pr li sh wa b i < n) := by
  unfold zrst
  split
  · exact Or.inr hi
  · exact hb
theorem znext {i n : Int32} {r : Nat} (h0 : 0 ≤ i) (hn : 0 ≤ n ∧ n ≤ 1000) (h : n.toNatClampNeg = i.toNatClampNeg + (r + 1)) : i < n ∧ 0 ≤ i + 1 ∧ n.toNatClampNeg = (i + 1).toNatClampNeg + r := by
  have h1 : i < n := (zlt_nat h0 hn.1).mpr (by omega)
  have h2 : 0 ≤ i + 1 := by grind
  refine ⟨h1, h2, ?_⟩
  have e1 := ztn h0
  have e2 := ztn h2
  have e3 : (i + 1).toInt = i.toInt + 1 := by
    have := Int32.lt_iff_toInt_lt.mp h1
    have h8 := Int32.le_iff_toInt_le.mp hn.2
    have e9 : (1000 : Int32).toInt = 1000 := rfl
    rw [Int32.toInt_add]
    have ea : (1 : Int32).toInt = 1 := rfl
    rw [ea]
    simp [Int.bmod]
    omega
  omega
theorem zlast {i n : Int32} (h0 : 0 ≤ i) (hn : 0 ≤ n) (h : n.toNatClampNeg = i.toNatClampNeg + 0) : n ≤ i := (zle_nat hn h0).mpr (by omega)
set_option maxHeartbeats 2000000 in
theorem g_leastWorn (d : Nat) (E : zE) (At : Nat → zC) (Q : Option Value → zM → Prop) (hE : ∀ y n a M' Q', zT (d + 3) y n a M' Q' → E y n a M' Q') (hC : ∀ pc st L M', zX 81 E Q At (zlk B_X2_leastWorn pc) st L M' → At pc st L M') (I : Nat → Nat → Int32) (J : Nat → Nat → Int64) (p tk : Int32) (hn : 0 ≤ I 10 5 ∧ I 10 5 ≤ 12) : ∀ (r : Nat) (i b : Int32), 0 ≤ i → (b = -1 ∨ (0 ≤ b ∧ b < I 10 5)) → (I 10 5).toNatClampNeg = i.toNatClampNeg + r → Q (some (.int (zrdF p tk (I 11) (I 12) (I 13) (I 15) r i b))) (I, J, zR, 81) → At 5 [] [some (.ref 10), some (.int p), some (.int tk), some (.int b), some (.int i)] (I, J, zR, 81)
  | 0, i, b, h0, hb, hr, hQ => by
    have hl := zlast h0 hn.1 hr
    exact g_X2_leastWorn_5 d E At Q hE hC I J p tk b i rfl rfl rfl rfl rfl (fun q => absurd hl q) (fun q => absurd hl q) (fun q => absurd hl q) (fun q => absurd hl q) (fun q => absurd hl q) (fun q => absurd hl q) (fun q => absurd hl q) (fun q => absurd hl q) (fun q => absurd hl q) (fun q => absurd hl q) (fun q => absurd hl q) (fun q => absurd hl q) (fun q => absurd hl q) (fun q => absurd hl q) (fun _ => hQ)
  | r + 1, i, b, h0, hb, hr, hQ => by
    obtain ⟨h1, h2, h3⟩ := znext h0 (by grind) hr
    have hbi : 0 ≤ i ∧ i < 12 := by clear hE hC hQ; grind
    have ih := g_leastWorn d E At Q hE hC I J p tk hn r (i + 1) (zrst p tk (I 11) (I 12) (I 13) (I 15) b i) h2 (zrst_in hb ⟨h0, h1⟩) h3 hQ
    refine g_X2_leastWorn_5 d E At Q hE hC I J p tk b i rfl rfl rfl rfl rfl (fun _ => hbi) (fun _ _ => hbi) (fun _ _ _ => hbi) (fun _ _ _ _ => hbi) (fun _ _ _ _ => hbi) (fun _ _ _ _ _ _ => hbi) (fun _ _ _ _ _ q => ?_) (fun q1 q2 => ?_) (fun q1 q2 q3 => ?_) (fun q1 q2 q3 q4 q5 => ?_) (fun q1 q2 q3 q4 q5 q6 => ?_) (fun q1 q2 q3 q4 q5 q6 q7 => ?_) (fun q1 q2 q3 q4 q5 q6 q7 => ?_) (fun q1 q2 q3 q4 => ?_) (fun q => ?_)
    · clear hE hC hQ ih; grind
    · rwa [zrst, if_neg (fun z => q2 z.1)] at ih
    · rwa [zrst, if_neg (fun z => z.2.1 q3)] at ih
    · rwa [zrst, if_neg (fun z => z.2.2.2.1 q5)] at ih
    · rwa [zrst, if_pos ⟨q2, q3, q4, q5, Or.inl q6⟩] at ih
    · rwa [zrst, if_neg (fun z => by rcases z.2.2.2.2 with w | w; exact q6 w; exact absurd q7 (by clear hE hC hQ ih; grind))] at ih
    · rwa [zrst, if_pos ⟨q2, q3, q4, q5, Or.inr (by clear hE hC hQ ih; grind)⟩] at ih
    · rwa [zrst, if_neg (fun z => q4 z.2.2.1)] at ih
    · exfalso; clear hE hC hQ ih; grind
