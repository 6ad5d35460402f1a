theorem zmi_le {l x : Int32} (h : x ≤ l) : x = zmi l x := by
  unfold zmi
  split
  · rfl
  · grind
theorem zmi_gt {l x : Int32} (h : ¬ x ≤ l) : l = zmi l x := by
  unfold zmi
  rw [if_neg (by grind)]
set_option maxHeartbeats 4000000 in
theorem w_findBar (d : Nat) (P : zPar) (I : Nat → Nat → Int32) (J : Nat → Nat → Int64) (p b w n : Int32) (Q : Option Value → zM → Prop) {os ol ow la ra : Nat → Int32} (e66 : I 66 = os) (e67 : I 67 = ol) (e68 : I 68 = ow) (e47 : I 47 = la) (e49 : I 49 = ra) (hp : 0 ≤ p ∧ p < n) (hn : n ≤ 8) (hb : 200 ≤ b ∧ b ≤ 1200) (h0 : 0 ≤ la 0 ∧ la 0 ≤ 100) (hr : 5 ≤ ra p.toNatClampNeg ∧ ra p.toNatClampNeg ≤ 80) (h5 : 0 ≤ la 5 ∧ la 5 ≤ 20) (hP : zPp P os ol ow la p (zU la (zA la b (ra p.toNatClampNeg)) w)) (hl2 : 3 ≤ os p.toNatClampNeg → 100 ≤ P.l2) (K : ∀ I' : Nat → Nat → Int32, (∀ c, c ≠ 46 → c ≠ 69 → I' c = I c) → (∀ j, j < 29 ∨ 34 < j → I' 46 j = I 46 j) → I' 46 29 = zo P.S.1 → (I' 69 0 = zo P.S.2.1 ∧ I' 69 1 = zo P.S.2.2.1 ∧ I' 69 2 = zo P.S.2.2.2) → I' 46 30 = zA la b (ra p.toNatClampNeg) → I' 46 31 = zH la (zA la b (ra p.toNatClampNeg)) → I' 46 32 = zTl la (zA la b (ra p.toNatClampNeg)) → I' 46 33 = zW la (zA la b (ra p.toNatClampNeg)) w → I' 46 34 = zU la (zA la b (ra p.toNatClampNeg)) w → Q none (I', J, zR, 81)) : zT (d + 3) 110 81 [.ref 46, .int p, .int b, .int w] (I, J, zR, 81) Q := by
  subst e47 e49
  have hp8 : 0 ≤ p ∧ p < 8 := by clear K; grind
  have eY := (zall hb h0 hr h5).1
  refine ⟨rfl, fun E At hE hC => ?_⟩
  replace hC : ∀ pc st L M', zX 81 E Q At (zlk B_X10_findBar pc) st L M' → At pc st L M' := hC
  have h173 : ∀ H T W : Int32, H = zH (I 47) (zA (I 47) b (I 49 p.toNatClampNeg)) → T = zTl (I 47) (zA (I 47) b (I 49 p.toNatClampNeg)) → W = zW (I 47) (zA (I 47) b (I 49 p.toNatClampNeg)) w → At 173 [.int W, .ref 46] [some (.ref 46), some (.int p), some (.int b), some (.int w), some (.int (b - I 47 0)), some (.int (((((b - I 47 0).toInt64 * (I 49 p.toNatClampNeg).toInt64) * (1000 + I 47 5).toInt64 / 1000)).toInt32 - H - T))] (zwI (zwI (zwI (I, J, zR, 81) 46 30 (((((b - I 47 0).toInt64 * (I 49 p.toNatClampNeg).toInt64) * (1000 + I 47 5).toInt64 / 1000)).toInt32)) 46 31 H) 46 32 T) := fun H T W eH eT eW => by
    refine hC 173 [.int W, .ref 46] [some (.ref 46), some (.int p), some (.int b), some (.int w), some (.int (b - I 47 0)), some (.int (((((b - I 47 0).toInt64 * (I 49 p.toNatClampNeg).toInt64) * (1000 + I 47 5).toInt64 / 1000)).toInt32 - H - T))] _ ?_
    have eU : ((((b - I 47 0).toInt64 * (I 49 p.toNatClampNeg).toInt64) * (1000 + I 47 5).toInt64 / 1000)).toInt32 - H - T - W = zU (I 47) (zA (I 47) b (I 49 p.toNatClampNeg)) w := by unfold zU; rw [eY, eH, eT, eW]
    have hf : ∀ j, j < 29 ∨ 34 < j → va_up (va_up (va_up (va_up (va_up (I 46) 30 (((((b - I 47 0).toInt64 * (I 49 p.toNatClampNeg).toInt64) * (1000 + I 47 5).toInt64 / 1000)).toInt32)) 31 H) 32 T) 33 W) 34 (((((b - I 47 0).toInt64 * (I 49 p.toNatClampNeg).toInt64) * (1000 + I 47 5).toInt64 / 1000)).toInt32 - H - T - W) j = I 46 j := fun j hj => by
      rw [zup_ne (show j ≠ 34 by omega), zup_ne (show j ≠ 33 by omega), zup_ne (show j ≠ 32 by omega), zup_ne (show j ≠ 31 by omega), zup_ne (show j ≠ 30 by omega)]
    refine hE _ _ _ _ _ (w_findPattern d P _ J p (((((b - I 47 0).toInt64 * (I 49 p.toNatClampNeg).toInt64) * (1000 + I 47 5).toInt64 / 1000)).toInt32 - H - T - W) n _ e66 e67 e68 rfl hp hn (by rw [eU]; exact hP) hl2 (fun I1 f1 g1 s1 => ?_))
    refine K I1 (fun c h46 h69 => ?_) (fun j hj => ?_) g1 s1 ?_ ?_ ?_ ?_ ?_
    · rw [f1.1 c h46 h69]
      show va_up (va_up (va_up (va_up (va_up I 46 _) 46 _) 46 _) 46 _) 46 _ c = I c
      rw [zup_ne h46, zup_ne h46, zup_ne h46, zup_ne h46, zup_ne h46]
    · rw [f1.2 j (by omega)]
      exact hf j hj
    · rw [f1.2 30 (by decide)]; exact eY
    · rw [f1.2 31 (by decide)]; exact eH
    · rw [f1.2 32 (by decide)]; exact eT
    · rw [f1.2 33 (by decide)]; exact eW
    · rw [f1.2 34 (by decide)]; exact eU
  have h123 : ∀ H T : Int32, H = zH (I 47) (zA (I 47) b (I 49 p.toNatClampNeg)) → T = zTl (I 47) (zA (I 47) b (I 49 p.toNatClampNeg)) → At 123 [.int T, .ref 46] [some (.ref 46), some (.int p), some (.int b), some (.int w), some (.int (b - I 47 0)), none] (zwI (zwI (I, J, zR, 81) 46 30 (((((b - I 47 0).toInt64 * (I 49 p.toNatClampNeg).toInt64) * (1000 + I 47 5).toInt64 / 1000)).toInt32)) 46 31 H) := fun H T eH eT => by
    refine hC 123 [.int T, .ref 46] [some (.ref 46), some (.int p), some (.int b), some (.int w), some (.int (b - I 47 0)), none] _ ?_
    refine And.intro (fun q => ?_) (fun q => ?_)
    · refine hC 151 [.ref 46] [some (.ref 46), some (.int p), some (.int b), some (.int w), some (.int (b - I 47 0)), some (.int (((((b - I 47 0).toInt64 * (I 49 p.toNatClampNeg).toInt64) * (1000 + I 47 5).toInt64 / 1000)).toInt32 - H - T))] _ ?_
      refine And.intro zvl_3_6 ?_
      have eL : ((((b - I 47 0).toInt64 * (I 49 p.toNatClampNeg).toInt64) * (1000 + I 47 5).toInt64 / 1000)).toInt32 - H - T = zA (I 47) b (I 49 p.toNatClampNeg) - zH (I 47) (zA (I 47) b (I 49 p.toNatClampNeg)) - zTl (I 47) (zA (I 47) b (I 49 p.toNatClampNeg)) := by rw [eY, eH, eT]
      refine And.intro (fun q2 => ?_) (fun q2 => ?_)
      · refine hC 171 [.ref 46] [some (.ref 46), some (.int p), some (.int b), some (.int w), some (.int (b - I 47 0)), some (.int (((((b - I 47 0).toInt64 * (I 49 p.toNatClampNeg).toInt64) * (1000 + I 47 5).toInt64 / 1000)).toInt32 - H - T))] _ ?_
        refine h173 H T (((((b - I 47 0).toInt64 * (I 49 p.toNatClampNeg).toInt64) * (1000 + I 47 5).toInt64 / 1000)).toInt32 - H - T) eH eT ?_
        unfold zW
        rw [if_neg q, ← eL]
        exact zmi_le q2
      · refine And.intro zvl_3_6 ?_
        refine h173 H T (I 47 3) eH eT ?_
        unfold zW
        rw [if_neg q, ← eL]
        exact zmi_gt q2
    · refine h173 H T 0 eH eT ?_
      unfold zW
      rw [if_pos q]
  have h83 : ∀ H : Int32, H = zH (I 47) (zA (I 47) b (I 49 p.toNatClampNeg)) → At 83 [.int H, .ref 46] [some (.ref 46), some (.int p), some (.int b), some (.int w), some (.int (b - I 47 0)), none] (zwI (I, J, zR, 81) 46 30 (((((b - I 47 0).toInt64 * (I 49 p.toNatClampNeg).toInt64) * (1000 + I 47 5).toInt64 / 1000)).toInt32)) := fun H eH => by
    refine hC 83 [.int H, .ref 46] [some (.ref 46), some (.int p), some (.int b), some (.int w), some (.int (b - I 47 0)), none] _ ?_
    refine And.intro zvl_2_6 ?_
    have eL : ((((b - I 47 0).toInt64 * (I 49 p.toNatClampNeg).toInt64) * (1000 + I 47 5).toInt64 / 1000)).toInt32 - H = zA (I 47) b (I 49 p.toNatClampNeg) - zH (I 47) (zA (I 47) b (I 49 p.toNatClampNeg)) := by rw [eY, eH]
    refine And.intro (fun q2 => ?_) (fun q2 => ?_)
    · refine hC 114 [.ref 46] [some (.ref 46), some (.int p), some (.int b), some (.int w), some (.int (b - I 47 0)), none] _ ?_
      refine h123 H (((((b - I 47 0).toInt64 * (I 49 p.toNatClampNeg).toInt64) * (1000 + I 47 5).toInt64 / 1000)).toInt32 - H) eH ?_
      unfold zTl
      rw [← eL]
      exact zmi_le q2
    · refine And.intro zvl_2_6 ?_
      refine h123 H (I 47 2) eH ?_
      unfold zTl
      rw [← eL]
      exact zmi_gt q2
  refine hC 0 [] [some (.ref 46), some (.int p), some (.int b), some (.int w), none, none] _ ?_
  refine And.intro zvl_0_6 ?_
  refine And.intro (fun q => absurd (show b ≤ I 47 0 from q) (by clear K h173 h123 h83 hE hC; grind)) (fun _ => ?_)
  refine And.intro zvl_0_6 ?_
  refine hC 22 [.int (b - I 47 0)] [some (.ref 46), some (.int p), some (.int b), some (.int w), none, none] _ ?_
  refine And.intro (zvp hp8 rfl) ?_
  refine And.intro zvl_5_6 ?_
  refine And.intro (by decide) ?_
  refine And.intro zvl_1_6 ?_
  refine And.intro (fun q => ?_) (fun q => ?_)
  · refine hC 79 [.ref 46] [some (.ref 46), some (.int p), some (.int b), some (.int w), some (.int (b - I 47 0)), none] _ ?_
    refine h83 (((((b - I 47 0).toInt64 * (I 49 p.toNatClampNeg).toInt64) * (1000 + I 47 5).toInt64 / 1000)).toInt32) ?_
    unfold zH
    rw [← eY]
    exact zmi_le q
  · refine And.intro zvl_1_6 ?_
    refine h83 (I 47 1) ?_
    unfold zH
    rw [← eY]
    exact zmi_gt q
