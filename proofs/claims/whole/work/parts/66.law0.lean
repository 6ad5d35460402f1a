theorem zno {i : Int32} {P : Prop} (h1 : 0 ≤ i) (h2 : i < 0) : P := by
  exfalso
  grind
theorem zlaw0 : zRl (va_up (va_up (va_up (va_up (va_up (va_up (fun _ => 0) 0 20) 1 500) 2 300) 3 400) 4 5) 5 5) (va_up (va_up (va_up (va_up (va_up (va_up (fun _ => 0) 0 20) 1 500) 2 300) 3 400) 4 5) 5 5) := ⟨rfl, by decide, by decide, by decide, by decide, by decide, by decide⟩
theorem zRel_0 : zRel zi35 zj35 := by
  unfold zRel
  rw [zcs_1_4, zcs_46_1, zcs_10_5, zcs_46_6, zcs_22_10, zcs_46_13, zcs_22_11, zcs_46_23, zcs_46_22, zcs_0_12, zcs_46_35, zcs_35_1, zcs_46_37, zcs_35_8, zcs_46_41, zcs_35_10, zcs_42_1, zcs_46_51, zcs_0_11, zcs_46_12, zcs_0_13, zcs_46_44, zcs_0_14, zcs_46_45, zcz_2, zcz_3, zcz_4, zcz_5, zcz_7, zcz_8, zcz_9, zcz_11, zcz_12, zcz_13, zcz_14, zcz_15, zcz_23, zcz_24, zcz_25, zcz_26, zcz_27, zcz_28, zcz_29, zcz_30, zcz_31, zcz_32, zcz_34, zcz_37, zcz_38, zcz_39, zcz_41, zcz_43, zcz_48, zcz_49, zcz_50, zcz_51, zcz_52, zcz_53, zcz_54, zcz_55, zcz_56, zcz_57, zcz_58, zcz_59, zcz_60, zcz_61, zcz_62, zcz_63, zcz_64, zcz_66, zcz_67, zcz_68, zcz_70, zcz_71, zcz_72, zcz_73, zcz_79, zcw_16, zcw_47, zcj]
  refine ⟨⟨rfl, by decide, ⟨rfl, rfl, rfl, rfl⟩, fun i h1 h2 => zno h1 h2⟩, ⟨rfl, by decide, ⟨rfl, rfl, rfl, rfl, rfl⟩, fun i h1 h2 => zno h1 h2, fun j _ => ⟨rfl, rfl⟩⟩, ⟨⟨rfl, rfl, rfl⟩, fun j => ⟨show (0 : Int32) ≤ 0 by decide, show (0 : Int32) ≤ 3 by decide⟩, fun j _ => rfl, fun p o h1 h2 => zno h1 h2⟩, zlaw0, ⟨rfl, by decide, ⟨rfl, rfl, rfl, rfl, rfl, rfl, rfl⟩, fun i h1 h2 => zno h1 h2⟩, ⟨fun i h1 h2 => zno h1 h2, fun j _ => rfl⟩, ⟨rfl, Or.inl ⟨rfl, rfl⟩⟩, fun k hk => ?_, ⟨rfl, by decide, rfl, fun i h1 h2 => zno h1 h2⟩, ⟨rfl, by decide, ⟨rfl, by decide⟩, ⟨rfl, rfl⟩, fun i h1 h2 => zno h1 h2⟩, ⟨Or.inl rfl, fun j => rfl, fun q => absurd q (by decide)⟩, ⟨rfl, rfl, fun s h1 h2 => Or.inl ?_⟩, ⟨rfl, rfl, by decide, rfl⟩⟩
  · have h9 : k = 0 ∨ k = 1 ∨ k = 2 ∨ k = 3 ∨ k = 4 ∨ k = 5 ∨ k = 6 := by omega
    rcases h9 with rfl | rfl | rfl | rfl | rfl | rfl | rfl
    · rw [zca_0]; rfl
    · rw [zca_1]; rfl
    · rw [zca_2]; rfl
    · rw [zca_3]; rfl
    · rw [zca_4]; rfl
    · rw [zca_5]; rfl
    · rw [zca_6]; rfl
  · have h9 : s = 0 ∨ s = 1 ∨ s = 2 ∨ s = 3 := by grind
    rcases h9 with rfl | rfl | rfl | rfl
    · exact ⟨zcn_45_0, zcn_77_0⟩
    · exact ⟨zcn_45_1, zcn_77_1⟩
    · exact ⟨zcn_45_2, zcn_77_2⟩
    · exact ⟨zcn_45_3, zcn_77_3⟩
theorem law_T (xs : Nat → Int32) (n : Nat) (hn : n ≤ 3072) : zLawT xs n := by
  intro E At hE hC
  have h := zlaw_loop xs n hn E At hE hC n 0 zi35 zj35 zRel_0 (by omega) (by omega)
  rw [← zrF] at h
  refine hC 0 [] [some (.ref 1001), none, none, none] _ ?_
  refine hE _ _ _ _ _ (w_X9_init 58 _ ?_)
  refine hE _ _ _ _ _ (w_X10_init 58 _ ?_)
  exact h
