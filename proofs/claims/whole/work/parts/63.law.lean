theorem zcm (x : Int64) : lg_cmp x x = 0 := by
  unfold lg_cmp
  rw [if_neg (by grind), if_pos rfl]
theorem lc_profile (xs : Nat → Int32) (n : Nat) (E : zE) (At : Nat → zC) (hE : ∀ y' n' a' M' Q', zT 60 y' n' a' M' Q' → E y' n' a' M' Q') (hC : ∀ pc st L M', zX 81 E (fun v _ => v = some (.int 1)) At (zlk (B_L_law xs n) pc) st L M' → At pc st L M') (I : Nat → Nat → Int32) (J : Nat → Nat → Int64) (hR : zRel I J) (i : Int32) (b1 : vp_in (i + 1) n) (b2 : vp_in (i + 2) n) (b3 : vp_in (i + 3) n) (b4 : vp_in (i + 4) n) (b5 : vp_in (i + 5) n) (nx : ∀ I2 J2, zRel I2 J2 → At 1266 [] [some (.ref 1001), some (.ref 0), some (.ref 46), some (.int i)] (I2, J2, zR, 81)) : At 188 [] [some (.ref 1001), some (.ref 0), some (.ref 46), some (.int i)] (I, J, zR, 81) := by
  refine hC 188 [] [some (.ref 1001), some (.ref 0), some (.ref 46), some (.int i)] _ ?_
  refine And.intro b1 ?_
  refine And.intro b2 ?_
  refine And.intro b3 ?_
  refine And.intro b4 ?_
  refine hE _ _ _ _ _ (op_profile I J hR (xs (i + 1).toNatClampNeg) (xs (i + 2).toNatClampNeg) (xs (i + 3).toNatClampNeg) (xs (i + 4).toNatClampNeg) _ (fun r I1 J1 hm => ?_))
  refine And.intro b1 ?_
  refine And.intro b2 ?_
  refine And.intro b3 ?_
  refine And.intro b4 ?_
  refine hE _ _ _ _ _ (hm _ (fun I2 J2 h2 => ?_))
  exact And.intro (fun _ => nx I2 J2 h2) (fun q => absurd rfl q)
theorem lc_die (xs : Nat → Int32) (n : Nat) (E : zE) (At : Nat → zC) (hE : ∀ y' n' a' M' Q', zT 60 y' n' a' M' Q' → E y' n' a' M' Q') (hC : ∀ pc st L M', zX 81 E (fun v _ => v = some (.int 1)) At (zlk (B_L_law xs n) pc) st L M' → At pc st L M') (I : Nat → Nat → Int32) (J : Nat → Nat → Int64) (hR : zRel I J) (i : Int32) (b1 : vp_in (i + 1) n) (b2 : vp_in (i + 2) n) (b3 : vp_in (i + 3) n) (b4 : vp_in (i + 4) n) (b5 : vp_in (i + 5) n) (nx : ∀ I2 J2, zRel I2 J2 → At 1266 [] [some (.ref 1001), some (.ref 0), some (.ref 46), some (.int i)] (I2, J2, zR, 81)) : At 241 [] [some (.ref 1001), some (.ref 0), some (.ref 46), some (.int i)] (I, J, zR, 81) := by
  refine hC 241 [] [some (.ref 1001), some (.ref 0), some (.ref 46), some (.int i)] _ ?_
  refine And.intro b1 ?_
  refine And.intro b2 ?_
  refine hE _ _ _ _ _ (op_die I J hR (xs (i + 1).toNatClampNeg) (xs (i + 2).toNatClampNeg) _ (fun r I1 J1 hm => ?_))
  refine And.intro b1 ?_
  refine And.intro b2 ?_
  refine hE _ _ _ _ _ (hm _ (fun I2 J2 h2 => ?_))
  exact And.intro (fun _ => nx I2 J2 h2) (fun q => absurd rfl q)
theorem lc_warm (xs : Nat → Int32) (n : Nat) (E : zE) (At : Nat → zC) (hE : ∀ y' n' a' M' Q', zT 60 y' n' a' M' Q' → E y' n' a' M' Q') (hC : ∀ pc st L M', zX 81 E (fun v _ => v = some (.int 1)) At (zlk (B_L_law xs n) pc) st L M' → At pc st L M') (I : Nat → Nat → Int32) (J : Nat → Nat → Int64) (hR : zRel I J) (i : Int32) (b1 : vp_in (i + 1) n) (b2 : vp_in (i + 2) n) (b3 : vp_in (i + 3) n) (b4 : vp_in (i + 4) n) (b5 : vp_in (i + 5) n) (nx : ∀ I2 J2, zRel I2 J2 → At 1266 [] [some (.ref 1001), some (.ref 0), some (.ref 46), some (.int i)] (I2, J2, zR, 81)) : At 274 [] [some (.ref 1001), some (.ref 0), some (.ref 46), some (.int i)] (I, J, zR, 81) := by
  refine hC 274 [] [some (.ref 1001), some (.ref 0), some (.ref 46), some (.int i)] _ ?_
  refine And.intro b1 ?_
  refine hE _ _ _ _ _ (op_warm I J hR (xs (i + 1).toNatClampNeg) _ (fun r I1 J1 hm => ?_))
  refine And.intro b1 ?_
  refine hE _ _ _ _ _ (hm _ (fun I2 J2 h2 => ?_))
  exact And.intro (fun _ => nx I2 J2 h2) (fun q => absurd rfl q)
theorem lc_cool (xs : Nat → Int32) (n : Nat) (E : zE) (At : Nat → zC) (hE : ∀ y' n' a' M' Q', zT 60 y' n' a' M' Q' → E y' n' a' M' Q') (hC : ∀ pc st L M', zX 81 E (fun v _ => v = some (.int 1)) At (zlk (B_L_law xs n) pc) st L M' → At pc st L M') (I : Nat → Nat → Int32) (J : Nat → Nat → Int64) (hR : zRel I J) (i : Int32) (b1 : vp_in (i + 1) n) (b2 : vp_in (i + 2) n) (b3 : vp_in (i + 3) n) (b4 : vp_in (i + 4) n) (b5 : vp_in (i + 5) n) (nx : ∀ I2 J2, zRel I2 J2 → At 1266 [] [some (.ref 1001), some (.ref 0), some (.ref 46), some (.int i)] (I2, J2, zR, 81)) : At 297 [] [some (.ref 1001), some (.ref 0), some (.ref 46), some (.int i)] (I, J, zR, 81) := by
  refine hC 297 [] [some (.ref 1001), some (.ref 0), some (.ref 46), some (.int i)] _ ?_
  refine And.intro b1 ?_
  refine hE _ _ _ _ _ (op_cool I J hR (xs (i + 1).toNatClampNeg) _ (fun r I1 J1 hm => ?_))
  refine And.intro b1 ?_
  refine hE _ _ _ _ _ (hm _ (fun I2 J2 h2 => ?_))
  exact And.intro (fun _ => nx I2 J2 h2) (fun q => absurd rfl q)
theorem lc_nitride (xs : Nat → Int32) (n : Nat) (E : zE) (At : Nat → zC) (hE : ∀ y' n' a' M' Q', zT 60 y' n' a' M' Q' → E y' n' a' M' Q') (hC : ∀ pc st L M', zX 81 E (fun v _ => v = some (.int 1)) At (zlk (B_L_law xs n) pc) st L M' → At pc st L M') (I : Nat → Nat → Int32) (J : Nat → Nat → Int64) (hR : zRel I J) (i : Int32) (b1 : vp_in (i + 1) n) (b2 : vp_in (i + 2) n) (b3 : vp_in (i + 3) n) (b4 : vp_in (i + 4) n) (b5 : vp_in (i + 5) n) (nx : ∀ I2 J2, zRel I2 J2 → At 1266 [] [some (.ref 1001), some (.ref 0), some (.ref 46), some (.int i)] (I2, J2, zR, 81)) : At 320 [] [some (.ref 1001), some (.ref 0), some (.ref 46), some (.int i)] (I, J, zR, 81) := by
  refine hC 320 [] [some (.ref 1001), some (.ref 0), some (.ref 46), some (.int i)] _ ?_
  refine And.intro b1 ?_
  refine hE _ _ _ _ _ (op_nitride I J hR (xs (i + 1).toNatClampNeg) _ (fun r I1 J1 hm => ?_))
  refine And.intro b1 ?_
  refine hE _ _ _ _ _ (hm _ (fun I2 J2 h2 => ?_))
  exact And.intro (fun _ => nx I2 J2 h2) (fun q => absurd rfl q)
theorem lc_about (xs : Nat → Int32) (n : Nat) (E : zE) (At : Nat → zC) (hE : ∀ y' n' a' M' Q', zT 60 y' n' a' M' Q' → E y' n' a' M' Q') (hC : ∀ pc st L M', zX 81 E (fun v _ => v = some (.int 1)) At (zlk (B_L_law xs n) pc) st L M' → At pc st L M') (I : Nat → Nat → Int32) (J : Nat → Nat → Int64) (hR : zRel I J) (i : Int32) (b1 : vp_in (i + 1) n) (b2 : vp_in (i + 2) n) (b3 : vp_in (i + 3) n) (b4 : vp_in (i + 4) n) (b5 : vp_in (i + 5) n) (nx : ∀ I2 J2, zRel I2 J2 → At 1266 [] [some (.ref 1001), some (.ref 0), some (.ref 46), some (.int i)] (I2, J2, zR, 81)) : At 343 [] [some (.ref 1001), some (.ref 0), some (.ref 46), some (.int i)] (I, J, zR, 81) := by
  refine hC 343 [] [some (.ref 1001), some (.ref 0), some (.ref 46), some (.int i)] _ ?_
  refine And.intro b1 ?_
  refine And.intro b2 ?_
  refine hE _ _ _ _ _ (op_about I J hR (xs (i + 1).toNatClampNeg) (xs (i + 2).toNatClampNeg) _ (fun r I1 J1 hm => ?_))
  refine And.intro b1 ?_
  refine And.intro b2 ?_
  refine hE _ _ _ _ _ (hm _ (fun I2 J2 h2 => ?_))
  exact And.intro (fun _ => nx I2 J2 h2) (fun q => absurd rfl q)
theorem lc_ready (xs : Nat → Int32) (n : Nat) (E : zE) (At : Nat → zC) (hE : ∀ y' n' a' M' Q', zT 60 y' n' a' M' Q' → E y' n' a' M' Q') (hC : ∀ pc st L M', zX 81 E (fun v _ => v = some (.int 1)) At (zlk (B_L_law xs n) pc) st L M' → At pc st L M') (I : Nat → Nat → Int32) (J : Nat → Nat → Int64) (hR : zRel I J) (i : Int32) (b1 : vp_in (i + 1) n) (b2 : vp_in (i + 2) n) (b3 : vp_in (i + 3) n) (b4 : vp_in (i + 4) n) (b5 : vp_in (i + 5) n) (nx : ∀ I2 J2, zRel I2 J2 → At 1266 [] [some (.ref 1001), some (.ref 0), some (.ref 46), some (.int i)] (I2, J2, zR, 81)) : At 376 [] [some (.ref 1001), some (.ref 0), some (.ref 46), some (.int i)] (I, J, zR, 81) := by
  refine hC 376 [] [some (.ref 1001), some (.ref 0), some (.ref 46), some (.int i)] _ ?_
  refine And.intro b1 ?_
  refine hE _ _ _ _ _ (op_ready I J hR (xs (i + 1).toNatClampNeg) _ (fun r I1 J1 hm => ?_))
  refine And.intro b1 ?_
  refine hE _ _ _ _ _ (hm _ (fun I2 J2 h2 => ?_))
  exact And.intro (fun _ => nx I2 J2 h2) (fun q => absurd rfl q)
theorem lc_pass (xs : Nat → Int32) (n : Nat) (E : zE) (At : Nat → zC) (hE : ∀ y' n' a' M' Q', zT 60 y' n' a' M' Q' → E y' n' a' M' Q') (hC : ∀ pc st L M', zX 81 E (fun v _ => v = some (.int 1)) At (zlk (B_L_law xs n) pc) st L M' → At pc st L M') (I : Nat → Nat → Int32) (J : Nat → Nat → Int64) (hR : zRel I J) (i : Int32) (b1 : vp_in (i + 1) n) (b2 : vp_in (i + 2) n) (b3 : vp_in (i + 3) n) (b4 : vp_in (i + 4) n) (b5 : vp_in (i + 5) n) (nx : ∀ I2 J2, zRel I2 J2 → At 1266 [] [some (.ref 1001), some (.ref 0), some (.ref 46), some (.int i)] (I2, J2, zR, 81)) : At 399 [] [some (.ref 1001), some (.ref 0), some (.ref 46), some (.int i)] (I, J, zR, 81) := by
  refine hC 399 [] [some (.ref 1001), some (.ref 0), some (.ref 46), some (.int i)] _ ?_
  refine And.intro b1 ?_
  refine hE _ _ _ _ _ (op_pass I J hR (xs (i + 1).toNatClampNeg) _ (fun r I1 J1 hm => ?_))
  refine And.intro b1 ?_
  refine hE _ _ _ _ _ (hm _ (fun I2 J2 h2 => ?_))
  exact And.intro (fun _ => nx I2 J2 h2) (fun q => absurd rfl q)
theorem lc_law (xs : Nat → Int32) (n : Nat) (E : zE) (At : Nat → zC) (hE : ∀ y' n' a' M' Q', zT 60 y' n' a' M' Q' → E y' n' a' M' Q') (hC : ∀ pc st L M', zX 81 E (fun v _ => v = some (.int 1)) At (zlk (B_L_law xs n) pc) st L M' → At pc st L M') (I : Nat → Nat → Int32) (J : Nat → Nat → Int64) (hR : zRel I J) (i : Int32) (b1 : vp_in (i + 1) n) (b2 : vp_in (i + 2) n) (b3 : vp_in (i + 3) n) (b4 : vp_in (i + 4) n) (b5 : vp_in (i + 5) n) (nx : ∀ I2 J2, zRel I2 J2 → At 1266 [] [some (.ref 1001), some (.ref 0), some (.ref 46), some (.int i)] (I2, J2, zR, 81)) : At 422 [] [some (.ref 1001), some (.ref 0), some (.ref 46), some (.int i)] (I, J, zR, 81) := by
  refine hC 422 [] [some (.ref 1001), some (.ref 0), some (.ref 46), some (.int i)] _ ?_
  refine And.intro b1 ?_
  refine And.intro b2 ?_
  refine hE _ _ _ _ _ (op_law I J hR (xs (i + 1).toNatClampNeg) (xs (i + 2).toNatClampNeg) _ (fun r I1 J1 hm => ?_))
  refine And.intro b1 ?_
  refine And.intro b2 ?_
  refine hE _ _ _ _ _ (hm _ (fun I2 J2 h2 => ?_))
  exact And.intro (fun _ => nx I2 J2 h2) (fun q => absurd rfl q)
theorem lc_press (xs : Nat → Int32) (n : Nat) (E : zE) (At : Nat → zC) (hE : ∀ y' n' a' M' Q', zT 60 y' n' a' M' Q' → E y' n' a' M' Q') (hC : ∀ pc st L M', zX 81 E (fun v _ => v = some (.int 1)) At (zlk (B_L_law xs n) pc) st L M' → At pc st L M') (I : Nat → Nat → Int32) (J : Nat → Nat → Int64) (hR : zRel I J) (i : Int32) (b1 : vp_in (i + 1) n) (b2 : vp_in (i + 2) n) (b3 : vp_in (i + 3) n) (b4 : vp_in (i + 4) n) (b5 : vp_in (i + 5) n) (nx : ∀ I2 J2, zRel I2 J2 → At 1266 [] [some (.ref 1001), some (.ref 0), some (.ref 46), some (.int i)] (I2, J2, zR, 81)) : At 455 [] [some (.ref 1001), some (.ref 0), some (.ref 46), some (.int i)] (I, J, zR, 81) := by
  refine hC 455 [] [some (.ref 1001), some (.ref 0), some (.ref 46), some (.int i)] _ ?_
  refine And.intro b1 ?_
  refine And.intro b2 ?_
  refine hE _ _ _ _ _ (op_press I J hR (xs (i + 1).toNatClampNeg) (xs (i + 2).toNatClampNeg) _ (fun r I1 J1 hm => ?_))
  refine And.intro b1 ?_
  refine And.intro b2 ?_
  refine hE _ _ _ _ _ (hm _ (fun I2 J2 h2 => ?_))
  exact And.intro (fun _ => nx I2 J2 h2) (fun q => absurd rfl q)
theorem lc_bar (xs : Nat → Int32) (n : Nat) (E : zE) (At : Nat → zC) (hE : ∀ y' n' a' M' Q', zT 60 y' n' a' M' Q' → E y' n' a' M' Q') (hC : ∀ pc st L M', zX 81 E (fun v _ => v = some (.int 1)) At (zlk (B_L_law xs n) pc) st L M' → At pc st L M') (I : Nat → Nat → Int32) (J : Nat → Nat → Int64) (hR : zRel I J) (i : Int32) (b1 : vp_in (i + 1) n) (b2 : vp_in (i + 2) n) (b3 : vp_in (i + 3) n) (b4 : vp_in (i + 4) n) (b5 : vp_in (i + 5) n) (nx : ∀ I2 J2, zRel I2 J2 → At 1266 [] [some (.ref 1001), some (.ref 0), some (.ref 46), some (.int i)] (I2, J2, zR, 81)) : At 488 [] [some (.ref 1001), some (.ref 0), some (.ref 46), some (.int i)] (I, J, zR, 81) := by
  refine hC 488 [] [some (.ref 1001), some (.ref 0), some (.ref 46), some (.int i)] _ ?_
  refine And.intro b1 ?_
  refine And.intro b2 ?_
  refine hE _ _ _ _ _ (op_bar I J hR (xs (i + 1).toNatClampNeg) (xs (i + 2).toNatClampNeg) _ (fun r I1 J1 hm => ?_))
  refine And.intro b1 ?_
  refine And.intro b2 ?_
  refine hE _ _ _ _ _ (hm _ (fun I2 J2 h2 => ?_))
  exact And.intro (fun _ => nx I2 J2 h2) (fun q => absurd rfl q)
theorem lc_order (xs : Nat → Int32) (n : Nat) (E : zE) (At : Nat → zC) (hE : ∀ y' n' a' M' Q', zT 60 y' n' a' M' Q' → E y' n' a' M' Q') (hC : ∀ pc st L M', zX 81 E (fun v _ => v = some (.int 1)) At (zlk (B_L_law xs n) pc) st L M' → At pc st L M') (I : Nat → Nat → Int32) (J : Nat → Nat → Int64) (hR : zRel I J) (i : Int32) (b1 : vp_in (i + 1) n) (b2 : vp_in (i + 2) n) (b3 : vp_in (i + 3) n) (b4 : vp_in (i + 4) n) (b5 : vp_in (i + 5) n) (nx : ∀ I2 J2, zRel I2 J2 → At 1266 [] [some (.ref 1001), some (.ref 0), some (.ref 46), some (.int i)] (I2, J2, zR, 81)) : At 521 [] [some (.ref 1001), some (.ref 0), some (.ref 46), some (.int i)] (I, J, zR, 81) := by
  refine hC 521 [] [some (.ref 1001), some (.ref 0), some (.ref 46), some (.int i)] _ ?_
  refine And.intro b1 ?_
  refine And.intro b2 ?_
  refine And.intro b3 ?_
  refine hE _ _ _ _ _ (op_order I J hR (xs (i + 1).toNatClampNeg) (xs (i + 2).toNatClampNeg) (xs (i + 3).toNatClampNeg) _ (fun r I1 J1 hm => ?_))
  refine And.intro b1 ?_
  refine And.intro b2 ?_
  refine And.intro b3 ?_
  refine hE _ _ _ _ _ (hm _ (fun I2 J2 h2 => ?_))
  exact And.intro (fun _ => nx I2 J2 h2) (fun q => absurd rfl q)
theorem lc_wanted (xs : Nat → Int32) (n : Nat) (E : zE) (At : Nat → zC) (hE : ∀ y' n' a' M' Q', zT 60 y' n' a' M' Q' → E y' n' a' M' Q') (hC : ∀ pc st L M', zX 81 E (fun v _ => v = some (.int 1)) At (zlk (B_L_law xs n) pc) st L M' → At pc st L M') (I : Nat → Nat → Int32) (J : Nat → Nat → Int64) (hR : zRel I J) (i : Int32) (b1 : vp_in (i + 1) n) (b2 : vp_in (i + 2) n) (b3 : vp_in (i + 3) n) (b4 : vp_in (i + 4) n) (b5 : vp_in (i + 5) n) (nx : ∀ I2 J2, zRel I2 J2 → At 1266 [] [some (.ref 1001), some (.ref 0), some (.ref 46), some (.int i)] (I2, J2, zR, 81)) : At 564 [] [some (.ref 1001), some (.ref 0), some (.ref 46), some (.int i)] (I, J, zR, 81) := by
  refine hC 564 [] [some (.ref 1001), some (.ref 0), some (.ref 46), some (.int i)] _ ?_
  refine And.intro b1 ?_
  refine And.intro b2 ?_
  refine hE _ _ _ _ _ (op_wanted I J hR (xs (i + 1).toNatClampNeg) (xs (i + 2).toNatClampNeg) _ (fun r I1 J1 hm => ?_))
  refine And.intro b1 ?_
  refine And.intro b2 ?_
  refine hE _ _ _ _ _ (hm _ (fun I2 J2 h2 => ?_))
  exact And.intro (fun _ => nx I2 J2 h2) (fun q => absurd rfl q)
theorem lc_pattern (xs : Nat → Int32) (n : Nat) (E : zE) (At : Nat → zC) (hE : ∀ y' n' a' M' Q', zT 60 y' n' a' M' Q' → E y' n' a' M' Q') (hC : ∀ pc st L M', zX 81 E (fun v _ => v = some (.int 1)) At (zlk (B_L_law xs n) pc) st L M' → At pc st L M') (I : Nat → Nat → Int32) (J : Nat → Nat → Int64) (hR : zRel I J) (i : Int32) (b1 : vp_in (i + 1) n) (b2 : vp_in (i + 2) n) (b3 : vp_in (i + 3) n) (b4 : vp_in (i + 4) n) (b5 : vp_in (i + 5) n) (nx : ∀ I2 J2, zRel I2 J2 → At 1266 [] [some (.ref 1001), some (.ref 0), some (.ref 46), some (.int i)] (I2, J2, zR, 81)) : At 597 [] [some (.ref 1001), some (.ref 0), some (.ref 46), some (.int i)] (I, J, zR, 81) := by
  refine hC 597 [] [some (.ref 1001), some (.ref 0), some (.ref 46), some (.int i)] _ ?_
  refine And.intro b1 ?_
  refine And.intro b2 ?_
  refine And.intro b3 ?_
  refine hE _ _ _ _ _ (op_pattern I J hR (xs (i + 1).toNatClampNeg) (xs (i + 2).toNatClampNeg) (xs (i + 3).toNatClampNeg) _ (fun r I1 J1 hm => ?_))
  refine And.intro b1 ?_
  refine And.intro b2 ?_
  refine And.intro b3 ?_
  refine hE _ _ _ _ _ (hm _ (fun I2 J2 h2 => ?_))
  exact And.intro (fun _ => nx I2 J2 h2) (fun q => absurd rfl q)
theorem lc_account (xs : Nat → Int32) (n : Nat) (E : zE) (At : Nat → zC) (hE : ∀ y' n' a' M' Q', zT 60 y' n' a' M' Q' → E y' n' a' M' Q') (hC : ∀ pc st L M', zX 81 E (fun v _ => v = some (.int 1)) At (zlk (B_L_law xs n) pc) st L M' → At pc st L M') (I : Nat → Nat → Int32) (J : Nat → Nat → Int64) (hR : zRel I J) (i : Int32) (b1 : vp_in (i + 1) n) (b2 : vp_in (i + 2) n) (b3 : vp_in (i + 3) n) (b4 : vp_in (i + 4) n) (b5 : vp_in (i + 5) n) (nx : ∀ I2 J2, zRel I2 J2 → At 1266 [] [some (.ref 1001), some (.ref 0), some (.ref 46), some (.int i)] (I2, J2, zR, 81)) : At 640 [] [some (.ref 1001), some (.ref 0), some (.ref 46), some (.int i)] (I, J, zR, 81) := by
  refine hC 640 [] [some (.ref 1001), some (.ref 0), some (.ref 46), some (.int i)] _ ?_
  refine And.intro b1 ?_
  refine hE _ _ _ _ _ (op_account I J hR (xs (i + 1).toNatClampNeg) _ (fun r I1 J1 hm => ?_))
  refine And.intro b1 ?_
  refine hE _ _ _ _ _ (hm _ (fun I2 J2 h2 => ?_))
  exact And.intro (fun _ => nx I2 J2 h2) (fun q => absurd rfl q)
theorem lc_stock (xs : Nat → Int32) (n : Nat) (E : zE) (At : Nat → zC) (hE : ∀ y' n' a' M' Q', zT 60 y' n' a' M' Q' → E y' n' a' M' Q') (hC : ∀ pc st L M', zX 81 E (fun v _ => v = some (.int 1)) At (zlk (B_L_law xs n) pc) st L M' → At pc st L M') (I : Nat → Nat → Int32) (J : Nat → Nat → Int64) (hR : zRel I J) (i : Int32) (b1 : vp_in (i + 1) n) (b2 : vp_in (i + 2) n) (b3 : vp_in (i + 3) n) (b4 : vp_in (i + 4) n) (b5 : vp_in (i + 5) n) (nx : ∀ I2 J2, zRel I2 J2 → At 1266 [] [some (.ref 1001), some (.ref 0), some (.ref 46), some (.int i)] (I2, J2, zR, 81)) : At 663 [] [some (.ref 1001), some (.ref 0), some (.ref 46), some (.int i)] (I, J, zR, 81) := by
  refine hC 663 [] [some (.ref 1001), some (.ref 0), some (.ref 46), some (.int i)] _ ?_
  refine And.intro b1 ?_
  refine hE _ _ _ _ _ (op_stock I J hR (xs (i + 1).toNatClampNeg) _ (fun r I1 J1 hm => ?_))
  refine And.intro b1 ?_
  refine hE _ _ _ _ _ (hm _ (fun I2 J2 h2 => ?_))
  exact And.intro (fun _ => nx I2 J2 h2) (fun q => absurd rfl q)
theorem lc_best (xs : Nat → Int32) (n : Nat) (E : zE) (At : Nat → zC) (hE : ∀ y' n' a' M' Q', zT 60 y' n' a' M' Q' → E y' n' a' M' Q') (hC : ∀ pc st L M', zX 81 E (fun v _ => v = some (.int 1)) At (zlk (B_L_law xs n) pc) st L M' → At pc st L M') (I : Nat → Nat → Int32) (J : Nat → Nat → Int64) (hR : zRel I J) (i : Int32) (b1 : vp_in (i + 1) n) (b2 : vp_in (i + 2) n) (b3 : vp_in (i + 3) n) (b4 : vp_in (i + 4) n) (b5 : vp_in (i + 5) n) (nx : ∀ I2 J2, zRel I2 J2 → At 1266 [] [some (.ref 1001), some (.ref 0), some (.ref 46), some (.int i)] (I2, J2, zR, 81)) : At 686 [] [some (.ref 1001), some (.ref 0), some (.ref 46), some (.int i)] (I, J, zR, 81) := by
  refine hC 686 [] [some (.ref 1001), some (.ref 0), some (.ref 46), some (.int i)] _ ?_
  refine And.intro b1 (And.intro b2 ?_)
  refine And.intro (fun q => ?_) (fun q => ?_)
  · refine hC 704 [.int (xs (i + 1).toNatClampNeg), .ref 0] [some (.ref 1001), some (.ref 0), some (.ref 46), some (.int i)] _ ?_
    refine hC 705 [.int 0, .int (xs (i + 1).toNatClampNeg), .ref 0] [some (.ref 1001), some (.ref 0), some (.ref 46), some (.int i)] _ ?_
    refine hE _ _ _ _ _ (op_best I J hR (xs (i + 1).toNatClampNeg) 0 _ (fun r I1 J1 hm => ?_))
    refine And.intro b1 (And.intro b2 ?_)
    refine And.intro (fun _ => ?_) (fun q2 => absurd q q2)
    refine hC 726 [.int (xs (i + 1).toNatClampNeg), .ref 46, .int r] [some (.ref 1001), some (.ref 0), some (.ref 46), some (.int i)] _ ?_
    refine hC 727 [.int 0, .int (xs (i + 1).toNatClampNeg), .ref 46, .int r] [some (.ref 1001), some (.ref 0), some (.ref 46), some (.int i)] _ ?_
    refine hE _ _ _ _ _ (hm _ (fun I2 J2 h2 => ?_))
    exact And.intro (fun _ => nx I2 J2 h2) (fun q => absurd rfl q)
  · refine hC 705 [.int 1, .int (xs (i + 1).toNatClampNeg), .ref 0] [some (.ref 1001), some (.ref 0), some (.ref 46), some (.int i)] _ ?_
    refine hE _ _ _ _ _ (op_best I J hR (xs (i + 1).toNatClampNeg) 1 _ (fun r I1 J1 hm => ?_))
    refine And.intro b1 (And.intro b2 ?_)
    refine And.intro (fun q2 => absurd q2 q) (fun _ => ?_)
    refine hC 727 [.int 1, .int (xs (i + 1).toNatClampNeg), .ref 46, .int r] [some (.ref 1001), some (.ref 0), some (.ref 46), some (.int i)] _ ?_
    refine hE _ _ _ _ _ (hm _ (fun I2 J2 h2 => ?_))
    exact And.intro (fun _ => nx I2 J2 h2) (fun q => absurd rfl q)
theorem lc_job (xs : Nat → Int32) (n : Nat) (E : zE) (At : Nat → zC) (hE : ∀ y' n' a' M' Q', zT 60 y' n' a' M' Q' → E y' n' a' M' Q') (hC : ∀ pc st L M', zX 81 E (fun v _ => v = some (.int 1)) At (zlk (B_L_law xs n) pc) st L M' → At pc st L M') (I : Nat → Nat → Int32) (J : Nat → Nat → Int64) (hR : zRel I J) (i : Int32) (b1 : vp_in (i + 1) n) (b2 : vp_in (i + 2) n) (b3 : vp_in (i + 3) n) (b4 : vp_in (i + 4) n) (b5 : vp_in (i + 5) n) (nx : ∀ I2 J2, zRel I2 J2 → At 1266 [] [some (.ref 1001), some (.ref 0), some (.ref 46), some (.int i)] (I2, J2, zR, 81)) : At 735 [] [some (.ref 1001), some (.ref 0), some (.ref 46), some (.int i)] (I, J, zR, 81) := by
  refine hC 735 [] [some (.ref 1001), some (.ref 0), some (.ref 46), some (.int i)] _ ?_
  refine And.intro b1 ?_
  refine And.intro b2 ?_
  refine And.intro b3 ?_
  refine hE _ _ _ _ _ (op_job I J hR (xs (i + 1).toNatClampNeg) (xs (i + 2).toNatClampNeg) (xs (i + 3).toNatClampNeg) _ (fun r I1 J1 hm => ?_))
  refine And.intro b1 ?_
  refine And.intro b2 ?_
  refine And.intro b3 ?_
  refine hE _ _ _ _ _ (hm _ (fun I2 J2 h2 => ?_))
  exact And.intro (fun _ => nx I2 J2 h2) (fun q => absurd rfl q)
theorem lc_change (xs : Nat → Int32) (n : Nat) (E : zE) (At : Nat → zC) (hE : ∀ y' n' a' M' Q', zT 60 y' n' a' M' Q' → E y' n' a' M' Q') (hC : ∀ pc st L M', zX 81 E (fun v _ => v = some (.int 1)) At (zlk (B_L_law xs n) pc) st L M' → At pc st L M') (I : Nat → Nat → Int32) (J : Nat → Nat → Int64) (hR : zRel I J) (i : Int32) (b1 : vp_in (i + 1) n) (b2 : vp_in (i + 2) n) (b3 : vp_in (i + 3) n) (b4 : vp_in (i + 4) n) (b5 : vp_in (i + 5) n) (nx : ∀ I2 J2, zRel I2 J2 → At 1266 [] [some (.ref 1001), some (.ref 0), some (.ref 46), some (.int i)] (I2, J2, zR, 81)) : At 778 [] [some (.ref 1001), some (.ref 0), some (.ref 46), some (.int i)] (I, J, zR, 81) := by
  refine hC 778 [] [some (.ref 1001), some (.ref 0), some (.ref 46), some (.int i)] _ ?_
  refine And.intro b1 ?_
  refine hE _ _ _ _ _ (op_change I J hR (xs (i + 1).toNatClampNeg) _ (fun r I1 J1 hm => ?_))
  refine And.intro b1 ?_
  refine hE _ _ _ _ _ (hm _ (fun I2 J2 h2 => ?_))
  exact And.intro (fun _ => nx I2 J2 h2) (fun q => absurd rfl q)
theorem lc_late (xs : Nat → Int32) (n : Nat) (E : zE) (At : Nat → zC) (hE : ∀ y' n' a' M' Q', zT 60 y' n' a' M' Q' → E y' n' a' M' Q') (hC : ∀ pc st L M', zX 81 E (fun v _ => v = some (.int 1)) At (zlk (B_L_law xs n) pc) st L M' → At pc st L M') (I : Nat → Nat → Int32) (J : Nat → Nat → Int64) (hR : zRel I J) (i : Int32) (b1 : vp_in (i + 1) n) (b2 : vp_in (i + 2) n) (b3 : vp_in (i + 3) n) (b4 : vp_in (i + 4) n) (b5 : vp_in (i + 5) n) (nx : ∀ I2 J2, zRel I2 J2 → At 1266 [] [some (.ref 1001), some (.ref 0), some (.ref 46), some (.int i)] (I2, J2, zR, 81)) : At 801 [] [some (.ref 1001), some (.ref 0), some (.ref 46), some (.int i)] (I, J, zR, 81) := by
  refine hC 801 [] [some (.ref 1001), some (.ref 0), some (.ref 46), some (.int i)] _ ?_
  refine hE _ _ _ _ _ (op_late I J hR  _ (fun r I1 J1 hm => ?_))
  refine hE _ _ _ _ _ (hm _ (fun I2 J2 h2 => ?_))
  exact And.intro (fun _ => nx I2 J2 h2) (fun q => absurd rfl q)
theorem lc_planned (xs : Nat → Int32) (n : Nat) (E : zE) (At : Nat → zC) (hE : ∀ y' n' a' M' Q', zT 60 y' n' a' M' Q' → E y' n' a' M' Q') (hC : ∀ pc st L M', zX 81 E (fun v _ => v = some (.int 1)) At (zlk (B_L_law xs n) pc) st L M' → At pc st L M') (I : Nat → Nat → Int32) (J : Nat → Nat → Int64) (hR : zRel I J) (i : Int32) (b1 : vp_in (i + 1) n) (b2 : vp_in (i + 2) n) (b3 : vp_in (i + 3) n) (b4 : vp_in (i + 4) n) (b5 : vp_in (i + 5) n) (nx : ∀ I2 J2, zRel I2 J2 → At 1266 [] [some (.ref 1001), some (.ref 0), some (.ref 46), some (.int i)] (I2, J2, zR, 81)) : At 814 [] [some (.ref 1001), some (.ref 0), some (.ref 46), some (.int i)] (I, J, zR, 81) := by
  refine hC 814 [] [some (.ref 1001), some (.ref 0), some (.ref 46), some (.int i)] _ ?_
  refine And.intro b1 ?_
  refine hE _ _ _ _ _ (op_planned I J hR (xs (i + 1).toNatClampNeg) _ (fun r I1 J1 hm => ?_))
  refine And.intro b1 ?_
  refine hE _ _ _ _ _ (hm _ (fun I2 J2 h2 => ?_))
  exact And.intro (fun _ => nx I2 J2 h2) (fun q => absurd rfl q)
theorem lc_room (xs : Nat → Int32) (n : Nat) (E : zE) (At : Nat → zC) (hE : ∀ y' n' a' M' Q', zT 60 y' n' a' M' Q' → E y' n' a' M' Q') (hC : ∀ pc st L M', zX 81 E (fun v _ => v = some (.int 1)) At (zlk (B_L_law xs n) pc) st L M' → At pc st L M') (I : Nat → Nat → Int32) (J : Nat → Nat → Int64) (hR : zRel I J) (i : Int32) (b1 : vp_in (i + 1) n) (b2 : vp_in (i + 2) n) (b3 : vp_in (i + 3) n) (b4 : vp_in (i + 4) n) (b5 : vp_in (i + 5) n) (nx : ∀ I2 J2, zRel I2 J2 → At 1266 [] [some (.ref 1001), some (.ref 0), some (.ref 46), some (.int i)] (I2, J2, zR, 81)) : At 837 [] [some (.ref 1001), some (.ref 0), some (.ref 46), some (.int i)] (I, J, zR, 81) := by
  refine hC 837 [] [some (.ref 1001), some (.ref 0), some (.ref 46), some (.int i)] _ ?_
  refine And.intro b1 ?_
  refine hE _ _ _ _ _ (op_room I J hR (xs (i + 1).toNatClampNeg) _ (fun r I1 J1 hm => ?_))
  refine And.intro b1 ?_
  refine hE _ _ _ _ _ (hm _ (fun I2 J2 h2 => ?_))
  exact And.intro (fun _ => nx I2 J2 h2) (fun q => absurd rfl q)
theorem lc_age (xs : Nat → Int32) (n : Nat) (E : zE) (At : Nat → zC) (hE : ∀ y' n' a' M' Q', zT 60 y' n' a' M' Q' → E y' n' a' M' Q') (hC : ∀ pc st L M', zX 81 E (fun v _ => v = some (.int 1)) At (zlk (B_L_law xs n) pc) st L M' → At pc st L M') (I : Nat → Nat → Int32) (J : Nat → Nat → Int64) (hR : zRel I J) (i : Int32) (b1 : vp_in (i + 1) n) (b2 : vp_in (i + 2) n) (b3 : vp_in (i + 3) n) (b4 : vp_in (i + 4) n) (b5 : vp_in (i + 5) n) (nx : ∀ I2 J2, zRel I2 J2 → At 1266 [] [some (.ref 1001), some (.ref 0), some (.ref 46), some (.int i)] (I2, J2, zR, 81)) : At 860 [] [some (.ref 1001), some (.ref 0), some (.ref 46), some (.int i)] (I, J, zR, 81) := by
  refine hC 860 [] [some (.ref 1001), some (.ref 0), some (.ref 46), some (.int i)] _ ?_
  refine hE _ _ _ _ _ (op_age I J hR  _ (fun r I1 J1 hm => ?_))
  refine hE _ _ _ _ _ (hm _ (fun I2 J2 h2 => ?_))
  exact And.intro (fun _ => nx I2 J2 h2) (fun q => absurd rfl q)
theorem lc_batches (xs : Nat → Int32) (n : Nat) (E : zE) (At : Nat → zC) (hE : ∀ y' n' a' M' Q', zT 60 y' n' a' M' Q' → E y' n' a' M' Q') (hC : ∀ pc st L M', zX 81 E (fun v _ => v = some (.int 1)) At (zlk (B_L_law xs n) pc) st L M' → At pc st L M') (I : Nat → Nat → Int32) (J : Nat → Nat → Int64) (hR : zRel I J) (i : Int32) (b1 : vp_in (i + 1) n) (b2 : vp_in (i + 2) n) (b3 : vp_in (i + 3) n) (b4 : vp_in (i + 4) n) (b5 : vp_in (i + 5) n) (nx : ∀ I2 J2, zRel I2 J2 → At 1266 [] [some (.ref 1001), some (.ref 0), some (.ref 46), some (.int i)] (I2, J2, zR, 81)) : At 873 [] [some (.ref 1001), some (.ref 0), some (.ref 46), some (.int i)] (I, J, zR, 81) := by
  refine hC 873 [] [some (.ref 1001), some (.ref 0), some (.ref 46), some (.int i)] _ ?_
  refine hE _ _ _ _ _ (op_batches I J hR  _ (fun r I1 J1 hm => ?_))
  refine hE _ _ _ _ _ (hm _ (fun I2 J2 h2 => ?_))
  exact And.intro (fun _ => nx I2 J2 h2) (fun q => absurd rfl q)
theorem lc_sample (xs : Nat → Int32) (n : Nat) (E : zE) (At : Nat → zC) (hE : ∀ y' n' a' M' Q', zT 60 y' n' a' M' Q' → E y' n' a' M' Q') (hC : ∀ pc st L M', zX 81 E (fun v _ => v = some (.int 1)) At (zlk (B_L_law xs n) pc) st L M' → At pc st L M') (I : Nat → Nat → Int32) (J : Nat → Nat → Int64) (hR : zRel I J) (i : Int32) (b1 : vp_in (i + 1) n) (b2 : vp_in (i + 2) n) (b3 : vp_in (i + 3) n) (b4 : vp_in (i + 4) n) (b5 : vp_in (i + 5) n) (nx : ∀ I2 J2, zRel I2 J2 → At 1266 [] [some (.ref 1001), some (.ref 0), some (.ref 46), some (.int i)] (I2, J2, zR, 81)) : At 886 [] [some (.ref 1001), some (.ref 0), some (.ref 46), some (.int i)] (I, J, zR, 81) := by
  refine hC 886 [] [some (.ref 1001), some (.ref 0), some (.ref 46), some (.int i)] _ ?_
  refine And.intro b1 (And.intro b2 ?_)
  refine And.intro (fun q => ?_) (fun q => ?_)
  · refine hC 904 [.int (xs (i + 1).toNatClampNeg), .ref 0] [some (.ref 1001), some (.ref 0), some (.ref 46), some (.int i)] _ ?_
    refine hC 905 [.int 0, .int (xs (i + 1).toNatClampNeg), .ref 0] [some (.ref 1001), some (.ref 0), some (.ref 46), some (.int i)] _ ?_
    refine hE _ _ _ _ _ (op_sample I J hR (xs (i + 1).toNatClampNeg) 0 _ (fun r I1 J1 hm => ?_))
    refine And.intro b1 (And.intro b2 ?_)
    refine And.intro (fun _ => ?_) (fun q2 => absurd q q2)
    refine hC 926 [.int (xs (i + 1).toNatClampNeg), .ref 46, .int r] [some (.ref 1001), some (.ref 0), some (.ref 46), some (.int i)] _ ?_
    refine hC 927 [.int 0, .int (xs (i + 1).toNatClampNeg), .ref 46, .int r] [some (.ref 1001), some (.ref 0), some (.ref 46), some (.int i)] _ ?_
    refine hE _ _ _ _ _ (hm _ (fun I2 J2 h2 => ?_))
    exact And.intro (fun _ => nx I2 J2 h2) (fun q => absurd rfl q)
  · refine hC 905 [.int 1, .int (xs (i + 1).toNatClampNeg), .ref 0] [some (.ref 1001), some (.ref 0), some (.ref 46), some (.int i)] _ ?_
    refine hE _ _ _ _ _ (op_sample I J hR (xs (i + 1).toNatClampNeg) 1 _ (fun r I1 J1 hm => ?_))
    refine And.intro b1 (And.intro b2 ?_)
    refine And.intro (fun q2 => absurd q2 q) (fun _ => ?_)
    refine hC 927 [.int 1, .int (xs (i + 1).toNatClampNeg), .ref 46, .int r] [some (.ref 1001), some (.ref 0), some (.ref 46), some (.int i)] _ ?_
    refine hE _ _ _ _ _ (hm _ (fun I2 J2 h2 => ?_))
    exact And.intro (fun _ => nx I2 J2 h2) (fun q => absurd rfl q)
theorem lc_suspect (xs : Nat → Int32) (n : Nat) (E : zE) (At : Nat → zC) (hE : ∀ y' n' a' M' Q', zT 60 y' n' a' M' Q' → E y' n' a' M' Q') (hC : ∀ pc st L M', zX 81 E (fun v _ => v = some (.int 1)) At (zlk (B_L_law xs n) pc) st L M' → At pc st L M') (I : Nat → Nat → Int32) (J : Nat → Nat → Int64) (hR : zRel I J) (i : Int32) (b1 : vp_in (i + 1) n) (b2 : vp_in (i + 2) n) (b3 : vp_in (i + 3) n) (b4 : vp_in (i + 4) n) (b5 : vp_in (i + 5) n) (nx : ∀ I2 J2, zRel I2 J2 → At 1266 [] [some (.ref 1001), some (.ref 0), some (.ref 46), some (.int i)] (I2, J2, zR, 81)) : At 935 [] [some (.ref 1001), some (.ref 0), some (.ref 46), some (.int i)] (I, J, zR, 81) := by
  refine hC 935 [] [some (.ref 1001), some (.ref 0), some (.ref 46), some (.int i)] _ ?_
  refine And.intro b1 ?_
  refine hE _ _ _ _ _ (op_suspect I J hR (xs (i + 1).toNatClampNeg) _ (fun r I1 J1 hm => ?_))
  refine And.intro b1 ?_
  refine hE _ _ _ _ _ (hm _ (fun I2 J2 h2 => ?_))
  exact And.intro (fun _ => nx I2 J2 h2) (fun q => absurd rfl q)
theorem lc_held (xs : Nat → Int32) (n : Nat) (E : zE) (At : Nat → zC) (hE : ∀ y' n' a' M' Q', zT 60 y' n' a' M' Q' → E y' n' a' M' Q') (hC : ∀ pc st L M', zX 81 E (fun v _ => v = some (.int 1)) At (zlk (B_L_law xs n) pc) st L M' → At pc st L M') (I : Nat → Nat → Int32) (J : Nat → Nat → Int64) (hR : zRel I J) (i : Int32) (b1 : vp_in (i + 1) n) (b2 : vp_in (i + 2) n) (b3 : vp_in (i + 3) n) (b4 : vp_in (i + 4) n) (b5 : vp_in (i + 5) n) (nx : ∀ I2 J2, zRel I2 J2 → At 1266 [] [some (.ref 1001), some (.ref 0), some (.ref 46), some (.int i)] (I2, J2, zR, 81)) : At 958 [] [some (.ref 1001), some (.ref 0), some (.ref 46), some (.int i)] (I, J, zR, 81) := by
  refine hC 958 [] [some (.ref 1001), some (.ref 0), some (.ref 46), some (.int i)] _ ?_
  refine hE _ _ _ _ _ (op_held I J hR  _ (fun r I1 J1 hm => ?_))
  refine hE _ _ _ _ _ (hm _ (fun I2 J2 h2 => ?_))
  exact And.intro (fun _ => nx I2 J2 h2) (fun q => absurd rfl q)
theorem lc_drift (xs : Nat → Int32) (n : Nat) (E : zE) (At : Nat → zC) (hE : ∀ y' n' a' M' Q', zT 60 y' n' a' M' Q' → E y' n' a' M' Q') (hC : ∀ pc st L M', zX 81 E (fun v _ => v = some (.int 1)) At (zlk (B_L_law xs n) pc) st L M' → At pc st L M') (I : Nat → Nat → Int32) (J : Nat → Nat → Int64) (hR : zRel I J) (i : Int32) (b1 : vp_in (i + 1) n) (b2 : vp_in (i + 2) n) (b3 : vp_in (i + 3) n) (b4 : vp_in (i + 4) n) (b5 : vp_in (i + 5) n) (nx : ∀ I2 J2, zRel I2 J2 → At 1266 [] [some (.ref 1001), some (.ref 0), some (.ref 46), some (.int i)] (I2, J2, zR, 81)) : At 971 [] [some (.ref 1001), some (.ref 0), some (.ref 46), some (.int i)] (I, J, zR, 81) := by
  refine hC 971 [] [some (.ref 1001), some (.ref 0), some (.ref 46), some (.int i)] _ ?_
  refine And.intro b1 ?_
  refine And.intro b2 ?_
  refine hE _ _ _ _ _ (op_drift I J hR (xs (i + 1).toNatClampNeg) (xs (i + 2).toNatClampNeg) _ (fun r I1 J1 hm => ?_))
  refine And.intro b1 ?_
  refine And.intro b2 ?_
  refine hE _ _ _ _ _ (hm _ (fun I2 J2 h2 => ?_))
  exact And.intro (fun _ => nx I2 J2 h2) (fun q => absurd rfl q)
theorem lc_sheet (xs : Nat → Int32) (n : Nat) (E : zE) (At : Nat → zC) (hE : ∀ y' n' a' M' Q', zT 60 y' n' a' M' Q' → E y' n' a' M' Q') (hC : ∀ pc st L M', zX 81 E (fun v _ => v = some (.int 1)) At (zlk (B_L_law xs n) pc) st L M' → At pc st L M') (I : Nat → Nat → Int32) (J : Nat → Nat → Int64) (hR : zRel I J) (i : Int32) (b1 : vp_in (i + 1) n) (b2 : vp_in (i + 2) n) (b3 : vp_in (i + 3) n) (b4 : vp_in (i + 4) n) (b5 : vp_in (i + 5) n) (nx : ∀ I2 J2, zRel I2 J2 → At 1266 [] [some (.ref 1001), some (.ref 0), some (.ref 46), some (.int i)] (I2, J2, zR, 81)) : At 1004 [] [some (.ref 1001), some (.ref 0), some (.ref 46), some (.int i)] (I, J, zR, 81) := by
  refine hC 1004 [] [some (.ref 1001), some (.ref 0), some (.ref 46), some (.int i)] _ ?_
  refine And.intro b1 ?_
  refine And.intro b2 ?_
  refine And.intro b3 ?_
  refine hE _ _ _ _ _ (op_sheet I J hR (xs (i + 1).toNatClampNeg) (xs (i + 2).toNatClampNeg) (xs (i + 3).toNatClampNeg) _ (fun r I1 J1 hm => ?_))
  refine And.intro b1 ?_
  refine And.intro b2 ?_
  refine And.intro b3 ?_
  refine hE _ _ _ _ _ (hm _ (fun I2 J2 h2 => ?_))
  exact And.intro (fun _ => nx I2 J2 h2) (fun q => absurd rfl q)
theorem lc_lose (xs : Nat → Int32) (n : Nat) (E : zE) (At : Nat → zC) (hE : ∀ y' n' a' M' Q', zT 60 y' n' a' M' Q' → E y' n' a' M' Q') (hC : ∀ pc st L M', zX 81 E (fun v _ => v = some (.int 1)) At (zlk (B_L_law xs n) pc) st L M' → At pc st L M') (I : Nat → Nat → Int32) (J : Nat → Nat → Int64) (hR : zRel I J) (i : Int32) (b1 : vp_in (i + 1) n) (b2 : vp_in (i + 2) n) (b3 : vp_in (i + 3) n) (b4 : vp_in (i + 4) n) (b5 : vp_in (i + 5) n) (nx : ∀ I2 J2, zRel I2 J2 → At 1266 [] [some (.ref 1001), some (.ref 0), some (.ref 46), some (.int i)] (I2, J2, zR, 81)) : At 1047 [] [some (.ref 1001), some (.ref 0), some (.ref 46), some (.int i)] (I, J, zR, 81) := by
  refine hC 1047 [] [some (.ref 1001), some (.ref 0), some (.ref 46), some (.int i)] _ ?_
  refine And.intro b1 ?_
  refine hE _ _ _ _ _ (op_lose I J hR (xs (i + 1).toNatClampNeg) _ (fun r I1 J1 hm => ?_))
  refine And.intro b1 ?_
  refine hE _ _ _ _ _ (hm _ (fun I2 J2 h2 => ?_))
  exact And.intro (fun _ => nx I2 J2 h2) (fun q => absurd rfl q)
theorem lc_put (xs : Nat → Int32) (n : Nat) (E : zE) (At : Nat → zC) (hE : ∀ y' n' a' M' Q', zT 60 y' n' a' M' Q' → E y' n' a' M' Q') (hC : ∀ pc st L M', zX 81 E (fun v _ => v = some (.int 1)) At (zlk (B_L_law xs n) pc) st L M' → At pc st L M') (I : Nat → Nat → Int32) (J : Nat → Nat → Int64) (hR : zRel I J) (i : Int32) (b1 : vp_in (i + 1) n) (b2 : vp_in (i + 2) n) (b3 : vp_in (i + 3) n) (b4 : vp_in (i + 4) n) (b5 : vp_in (i + 5) n) (nx : ∀ I2 J2, zRel I2 J2 → At 1266 [] [some (.ref 1001), some (.ref 0), some (.ref 46), some (.int i)] (I2, J2, zR, 81)) : At 1070 [] [some (.ref 1001), some (.ref 0), some (.ref 46), some (.int i)] (I, J, zR, 81) := by
  refine hC 1070 [] [some (.ref 1001), some (.ref 0), some (.ref 46), some (.int i)] _ ?_
  refine And.intro b1 ?_
  refine And.intro b2 ?_
  refine And.intro b3 ?_
  refine And.intro b4 ?_
  refine hE _ _ _ _ _ (op_put I J hR (xs (i + 1).toNatClampNeg) (xs (i + 2).toNatClampNeg) (xs (i + 3).toNatClampNeg) (xs (i + 4).toNatClampNeg) _ (fun r I1 J1 hm => ?_))
  refine And.intro b1 ?_
  refine And.intro b2 ?_
  refine And.intro b3 ?_
  refine And.intro b4 ?_
  refine hE _ _ _ _ _ (hm _ (fun I2 J2 h2 => ?_))
  exact And.intro (fun _ => nx I2 J2 h2) (fun q => absurd rfl q)
theorem lc_get (xs : Nat → Int32) (n : Nat) (E : zE) (At : Nat → zC) (hE : ∀ y' n' a' M' Q', zT 60 y' n' a' M' Q' → E y' n' a' M' Q') (hC : ∀ pc st L M', zX 81 E (fun v _ => v = some (.int 1)) At (zlk (B_L_law xs n) pc) st L M' → At pc st L M') (I : Nat → Nat → Int32) (J : Nat → Nat → Int64) (hR : zRel I J) (i : Int32) (b1 : vp_in (i + 1) n) (b2 : vp_in (i + 2) n) (b3 : vp_in (i + 3) n) (b4 : vp_in (i + 4) n) (b5 : vp_in (i + 5) n) (nx : ∀ I2 J2, zRel I2 J2 → At 1266 [] [some (.ref 1001), some (.ref 0), some (.ref 46), some (.int i)] (I2, J2, zR, 81)) : At 1123 [] [some (.ref 1001), some (.ref 0), some (.ref 46), some (.int i)] (I, J, zR, 81) := by
  refine hC 1123 [] [some (.ref 1001), some (.ref 0), some (.ref 46), some (.int i)] _ ?_
  refine And.intro b1 ?_
  refine And.intro b2 ?_
  refine And.intro b3 ?_
  refine hE _ _ _ _ _ (op_get I J hR (xs (i + 1).toNatClampNeg) (xs (i + 2).toNatClampNeg) (xs (i + 3).toNatClampNeg) _ (fun r I1 J1 hm => ?_))
  refine And.intro b1 ?_
  refine And.intro b2 ?_
  refine And.intro b3 ?_
  refine hE _ _ _ _ _ (hm _ (fun I2 J2 h2 => ?_))
  exact And.intro (fun _ => nx I2 J2 h2) (fun q => absurd rfl q)
theorem lc_copy (xs : Nat → Int32) (n : Nat) (E : zE) (At : Nat → zC) (hE : ∀ y' n' a' M' Q', zT 60 y' n' a' M' Q' → E y' n' a' M' Q') (hC : ∀ pc st L M', zX 81 E (fun v _ => v = some (.int 1)) At (zlk (B_L_law xs n) pc) st L M' → At pc st L M') (I : Nat → Nat → Int32) (J : Nat → Nat → Int64) (hR : zRel I J) (i : Int32) (b1 : vp_in (i + 1) n) (b2 : vp_in (i + 2) n) (b3 : vp_in (i + 3) n) (b4 : vp_in (i + 4) n) (b5 : vp_in (i + 5) n) (nx : ∀ I2 J2, zRel I2 J2 → At 1266 [] [some (.ref 1001), some (.ref 0), some (.ref 46), some (.int i)] (I2, J2, zR, 81)) : At 1166 [] [some (.ref 1001), some (.ref 0), some (.ref 46), some (.int i)] (I, J, zR, 81) := by
  refine hC 1166 [] [some (.ref 1001), some (.ref 0), some (.ref 46), some (.int i)] _ ?_
  refine And.intro b1 ?_
  refine And.intro b2 ?_
  refine And.intro b3 ?_
  refine And.intro b4 ?_
  refine And.intro b5 ?_
  refine hE _ _ _ _ _ (op_copy I J hR (xs (i + 1).toNatClampNeg) (xs (i + 2).toNatClampNeg) (xs (i + 3).toNatClampNeg) (xs (i + 4).toNatClampNeg) (xs (i + 5).toNatClampNeg) _ (fun r I1 J1 hm => ?_))
  refine And.intro b1 ?_
  refine And.intro b2 ?_
  refine And.intro b3 ?_
  refine And.intro b4 ?_
  refine And.intro b5 ?_
  refine hE _ _ _ _ _ (hm _ (fun I2 J2 h2 => ?_))
  exact And.intro (fun _ => nx I2 J2 h2) (fun q => absurd rfl q)
theorem lc_count (xs : Nat → Int32) (n : Nat) (E : zE) (At : Nat → zC) (hE : ∀ y' n' a' M' Q', zT 60 y' n' a' M' Q' → E y' n' a' M' Q') (hC : ∀ pc st L M', zX 81 E (fun v _ => v = some (.int 1)) At (zlk (B_L_law xs n) pc) st L M' → At pc st L M') (I : Nat → Nat → Int32) (J : Nat → Nat → Int64) (hR : zRel I J) (i : Int32) (b1 : vp_in (i + 1) n) (b2 : vp_in (i + 2) n) (b3 : vp_in (i + 3) n) (b4 : vp_in (i + 4) n) (b5 : vp_in (i + 5) n) (nx : ∀ I2 J2, zRel I2 J2 → At 1266 [] [some (.ref 1001), some (.ref 0), some (.ref 46), some (.int i)] (I2, J2, zR, 81)) : At 1229 [] [some (.ref 1001), some (.ref 0), some (.ref 46), some (.int i)] (I, J, zR, 81) := by
  refine hC 1229 [] [some (.ref 1001), some (.ref 0), some (.ref 46), some (.int i)] _ ?_
  refine And.intro b1 ?_
  refine hE _ _ _ _ _ (op_count I J hR (xs (i + 1).toNatClampNeg) _ (fun r I1 J1 hm => ?_))
  refine And.intro b1 ?_
  refine hE _ _ _ _ _ (hm _ (fun I2 J2 h2 => ?_))
  exact And.intro (fun _ => nx I2 J2 h2) (fun q => absurd rfl q)
theorem lc_digest (xs : Nat → Int32) (n : Nat) (E : zE) (At : Nat → zC) (hE : ∀ y' n' a' M' Q', zT 60 y' n' a' M' Q' → E y' n' a' M' Q') (hC : ∀ pc st L M', zX 81 E (fun v _ => v = some (.int 1)) At (zlk (B_L_law xs n) pc) st L M' → At pc st L M') (I : Nat → Nat → Int32) (J : Nat → Nat → Int64) (hR : zRel I J) (i : Int32) (b1 : vp_in (i + 1) n) (b2 : vp_in (i + 2) n) (b3 : vp_in (i + 3) n) (b4 : vp_in (i + 4) n) (b5 : vp_in (i + 5) n) (nx : ∀ I2 J2, zRel I2 J2 → At 1266 [] [some (.ref 1001), some (.ref 0), some (.ref 46), some (.int i)] (I2, J2, zR, 81)) : At 1252 [] [some (.ref 1001), some (.ref 0), some (.ref 46), some (.int i)] (I, J, zR, 81) := by
  refine hC 1252 [] [some (.ref 1001), some (.ref 0), some (.ref 46), some (.int i)] _ ?_
  refine hE _ _ _ _ _ (op_digest I J hR _ (fun r I1 J1 hm => ?_))
  refine hE _ _ _ _ _ (hm _ (fun I2 J2 h2 => ?_))
  exact And.intro (fun _ => nx I2 J2 h2) (fun q => absurd (zcm r) q)
