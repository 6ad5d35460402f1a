theorem zlaw_loop (xs : Nat → Int32) (n : Nat) (hn : n ≤ 3072) (E : zE) (At : Nat → zC) (hE : ∀ y' n' a' M' Q', zT 60 y' n' a' M' Q' → E y' n' a' M' Q') (hC : ∀ pc st L M', zX 81 E (fun v _ => v = some (.int 1)) At (zlk (B_L_law xs n) pc) st L M' → At pc st L M') : ∀ (f i : Nat) (I : Nat → Nat → Int32) (J : Nat → Nat → Int64), zRel I J → n ≤ i + 6 * f → i ≤ n + 6 → At 18 [] [some (.ref 1001), some (.ref 0), some (.ref 46), some (.int (zo (i : Nat)))] (I, J, zR, 81) := by
  have en : Int32.ofNat n - 6 = zo ((n : Int) - 6) := by
    have e1 : Int32.ofNat n = zo (n : Int) := Int32.ofInt_eq_ofNat.symm
    have e2 : (6 : Int32) = zo 6 := rfl
    rw [e1, e2, zo_sub]
  have out : ∀ (i : Nat) (I : Nat → Nat → Int32) (J : Nat → Nat → Int64), At 1272 [] [some (.ref 1001), some (.ref 0), some (.ref 46), some (.int (zo (i : Nat)))] (I, J, zR, 81) := fun i I J => hC 1272 [] [some (.ref 1001), some (.ref 0), some (.ref 46), some (.int (zo (i : Nat)))] _ rfl
  intro f
  induction f with
  | zero =>
    intro i I J hR h1 h2
    refine hC 18 [] [some (.ref 1001), some (.ref 0), some (.ref 46), some (.int (zo (i : Nat)))] _ ?_
    refine And.intro (fun _ => out i I J) (fun q => absurd (show Int32.ofNat n - 6 < zo (i : Nat) by rw [en, zo_lt ⟨by omega, by omega⟩ ⟨by omega, by omega⟩]; omega) q)
  | succ f ih =>
    intro i I J hR h1 h2
    refine hC 18 [] [some (.ref 1001), some (.ref 0), some (.ref 46), some (.int (zo (i : Nat)))] _ ?_
    refine And.intro (fun _ => out i I J) (fun q => ?_)
    have q1 : i + 6 ≤ n := by
      have q2 : ¬ Int32.ofNat n - 6 < zo (i : Nat) := q
      rw [en, zo_lt ⟨by omega, by omega⟩ ⟨by omega, by omega⟩] at q2
      omega
    have tn : (zo (n : Int)).toInt = n := zo_toInt ⟨by omega, by omega⟩
    have bb : ∀ k : Nat, k ≤ 5 → vp_in (zo (i : Nat) + zo (k : Nat)) n := fun k hk => by
      refine zvp (m := zo (n : Nat)) ?_ tn
      have e1 : zo (i : Int) + zo (k : Int) = zo ((i : Int) + k) := zo_add _ _
      have z0 : (0 : Int32) = zo 0 := rfl
      rw [e1, z0, zo_le ⟨by omega, by omega⟩ ⟨by omega, by omega⟩, zo_lt ⟨by omega, by omega⟩ ⟨by omega, by omega⟩]
      omega
    have b0 : vp_in (zo (i : Nat)) n := by
      refine zvp (m := zo (n : Nat)) ?_ tn
      have z0 : (0 : Int32) = zo 0 := rfl
      rw [z0, zo_le ⟨by omega, by omega⟩ ⟨by omega, by omega⟩, zo_lt ⟨by omega, by omega⟩ ⟨by omega, by omega⟩]
      omega
    have b1 : vp_in (zo (i : Nat) + 1) n := bb 1 (by omega)
    have b2 : vp_in (zo (i : Nat) + 2) n := bb 2 (by omega)
    have b3 : vp_in (zo (i : Nat) + 3) n := bb 3 (by omega)
    have b4 : vp_in (zo (i : Nat) + 4) n := bb 4 (by omega)
    have b5 : vp_in (zo (i : Nat) + 5) n := bb 5 (by omega)
    have nx : ∀ I2 J2, zRel I2 J2 → At 1266 [] [some (.ref 1001), some (.ref 0), some (.ref 46), some (.int (zo (i : Nat)))] (I2, J2, zR, 81) := fun I2 J2 h => by
      refine hC 1266 [] [some (.ref 1001), some (.ref 0), some (.ref 46), some (.int (zo (i : Nat)))] _ ?_
      have i2 := ih (i + 6) I2 J2 h (by omega) (by omega)
      have e1 : zo ((i + 6 : Nat) : Int) = zo (i : Nat) + 6 := by
        have e2 : (6 : Int32) = zo 6 := rfl
        rw [e2, zo_add]
        rfl
      rw [e1] at i2
      exact i2
    refine And.intro b0 ?_
    exact And.intro (fun _ => nx I J hR) (And.intro (fun _ => lc_profile xs n E At hE hC I J hR (zo (i : Nat)) b1 b2 b3 b4 b5 nx) (And.intro (fun _ => lc_die xs n E At hE hC I J hR (zo (i : Nat)) b1 b2 b3 b4 b5 nx) (And.intro (fun _ => lc_warm xs n E At hE hC I J hR (zo (i : Nat)) b1 b2 b3 b4 b5 nx) (And.intro (fun _ => lc_cool xs n E At hE hC I J hR (zo (i : Nat)) b1 b2 b3 b4 b5 nx) (And.intro (fun _ => lc_nitride xs n E At hE hC I J hR (zo (i : Nat)) b1 b2 b3 b4 b5 nx) (And.intro (fun _ => lc_about xs n E At hE hC I J hR (zo (i : Nat)) b1 b2 b3 b4 b5 nx) (And.intro (fun _ => lc_ready xs n E At hE hC I J hR (zo (i : Nat)) b1 b2 b3 b4 b5 nx) (And.intro (fun _ => lc_pass xs n E At hE hC I J hR (zo (i : Nat)) b1 b2 b3 b4 b5 nx) (And.intro (fun _ => lc_law xs n E At hE hC I J hR (zo (i : Nat)) b1 b2 b3 b4 b5 nx) (And.intro (fun _ => lc_press xs n E At hE hC I J hR (zo (i : Nat)) b1 b2 b3 b4 b5 nx) (And.intro (fun _ => lc_bar xs n E At hE hC I J hR (zo (i : Nat)) b1 b2 b3 b4 b5 nx) (And.intro (fun _ => lc_order xs n E At hE hC I J hR (zo (i : Nat)) b1 b2 b3 b4 b5 nx) (And.intro (fun _ => lc_wanted xs n E At hE hC I J hR (zo (i : Nat)) b1 b2 b3 b4 b5 nx) (And.intro (fun _ => lc_pattern xs n E At hE hC I J hR (zo (i : Nat)) b1 b2 b3 b4 b5 nx) (And.intro (fun _ => lc_account xs n E At hE hC I J hR (zo (i : Nat)) b1 b2 b3 b4 b5 nx) (And.intro (fun _ => lc_stock xs n E At hE hC I J hR (zo (i : Nat)) b1 b2 b3 b4 b5 nx) (And.intro (fun _ => lc_best xs n E At hE hC I J hR (zo (i : Nat)) b1 b2 b3 b4 b5 nx) (And.intro (fun _ => lc_job xs n E At hE hC I J hR (zo (i : Nat)) b1 b2 b3 b4 b5 nx) (And.intro (fun _ => lc_change xs n E At hE hC I J hR (zo (i : Nat)) b1 b2 b3 b4 b5 nx) (And.intro (fun _ => lc_late xs n E At hE hC I J hR (zo (i : Nat)) b1 b2 b3 b4 b5 nx) (And.intro (fun _ => lc_planned xs n E At hE hC I J hR (zo (i : Nat)) b1 b2 b3 b4 b5 nx) (And.intro (fun _ => lc_room xs n E At hE hC I J hR (zo (i : Nat)) b1 b2 b3 b4 b5 nx) (And.intro (fun _ => lc_age xs n E At hE hC I J hR (zo (i : Nat)) b1 b2 b3 b4 b5 nx) (And.intro (fun _ => lc_batches xs n E At hE hC I J hR (zo (i : Nat)) b1 b2 b3 b4 b5 nx) (And.intro (fun _ => lc_sample xs n E At hE hC I J hR (zo (i : Nat)) b1 b2 b3 b4 b5 nx) (And.intro (fun _ => lc_suspect xs n E At hE hC I J hR (zo (i : Nat)) b1 b2 b3 b4 b5 nx) (And.intro (fun _ => lc_held xs n E At hE hC I J hR (zo (i : Nat)) b1 b2 b3 b4 b5 nx) (And.intro (fun _ => lc_drift xs n E At hE hC I J hR (zo (i : Nat)) b1 b2 b3 b4 b5 nx) (And.intro (fun _ => lc_sheet xs n E At hE hC I J hR (zo (i : Nat)) b1 b2 b3 b4 b5 nx) (And.intro (fun _ => lc_lose xs n E At hE hC I J hR (zo (i : Nat)) b1 b2 b3 b4 b5 nx) (And.intro (fun _ => lc_put xs n E At hE hC I J hR (zo (i : Nat)) b1 b2 b3 b4 b5 nx) (And.intro (fun _ => lc_get xs n E At hE hC I J hR (zo (i : Nat)) b1 b2 b3 b4 b5 nx) (And.intro (fun _ => lc_copy xs n E At hE hC I J hR (zo (i : Nat)) b1 b2 b3 b4 b5 nx) (And.intro (fun _ => lc_count xs n E At hE hC I J hR (zo (i : Nat)) b1 b2 b3 b4 b5 nx) (And.intro (fun _ => lc_digest xs n E At hE hC I J hR (zo (i : Nat)) b1 b2 b3 b4 b5 nx) (trivial))))))))))))))))))))))))))))))))))))
