theorem op_account (I : Nat → Nat → Int32) (J : Nat → Nat → Int64) (hR : zRel I J) (a1 : Int32) (Q : Option Value → zM → Prop) (h : ∀ r I1 J1, (∀ Q' : Option Value → zM → Prop, (∀ I2 J2, zRel I2 J2 → Q' (some (.int r)) (I2, J2, zR, 81)) → zT 60 117 81 [.ref 46, .int a1] (I1, J1, zR, 81) Q') → Q (some (.int r)) (I1, J1, zR, 81)) : zT 60 67 81 [.ref 0, .int a1] (I, J, zR, 81) Q := by
  obtain ⟨hp, hd, ho, hl, hb, hk, hq, ha, hs, hj, hc, hh, ht⟩ := id hR
  refine w_X9_account 59 I J a1 Q rfl rfl rfl rfl rfl rfl rfl (fun c1 => ?_) (fun c1 => ?_) (fun c1 => ?_) (fun c1 => ?_) (fun c1 => ?_) (fun c1 => ?_) (fun c1 => ?_) (fun c1 => ?_)
  · refine h _ _ _ (fun Q' hQ => w_X10_account 58 _ _ a1 Q' rfl (by clear h hQ; intro z; grind) (fun e1 => ?_) (fun e1 => hQ _ _ hR))
    have e2 := ztoI e1
    have e3 : (0 : Int32).toInt = 0 := rfl
    have e4 : (6 : Int32).toInt = 6 := rfl
    exfalso
    omega
  · have hz : a1 = 0 := Int32.toInt_inj.mp (by rw [c1]; rfl)
    subst hz
    exact h _ _ _ (fun Q' hQ => w_X10_account 58 _ _ 0 Q' rfl (fun _ => by decide) (fun e1 => zfin (ha 0 (by decide)) rfl (hQ _ _ hR)) (fun e1 => absurd (by decide) e1))
  · have hz : a1 = 1 := Int32.toInt_inj.mp (by rw [c1]; rfl)
    subst hz
    exact h _ _ _ (fun Q' hQ => w_X10_account 58 _ _ 1 Q' rfl (fun _ => by decide) (fun e1 => zfin (ha 1 (by decide)) rfl (hQ _ _ hR)) (fun e1 => absurd (by decide) e1))
  · have hz : a1 = 2 := Int32.toInt_inj.mp (by rw [c1]; rfl)
    subst hz
    exact h _ _ _ (fun Q' hQ => w_X10_account 58 _ _ 2 Q' rfl (fun _ => by decide) (fun e1 => zfin (ha 2 (by decide)) rfl (hQ _ _ hR)) (fun e1 => absurd (by decide) e1))
  · have hz : a1 = 3 := Int32.toInt_inj.mp (by rw [c1]; rfl)
    subst hz
    exact h _ _ _ (fun Q' hQ => w_X10_account 58 _ _ 3 Q' rfl (fun _ => by decide) (fun e1 => zfin (ha 3 (by decide)) rfl (hQ _ _ hR)) (fun e1 => absurd (by decide) e1))
  · have hz : a1 = 4 := Int32.toInt_inj.mp (by rw [c1]; rfl)
    subst hz
    exact h _ _ _ (fun Q' hQ => w_X10_account 58 _ _ 4 Q' rfl (fun _ => by decide) (fun e1 => zfin (ha 4 (by decide)) rfl (hQ _ _ hR)) (fun e1 => absurd (by decide) e1))
  · have hz : a1 = 5 := Int32.toInt_inj.mp (by rw [c1]; rfl)
    subst hz
    exact h _ _ _ (fun Q' hQ => w_X10_account 58 _ _ 5 Q' rfl (fun _ => by decide) (fun e1 => zfin (ha 5 (by decide)) rfl (hQ _ _ hR)) (fun e1 => absurd (by decide) e1))
  · have hz : a1 = 6 := Int32.toInt_inj.mp (by rw [c1]; rfl)
    subst hz
    exact h _ _ _ (fun Q' hQ => w_X10_account 58 _ _ 6 Q' rfl (fun _ => by decide) (fun e1 => zfin (ha 6 (by decide)) rfl (hQ _ _ hR)) (fun e1 => absurd (by decide) e1))
