set_option maxHeartbeats 4000000 in
theorem g_fp38 (d : Nat) (E : zE) (At : Nat → zC) (Q : Option Value → zM → Prop) (hE : ∀ y n a M' Q', zT (d + 1) y n a M' Q' → E y n a M' Q') (hC : ∀ pc st L M', zX 81 E Q At (zlk B_X10_findPattern pc) st L M' → At pc st L M') (P : zPar) (J : Nat → Nat → Int64) (p u n : Int32) (os ol ow la : Nat → Int32) (hp : 0 ≤ p ∧ p < n) (hn : n ≤ 8) (hP : zPp P os ol ow la p u) (hl2 : 3 ≤ os p.toNatClampNeg → 100 ≤ P.l2) (a : Nat) (ha : a ≤ P.m0) : ∀ (b : Nat) (st : zS4) (I : Nat → Nat → Int32) (o7 o8 o9 : Option Value), b ≤ P.m1 + 1 → I 66 = os → I 67 = ol → I 68 = ow → I 47 = la → zMs I st → P.okm st → (∀ (I' : Nat → Nat → Int32) (st' : zS4) (o7 o8 o9 : Option Value), st' = zrb P.l0 P.l1 P.l2 P.k P.R P.cc a b st → zMf I I' → zMs I' st' → P.okm st' → At 249 [] [some (.ref 46), some (.int p), some (.int u), some (.int (zo P.R)), some (.int (zo (st'.2.1 + st'.2.2.1 + st'.2.2.2))), some (.int (zo a)), some (.int (zo (-1))), o7, o8, o9] (I', J, zR, 81)) → At 38 [] [some (.ref 46), some (.int p), some (.int u), some (.int (zo P.R)), some (.int (zo (st.2.1 + st.2.2.1 + st.2.2.2))), some (.int (zo a)), some (.int (zo ((b : Int) - 1))), o7, o8, o9] (I, J, zR, 81)
  | 0, st, I, o7, o8, o9, hb, e66, e67, e68, e47, hs, hok, K => by
    refine hC 38 [] [some (.ref 46), some (.int p), some (.int u), some (.int (zo P.R)), some (.int (zo (st.2.1 + st.2.2.1 + st.2.2.2))), some (.int (zo a)), some (.int (zo (((0 : Nat) : Int) - 1))), o7, o8, o9] _ ?_
    refine And.intro (fun _ => ?_) (fun qz => absurd (by decide) qz)
    exact K I st o7 o8 o9 rfl ⟨fun _ _ _ => rfl, fun _ _ => rfl⟩ hs hok
  | b + 1, st, I, o7, o8, o9, hb, e66, e67, e68, e47, hs, hok, K => by
    have e : ((b + 1 : Nat) : Int) - 1 = b := by omega
    rw [e]
    obtain ⟨⟨p0, p1, p2⟩, ⟨r0, r1, r2⟩, pk, pR⟩ := id hP
    have hp8 : 0 ≤ p ∧ p < 8 := by clear K hE hC; grind
    have n0 := P.c0
    have n1 := P.c1
    have n2 := P.c2
    have ob := P.okmb hok
    have ek : I 47 4 = zo P.k := by rw [e47]; exact pk
    have eX : (zo P.R - zo a * (zo P.l0 + I 47 4) - zo b * (zo P.l1 + I 47 4)) = zo (zlf P.l0 P.l1 P.k P.R a b) := by rw [ek, zo_add, zo_add, zo_mul, zo_mul, zo_sub, zo_sub]; rfl
    have bl0 := P.b0
    have bl1 := P.b1
    have bk := P.bk
    have bR := P.bR
    have t0 := zmb (a := (a : Int)) (l := P.l0 + P.k) (A := 60) (L := 9020) ⟨by omega, by omega⟩ ⟨by omega, by omega⟩
    have t1 := zmb (a := (b : Int)) (l := P.l1 + P.k) (A := 60) (L := 9020) ⟨by omega, by omega⟩ ⟨by omega, by omega⟩
    have lb : -2000000 ≤ zlf P.l0 P.l1 P.k P.R a b ∧ zlf P.l0 P.l1 P.k P.R a b ≤ 300000 := by unfold zlf; omega
    have z0 : (0 : Int32) = zo 0 := rfl
    have hneg : ¬ zo b < 0 := by rw [z0, zo_lt ⟨by omega, by omega⟩ ⟨by omega, by omega⟩]; omega
    have cX : ((zo P.R - zo a * (zo P.l0 + I 47 4) - zo b * (zo P.l1 + I 47 4)) < 0 ↔ zlf P.l0 P.l1 P.k P.R a b < 0) := by rw [eX, z0]; exact zo_lt ⟨by omega, by omega⟩ ⟨by omega, by omega⟩
    -- on with the next b
    have next : ∀ (I1 : Nat → Nat → Int32) (st1 : zS4) (o7 o8 o9 : Option Value), zMf I I1 → zMs I1 st1 → P.okm st1 → zrb P.l0 P.l1 P.l2 P.k P.R P.cc a b st1 = zrb P.l0 P.l1 P.l2 P.k P.R P.cc a (b + 1) st → At 243 [] [some (.ref 46), some (.int p), some (.int u), some (.int (zo P.R)), some (.int (zo (st1.2.1 + st1.2.2.1 + st1.2.2.2))), some (.int (zo a)), some (.int (zo b)), o7, o8, o9] (I1, J, zR, 81) := fun I1 st1 o7 o8 o9 f1 s1 k1 ez => by
      refine hC 243 [] [some (.ref 46), some (.int p), some (.int u), some (.int (zo P.R)), some (.int (zo (st1.2.1 + st1.2.2.1 + st1.2.2.2))), some (.int (zo a)), some (.int (zo b)), o7, o8, o9] _ ?_
      have ih := g_fp38 d E At Q hE hC P J p u n os ol ow la hp hn hP hl2 a ha b st1 I1 o7 o8 o9 (by omega) ((f1.1 66 (by decide) (by decide)).trans e66) ((f1.1 67 (by decide) (by decide)).trans e67) ((f1.1 68 (by decide) (by decide)).trans e68) ((f1.1 47 (by decide) (by decide)).trans e47) s1 k1 (fun I' st' o7 o8 o9 es f2 s2 k2 => K I' st' o7 o8 o9 (es.trans ez) (zMf_tr f1 f2) s2 k2)
      rw [← zo_dec] at ih
      exact ih
    refine hC 38 [] [some (.ref 46), some (.int p), some (.int u), some (.int (zo P.R)), some (.int (zo (st.2.1 + st.2.2.1 + st.2.2.2))), some (.int (zo a)), some (.int (zo b)), o7, o8, o9] _ ?_
    refine And.intro (fun qz => absurd qz hneg) (fun _ => ?_)
    refine hE _ _ _ _ _ (w_len d I J p 0 n (zo P.l0) _ e66 e67 hp hn (by decide) p0 ?_)
    refine And.intro zvl_4_6 ?_
    refine hE _ _ _ _ _ (w_len d I J p 1 n (zo P.l1) _ e66 e67 hp hn (by decide) p1 ?_)
    refine And.intro zvl_4_6 ?_
    refine And.intro (fun q => ?_) (fun q => ?_)
    · have q1 := cX.mp q
      refine next I st (some (.int (zo P.R - zo a * (zo P.l0 + I 47 4) - zo b * (zo P.l1 + I 47 4)))) o8 o9 ⟨fun _ _ _ => rfl, fun _ _ => rfl⟩ hs hok ?_
      rw [zrb, if_neg (by omega)]
    have hl : 0 ≤ zlf P.l0 P.l1 P.k P.R a b := by
      have : ¬ zlf P.l0 P.l1 P.k P.R a b < 0 := fun z => q (cX.mpr z)
      omega
    have hcc := P.ccb hl
    have ha6 : 0 ≤ (a : Int) ∧ (a : Int) ≤ 60 := by omega
    have hb6 : 0 ≤ (b : Int) ∧ (b : Int) ≤ 60 := by omega
    have hc6 : 0 ≤ P.cc (zlf P.l0 P.l1 P.k P.R a b) ∧ P.cc (zlf P.l0 P.l1 P.k P.R a b) ≤ 60 := by omega
    have sb := zsum3 P ha6 hb6 hc6
    have hstep : zrb P.l0 P.l1 P.l2 P.k P.R P.cc a (b + 1) st = zrb P.l0 P.l1 P.l2 P.k P.R P.cc a b (zpo P.l0 P.l1 P.l2 st a b (P.cc (zlf P.l0 P.l1 P.k P.R a b))) := by rw [zrb, if_pos hl]
    have okn := P.okm_po hok ha (show b ≤ P.m1 by omega) hl
    -- with c known
    have h139 : ∀ (C c0 : Int32) (o9 : Option Value), C = zo (P.cc (zlf P.l0 P.l1 P.k P.R a b)) → At 139 [.int C] [some (.ref 46), some (.int p), some (.int u), some (.int (zo P.R)), some (.int (zo (st.2.1 + st.2.2.1 + st.2.2.2))), some (.int (zo a)), some (.int (zo b)), some (.int (zo P.R - zo a * (zo P.l0 + I 47 4) - zo b * (zo P.l1 + I 47 4))), some (.int c0), o9] (I, J, zR, 81) := fun C c0 o9 eC => by
      subst eC
      generalize hcv : P.cc (zlf P.l0 P.l1 P.k P.R a b) = c at hcc hc6 sb hstep okn ⊢
      have es : zo a * zo P.l0 + zo b * zo P.l1 + zo c * zo P.l2 = zo (a * P.l0 + b * P.l1 + c * P.l2) := by rw [zo_mul, zo_mul, zo_mul, zo_add, zo_add]
      have en : zo a + zo b + zo c = zo (a + b + c) := by rw [zo_add, zo_add]
      have c2 : (I 46 29 < zo a * zo P.l0 + zo b * zo P.l1 + zo c * zo P.l2 ↔ st.1 < a * P.l0 + b * P.l1 + c * P.l2) := by rw [es, hs.1]; exact zo_lt ⟨by omega, by omega⟩ ⟨by omega, by omega⟩
      have c3 : (zo a * zo P.l0 + zo b * zo P.l1 + zo c * zo P.l2 = I 46 29 ↔ a * P.l0 + b * P.l1 + c * P.l2 = st.1) := by rw [es, hs.1]; exact zo_eq ⟨by omega, by omega⟩ ⟨by omega, by omega⟩
      have c1 : (zo (st.2.1 + st.2.2.1 + st.2.2.2) ≤ zo a + zo b + zo c ↔ st.2.1 + st.2.2.1 + st.2.2.2 ≤ a + b + c) := by rw [en]; exact zo_le ⟨by omega, by omega⟩ ⟨by omega, by omega⟩
      have keep : ∀ o9 : Option Value, ¬ (st.1 < a * P.l0 + b * P.l1 + c * P.l2 ∨ (a * P.l0 + b * P.l1 + c * P.l2 = st.1 ∧ a + b + c < st.2.1 + st.2.2.1 + st.2.2.2)) → At 243 [] [some (.ref 46), some (.int p), some (.int u), some (.int (zo P.R)), some (.int (zo (st.2.1 + st.2.2.1 + st.2.2.2))), some (.int (zo a)), some (.int (zo b)), some (.int (zo P.R - zo a * (zo P.l0 + I 47 4) - zo b * (zo P.l1 + I 47 4))), some (.int (zo c)), o9] (I, J, zR, 81) := fun o9 w => by
        have ez : zpo P.l0 P.l1 P.l2 st a b c = st := by unfold zpo; rw [if_neg w]
        refine next I st _ _ o9 ⟨fun _ _ _ => rfl, fun _ _ => rfl⟩ hs hok ?_
        rw [hstep, ez]
      have take : (st.1 < a * P.l0 + b * P.l1 + c * P.l2 ∨ (a * P.l0 + b * P.l1 + c * P.l2 = st.1 ∧ a + b + c < st.2.1 + st.2.2.1 + st.2.2.2)) → At 203 [] [some (.ref 46), some (.int p), some (.int u), some (.int (zo P.R)), some (.int (zo (st.2.1 + st.2.2.1 + st.2.2.2))), some (.int (zo a)), some (.int (zo b)), some (.int (zo P.R - zo a * (zo P.l0 + I 47 4) - zo b * (zo P.l1 + I 47 4))), some (.int (zo c)), some (.int (zo a * zo P.l0 + zo b * zo P.l1 + zo c * zo P.l2))] (I, J, zR, 81) := fun w => by
        have ez : zpo P.l0 P.l1 P.l2 st a b c = (a * P.l0 + b * P.l1 + c * P.l2, (a : Int), (b : Int), c) := by unfold zpo; rw [if_pos w]
        rw [ez] at okn hstep
        refine hC 203 [] [some (.ref 46), some (.int p), some (.int u), some (.int (zo P.R)), some (.int (zo (st.2.1 + st.2.2.1 + st.2.2.2))), some (.int (zo a)), some (.int (zo b)), some (.int (zo P.R - zo a * (zo P.l0 + I 47 4) - zo b * (zo P.l1 + I 47 4))), some (.int (zo c)), some (.int (zo a * zo P.l0 + zo b * zo P.l1 + zo c * zo P.l2))] _ ?_
        refine And.intro zvl_0_3 (And.intro zvl_1_3 (And.intro zvl_2_3 ?_))
        have i2 := next (va_up (va_up (va_up (va_up I 46 (va_up (I 46) 29 (zo a * zo P.l0 + zo b * zo P.l1 + zo c * zo P.l2))) 69 (va_up (I 69) 0 (zo a))) 69 (va_up (va_up (I 69) 0 (zo a)) 1 (zo b))) 69 (va_up (va_up (va_up (I 69) 0 (zo a)) 1 (zo b)) 2 (zo c))) (a * P.l0 + b * P.l1 + c * P.l2, (a : Int), (b : Int), c) (some (.int (zo P.R - zo a * (zo P.l0 + I 47 4) - zo b * (zo P.l1 + I 47 4)))) (some (.int (zo c))) (some (.int (zo a * zo P.l0 + zo b * zo P.l1 + zo c * zo P.l2))) ⟨fun j h46 h69 => by rw [zup_ne h69, zup_ne h69, zup_ne h69, zup_ne h46], fun j h29 => by
            show va_up (I 46) 29 _ j = I 46 j
            exact zup_ne h29⟩ ⟨es, Or.inr ⟨rfl, rfl, rfl⟩⟩ okn hstep.symm
        rw [← en] at i2
        exact i2
      refine hC 139 [.int (zo c)] [some (.ref 46), some (.int p), some (.int u), some (.int (zo P.R)), some (.int (zo (st.2.1 + st.2.2.1 + st.2.2.2))), some (.int (zo a)), some (.int (zo b)), some (.int (zo P.R - zo a * (zo P.l0 + I 47 4) - zo b * (zo P.l1 + I 47 4))), some (.int c0), o9] _ ?_
      refine hE _ _ _ _ _ (w_len d I J p 0 n (zo P.l0) _ e66 e67 hp hn (by decide) p0 ?_)
      refine hE _ _ _ _ _ (w_len d I J p 1 n (zo P.l1) _ e66 e67 hp hn (by decide) p1 ?_)
      refine hE _ _ _ _ _ (w_len d I J p 2 n (zo P.l2) _ e66 e67 hp hn (by decide) p2 ?_)
      refine And.intro (fun w => take (Or.inl (c2.mp w))) (fun w => ?_)
      refine And.intro (fun w2 => keep _ ?_) (fun w2 => ?_)
      · rintro (z | z)
        · exact w (c2.mpr z)
        · exact w2 (c3.mpr z.1)
      refine And.intro (fun w3 => keep _ ?_) (fun w3 => take (Or.inr ⟨c3.mp w2, ?_⟩))
      · have := c1.mp w3
        rintro (z | z)
        · exact w (c2.mpr z)
        · have := z.2
          omega
      · have : ¬ st.2.1 + st.2.2.1 + st.2.2.2 ≤ a + b + c := fun z => w3 (c1.mpr z)
        omega
    -- c, cut at the most
    have h115 : ∀ (C : Int32) (c0 : Int), C = zo c0 → (0 ≤ c0 ∧ c0 ≤ 300000) → (if c0 ≤ P.m2 then c0 else (P.m2 : Int)) = P.cc (zlf P.l0 P.l1 P.k P.R a b) → At 115 [.int C] [some (.ref 46), some (.int p), some (.int u), some (.int (zo P.R)), some (.int (zo (st.2.1 + st.2.2.1 + st.2.2.2))), some (.int (zo a)), some (.int (zo b)), some (.int (zo P.R - zo a * (zo P.l0 + I 47 4) - zo b * (zo P.l1 + I 47 4))), o8, o9] (I, J, zR, 81) := fun C c0 eC bc ec => by
      have cm : (C ≤ zo (P.m2 : Nat) ↔ c0 ≤ P.m2) := by rw [eC]; exact zo_le ⟨by omega, by omega⟩ ⟨by omega, by omega⟩
      refine hC 115 [.int C] [some (.ref 46), some (.int p), some (.int u), some (.int (zo P.R)), some (.int (zo (st.2.1 + st.2.2.1 + st.2.2.2))), some (.int (zo a)), some (.int (zo b)), some (.int (zo P.R - zo a * (zo P.l0 + I 47 4) - zo b * (zo P.l1 + I 47 4))), o8, o9] _ ?_
      refine hE _ _ _ _ _ (w_most d I J p 2 n (zo (P.m2 : Nat)) _ e66 e68 hp hn (by decide) r2 ?_)
      refine And.intro (fun w => ?_) (fun w => ?_)
      · refine hC 137 [] [some (.ref 46), some (.int p), some (.int u), some (.int (zo P.R)), some (.int (zo (st.2.1 + st.2.2.1 + st.2.2.2))), some (.int (zo a)), some (.int (zo b)), some (.int (zo P.R - zo a * (zo P.l0 + I 47 4) - zo b * (zo P.l1 + I 47 4))), some (.int C), o9] _ ?_
        refine h139 C C o9 ?_
        rw [if_pos (cm.mp w)] at ec
        rw [eC, ec]
      · refine hE _ _ _ _ _ (w_most d I J p 2 n (zo (P.m2 : Nat)) _ e66 e68 hp hn (by decide) r2 ?_)
        refine h139 _ C o9 ?_
        rw [if_neg (fun z => w (cm.mpr z))] at ec
        rw [ec]
    refine And.intro (zvp hp8 rfl) ?_
    refine And.intro (fun w => ?_) (fun w => ?_)
    · have w1 : 3 ≤ os p.toNatClampNeg := by rw [← e66]; exact w
      have hq := hl2 w1
      refine hC 99 [] [some (.ref 46), some (.int p), some (.int u), some (.int (zo P.R)), some (.int (zo (st.2.1 + st.2.2.1 + st.2.2.2))), some (.int (zo a)), some (.int (zo b)), some (.int (zo P.R - zo a * (zo P.l0 + I 47 4) - zo b * (zo P.l1 + I 47 4))), o8, o9] _ ?_
      refine hE _ _ _ _ _ (w_len d I J p 2 n (zo P.l2) _ e66 e67 hp hn (by decide) p2 ?_)
      refine And.intro zvl_4_6 ?_
      have bl2 := P.b2
      have ed : zo P.l2 + I 47 4 = zo (P.l2 + P.k) := by rw [ek, zo_add]
      have h9 : 0 ≤ zlf P.l0 P.l1 P.k P.R a b / (P.l2 + P.k) := Int.ediv_nonneg hl (by omega)
      have h8 : zlf P.l0 P.l1 P.k P.R a b / (P.l2 + P.k) ≤ zlf P.l0 P.l1 P.k P.R a b := Int.ediv_le_self _ hl
      refine And.intro (fun z => ?_) ?_
      · have z2 : zo P.l2 + I 47 4 = 0 := z
        rw [ed, z0, zo_eq ⟨by omega, by omega⟩ ⟨by omega, by omega⟩] at z2
        omega
      · refine h115 _ (zlf P.l0 P.l1 P.k P.R a b / (P.l2 + P.k)) ?_ ⟨h9, by omega⟩ (zcc_val P hl hq)
        show (zo P.R - zo a * (zo P.l0 + I 47 4) - zo b * (zo P.l1 + I 47 4)) / (zo P.l2 + I 47 4) = _
        rw [eX, ed]
        exact zo_div ⟨hl, by omega⟩ ⟨by omega, by omega⟩
    · have w1 : ¬ 3 ≤ os p.toNatClampNeg := by rw [← e66]; exact w
      have em : (P.m2 : Int) = 0 := by
        unfold zMo at r2
        rw [if_pos (show os p.toNatClampNeg ≤ 2 by clear K hE hC next h115 h139; grind), z0] at r2
        exact ((zo_eq ⟨by omega, by omega⟩ ⟨by omega, by omega⟩).mp r2).symm
      refine h115 0 0 rfl (by decide) ?_
      rw [em, if_pos (Int.le_refl _)]
      omega
