/-! the methods, numbered: name, bytes, locals, what they return -/
def zmt : List (MethodName × ByteArray × Nat × Option FieldType) := [(yX0_init, cX0_init, 1, none),
  (yX0_enter, cX0_enter, 2, none),
  (yX1_init, cX1_init, 1, none),
  (yX1_has, cX1_has, 2, (some .boolean)),
  (yX1_latestWas, cX1_latestWas, 3, (some .boolean)),
  (yX1_add, cX1_add, 6, none),
  (yX1_waits, cX1_waits, 2, (some .boolean)),
  (yX1_waiting, cX1_waiting, 3, (some .int)),
  (yX1_firstWaiting, cX1_firstWaiting, 2, (some .int)),
  (yX1_fillOven, cX1_fillOven, 7, (some .int)),
  (yX1_ovensNeeded, cX1_ovensNeeded, 6, (some .int)),
  (yX1_isSuspect, cX1_isSuspect, 2, (some .boolean)),
  (yX1_poorUpTo, cX1_poorUpTo, 3, (some .boolean)),
  (yX1_poorFrom, cX1_poorFrom, 3, (some .boolean)),
  (yX2_init, cX2_init, 1, none),
  (yX2_has, cX2_has, 2, (some .boolean)),
  (yX2_add, cX2_add, 3, (some .int)),
  (yX2_isWarm, cX2_isWarm, 2, (some .boolean)),
  (yX2_ticksWarm, cX2_ticksWarm, 3, (some .int)),
  (yX2_mayPress, cX2_mayPress, 3, (some .boolean)),
  (yX2_leastWorn, cX2_leastWorn, 5, (some .int)),
  (yX2_wear, cX2_wear, 2, none),
  (yX3_init, cX3_init, 1, none),
  (yX3_add, cX3_add, 5, (some .int)),
  (yX3_serve, cX3_serve, 4, none),
  (yX4_init, cX4_init, 1, none),
  (yX4_seek, cX4_seek, 8, none),
  (yX4_load, cX4_load, 6, none),
  (yX4_seekSecond, cX4_seekSecond, 4, none),
  (yX4_fitting, cX4_fitting, 4, (some .int)),
  (yX4_offer, cX4_offer, 6, none),
  (yX5_init, cX5_init, 1, none),
  (yX5_add, cX5_add, 4, (some .int)),
  (yX5_setGap, cX5_setGap, 3, (some .int)),
  (yX5_settle, cX5_settle, 1, none),
  (yX5_fillPlace, cX5_fillPlace, 5, none),
  (yX5_tryJob, cX5_tryJob, 7, none),
  (yX5_keepIfBetter, cX5_keepIfBetter, 4, none),
  (yX6_init, cX6_init, 1, none),
  (yX6_has, cX6_has, 2, (some .boolean)),
  (yX6_add, cX6_add, 5, (some .int)),
  (yX7_init, cX7_init, 1, none),
  (yX7_found, cX7_found, 2, (some .int)),
  (yX7_renew, cX7_renew, 5, (some .int)),
  (yX7_discard, cX7_discard, 3, (some .int)),
  (yX7_faultOf, cX7_faultOf, 4, (some .int)),
  (yX7_write, cX7_write, 5, none),
  (yX7_move, cX7_move, 6, (some .int)),
  (yX7_weight, cX7_weight, 3, (some .int)),
  (yX8_init, cX8_init, 1, none),
  (yX8_trim, cX8_trim, 6, none),
  (yX8_share, cX8_share, 2, none),
  (yX9_init, cX9_init, 1, none),
  (yX9_profile, cX9_profile, 5, (some .int)),
  (yX9_die, cX9_die, 3, (some .int)),
  (yX9_warm, cX9_warm, 2, (some .int)),
  (yX9_cool, cX9_cool, 3, (some .int)),
  (yX9_nitride, cX9_nitride, 3, (some .int)),
  (yX9_about, cX9_about, 3, (some .int)),
  (yX9_ready, cX9_ready, 2, (some .int)),
  (yX9_pass, cX9_pass, 2, (some .int)),
  (yX9_law, cX9_law, 4, (some .int)),
  (yX9_press, cX9_press, 4, (some .int)),
  (yX9_bar, cX9_bar, 3, (some .int)),
  (yX9_order, cX9_order, 4, (some .int)),
  (yX9_wanted, cX9_wanted, 3, (some .int)),
  (yX9_pattern, cX9_pattern, 4, (some .int)),
  (yX9_account, cX9_account, 2, (some .int)),
  (yX9_stock, cX9_stock, 2, (some .int)),
  (yX9_best, cX9_best, 7, (some .int)),
  (yX9_job, cX9_job, 4, (some .int)),
  (yX9_change, cX9_change, 2, (some .int)),
  (yX9_late, cX9_late, 1, (some .int)),
  (yX9_planned, cX9_planned, 2, (some .int)),
  (yX9_room, cX9_room, 3, (some .int)),
  (yX9_age, cX9_age, 3, (some .int)),
  (yX9_batches, cX9_batches, 3, (some .int)),
  (yX9_sample, cX9_sample, 3, (some .int)),
  (yX9_suspect, cX9_suspect, 2, (some .int)),
  (yX9_held, cX9_held, 3, (some .int)),
  (yX9_drift, cX9_drift, 7, (some .int)),
  (yX9_sheet, cX9_sheet, 4, (some .int)),
  (yX9_lose, cX9_lose, 2, (some .int)),
  (yX9_put, cX9_put, 6, (some .int)),
  (yX9_get, cX9_get, 5, (some .int)),
  (yX9_copy, cX9_copy, 6, (some .int)),
  (yX9_count, cX9_count, 2, (some .int)),
  (yX9_digest, cX9_digest, 5, (some .long)),
  (yX9_within, cX9_within, 3, (some .boolean)),
  (yX9_isSheet, cX9_isSheet, 1, (some .boolean)),
  (yX9_isForm, cX9_isForm, 1, (some .boolean)),
  (yX9_foresee, cX9_foresee, 4, none),
  (yX9_paysMore, cX9_paysMore, 8, (some .boolean)),
  (yX10_init, cX10_init, 2, none),
  (yX10_in, cX10_in, 6, (some .boolean)),
  (yX10_isProfile, cX10_isProfile, 2, (some .boolean)),
  (yX10_isDie, cX10_isDie, 2, (some .boolean)),
  (yX10_profile, cX10_profile, 5, (some .int)),
  (yX10_die, cX10_die, 3, (some .int)),
  (yX10_warm, cX10_warm, 2, (some .int)),
  (yX10_cool, cX10_cool, 3, (some .int)),
  (yX10_nitride, cX10_nitride, 3, (some .int)),
  (yX10_mayPress, cX10_mayPress, 2, (some .boolean)),
  (yX10_about, cX10_about, 3, (some .int)),
  (yX10_ready, cX10_ready, 4, (some .int)),
  (yX10_pass, cX10_pass, 2, (some .int)),
  (yX10_law, cX10_law, 4, (some .int)),
  (yX10_most, cX10_most, 3, (some .int)),
  (yX10_findPattern, cX10_findPattern, 10, none),
  (yX10_lengthOf, cX10_lengthOf, 3, (some .int)),
  (yX10_findBar, cX10_findBar, 6, none),
  (yX10_press, cX10_press, 5, (some .int)),
  (yX10_isBar, cX10_isBar, 2, (some .boolean)),
  (yX10_bar, cX10_bar, 3, (some .int)),
  (yX10_order, cX10_order, 4, (some .int)),
  (yX10_wanted, cX10_wanted, 3, (some .int)),
  (yX10_pattern, cX10_pattern, 4, (some .int)),
  (yX10_account, cX10_account, 2, (some .int)),
  (yX10_stock, cX10_stock, 2, (some .int)),
  (yX10_best, cX10_best, 10, (some .int)),
  (yX10_job, cX10_job, 4, (some .int)),
  (yX10_change, cX10_change, 3, (some .int)),
  (yX10_nextRow, cX10_nextRow, 6, (some .boolean)),
  (yX10_findOrder, cX10_findOrder, 8, (some .int)),
  (yX10_late, cX10_late, 1, (some .int)),
  (yX10_planned, cX10_planned, 3, (some .int)),
  (yX10_room, cX10_room, 3, (some .int)),
  (yX10_waits, cX10_waits, 2, (some .boolean)),
  (yX10_noneGone, cX10_noneGone, 2, none),
  (yX10_takes, cX10_takes, 6, (some .int)),
  (yX10_age, cX10_age, 3, (some .int)),
  (yX10_batches, cX10_batches, 2, (some .int)),
  (yX10_sample, cX10_sample, 3, (some .int)),
  (yX10_isSuspect, cX10_isSuspect, 6, (some .boolean)),
  (yX10_suspect, cX10_suspect, 2, (some .int)),
  (yX10_held, cX10_held, 3, (some .int)),
  (yX10_drift, cX10_drift, 7, (some .int)),
  (yX10_met, cX10_met, 2, (some .int)),
  (yX10_isSheet, cX10_isSheet, 1, (some .boolean)),
  (yX10_sheet, cX10_sheet, 5, (some .int)),
  (yX10_lose, cX10_lose, 2, (some .int)),
  (yX10_lacks, cX10_lacks, 4, (some .int)),
  (yX10_put, cX10_put, 6, (some .int)),
  (yX10_get, cX10_get, 4, (some .int)),
  (yX10_copy, cX10_copy, 7, (some .int)),
  (yX10_waiting, cX10_waiting, 3, (some .int)),
  (yX10_count, cX10_count, 2, (some .int)),
  (yX10_digest, cX10_digest, 5, (some .long)),
  (yJ9_floorDiv_7cf53, cJ9_floorDiv_7cf53, 3, (some .int)),
  (yJ9_max_7cf53, cJ9_max_7cf53, 2, (some .int)),
  (yJ9_min_7cf53, cJ9_min_7cf53, 2, (some .int))]
def zmd (y : Nat) : MethodName × ByteArray × Nat × Option FieldType := zmt.getD y (yL_law, cL_law, 4, none)
def zmn (y : Nat) : MethodName := (zmd y).1
def zmc (y : Nat) : ByteArray := (zmd y).2.1
def zml (y : Nat) : Nat := (zmd y).2.2.1
def zmr (y : Nat) : Option FieldType := (zmd y).2.2.2
def zws (y : Nat) : List Cond := Cond.code (zmn y) (zmc y) (zml y) (zmr y) :: zgood
/-- a callee's contract at depth d -/
def zEc (l : Launch) (D : va_G) (X : ClassId × ClassId × ClassId) (B aL b d : Nat) : zE := fun y n2 a M Q => M.2.2.2 ≤ n2 ∧ Met l (zmn y) (zws y) (zrm d (n2 - M.2.2.2) (zss n2 - zss M.2.2.2)) (zPc D X B aL b a M) (zQc D X B n2 Q) (n2 - M.2.2.2) (zss n2 - zss M.2.2.2) (fun q => B ≤ q)
def zMK (y np : Nat) : Prop := Cond.code (zmn y) (zmc y) (zml y) (zmr y) ∈ zgood ∧ Cond.initialized (zmn y).cls ∈ zgood ∧ ((zmn y).cls ≠ "java/lang/invoke/MethodHandle" ∧ (zmn y).cls ≠ "java/lang/invoke/VarHandle" ∧ (parseMethodDescriptor (zmn y).desc).map (fun d => d.parameters.length) = some np) ∧ zml y ≤ 30
theorem zss_mono : ∀ {a c : Nat}, a ≤ c → zss a ≤ zss c
  | a, 0, h => by cases Nat.le_zero.mp h; exact Nat.le_refl _
  | a, c + 1, h => by
    rcases Nat.lt_or_ge a (c + 1) with q | q
    · exact Nat.le_trans (zss_mono (Nat.le_of_lt_succ q)) (Nat.le_add_right _ _)
    · cases Nat.le_antisymm h q; exact Nat.le_refl _
section ZW2
variable {p : Program} {l : Launch} {e : Env} {R : Room} {s : State} {m : MethodId} {args : Array Value} {below : List Frame} {meth : Method} {c : Code} {Qf : State → Prop} {D : va_G} {X : ClassId × ClassId × ClassId} {B aL b : Nat} {cc : ByteArray} {nL n0 n1 d : Nat} {own : String} {E : zE} {Q : Option Value → zM → Prop}
theorem zws_good {y : Nat} (h : Cond.code (zmn y) (zmc y) (zml y) (zmr y) ∈ zgood) : GoodIn zgood (zws y) := by
  intro w hw
  rcases List.mem_cons.mp hw with rfl | hw
  · exact ⟨h, zgood_ok h⟩
  · exact ⟨hw, zgood_ok hw⟩
theorem zgi_app {big a c : List Cond} (ha : GoodIn big a) (hb : GoodIn big c) : GoodIn big (a ++ c) := fun w h => (List.mem_append.mp h).elim (ha w) (hb w)
theorem zgi_cons {a : List Cond} {w : Cond} (hw : w ∈ zgood) (ha : GoodIn zgood a) : GoodIn zgood (w :: a) := fun v h => (List.mem_cons.mp h).elim (fun q => by rw [q]; exact ⟨hw, zgood_ok hw⟩) (ha v)
theorem zgi_nil : GoodIn zgood [] := fun v h => by cases h
theorem z_call {H : Heap} {locs : List Loc} {cells slots mc ms pc n2 : Nat} {ls : Array Slot} {st0 rest : List Value} {a : Array Value} {Q2 : Option Value → zM → Prop} (hr : va_Run p l e R s m args below meth c H locs cells slots mc ms (F0 m pc ls st0) rest (zQc D X B n2 Q2 a) (fun q => B ≤ q)) (hS : va_S (fun q => B ≤ q) s.heap H locs)
    (kk : ∀ (v : Option Value) (M' : zM) (H1 : Heap) (locs1 : List Loc), zplain v → Q2 v M' → M'.2.2.2 = n2 → va_P D vwCl (zw X B M') H1 → va_S (fun q => B ≤ q) s.heap H1 locs1 → W p l e R s m args below meth c H1 locs1 (cells + mc) (slots + ms) Qf (F0 m (pc + 3) ls (v.toList ++ rest))) : W p l e R s m args below meth c H locs cells slots Qf (F0 m pc ls st0) := by
  intro T hT Y
  obtain ⟨v, st₀, t, T', L, h0, Y', hL, e1, e2, ⟨⟨v', M', hv, hp, hq, hn, hP⟩, hz, hk⟩, st⟩ := hr T hT Y
  cases hv
  rw [h0] at hz hk
  obtain ⟨t2, a1, b1⟩ := kk v M' T'.heap (locs ++ L) hp hq hn (by rw [e1]; exact hP)
    ⟨Nat.le_trans hS.1 (by rw [e1]; exact hz), fun q h1 h2 => by rw [e1, hk q (Nat.lt_of_lt_of_le h1 hS.1) h2]; exact hS.2.1 q h1 h2, fun q hq => by
      rcases List.mem_append.mp hq with h | h
      · exact hS.2.2 q h
      · exact hL q h⟩ T' rfl Y'
  exact ⟨t2, st t2 a1, b1⟩
theorem zpre {U : State} {H : Heap} {locs : List Loc} {M : zM} {a : List Value} {av : Array Value} (F : zF p R s m args c cc nL own D X B aL d n0 n1) (h3 : va_P D vwCl (zw X B M) H) (h4 : va_S (fun q => B ≤ q) s.heap H locs) (hsz : H.size = B + M.2.2.2) (hav : av = (a.map (zdn B aL b)).toArray) (hU : U.heap = H) (hW : s.WarmedH U.vm) : zPc D X B aL b a M av U :=
  ⟨hav, F.2.2.2.2.2.1.moved hW (fun q h1 h2 => by rw [hU]; exact h4.2.1 q h1 h2), by rw [hU]; exact hsz, by rw [hU]; exact h3⟩
theorem zblind {M : zM} {a : List Value} : FrameBlind (zPc D X B aL b a M) := fun _ _ _ _ q => ⟨q.1, q.2.1.blind, q.2.2.1, q.2.2.2⟩
theorem zcells {M M' : zM} (h1 : n0 ≤ M.2.2.2) (h2 : M.2.2.2 ≤ M'.2.2.2) : M.2.2.2 - n0 + (M'.2.2.2 - M.2.2.2) = M'.2.2.2 - n0 ∧ zss M.2.2.2 - zss n0 + (zss M'.2.2.2 - zss M.2.2.2) = zss M'.2.2.2 - zss n0 := by
  have := zss_mono h1
  have := zss_mono h2
  omega
theorem zfits {n n2 : Nat} (F : zF p R s m args c cc nL own D X B aL d n0 n1) (h1 : n0 ≤ n) (h2 : n ≤ n2) (h3 : n2 ≤ n1) : n - n0 + (n2 - n) ≤ R.cells ∧ zss n - zss n0 + (zss n2 - zss n) ≤ R.slots := by
  have := zss_mono h1
  have := zss_mono h2
  have := zss_mono h3
  have := F.2.2.2.2.2.2.2.2.1
  have := F.2.2.2.2.2.2.2.2.2.1
  omega
theorem zback {v : Option Value} {r : List Value} (h : zplain v) : v.toList ++ r.map (zdn B aL b) = (v.toList ++ r).map (zdn B aL b) := by
  rcases h with rfl | ⟨x, rfl⟩ | ⟨x, rfl⟩ <;> rfl
theorem zcat_map {r : List Value} : ((r.map (zdn B aL b)).map fun v => v.category).sum = zcat r := by
  unfold zcat
  rw [List.map_map]
  congr 1
  exact List.map_congr_left (fun v _ => zdn_cat)
theorem zlocs {y : Nat} (F : zF p R s m args c cc nL own D X B aL d n0 n1) (hm : zml y ≤ 30) (mc ms : Nat) : (zrm d mc ms).frames + 1 ≤ R.frames ∧ 8 + (zml y + 11) + (zrm d mc ms).locals ≤ R.locals := by
  have h1 := F.2.2.2.2.2.2.2.1.1
  have h2 := F.2.2.2.2.2.2.2.1.2
  refine ⟨h1, ?_⟩
  show 8 + (zml y + 11) + 60 * d ≤ R.locals
  omega
theorem s_gs (F : zF p R s m args c cc nL own D X B aL d n0 n1) {pc : Nat} {idx : Nat} (hl : Cond.fieldLink own idx "BilletBars" "LAW_LIMITS" "[I" ∈ zgood) (hd : decode cc pc = .ok (.getstatic idx, 3)) : zS p l e R s m args below meth c Qf D X B aL b nL n0 n1 E Q pc (oGS) (pc + 3) := by
  intro K st L M hK h
  intro H locs ls h1 h2 h3 h4 h5
  exact va_gets F.1 F.2.1 F.2.2.2.2.2.1.2.1 h4 F.2.2.2.1 (F.2.2.2.2.1 _ hl) (fun _ q => q) hd (hK _ _ _ h H locs ls h1 h2 h3 h4 h5)
theorem s_lim (F : zF p R s m args c cc nL own D X B aL d n0 n1) {pc : Nat} (hd : decode cc pc = .ok (.iaload, 1)) : zS p l e R s m args below meth c Qf D X B aL b nL n0 n1 E Q pc (oLim) (pc + 1) := by
  intro K st L M hK h
  intro H locs ls h1 h2 h3 h4 h5
  unfold oLim at h
  split at h
  · obtain ⟨h0, h⟩ := zcond h
    rename_i i k r
    have hk := Nat.eq_of_beq_eq_true h0
    subst hk
    exact va_ti F.1 F.2.1 F.2.2.2.2.2.1.2.2.1 h4 h.1 rfl hd (hK _ _ _ h.2 H locs ls h1 h2 h3 h4 h5)
  · exact h.elim
theorem s_limn (F : zF p R s m args c cc nL own D X B aL d n0 n1) {pc : Nat} (hd : decode cc pc = .ok (.arraylength, 1)) : zS p l e R s m args below meth c Qf D X B aL b nL n0 n1 E Q pc (oLimN) (pc + 1) := by
  intro K st L M hK h
  intro H locs ls h1 h2 h3 h4 h5
  unfold oLimN at h
  split at h
  · obtain ⟨h0, h⟩ := zcond h
    rename_i k r
    have hk := Nat.eq_of_beq_eq_true h0
    subst hk
    exact va_tlen F.1 F.2.1 F.2.2.2.2.2.1.2.2.1 h4 rfl hd (hK _ _ _ h H locs ls h1 h2 h3 h4 h5)
  · exact h.elim
theorem s_scr (F : zF p R s m args c cc nL own D X B aL d n0 n1) {pc : Nat} {xs : Nat → Int32} {n : Nat} (hX : va_X b n xs s s.heap) (hb1 : b < s.heap.size) (hb2 : b < B) (hd : decode cc pc = .ok (.iaload, 1)) : zS p l e R s m args below meth c Qf D X B aL b nL n0 n1 E Q pc (oScr xs n) (pc + 1) := by
  intro K st L M hK h
  intro H locs ls h1 h2 h3 h4 h5
  unfold oScr at h
  split at h
  · obtain ⟨h0, h⟩ := zcond h
    rename_i i k r
    have hk := Nat.eq_of_beq_eq_true h0
    subst hk
    exact va_sld F.1 F.2.1 hX hb1 (Nat.not_le.mpr hb2) h4 h.1 hd (hK _ _ _ h.2 H locs ls h1 h2 h3 h4 h5)
  · exact h.elim
theorem s_scrn (F : zF p R s m args c cc nL own D X B aL d n0 n1) {pc : Nat} {xs : Nat → Int32} {n : Nat} (hX : va_X b n xs s s.heap) (hb1 : b < s.heap.size) (hb2 : b < B) (hd : decode cc pc = .ok (.arraylength, 1)) : zS p l e R s m args below meth c Qf D X B aL b nL n0 n1 E Q pc (oScrN n) (pc + 1) := by
  intro K st L M hK h
  intro H locs ls h1 h2 h3 h4 h5
  unfold oScrN at h
  split at h
  · obtain ⟨h0, h⟩ := zcond h
    rename_i k r
    have hk := Nat.eq_of_beq_eq_true h0
    subst hk
    exact va_slen F.1 F.2.1 hX hb1 (Nat.not_le.mpr hb2) h4 hd (hK _ _ _ h H locs ls h1 h2 h3 h4 h5)
  · exact h.elim
theorem s_cpy (F : zF p R s m args c cc nL own D X B aL d n0 n1) {pc : Nat} {idx : Nat} (hl : Cond.methodLink own idx arraycopyName ∈ zgood) (hn : Cond.native arraycopyName ∈ zgood) (hs : Cond.static arraycopyName ∈ zgood) (hi : Cond.initialized "java/lang/System" ∈ zgood) (hd : decode cc pc = .ok (.invokestatic idx, 3)) : zS p l e R s m args below meth c Qf D X B aL b nL n0 n1 E Q pc (oCpy) (pc + 3) := by
  intro K st L M hK h
  intro H locs ls h1 h2 h3 h4 h5
  unfold oCpy at h
  split at h
  · rename_i n dp k1 sp k0 r
    split at h
    · rename_i l0 l1 e0 e1
      obtain ⟨g1, g2, g3, g4, g5, h⟩ := h
      obtain ⟨g6, h⟩ := zcond h
      have g6 : zcat r ≤ 8 := Nat.le_of_ble_eq_true g6
      obtain ⟨hk0, hsh0⟩ := zlen_ok e0
      obtain ⟨hk1, hsh1⟩ := zlen_ok e1
      rw [show (Value.int n :: Value.int dp :: Value.ref k1 :: Value.int sp :: Value.ref k0 :: r).map (zdn B aL b) = .int n :: .int dp :: .ref (B + k1) :: .int sp :: .ref (B + k0) :: r.map (zdn B aL b) by simp only [List.map_cons, zdn, zadr_lt (z9 F hk0 h2), zadr_lt (z9 F hk1 h2)]]
      have he0 := zw_get (X := X) (B := B) hk0
      have he1 := zw_get (X := X) (B := B) hk1
      rw [zcell_i hsh0] at he0
      rw [zcell_i hsh1] at he1
      have hnw : nativeFrameWords "java/lang/System" "arraycopy" 5 ≤ 40 := by decide
      have hR := F.2.2.2.2.2.2.2.1
      refine va_copyi F.1 F.2.1 (by rw [F.2.2.1, h5.2.1]) F.2.2.2.1 (F.2.2.2.2.1 _ hl) (F.2.2.2.2.1 _ hn) (F.2.2.2.2.1 _ hs) (F.2.2.2.2.1 _ hi) F.2.2.2.2.2.1.1 h3 zw_D h4 _ _ 0 0 he0 he1 rfl rfl rfl g1 g2 g3 g4 g5 (fun _ _ => rfl) (by omega) (by rw [zcat_map]; omega) hd (fun H1 locs1 hP1 hD1 hS1 => ?_)
      have hw := zw_set (X := X) (B := B) (M' := zwA M k1 (va_cpy (M.1 k0) (M.1 k1) sp.toNatClampNeg dp.toNatClampNeg n.toNatClampNeg)) hk1 rfl (fun i hi => zwA_cell hi) (e := .inl (X.1, l1, .inl (va_cpy (M.1 k0) (M.1 k1) sp.toNatClampNeg dp.toNatClampNeg n.toNatClampNeg))) (by rw [zcell_i hsh1]; simp only [zwA, va_up, if_pos])
      rw [hw] at hP1
      exact hK _ _ _ h H1 locs1 ls h1 h2 hP1 hS1 h5
    · exact h.elim
  · exact h.elim
theorem s_new (F : zF p R s m args c cc nL own D X B aL d n0 n1) {pc : Nat} {ci idx : Nat} {C : String} {T : u_T} {N : Nat} (hc : vwCl[ci]? = some (C, T, N)) (hin : ∀ w ∈ u_ws C T N, w ∈ zgood) (hN : zN ci = N) {ty : Nat → FieldType} (hty : ∀ k, k < N → parseFieldDescriptor (T k).2.2.1 = some (ty k)) (hdf : ∀ j, j < N → defaultValue (ty j) = cond (zfr ci j) .null (.int 0)) (hl : Cond.classLink own idx C ∈ zgood) (hi : Cond.instantiable C N ∈ zgood) (hini : Cond.initialized C ∈ zgood) (hd : decode cc pc = .ok (.new idx, 3)) : zS p l e R s m args below meth c Qf D X B aL b nL n0 n1 E Q pc (oNew ci) (pc + 3) := by
  intro K st L M hK h
  intro H locs ls h1 h2 h3 h4 h5
  obtain ⟨h0, h⟩ := zcond h
  simp only [Bool.and_eq_true] at h0
  obtain ⟨⟨g1, g2⟩, g3⟩ := h0
  have g1 : M.2.2.2 < n1 := Nat.le_of_ble_eq_true g1
  have g2 : M.2.2.2 < 900 := Nat.le_of_ble_eq_true g2
  have hsh : zshp M.2.2.2 = .inl ci := by
    cases hs : zshp M.2.2.2 with
    | inl q => rw [hs] at g3; rw [Nat.eq_of_beq_eq_true g3]
    | inr q => rw [hs] at g3; cases g3
  have hzz : zss (M.2.2.2 + 1) = zss M.2.2.2 + N := by rw [zss, zsz, hsh]; dsimp only; rw [hN]
  refine zsized F.2.2.2.2.2.2.1 h1 h3 h4 (fun hsz => ?_)
  have hft := zfits F h1 (Nat.le_succ M.2.2.2) g1
  rw [hzz] at hft
  have hKn := F.2.2.2.2.2.1.1.1 ci _ hc
  refine W.newcK F.1 F.2.1 F.2.2.2.1 (F.2.2.2.2.1 _ hl) (F.2.2.2.2.1 _ hi) (F.2.2.2.2.1 _ hini) rfl hd (by omega) (by omega) hKn.2.1 hsz (fun H1 kC hkC e1 z1 o1 => ?_)
  have hk : ∀ (k : Nat) (x : Nat × va_E), (zw X B M)[k]? = some x → H1[x.1]? = H[x.1]? := fun k x hx => o1 x.1 (by have := (h3 k x hx).lt; omega)
  have hnewc : va_P D vwCl [(B + M.2.2.2, .inr (ci, (List.range (zN ci)).map (zfv B (znew M) M.2.2.2 ci)))] H1 := by
    intro k x hx
    have hz : k < 1 := (List.getElem?_eq_some_iff.mp hx).1
    rw [show k = 0 by omega] at hx
    cases hx
    refine ⟨_, hc, (u_born ty F.2.2.2.2.1 hin hKn hkC e1 hty).to (fun j hj => ?_)⟩
    dsimp only
    rw [hdf j hj, vp_V, hN]
    simp only [zfv, znew, va_up, if_pos, List.getD, List.getElem?_map, List.getElem?_range hj, Option.map_some, Option.getD_some, Option.map_none, va_rf]
  have hP1 : va_P D vwCl (zw X B (znew M)) H1 := by
    rw [← zw_push (M := M) (M' := znew M) rfl (fun j hj => znew_cell hj) (e := .inr (ci, (List.range (zN ci)).map (zfv B (znew M) M.2.2.2 ci))) (zcell_o hsh)]
    exact (h3.kept hk).app hnewc
  have hS1 : va_S (fun q => B ≤ q) s.heap H1 locs := ⟨Nat.le_trans h4.1 (by omega), fun x q1 q2 => (o1 x (by have := h4.1; omega)).trans (h4.2.1 x q1 q2), h4.2.2⟩
  have hg := hK _ _ _ h H1 locs ls (show n0 ≤ M.2.2.2 + 1 by omega) (show M.2.2.2 + 1 ≤ n1 by omega) hP1 hS1 h5
  rw [zmap_ref g2] at hg
  have h8 := zss_mono h1
  exact W.cs (show M.2.2.2 - n0 + 1 = (znew M).2.2.2 - n0 by show _ = M.2.2.2 + 1 - n0; omega) (show zss M.2.2.2 - zss n0 + N = zss (znew M).2.2.2 - zss n0 by show _ = zss (M.2.2.2 + 1) - zss n0; omega) hg
theorem s_newa (F : zF p R s m args c cc nL own D X B aL d n0 n1) {pc : Nat} {ty : Nat} {atype : ArrayType} {a0 : FieldType} (hty : newarray.typeOf atype = a0) (hp : (ty = 0 ∧ a0 = .int) ∨ (ty = 1 ∧ a0 = .long) ∨ (ty = 2 ∧ a0 = .boolean)) (hl : Cond.arrayClass a0 ∈ zgood) (hd : decode cc pc = .ok (.newarray atype, 2)) : zS p l e R s m args below meth c Qf D X B aL b nL n0 n1 E Q pc (oNewA ty) (pc + 2) := by
  intro K st L M hK h
  intro H locs ls h1 h2 h3 h4 h5
  unfold oNewA at h
  split at h
  · rename_i x r
    obtain ⟨h0, h⟩ := zcond h
    simp only [Bool.and_eq_true] at h0
    obtain ⟨g1, g2⟩ := h0
    have g1 : M.2.2.2 < n1 := Nat.le_of_ble_eq_true g1
    have g2 : M.2.2.2 < 900 := Nat.le_of_ble_eq_true g2
    cases hs : zshp M.2.2.2 with
    | inl q => rw [hs] at h; exact h.elim
    | inr q =>
      rw [hs] at h
      dsimp only at h
      obtain ⟨q1, q2⟩ := q
      dsimp only at h
      obtain ⟨hb0, hh⟩ := zcond h
      clear h
      simp only [Bool.and_eq_true] at hb0
      obtain ⟨g3, g4⟩ := hb0
      have g3 := Nat.eq_of_beq_eq_true g3
      have g4 : q2 ≤ 1000 := Nat.le_of_ble_eq_true g4
      subst g3
      obtain ⟨rfl, hkk⟩ := hh
      have hzz : zss (M.2.2.2 + 1) = zss M.2.2.2 + q2 := by rw [zss, zsz, hs]
      refine zsized F.2.2.2.2.2.2.1 h1 h3 h4 (fun hsz => ?_)
      have hft := zfits F h1 (Nat.le_succ M.2.2.2) g1
      rw [hzz] at hft
      have hneg : ¬ Int32.ofNat q2 < 0 := nI_pos (n := q2) (by omega)
      have hcl : (Int32.ofNat q2).toNatClampNeg = q2 := nI_clamp (n := q2) (by omega)
      have hby : q2 * componentBytes (newarray.typeOf atype) ≤ 536870912 := by
        rw [hty]
        rcases hp with ⟨-, rfl⟩ | ⟨-, rfl⟩ | ⟨-, rfl⟩ <;> simp [componentBytes] <;> omega
      refine va_newaK F.1 F.2.1 (by rw [hty]; exact F.2.2.2.2.1 _ hl) rfl hd rfl hneg hcl hby (by omega) (by omega) hsz (fun H1 cA e1 z1 o1 hAr hNm => ?_)
      have hk : ∀ (k : Nat) (x : Nat × va_E), (zw X B M)[k]? = some x → H1[x.1]? = H[x.1]? := fun k x hx => o1 x.1 (by have := (h3 k x hx).lt; omega)
      have hce : va_P D vwCl [(B + M.2.2.2, zcell X B (znew M) M.2.2.2)] H1 := by
        intro k x hx
        have hz : k < 1 := (List.getElem?_eq_some_iff.mp hx).1
        rw [show k = 0 by omega] at hx
        cases hx
        rw [hty] at e1 hNm
        have hKt := F.2.2.2.2.2.1.1.2
        rcases hp with ⟨hq, rfl⟩ | ⟨hq, rfl⟩ | ⟨hq, rfl⟩
        · have hX := (hKt 0 _ rfl).2
          have hX : s.vm.findClass ("[" ++ FieldType.int.toString) = some X.1 := hX
          have hcA : cA = X.1 := Option.some.inj (hNm.symm.trans hX)
          subst hcA
          rw [zcell_i (by rw [hs, hq])]
          show H1[B + M.2.2.2]? = some (vp_cell _ _)
          rw [e1, vp_cell_i]
          simp [znew, va_up, defaultValue]
        · have hX := (hKt 1 _ rfl).2
          have hX : s.vm.findClass ("[" ++ FieldType.long.toString) = some X.2.1 := hX
          have hcA : cA = X.2.1 := Option.some.inj (hNm.symm.trans hX)
          subst hcA
          rw [zcell_j (by rw [hs, hq])]
          show H1[B + M.2.2.2]? = some (vp_cell _ _)
          rw [e1, vp_cell_l]
          simp [znew, va_up, defaultValue]
        · have hX := (hKt 2 _ rfl).2
          have hX : s.vm.findClass ("[" ++ FieldType.boolean.toString) = some X.2.2 := hX
          have hcA : cA = X.2.2 := Option.some.inj (hNm.symm.trans hX)
          subst hcA
          rw [zcell_z (by rw [hs, hq])]
          show H1[B + M.2.2.2]? = some (vp_cell _ _)
          rw [e1, vp_cell_i]
          simp [znew, va_up, defaultValue]
      have hP1 : va_P D vwCl (zw X B (znew M)) H1 := by
        rw [← zw_push (M := M) (M' := znew M) rfl (fun j hj => znew_cell hj) rfl]
        exact (h3.kept hk).app hce
      have hS1 : va_S (fun q => B ≤ q) s.heap H1 locs := ⟨Nat.le_trans h4.1 (by omega), fun x q1 q2 => (o1 x (by have := h4.1; omega)).trans (h4.2.1 x q1 q2), h4.2.2⟩
      have hg := hK _ _ _ hkk H1 locs ls (show n0 ≤ M.2.2.2 + 1 by omega) (show M.2.2.2 + 1 ≤ n1 by omega) hP1 hS1 h5
      rw [zmap_ref g2] at hg
      have h8 := zss_mono h1
      exact W.cs (show M.2.2.2 - n0 + 1 = (znew M).2.2.2 - n0 by show _ = M.2.2.2 + 1 - n0; omega) (show zss M.2.2.2 - zss n0 + q2 = zss (znew M).2.2.2 - zss n0 by show _ = zss (M.2.2.2 + 1) - zss n0; omega) hg
  · exact h.elim
theorem s_obj (F : zF p R s m args c cc nL own D X B aL d n0 n1) {pc : Nat} {idx : Nat} (hl : Cond.methodLink own idx Lib.objectInit ∈ zgood) (hi : Cond.instanceMethod Lib.objectInit ∈ zgood) (hco : Cond.code Lib.objectInit ⟨#[0xb1]⟩ 1 none ∈ zgood) (hd : decode cc pc = .ok (.invokespecial idx, 3)) : zS p l e R s m args below meth c Qf D X B aL b nL n0 n1 E Q pc (oObj) (pc + 3) := by
  intro K st L M hK h
  intro H locs ls h1 h2 h3 h4 h5
  unfold oObj at h
  split at h
  · obtain ⟨h0, h⟩ := zcond h
    have h0 := Nat.le_of_ble_eq_true h0
    have hR := F.2.2.2.2.2.2.2.1
    refine W.objInit F.1 F.2.1 F.2.2.2.1 (F.2.2.2.2.1 _ hl) (F.2.2.2.2.1 _ hi) (F.2.2.2.2.1 _ hco) rfl (by rw [F.2.2.1]; exact h5.2.1) rfl hd (by omega) (by show 2 * 0 + _ + 12 ≤ _; rw [zcat_map]; omega) ?_
    exact hK _ _ _ h H locs ls h1 h2 h3 h4 h5
  · exact h.elim
theorem s_v (F : zF p R s m args c cc nL own D X B aL d n0 n1) {pc : Nat} {na y ci idx : Nat} {T : u_T} {N : Nat} (hk : zMK y na) (hi : Cond.instanceMethod (zmn y) ∈ zgood) (hs : Cond.selects (zmn y).cls (zmn y) (zmn y) ∈ zgood) (hl : Cond.methodLink own idx (zmn y) ∈ zgood) (hc : vwCl[ci]? = some ((zmn y).cls, T, N)) (hd : decode cc pc = .ok (.invokevirtual idx, 3)) : zS p l e R s m args below meth c Qf D X B aL b nL n0 n1 (zEc l D X B aL b d) Q pc (oV na y ci) (pc + 3) := by
  intro K st L M hK h
  intro H locs ls h1 h2 h3 h4 h5
  unfold oV at h
  split at h
  · rename_i k r hdr
    obtain ⟨h0, h⟩ := zcond h
    simp only [Bool.and_eq_true] at h0
    obtain ⟨g1, g2, g3⟩ := h0
    have g2 : zcat r ≤ 8 := Nat.le_of_ble_eq_true g2
    have g3 := Nat.eq_of_beq_eq_true g3
    obtain ⟨hkn, hsh⟩ := zokO_ok g1
    obtain ⟨hn, hM⟩ := h
    have he := zw_get (X := X) (B := B) hkn
    rw [zcell_o hsh] at he
    refine zsized F.2.2.2.2.2.2.1 h1 h3 h4 (fun hsz => ?_)
    have hst : st.map (zdn B aL b) = (((st.take na).reverse).map (zdn B aL b)).reverse ++ .ref (B + k) :: r.map (zdn B aL b) := by
      conv => lhs; rw [← List.take_append_drop na st]
      rw [hdr, List.map_append, zmap_ref (z9 F hkn h2), List.map_reverse, List.reverse_reverse]
    rw [hst]
    refine z_call (va_runV (As := ((st.take na).reverse).map (zdn B aL b)) (rest := r.map (zdn B aL b)) ⟨F.1, F.2.1, F.2.2.1, F.2.2.2.1, F.2.2.2.2.1⟩ hM (cwV na F.2.2.2.2.1 (zgi_app (zgi_cons hl (zgi_cons hi (zgi_cons hs (zgi_cons hk.2.1 zgi_nil)))) (zws_good hk.1)) rfl rfl rfl ⟨rfl, hk.2.2.1⟩ (zlocs F hk.2.2.2 _ _)) ⟨zblind, va_recv F.2.2.2.2.2.1.1 h3 hc he, fun U hU hW => zpre F h3 h4 hsz (by simp only [List.map_cons, zdn, zadr_lt (z9 F hkn h2)]) hU hW⟩ rfl (by simpa using g3) h5.2.1 rfl (lv_room (by rw [zcat_map]; exact g2)) hd (zfits F h1 hn h2)) h4 (fun v M' H1 locs1 g1 g2 g3 g4 g5 => ?_)
    have hq := zcells (M := M) (M' := M') h1 (by omega)
    rw [g3] at hq
    refine W.cs hq.1 hq.2 ?_
    rw [← g3, zback g1]
    exact hK _ _ _ g2 H1 locs1 ls (by omega) (by omega) g4 g5 h5
  · exact h.elim
theorem s_s (F : zF p R s m args c cc nL own D X B aL d n0 n1) {pc : Nat} {na y idx : Nat} (hk : zMK y na) (hs : Cond.static (zmn y) ∈ zgood) (hl : Cond.methodLink own idx (zmn y) ∈ zgood) (hd : decode cc pc = .ok (.invokestatic idx, 3)) : zS p l e R s m args below meth c Qf D X B aL b nL n0 n1 (zEc l D X B aL b d) Q pc (oS na y) (pc + 3) := by
  intro K st L M hK h
  intro H locs ls h1 h2 h3 h4 h5
  obtain ⟨h0, h⟩ := zcond h
  simp only [Bool.and_eq_true] at h0
  obtain ⟨g2, g3⟩ := h0
  have g2 : zcat (st.drop na) ≤ 8 := Nat.le_of_ble_eq_true g2
  have g3 := Nat.eq_of_beq_eq_true g3
  obtain ⟨hn, hM⟩ := h
  refine zsized F.2.2.2.2.2.2.1 h1 h3 h4 (fun hsz => ?_)
  have hst : st.map (zdn B aL b) = (((st.take na).reverse).map (zdn B aL b)).reverse ++ (st.drop na).map (zdn B aL b) := by
    conv => lhs; rw [← List.take_append_drop na st]
    rw [List.map_append, List.map_reverse, List.reverse_reverse]
  rw [hst]
  refine z_call (va_runS (As := ((st.take na).reverse).map (zdn B aL b)) (rest := (st.drop na).map (zdn B aL b)) ⟨F.1, F.2.1, F.2.2.1, F.2.2.2.1, F.2.2.2.2.1⟩ hM (va_cwS na F.2.2.2.2.1 (zgi_app (zgi_cons hl (zgi_cons hs (zgi_cons hk.2.1 zgi_nil))) (zws_good hk.1)) rfl rfl rfl hk.2.2.1 (zlocs F hk.2.2.2 _ _)) ⟨zblind, fun U hU hW => zpre F h3 h4 hsz rfl hU hW⟩ rfl (by simpa using g3) h5.2.1 rfl (lv_room (by rw [zcat_map]; exact g2)) hd (zfits F h1 hn h2)) h4 (fun v M' H1 locs1 g1 g2 g3 g4 g5 => ?_)
  have hq := zcells (M := M) (M' := M') h1 (by omega)
  rw [g3] at hq
  refine W.cs hq.1 hq.2 ?_
  rw [← g3, zback g1]
  exact hK _ _ _ g2 H1 locs1 ls (by omega) (by omega) g4 g5 h5
theorem s_sn (F : zF p R s m args c cc nL own D X B aL d n0 n1) {pc : Nat} {na y idx : Nat} (hk : zMK y na) (hs : Cond.static (zmn y) ∈ zgood) {host : String} (hl : Cond.methodLinkNest own idx (zmn y) host ∈ znest) (hd : decode cc pc = .ok (.invokestatic idx, 3)) : zS p l e R s m args below meth c Qf D X B aL b nL n0 n1 (zEc l D X B aL b d) Q pc (oS na y) (pc + 3) := by
  intro K st L M hK h
  intro H locs ls h1 h2 h3 h4 h5
  obtain ⟨h0, h⟩ := zcond h
  simp only [Bool.and_eq_true] at h0
  obtain ⟨g2, g3⟩ := h0
  have g2 : zcat (st.drop na) ≤ 8 := Nat.le_of_ble_eq_true g2
  have g3 := Nat.eq_of_beq_eq_true g3
  obtain ⟨hn, hM⟩ := h
  refine zsized F.2.2.2.2.2.2.1 h1 h3 h4 (fun hsz => ?_)
  have hst : st.map (zdn B aL b) = (((st.take na).reverse).map (zdn B aL b)).reverse ++ (st.drop na).map (zdn B aL b) := by
    conv => lhs; rw [← List.take_append_drop na st]
    rw [List.map_append, List.map_reverse, List.reverse_reverse]
  rw [hst]
  refine z_call (va_runSN (As := ((st.take na).reverse).map (zdn B aL b)) (rest := (st.drop na).map (zdn B aL b)) ⟨F.1, F.2.1, F.2.2.1, F.2.2.2.1, F.2.2.2.2.1⟩ hM ⟨va_cnB na F.2.2.2.2.1 (zws_good hk.1) rfl rfl rfl (F.2.2.2.2.2.1.2.2.2 _ hl) (F.2.2.2.2.1 _ hk.2.1) hk.2.2.1 (zlocs F hk.2.2.2 _ _), F.2.2.2.2.1 _ hs, trivial⟩ ⟨zblind, fun U hU hW => zpre F h3 h4 hsz rfl hU hW⟩ rfl (by simpa using g3) h5.2.1 rfl (lv_room (by rw [zcat_map]; exact g2)) hd (zfits F h1 hn h2)) h4 (fun v M' H1 locs1 g1 g2 g3 g4 g5 => ?_)
  have hq := zcells (M := M) (M' := M') h1 (by omega)
  rw [g3] at hq
  refine W.cs hq.1 hq.2 ?_
  rw [← g3, zback g1]
  exact hK _ _ _ g2 H1 locs1 ls (by omega) (by omega) g4 g5 h5
theorem s_ni (F : zF p R s m args c cc nL own D X B aL d n0 n1) {pc : Nat} {y idx n2 : Nat} (hk : zMK y 0) (hrt : zmr y = none) (hi : Cond.instanceMethod (zmn y) ∈ zgood) (hy1 : (zmn y).name = "<init>") (hl : Cond.methodLink own idx (zmn y) ∈ zgood) (hd : decode cc pc = .ok (.invokespecial idx, 3)) : zS p l e R s m args below meth c Qf D X B aL b nL n0 n1 (zEc l D X B aL b d) Q pc (oNi y n2) (pc + 3) := by
  intro K st L M hK h
  intro H locs ls h1 h2 h3 h4 h5
  unfold oNi at h
  split at h
  · rename_i k r
    obtain ⟨h0, h⟩ := zcond h
    simp only [Bool.and_eq_true] at h0
    obtain ⟨g1, g9, g2⟩ := h0
    have g1 : n2 ≤ n1 := Nat.le_of_ble_eq_true g1
    have g2 : zcat r ≤ 8 := Nat.le_of_ble_eq_true g2
    obtain ⟨hn, hM⟩ := h
    refine zsized F.2.2.2.2.2.2.1 h1 h3 h4 (fun hsz => ?_)
    refine z_call (va_runI (As := []) (b := zadr B aL b k) (rest := r.map (zdn B aL b)) ⟨F.1, F.2.1, F.2.2.1, F.2.2.2.1, F.2.2.2.2.1⟩ hM (cwI 0 F.2.2.2.2.1 (zws_good hk.1) (by rw [zws, hrt]) rfl rfl (F.2.2.2.2.1 _ hk.2.1) (F.2.2.2.2.1 _ hl) (F.2.2.2.2.1 _ hi) hy1 hk.2.2.1 (zlocs F hk.2.2.2 _ _)) ⟨zblind, fun U hU hW => zpre F h3 h4 hsz rfl hU hW⟩ rfl rfl h5.2.1 rfl (lv_room (by rw [zcat_map]; exact g2)) hd (zfits F h1 hn g1)) h4 (fun v M' H1 locs1 g1 g2 g3 g4 g5 => ?_)
    have hq := zcells (M := M) (M' := M') h1 (by omega)
    rw [g3] at hq
    refine W.cs hq.1 hq.2 ?_
    rw [← g3, zback g1]
    exact hK _ _ _ g2 H1 locs1 ls (by omega) (by omega) g4 g5 h5
  · exact h.elim
theorem s_nin (F : zF p R s m args c cc nL own D X B aL d n0 n1) {pc : Nat} {y idx n2 : Nat} (hk : zMK y 0) (hrt : zmr y = none) (hi : Cond.instanceMethod (zmn y) ∈ zgood) (hy1 : (zmn y).name = "<init>") {host : String} (hl : Cond.methodLinkNest own idx (zmn y) host ∈ znest) (hd : decode cc pc = .ok (.invokespecial idx, 3)) : zS p l e R s m args below meth c Qf D X B aL b nL n0 n1 (zEc l D X B aL b d) Q pc (oNi y n2) (pc + 3) := by
  intro K st L M hK h
  intro H locs ls h1 h2 h3 h4 h5
  unfold oNi at h
  split at h
  · rename_i k r
    obtain ⟨h0, h⟩ := zcond h
    simp only [Bool.and_eq_true] at h0
    obtain ⟨g1, g9, g2⟩ := h0
    have g1 : n2 ≤ n1 := Nat.le_of_ble_eq_true g1
    have g2 : zcat r ≤ 8 := Nat.le_of_ble_eq_true g2
    obtain ⟨hn, hM⟩ := h
    refine zsized F.2.2.2.2.2.2.1 h1 h3 h4 (fun hsz => ?_)
    refine z_call (va_runIN (As := []) (b := zadr B aL b k) (rest := r.map (zdn B aL b)) ⟨F.1, F.2.1, F.2.2.1, F.2.2.2.1, F.2.2.2.2.1⟩ hM ⟨va_cnB 0 F.2.2.2.2.1 (zws_good hk.1) (by rw [zws, hrt]) rfl rfl (F.2.2.2.2.2.1.2.2.2 _ hl) (F.2.2.2.2.1 _ hk.2.1) hk.2.2.1 (zlocs F hk.2.2.2 _ _), hy1, F.2.2.2.2.1 _ hi⟩ ⟨zblind, fun U hU hW => zpre F h3 h4 hsz rfl hU hW⟩ rfl rfl h5.2.1 rfl (lv_room (by rw [zcat_map]; exact g2)) hd (zfits F h1 hn g1)) h4 (fun v M' H1 locs1 g1 g2 g3 g4 g5 => ?_)
    have hq := zcells (M := M) (M' := M') h1 (by omega)
    rw [g3] at hq
    refine W.cs hq.1 hq.2 ?_
    rw [← g3, zback g1]
    exact hK _ _ _ g2 H1 locs1 ls (by omega) (by omega) g4 g5 h5
  · exact h.elim
end ZW2
