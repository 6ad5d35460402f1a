/-! what holds in every method: the tables, the class's own table, the nest's words -/
def znest : List Cond := lw_tbl.filter (fun w => match w with
  | .methodLinkNest .. => true
  | _ => false)
def zG (D : va_G) (X : ClassId × ClassId × ClassId) (B aL : Nat) (U : State) : Prop :=
  va_K D vwCl [(X.1, .int), (X.2.1, .long), (X.2.2, .boolean)] U ∧ va_Z "BilletBars" "LAW_LIMITS" "[I" (.ref aL) (fun q => B ≤ q) U U.heap ∧ va_T .int aL 6 (fun j => .int (zlim j)) (fun q => B ≤ q) U U.heap ∧ ∀ w ∈ znest, va_Nw w U
theorem zG.moved {D : va_G} {X : ClassId × ClassId × ClassId} {B aL : Nat} {s U : State} (h : zG D X B aL s) (hW : s.WarmedH U.vm) (hq : ∀ q : Nat, q < s.heap.size → ¬ B ≤ q → U.heap[q]? = s.heap[q]?) : zG D X B aL U := by
  obtain ⟨h1, h2, h3, h4⟩ := h
  refine ⟨h1.moved hW.alike, (h2.moved hW.alike).kept hq, (h3.moved hW.alike).kept hq, fun w hw => ?_⟩
  have h5 := h4 w hw
  have h6 := (List.mem_filter.mp hw).2
  cases w with
  | methodLinkNest a i x hh => exact va_Nw.warmM hW h5
  | _ => simp at h6
theorem zG.blind {D : va_G} {X : ClassId × ClassId × ClassId} {B aL : Nat} {U : State} {g : JFrame} {mk : MethodId} {a : Array Value} (h : zG D X B aL U) : zG D X B aL (U.calling g mk a) := by
  obtain ⟨h1, h2, h3, h4⟩ := h
  refine ⟨va_K.moved (u := U) (U := U.calling g mk a) (Vm.Alike.refl U.vm) h1, va_Z.moved (u := U) (U := U.calling g mk a) (Vm.Alike.refl U.vm) h2, va_T.moved (u := U) (U := U.calling g mk a) (Vm.Alike.refl U.vm) h3, fun w hw => ?_⟩
  have h5 := h4 w hw
  have h6 := (List.mem_filter.mp hw).2
  cases w with
  | methodLinkNest a i x hh => exact va_Nw.same rfl (u := U) (U := U.calling g mk _) rfl h5
  | _ => simp at h6
def zplain (v : Option Value) : Prop := v = none ∨ (∃ x, v = some (.int x)) ∨ ∃ x, v = some (.long x)
def zPc (D : va_G) (X : ClassId × ClassId × ClassId) (B aL b : Nat) (a : List Value) (M : zM) : Array Value → State → Prop := va_Pc (a.map (zdn B aL b)) (fun U => zG D X B aL U ∧ U.heap.size = B + M.2.2.2 ∧ va_P D vwCl (zw X B M) U.heap)
def zQc (D : va_G) (X : ClassId × ClassId × ClassId) (B n1 : Nat) (Q : Option Value → zM → Prop) : Array Value → State → Outcome → State → Prop := fun _ st oc t =>
  (∃ (v : Option Value) (M' : zM), oc = .returned v ∧ zplain v ∧ Q v M' ∧ M'.2.2.2 = n1 ∧ va_P D vwCl (zw X B M') t.heap) ∧ va_F (fun q => B ≤ q) st t
def zrm (d mc ms : Nat) : Room := { frames := d, cells := mc, slots := ms, locals := 60 * d }
section ZW
variable {p : Program} {l : Launch} {e : Env} {R : Room} {s : State} {m : MethodId} {args : Array Value} {below : List Frame} {meth : Method} {c : Code} {Qf : State → Prop} {D : va_G} {X : ClassId × ClassId × ClassId} {B aL b : Nat} {cc : ByteArray} {nL n0 n1 d : Nat} {own : String} {E : zE} {Q : Option Value → zM → Prop}
/-- the machine stands at pc with this stack, these locals, this memory: and comes to its end -/
def zAt (p : Program) (l : Launch) (e : Env) (R : Room) (s : State) (m : MethodId) (args : Array Value) (below : List Frame) (meth : Method) (c : Code) (Qf : State → Prop) (D : va_G) (X : ClassId × ClassId × ClassId) (B aL b nL n0 n1 : Nat) (pc : Nat) : zC := fun st L M =>
  ∀ (H : Heap) (locs : List Loc) (ls : Array Slot), n0 ≤ M.2.2.2 → M.2.2.2 ≤ n1 → va_P D vwCl (zw X B M) H → va_S (fun q => B ≤ q) s.heap H locs → zLH B aL b nL L ls →
    W p l e R s m args below meth c H locs (M.2.2.2 - n0) (zss M.2.2.2 - zss n0) Qf (F0 m pc ls (st.map (zdn B aL b)))
/-- what holds in a method's run -/
def zF (p : Program) (R : Room) (s : State) (m : MethodId) (args : Array Value) (c : Code) (cc : ByteArray) (nL : Nat) (own : String) (D : va_G) (X : ClassId × ClassId × ClassId) (B aL d n0 n1 : Nat) : Prop :=
  p.tables.exec = Jvm.exec ∧ c.code = cc ∧ c.maxLocals = nL ∧ s.vm.findClass own = some m.cls ∧ (∀ w ∈ zgood, w.before args s = true) ∧ zG D X B aL s ∧ s.heap.size = B + n0 ∧ (d + 1 ≤ R.frames ∧ 60 * (d + 1) ≤ R.locals) ∧ n1 - n0 ≤ R.cells ∧ zss n1 - zss n0 ≤ R.slots ∧ n1 ≤ 900
def zS (p : Program) (l : Launch) (e : Env) (R : Room) (s : State) (m : MethodId) (args : Array Value) (below : List Frame) (meth : Method) (c : Code) (Qf : State → Prop) (D : va_G) (X : ClassId × ClassId × ClassId) (B aL b nL n0 n1 : Nat) (E : zE) (Q : Option Value → zM → Prop) (pc : Nat) (o : zO) (pc' : Nat) : Prop :=
  ∀ (K : zC) (st : List Value) (L : zL) (M : zM), (∀ st L M, K st L M → zAt p l e R s m args below meth c Qf D X B aL b nL n0 n1 pc' st L M) → o n1 E Q (zAt p l e R s m args below meth c Qf D X B aL b nL n0 n1) K st L M → zAt p l e R s m args below meth c Qf D X B aL b nL n0 n1 pc st L M
def zSL (p : Program) (l : Launch) (e : Env) (R : Room) (s : State) (m : MethodId) (args : Array Value) (below : List Frame) (meth : Method) (c : Code) (Qf : State → Prop) (D : va_G) (X : ClassId × ClassId × ClassId) (B aL b nL n0 n1 : Nat) (E : zE) (Q : Option Value → zM → Prop) : Nat → zB → Prop
  | _, [] => True
  | pc, (o, pc') :: r => zS p l e R s m args below meth c Qf D X B aL b nL n0 n1 E Q pc o pc' ∧ zSL p l e R s m args below meth c Qf D X B aL b nL n0 n1 E Q pc' r
theorem zSL_ok : ∀ (bl : zB) (pc : Nat), zSL p l e R s m args below meth c Qf D X B aL b nL n0 n1 E Q pc bl → ∀ st L M, zX n1 E Q (zAt p l e R s m args below meth c Qf D X B aL b nL n0 n1) bl st L M → zAt p l e R s m args below meth c Qf D X B aL b nL n0 n1 pc st L M
  | [], _, _ => fun _ _ _ h => h.elim
  | (o, pc') :: r, pc, h => fun st L M hx => h.1 _ st L M (fun st L M hk => zSL_ok r pc' h.2 st L M hk) hx
theorem zsized {M : zM} {H : Heap} {locs : List Loc} {sl : Nat} {g : JFrame} (hs : s.heap.size = B + n0) (hn : n0 ≤ M.2.2.2) (hP : va_P D vwCl (zw X B M) H) (hS : va_S (fun q => B ≤ q) s.heap H locs) (k : H.size = B + M.2.2.2 → W p l e R s m args below meth c H locs (M.2.2.2 - n0) sl Qf g) : W p l e R s m args below meth c H locs (M.2.2.2 - n0) sl Qf g := by
  intro T hT Y
  refine k ?_ T hT Y
  have h1 : T.heap.size ≤ s.heap.size + (M.2.2.2 - n0) := Y.same.2.2.1
  rw [hT, hs] at h1
  have h2 := hS.1
  have h3 : B + M.2.2.2 ≤ H.size := by
    cases hm : M.2.2.2 with
    | zero => omega
    | succ j =>
      have h4 : B + j < H.size := (hP j _ (zw_get (X := X) (B := B) (M := M) (k := j) (by omega))).lt
      omega
  omega
theorem s_iconst (F : zF p R s m args c cc nL own D X B aL d n0 n1) {pc : Nat} {n : Int} {v : Int32} (hd : decode cc pc = .ok (.iconst n, 1)) (hv : Int32.ofInt n = v) : zS p l e R s m args below meth c Qf D X B aL b nL n0 n1 E Q pc (oI v) (pc + 1) := by
  intro K st L M hK h
  intro H locs ls h1 h2 h3 h4 h5
  exact lv_iconst F.1 F.2.1 hd hv (hK _ _ _ h H locs ls h1 h2 h3 h4 h5)
theorem s_bipush (F : zF p R s m args c cc nL own D X B aL d n0 n1) {pc : Nat} {n : Int} {v : Int32} (hd : decode cc pc = .ok (.bipush n, 2)) (hv : (Int8.ofInt n).toInt32 = v) : zS p l e R s m args below meth c Qf D X B aL b nL n0 n1 E Q pc (oI v) (pc + 2) := by
  intro K st L M hK h
  intro H locs ls h1 h2 h3 h4 h5
  exact lv_bipush F.1 F.2.1 hd hv (hK _ _ _ h H locs ls h1 h2 h3 h4 h5)
theorem s_sipush (F : zF p R s m args c cc nL own D X B aL d n0 n1) {pc : Nat} {n : Int} {v : Int32} (hd : decode cc pc = .ok (.sipush n, 3)) (hv : (Int16.ofInt n).toInt32 = v) : zS p l e R s m args below meth c Qf D X B aL b nL n0 n1 E Q pc (oI v) (pc + 3) := by
  intro K st L M hK h
  intro H locs ls h1 h2 h3 h4 h5
  exact lv_sipush F.1 F.2.1 hd hv (hK _ _ _ h H locs ls h1 h2 h3 h4 h5)
theorem s_lconst (F : zF p R s m args c cc nL own D X B aL d n0 n1) {pc : Nat} {n : Fin 2} {v : Int64} (hd : decode cc pc = .ok (.lconst n, 1)) (hv : Int64.ofNat (n : Nat) = v) : zS p l e R s m args below meth c Qf D X B aL b nL n0 n1 E Q pc (oJ v) (pc + 1) := by
  intro K st L M hK h
  intro H locs ls h1 h2 h3 h4 h5
  exact lv_lconst F.1 F.2.1 hd hv (hK _ _ _ h H locs ls h1 h2 h3 h4 h5)
theorem s_ldc (F : zF p R s m args c cc nL own D X B aL d n0 n1) {pc : Nat} {idx : Nat} {v : Int32} (hw : Cond.constant own idx v ∈ zgood) (hd : decode cc pc = .ok (.ldc idx, 2)) : zS p l e R s m args below meth c Qf D X B aL b nL n0 n1 E Q pc (oI v) (pc + 2) := by
  intro K st L M hK h
  intro H locs ls h1 h2 h3 h4 h5
  exact lv_ldc F.1 F.2.1 F.2.2.2.1 (F.2.2.2.2.1 _ hw) hd (hK _ _ _ h H locs ls h1 h2 h3 h4 h5)
theorem s_ldcw (F : zF p R s m args c cc nL own D X B aL d n0 n1) {pc : Nat} {idx : Nat} {v : Int32} (hw : Cond.constant own idx v ∈ zgood) (hd : decode cc pc = .ok (.ldc_w idx, 3)) : zS p l e R s m args below meth c Qf D X B aL b nL n0 n1 E Q pc (oI v) (pc + 3) := by
  intro K st L M hK h
  intro H locs ls h1 h2 h3 h4 h5
  exact lv_ldcw F.1 F.2.1 F.2.2.2.1 (F.2.2.2.2.1 _ hw) hd (hK _ _ _ h H locs ls h1 h2 h3 h4 h5)
theorem s_ldc2 (F : zF p R s m args c cc nL own D X B aL d n0 n1) {pc : Nat} {idx : Nat} {v : Int64} (hw : Cond.constantLong own idx v ∈ zgood) (hd : decode cc pc = .ok (.ldc2_w idx, 3)) : zS p l e R s m args below meth c Qf D X B aL b nL n0 n1 E Q pc (oJ v) (pc + 3) := by
  intro K st L M hK h
  intro H locs ls h1 h2 h3 h4 h5
  exact lv_ldc2 F.1 F.2.1 F.2.2.2.1 (F.2.2.2.2.1 _ hw) hd (hK _ _ _ h H locs ls h1 h2 h3 h4 h5)
theorem s_iload_n (F : zF p R s m args c cc nL own D X B aL d n0 n1) {pc : Nat} {k : Fin 4} {i : Nat} (hd : decode cc pc = .ok (.iload_n k, 1)) (hi : (k : Nat) = i) : zS p l e R s m args below meth c Qf D X B aL b nL n0 n1 E Q pc (oIl i) (pc + 1) := by
  intro K st L M hK h
  intro H locs ls h1 h2 h3 h4 h5
  unfold oIl at h
  split at h
  · rename_i x hq
    exact lv_iload_n F.1 F.2.1 hd hi (zLH.get h5 hq) (hK _ _ _ h H locs ls h1 h2 h3 h4 h5)
  · exact h.elim
theorem s_iload (F : zF p R s m args c cc nL own D X B aL d n0 n1) {pc : Nat} {i : Nat} (hd : decode cc pc = .ok (.iload i, 2)) : zS p l e R s m args below meth c Qf D X B aL b nL n0 n1 E Q pc (oIl i) (pc + 2) := by
  intro K st L M hK h
  intro H locs ls h1 h2 h3 h4 h5
  unfold oIl at h
  split at h
  · rename_i x hq
    exact lv_iload F.1 F.2.1 hd (zLH.get h5 hq) (hK _ _ _ h H locs ls h1 h2 h3 h4 h5)
  · exact h.elim
theorem s_lload_n (F : zF p R s m args c cc nL own D X B aL d n0 n1) {pc : Nat} {k : Fin 4} {i : Nat} (hd : decode cc pc = .ok (.lload_n k, 1)) (hi : (k : Nat) = i) : zS p l e R s m args below meth c Qf D X B aL b nL n0 n1 E Q pc (oJl i) (pc + 1) := by
  intro K st L M hK h
  intro H locs ls h1 h2 h3 h4 h5
  unfold oJl at h
  split at h
  · rename_i x hq
    exact lv_lload_n F.1 F.2.1 hd hi (zLH.get h5 hq) (hK _ _ _ h H locs ls h1 h2 h3 h4 h5)
  · exact h.elim
theorem s_lload (F : zF p R s m args c cc nL own D X B aL d n0 n1) {pc : Nat} {i : Nat} (hd : decode cc pc = .ok (.lload i, 2)) : zS p l e R s m args below meth c Qf D X B aL b nL n0 n1 E Q pc (oJl i) (pc + 2) := by
  intro K st L M hK h
  intro H locs ls h1 h2 h3 h4 h5
  unfold oJl at h
  split at h
  · rename_i x hq
    exact lv_lload F.1 F.2.1 hd (zLH.get h5 hq) (hK _ _ _ h H locs ls h1 h2 h3 h4 h5)
  · exact h.elim
theorem s_aload_n (F : zF p R s m args c cc nL own D X B aL d n0 n1) {pc : Nat} {k : Fin 4} {i : Nat} (hd : decode cc pc = .ok (.aload_n k, 1)) (hi : (k : Nat) = i) : zS p l e R s m args below meth c Qf D X B aL b nL n0 n1 E Q pc (oAl i) (pc + 1) := by
  intro K st L M hK h
  intro H locs ls h1 h2 h3 h4 h5
  unfold oAl at h
  split at h
  · rename_i x hq
    exact lv_aload_n F.1 F.2.1 hd hi (zLH.get h5 hq) (hK _ _ _ h H locs ls h1 h2 h3 h4 h5)
  · exact h.elim
theorem s_aload (F : zF p R s m args c cc nL own D X B aL d n0 n1) {pc : Nat} {i : Nat} (hd : decode cc pc = .ok (.aload i, 2)) : zS p l e R s m args below meth c Qf D X B aL b nL n0 n1 E Q pc (oAl i) (pc + 2) := by
  intro K st L M hK h
  intro H locs ls h1 h2 h3 h4 h5
  unfold oAl at h
  split at h
  · rename_i x hq
    exact lv_aload F.1 F.2.1 hd (zLH.get h5 hq) (hK _ _ _ h H locs ls h1 h2 h3 h4 h5)
  · exact h.elim
theorem s_istore_n (F : zF p R s m args c cc nL own D X B aL d n0 n1) {pc : Nat} {k : Fin 4} {i : Nat} (hd : decode cc pc = .ok (.istore_n k, 1)) (hi : (k : Nat) = i) : zS p l e R s m args below meth c Qf D X B aL b nL n0 n1 E Q pc (oIs i) (pc + 1) := by
  intro K st L M hK h
  intro H locs ls h1 h2 h3 h4 h5
  unfold oIs at h
  split at h
  · obtain ⟨h0, h⟩ := zcond h
    exact lv_istore_n F.1 F.2.1 hd hi h5.2 (by have := Nat.le_of_ble_eq_true h0; have := h5.1; omega) rfl (fun ls1 hl => hK _ _ _ h H locs ls1 h1 h2 h3 h4 (h5.put1 (v := .int _) hl))
  · exact h.elim
theorem s_istore (F : zF p R s m args c cc nL own D X B aL d n0 n1) {pc : Nat} {i : Nat} (hd : decode cc pc = .ok (.istore i, 2)) : zS p l e R s m args below meth c Qf D X B aL b nL n0 n1 E Q pc (oIs i) (pc + 2) := by
  intro K st L M hK h
  intro H locs ls h1 h2 h3 h4 h5
  unfold oIs at h
  split at h
  · obtain ⟨h0, h⟩ := zcond h
    exact lv_istore F.1 F.2.1 hd h5.2 (by have := Nat.le_of_ble_eq_true h0; have := h5.1; omega) rfl (fun ls1 hl => hK _ _ _ h H locs ls1 h1 h2 h3 h4 (h5.put1 (v := .int _) hl))
  · exact h.elim
theorem s_astore_n (F : zF p R s m args c cc nL own D X B aL d n0 n1) {pc : Nat} {k : Fin 4} {i : Nat} (hd : decode cc pc = .ok (.astore_n k, 1)) (hi : (k : Nat) = i) : zS p l e R s m args below meth c Qf D X B aL b nL n0 n1 E Q pc (oAs i) (pc + 1) := by
  intro K st L M hK h
  intro H locs ls h1 h2 h3 h4 h5
  unfold oAs at h
  split at h
  · obtain ⟨h0, h⟩ := zcond h
    exact lv_astore_n F.1 F.2.1 hd hi h5.2 (by have := Nat.le_of_ble_eq_true h0; have := h5.1; omega) rfl (fun ls1 hl => hK _ _ _ h H locs ls1 h1 h2 h3 h4 (h5.put1 (v := .ref _) hl))
  · exact h.elim
theorem s_astore (F : zF p R s m args c cc nL own D X B aL d n0 n1) {pc : Nat} {i : Nat} (hd : decode cc pc = .ok (.astore i, 2)) : zS p l e R s m args below meth c Qf D X B aL b nL n0 n1 E Q pc (oAs i) (pc + 2) := by
  intro K st L M hK h
  intro H locs ls h1 h2 h3 h4 h5
  unfold oAs at h
  split at h
  · obtain ⟨h0, h⟩ := zcond h
    exact lv_astore F.1 F.2.1 hd h5.2 (by have := Nat.le_of_ble_eq_true h0; have := h5.1; omega) rfl (fun ls1 hl => hK _ _ _ h H locs ls1 h1 h2 h3 h4 (h5.put1 (v := .ref _) hl))
  · exact h.elim
theorem s_lstore_n (F : zF p R s m args c cc nL own D X B aL d n0 n1) {pc : Nat} {k : Fin 4} {i : Nat} (hd : decode cc pc = .ok (.lstore_n k, 1)) (hi : (k : Nat) = i) : zS p l e R s m args below meth c Qf D X B aL b nL n0 n1 E Q pc (oJs i) (pc + 1) := by
  intro K st L M hK h
  intro H locs ls h1 h2 h3 h4 h5
  unfold oJs at h
  split at h
  · obtain ⟨h0, h⟩ := zcond h
    exact lv_lstore_n F.1 F.2.1 hd hi h5.2 (by have := Nat.le_of_ble_eq_true h0; have := h5.1; omega) rfl (fun ls1 hl => hK _ _ _ h H locs ls1 h1 h2 h3 h4 (h5.put2 (v := .long _) hl))
  · exact h.elim
theorem s_lstore (F : zF p R s m args c cc nL own D X B aL d n0 n1) {pc : Nat} {i : Nat} (hd : decode cc pc = .ok (.lstore i, 2)) : zS p l e R s m args below meth c Qf D X B aL b nL n0 n1 E Q pc (oJs i) (pc + 2) := by
  intro K st L M hK h
  intro H locs ls h1 h2 h3 h4 h5
  unfold oJs at h
  split at h
  · obtain ⟨h0, h⟩ := zcond h
    exact lv_lstore F.1 F.2.1 hd h5.2 (by have := Nat.le_of_ble_eq_true h0; have := h5.1; omega) rfl (fun ls1 hl => hK _ _ _ h H locs ls1 h1 h2 h3 h4 (h5.put2 (v := .long _) hl))
  · exact h.elim
theorem s_iinc (F : zF p R s m args c cc nL own D X B aL d n0 n1) {pc : Nat} {i : Nat} {n : Int} {v : Int32} (hd : decode cc pc = .ok (.iinc i n, 3)) (hv : Int32.ofInt n = v) : zS p l e R s m args below meth c Qf D X B aL b nL n0 n1 E Q pc (oInc i v) (pc + 3) := by
  intro K st L M hK h
  intro H locs ls h1 h2 h3 h4 h5
  unfold oInc at h
  split at h
  · rename_i x hq
    have hm : (i, Value.int x) ∈ zlo (zdn B aL b) 0 L := (zlo_mem L 0 _).mpr ⟨i, .int x, hq, by simp [zdn]⟩
    obtain ⟨k, hk⟩ := List.getElem?_of_mem hm
    have hil := (List.getElem?_eq_some_iff.mp hq).1
    exact lv_iinc F.1 F.2.1 hd h5.2 hk (by rw [hv]) (by have := h5.1; omega) rfl (fun ls1 hl => hK _ _ _ h H locs ls1 h1 h2 h3 h4 (h5.put1 (v := .int _) hl))
  · exact h.elim
theorem s_iadd (F : zF p R s m args c cc nL own D X B aL d n0 n1) {pc : Nat} (hd : decode cc pc = .ok (.iadd, 1)) : zS p l e R s m args below meth c Qf D X B aL b nL n0 n1 E Q pc (oAdd) (pc + 1) := by
  intro K st L M hK h
  intro H locs ls h1 h2 h3 h4 h5
  unfold oAdd at h
  split at h
  · exact lv_iadd F.1 F.2.1 hd (hK _ _ _ h H locs ls h1 h2 h3 h4 h5)
  · exact h.elim
theorem s_isub (F : zF p R s m args c cc nL own D X B aL d n0 n1) {pc : Nat} (hd : decode cc pc = .ok (.isub, 1)) : zS p l e R s m args below meth c Qf D X B aL b nL n0 n1 E Q pc (oSub) (pc + 1) := by
  intro K st L M hK h
  intro H locs ls h1 h2 h3 h4 h5
  unfold oSub at h
  split at h
  · exact lv_isub F.1 F.2.1 hd (hK _ _ _ h H locs ls h1 h2 h3 h4 h5)
  · exact h.elim
theorem s_imul (F : zF p R s m args c cc nL own D X B aL d n0 n1) {pc : Nat} (hd : decode cc pc = .ok (.imul, 1)) : zS p l e R s m args below meth c Qf D X B aL b nL n0 n1 E Q pc (oMul) (pc + 1) := by
  intro K st L M hK h
  intro H locs ls h1 h2 h3 h4 h5
  unfold oMul at h
  split at h
  · exact lv_imul F.1 F.2.1 hd (hK _ _ _ h H locs ls h1 h2 h3 h4 h5)
  · exact h.elim
theorem s_iand (F : zF p R s m args c cc nL own D X B aL d n0 n1) {pc : Nat} (hd : decode cc pc = .ok (.iand, 1)) : zS p l e R s m args below meth c Qf D X B aL b nL n0 n1 E Q pc (oAnd) (pc + 1) := by
  intro K st L M hK h
  intro H locs ls h1 h2 h3 h4 h5
  unfold oAnd at h
  split at h
  · exact lv_iand F.1 F.2.1 hd (hK _ _ _ h H locs ls h1 h2 h3 h4 h5)
  · exact h.elim
theorem s_ixor (F : zF p R s m args c cc nL own D X B aL d n0 n1) {pc : Nat} (hd : decode cc pc = .ok (.ixor, 1)) : zS p l e R s m args below meth c Qf D X B aL b nL n0 n1 E Q pc (oXor) (pc + 1) := by
  intro K st L M hK h
  intro H locs ls h1 h2 h3 h4 h5
  unfold oXor at h
  split at h
  · exact lv_ixor F.1 F.2.1 hd (hK _ _ _ h H locs ls h1 h2 h3 h4 h5)
  · exact h.elim
theorem s_ladd (F : zF p R s m args c cc nL own D X B aL d n0 n1) {pc : Nat} (hd : decode cc pc = .ok (.ladd, 1)) : zS p l e R s m args below meth c Qf D X B aL b nL n0 n1 E Q pc (oJadd) (pc + 1) := by
  intro K st L M hK h
  intro H locs ls h1 h2 h3 h4 h5
  unfold oJadd at h
  split at h
  · exact lv_ladd F.1 F.2.1 hd (hK _ _ _ h H locs ls h1 h2 h3 h4 h5)
  · exact h.elim
theorem s_lmul (F : zF p R s m args c cc nL own D X B aL d n0 n1) {pc : Nat} (hd : decode cc pc = .ok (.lmul, 1)) : zS p l e R s m args below meth c Qf D X B aL b nL n0 n1 E Q pc (oJmul) (pc + 1) := by
  intro K st L M hK h
  intro H locs ls h1 h2 h3 h4 h5
  unfold oJmul at h
  split at h
  · exact lv_lmul F.1 F.2.1 hd (hK _ _ _ h H locs ls h1 h2 h3 h4 h5)
  · exact h.elim
theorem s_lcmp (F : zF p R s m args c cc nL own D X B aL d n0 n1) {pc : Nat} (hd : decode cc pc = .ok (.lcmp, 1)) : zS p l e R s m args below meth c Qf D X B aL b nL n0 n1 E Q pc (oJcmp) (pc + 1) := by
  intro K st L M hK h
  intro H locs ls h1 h2 h3 h4 h5
  unfold oJcmp at h
  split at h
  · exact W.lcmp F.1 F.2.1 hd (hK _ _ _ h H locs ls h1 h2 h3 h4 h5)
  · exact h.elim
theorem s_idiv (F : zF p R s m args c cc nL own D X B aL d n0 n1) {pc : Nat} (hd : decode cc pc = .ok (.idiv, 1)) : zS p l e R s m args below meth c Qf D X B aL b nL n0 n1 E Q pc (oDiv) (pc + 1) := by
  intro K st L M hK h
  intro H locs ls h1 h2 h3 h4 h5
  unfold oDiv at h
  split at h
  · obtain ⟨h0, h⟩ := h
    exact lv_idiv F.1 F.2.1 hd h0 (hK _ _ _ h H locs ls h1 h2 h3 h4 h5)
  · exact h.elim
theorem s_ldiv (F : zF p R s m args c cc nL own D X B aL d n0 n1) {pc : Nat} (hd : decode cc pc = .ok (.ldiv, 1)) : zS p l e R s m args below meth c Qf D X B aL b nL n0 n1 E Q pc (oJdiv) (pc + 1) := by
  intro K st L M hK h
  intro H locs ls h1 h2 h3 h4 h5
  unfold oJdiv at h
  split at h
  · obtain ⟨h0, h⟩ := h
    exact lv_ldiv F.1 F.2.1 hd h0 (hK _ _ _ h H locs ls h1 h2 h3 h4 h5)
  · exact h.elim
theorem s_i2l (F : zF p R s m args c cc nL own D X B aL d n0 n1) {pc : Nat} (hd : decode cc pc = .ok (.i2l, 1)) : zS p l e R s m args below meth c Qf D X B aL b nL n0 n1 E Q pc (oI2l) (pc + 1) := by
  intro K st L M hK h
  intro H locs ls h1 h2 h3 h4 h5
  unfold oI2l at h
  split at h
  · exact lv_i2l F.1 F.2.1 hd rfl (hK _ _ _ h H locs ls h1 h2 h3 h4 h5)
  · exact h.elim
theorem s_l2i (F : zF p R s m args c cc nL own D X B aL d n0 n1) {pc : Nat} (hd : decode cc pc = .ok (.l2i, 1)) : zS p l e R s m args below meth c Qf D X B aL b nL n0 n1 E Q pc (oL2i) (pc + 1) := by
  intro K st L M hK h
  intro H locs ls h1 h2 h3 h4 h5
  unfold oL2i at h
  split at h
  · exact lv_l2i F.1 F.2.1 hd rfl (hK _ _ _ h H locs ls h1 h2 h3 h4 h5)
  · exact h.elim
theorem s_i2b (F : zF p R s m args c cc nL own D X B aL d n0 n1) {pc : Nat} (hd : decode cc pc = .ok (.i2b, 1)) : zS p l e R s m args below meth c Qf D X B aL b nL n0 n1 E Q pc (oI2b) (pc + 1) := by
  intro K st L M hK h
  intro H locs ls h1 h2 h3 h4 h5
  unfold oI2b at h
  split at h
  · exact lv_i2b F.1 F.2.1 hd rfl (hK _ _ _ h H locs ls h1 h2 h3 h4 h5)
  · exact h.elim
theorem s_i2s (F : zF p R s m args c cc nL own D X B aL d n0 n1) {pc : Nat} (hd : decode cc pc = .ok (.i2s, 1)) : zS p l e R s m args below meth c Qf D X B aL b nL n0 n1 E Q pc (oI2s) (pc + 1) := by
  intro K st L M hK h
  intro H locs ls h1 h2 h3 h4 h5
  unfold oI2s at h
  split at h
  · exact lv_i2s F.1 F.2.1 hd rfl (hK _ _ _ h H locs ls h1 h2 h3 h4 h5)
  · exact h.elim
theorem s_dup (F : zF p R s m args c cc nL own D X B aL d n0 n1) {pc : Nat} (hd : decode cc pc = .ok (.dup, 1)) : zS p l e R s m args below meth c Qf D X B aL b nL n0 n1 E Q pc (oDup) (pc + 1) := by
  intro K st L M hK h
  intro H locs ls h1 h2 h3 h4 h5
  unfold oDup at h
  split at h
  · obtain ⟨h0, h⟩ := zcond h
    exact lv_dup F.1 F.2.1 hd (by rw [zdn_cat]; exact Nat.eq_of_beq_eq_true h0) (hK _ _ _ h H locs ls h1 h2 h3 h4 h5)
  · exact h.elim
theorem s_pop (F : zF p R s m args c cc nL own D X B aL d n0 n1) {pc : Nat} (hd : decode cc pc = .ok (.pop, 1)) : zS p l e R s m args below meth c Qf D X B aL b nL n0 n1 E Q pc (oPop) (pc + 1) := by
  intro K st L M hK h
  intro H locs ls h1 h2 h3 h4 h5
  unfold oPop at h
  split at h
  · obtain ⟨h0, h⟩ := zcond h
    exact lv_pop F.1 F.2.1 hd (by rw [zdn_cat]; exact Nat.eq_of_beq_eq_true h0) (hK _ _ _ h H locs ls h1 h2 h3 h4 h5)
  · exact h.elim
theorem s_dup2 (F : zF p R s m args c cc nL own D X B aL d n0 n1) {pc : Nat} (hd : decode cc pc = .ok (.dup2, 1)) : zS p l e R s m args below meth c Qf D X B aL b nL n0 n1 E Q pc (oDup2) (pc + 1) := by
  intro K st L M hK h
  intro H locs ls h1 h2 h3 h4 h5
  unfold oDup2 at h
  split at h
  · obtain ⟨h0, h⟩ := zcond h
    simp only [Bool.and_eq_true] at h0
    exact lv_dup2_11 F.1 F.2.1 hd (by rw [zdn_cat]; exact Nat.eq_of_beq_eq_true h0.1) (by rw [zdn_cat]; exact Nat.eq_of_beq_eq_true h0.2) (hK _ _ _ h H locs ls h1 h2 h3 h4 h5)
  · exact h.elim
theorem s_goto (F : zF p R s m args c cc nL own D X B aL d n0 n1) {pc : Nat} {off : Int} {t : Nat} (hd : decode cc pc = .ok (.goto off, 3)) (ht : (pc : Int) + off = (t : Int)) : zS p l e R s m args below meth c Qf D X B aL b nL n0 n1 E Q pc (oGo t) (pc + 3) := by
  intro K st L M hK h
  intro H locs ls h1 h2 h3 h4 h5
  exact lv_goto F.1 F.2.1 hd ht (h H locs ls h1 h2 h3 h4 h5)
theorem s_fall (F : zF p R s m args c cc nL own D X B aL d n0 n1) {pc : Nat}  : zS p l e R s m args below meth c Qf D X B aL b nL n0 n1 E Q pc (oGo pc) (pc) := by
  intro K st L M hK h
  intro H locs ls h1 h2 h3 h4 h5
  exact h H locs ls h1 h2 h3 h4 h5
theorem s_ifeq (F : zF p R s m args c cc nL own D X B aL d n0 n1) {pc : Nat} {off : Int} {t : Nat} (hd : decode cc pc = .ok (.ifCond .eq off, 3)) (ht : (pc : Int) + off = (t : Int)) : zS p l e R s m args below meth c Qf D X B aL b nL n0 n1 E Q pc (oIfEq t) (pc + 3) := by
  intro K st L M hK h
  intro H locs ls h1 h2 h3 h4 h5
  unfold oIfEq at h
  split at h
  · exact lv_if_eq F.1 F.2.1 hd ht (fun q => h.1 q H locs ls h1 h2 h3 h4 h5) (fun q => hK _ _ _ (h.2 q) H locs ls h1 h2 h3 h4 h5)
  · exact h.elim
theorem s_cmpeq (F : zF p R s m args c cc nL own D X B aL d n0 n1) {pc : Nat} {off : Int} {t : Nat} (hd : decode cc pc = .ok (.if_icmp .eq off, 3)) (ht : (pc : Int) + off = (t : Int)) : zS p l e R s m args below meth c Qf D X B aL b nL n0 n1 E Q pc (oCmpEq t) (pc + 3) := by
  intro K st L M hK h
  intro H locs ls h1 h2 h3 h4 h5
  unfold oCmpEq at h
  split at h
  · exact lv_icmp_eq F.1 F.2.1 hd ht (fun q => h.1 q H locs ls h1 h2 h3 h4 h5) (fun q => hK _ _ _ (h.2 q) H locs ls h1 h2 h3 h4 h5)
  · exact h.elim
theorem s_ifne (F : zF p R s m args c cc nL own D X B aL d n0 n1) {pc : Nat} {off : Int} {t : Nat} (hd : decode cc pc = .ok (.ifCond .ne off, 3)) (ht : (pc : Int) + off = (t : Int)) : zS p l e R s m args below meth c Qf D X B aL b nL n0 n1 E Q pc (oIfNe t) (pc + 3) := by
  intro K st L M hK h
  intro H locs ls h1 h2 h3 h4 h5
  unfold oIfNe at h
  split at h
  · exact lv_if_ne F.1 F.2.1 hd ht (fun q => h.1 q H locs ls h1 h2 h3 h4 h5) (fun q => hK _ _ _ (h.2 q) H locs ls h1 h2 h3 h4 h5)
  · exact h.elim
theorem s_cmpne (F : zF p R s m args c cc nL own D X B aL d n0 n1) {pc : Nat} {off : Int} {t : Nat} (hd : decode cc pc = .ok (.if_icmp .ne off, 3)) (ht : (pc : Int) + off = (t : Int)) : zS p l e R s m args below meth c Qf D X B aL b nL n0 n1 E Q pc (oCmpNe t) (pc + 3) := by
  intro K st L M hK h
  intro H locs ls h1 h2 h3 h4 h5
  unfold oCmpNe at h
  split at h
  · exact lv_icmp_ne F.1 F.2.1 hd ht (fun q => h.1 q H locs ls h1 h2 h3 h4 h5) (fun q => hK _ _ _ (h.2 q) H locs ls h1 h2 h3 h4 h5)
  · exact h.elim
theorem s_iflt (F : zF p R s m args c cc nL own D X B aL d n0 n1) {pc : Nat} {off : Int} {t : Nat} (hd : decode cc pc = .ok (.ifCond .lt off, 3)) (ht : (pc : Int) + off = (t : Int)) : zS p l e R s m args below meth c Qf D X B aL b nL n0 n1 E Q pc (oIfLt t) (pc + 3) := by
  intro K st L M hK h
  intro H locs ls h1 h2 h3 h4 h5
  unfold oIfLt at h
  split at h
  · exact lv_if_lt F.1 F.2.1 hd ht (fun q => h.1 q H locs ls h1 h2 h3 h4 h5) (fun q => hK _ _ _ (h.2 q) H locs ls h1 h2 h3 h4 h5)
  · exact h.elim
theorem s_cmplt (F : zF p R s m args c cc nL own D X B aL d n0 n1) {pc : Nat} {off : Int} {t : Nat} (hd : decode cc pc = .ok (.if_icmp .lt off, 3)) (ht : (pc : Int) + off = (t : Int)) : zS p l e R s m args below meth c Qf D X B aL b nL n0 n1 E Q pc (oCmpLt t) (pc + 3) := by
  intro K st L M hK h
  intro H locs ls h1 h2 h3 h4 h5
  unfold oCmpLt at h
  split at h
  · exact lv_icmp_lt F.1 F.2.1 hd ht (fun q => h.1 q H locs ls h1 h2 h3 h4 h5) (fun q => hK _ _ _ (h.2 q) H locs ls h1 h2 h3 h4 h5)
  · exact h.elim
theorem s_ifge (F : zF p R s m args c cc nL own D X B aL d n0 n1) {pc : Nat} {off : Int} {t : Nat} (hd : decode cc pc = .ok (.ifCond .ge off, 3)) (ht : (pc : Int) + off = (t : Int)) : zS p l e R s m args below meth c Qf D X B aL b nL n0 n1 E Q pc (oIfGe t) (pc + 3) := by
  intro K st L M hK h
  intro H locs ls h1 h2 h3 h4 h5
  unfold oIfGe at h
  split at h
  · exact lv_if_ge F.1 F.2.1 hd ht (fun q => h.1 q H locs ls h1 h2 h3 h4 h5) (fun q => hK _ _ _ (h.2 q) H locs ls h1 h2 h3 h4 h5)
  · exact h.elim
theorem s_cmpge (F : zF p R s m args c cc nL own D X B aL d n0 n1) {pc : Nat} {off : Int} {t : Nat} (hd : decode cc pc = .ok (.if_icmp .ge off, 3)) (ht : (pc : Int) + off = (t : Int)) : zS p l e R s m args below meth c Qf D X B aL b nL n0 n1 E Q pc (oCmpGe t) (pc + 3) := by
  intro K st L M hK h
  intro H locs ls h1 h2 h3 h4 h5
  unfold oCmpGe at h
  split at h
  · exact lv_icmp_ge F.1 F.2.1 hd ht (fun q => h.1 q H locs ls h1 h2 h3 h4 h5) (fun q => hK _ _ _ (h.2 q) H locs ls h1 h2 h3 h4 h5)
  · exact h.elim
theorem s_ifgt (F : zF p R s m args c cc nL own D X B aL d n0 n1) {pc : Nat} {off : Int} {t : Nat} (hd : decode cc pc = .ok (.ifCond .gt off, 3)) (ht : (pc : Int) + off = (t : Int)) : zS p l e R s m args below meth c Qf D X B aL b nL n0 n1 E Q pc (oIfGt t) (pc + 3) := by
  intro K st L M hK h
  intro H locs ls h1 h2 h3 h4 h5
  unfold oIfGt at h
  split at h
  · exact lv_if_gt F.1 F.2.1 hd ht (fun q => h.1 q H locs ls h1 h2 h3 h4 h5) (fun q => hK _ _ _ (h.2 q) H locs ls h1 h2 h3 h4 h5)
  · exact h.elim
theorem s_cmpgt (F : zF p R s m args c cc nL own D X B aL d n0 n1) {pc : Nat} {off : Int} {t : Nat} (hd : decode cc pc = .ok (.if_icmp .gt off, 3)) (ht : (pc : Int) + off = (t : Int)) : zS p l e R s m args below meth c Qf D X B aL b nL n0 n1 E Q pc (oCmpGt t) (pc + 3) := by
  intro K st L M hK h
  intro H locs ls h1 h2 h3 h4 h5
  unfold oCmpGt at h
  split at h
  · exact lv_icmp_gt F.1 F.2.1 hd ht (fun q => h.1 q H locs ls h1 h2 h3 h4 h5) (fun q => hK _ _ _ (h.2 q) H locs ls h1 h2 h3 h4 h5)
  · exact h.elim
theorem s_ifle (F : zF p R s m args c cc nL own D X B aL d n0 n1) {pc : Nat} {off : Int} {t : Nat} (hd : decode cc pc = .ok (.ifCond .le off, 3)) (ht : (pc : Int) + off = (t : Int)) : zS p l e R s m args below meth c Qf D X B aL b nL n0 n1 E Q pc (oIfLe t) (pc + 3) := by
  intro K st L M hK h
  intro H locs ls h1 h2 h3 h4 h5
  unfold oIfLe at h
  split at h
  · exact lv_if_le F.1 F.2.1 hd ht (fun q => h.1 q H locs ls h1 h2 h3 h4 h5) (fun q => hK _ _ _ (h.2 q) H locs ls h1 h2 h3 h4 h5)
  · exact h.elim
theorem s_cmple (F : zF p R s m args c cc nL own D X B aL d n0 n1) {pc : Nat} {off : Int} {t : Nat} (hd : decode cc pc = .ok (.if_icmp .le off, 3)) (ht : (pc : Int) + off = (t : Int)) : zS p l e R s m args below meth c Qf D X B aL b nL n0 n1 E Q pc (oCmpLe t) (pc + 3) := by
  intro K st L M hK h
  intro H locs ls h1 h2 h3 h4 h5
  unfold oCmpLe at h
  split at h
  · exact lv_icmp_le F.1 F.2.1 hd ht (fun q => h.1 q H locs ls h1 h2 h3 h4 h5) (fun q => hK _ _ _ (h.2 q) H locs ls h1 h2 h3 h4 h5)
  · exact h.elim
theorem zagetD {a : Array Int} {i : Nat} (h : i < a.size) : a[i]? = some (a.getD i 0) := by simp [Array.getD, h]
theorem zlgetD {a : List Nat} {i : Nat} (h : i < a.length) : a[i]? = some (a.getD i 0) := by simp [List.getD, h]
theorem zsw_at {x : Int32} {G : Nat → Prop} : ∀ (ts : List Nat) (j : Int) (i t : Nat), zsw x G j ts → ts[i]? = some t → x.toInt = j + i → G t
  | [], _, _, _, _, h2, _ => by simp at h2
  | u :: ts, j, 0, t, h1, h2, h3 => by
    simp at h2
    subst h2
    exact h1.1 (by omega)
  | u :: ts, j, i + 1, t, h1, h2, h3 => zsw_at ts (j + 1) i t h1.2 (by simpa using h2) (by omega)
theorem s_tsw (F : zF p R s m args c cc nL own D X B aL d n0 n1) {pc : Nat} {dflt hi : Int} {offs : Array Int} {len dt nx : Nat} {ts : List Nat} (hd : decode cc pc = .ok (.tableswitch dflt 0 hi offs, len)) (h0 : (pc : Int) + dflt = (dt : Int)) (hh : hi + 1 = (ts.length : Int)) (ho : offs.size = ts.length) (hj : ∀ i, i < ts.length → (pc : Int) + offs.getD i 0 = (ts.getD i 0 : Nat)) : zS p l e R s m args below meth c Qf D X B aL b nL n0 n1 E Q pc (oSw dt ts) (nx) := by
  intro K st L M hK h
  intro H locs ls h1 h2 h3 h4 h5
  unfold oSw at h
  split at h
  · rename_i x r
    by_cases hc : x.toInt < 0 ∨ (ts.length : Int) ≤ x.toInt
    · exact lv_tableOut F.1 F.2.1 hd (by omega) h0 (h.1 hc H locs ls h1 h2 h3 h4 h5)
    · have hi1 : (x.toInt - 0).toNat < ts.length := by omega
      have hg := zsw_at ts 0 (x.toInt - 0).toNat _ h.2 (zlgetD hi1) (by omega)
      exact lv_tableIn F.1 F.2.1 hd (by omega) (by omega) (zagetD (by omega)) (hj _ hi1) (hg H locs ls h1 h2 h3 h4 h5)
  · exact h.elim
theorem s_ri (F : zF p R s m args c cc nL own D X B aL d n0 n1) {pc : Nat} (hr : meth.sig.returnType = some .int) (hlk : meth.locks = false) (hd : decode cc pc = .ok (.ireturn, 1)) {nx : Nat} : zS p l e R s m args below meth c (MQ below (zQc D X B n1 Q) args s (n1 - n0) (zss n1 - zss n0) (fun q => B ≤ q)) D X B aL b nL n0 n1 E Q pc (oRI) (nx) := by
  intro K st L M hK h
  intro H locs ls h1 h2 h3 h4 h5
  unfold oRI at h
  split at h
  · obtain ⟨h0, h⟩ := zcond h
    have hn := Nat.eq_of_beq_eq_true h0
    rw [hn]
    exact W.iret F.1 F.2.1 hr (fun t ht hW => ⟨⟨_, M, rfl, Or.inr (Or.inl ⟨_, rfl⟩), h, hn, by rw [ht]; exact h3⟩, h4.F ht⟩) h4.2.2 hd hlk
  · exact h.elim
theorem s_rz (F : zF p R s m args c cc nL own D X B aL d n0 n1) {pc : Nat} (hr : meth.sig.returnType = some .boolean) (hlk : meth.locks = false) (hd : decode cc pc = .ok (.ireturn, 1)) {nx : Nat} : zS p l e R s m args below meth c (MQ below (zQc D X B n1 Q) args s (n1 - n0) (zss n1 - zss n0) (fun q => B ≤ q)) D X B aL b nL n0 n1 E Q pc (oRZ) (nx) := by
  intro K st L M hK h
  intro H locs ls h1 h2 h3 h4 h5
  unfold oRZ at h
  split at h
  · obtain ⟨hz, h⟩ := h
    obtain ⟨h0, h⟩ := zcond h
    have hn := Nat.eq_of_beq_eq_true h0
    rw [hn]
    exact W.zret F.1 F.2.1 hr (by rcases hz with rfl | rfl <;> decide) (fun t ht hW => ⟨⟨_, M, rfl, Or.inr (Or.inl ⟨_, rfl⟩), h, hn, by rw [ht]; exact h3⟩, h4.F ht⟩) h4.2.2 hd hlk
  · exact h.elim
theorem s_rj (F : zF p R s m args c cc nL own D X B aL d n0 n1) {pc : Nat} (hr : meth.sig.returnType = some .long) (hlk : meth.locks = false) (hd : decode cc pc = .ok (.lreturn, 1)) {nx : Nat} : zS p l e R s m args below meth c (MQ below (zQc D X B n1 Q) args s (n1 - n0) (zss n1 - zss n0) (fun q => B ≤ q)) D X B aL b nL n0 n1 E Q pc (oRJ) (nx) := by
  intro K st L M hK h
  intro H locs ls h1 h2 h3 h4 h5
  unfold oRJ at h
  split at h
  · obtain ⟨h0, h⟩ := zcond h
    have hn := Nat.eq_of_beq_eq_true h0
    rw [hn]
    exact W.lret F.1 F.2.1 hr (fun t ht hW => ⟨⟨_, M, rfl, Or.inr (Or.inr ⟨_, rfl⟩), h, hn, by rw [ht]; exact h3⟩, h4.F ht⟩) h4.2.2 hd hlk
  · exact h.elim
theorem s_rv (F : zF p R s m args c cc nL own D X B aL d n0 n1) {pc : Nat} (hr : meth.sig.returnType = none) (hlk : meth.locks = false) (hd : decode cc pc = .ok (.return_, 1)) {nx : Nat} : zS p l e R s m args below meth c (MQ below (zQc D X B n1 Q) args s (n1 - n0) (zss n1 - zss n0) (fun q => B ≤ q)) D X B aL b nL n0 n1 E Q pc (oRV) (nx) := by
  intro K st L M hK h
  intro H locs ls h1 h2 h3 h4 h5
  unfold oRV at h
  split at h
  · obtain ⟨h0, h⟩ := zcond h
    have hn := Nat.eq_of_beq_eq_true h0
    rw [hn]
    exact W.vret F.1 F.2.1 hr (fun t ht hW => ⟨⟨none, M, rfl, Or.inl rfl, h, hn, by rw [ht]; exact h3⟩, h4.F ht⟩) h4.2.2 hd hlk
  · exact h.elim
theorem z9 {k n : Nat} (F : zF p R s m args c cc nL own D X B aL d n0 n1) (hk : k < n) (h2 : n ≤ n1) : k < 900 := by
  have := F.2.2.2.2.2.2.2.2.2.2
  omega
theorem zmap_ref {k : Nat} {r : List Value} (h : k < 900) : (Value.ref k :: r).map (zdn B aL b) = .ref (B + k) :: r.map (zdn B aL b) := by simp only [List.map_cons, zdn, zadr_lt h]
theorem s_gi (F : zF p R s m args c cc nL own D X B aL d n0 n1) {pc : Nat} {ci j idx : Nat} {C : String} {T : u_T} {N : Nat} (hc : vwCl[ci]? = some (C, T, N)) (hin : ∀ w ∈ u_ws C T N, w ∈ zgood) (hj : j < N) (hN : zN ci = N) (hf : zfr ci j = false) (hl : Cond.fieldLink own idx (T j).1 (T j).2.1 (T j).2.2.1 ∈ zgood) (hd : decode cc pc = .ok (.getfield idx, 3)) : zS p l e R s m args below meth c Qf D X B aL b nL n0 n1 E Q pc (oGI ci j) (pc + 3) := by
  intro K st L M hK h
  intro H locs ls h1 h2 h3 h4 h5
  unfold oGI at h
  split at h
  · obtain ⟨h0, h⟩ := zcond h
    obtain ⟨hk, hsh⟩ := zokO_ok h0
    rw [zmap_ref (z9 F hk h2)]
    have he := zw_get (X := X) (B := B) hk
    rw [zcell_o hsh] at he
    exact va_get F.1 F.2.1 F.2.2.2.2.1 hin F.2.2.2.1 F.2.2.2.2.2.1.1 h3 _ he hc j hj (F.2.2.2.2.1 _ hl) (fun _ q => q) (v := .int (M.1 _ j)) (by rw [hN]; simp [hj, zfv, hf]) hd (hK _ _ _ h H locs ls h1 h2 h3 h4 h5)
  · exact h.elim
theorem s_gr (F : zF p R s m args c cc nL own D X B aL d n0 n1) {pc : Nat} {ci j idx : Nat} {C : String} {T : u_T} {N : Nat} (hc : vwCl[ci]? = some (C, T, N)) (hin : ∀ w ∈ u_ws C T N, w ∈ zgood) (hj : j < N) (hN : zN ci = N) (hf : zfr ci j = true) (hl : Cond.fieldLink own idx (T j).1 (T j).2.1 (T j).2.2.1 ∈ zgood) (hd : decode cc pc = .ok (.getfield idx, 3)) : zS p l e R s m args below meth c Qf D X B aL b nL n0 n1 E Q pc (oGR ci j) (pc + 3) := by
  intro K st L M hK h
  intro H locs ls h1 h2 h3 h4 h5
  unfold oGR at h
  split at h
  · obtain ⟨h0, h⟩ := zcond h
    split at h
    · rename_i t ht
      obtain ⟨h9, h⟩ := zcond h
      have h9 : t < 900 := Nat.le_of_ble_eq_true h9
      obtain ⟨hk, hsh⟩ := zokO_ok h0
      rw [zmap_ref (z9 F hk h2)]
      have he := zw_get (X := X) (B := B) hk
      rw [zcell_o hsh] at he
      have hg := hK _ _ _ h H locs ls h1 h2 h3 h4 h5
      rw [zmap_ref h9] at hg
      exact va_get F.1 F.2.1 F.2.2.2.2.1 hin F.2.2.2.1 F.2.2.2.2.2.1.1 h3 _ he hc j hj (F.2.2.2.2.1 _ hl) (fun _ q => q) (v := .ref (B + t)) (by rw [hN]; simp [hj, zfv, hf, ht, va_rf]) hd hg
    · exact h.elim
  · exact h.elim
theorem s_pi (F : zF p R s m args c cc nL own D X B aL d n0 n1) {pc : Nat} {ci j idx : Nat} {C : String} {T : u_T} {N : Nat} (hc : vwCl[ci]? = some (C, T, N)) (hin : ∀ w ∈ u_ws C T N, w ∈ zgood) (hj : j < N) (hN : zN ci = N) {ty : Nat → FieldType} (hty : ∀ k, k < N → parseFieldDescriptor (T k).2.2.1 = some (ty k)) (hnm : ∀ a, a < N → ∀ b, b < N → a ≠ b → (T a).2.1 ≠ (T b).2.1) (hf : zfr ci j = false) (hl : Cond.fieldLink own idx (T j).1 (T j).2.1 (T j).2.2.1 ∈ zgood) (hfin : (T j).2.2.2 = false) (ht : ty j = .int) (hd : decode cc pc = .ok (.putfield idx, 3)) : zS p l e R s m args below meth c Qf D X B aL b nL n0 n1 E Q pc (oPI ci j) (pc + 3) := by
  intro K st L M hK h
  intro H locs ls h1 h2 h3 h4 h5
  unfold oPI at h
  split at h
  · obtain ⟨h0, h⟩ := zcond h
    obtain ⟨hk, hsh⟩ := zokO_ok h0
    rename_i v k r _
    rw [show (Value.int v :: Value.ref k :: r).map (zdn B aL b) = .int v :: .ref (B + k) :: r.map (zdn B aL b) by simp only [List.map_cons, zdn, zadr_lt (z9 F hk h2)]]
    have he := zw_get (X := X) (B := B) hk
    rw [zcell_o hsh] at he
    refine va_put F.1 F.2.1 F.2.2.2.2.1 hin ty hty hnm F.2.2.2.1 F.2.2.2.2.2.1.1 h3 zw_D h4 _ he hc j hj (F.2.2.2.2.1 _ hl) (fun _ q => q) hfin (v := .int v) (hty j hj) (by rw [ht]; rfl) (by rw [ht]; rfl) (by simp [hN, hj]) hd (fun H1 locs1 hP1 hD1 hS1 => ?_)
    have hset : ((List.range (zN ci)).map (zfv B M k ci)).set j (.int v) = (List.range (zN ci)).map (zfv B (zwI M k j v) k ci) := zsetm (by omega) (by simp [zfv, hf, zwI, va_up]) (fun i hi => by simp [zfv, zwI, va_up, hi])
    have hw := zw_set (X := X) (B := B) (M' := zwI M k j v) hk rfl (fun i hi => zwI_cell hi) (e := .inr (ci, ((List.range (zN ci)).map (zfv B M k ci)).set j (.int v))) (by rw [zcell_o hsh, hset])
    rw [hw] at hP1
    exact hK _ _ _ h H1 locs1 ls h1 h2 hP1 hS1 h5
  · exact h.elim
theorem s_pz (F : zF p R s m args c cc nL own D X B aL d n0 n1) {pc : Nat} {ci j idx : Nat} {C : String} {T : u_T} {N : Nat} (hc : vwCl[ci]? = some (C, T, N)) (hin : ∀ w ∈ u_ws C T N, w ∈ zgood) (hj : j < N) (hN : zN ci = N) {ty : Nat → FieldType} (hty : ∀ k, k < N → parseFieldDescriptor (T k).2.2.1 = some (ty k)) (hnm : ∀ a, a < N → ∀ b, b < N → a ≠ b → (T a).2.1 ≠ (T b).2.1) (hf : zfr ci j = false) (hl : Cond.fieldLink own idx (T j).1 (T j).2.1 (T j).2.2.1 ∈ zgood) (hfin : (T j).2.2.2 = false) (ht : ty j = .boolean) (hd : decode cc pc = .ok (.putfield idx, 3)) : zS p l e R s m args below meth c Qf D X B aL b nL n0 n1 E Q pc (oPZ ci j) (pc + 3) := by
  intro K st L M hK h
  intro H locs ls h1 h2 h3 h4 h5
  unfold oPZ at h
  split at h
  · obtain ⟨hz, h⟩ := h
    obtain ⟨h0, h⟩ := zcond h
    obtain ⟨hk, hsh⟩ := zokO_ok h0
    rename_i v k r _
    rw [show (Value.int v :: Value.ref k :: r).map (zdn B aL b) = .int v :: .ref (B + k) :: r.map (zdn B aL b) by simp only [List.map_cons, zdn, zadr_lt (z9 F hk h2)]]
    have he := zw_get (X := X) (B := B) hk
    rw [zcell_o hsh] at he
    refine va_put F.1 F.2.1 F.2.2.2.2.1 hin ty hty hnm F.2.2.2.1 F.2.2.2.2.2.1.1 h3 zw_D h4 _ he hc j hj (F.2.2.2.2.1 _ hl) (fun _ q => q) hfin (v := .int v) (hty j hj) (by rw [ht]; rcases hz with rfl | rfl <;> decide) (by rw [ht]; rcases hz with rfl | rfl <;> decide) (by simp [hN, hj]) hd (fun H1 locs1 hP1 hD1 hS1 => ?_)
    have hset : ((List.range (zN ci)).map (zfv B M k ci)).set j (.int v) = (List.range (zN ci)).map (zfv B (zwI M k j v) k ci) := zsetm (by omega) (by simp [zfv, hf, zwI, va_up]) (fun i hi => by simp [zfv, zwI, va_up, hi])
    have hw := zw_set (X := X) (B := B) (M' := zwI M k j v) hk rfl (fun i hi => zwI_cell hi) (e := .inr (ci, ((List.range (zN ci)).map (zfv B M k ci)).set j (.int v))) (by rw [zcell_o hsh, hset])
    rw [hw] at hP1
    exact hK _ _ _ h H1 locs1 ls h1 h2 hP1 hS1 h5
  · exact h.elim
theorem s_pr (F : zF p R s m args c cc nL own D X B aL d n0 n1) {pc : Nat} {ci j idx : Nat} {C : String} {T : u_T} {N : Nat} (hc : vwCl[ci]? = some (C, T, N)) (hin : ∀ w ∈ u_ws C T N, w ∈ zgood) (hj : j < N) (hN : zN ci = N) {ty : Nat → FieldType} (hty : ∀ k, k < N → parseFieldDescriptor (T k).2.2.1 = some (ty k)) (hnm : ∀ a, a < N → ∀ b, b < N → a ≠ b → (T a).2.1 ≠ (T b).2.1) (hf : zfr ci j = true) (hl : Cond.fieldLink own idx (T j).1 (T j).2.1 (T j).2.2.1 ∈ zgood) (hfin : (T j).2.2.2 = true) (hin2 : meth.name = "<init>") (hdecl : (T j).1 = own) (ht : (∃ q, ty j = .array q) ∨ ∃ q, ty j = .object q) (hd : decode cc pc = .ok (.putfield idx, 3)) : zS p l e R s m args below meth c Qf D X B aL b nL n0 n1 E Q pc (oPR ci j) (pc + 3) := by
  intro K st L M hK h
  intro H locs ls h1 h2 h3 h4 h5
  unfold oPR at h
  split at h
  · obtain ⟨h0, h⟩ := zcond h
    simp only [Bool.and_eq_true] at h0
    obtain ⟨h0, h9⟩ := h0
    rename_i t k r _
    have h9 : t < 900 := Nat.le_of_ble_eq_true h9
    obtain ⟨hk, hsh⟩ := zokO_ok h0
    rw [show (Value.ref t :: Value.ref k :: r).map (zdn B aL b) = .ref (B + t) :: .ref (B + k) :: r.map (zdn B aL b) by simp only [List.map_cons, zdn, zadr_lt (z9 F hk h2), zadr_lt h9]]
    have he := zw_get (X := X) (B := B) hk
    rw [zcell_o hsh] at he
    refine va_putF F.1 F.2.1 F.2.2.2.2.1 hin ty hty hnm F.2.2.2.1 F.2.2.2.2.2.1.1 h3 zw_D h4 _ he hc j hj (F.2.2.2.2.1 _ hl) (fun _ q => q) hfin hin2 hdecl (v := .ref (B + t)) (hty j hj) (by rcases ht with ⟨q, ht⟩ | ⟨q, ht⟩ <;> rw [ht] <;> rfl) (by rcases ht with ⟨q, ht⟩ | ⟨q, ht⟩ <;> rw [ht] <;> rfl) (by simp [hN, hj]) hd (fun H1 locs1 hP1 hD1 hS1 => ?_)
    have hset : ((List.range (zN ci)).map (zfv B M k ci)).set j (.ref (B + t)) = (List.range (zN ci)).map (zfv B (zwR M k j t) k ci) := zsetm (by omega) (by simp [zfv, hf, zwR, va_up, va_rf]) (fun i hi => by simp [zfv, zwR, va_up, hi])
    have hw := zw_set (X := X) (B := B) (M' := zwR M k j t) hk rfl (fun i hi => zwR_cell hi) (e := .inr (ci, ((List.range (zN ci)).map (zfv B M k ci)).set j (.ref (B + t)))) (by rw [zcell_o hsh, hset])
    rw [hw] at hP1
    exact hK _ _ _ h H1 locs1 ls h1 h2 hP1 hS1 h5
  · exact h.elim
theorem s_iaload (F : zF p R s m args c cc nL own D X B aL d n0 n1) {pc : Nat} (hd : decode cc pc = .ok (.iaload, 1)) : zS p l e R s m args below meth c Qf D X B aL b nL n0 n1 E Q pc (oLd) (pc + 1) := by
  intro K st L M hK h
  intro H locs ls h1 h2 h3 h4 h5
  unfold oLd at h
  split at h
  · rename_i i k r
    split at h
    · rename_i n hn
      obtain ⟨hk, hsh⟩ := zlen_ok hn
      rw [show (Value.int i :: Value.ref k :: r).map (zdn B aL b) = .int i :: .ref (B + k) :: r.map (zdn B aL b) by simp only [List.map_cons, zdn, zadr_lt (z9 F hk h2)]]
      have he := zw_get (X := X) (B := B) hk
      rw [zcell_i hsh] at he
      exact va_iald F.1 F.2.1 F.2.2.2.2.2.1.1 h3 _ 0 he rfl h.1 hd (hK _ _ _ h.2 H locs ls h1 h2 h3 h4 h5)
    · exact h.elim
  · exact h.elim
theorem s_laload (F : zF p R s m args c cc nL own D X B aL d n0 n1) {pc : Nat} (hd : decode cc pc = .ok (.laload, 1)) : zS p l e R s m args below meth c Qf D X B aL b nL n0 n1 E Q pc (oLdJ) (pc + 1) := by
  intro K st L M hK h
  intro H locs ls h1 h2 h3 h4 h5
  unfold oLdJ at h
  split at h
  · rename_i i k r
    split at h
    · rename_i n hn
      obtain ⟨hk, hsh⟩ := zlen_ok hn
      rw [show (Value.int i :: Value.ref k :: r).map (zdn B aL b) = .int i :: .ref (B + k) :: r.map (zdn B aL b) by simp only [List.map_cons, zdn, zadr_lt (z9 F hk h2)]]
      have he := zw_get (X := X) (B := B) hk
      rw [zcell_j hsh] at he
      exact va_lald F.1 F.2.1 F.2.2.2.2.2.1.1 h3 _ 1 he rfl h.1 hd (hK _ _ _ h.2 H locs ls h1 h2 h3 h4 h5)
    · exact h.elim
  · exact h.elim
theorem s_zaload (F : zF p R s m args c cc nL own D X B aL d n0 n1) {pc : Nat} (hd : decode cc pc = .ok (.baload, 1)) : zS p l e R s m args below meth c Qf D X B aL b nL n0 n1 E Q pc (oLdZ) (pc + 1) := by
  intro K st L M hK h
  intro H locs ls h1 h2 h3 h4 h5
  unfold oLdZ at h
  split at h
  · rename_i i k r
    split at h
    · rename_i n hn
      obtain ⟨hk, hsh⟩ := zlen_ok hn
      rw [show (Value.int i :: Value.ref k :: r).map (zdn B aL b) = .int i :: .ref (B + k) :: r.map (zdn B aL b) by simp only [List.map_cons, zdn, zadr_lt (z9 F hk h2)]]
      have he := zw_get (X := X) (B := B) hk
      rw [zcell_z hsh] at he
      exact va_zald F.1 F.2.1 F.2.2.2.2.2.1.1 h3 _ 2 he rfl h.1 hd (hK _ _ _ h.2 H locs ls h1 h2 h3 h4 h5)
    · exact h.elim
  · exact h.elim
theorem s_iastore (F : zF p R s m args c cc nL own D X B aL d n0 n1) {pc : Nat} (hd : decode cc pc = .ok (.iastore, 1)) : zS p l e R s m args below meth c Qf D X B aL b nL n0 n1 E Q pc (oSt) (pc + 1) := by
  intro K st L M hK h
  intro H locs ls h1 h2 h3 h4 h5
  unfold oSt at h
  split at h
  · rename_i x i k r
    split at h
    · rename_i n hn
      obtain ⟨hk, hsh⟩ := zlen_ok hn
      rw [show (Value.int x :: Value.int i :: Value.ref k :: r).map (zdn B aL b) = .int x :: .int i :: .ref (B + k) :: r.map (zdn B aL b) by simp only [List.map_cons, zdn, zadr_lt (z9 F hk h2)]]
      have he := zw_get (X := X) (B := B) hk
      rw [zcell_i hsh] at he
      refine va_iast F.1 F.2.1 F.2.2.2.2.2.1.1 h3 zw_D h4 _ 0 he rfl h.1 hd (fun H1 locs1 hP1 hD1 hS1 => ?_)
      have hw := zw_set (X := X) (B := B) (M' := zwI M k i.toNatClampNeg x) hk rfl (fun i hi => zwI_cell hi) (e := .inl (X.1, n, .inl (upd (M.1 k) i.toNatClampNeg x))) (by rw [zcell_i hsh]; simp only [zwI, va_up, if_pos]; first | rfl | (rw [hz]; rfl))
      rw [hw] at hP1
      exact hK _ _ _ h.2 H1 locs1 ls h1 h2 hP1 hS1 h5
    · exact h.elim
  · exact h.elim
theorem s_lastore (F : zF p R s m args c cc nL own D X B aL d n0 n1) {pc : Nat} (hd : decode cc pc = .ok (.lastore, 1)) : zS p l e R s m args below meth c Qf D X B aL b nL n0 n1 E Q pc (oStJ) (pc + 1) := by
  intro K st L M hK h
  intro H locs ls h1 h2 h3 h4 h5
  unfold oStJ at h
  split at h
  · rename_i x i k r
    split at h
    · rename_i n hn
      obtain ⟨hk, hsh⟩ := zlen_ok hn
      rw [show (Value.long x :: Value.int i :: Value.ref k :: r).map (zdn B aL b) = .long x :: .int i :: .ref (B + k) :: r.map (zdn B aL b) by simp only [List.map_cons, zdn, zadr_lt (z9 F hk h2)]]
      have he := zw_get (X := X) (B := B) hk
      rw [zcell_j hsh] at he
      refine va_last F.1 F.2.1 F.2.2.2.2.2.1.1 h3 zw_D h4 _ 1 he rfl h.1 hd (fun H1 locs1 hP1 hD1 hS1 => ?_)
      have hw := zw_set (X := X) (B := B) (M' := zwJ M k i.toNatClampNeg x) hk rfl (fun i hi => zwJ_cell hi) (e := .inl (X.2.1, n, .inr (.inl (vp_updL (M.2.1 k) i.toNatClampNeg x)))) (by rw [zcell_j hsh]; simp only [zwJ, va_up, if_pos]; first | rfl | (rw [hz]; rfl))
      rw [hw] at hP1
      exact hK _ _ _ h.2 H1 locs1 ls h1 h2 hP1 hS1 h5
    · exact h.elim
  · exact h.elim
theorem s_zastore (F : zF p R s m args c cc nL own D X B aL d n0 n1) {pc : Nat} (hd : decode cc pc = .ok (.bastore, 1)) : zS p l e R s m args below meth c Qf D X B aL b nL n0 n1 E Q pc (oStZ) (pc + 1) := by
  intro K st L M hK h
  intro H locs ls h1 h2 h3 h4 h5
  unfold oStZ at h
  split at h
  · rename_i x i k r
    split at h
    · rename_i n hn
      obtain ⟨hk, hsh⟩ := zlen_ok hn
      have hz : vp_nar .boolean x = x := by rcases h.2.1 with rfl | rfl <;> decide
      rw [show (Value.int x :: Value.int i :: Value.ref k :: r).map (zdn B aL b) = .int x :: .int i :: .ref (B + k) :: r.map (zdn B aL b) by simp only [List.map_cons, zdn, zadr_lt (z9 F hk h2)]]
      have he := zw_get (X := X) (B := B) hk
      rw [zcell_z hsh] at he
      refine va_zast F.1 F.2.1 F.2.2.2.2.2.1.1 h3 zw_D h4 _ 2 he rfl h.1 hd (fun H1 locs1 hP1 hD1 hS1 => ?_)
      have hw := zw_set (X := X) (B := B) (M' := zwI M k i.toNatClampNeg x) hk rfl (fun i hi => zwI_cell hi) (e := .inl (X.2.2, n, .inl (upd (M.1 k) i.toNatClampNeg (vp_nar .boolean x)))) (by rw [zcell_z hsh]; simp only [zwI, va_up, if_pos]; first | rfl | (rw [hz]; rfl))
      rw [hw] at hP1
      exact hK _ _ _ h.2.2 H1 locs1 ls h1 h2 hP1 hS1 h5
    · exact h.elim
  · exact h.elim
end ZW
