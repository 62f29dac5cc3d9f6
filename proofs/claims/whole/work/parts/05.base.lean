/-! BASE: worlds up to order; contracts of one form; entries, ends, calls of that form -/
section BS1
variable {D : va_G} {cl : List vw_C} {A : Nat → Prop} {H H1 : Heap} {w0 wc wr w1 wn : va_W}
theorem bs_at (hP : va_P D cl w0 H) {q : Nat × va_E} (h : q ∈ w0) : va_at D cl q H := by
  obtain ⟨i, hi⟩ := List.mem_iff_getElem?.mp h
  exact hP i q hi
theorem bs_of (h : ∀ q ∈ w0, va_at D cl q H) : va_P D cl w0 H := fun _ q hk => h q (List.mem_of_getElem? hk)
theorem bs_pmP (h : w0.Perm wn) (hP : va_P D cl w0 H) : va_P D cl wn H := bs_of fun _ hq => bs_at hP (h.mem_iff.mpr hq)
theorem bs_nd (ws : va_W) : (∀ (i j : Nat) (p q : Nat × va_E), ws[i]? = some p → ws[j]? = some q → p.1 = q.1 → i = j) ↔ (ws.map (fun q => q.1)).Nodup := by
  rw [List.nodup_iff_pairwise_ne, List.pairwise_iff_getElem]
  constructor
  · intro h i j hi hj hij he
    rw [List.length_map] at hi hj
    rw [List.getElem_map, List.getElem_map] at he
    exact absurd (h i j ws[i] ws[j] (List.getElem?_eq_getElem hi) (List.getElem?_eq_getElem hj) he) (by omega)
  · intro h i j p q hp hq he
    obtain ⟨hi, rfl⟩ := List.getElem?_eq_some_iff.mp hp
    obtain ⟨hj, rfl⟩ := List.getElem?_eq_some_iff.mp hq
    rcases Nat.lt_trichotomy i j with hl | hl | hl
    · exact absurd (by rw [List.getElem_map, List.getElem_map]; exact he) (h i j (by rw [List.length_map]; exact hi) (by rw [List.length_map]; exact hj) hl)
    · exact hl
    · exact absurd (by rw [List.getElem_map, List.getElem_map]; exact he.symm) (h j i (by rw [List.length_map]; exact hj) (by rw [List.length_map]; exact hi) hl)
theorem bs_pmD (h : w0.Perm wn) (hD : va_D A w0) : va_D A wn := by
  refine ⟨(bs_nd wn).mpr (((h.map (fun q => q.1)).nodup_iff).mp ((bs_nd w0).mp hD.1)), fun k q hk => ?_⟩
  obtain ⟨i, hi⟩ := List.mem_iff_getElem?.mp (h.mem_iff.mpr (List.mem_of_getElem? hk))
  exact hD.2 i q hi
theorem bs_in (hD : va_D A w0) {q : Nat × va_E} (h : q ∈ w0) : A q.1 := by
  obtain ⟨i, hi⟩ := List.mem_iff_getElem?.mp h
  exact hD.2 i q hi
theorem bs_r {j : Nat} {q : Nat × va_E} (hj : wr[j]? = some q) : (wc ++ wr)[wc.length + j]? = some q := by
  rw [List.getElem?_append_right (by omega)]
  simpa using hj
theorem bs_l {j : Nat} {q : Nat × va_E} (hj : wc[j]? = some q) : (wc ++ wr)[j]? = some q := by
  rw [List.getElem?_append_left (List.getElem?_eq_some_iff.mp hj).1]; exact hj
theorem bs_free {H0 : Heap} {locs : List Loc} (hD : va_D A w0) (hpm : w0.Perm (wc ++ wr)) (hS : va_S A H0 H locs) (hA : ∀ q, H0.size ≤ q → A q) : ∀ q, va_A wc H.size q → A q := by
  intro q hq
  rcases hq with ⟨k, e, hk⟩ | hq
  · exact bs_in hD (q := (q, e)) (hpm.mem_iff.mpr (List.mem_append_left _ (List.mem_of_getElem? hk)))
  · exact hA q (Nat.le_trans hS.1 hq)
theorem bs_join (hP : va_P D cl w0 H) (hD : va_D A w0) (hpm : w0.Perm (wc ++ wr)) (hF : ∀ q, va_A wc H.size q → A q) (hk : ∀ q : Nat, q < H.size → ¬ va_A wc H.size q → H1[q]? = H[q]?) (hP1 : va_P D cl w1 H1) (hD1 : va_D (va_A wc H.size) w1) (hpn : (w1 ++ wr).Perm wn) : va_P D cl wn H1 ∧ va_D A wn := by
  have hP' := bs_pmP hpm hP
  have hD' := bs_pmD hpm hD
  have hr : ∀ q ∈ wr, q.1 < H.size ∧ ¬ va_A wc H.size q.1 := by
    intro q hq
    have hl := (bs_at hP' (List.mem_append_right wc hq)).lt
    refine ⟨hl, ?_⟩
    rintro (⟨k, e, hk⟩ | h)
    · obtain ⟨j, hj⟩ := List.mem_iff_getElem?.mp hq
      have h3 := hD'.1 k (wc.length + j) (q.1, e) q (bs_l hk) (bs_r hj) rfl
      have h4 := (List.getElem?_eq_some_iff.mp hk).1
      omega
    · omega
  have hPr : va_P D cl wr H1 := bs_of fun q hq => (bs_at hP' (List.mem_append_right wc hq)).kept (hk _ (hr q hq).1 (hr q hq).2)
  have hDr : va_D A wr := ⟨fun i j p q hp hq e => by
    have h3 := hD'.1 _ _ _ _ (bs_r (wc := wc) hp) (bs_r (wc := wc) hq) e
    omega, fun k q hk => hD'.2 _ q (bs_r hk)⟩
  have hx : ∀ (i j : Nat) (p q : Nat × va_E), w1[i]? = some p → wr[j]? = some q → p.1 ≠ q.1 := fun i j p q hp hq e => (hr q (List.mem_of_getElem? hq)).2 (e ▸ hD1.2 i p hp)
  exact ⟨bs_pmP hpn (va_P.app hP1 hPr), bs_pmD hpn (va_D.app (hD1.weaken fun k q _ h => hF _ h) hDr hx)⟩
theorem bs_sub {w : va_W} (hD : va_D A w0) (hpm : w0.Perm (wc ++ wr)) : va_D A wc := by
  have hD' := bs_pmD hpm hD
  exact ⟨fun i j p q hp hq e => hD'.1 _ _ _ _ (bs_l (wr := wr) hp) (bs_l (wr := wr) hq) e, fun k q hk => hD'.2 _ q (bs_l hk)⟩
theorem bs_subP (hP : va_P D cl w0 H) (hpm : w0.Perm (wc ++ wr)) : va_P D cl wc H := bs_of fun q hq => bs_at (bs_pmP hpm hP) (List.mem_append_left wr hq)
end BS1
theorem pm_nil (w : va_W) : (w ++ []).Perm w := by rw [List.append_nil]
theorem pm_nil' (w : va_W) : w.Perm (w ++ []) := by rw [List.append_nil]
/-- the words across the nest, that no warming takes away -/
abbrev nW : List Cond := [Cond.methodLinkNest "StyleSheet" 11 ⟨"StyleSheet$Table", "<init>", "(I)V"⟩ "StyleSheet", Cond.methodLinkNest "StyleSheet" 31 ⟨"StyleSheet$Table", "add", "(I)V"⟩ "StyleSheet", Cond.methodLinkNest "StyleSheet" 64 ⟨"StyleSheet$Table", "has", "(I)Z"⟩ "StyleSheet", Cond.methodLinkNest "StyleSheet" 99 ⟨"StyleSheet$Table", "valuesIn", "(I)I"⟩ "StyleSheet", Cond.methodLinkNest "StyleSheet" 68 ⟨"StyleSheet$Table", "remove", "(I)V"⟩ "StyleSheet", Cond.methodLinkNest "StyleSheet" 121 ⟨"StyleSheet$Table", "howMany", "()I"⟩ "StyleSheet", Cond.methodLinkNest "StyleSheet" 124 ⟨"StyleSheet$Table", "valuesInAll", "()I"⟩ "StyleSheet", Cond.methodLinkNest "StyleSheet" 52 ⟨"StyleSheet$Table", "leastFree", "()I"⟩ "StyleSheet", Cond.methodLinkNest "StyleSheet" 152 ⟨"StyleSheet$Table", "numberOf", "([I)I"⟩ "StyleSheet", Cond.fieldLinkNest "StyleSheet" 81 "StyleSheet$Table" "values" "[[I" "StyleSheet", Cond.declares ⟨"java/lang/RuntimeException", "<init>", "()V"⟩, Cond.declares ⟨"java/lang/RuntimeException", "<init>", "(Ljava/lang/String;)V"⟩, Cond.declares ⟨"java/lang/Exception", "<init>", "()V"⟩, Cond.declares ⟨"java/lang/Exception", "<init>", "(Ljava/lang/String;)V"⟩, Cond.declares ⟨"java/lang/Throwable", "<init>", "()V"⟩, Cond.declares ⟨"java/lang/Throwable", "<init>", "(Ljava/lang/String;)V"⟩, Cond.castable "java/lang/IllegalArgumentException" "java/lang/IllegalArgumentException", Cond.castable "java/lang/IllegalStateException" "java/lang/IllegalStateException", Cond.castable "java/util/NoSuchElementException" "java/util/NoSuchElementException"]
/-- what a method may ask of the tables beside the words -/
def bK (D : va_G) (ts : List (ClassId × FieldType)) (U : State) : Prop := va_K D vwCl ts U ∧ (∀ w ∈ nW, va_Nw w U) ∧ va_AOA .int U
theorem nW_warm {s U : State} (hW : s.WarmedH U.vm) : ∀ w ∈ nW, va_Nw w s → va_Nw w U := by
  intro w hw h
  simp only [nW, List.mem_cons, List.not_mem_nil, or_false] at hw
  rcases hw with rfl | rfl | rfl | rfl | rfl | rfl | rfl | rfl | rfl | rfl | rfl | rfl | rfl | rfl | rfl | rfl | rfl | rfl | rfl
  all_goals first | exact va_Nw.warmM hW h | exact va_Nw.warmF hW h | exact va_Nw.warmD hW h | exact va_Nw.warmC hW h
theorem nW_tab : ∀ w ∈ nW, w.onTables = true := by decide
theorem bK.moved {D : va_G} {ts : List (ClassId × FieldType)} {s U : State} (hW : s.WarmedH U.vm) (h : bK D ts s) : bK D ts U := ⟨va_K.moved hW.alike h.1, fun w hw => nW_warm hW w hw (h.2.1 w hw), va_AOA.moved hW.alike h.2.2⟩
theorem bK.same {D : va_G} {ts : List (ClassId × FieldType)} {s U : State} (hv : s.vm = U.vm) (h : bK D ts s) : bK D ts U := ⟨va_K.moved (by rw [hv]; exact Vm.Alike.refl _) h.1, fun w hw => va_Nw.same (nW_tab w hw) hv (h.2.1 w hw), va_AOA.moved (by rw [hv]; exact Vm.Alike.refl _) h.2.2⟩
abbrev wY (y : MethodName) (cc : ByteArray) (n : Nat) (r : Option FieldType) : List Cond := Cond.code y cc n r :: wG
abbrev rm9 (f mc ms : Nat) : Room := { frames := f, cells := mc, slots := ms, locals := 30 * f }
theorem wY_in {y : MethodName} {cc : ByteArray} {n : Nat} {r : Option FieldType} (h : Cond.code y cc n r ∈ wG) : GoodIn wG (wY y cc n r) := fun w hw => by
  rcases List.mem_cons.mp hw with rfl | hw
  · exact ⟨h, wG_good _ h⟩
  · exact ⟨hw, wG_good _ hw⟩
section BSW
variable {R : Room} {s : State} {args : Array Value} {own C host : String} {index maxL f mc ms : Nat} {y : MethodName} {bytes : ByteArray} {ret : Option FieldType}
theorem cwV9 (n : Nat) (hts : ∀ w ∈ wG, w.before args s = true) (hcd : Cond.code y bytes maxL ret ∈ wG) (hl : Cond.methodLink own index y ∈ wG) (hi : Cond.instanceMethod y ∈ wG) (hsel : Cond.selects C y y ∈ wG) (hin : Cond.initialized y.cls ∈ wG)
    (hd : y.cls ≠ "java/lang/invoke/MethodHandle" ∧ y.cls ≠ "java/lang/invoke/VarHandle" ∧ (parseMethodDescriptor y.desc).map (fun d => d.parameters.length) = some n) (hR : f + 1 ≤ R.frames ∧ 8 + (maxL + 11) + 30 * f ≤ R.locals) : CallW R s args own C index y bytes maxL ret (wY y bytes maxL ret) (rm9 f mc ms) mc ms n :=
  ⟨callB_of n hts (wY_in hcd) rfl rfl rfl (hts _ hin) (hts _ hl) hd hR, hts _ hi, hts _ hsel⟩
theorem cwS9 (n : Nat) (hts : ∀ w ∈ wG, w.before args s = true) (hcd : Cond.code y bytes maxL ret ∈ wG) (hl : Cond.methodLink own index y ∈ wG) (hst : Cond.static y ∈ wG) (hin : Cond.initialized y.cls ∈ wG)
    (hd : y.cls ≠ "java/lang/invoke/MethodHandle" ∧ y.cls ≠ "java/lang/invoke/VarHandle" ∧ (parseMethodDescriptor y.desc).map (fun d => d.parameters.length) = some n) (hR : f + 1 ≤ R.frames ∧ 8 + (maxL + 11) + 30 * f ≤ R.locals) : CallB R s args own index y bytes maxL ret (wY y bytes maxL ret) (rm9 f mc ms) mc ms n ∧ (Cond.static y).before args s = true :=
  ⟨callB_of n hts (wY_in hcd) rfl rfl rfl (hts _ hin) (hts _ hl) hd hR, hts _ hst⟩
theorem cwI9 (n : Nat) (hts : ∀ w ∈ wG, w.before args s = true) (hcd : Cond.code y bytes maxL none ∈ wG) (hl : Cond.methodLink own index y ∈ wG) (hi : Cond.instanceMethod y ∈ wG) (hin : Cond.initialized y.cls ∈ wG) (hy1 : y.name = "<init>")
    (hd : y.cls ≠ "java/lang/invoke/MethodHandle" ∧ y.cls ≠ "java/lang/invoke/VarHandle" ∧ (parseMethodDescriptor y.desc).map (fun d => d.parameters.length) = some n) (hR : f + 1 ≤ R.frames ∧ 8 + (maxL + 11) + 30 * f ≤ R.locals) : CallB R s args own index y bytes maxL none (wY y bytes maxL none) (rm9 f mc ms) mc ms n ∧ y.name = "<init>" ∧ (Cond.instanceMethod y).before args s = true :=
  ⟨callB_of n hts (wY_in hcd) rfl rfl rfl (hts _ hin) (hts _ hl) hd hR, hy1, hts _ hi⟩
theorem cwN9 (n : Nat) (hts : ∀ w ∈ wG, w.before args s = true) (hcd : Cond.code y bytes maxL ret ∈ wG) (hl : va_Nw (.methodLinkNest own index y host) s) (hi : Cond.instanceMethod y ∈ wG) (hsel : Cond.selects C y y ∈ wG) (hin : Cond.initialized y.cls ∈ wG)
    (hd : y.cls ≠ "java/lang/invoke/MethodHandle" ∧ y.cls ≠ "java/lang/invoke/VarHandle" ∧ (parseMethodDescriptor y.desc).map (fun d => d.parameters.length) = some n) (hR : f + 1 ≤ R.frames ∧ 8 + (maxL + 11) + 30 * f ≤ R.locals) : va_CN R s args own index y host bytes maxL ret (wY y bytes maxL ret) (rm9 f mc ms) mc ms n ∧ (Cond.instanceMethod y).before args s = true ∧ (Cond.selects C y y).before args s = true :=
  ⟨va_cnB n hts (wY_in hcd) rfl rfl rfl hl (hts _ hin) hd hR, hts _ hi, hts _ hsel⟩
theorem cwNI9 (n : Nat) (hts : ∀ w ∈ wG, w.before args s = true) (hcd : Cond.code y bytes maxL none ∈ wG) (hl : va_Nw (.methodLinkNest own index y host) s) (hi : Cond.instanceMethod y ∈ wG) (hin : Cond.initialized y.cls ∈ wG) (hy1 : y.name = "<init>")
    (hd : y.cls ≠ "java/lang/invoke/MethodHandle" ∧ y.cls ≠ "java/lang/invoke/VarHandle" ∧ (parseMethodDescriptor y.desc).map (fun d => d.parameters.length) = some n) (hR : f + 1 ≤ R.frames ∧ 8 + (maxL + 11) + 30 * f ≤ R.locals) : va_CN R s args own index y host bytes maxL none (wY y bytes maxL none) (rm9 f mc ms) mc ms n ∧ y.name = "<init>" ∧ (Cond.instanceMethod y).before args s = true :=
  ⟨va_cnB n hts (wY_in hcd) rfl rfl rfl hl (hts _ hin) hd hR, hy1, hts _ hi⟩
end BSW
/-- a contract's start: the world w, at a heap of size sz -/
def bP (D : va_G) (ts : List (ClassId × FieldType)) (w : va_W) (sz : Nat) (av : List Value) : Array Value → State → Prop := va_Pc av (fun U => U.heap.size = sz ∧ va_P D vwCl w U.heap ∧ bK D ts U ∧ va_D (fun _ => True) w)
/-- the world w1 behind it -/
def bB (D : va_G) (A : Nat → Prop) (w1 : va_W) (t : State) : Prop := va_P D vwCl w1 t.heap ∧ va_D A w1
def bI (D : va_G) (A : Nat → Prop) (post : Int32 → va_W → Prop) : Array Value → State → Outcome → State → Prop := va_Qi post (bB D A) A
def bV (D : va_G) (A : Nat → Prop) (post : va_W → Prop) : Array Value → State → Outcome → State → Prop := va_Qv post (bB D A) A
abbrev bMI (l : Launch) (y : MethodName) (ws : List Cond) (rm : Room) (D : va_G) (ts : List (ClassId × FieldType)) (w : va_W) (sz : Nat) (av : List Value) (post : Int32 → va_W → Prop) (mc ms : Nat) : Prop := Met l y ws rm (bP D ts w sz av) (bI D (va_A w sz) post) mc ms (va_A w sz)
abbrev bMV (l : Launch) (y : MethodName) (ws : List Cond) (rm : Room) (D : va_G) (ts : List (ClassId × FieldType)) (w : va_W) (sz : Nat) (av : List Value) (post : va_W → Prop) (mc ms : Nat) : Prop := Met l y ws rm (bP D ts w sz av) (bV D (va_A w sz) post) mc ms (va_A w sz)
theorem bP_blind {D : va_G} {ts : List (ClassId × FieldType)} {w : va_W} {sz : Nat} {av : List Value} : FrameBlind (bP D ts w sz av) := fun a U g mk q => by
  obtain ⟨q0, q1, qP, qK, qD⟩ := q
  exact ⟨q0, q1, qP, bK.same (s := U) (U := U.calling g mk a) rfl qK, qD⟩
section BS2
variable {l : Launch} {y : MethodName} {rm : Room} {cc : ByteArray} {maxL : Nat} {D : va_G} {ts : List (ClassId × FieldType)} {w0 : va_W} {sz mc ms : Nat} {av : List Value}
/-- entry of a method that answers an int (or a boolean) -/
theorem ent_i {ty : FieldType} {post : Int32 → va_W → Prop} (hy : plainName y.cls = true) (hn : (lg_sl av).length ≤ maxL) (hty : ∀ v w, post v w → narrow ty (.int v) = .int v)
    (body : ∀ (p : Program) (e : Env) (s : State) (m : MethodId) (args : Array Value) (below : List Frame) (meth : Method) (c : Code) (A : Nat → Prop) (Q : State → Prop) (ls : Array Slot),
      p.tables.exec = Jvm.exec → c.code = cc → c.maxLocals = maxL → s.vm.findClass y.cls = some m.cls → (∀ w ∈ wG, w.before args s = true) → s.heap.size = sz → (∀ q, s.heap.size ≤ q → A q) → va_P D vwCl w0 s.heap → va_D A w0 → va_S A s.heap s.heap [] → bK D ts s → lv_has ls maxL (lv_args 0 av) →
      (∀ (v : Int32) (w1 : va_W) (H : Heap) (locs : List Loc) (pc : Nat) (ls : Array Slot) (k n : Nat), decode cc pc = .ok (.ireturn, 1) → post v w1 → va_P D vwCl w1 H → va_D A w1 → va_S A s.heap H locs → k ≤ mc → n ≤ ms → W p l e rm s m args below meth c H locs k n Q (F0 m pc ls [.int v])) →
      W p l e rm s m args below meth c s.heap [] 0 0 Q (F0 m 0 ls [])) : bMI l y (wY y cc maxL (some ty)) rm D ts w0 sz av post mc ms := by
  refine Met.ofW (cc := cc) (maxL := maxL) (ret := some ty) hy rfl ?_
  intro p e s m args below meth c s₁ B hml hv
  obtain ⟨rfl, hsz, hP, hK, hD0⟩ := hv
  have hD := hD0.self (sz := sz)
  rw [lg_entry_eq]
  refine body p e s m av.toArray below meth c (va_A w0 sz) _ _ B.exec B.bytes hml (findClass_of_methodNamed B.named) (fun w h => atoms_spec (ws := _) B.pre w (List.mem_cons_of_mem _ h)) hsz (fun q h => Or.inr (hsz ▸ h)) hP hD va_S.rf hK (lv_entry av hn) ?_
  intro v w1 H locs pc ls k n hdg hpost hP1 hD1 hS1 hk hn'
  refine W.widen hk hn' ?_
  exact W.zret (v := v) B.exec B.bytes B.returns (hty v w1 hpost) (fun t ht hW => ⟨⟨v, w1, rfl, hpost, by rw [ht]; exact hP1, hD1⟩, hS1.F ht⟩) hS1.2.2 hdg B.notSynchronized
/-- entry of a method without an answer -/
theorem ent_v {post : va_W → Prop} (hy : plainName y.cls = true) (hn : (lg_sl av).length ≤ maxL)
    (body : ∀ (p : Program) (e : Env) (s : State) (m : MethodId) (args : Array Value) (below : List Frame) (meth : Method) (c : Code) (A : Nat → Prop) (Q : State → Prop) (ls : Array Slot),
      p.tables.exec = Jvm.exec → c.code = cc → c.maxLocals = maxL → s.vm.findClass y.cls = some m.cls → (∀ w ∈ wG, w.before args s = true) → s.heap.size = sz → (∀ q, s.heap.size ≤ q → A q) → va_P D vwCl w0 s.heap → va_D A w0 → va_S A s.heap s.heap [] → bK D ts s → lv_has ls maxL (lv_args 0 av) → meth.name = y.name →
      (∀ (w1 : va_W) (H : Heap) (locs : List Loc) (pc : Nat) (ls : Array Slot) (k n : Nat), decode cc pc = .ok (.return_, 1) → post w1 → va_P D vwCl w1 H → va_D A w1 → va_S A s.heap H locs → k ≤ mc → n ≤ ms → W p l e rm s m args below meth c H locs k n Q (F0 m pc ls [])) →
      W p l e rm s m args below meth c s.heap [] 0 0 Q (F0 m 0 ls [])) : bMV l y (wY y cc maxL none) rm D ts w0 sz av post mc ms := by
  refine Met.ofW (cc := cc) (maxL := maxL) (ret := none) hy rfl ?_
  intro p e s m args below meth c s₁ B hml hv
  obtain ⟨rfl, hsz, hP, hK, hD0⟩ := hv
  have hD := hD0.self (sz := sz)
  rw [lg_entry_eq]
  refine body p e s m av.toArray below meth c (va_A w0 sz) _ _ B.exec B.bytes hml (findClass_of_methodNamed B.named) (fun w h => atoms_spec (ws := _) B.pre w (List.mem_cons_of_mem _ h)) hsz (fun q h => Or.inr (hsz ▸ h)) hP hD va_S.rf hK (lv_entry av hn) (name_of_methodNamed B.named B.method).1 ?_
  intro w1 H locs pc ls k n hdg hpost hP1 hD1 hS1 hk hn'
  refine W.widen hk hn' ?_
  exact W.vret B.exec B.bytes B.returns (fun t ht hW => ⟨⟨w1, rfl, hpost, by rw [ht]; exact hP1, hD1⟩, hS1.F ht⟩) hS1.2.2 hdg B.notSynchronized
end BS2
section BS3
variable {p : Program} {l : Launch} {e : Env} {R : Room} {s : State} {m : MethodId} {args : Array Value} {below : List Frame} {meth : Method} {c : Code} {H : Heap} {locs : List Loc} {cells slots : Nat} {Q : State → Prop}
variable {D : va_G} {ts : List (ClassId × FieldType)} {A : Nat → Prop} {w0 wc wr : va_W} {mc ms pc : Nat} {ls : Array Slot} {st0 rest : List Value} {a : Array Value}
theorem prV {ci q0 b : Nat} {fs As : List Value} {q : vw_C} (hK : bK D ts s) (hP : va_P D vwCl w0 H) (hD : va_D A w0) (hpm : w0.Perm (wc ++ wr)) (hc : vwCl[ci]? = some q) (he : wc[q0]? = some (b, .inr (ci, fs))) : PreV s H q.1 b (bP D ts wc H.size (.ref b :: As)) As :=
  ⟨bP_blind, va_recv hK.1 (bs_subP hP hpm) hc he, fun U hU hW => ⟨rfl, by rw [hU], by rw [hU]; exact bs_subP hP hpm, bK.moved hW hK, (bs_sub (w := wc) hD hpm).weaken (fun _ _ _ _ => trivial)⟩⟩
theorem prS {As : List Value} (hK : bK D ts s) (hP : va_P D vwCl w0 H) (hD : va_D A w0) (hpm : w0.Perm (wc ++ wr)) : PreS s H (bP D ts wc H.size As) As :=
  ⟨bP_blind, fun U hU hW => ⟨rfl, by rw [hU], by rw [hU]; exact bs_subP hP hpm, bK.moved hW hK, (bs_sub (w := wc) hD hpm).weaken (fun _ _ _ _ => trivial)⟩⟩
/-- behind a call that answers an int -/
theorem cal_i {post : Int32 → va_W → Prop} (hr : va_Run p l e R s m args below meth c H locs cells slots mc ms (F0 m pc ls st0) rest (bI D (va_A wc H.size) post a) (va_A wc H.size)) (hpm : w0.Perm (wc ++ wr)) (hP : va_P D vwCl w0 H) (hD : va_D A w0) (hS : va_S A s.heap H locs) (hA : ∀ q, s.heap.size ≤ q → A q)
    (kk : ∀ (r : Int32) (w1 : va_W) (H1 : Heap) (locs1 : List Loc), post r w1 → (∀ wn : va_W, (w1 ++ wr).Perm wn → va_P D vwCl wn H1 ∧ va_D A wn) → va_S A s.heap H1 locs1 → W p l e R s m args below meth c H1 locs1 (cells + mc) (slots + ms) Q (F0 m (pc + 3) ls (.int r :: rest))) : W p l e R s m args below meth c H locs cells slots Q (F0 m pc ls st0) := by
  have hF := bs_free hD hpm hS hA
  refine va_calli (post := post) (B := bB D (va_A wc H.size)) (A1 := va_A wc H.size) hr hS (fun q _ h => hF q h) hF (fun r w1 t H1 locs1 ht hvm hw hB hz hk hS1 => ?_)
  obtain ⟨hP1, hD1⟩ := hB
  rw [ht] at hP1
  exact kk r w1 H1 locs1 hw (fun wn hpn => bs_join hP hD hpm hF hk hP1 hD1 hpn) hS1
theorem cal_v {post : va_W → Prop} (hr : va_Run p l e R s m args below meth c H locs cells slots mc ms (F0 m pc ls st0) rest (bV D (va_A wc H.size) post a) (va_A wc H.size)) (hpm : w0.Perm (wc ++ wr)) (hP : va_P D vwCl w0 H) (hD : va_D A w0) (hS : va_S A s.heap H locs) (hA : ∀ q, s.heap.size ≤ q → A q)
    (kk : ∀ (w1 : va_W) (H1 : Heap) (locs1 : List Loc), post w1 → (∀ wn : va_W, (w1 ++ wr).Perm wn → va_P D vwCl wn H1 ∧ va_D A wn) → va_S A s.heap H1 locs1 → W p l e R s m args below meth c H1 locs1 (cells + mc) (slots + ms) Q (F0 m (pc + 3) ls rest)) : W p l e R s m args below meth c H locs cells slots Q (F0 m pc ls st0) := by
  have hF := bs_free hD hpm hS hA
  refine va_callv (post := post) (B := bB D (va_A wc H.size)) (A1 := va_A wc H.size) hr hS (fun q _ h => hF q h) hF (fun w1 t H1 locs1 ht hvm hw hB hz hk hS1 => ?_)
  obtain ⟨hP1, hD1⟩ := hB
  rw [ht] at hP1
  exact kk w1 H1 locs1 hw (fun wn hpn => bs_join hP hD hpm hF hk hP1 hD1 hpn) hS1
end BS3
/-! throwing methods: what they need of the statics and of the texts, kept apart from the world -/
def bEV (St : List (String × Nat × String)) (sa : Nat → Nat) (A : Nat → Prop) (U : State) (H : Heap) : Prop := vx_Zq Bundle.tN "UNASSIGNED_STACK" Bundle.steD A U H ∧ vx_Zq Bundle.tN "SUPPRESSED_SENTINEL" Bundle.listD A U H ∧ ∀ (i : Nat) (q : String × Nat × String), St[i]? = some q → vk_R q.1 q.2.1 q.2.2 (sa i) U
def bPx (St : List (String × Nat × String)) (sa : Nat → Nat) (D : va_G) (ts : List (ClassId × FieldType)) (w : va_W) (sz : Nat) (av : List Value) : Array Value → State → Prop := va_Pc av (fun U => U.heap.size = sz ∧ va_P D vwCl w U.heap ∧ bK D ts U ∧ va_D (fun _ => True) w ∧ bEV St sa (va_A w sz) U U.heap)
def bX (D : va_G) (A : Nat → Prop) (px : String → va_W → Prop) : String → State → State → Prop := vx_X (S := va_W) (fun _ => True) (fun E w1 t => px E w1 ∧ bB D A w1 t) A
abbrev bXI (l : Launch) (y : MethodName) (ws : List Cond) (rm : Room) (St : List (String × Nat × String)) (sa : Nat → Nat) (D : va_G) (ts : List (ClassId × FieldType)) (w : va_W) (sz : Nat) (av : List Value) (post : Int32 → va_W → Prop) (px : String → va_W → Prop) (mc ms : Nat) : Prop := vx_Met l y ws rm (bPx St sa D ts w sz av) (bI D (va_A w sz) post) (bX D (va_A w sz) px) mc ms (va_A w sz)
abbrev bXV (l : Launch) (y : MethodName) (ws : List Cond) (rm : Room) (St : List (String × Nat × String)) (sa : Nat → Nat) (D : va_G) (ts : List (ClassId × FieldType)) (w : va_W) (sz : Nat) (av : List Value) (post : va_W → Prop) (px : String → va_W → Prop) (mc ms : Nat) : Prop := vx_Met l y ws rm (bPx St sa D ts w sz av) (bV D (va_A w sz) post) (bX D (va_A w sz) px) mc ms (va_A w sz)
theorem bEV.moved {St : List (String × Nat × String)} {sa : Nat → Nat} {A : Nat → Prop} {u U : State} {H : Heap} (hW : u.WarmedH U.vm) (h : bEV St sa A u H) : bEV St sa A U H := ⟨h.1.moved hW.alike, h.2.1.moved hW.alike, fun i q hq => (h.2.2 i q hq).warm hW⟩
theorem bEV.kept {St : List (String × Nat × String)} {sa : Nat → Nat} {A : Nat → Prop} {U : State} {H H1 : Heap} (h : bEV St sa A U H) (hq : ∀ a : Nat, a < H.size → ¬ A a → H1[a]? = H[a]?) : bEV St sa A U H1 := ⟨h.1.kept hq, h.2.1.kept hq, h.2.2⟩
theorem bEV.narrow {St : List (String × Nat × String)} {sa : Nat → Nat} {A B : Nat → Prop} {U : State} {H : Heap} (h : bEV St sa A U H) (hAB : ∀ q, B q → A q) : bEV St sa B U H := ⟨h.1.narrow hAB, h.2.1.narrow hAB, h.2.2⟩
theorem bEV.same {St : List (String × Nat × String)} {sa : Nat → Nat} {A : Nat → Prop} {u U : State} {H : Heap} (hv : U.vm = u.vm) (h : bEV St sa A u H) : bEV St sa A U H := ⟨h.1.moved (by rw [hv]; exact Vm.Alike.refl _), h.2.1.moved (by rw [hv]; exact Vm.Alike.refl _), fun i q hq => (h.2.2 i q hq).same hv⟩
theorem bPx_blind {St : List (String × Nat × String)} {sa : Nat → Nat} {D : va_G} {ts : List (ClassId × FieldType)} {w : va_W} {sz : Nat} {av : List Value} : FrameBlind (bPx St sa D ts w sz av) := fun a U g mk q => by
  obtain ⟨q0, q1, qP, qK, qD, qE⟩ := q
  exact ⟨q0, q1, qP, bK.same (s := U) (U := U.calling g mk a) rfl qK, qD, bEV.same (u := U) (U := U.calling g mk a) rfl qE⟩
section BS4
variable {l : Launch} {y : MethodName} {rm : Room} {cc : ByteArray} {maxL : Nat} {D : va_G} {ts : List (ClassId × FieldType)} {w0 : va_W} {sz mc ms : Nat} {av : List Value} {St : List (String × Nat × String)} {sa : Nat → Nat} {px : String → va_W → Prop}
theorem ent_xi {ty : FieldType} {post : Int32 → va_W → Prop} (hy : plainName y.cls = true) (hn : (lg_sl av).length ≤ maxL) (hty : ∀ v w, post v w → narrow ty (.int v) = .int v)
    (body : ∀ (p : Program) (e : Env) (s : State) (m : MethodId) (args : Array Value) (below : List Frame) (meth : Method) (c : Code) (A : Nat → Prop) (Q : State → Prop) (ls : Array Slot),
      p.tables.exec = Jvm.exec → c.code = cc → c.maxLocals = maxL → s.vm.findClass y.cls = some m.cls → (∀ w ∈ wG, w.before args s = true) → s.heap.size = sz → (∀ q, s.heap.size ≤ q → A q) → va_P D vwCl w0 s.heap → va_D A w0 → va_S A s.heap s.heap [] → bK D ts s → lv_has ls maxL (lv_args 0 av) →
      meth.locks = false → (∀ x ∈ c.exceptionTable.toList, False) → bEV St sa A s s.heap → (∃ Qc, Q = vx_MQ below Qc (bX D A px) args s mc ms A) →
      (∀ (v : Int32) (w1 : va_W) (H : Heap) (locs : List Loc) (pc : Nat) (ls : Array Slot) (k n : Nat), decode cc pc = .ok (.ireturn, 1) → post v w1 → va_P D vwCl w1 H → va_D A w1 → va_S A s.heap H locs → k ≤ mc → n ≤ ms → W p l e rm s m args below meth c H locs k n Q (F0 m pc ls [.int v])) →
      W p l e rm s m args below meth c s.heap [] 0 0 Q (F0 m 0 ls [])) : bXI l y (wY y cc maxL (some ty)) rm St sa D ts w0 sz av post px mc ms := by
  refine vx_ofW (cc := cc) (maxL := maxL) (ret := some ty) hy rfl ?_
  intro p e s m args below meth c s₁ B hml htab hv
  obtain ⟨rfl, hsz, hP, hK, hD0, hE⟩ := hv
  have hD := hD0.self (sz := sz)
  rw [lg_entry_eq]
  refine body p e s m av.toArray below meth c (va_A w0 sz) _ _ B.exec B.bytes hml (findClass_of_methodNamed B.named) (fun w h => atoms_spec (ws := _) B.pre w (List.mem_cons_of_mem _ h)) hsz (fun q h => Or.inr (hsz ▸ h)) hP hD va_S.rf hK (lv_entry av hn) B.notSynchronized htab hE ⟨_, rfl⟩ ?_
  intro v w1 H locs pc ls k n hdg hpost hP1 hD1 hS1 hk hn'
  refine vx_ret ?_
  refine W.widen hk hn' ?_
  exact W.zret (v := v) B.exec B.bytes B.returns (hty v w1 hpost) (fun t ht hW => ⟨⟨v, w1, rfl, hpost, by rw [ht]; exact hP1, hD1⟩, hS1.F ht⟩) hS1.2.2 hdg B.notSynchronized
theorem ent_xv {post : va_W → Prop} (hy : plainName y.cls = true) (hn : (lg_sl av).length ≤ maxL)
    (body : ∀ (p : Program) (e : Env) (s : State) (m : MethodId) (args : Array Value) (below : List Frame) (meth : Method) (c : Code) (A : Nat → Prop) (Q : State → Prop) (ls : Array Slot),
      p.tables.exec = Jvm.exec → c.code = cc → c.maxLocals = maxL → s.vm.findClass y.cls = some m.cls → (∀ w ∈ wG, w.before args s = true) → s.heap.size = sz → (∀ q, s.heap.size ≤ q → A q) → va_P D vwCl w0 s.heap → va_D A w0 → va_S A s.heap s.heap [] → bK D ts s → lv_has ls maxL (lv_args 0 av) →
      meth.locks = false → (∀ x ∈ c.exceptionTable.toList, False) → bEV St sa A s s.heap → (∃ Qc, Q = vx_MQ below Qc (bX D A px) args s mc ms A) →
      (∀ (w1 : va_W) (H : Heap) (locs : List Loc) (pc : Nat) (ls : Array Slot) (k n : Nat), decode cc pc = .ok (.return_, 1) → post w1 → va_P D vwCl w1 H → va_D A w1 → va_S A s.heap H locs → k ≤ mc → n ≤ ms → W p l e rm s m args below meth c H locs k n Q (F0 m pc ls [])) →
      W p l e rm s m args below meth c s.heap [] 0 0 Q (F0 m 0 ls [])) : bXV l y (wY y cc maxL none) rm St sa D ts w0 sz av post px mc ms := by
  refine vx_ofW (cc := cc) (maxL := maxL) (ret := none) hy rfl ?_
  intro p e s m args below meth c s₁ B hml htab hv
  obtain ⟨rfl, hsz, hP, hK, hD0, hE⟩ := hv
  have hD := hD0.self (sz := sz)
  rw [lg_entry_eq]
  refine body p e s m av.toArray below meth c (va_A w0 sz) _ _ B.exec B.bytes hml (findClass_of_methodNamed B.named) (fun w h => atoms_spec (ws := _) B.pre w (List.mem_cons_of_mem _ h)) hsz (fun q h => Or.inr (hsz ▸ h)) hP hD va_S.rf hK (lv_entry av hn) B.notSynchronized htab hE ⟨_, rfl⟩ ?_
  intro w1 H locs pc ls k n hdg hpost hP1 hD1 hS1 hk hn'
  refine vx_ret ?_
  refine W.widen hk hn' ?_
  exact W.vret B.exec B.bytes B.returns (fun t ht hW => ⟨⟨w1, rfl, hpost, by rw [ht]; exact hP1, hD1⟩, hS1.F ht⟩) hS1.2.2 hdg B.notSynchronized
end BS4
section BS5
variable {p : Program} {l : Launch} {e : Env} {R : Room} {s : State} {m : MethodId} {args : Array Value} {below : List Frame} {meth : Method} {c : Code} {H : Heap} {locs : List Loc} {cells slots : Nat} {Q : State → Prop}
variable {D : va_G} {ts : List (ClassId × FieldType)} {A : Nat → Prop} {w0 w1 wc wr : va_W} {mc ms pc : Nat} {ls : Array Slot} {st0 rest : List Value} {a : Array Value} {St : List (String × Nat × String)} {sa : Nat → Nat} {px : String → va_W → Prop} {Qc : Array Value → State → Outcome → State → Prop}
theorem bs_E (hE : bEV St sa A s s.heap) (hD : va_D A w0) (hpm : w0.Perm (wc ++ wr)) (hS : va_S A s.heap H locs) (hA : ∀ q, s.heap.size ≤ q → A q) {U : State} (hU : U.heap = H) (hW : s.WarmedH U.vm) : bEV St sa (va_A wc H.size) U U.heap := by
  rw [hU]
  exact ((hE.kept hS.2.1).narrow (bs_free hD hpm hS hA)).moved hW
theorem prVx {ci q0 b : Nat} {fs As : List Value} {q : vw_C} (hE : bEV St sa A s s.heap) (hS : va_S A s.heap H locs) (hA : ∀ q, s.heap.size ≤ q → A q) (hK : bK D ts s) (hP : va_P D vwCl w0 H) (hD : va_D A w0) (hpm : w0.Perm (wc ++ wr)) (hc : vwCl[ci]? = some q) (he : wc[q0]? = some (b, .inr (ci, fs))) : PreV s H q.1 b (bPx St sa D ts wc H.size (.ref b :: As)) As :=
  ⟨bPx_blind, va_recv hK.1 (bs_subP hP hpm) hc he, fun U hU hW => ⟨rfl, by rw [hU], by rw [hU]; exact bs_subP hP hpm, bK.moved hW hK, (bs_sub (w := wc) hD hpm).weaken (fun _ _ _ _ => trivial), bs_E hE hD hpm hS hA hU hW⟩⟩
theorem prSx {As : List Value} (hE : bEV St sa A s s.heap) (hS : va_S A s.heap H locs) (hA : ∀ q, s.heap.size ≤ q → A q) (hK : bK D ts s) (hP : va_P D vwCl w0 H) (hD : va_D A w0) (hpm : w0.Perm (wc ++ wr)) : PreS s H (bPx St sa D ts wc H.size As) As :=
  ⟨bPx_blind, fun U hU hW => ⟨rfl, by rw [hU], by rw [hU]; exact bs_subP hP hpm, bK.moved hW hK, (bs_sub (w := wc) hD hpm).weaken (fun _ _ _ _ => trivial), bs_E hE hD hpm hS hA hU hW⟩⟩
theorem cax_i {post : Int32 → va_W → Prop} (hr : vx_Run p l e R s m args below meth c H locs cells slots mc ms (F0 m pc ls st0) rest (bI D (va_A wc H.size) post a) (bX D (va_A wc H.size) px) (va_A wc H.size)) (hpm : w0.Perm (wc ++ wr)) (hP : va_P D vwCl w0 H) (hD : va_D A w0) (hS : va_S A s.heap H locs) (hA : ∀ q, s.heap.size ≤ q → A q)
    (kx : ∀ (E : String) (ce : Cell) (q9 : Addr) (w1 : va_W) (H1 : Heap) (locs1 : List Loc), px E w1 → (∀ wn : va_W, (w1 ++ wr).Perm wn → va_P D vwCl wn H1 ∧ va_D A wn) → va_S A s.heap H1 locs1 → H1[q9]? = some ce → ce.vm = .none → s.vm.findClass E = some ce.cls → vx_W p l e R s m args below meth c H1 locs1 (cells + mc) (slots + ms) Q (F0 m pc ls rest) q9)
    (kk : ∀ (r : Int32) (w1 : va_W) (H1 : Heap) (locs1 : List Loc), post r w1 → (∀ wn : va_W, (w1 ++ wr).Perm wn → va_P D vwCl wn H1 ∧ va_D A wn) → va_S A s.heap H1 locs1 → W p l e R s m args below meth c H1 locs1 (cells + mc) (slots + ms) Q (F0 m (pc + 3) ls (.int r :: rest))) : W p l e R s m args below meth c H locs cells slots Q (F0 m pc ls st0) := by
  have hF := bs_free hD hpm hS hA
  refine vx_calli (S := va_W) (SX := va_W) (post := post) (px := fun _ => True) (B := bB D (va_A wc H.size)) (BX := fun E w1 t => px E w1 ∧ bB D (va_A wc H.size) w1 t) (A1 := va_A wc H.size) (AX := va_A wc H.size) hr hS (fun q _ h => hF q h) hF (fun q _ h => hF q h) (fun E ce q9 w1 t H1 locs1 ht hvm _ hB hz hk hS1 hce hcv hcl => ?_) (fun r w1 t H1 locs1 ht hvm hw hB hz hk hS1 => ?_)
  · obtain ⟨hpx, hP1, hD1⟩ := hB
    rw [ht] at hP1
    exact kx E ce q9 w1 H1 locs1 hpx (fun wn hpn => bs_join hP hD hpm hF hk hP1 hD1 hpn) hS1 hce hcv hcl
  · obtain ⟨hP1, hD1⟩ := hB
    rw [ht] at hP1
    exact kk r w1 H1 locs1 hw (fun wn hpn => bs_join hP hD hpm hF hk hP1 hD1 hpn) hS1
theorem cax_v {post : va_W → Prop} (hr : vx_Run p l e R s m args below meth c H locs cells slots mc ms (F0 m pc ls st0) rest (bV D (va_A wc H.size) post a) (bX D (va_A wc H.size) px) (va_A wc H.size)) (hpm : w0.Perm (wc ++ wr)) (hP : va_P D vwCl w0 H) (hD : va_D A w0) (hS : va_S A s.heap H locs) (hA : ∀ q, s.heap.size ≤ q → A q)
    (kx : ∀ (E : String) (ce : Cell) (q9 : Addr) (w1 : va_W) (H1 : Heap) (locs1 : List Loc), px E w1 → (∀ wn : va_W, (w1 ++ wr).Perm wn → va_P D vwCl wn H1 ∧ va_D A wn) → va_S A s.heap H1 locs1 → H1[q9]? = some ce → ce.vm = .none → s.vm.findClass E = some ce.cls → vx_W p l e R s m args below meth c H1 locs1 (cells + mc) (slots + ms) Q (F0 m pc ls rest) q9)
    (kk : ∀ (w1 : va_W) (H1 : Heap) (locs1 : List Loc), post w1 → (∀ wn : va_W, (w1 ++ wr).Perm wn → va_P D vwCl wn H1 ∧ va_D A wn) → va_S A s.heap H1 locs1 → W p l e R s m args below meth c H1 locs1 (cells + mc) (slots + ms) Q (F0 m (pc + 3) ls rest)) : W p l e R s m args below meth c H locs cells slots Q (F0 m pc ls st0) := by
  have hF := bs_free hD hpm hS hA
  refine vx_callv (S := va_W) (SX := va_W) (post := post) (px := fun _ => True) (B := bB D (va_A wc H.size)) (BX := fun E w1 t => px E w1 ∧ bB D (va_A wc H.size) w1 t) (A1 := va_A wc H.size) (AX := va_A wc H.size) hr hS (fun q _ h => hF q h) hF (fun q _ h => hF q h) (fun E ce q9 w1 t H1 locs1 ht hvm _ hB hz hk hS1 hce hcv hcl => ?_) (fun w1 t H1 locs1 ht hvm hw hB hz hk hS1 => ?_)
  · obtain ⟨hpx, hP1, hD1⟩ := hB
    rw [ht] at hP1
    exact kx E ce q9 w1 H1 locs1 hpx (fun wn hpn => bs_join hP hD hpm hF hk hP1 hD1 hpn) hS1 hce hcv hcl
  · obtain ⟨hP1, hD1⟩ := hB
    rw [ht] at hP1
    exact kk w1 H1 locs1 hw (fun wn hpn => bs_join hP hD hpm hF hk hP1 hD1 hpn) hS1
/-- a callee's exception goes on to the caller -/
theorem ps_x (hQ : ∃ Qc, Q = vx_MQ below Qc (bX D A px) args s mc ms A) (hlocks : meth.locks = false) (htab : ∀ x ∈ c.exceptionTable.toList, False) {E : String} {ce : Cell} {q : Addr} (hpx : px E w1) (hP : va_P D vwCl w1 H) (hD : va_D A w1) (hS : va_S A s.heap H locs) (hcell : H[q]? = some ce) (hv : ce.vm = .none) (hcl : s.vm.findClass E = some ce.cls) (hc : cells ≤ mc) (hs : slots ≤ ms) :
    vx_W p l e R s m args below meth c H locs cells slots Q (F0 m pc ls rest) q := by
  obtain ⟨Qc, rfl⟩ := hQ
  exact vx_out (fun x hx => (htab x hx).elim) hlocks hcell hv hcl (fun t ht hvm => ⟨w1, trivial, ⟨hpx, by rw [ht]; exact hP, hD⟩, hS.F ht⟩) hS.2.2 hc hs
/-- throw new E("text") -/
theorem th_S {cc : ByteArray} (hQ : ∃ Qc, Q = vx_MQ below Qc (bX D A px) args s mc ms A) (hexec : p.tables.exec = Jvm.exec) (hb : c.code = cc) (hl : l.stackTraces = false) {own cls text : String} {names : List String} {ik is ic : Nat} (hlocks : meth.locks = false) (htab : ∀ x ∈ c.exceptionTable.toList, False)
    (hown : s.vm.findClass own = some m.cls) (hcls : Bundle.fit cls = true) (hnames : ∀ n ∈ names, Bundle.fit n = true)
    (hk : (Cond.classLink own ik cls).before args s = true) (hini : (Cond.initialized cls).before args s = true) (hat : ∀ w ∈ vx_atS own ic cls names, w.before args s = true)
    (hgood : ∀ w ∈ Cond.classLink own ik cls :: Cond.initialized cls :: vx_atS own ic cls names, vx_ot w = true)
    (hE : bEV St sa A s s.heap) (i : Nat) (hi : St[i]? = some (own, is, text)) (hpx : px cls w1) (hP : va_P D vwCl w1 H) (hD : va_D A w1) (hS : va_S A s.heap H locs) (hsize : ls.size = c.maxLocals)
    (d0 : decode cc pc = .ok (.new ik, 3)) (d3 : decode cc (pc + 3) = .ok (.dup, 1)) (d4 : decode cc (pc + 4) = .ok (.ldc is, 2)) (d6 : decode cc (pc + 6) = .ok (.invokespecial ic, 3)) (d9 : decode cc (pc + 9) = .ok (.athrow, 1))
    (hRframes : names.length + 3 < R.frames) (hRlocals : (rest.map fun v => v.category).sum + (13 * (names.length + 1) + 43) ≤ R.locals) (hRcells : cells + 1 ≤ R.cells) (hRslots : slots + 6 ≤ R.slots) (hc : cells + 1 ≤ mc) (hs : slots + 6 ≤ ms) :
    W p l e R s m args below meth c H locs cells slots Q (F0 m pc ls rest) := by
  obtain ⟨Qc, rfl⟩ := hQ
  refine vx_throwS hexec hb hl hown hcls hnames hk hini (hE.2.2 i _ hi) hat hgood hE.1 hE.2.1 hS hsize d0 d3 d4 d6 d9 (fun x hx => (htab x hx).elim) hRframes hRlocals hRcells hRslots hlocks (fun t hvm hz hq => ⟨w1, trivial, ⟨hpx, bs_of fun q hq9 => (bs_at hP hq9).kept (hq _ (bs_at hP hq9).lt), hD⟩, Nat.le_trans hS.1 hz, fun q hq9 hA9 => (hq q (Nat.lt_of_lt_of_le hq9 hS.1)).trans (hS.2.1 q hq9 hA9)⟩) hS.2.2 hc hs
end BS5
