/-! BASE 2: methods with a table of handlers, that answer an int and throw nothing -/
abbrev xIA : String := "java/lang/IllegalArgumentException"
abbrev xIS : String := "java/lang/IllegalStateException"
abbrev xNS : String := "java/util/NoSuchElementException"
def lNc (U : State) : Prop := va_Nc xIS xIA U ∧ va_Nc xIA xNS U ∧ va_Nc xIS xNS U
theorem lNc.moved {u U : State} (hvm : u.vm.Alike U.vm) (h : lNc u) : lNc U := ⟨va_Nc.moved hvm h.1, va_Nc.moved hvm h.2.1, va_Nc.moved hvm h.2.2⟩
theorem lNc.same {u U : State} (hv : U.vm = u.vm) (h : lNc u) : lNc U := lNc.moved (by rw [hv]; exact Vm.Alike.refl _) h
def lwP (St : List (String × Nat × String)) (sa : Nat → Nat) (D : va_G) (ts : List (ClassId × FieldType)) (w : va_W) (sz : Nat) (av : List Value) : Array Value → State → Prop := va_Pc av (fun U => U.heap.size = sz ∧ va_P D vwCl w U.heap ∧ bK D ts U ∧ va_D (fun _ => True) w ∧ bEV St sa (va_A w sz) U U.heap ∧ lNc U)
theorem lwP_blind {St : List (String × Nat × String)} {sa : Nat → Nat} {D : va_G} {ts : List (ClassId × FieldType)} {w : va_W} {sz : Nat} {av : List Value} : FrameBlind (lwP St sa D ts w sz av) := fun a U g mk q => by
  obtain ⟨q0, q1, qP, qK, qD, qE, qN⟩ := q
  exact ⟨q0, q1, qP, bK.same (s := U) (U := U.calling g mk a) rfl qK, qD, bEV.same (u := U) (U := U.calling g mk a) rfl qE, lNc.same (u := U) (U := U.calling g mk a) rfl qN⟩
abbrev wZ (y : MethodName) (cc : ByteArray) (n : Nat) (r : Option FieldType) (hh : List (Nat × Nat × Nat × Nat)) : List Cond := Cond.codeWith y cc n r hh :: wG
theorem wZ_in {y : MethodName} {cc : ByteArray} {n : Nat} {r : Option FieldType} {hh : List (Nat × Nat × Nat × Nat)} (h : Cond.codeWith y cc n r hh ∈ wG) : GoodIn wG (wZ y cc n r hh) := fun w hw => by
  rcases List.mem_cons.mp hw with rfl | hw
  · exact ⟨h, wG_good _ h⟩
  · exact ⟨hw, wG_good _ hw⟩
abbrev bHI (l : Launch) (y : MethodName) (ws : List Cond) (rm : Room) (St : List (String × Nat × String)) (sa : Nat → Nat) (D : va_G) (ts : List (ClassId × FieldType)) (w : va_W) (sz : Nat) (av : List Value) (post : Int32 → va_W → Prop) (mc ms : Nat) : Prop := Met l y ws rm (lwP St sa D ts w sz av) (bI D (va_A w sz) post) mc ms (va_A w sz)
theorem cwH9 {R : Room} {s : State} {args : Array Value} {own : String} {index maxL f mc ms : Nat} {y : MethodName} {bytes : ByteArray} {ret : Option FieldType} {hh : List (Nat × Nat × Nat × Nat)} (n : Nat) (hts : ∀ w ∈ wG, w.before args s = true) (hcd : Cond.codeWith y bytes maxL ret hh ∈ wG) (hl : Cond.methodLink own index y ∈ wG) (hst : Cond.static y ∈ wG) (hin : Cond.initialized y.cls ∈ wG)
    (hd : y.cls ≠ "java/lang/invoke/MethodHandle" ∧ y.cls ≠ "java/lang/invoke/VarHandle" ∧ (parseMethodDescriptor y.desc).map (fun d => d.parameters.length) = some n) (hR : f + 1 ≤ R.frames ∧ 8 + (maxL + 11) + 30 * f ≤ R.locals) : vx_CSW R s args own index y bytes maxL ret hh (wZ y bytes maxL ret hh) (rm9 f mc ms) mc ms n :=
  ⟨⟨rfl, rfl, hR.1, hR.2, pay_in hts (wZ_in hcd), List.mem_cons_self⟩, hts _ hcd, hts _ hin, ⟨hd.1, hd.2.1⟩, (fun sig h => by
    have h2 := hd.2.2
    rw [h] at h2
    exact (Option.some.inj h2).symm), hts _ hl, hts _ hst⟩
section BS6
variable {p : Program} {l : Launch} {e : Env} {R : Room} {s : State} {m : MethodId} {args : Array Value} {below : List Frame} {meth : Method} {c : Code} {H : Heap} {locs : List Loc} {cells slots : Nat} {Q : State → Prop}
variable {D : va_G} {ts : List (ClassId × FieldType)} {A : Nat → Prop} {w0 w1 wc wr : va_W} {mc ms pc : Nat} {ls : Array Slot} {st0 rest : List Value} {a : Array Value} {St : List (String × Nat × String)} {sa : Nat → Nat}
theorem prH {As : List Value} (hE : bEV St sa A s s.heap) (hN : lNc s) (hS : va_S A s.heap H locs) (hA : ∀ q, s.heap.size ≤ q → A q) (hK : bK D ts s) (hP : va_P D vwCl w0 H) (hD : va_D A w0) (hpm : w0.Perm (wc ++ wr)) : PreS s H (lwP St sa D ts wc H.size As) As :=
  ⟨lwP_blind, fun U hU hW => ⟨rfl, by rw [hU], by rw [hU]; exact bs_subP hP hpm, bK.moved hW hK, (bs_sub (w := wc) hD hpm).weaken (fun _ _ _ _ => trivial), bs_E hE hD hpm hS hA hU hW, lNc.moved hW.alike hN⟩⟩
end BS6
section BS7
variable {l : Launch} {y : MethodName} {rm : Room} {cc : ByteArray} {maxL : Nat} {D : va_G} {ts : List (ClassId × FieldType)} {w0 : va_W} {sz mc ms : Nat} {av : List Value} {St : List (String × Nat × String)} {sa : Nat → Nat} {hh : List (Nat × Nat × Nat × Nat)}
theorem ent_h {post : Int32 → va_W → Prop} (hy : plainName y.cls = true) (hn : (lg_sl av).length ≤ maxL)
    (body : ∀ (p : Program) (e : Env) (s : State) (m : MethodId) (args : Array Value) (below : List Frame) (meth : Method) (c : Code) (A : Nat → Prop) (Q : State → Prop) (ls : Array Slot),
      p.tables.exec = Jvm.exec → c.code = cc → c.maxLocals = maxL → s.vm.findClass y.cls = some m.cls → (∀ w ∈ wG, w.before args s = true) → s.heap.size = sz → (∀ q, s.heap.size ≤ q → A q) → va_P D vwCl w0 s.heap → va_D A w0 → va_S A s.heap s.heap [] → bK D ts s → lv_has ls maxL (lv_args 0 av) →
      c.exceptionTable.toList = tableOf hh → bEV St sa A s s.heap → lNc s →
      (∀ (v : Int32) (w1 : va_W) (H : Heap) (locs : List Loc) (pc : Nat) (ls : Array Slot) (k n : Nat), decode cc pc = .ok (.ireturn, 1) → post v w1 → va_P D vwCl w1 H → va_D A w1 → va_S A s.heap H locs → k ≤ mc → n ≤ ms → W p l e rm s m args below meth c H locs k n Q (F0 m pc ls [.int v])) →
      W p l e rm s m args below meth c s.heap [] 0 0 Q (F0 m 0 ls [])) : bHI l y (wZ y cc maxL (some .int) hh) rm St sa D ts w0 sz av post mc ms := by
  refine va_MetW (cc := cc) (maxL := maxL) (ret := some .int) (hh := hh) hy rfl ?_
  intro p e s m args below meth c s₁ B hml hv
  obtain ⟨rfl, hsz, hP, hK, hD0, hE, hN⟩ := hv
  have hD := hD0.self (sz := sz)
  have htab := vx_table (x := y) B (atoms_spec (ws := _) B.pre _ List.mem_cons_self)
  rw [lg_entry_eq]
  refine body p e s m av.toArray below meth c (va_A w0 sz) _ _ B.exec B.bytes hml (findClass_of_methodNamed B.named) (fun w h => atoms_spec (ws := _) B.pre w (List.mem_cons_of_mem _ h)) hsz (fun q h => Or.inr (hsz ▸ h)) hP hD va_S.rf hK (lv_entry av hn) htab hE hN ?_
  intro v w1 H locs pc ls k n hdg hpost hP1 hD1 hS1 hk hn'
  refine W.widen hk hn' ?_
  exact W.zret (v := v) B.exec B.bytes B.returns rfl (fun t ht hW => ⟨⟨v, w1, rfl, hpost, by rw [ht]; exact hP1, hD1⟩, hS1.F ht⟩) hS1.2.2 hdg B.notSynchronized
end BS7
theorem pm_cm1 (q : Nat × va_E) (w : va_W) : (q :: w).Perm (w ++ [q]) := (List.perm_append_singleton q w).symm
theorem pm_cm2 (q : Nat × va_E) (w : va_W) : (w ++ [q]).Perm (q :: w) := List.perm_append_singleton q w
