/-! throwing: the words of a throw; what the checks ask -/
theorem xm_I : ∀ w ∈ vx_atS RS 45 "java/lang/IllegalArgumentException" ["java/lang/RuntimeException", "java/lang/Exception"], w ∈ wG ∨ w ∈ nW := by decide +kernel
theorem xa_I {args : Array Value} {s : State} (hts : ∀ w ∈ wG, w.before args s = true) (hn : ∀ w ∈ nW, va_Nw w s) : ∀ w ∈ vx_atS RS 45 "java/lang/IllegalArgumentException" ["java/lang/RuntimeException", "java/lang/Exception"], w.before args s = true := fun w hw => (xm_I w hw).elim (hts w) (fun h => va_Nw.use (nW_tab w h) (hn w h))
theorem xg_I : ∀ ik, ∀ w ∈ Cond.classLink RS ik "java/lang/IllegalArgumentException" :: Cond.initialized "java/lang/IllegalArgumentException" :: vx_atS RS 45 "java/lang/IllegalArgumentException" ["java/lang/RuntimeException", "java/lang/Exception"], vx_ot w = true := fun ik w hw => by
  rcases List.mem_cons.mp hw with rfl | hw
  · rfl
  · exact (show ∀ w ∈ Cond.initialized "java/lang/IllegalArgumentException" :: vx_atS RS 45 "java/lang/IllegalArgumentException" ["java/lang/RuntimeException", "java/lang/Exception"], vx_ot w = true by decide +kernel) w hw
theorem xm_S : ∀ w ∈ vx_atS RS 60 "java/lang/IllegalStateException" ["java/lang/RuntimeException", "java/lang/Exception"], w ∈ wG ∨ w ∈ nW := by decide +kernel
theorem xa_S {args : Array Value} {s : State} (hts : ∀ w ∈ wG, w.before args s = true) (hn : ∀ w ∈ nW, va_Nw w s) : ∀ w ∈ vx_atS RS 60 "java/lang/IllegalStateException" ["java/lang/RuntimeException", "java/lang/Exception"], w.before args s = true := fun w hw => (xm_S w hw).elim (hts w) (fun h => va_Nw.use (nW_tab w h) (hn w h))
theorem xg_S : ∀ ik, ∀ w ∈ Cond.classLink RS ik "java/lang/IllegalStateException" :: Cond.initialized "java/lang/IllegalStateException" :: vx_atS RS 60 "java/lang/IllegalStateException" ["java/lang/RuntimeException", "java/lang/Exception"], vx_ot w = true := fun ik w hw => by
  rcases List.mem_cons.mp hw with rfl | hw
  · rfl
  · exact (show ∀ w ∈ Cond.initialized "java/lang/IllegalStateException" :: vx_atS RS 60 "java/lang/IllegalStateException" ["java/lang/RuntimeException", "java/lang/Exception"], vx_ot w = true by decide +kernel) w hw
theorem xm_N : ∀ w ∈ xtS RS 134 "java/util/NoSuchElementException" 13 prog_14_method_4_code "java/lang/RuntimeException" ["java/lang/Exception"], w ∈ wG ∨ w ∈ nW := by decide +kernel
theorem xa_N {args : Array Value} {s : State} (hts : ∀ w ∈ wG, w.before args s = true) (hn : ∀ w ∈ nW, va_Nw w s) : ∀ w ∈ xtS RS 134 "java/util/NoSuchElementException" 13 prog_14_method_4_code "java/lang/RuntimeException" ["java/lang/Exception"], w.before args s = true := fun w hw => (xm_N w hw).elim (hts w) (fun h => va_Nw.use (nW_tab w h) (hn w h))
theorem xg_N : ∀ ik, ∀ w ∈ Cond.classLink RS ik "java/util/NoSuchElementException" :: Cond.initialized "java/util/NoSuchElementException" :: xtS RS 134 "java/util/NoSuchElementException" 13 prog_14_method_4_code "java/lang/RuntimeException" ["java/lang/Exception"], vx_ot w = true := fun ik w hw => by
  rcases List.mem_cons.mp hw with rfl | hw
  · rfl
  · exact (show ∀ w ∈ Cond.initialized "java/util/NoSuchElementException" :: xtS RS 134 "java/util/NoSuchElementException" 13 prog_14_method_4_code "java/lang/RuntimeException" ["java/lang/Exception"], vx_ot w = true by decide +kernel) w hw
theorem xd_0 : decode prog_14_method_4_code 0 = .ok (.aload_n 0, 1) := by decide +kernel
theorem xd_1 : decode prog_14_method_4_code 1 = .ok (.aload_n 1, 1) := by decide +kernel
theorem xd_2 : decode prog_14_method_4_code 2 = .ok (.invokespecial 13, 3) := by decide +kernel
theorem xd_5 : decode prog_14_method_4_code 5 = .ok (.return_, 1) := by decide +kernel
theorem xn_fit1 : ∀ n ∈ (["java/lang/Exception"] : List String), Bundle.fit n = true := by decide +kernel
theorem xn_fit : ∀ n ∈ (["java/lang/RuntimeException", "java/lang/Exception"] : List String), Bundle.fit n = true := by decide +kernel
def prB (x : Int32) : Bool := decide (0 ≤ x) && decide (x < nI 24)
theorem prB_t {x : Int32} (h : prB x = true) : ∃ p : Nat, p < 24 ∧ x = nI p := by
  simp only [prB, Bool.and_eq_true, decide_eq_true_eq] at h
  have h0 : ¬ x < 0 := by rw [Int32.not_lt]; exact h.1
  obtain ⟨j, hj, rfl⟩ := nI_of h0
  rw [nI_ltI hj (by decide)] at h
  exact ⟨j, h.2, rfl⟩
theorem prB_lt {x : Int32} (h : x < 0) : prB x = false := by
  have h1 : ¬ (0 : Int32) ≤ x := by rw [Int32.not_le]; exact h
  simp [prB, h1]
theorem prB_nlt {x : Int32} (h : ¬ x < nI 24) : prB x = false := by simp [prB, h]
theorem prB_ok {x : Int32} (h0 : ¬ x < 0) (h : x < nI 24) : prB x = true := by
  have h1 : (0 : Int32) ≤ x := by rw [← Int32.not_lt]; exact h0
  simp [prB, h1, h]
def vlB (p v : Int32) : Bool := decide (0 ≤ v) && decide (v ≤ grt p)
def nvB (p v : Int32) : Bool := decide (v = -1) || vlB p v
def okB (th kd : Nat → Int32) (x y : Int32) : Bool := decide (x = -1) || (hsB 64 th x && decide (kd x.toNatClampNeg = y))
theorem fdF_in {f : Nat → Bool} : ∀ (n i : Nat), fdF f n i = -1 ∨ ∃ j : Nat, i ≤ j ∧ j < i + n ∧ fdF f n i = nI j ∧ f j = true := by
  intro n
  induction n with
  | zero => intro i; exact Or.inl rfl
  | succ n ih =>
    intro i
    by_cases h : f i = true
    · exact Or.inr ⟨i, Nat.le_refl i, by omega, by simp [fdF, h], h⟩
    · have e : fdF f (n + 1) i = fdF f n (i + 1) := by simp [fdF, h]
      rw [e]
      rcases ih (i + 1) with h1 | ⟨j, h1, h2, h3, h4⟩
      · exact Or.inl h1
      · exact Or.inr ⟨j, by omega, by omega, h3, h4⟩
section RWC
variable {p : Program} {l : Launch} {e : Env} {R : Room} {s : State} {m : MethodId} {args : Array Value} {below : List Frame} {meth : Method} {c : Code} {H : Heap} {locs : List Loc} {cells slots : Nat} {Q : State → Prop}
variable {cc : ByteArray} {pc : Nat} {ls : Array Slot} {rest : List Value} {D : va_G} {cl : List vw_C} {A : Nat → Prop} {a : Nat} {tys : List (ClassId × FieldType)} {ws : va_W} {H0 : Heap}
/-- 24 ints copied -/
theorem rw_copy (hexec : p.tables.exec = Jvm.exec) (hb : c.code = cc) (hml : c.maxLocals = ls.size) {own : String} {index : Nat} (hown : s.vm.findClass own = some m.cls) (hlink : (Cond.methodLink own index arraycopyName).before args s = true) (hnat : (Cond.native arraycopyName).before args s = true) (hstat : (Cond.static arraycopyName).before args s = true) (hini : (Cond.initialized "java/lang/System").before args s = true)
    (hK : va_K D cl tys s) (hP : va_P D cl ws H) (hD : va_D A ws) (hS : va_S A H0 H locs) (q0 q1 t0 : Nat) {a0 : Nat} {c0 : ClassId} {f g : Nat → Int32} (ha0 : ws[q0]? = some (a0, .inl (c0, 24, .inl f))) (ha1 : ws[q1]? = some (a, .inl (c0, 24, .inl g))) (ht0 : tys[t0]? = some (c0, .int))
    (hframes : 1 ≤ R.frames) (hlocals : (rest.map fun v => v.category).sum + (nativeFrameWords "java/lang/System" "arraycopy" 5 + 11) ≤ R.locals) (hdg : decode cc pc = .ok (.invokestatic index, 3)) {wn : va_W} (hw : ws.set q1 (a, .inl (c0, 24, .inl (va_cpy f g 0 0 24))) = wn)
    (kk : ∀ (H1 : Heap) (locs1 : List Loc), va_P D cl wn H1 → va_D A wn → va_S A H0 H1 locs1 → W p l e R s m args below meth c H1 locs1 cells slots Q (F0 m (pc + 3) ls rest)) : W p l e R s m args below meth c H locs cells slots Q (F0 m pc ls (.int (nI 24) :: .int (nI 0) :: .ref a :: .int (nI 0) :: .ref a0 :: rest)) := by
  subst hw
  refine va_copyi hexec hb hml hown hlink hnat hstat hini hK hP hD hS q0 q1 t0 t0 ha0 ha1 ht0 ht0 rfl (by decide) (by decide) (by decide) (by decide) (by decide) (fun i _ => rfl) hframes hlocals hdg ?_
  rw [show (nI 0).toNatClampNeg = 0 by decide, show (nI 24).toNatClampNeg = 24 by decide]
  exact kk
end RWC
section CX2
variable {k : Nat → ClassId} {a r t : Nat → Nat} {th kd bs us sth mk dr : Nat → Int32} {M sM : Nat → Nat → Int32}
theorem gR_adr (c : ClassId) (r : Nat → Nat) (n : Nat) (M M' : Nat → Nat → Int32) : (gRows c r n M).map (fun q => q.1) = (gRows c r n M').map (fun q => q.1) := by
  unfold gRows
  rw [List.map_map, List.map_map]
  rfl
theorem cx_cellT {D : va_G} {H : Heap} {j : Nat} {f g : Nat → Int32} (h : ∀ p, p < 24 → f p = g p) (hP : va_P D vwCl (cxW k a r t th kd bs us sth mk dr M (va_up sM j f)) H) : va_P D vwCl (cxW k a r t th kd bs us sth mk dr M (va_up sM j g)) H := by
  refine bs_of fun q hq => ?_
  have hq2 : q ∈ cxF k a r t th kd bs us sth mk dr ++ (gRows (k 0) r 64 M ++ gRows (k 0) t 256 (va_up sM j g)) := hq
  rcases List.mem_append.mp hq2 with h1 | h1
  · exact bs_at hP (List.mem_append_left _ h1)
  · rcases List.mem_append.mp h1 with h2 | h2
    · exact bs_at hP (List.mem_append_right _ (List.mem_append_left _ h2))
    · obtain ⟨i, hi, rfl⟩ := List.mem_map.mp h2
      have h3 := bs_at hP (q := gRow (k 0) t (va_up sM j f) i) (List.mem_append_right _ (List.mem_append_right _ (List.mem_map.mpr ⟨i, hi, rfl⟩)))
      by_cases e : i = j
      · subst e
        have e1 : gRow (k 0) t (va_up sM i f) i = (t i, .inl (k 0, 24, .inl f)) := by simp [gRow, va_up]
        have e2 : gRow (k 0) t (va_up sM i g) i = (t i, .inl (k 0, 24, .inl g)) := by simp [gRow, va_up]
        rw [e1] at h3
        rw [e2]
        show H[t i]? = some (vp_cell (k 0) (24, .inl g))
        rw [← ce_eq h]
        exact h3
      · have e1 : gRow (k 0) t (va_up sM j g) i = gRow (k 0) t (va_up sM j f) i := by simp [gRow, va_up, e]
        rw [e1]
        exact h3
theorem cx_adrT {A : Nat → Prop} {sM' : Nat → Nat → Int32} (hD : va_D A (cxW k a r t th kd bs us sth mk dr M sM)) : va_D A (cxW k a r t th kd bs us sth mk dr M sM') := by
  refine bs_adr hD ?_
  show (cxF k a r t th kd bs us sth mk dr ++ (gRows (k 0) r 64 M ++ gRows (k 0) t 256 sM)).map (fun q => q.1) = (cxF k a r t th kd bs us sth mk dr ++ (gRows (k 0) r 64 M ++ gRows (k 0) t 256 sM')).map (fun q => q.1)
  rw [List.map_append, List.map_append, List.map_append, List.map_append, gR_adr (k 0) t 256 sM sM']
end CX2
def ndF (sth dr : Nat → Int32) (sM : Nat → Nat → Int32) : Int32 := fdF (fun i => decide (sth i ≠ 0) && eqF (sM i) dr 24) 256 0
def frF (th : Nat → Int32) (n : Nat) : Int32 := fdF (fun i => decide (th i = 0)) n 0

set_option maxRecDepth 100000 in
set_option maxHeartbeats 4000000 in
theorem c_requireStyle (l : Launch) (D : va_G) (k : Nat → ClassId) (a r t : Nat → Nat) (th kd bs us sth mk dr : Nat → Int32) (M sM : Nat → Nat → Int32) (sa : Nat → Nat) (hl9 : l.stackTraces = false) (x : Int32) (sz : Nat) : bXV l y_S_requireStyle (wY y_S_requireStyle b_S_requireStyle 2 none) (rm9 6 1 6) Sts sa D (tsK k) (cxW k a r t th kd bs us sth mk dr M sM) sz [.ref (a 0), .int x] (fun w => w = cxW k a r t th kd bs us sth mk dr M sM ∧ hsB 64 th x = true) (fun E w => E = "java/util/NoSuchElementException" ∧ hsB 64 th x = false ∧ w = cxW k a r t th kd bs us sth mk dr M sM) 1 6 := by
  refine ent_xv (cc := b_S_requireStyle) (maxL := 2) (by decide) (Nat.le_of_ble_eq_true rfl) ?_
  intro p e s m args below meth c A Q ls hx hb hml hown hts hsz hA hP hD hS hK hl hlk htb hE hQ hret
  refine lv_aload_n hx hb d_S_requireStyle_0 rfl (lv_at hl 0 rfl) ?_
  refine va_get (D := D) (ci := ciSS) (v := .ref (a 1)) (C := RS) (T := TS) (N := 7) hx hb hts inS hown hK.1 hP 0 rfl rfl 0 (by decide) (hts _ wd_46) (fun _ h9 => h9) rfl d_S_requireStyle_1 ?_
  refine lv_iload_n hx hb d_S_requireStyle_4 rfl (lv_at hl 1 rfl) ?_
  obtain ⟨wr, hwr⟩ := cx_S (k := k) (a := a) (r := r) (t := t) (kd := kd) (bs := bs) (us := us) (sth := sth) (mk := mk) (dr := dr) (M := M) (sM := sM)
  refine cal_i (wc := tbF k (a 1) (a 8) (a 9) r 64 th) (wr := wr) (va_runVN (As := [.int x]) (rest := []) ⟨hx, hb, hml, hown, hts⟩ (c_has l D k (a 1) (a 8) (a 9) r 64 (by decide) th x s.heap.size) (cwN9 1 hts wd_75 (hK.2.1 (.methodLinkNest "StyleSheet" 64 ⟨"StyleSheet$Table", "has", "(I)Z"⟩ "StyleSheet") (by decide)) wd_74 ws_1 wd_2 (by decide) ⟨Nat.le_of_ble_eq_true rfl, Nat.le_of_ble_eq_true rfl⟩) (prV (q0 := 0) (ci := ciTb) hK hP hD (hwr _) rfl rfl) rfl rfl hl.1 rfl (lv_room (Nat.le_of_ble_eq_true rfl)) d_S_requireStyle_5 ⟨by decide, by decide⟩) (hwr _) hP hD hS hA (fun r w1 H locs hw hpd hS => ?_)
  obtain ⟨rfl, rfl⟩ := hw
  obtain ⟨hP, hD⟩ := hpd (cxW k a r t th kd bs us sth mk dr M sM) (hwr _).symm
  refine lv_if_ne (tgt := 21) hx hb d_S_requireStyle_8 (by decide) (fun c8 => ?_) (fun c8 => ?_)
  · skip
    have c8 := b_of1 c8
    exact hret _ _ _ _ _ _ _ d_S_requireStyle_21 ⟨rfl, c8⟩ hP hD hS (by decide) (by decide)
  · skip
    have c8 := b_of0 c8
    exact th_N hQ hx hb hl9 xd_0 xd_1 xd_2 xd_5 hlk htb hown (by decide) (by decide) xn_fit1 (hts _ wd_226) (hts _ wd_10) (xa_N hts hK.2.1) (xg_N 130) hE 3 rfl ⟨rfl, c8, rfl⟩ hP hD hS (hl.1.trans hml.symm) d_S_requireStyle_11 d_S_requireStyle_14 d_S_requireStyle_15 d_S_requireStyle_17 d_S_requireStyle_20 (by decide) (by decide) (by decide) (by decide) (by decide) (by decide)

set_option maxRecDepth 100000 in
set_option maxHeartbeats 4000000 in
theorem c_requireSet (l : Launch) (D : va_G) (k : Nat → ClassId) (a r t : Nat → Nat) (th kd bs us sth mk dr : Nat → Int32) (M sM : Nat → Nat → Int32) (sa : Nat → Nat) (hl9 : l.stackTraces = false) (x : Int32) (sz : Nat) : bXV l y_S_requireSet (wY y_S_requireSet b_S_requireSet 2 none) (rm9 6 1 6) Sts sa D (tsK k) (cxW k a r t th kd bs us sth mk dr M sM) sz [.ref (a 0), .int x] (fun w => w = cxW k a r t th kd bs us sth mk dr M sM ∧ hsB 256 sth x = true) (fun E w => E = "java/util/NoSuchElementException" ∧ hsB 256 sth x = false ∧ w = cxW k a r t th kd bs us sth mk dr M sM) 1 6 := by
  refine ent_xv (cc := b_S_requireSet) (maxL := 2) (by decide) (Nat.le_of_ble_eq_true rfl) ?_
  intro p e s m args below meth c A Q ls hx hb hml hown hts hsz hA hP hD hS hK hl hlk htb hE hQ hret
  refine lv_aload_n hx hb d_S_requireSet_0 rfl (lv_at hl 0 rfl) ?_
  refine va_get (D := D) (ci := ciSS) (v := .ref (a 5)) (C := RS) (T := TS) (N := 7) hx hb hts inS hown hK.1 hP 0 rfl rfl 4 (by decide) (hts _ wd_50) (fun _ h9 => h9) rfl d_S_requireSet_1 ?_
  refine lv_iload_n hx hb d_S_requireSet_4 rfl (lv_at hl 1 rfl) ?_
  obtain ⟨wr, hwr⟩ := cx_T (k := k) (a := a) (r := r) (t := t) (th := th) (kd := kd) (bs := bs) (us := us) (mk := mk) (dr := dr) (M := M) (sM := sM)
  refine cal_i (wc := tbF k (a 5) (a 10) (a 11) t 256 sth) (wr := wr) (va_runVN (As := [.int x]) (rest := []) ⟨hx, hb, hml, hown, hts⟩ (c_has l D k (a 5) (a 10) (a 11) t 256 (by decide) sth x s.heap.size) (cwN9 1 hts wd_75 (hK.2.1 (.methodLinkNest "StyleSheet" 64 ⟨"StyleSheet$Table", "has", "(I)Z"⟩ "StyleSheet") (by decide)) wd_74 ws_1 wd_2 (by decide) ⟨Nat.le_of_ble_eq_true rfl, Nat.le_of_ble_eq_true rfl⟩) (prV (q0 := 0) (ci := ciTb) hK hP hD (hwr _) rfl rfl) rfl rfl hl.1 rfl (lv_room (Nat.le_of_ble_eq_true rfl)) d_S_requireSet_5 ⟨by decide, by decide⟩) (hwr _) hP hD hS hA (fun r w1 H locs hw hpd hS => ?_)
  obtain ⟨rfl, rfl⟩ := hw
  obtain ⟨hP, hD⟩ := hpd (cxW k a r t th kd bs us sth mk dr M sM) (hwr _).symm
  refine lv_if_ne (tgt := 21) hx hb d_S_requireSet_8 (by decide) (fun c8 => ?_) (fun c8 => ?_)
  · skip
    have c8 := b_of1 c8
    exact hret _ _ _ _ _ _ _ d_S_requireSet_21 ⟨rfl, c8⟩ hP hD hS (by decide) (by decide)
  · skip
    have c8 := b_of0 c8
    exact th_N hQ hx hb hl9 xd_0 xd_1 xd_2 xd_5 hlk htb hown (by decide) (by decide) xn_fit1 (hts _ wd_226) (hts _ wd_10) (xa_N hts hK.2.1) (xg_N 130) hE 7 rfl ⟨rfl, c8, rfl⟩ hP hD hS (hl.1.trans hml.symm) d_S_requireSet_11 d_S_requireSet_14 d_S_requireSet_15 d_S_requireSet_17 d_S_requireSet_20 (by decide) (by decide) (by decide) (by decide) (by decide) (by decide)

set_option maxRecDepth 100000 in
set_option maxHeartbeats 4000000 in
theorem c_requireNoneOrOfKind (l : Launch) (D : va_G) (k : Nat → ClassId) (a r t : Nat → Nat) (th kd bs us sth mk dr : Nat → Int32) (M sM : Nat → Nat → Int32) (sa : Nat → Nat) (hl9 : l.stackTraces = false) (x y : Int32) (sz : Nat) : bXV l y_S_requireNoneOrOfKind (wY y_S_requireNoneOrOfKind b_S_requireNoneOrOfKind 3 none) (rm9 6 1 6) Sts sa D (tsK k) (cxW k a r t th kd bs us sth mk dr M sM) sz [.ref (a 0), .int x, .int y] (fun w => w = cxW k a r t th kd bs us sth mk dr M sM ∧ okB th kd x y = true) (fun E w => E = "java/lang/IllegalArgumentException" ∧ okB th kd x y = false ∧ w = cxW k a r t th kd bs us sth mk dr M sM) 1 6 := by
  refine ent_xv (cc := b_S_requireNoneOrOfKind) (maxL := 3) (by decide) (Nat.le_of_ble_eq_true rfl) ?_
  intro p e s m args below meth c A Q ls hx hb hml hown hts hsz hA hP hD hS hK hl hlk htb hE hQ hret
  refine lv_iload_n hx hb d_S_requireNoneOrOfKind_0 rfl (lv_at hl 1 rfl) ?_
  refine lv_iconst (v := -1) hx hb d_S_requireNoneOrOfKind_1 (by decide) ?_
  refine lv_icmp_eq (tgt := 36) hx hb d_S_requireNoneOrOfKind_2 (by decide) (fun c2 => ?_) (fun c2 => ?_)
  · skip
    exact hret _ _ _ _ _ _ _ d_S_requireNoneOrOfKind_36 ⟨rfl, by simp [okB, c2]⟩ hP hD hS (by decide) (by decide)
  · skip
    refine lv_aload_n hx hb d_S_requireNoneOrOfKind_5 rfl (lv_at hl 0 rfl) ?_
    refine va_get (D := D) (ci := ciSS) (v := .ref (a 1)) (C := RS) (T := TS) (N := 7) hx hb hts inS hown hK.1 hP 0 rfl rfl 0 (by decide) (hts _ wd_46) (fun _ h9 => h9) rfl d_S_requireNoneOrOfKind_6 ?_
    refine lv_iload_n hx hb d_S_requireNoneOrOfKind_9 rfl (lv_at hl 1 rfl) ?_
    obtain ⟨wr, hwr⟩ := cx_S (k := k) (a := a) (r := r) (t := t) (kd := kd) (bs := bs) (us := us) (sth := sth) (mk := mk) (dr := dr) (M := M) (sM := sM)
    refine cal_i (wc := tbF k (a 1) (a 8) (a 9) r 64 th) (wr := wr) (va_runVN (As := [.int x]) (rest := []) ⟨hx, hb, hml, hown, hts⟩ (c_has l D k (a 1) (a 8) (a 9) r 64 (by decide) th x s.heap.size) (cwN9 1 hts wd_75 (hK.2.1 (.methodLinkNest "StyleSheet" 64 ⟨"StyleSheet$Table", "has", "(I)Z"⟩ "StyleSheet") (by decide)) wd_74 ws_1 wd_2 (by decide) ⟨Nat.le_of_ble_eq_true rfl, Nat.le_of_ble_eq_true rfl⟩) (prV (q0 := 0) (ci := ciTb) hK hP hD (hwr _) rfl rfl) rfl rfl hl.1 rfl (lv_room (Nat.le_of_ble_eq_true rfl)) d_S_requireNoneOrOfKind_10 ⟨by decide, by decide⟩) (hwr _) hP hD hS hA (fun r w1 H locs hw hpd hS => ?_)
    obtain ⟨rfl, rfl⟩ := hw
    obtain ⟨hP, hD⟩ := hpd (cxW k a r t th kd bs us sth mk dr M sM) (hwr _).symm
    refine lv_if_eq (tgt := 26) hx hb d_S_requireNoneOrOfKind_13 (by decide) (fun c13 => ?_) (fun c13 => ?_)
    · skip
      have c13 := b_of0 c13
      exact th_S hQ hx hb hl9 hlk htb hown (by decide) xn_fit (hts _ wd_121) (hts _ wd_8) (xa_I hts hK.2.1) (xg_I 41) hE 1 rfl ⟨rfl, by simp [okB, c2, c13], rfl⟩ hP hD hS (hl.1.trans hml.symm) d_S_requireNoneOrOfKind_26 d_S_requireNoneOrOfKind_29 d_S_requireNoneOrOfKind_30 d_S_requireNoneOrOfKind_32 d_S_requireNoneOrOfKind_35 (by decide) (by decide) (by decide) (by decide) (by decide) (by decide)
    · skip
      have c13 := b_of1 c13
      obtain ⟨j, hj, rfl, hjt⟩ := hsB_t (by decide) c13
      refine lv_aload_n hx hb d_S_requireNoneOrOfKind_16 rfl (lv_at hl 0 rfl) ?_
      refine va_get (D := D) (ci := ciSS) (v := .ref (a 2)) (C := RS) (T := TS) (N := 7) hx hb hts inS hown hK.1 hP 0 rfl rfl 1 (by decide) (hts _ wd_47) (fun _ h9 => h9) rfl d_S_requireNoneOrOfKind_17 ?_
      refine lv_iload_n hx hb d_S_requireNoneOrOfKind_20 rfl (lv_at hl 1 rfl) ?_
      refine rw_iald hx hb hK.1 hP 2 0 rfl rfl (j := j) (by omega) (by decide) d_S_requireNoneOrOfKind_21 ?_
      refine lv_iload_n hx hb d_S_requireNoneOrOfKind_22 rfl (lv_at hl 2 rfl) ?_
      refine lv_icmp_eq (tgt := 36) hx hb d_S_requireNoneOrOfKind_23 (by decide) (fun c23 => ?_) (fun c23 => ?_)
      · skip
        exact hret _ _ _ _ _ _ _ d_S_requireNoneOrOfKind_36 ⟨rfl, by simp [okB, c13, nI_clamp (show j < 2 ^ 31 by omega), c23]⟩ hP hD hS (by decide) (by decide)
      · skip
        exact th_S hQ hx hb hl9 hlk htb hown (by decide) xn_fit (hts _ wd_121) (hts _ wd_8) (xa_I hts hK.2.1) (xg_I 41) hE 1 rfl ⟨rfl, by simp [okB, c2, c13, nI_clamp (show j < 2 ^ 31 by omega), c23], rfl⟩ hP hD hS (hl.1.trans hml.symm) d_S_requireNoneOrOfKind_26 d_S_requireNoneOrOfKind_29 d_S_requireNoneOrOfKind_30 d_S_requireNoneOrOfKind_32 d_S_requireNoneOrOfKind_35 (by decide) (by decide) (by decide) (by decide) (by decide) (by decide)

set_option maxRecDepth 100000 in
set_option maxHeartbeats 4000000 in
theorem c_requireProperty (l : Launch) (D : va_G) (k : Nat → ClassId) (sa : Nat → Nat) (hl9 : l.stackTraces = false) (x : Int32) (sz : Nat) : bXV l y_S_requireProperty (wY y_S_requireProperty b_S_requireProperty 1 none) (rm9 6 1 6) Sts sa D (tsK k) ([]) sz [.int x] (fun w => w = [] ∧ prB x = true) (fun E w => E = "java/lang/IllegalArgumentException" ∧ prB x = false ∧ w = []) 1 6 := by
  refine ent_xv (cc := b_S_requireProperty) (maxL := 1) (by decide) (Nat.le_of_ble_eq_true rfl) ?_
  intro p e s m args below meth c A Q ls hx hb hml hown hts hsz hA hP hD hS hK hl hlk htb hE hQ hret
  refine lv_iload_n hx hb d_S_requireProperty_0 rfl (lv_at hl 0 rfl) ?_
  refine lv_if_lt (tgt := 10) hx hb d_S_requireProperty_1 (by decide) (fun c1 => ?_) (fun c1 => ?_)
  · skip
    exact th_S hQ hx hb hl9 hlk htb hown (by decide) xn_fit (hts _ wd_121) (hts _ wd_8) (xa_I hts hK.2.1) (xg_I 41) hE 4 rfl ⟨rfl, prB_lt c1, rfl⟩ hP hD hS (hl.1.trans hml.symm) d_S_requireProperty_10 d_S_requireProperty_13 d_S_requireProperty_14 d_S_requireProperty_16 d_S_requireProperty_19 (by decide) (by decide) (by decide) (by decide) (by decide) (by decide)
  · skip
    refine lv_iload_n hx hb d_S_requireProperty_4 rfl (lv_at hl 0 rfl) ?_
    refine lv_bipush (v := nI 24) hx hb d_S_requireProperty_5 (by decide) ?_
    refine lv_icmp_lt (tgt := 20) hx hb d_S_requireProperty_7 (by decide) (fun c7 => ?_) (fun c7 => ?_)
    · skip
      exact hret _ _ _ _ _ _ _ d_S_requireProperty_20 ⟨rfl, prB_ok c1 c7⟩ hP hD hS (by decide) (by decide)
    · skip
      exact th_S hQ hx hb hl9 hlk htb hown (by decide) xn_fit (hts _ wd_121) (hts _ wd_8) (xa_I hts hK.2.1) (xg_I 41) hE 4 rfl ⟨rfl, prB_nlt c7, rfl⟩ hP hD hS (hl.1.trans hml.symm) d_S_requireProperty_10 d_S_requireProperty_13 d_S_requireProperty_14 d_S_requireProperty_16 d_S_requireProperty_19 (by decide) (by decide) (by decide) (by decide) (by decide) (by decide)

set_option maxRecDepth 100000 in
set_option maxHeartbeats 4000000 in
theorem c_requireValue (l : Launch) (D : va_G) (k : Nat → ClassId) (sa : Nat → Nat) (hl9 : l.stackTraces = false) (x v : Int32) (sz : Nat) : bXV l y_S_requireValue (wY y_S_requireValue b_S_requireValue 2 none) (rm9 6 1 6) Sts sa D (tsK k) ([]) sz [.int x, .int v] (fun w => w = [] ∧ vlB x v = true) (fun E w => E = "java/lang/IllegalArgumentException" ∧ vlB x v = false ∧ w = []) 1 6 := by
  refine ent_xv (cc := b_S_requireValue) (maxL := 2) (by decide) (Nat.le_of_ble_eq_true rfl) ?_
  intro p e s m args below meth c A Q ls hx hb hml hown hts hsz hA hP hD hS hK hl hlk htb hE hQ hret
  refine lv_iload_n hx hb d_S_requireValue_0 rfl (lv_at hl 1 rfl) ?_
  refine lv_if_lt (tgt := 12) hx hb d_S_requireValue_1 (by decide) (fun c1 => ?_) (fun c1 => ?_)
  · skip
    exact th_S hQ hx hb hl9 hlk htb hown (by decide) xn_fit (hts _ wd_121) (hts _ wd_8) (xa_I hts hK.2.1) (xg_I 41) hE 5 rfl ⟨rfl, by simp [vlB]; intro h; exact absurd c1 (Int32.not_lt.mpr h), rfl⟩ hP hD hS (hl.1.trans hml.symm) d_S_requireValue_12 d_S_requireValue_15 d_S_requireValue_16 d_S_requireValue_18 d_S_requireValue_21 (by decide) (by decide) (by decide) (by decide) (by decide) (by decide)
  · skip
    refine lv_iload_n hx hb d_S_requireValue_4 rfl (lv_at hl 1 rfl) ?_
    refine lv_iload_n hx hb d_S_requireValue_5 rfl (lv_at hl 0 rfl) ?_
    refine cal_i (wc := []) (wr := []) (va_runS (As := [.int x]) (rest := [.int v]) ⟨hx, hb, hml, hown, hts⟩ (c_greatest l D k x s.heap.size) (cwS9 1 hts wd_272 wd_270 wd_271 wd_1 (by decide) ⟨Nat.le_of_ble_eq_true rfl, Nat.le_of_ble_eq_true rfl⟩) (prS hK hP hD (List.Perm.refl _)) rfl rfl hl.1 rfl (lv_room (Nat.le_of_ble_eq_true rfl)) d_S_requireValue_6 ⟨by decide, by decide⟩) (List.Perm.refl _) hP hD hS hA (fun r w1 H locs hw hpd hS => ?_)
    obtain ⟨rfl, rfl⟩ := hw
    obtain ⟨hP, hD⟩ := hpd ([]) (List.Perm.refl _)
    refine lv_icmp_le (tgt := 22) hx hb d_S_requireValue_9 (by decide) (fun c9 => ?_) (fun c9 => ?_)
    · skip
      exact hret _ _ _ _ _ _ _ d_S_requireValue_22 ⟨rfl, by simp [vlB, c9]; rw [← Int32.not_lt]; exact c1⟩ hP hD hS (by decide) (by decide)
    · skip
      exact th_S hQ hx hb hl9 hlk htb hown (by decide) xn_fit (hts _ wd_121) (hts _ wd_8) (xa_I hts hK.2.1) (xg_I 41) hE 5 rfl ⟨rfl, by simp [vlB, c9], rfl⟩ hP hD hS (hl.1.trans hml.symm) d_S_requireValue_12 d_S_requireValue_15 d_S_requireValue_16 d_S_requireValue_18 d_S_requireValue_21 (by decide) (by decide) (by decide) (by decide) (by decide) (by decide)

set_option maxRecDepth 100000 in
set_option maxHeartbeats 4000000 in
theorem c_requireNoneOrValue (l : Launch) (D : va_G) (k : Nat → ClassId) (sa : Nat → Nat) (hl9 : l.stackTraces = false) (x v : Int32) (sz : Nat) : bXV l y_S_requireNoneOrValue (wY y_S_requireNoneOrValue b_S_requireNoneOrValue 2 none) (rm9 7 1 6) Sts sa D (tsK k) ([]) sz [.int x, .int v] (fun w => w = [] ∧ nvB x v = true) (fun E w => E = "java/lang/IllegalArgumentException" ∧ nvB x v = false ∧ w = []) 1 6 := by
  refine ent_xv (cc := b_S_requireNoneOrValue) (maxL := 2) (by decide) (Nat.le_of_ble_eq_true rfl) ?_
  intro p e s m args below meth c A Q ls hx hb hml hown hts hsz hA hP hD hS hK hl hlk htb hE hQ hret
  refine lv_iload_n hx hb d_S_requireNoneOrValue_0 rfl (lv_at hl 1 rfl) ?_
  refine lv_iconst (v := -1) hx hb d_S_requireNoneOrValue_1 (by decide) ?_
  refine lv_icmp_eq (tgt := 10) hx hb d_S_requireNoneOrValue_2 (by decide) (fun c2 => ?_) (fun c2 => ?_)
  · skip
    exact hret _ _ _ _ _ _ _ d_S_requireNoneOrValue_10 ⟨rfl, by simp [nvB, c2]⟩ hP hD hS (by decide) (by decide)
  · skip
    refine lv_iload_n hx hb d_S_requireNoneOrValue_5 rfl (lv_at hl 0 rfl) ?_
    refine lv_iload_n hx hb d_S_requireNoneOrValue_6 rfl (lv_at hl 1 rfl) ?_
    refine cax_v (wc := []) (wr := []) (vx_runS (As := [.int x, .int v]) (rest := []) ⟨hx, hb, hml, hown, hts⟩ (c_requireValue l D k sa hl9 x v s.heap.size) (cwS9 2 hts wd_269 wd_267 wd_268 wd_1 (by decide) ⟨Nat.le_of_ble_eq_true rfl, Nat.le_of_ble_eq_true rfl⟩) (prSx hE hS hA hK hP hD (List.Perm.refl _)) rfl rfl hl.1 rfl (lv_room (Nat.le_of_ble_eq_true rfl)) d_S_requireNoneOrValue_7 ⟨by decide, by decide⟩) (List.Perm.refl _) hP hD hS hA (fun E9 ce9 ad9 w1 H locs hpx hpd hS hce hcv hcl => ?_) (fun w1 H locs hw hpd hS => ?_)
    · skip
      obtain ⟨rfl, h9, rfl⟩ := hpx
      obtain ⟨hP, hD⟩ := hpd ([]) (List.Perm.refl _)
      exact ps_x hQ hlk htb ⟨rfl, by simp [nvB, c2, h9], rfl⟩ hP hD hS hce hcv hcl (by decide) (by decide)
    obtain ⟨rfl, hv⟩ := hw
    obtain ⟨hP, hD⟩ := hpd ([]) (List.Perm.refl _)
    exact hret _ _ _ _ _ _ _ d_S_requireNoneOrValue_10 ⟨rfl, by simp [nvB, hv]⟩ hP hD hS (by decide) (by decide)

set_option maxRecDepth 100000 in
set_option maxHeartbeats 4000000 in
theorem c_numberOfDraft (l : Launch) (D : va_G) (k : Nat → ClassId) (a r t : Nat → Nat) (th kd bs us sth mk dr : Nat → Int32) (M sM : Nat → Nat → Int32) (sa : Nat → Nat) (hl9 : l.stackTraces = false) (sz : Nat) : bXI l y_S_numberOfDraft (wY y_S_numberOfDraft b_S_numberOfDraft 3 (some .int)) (rm9 6 1 6) Sts sa D (tsK k) (cxW k a r t th kd bs us sth mk dr M sM) sz [.ref (a 0)] (fun v w => (¬ ndF sth dr sM = -1 ∧ v = ndF sth dr sM ∧ w = cxW k a r t th kd bs us sth mk dr M sM) ∨ (ndF sth dr sM = -1 ∧ ∃ j : Nat, j < 256 ∧ frF sth 256 = nI j ∧ v = nI j ∧ w = cxW k a r t th kd bs us (upd sth j (nI 1)) mk dr M (va_up sM j dr))) (fun E w => E = "java/lang/IllegalStateException" ∧ ndF sth dr sM = -1 ∧ frF sth 256 = -1 ∧ w = cxW k a r t th kd bs us sth mk dr M sM) 1 6 := by
  refine ent_xi (cc := b_S_numberOfDraft) (maxL := 3) (ty := .int) (by decide) (Nat.le_of_ble_eq_true rfl) (fun _ _ _ => rfl) ?_
  intro p e s m args below meth c A Q ls hx hb hml hown hts hsz hA hP hD hS hK hl hlk htb hE hQ hret
  refine lv_aload_n hx hb d_S_numberOfDraft_0 rfl (lv_at hl 0 rfl) ?_
  refine va_get (D := D) (ci := ciSS) (v := .ref (a 5)) (C := RS) (T := TS) (N := 7) hx hb hts inS hown hK.1 hP 0 rfl rfl 4 (by decide) (hts _ wd_50) (fun _ h9 => h9) rfl d_S_numberOfDraft_1 ?_
  refine lv_aload_n hx hb d_S_numberOfDraft_4 rfl (lv_at hl 0 rfl) ?_
  refine va_get (D := D) (ci := ciSS) (v := .ref (a 7)) (C := RS) (T := TS) (N := 7) hx hb hts inS hown hK.1 hP 0 rfl rfl 6 (by decide) (hts _ wd_52) (fun _ h9 => h9) rfl d_S_numberOfDraft_5 ?_
  obtain ⟨wr, hwr⟩ := cx_N (k := k) (a := a) (r := r) (t := t) (th := th) (kd := kd) (bs := bs) (us := us) (mk := mk) (dr := dr) (M := M)
  refine cal_i (wc := nbW k (a 5) (a 10) (a 11) (a 7) t 256 sth dr sM) (wr := wr) (va_runVN (As := [.ref (a 7)]) (rest := []) ⟨hx, hb, hml, hown, hts⟩ (c_numberOf l D k (a 5) (a 10) (a 11) t 256 (by decide) sth sM (a 7) dr s.heap.size) (cwN9 1 hts wd_335 (hK.2.1 (.methodLinkNest "StyleSheet" 152 ⟨"StyleSheet$Table", "numberOf", "([I)I"⟩ "StyleSheet") (by decide)) wd_334 ws_18 wd_2 (by decide) ⟨Nat.le_of_ble_eq_true rfl, Nat.le_of_ble_eq_true rfl⟩) (prV (q0 := 0) (ci := ciTb) hK hP hD (hwr _ _) rfl rfl) rfl rfl hl.1 rfl (lv_room (Nat.le_of_ble_eq_true rfl)) d_S_numberOfDraft_8 ⟨by decide, by decide⟩) (hwr _ _) hP hD hS hA (fun r w1 H locs hw hpd hS => ?_)
  obtain ⟨rfl, rfl⟩ := hw
  rw [show fdF (fun i => decide (sth i ≠ 0) && eqF (sM i) dr 24) 256 0 = ndF sth dr sM from rfl]
  obtain ⟨hP, hD⟩ := hpd (cxW k a r t th kd bs us sth mk dr M sM) (hwr _ _).symm
  refine lv_istore_n (lv' := [(1, .int (ndF sth dr sM)), (0, .ref (a 0))]) hx hb d_S_numberOfDraft_11 rfl hl (by decide) rfl (fun ls hl => ?_)
  refine lv_iload_n hx hb d_S_numberOfDraft_12 rfl (lv_at hl 0 rfl) ?_
  refine lv_iconst (v := -1) hx hb d_S_numberOfDraft_13 (by decide) ?_
  refine lv_icmp_eq (tgt := 19) hx hb d_S_numberOfDraft_14 (by decide) (fun c14 => ?_) (fun c14 => ?_)
  · skip
    refine lv_aload_n hx hb d_S_numberOfDraft_19 rfl (lv_at hl 1 rfl) ?_
    refine va_get (D := D) (ci := ciSS) (v := .ref (a 5)) (C := RS) (T := TS) (N := 7) hx hb hts inS hown hK.1 hP 0 rfl rfl 4 (by decide) (hts _ wd_50) (fun _ h9 => h9) rfl d_S_numberOfDraft_20 ?_
    obtain ⟨wr, hwr⟩ := cx_T (k := k) (a := a) (r := r) (t := t) (th := th) (kd := kd) (bs := bs) (us := us) (mk := mk) (dr := dr) (M := M) (sM := sM)
    refine cal_i (wc := tbF k (a 5) (a 10) (a 11) t 256 sth) (wr := wr) (va_runVN (As := []) (rest := []) ⟨hx, hb, hml, hown, hts⟩ (c_leastFree l D k (a 5) (a 10) (a 11) t 256 (by decide) sth  H.size) (cwN9 0 hts wd_197 (hK.2.1 (.methodLinkNest "StyleSheet" 52 ⟨"StyleSheet$Table", "leastFree", "()I"⟩ "StyleSheet") (by decide)) wd_196 ws_10 wd_2 (by decide) ⟨Nat.le_of_ble_eq_true rfl, Nat.le_of_ble_eq_true rfl⟩) (prV (q0 := 0) (ci := ciTb) hK hP hD (hwr _) rfl rfl) rfl rfl hl.1 rfl (lv_room (Nat.le_of_ble_eq_true rfl)) d_S_numberOfDraft_23 ⟨by decide, by decide⟩) (hwr _) hP hD hS hA (fun r w1 H locs hw hpd hS => ?_)
    obtain ⟨rfl, rfl⟩ := hw
    rw [show fdF (fun i => decide (sth i = 0)) 256 0 = frF sth 256 from rfl]
    obtain ⟨hP, hD⟩ := hpd (cxW k a r t th kd bs us sth mk dr M sM) (hwr _).symm
    refine lv_istore_n (lv' := [(2, .int (frF sth 256)), (1, .int (ndF sth dr sM)), (0, .ref (a 0))]) hx hb d_S_numberOfDraft_26 rfl hl (by decide) rfl (fun ls hl => ?_)
    refine lv_iload_n hx hb d_S_numberOfDraft_27 rfl (lv_at hl 0 rfl) ?_
    refine lv_iconst (v := -1) hx hb d_S_numberOfDraft_28 (by decide) ?_
    refine lv_icmp_ne (tgt := 42) hx hb d_S_numberOfDraft_29 (by decide) (fun c29 => ?_) (fun c29 => ?_)
    · skip
      rcases fdF_in (f := fun i => decide (sth i = 0)) 256 0 with hg | ⟨j, -, hj, hg, hj0⟩
      · exact absurd hg c29
      have hj : j < 256 := by omega
      rw [show frF sth 256 = nI j from hg] at hl
      refine lv_aload_n hx hb d_S_numberOfDraft_42 rfl (lv_at hl 2 rfl) ?_
      refine va_get (D := D) (ci := ciSS) (v := .ref (a 5)) (C := RS) (T := TS) (N := 7) hx hb hts inS hown hK.1 hP 0 rfl rfl 4 (by decide) (hts _ wd_50) (fun _ h9 => h9) rfl d_S_numberOfDraft_43 ?_
      refine lv_iload_n hx hb d_S_numberOfDraft_46 rfl (lv_at hl 0 rfl) ?_
      obtain ⟨wr, hwr⟩ := cx_T (k := k) (a := a) (r := r) (t := t) (th := th) (kd := kd) (bs := bs) (us := us) (mk := mk) (dr := dr) (M := M) (sM := sM)
      refine cal_v (wc := tbF k (a 5) (a 10) (a 11) t 256 sth) (wr := wr) (va_runVN (As := [.int (nI j)]) (rest := []) ⟨hx, hb, hml, hown, hts⟩ (c_add l D k (a 5) (a 10) (a 11) t 256 (by decide) sth j hj H.size) (cwN9 1 hts wd_45 (hK.2.1 (.methodLinkNest "StyleSheet" 31 ⟨"StyleSheet$Table", "add", "(I)V"⟩ "StyleSheet") (by decide)) wd_44 ws_0 wd_2 (by decide) ⟨Nat.le_of_ble_eq_true rfl, Nat.le_of_ble_eq_true rfl⟩) (prV (q0 := 0) (ci := ciTb) hK hP hD (hwr _) rfl rfl) rfl rfl hl.1 rfl (lv_room (Nat.le_of_ble_eq_true rfl)) d_S_numberOfDraft_47 ⟨by decide, by decide⟩) (hwr _) hP hD hS hA (fun w1 H locs hw hpd hS => ?_)
      subst hw
      obtain ⟨hP, hD⟩ := hpd (cxW k a r t th kd bs us (upd sth j (nI 1)) mk dr M sM) (hwr _).symm
      refine lv_aload_n hx hb d_S_numberOfDraft_50 rfl (lv_at hl 2 rfl) ?_
      refine va_get (D := D) (ci := ciSS) (v := .ref (a 7)) (C := RS) (T := TS) (N := 7) hx hb hts inS hown hK.1 hP 0 rfl rfl 6 (by decide) (hts _ wd_52) (fun _ h9 => h9) rfl d_S_numberOfDraft_51 ?_
      refine lv_iconst (v := nI 0) hx hb d_S_numberOfDraft_54 (by decide) ?_
      refine lv_aload_n hx hb d_S_numberOfDraft_55 rfl (lv_at hl 2 rfl) ?_
      refine va_get (D := D) (ci := ciSS) (v := .ref (a 5)) (C := RS) (T := TS) (N := 7) hx hb hts inS hown hK.1 hP 0 rfl rfl 4 (by decide) (hts _ wd_50) (fun _ h9 => h9) rfl d_S_numberOfDraft_56 ?_
      refine va_getN (D := D) (ci := ciTb) (v := .ref (a 11)) (C := RT) (T := TT) (N := 2) hx hb hts inT hown hK.1 hP 5 rfl rfl 1 (by decide) (va_Nw.use rfl (hK.2.1 (.fieldLinkNest "StyleSheet" 81 "StyleSheet$Table" "values" "[[I" "StyleSheet") (by decide))) (fun _ h9 => h9) rfl d_S_numberOfDraft_59 ?_
      refine lv_iload_n hx hb d_S_numberOfDraft_62 rfl (lv_at hl 0 rfl) ?_
      refine rw_aald hx hb hK.1 hP 11 2 rfl rfl (j := j) (y := t j) (by omega) (by decide) (gOut_at (by omega)) d_S_numberOfDraft_63 ?_
      refine lv_iconst (v := nI 0) hx hb d_S_numberOfDraft_64 (by decide) ?_
      refine lv_bipush (v := nI 24) hx hb d_S_numberOfDraft_65 (by decide) ?_
      refine rw_copy hx hb (hml.trans hl.1.symm) hown (hts _ wd_340) (hts _ wd_342) (hts _ wd_341) (hts _ wd_11) hK.1 hP hD hS 7 (76 + j) 0 rfl (cx_rowT hj) rfl (Nat.le_of_ble_eq_true rfl) (Nat.le_of_ble_eq_true rfl) d_S_numberOfDraft_67 (cx_setT hj) (fun H locs hP hD hS => ?_)
      have hP := cx_cellT (g := dr) (fun p hp => sb_cpy0 hp) hP
      have hD := cx_adrT (sM' := va_up sM j dr) hD
      refine lv_iload_n hx hb d_S_numberOfDraft_70 rfl (lv_at hl 0 rfl) ?_
      exact hret _ _ _ _ _ _ _ _ d_S_numberOfDraft_71 (Or.inr ⟨c14, j, hj, hg, rfl, rfl⟩) hP hD hS (by decide) (by decide)
    · skip
      exact th_S hQ hx hb hl9 hlk htb hown (by decide) xn_fit (hts _ wd_198) (hts _ wd_9) (xa_S hts hK.2.1) (xg_S 56) hE 8 rfl ⟨rfl, c14, c29, rfl⟩ hP hD hS (hl.1.trans hml.symm) d_S_numberOfDraft_32 d_S_numberOfDraft_35 d_S_numberOfDraft_36 d_S_numberOfDraft_38 d_S_numberOfDraft_41 (by decide) (by decide) (by decide) (by decide) (by decide) (by decide)
  · skip
    refine lv_iload_n hx hb d_S_numberOfDraft_17 rfl (lv_at hl 0 rfl) ?_
    exact hret _ _ _ _ _ _ _ _ d_S_numberOfDraft_18 (Or.inl ⟨c14, rfl, rfl⟩) hP hD hS (by decide) (by decide)
