/-! ROWS with small numbers as places; grids of rows of 24 ints -/
theorem ii_1 (i : Nat) : nI i + Int32.ofInt 1 = nI (i + 1) := nI_1 i
theorem bz_0 : vp_nar .boolean (nI 0) = nI 0 := by decide
theorem bz_1 : vp_nar .boolean (nI 1) = nI 1 := by decide
section RW1
variable {p : Program} {l : Launch} {e : Env} {R : Room} {s : State} {m : MethodId} {args : Array Value} {below : List Frame} {meth : Method} {c : Code} {H : Heap} {locs : List Loc} {cells slots : Nat} {Q : State → Prop}
variable {cc : ByteArray} {pc : Nat} {ls : Array Slot} {rest : List Value} {D : va_G} {cl : List vw_C} {A : Nat → Prop} {a : Nat} {tys : List (ClassId × FieldType)} {ws : va_W} {H0 : Heap}
theorem rw_iald (hexec : p.tables.exec = Jvm.exec) (hb : c.code = cc) (hK : va_K D cl tys s) (hP : va_P D cl ws H) (q0 t0 : Nat) {cA : ClassId} {n : Nat} {f : Nat → Int32} (ha : ws[q0]? = some (a, .inl (cA, n, .inl f))) (ht : tys[t0]? = some (cA, .int)) {j : Nat} (hj : j < n) (hn : n < 2 ^ 31) (hdg : decode cc pc = .ok (.iaload, 1))
    (kk : W p l e R s m args below meth c H locs cells slots Q (F0 m (pc + 1) ls (.int (f j) :: rest))) : W p l e R s m args below meth c H locs cells slots Q (F0 m pc ls (.int (nI j) :: .ref a :: rest)) :=
  va_iald hexec hb hK hP q0 t0 ha ht (vp_in_nI hj hn) hdg (by rw [nI_clamp (Nat.lt_trans hj hn)]; exact kk)
theorem rw_zald (hexec : p.tables.exec = Jvm.exec) (hb : c.code = cc) (hK : va_K D cl tys s) (hP : va_P D cl ws H) (q0 t0 : Nat) {cA : ClassId} {n : Nat} {f : Nat → Int32} (ha : ws[q0]? = some (a, .inl (cA, n, .inl f))) (ht : tys[t0]? = some (cA, .boolean)) {j : Nat} (hj : j < n) (hn : n < 2 ^ 31) (hdg : decode cc pc = .ok (.baload, 1))
    (kk : W p l e R s m args below meth c H locs cells slots Q (F0 m (pc + 1) ls (.int (f j) :: rest))) : W p l e R s m args below meth c H locs cells slots Q (F0 m pc ls (.int (nI j) :: .ref a :: rest)) :=
  va_zald hexec hb hK hP q0 t0 ha ht (vp_in_nI hj hn) hdg (by rw [nI_clamp (Nat.lt_trans hj hn)]; exact kk)
theorem rw_iast (hexec : p.tables.exec = Jvm.exec) (hb : c.code = cc) (hK : va_K D cl tys s) (hP : va_P D cl ws H) (hD : va_D A ws) (hS : va_S A H0 H locs) (q0 t0 : Nat) {cA : ClassId} {n : Nat} {f : Nat → Int32} (ha : ws[q0]? = some (a, .inl (cA, n, .inl f))) (ht : tys[t0]? = some (cA, .int)) {j : Nat} {x : Int32} (hj : j < n) (hn : n < 2 ^ 31) (hdg : decode cc pc = .ok (.iastore, 1)) {wn : va_W} (hw : ws.set q0 (a, .inl (cA, n, .inl (upd f j x))) = wn)
    (kk : ∀ (H1 : Heap) (locs1 : List Loc), va_P D cl wn H1 → va_D A wn → va_S A H0 H1 locs1 → W p l e R s m args below meth c H1 locs1 cells slots Q (F0 m (pc + 1) ls rest)) : W p l e R s m args below meth c H locs cells slots Q (F0 m pc ls (.int x :: .int (nI j) :: .ref a :: rest)) := by
  subst hw
  refine va_iast hexec hb hK hP hD hS q0 t0 ha ht (vp_in_nI hj hn) hdg ?_
  rw [nI_clamp (Nat.lt_trans hj hn)]
  exact kk
theorem rw_zast (hexec : p.tables.exec = Jvm.exec) (hb : c.code = cc) (hK : va_K D cl tys s) (hP : va_P D cl ws H) (hD : va_D A ws) (hS : va_S A H0 H locs) (q0 t0 : Nat) {cA : ClassId} {n : Nat} {f : Nat → Int32} (ha : ws[q0]? = some (a, .inl (cA, n, .inl f))) (ht : tys[t0]? = some (cA, .boolean)) {j : Nat} {x : Int32} (hb0 : vp_nar .boolean x = x) (hj : j < n) (hn : n < 2 ^ 31) (hdg : decode cc pc = .ok (.bastore, 1)) {wn : va_W} (hw : ws.set q0 (a, .inl (cA, n, .inl (upd f j x))) = wn)
    (kk : ∀ (H1 : Heap) (locs1 : List Loc), va_P D cl wn H1 → va_D A wn → va_S A H0 H1 locs1 → W p l e R s m args below meth c H1 locs1 cells slots Q (F0 m (pc + 1) ls rest)) : W p l e R s m args below meth c H locs cells slots Q (F0 m pc ls (.int x :: .int (nI j) :: .ref a :: rest)) := by
  subst hw
  refine va_zast hexec hb hK hP hD hS q0 t0 ha ht (vp_in_nI hj hn) hdg ?_
  rw [nI_clamp (Nat.lt_trans hj hn), hb0]
  exact kk
theorem rw_aald (hexec : p.tables.exec = Jvm.exec) (hb : c.code = cc) (hK : va_K D cl tys s) (hP : va_P D cl ws H) (q0 t0 : Nat) {cA : ClassId} {t : FieldType} {n : Nat} {f : Nat → Option Nat} (ha : ws[q0]? = some (a, .inl (cA, n, .inr (.inr (.inr (.inr f)))))) (ht : tys[t0]? = some (cA, .array t)) {j y : Nat} (hj : j < n) (hn : n < 2 ^ 31) (hy : f j = some y) (hdg : decode cc pc = .ok (.aaload, 1))
    (kk : W p l e R s m args below meth c H locs cells slots Q (F0 m (pc + 1) ls (.ref y :: rest))) : W p l e R s m args below meth c H locs cells slots Q (F0 m pc ls (.int (nI j) :: .ref a :: rest)) :=
  W.aald (v := .ref y) (ty := .array t) hexec hb (hP q0 _ ha) ((hK.2 t0 _ ht).1 n (fun i => va_rf (f i))) rfl (fun q => by cases q) (by show ¬ (nI j < 0 ∨ (arrV _ _ _).slots.size ≤ _); rw [arrV_size]; exact vp_in_nI hj hn) (by show (arrV _ _ _).slots[_]? = _; rw [nI_clamp (Nat.lt_trans hj hn), arrV_read _ _ hj, hy]; rfl) rfl rfl hdg kk
end RW1
/-- n rows of 24 ints each, at the places r -/
def gRow (c : ClassId) (r : Nat → Nat) (M : Nat → Nat → Int32) (i : Nat) : Nat × va_E := (r i, .inl (c, 24, .inl (M i)))
def gRows (c : ClassId) (r : Nat → Nat) (n : Nat) (M : Nat → Nat → Int32) : va_W := (List.range n).map (gRow c r M)
/-- the array of the rows -/
def gOut (r : Nat → Nat) (n : Nat) : Nat → Option Nat := fun i => if i < n then some (r i) else none
theorem gOut_at {r : Nat → Nat} {n j : Nat} (h : j < n) : gOut r n j = some (r j) := if_pos h
theorem gRows_len (c : ClassId) (r : Nat → Nat) (n : Nat) (M : Nat → Nat → Int32) : (gRows c r n M).length = n := by simp [gRows]
theorem gRows_at {c : ClassId} {r : Nat → Nat} {n j : Nat} {M : Nat → Nat → Int32} (h : j < n) : (gRows c r n M)[j]? = some (gRow c r M j) := by simp [gRows, h]
theorem gRows_set {c : ClassId} {r : Nat → Nat} {n j : Nat} {M : Nat → Nat → Int32} {f : Nat → Int32} (h : j < n) : (gRows c r n M).set j (r j, .inl (c, 24, .inl f)) = gRows c r n (va_up M j f) := by
  apply List.ext_getElem?
  intro i
  by_cases hi : i < n
  · by_cases he : i = j
    · subst he
      rw [List.getElem?_set_self (by rw [gRows_len]; exact hi), gRows_at hi]
      simp [gRow, va_up]
    · rw [List.getElem?_set_ne (fun q => he q.symm), gRows_at hi, gRows_at hi]
      simp [gRow, va_up, he]
  · rw [List.getElem?_eq_none (by rw [List.length_set, gRows_len]; omega), List.getElem?_eq_none (by rw [gRows_len]; omega)]
/-- a row of the grid, taken out and laid back -/
theorem gRows_out {c : ClassId} {r : Nat → Nat} {n j : Nat} (M : Nat → Nat → Int32) (h : j < n) : ∃ wr : va_W, ∀ f : Nat → Int32, (gRows c r n (va_up M j f)).Perm ((r j, .inl (c, 24, .inl f)) :: wr) := by
  refine ⟨((List.range n).erase j).map (gRow c r M), fun f => ?_⟩
  have h1 : (List.range n).Perm (j :: (List.range n).erase j) := List.perm_cons_erase (List.mem_range.mpr h)
  have h2 := h1.map (gRow c r (va_up M j f))
  have h3 : ((List.range n).erase j).map (gRow c r (va_up M j f)) = ((List.range n).erase j).map (gRow c r M) := by
    apply List.map_congr_left
    intro i hi
    have hne : i ≠ j := by
      rintro rfl
      exact absurd hi ((List.nodup_range).not_mem_erase)
    simp [gRow, va_up, hne]
  rw [List.map_cons, h3] at h2
  have h4 : gRow c r (va_up M j f) j = (r j, .inl (c, 24, .inl f)) := by simp [gRow, va_up]
  rw [h4] at h2
  exact h2
theorem gr_same (M : Nat → Nat → Int32) (j : Nat) : va_up M j (M j) = M := by
  funext i
  by_cases h : i = j
  · subst h; simp [va_up]
  · simp [va_up, h]
/-! small counts and searches -/
def cnF (f : Nat → Bool) : Nat → Nat
  | 0 => 0
  | n + 1 => cnF f n + (if f n = true then 1 else 0)
theorem cnF_le (f : Nat → Bool) (n : Nat) : cnF f n ≤ n := by
  induction n with
  | zero => exact Nat.le_refl 0
  | succ n ih => simp only [cnF]; split <;> omega
def smF (f : Nat → Nat) : Nat → Nat
  | 0 => 0
  | n + 1 => smF f n + f n
theorem smF_le {f : Nat → Nat} {b : Nat} (h : ∀ i, f i ≤ b) (n : Nat) : smF f n ≤ n * b := by
  induction n with
  | zero => simp [smF]
  | succ n ih => simp only [smF]; have := h n; rw [Nat.succ_mul]; omega
/-- the least place from i on, among k, where f holds; -1 if there is none -/
def fdF (f : Nat → Bool) : Nat → Nat → Int32
  | 0, _ => -1
  | k + 1, i => if f i = true then nI i else fdF f k (i + 1)
def hsB (n : Nat) (th : Nat → Int32) (x : Int32) : Bool := decide (0 ≤ x) && (decide (x < nI n) && decide (th x.toNatClampNeg ≠ 0))
theorem hsB_nI {n j : Nat} {th : Nat → Int32} (h : j < n) (hn : n < 2 ^ 31) : hsB n th (nI j) = decide (th j ≠ 0) := by
  have h1 : (0 : Int32) ≤ nI j := nI_pos' (by omega)
  have h2 : nI j < nI n := nI_lt h hn
  simp [hsB, h1, h2, nI_clamp (show j < 2 ^ 31 by omega)]
theorem hsB_t {n : Nat} {th : Nat → Int32} {x : Int32} (hn : n < 2 ^ 31) (h : hsB n th x = true) : ∃ j : Nat, j < n ∧ x = nI j ∧ th j ≠ 0 := by
  simp only [hsB, Bool.and_eq_true, decide_eq_true_eq] at h
  obtain ⟨h1, h2, h3⟩ := h
  have h0 : ¬ x < 0 := by rw [Int32.not_lt]; exact h1
  obtain ⟨j, hj, rfl⟩ := nI_of h0
  rw [nI_ltI hj hn] at h2
  rw [nI_clamp hj] at h3
  exact ⟨j, h2, rfl, h3⟩
