/-! STATE: the class's cells, by its tables and rows -/
theorem pm_ix {L L' : va_W} (is : List Nat) (h : (List.range L.length).Perm is) (h2 : is.filterMap (fun i => L[i]?) = L') : L.Perm L' := by
  have h3 : (List.range L.length).map (fun i => L[i]?) = L.map some := by
    apply List.ext_getElem?
    intro i
    by_cases hi : i < L.length
    · simp [hi]
    · simp [hi]
  have h4 : (List.range L.length).filterMap (fun i => L[i]?) = L := by
    have h5 := congrArg (List.filterMap id) h3
    rw [List.filterMap_map, List.filterMap_map] at h5
    simpa [Function.comp_def] using h5
  have h6 := h.filterMap (fun i => L[i]?)
  rw [h4, h2] at h6
  exact h6
theorem pm_4 (a b x y : va_W) : ((a ++ b) ++ (x ++ y)).Perm ((a ++ x) ++ (b ++ y)) := by
  simp only [List.append_assoc]
  refine List.Perm.append_left a ?_
  rw [← List.append_assoc, ← List.append_assoc]
  exact List.Perm.append_right y List.perm_append_comm
theorem pm_4' (a b x y : va_W) : ((a ++ b) ++ (x ++ y)).Perm ((a ++ y) ++ (b ++ x)) := (List.Perm.append_left _ List.perm_append_comm).trans (pm_4 a b y x)
abbrev tsK (k : Nat → ClassId) : List (ClassId × FieldType) := [(k 0, .int), (k 1, .boolean), (k 2, .array .int), (k 3, .long)]
/-- a table: the object, who is there, the array of its rows -/
def tbF (k : Nat → ClassId) (t a g : Nat) (r : Nat → Nat) (n : Nat) (th : Nat → Int32) : va_W := [(t, .inr (ciTb, [.ref a, .ref g])), (a, .inl (k 1, n, .inl th)), (g, .inl (k 2, n, .inr (.inr (.inr (.inr (gOut r n))))))]
def tbW (k : Nat → ClassId) (t a g : Nat) (r : Nat → Nat) (n : Nat) (th : Nat → Int32) (M : Nat → Nat → Int32) : va_W := tbF k t a g r n th ++ gRows (k 0) r n M
theorem tb_row {k : Nat → ClassId} {t a g : Nat} {r : Nat → Nat} {n : Nat} {th : Nat → Int32} {M : Nat → Nat → Int32} {j : Nat} (h : j < n) : (tbW k t a g r n th M)[3 + j]? = some (r j, .inl (k 0, 24, .inl (M j))) := by
  show (tbF k t a g r n th ++ gRows (k 0) r n M)[3 + j]? = _
  rw [List.getElem?_append_right (by simp [tbF])]
  simp only [tbF, List.length_cons, List.length_nil, Nat.add_sub_cancel_left]
  exact gRows_at h
theorem tb_set {k : Nat → ClassId} {t a g : Nat} {r : Nat → Nat} {n : Nat} {th : Nat → Int32} {M : Nat → Nat → Int32} {j : Nat} {f : Nat → Int32} (h : j < n) : (tbW k t a g r n th M).set (3 + j) (r j, .inl (k 0, 24, .inl f)) = tbW k t a g r n th (va_up M j f) := by
  show (tbF k t a g r n th ++ gRows (k 0) r n M).set (3 + j) _ = tbF k t a g r n th ++ gRows (k 0) r n (va_up M j f)
  rw [List.set_append_right _ _ (by simp [tbF]), ← gRows_set h]
  simp [tbF]
/-- the class's fixed cells -/
def cxF (k : Nat → ClassId) (a r t : Nat → Nat) (th kd bs us sth mk dr : Nat → Int32) : va_W :=
  [(a 0, .inr (ciSS, [.ref (a 1), .ref (a 2), .ref (a 3), .ref (a 4), .ref (a 5), .ref (a 6), .ref (a 7)])), (a 1, .inr (ciTb, [.ref (a 8), .ref (a 9)])), (a 2, .inl (k 0, 64, .inl kd)), (a 3, .inl (k 0, 64, .inl bs)), (a 4, .inl (k 0, 24, .inl us)), (a 5, .inr (ciTb, [.ref (a 10), .ref (a 11)])), (a 6, .inl (k 1, 256, .inl mk)), (a 7, .inl (k 0, 24, .inl dr)), (a 8, .inl (k 1, 64, .inl th)), (a 9, .inl (k 2, 64, .inr (.inr (.inr (.inr (gOut r 64)))))), (a 10, .inl (k 1, 256, .inl sth)), (a 11, .inl (k 2, 256, .inr (.inr (.inr (.inr (gOut t 256))))))]
def cxR (k : Nat → ClassId) (r t : Nat → Nat) (M sM : Nat → Nat → Int32) : va_W := gRows (k 0) r 64 M ++ gRows (k 0) t 256 sM
def cxW (k : Nat → ClassId) (a r t : Nat → Nat) (th kd bs us sth mk dr : Nat → Int32) (M sM : Nat → Nat → Int32) : va_W := cxF k a r t th kd bs us sth mk dr ++ cxR k r t M sM
