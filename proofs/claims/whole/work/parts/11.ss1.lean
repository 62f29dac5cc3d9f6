/-! the class's world, and its parts -/
section CX
variable {k : Nat → ClassId} {a r t : Nat → Nat} {th kd bs us sth mk dr : Nat → Int32} {M sM : Nat → Nat → Int32}
theorem cx_rowS {j : Nat} (h : j < 64) : (cxW k a r t th kd bs us sth mk dr M sM)[12 + j]? = some (r j, .inl (k 0, 24, .inl (M j))) := by
  show (cxF k a r t th kd bs us sth mk dr ++ (gRows (k 0) r 64 M ++ gRows (k 0) t 256 sM))[12 + j]? = _
  rw [List.getElem?_append_right (by show 12 ≤ 12 + j; omega), show 12 + j - (cxF k a r t th kd bs us sth mk dr).length = j by show 12 + j - 12 = j; omega, List.getElem?_append_left (by rw [gRows_len]; exact h)]
  exact gRows_at h
theorem cx_rowT {j : Nat} (h : j < 256) : (cxW k a r t th kd bs us sth mk dr M sM)[76 + j]? = some (t j, .inl (k 0, 24, .inl (sM j))) := by
  show (cxF k a r t th kd bs us sth mk dr ++ (gRows (k 0) r 64 M ++ gRows (k 0) t 256 sM))[76 + j]? = _
  rw [List.getElem?_append_right (by show 12 ≤ 76 + j; omega), show 76 + j - (cxF k a r t th kd bs us sth mk dr).length = 64 + j by show 76 + j - 12 = 64 + j; omega, List.getElem?_append_right (by rw [gRows_len]; omega), gRows_len, Nat.add_sub_cancel_left]
  exact gRows_at h
theorem cx_setS {j : Nat} {f : Nat → Int32} (h : j < 64) : (cxW k a r t th kd bs us sth mk dr M sM).set (12 + j) (r j, .inl (k 0, 24, .inl f)) = cxW k a r t th kd bs us sth mk dr (va_up M j f) sM := by
  show (cxF k a r t th kd bs us sth mk dr ++ (gRows (k 0) r 64 M ++ gRows (k 0) t 256 sM)).set (12 + j) _ = cxF k a r t th kd bs us sth mk dr ++ (gRows (k 0) r 64 (va_up M j f) ++ gRows (k 0) t 256 sM)
  rw [List.set_append_right _ _ (by show 12 ≤ 12 + j; omega), show 12 + j - (cxF k a r t th kd bs us sth mk dr).length = j by show 12 + j - 12 = j; omega, List.set_append_left _ _ (by rw [gRows_len]; exact h), gRows_set h]
theorem cx_setT {j : Nat} {f : Nat → Int32} (h : j < 256) : (cxW k a r t th kd bs us sth mk dr M sM).set (76 + j) (t j, .inl (k 0, 24, .inl f)) = cxW k a r t th kd bs us sth mk dr M (va_up sM j f) := by
  show (cxF k a r t th kd bs us sth mk dr ++ (gRows (k 0) r 64 M ++ gRows (k 0) t 256 sM)).set (76 + j) _ = cxF k a r t th kd bs us sth mk dr ++ (gRows (k 0) r 64 M ++ gRows (k 0) t 256 (va_up sM j f))
  rw [List.set_append_right _ _ (by show 12 ≤ 76 + j; omega), show 76 + j - (cxF k a r t th kd bs us sth mk dr).length = 64 + j by show 76 + j - 12 = 64 + j; omega, List.set_append_right _ _ (by rw [gRows_len]; omega), gRows_len, Nat.add_sub_cancel_left, gRows_set h]
theorem cx_S : ∃ wr : va_W, ∀ (th : Nat → Int32), (cxW k a r t th kd bs us sth mk dr M sM).Perm (tbF k (a 1) (a 8) (a 9) r 64 th ++ wr) := by
  refine ⟨[(a 0, .inr (ciSS, [.ref (a 1), .ref (a 2), .ref (a 3), .ref (a 4), .ref (a 5), .ref (a 6), .ref (a 7)])), (a 2, .inl (k 0, 64, .inl kd)), (a 3, .inl (k 0, 64, .inl bs)), (a 4, .inl (k 0, 24, .inl us)), (a 5, .inr (ciTb, [.ref (a 10), .ref (a 11)])), (a 6, .inl (k 1, 256, .inl mk)), (a 7, .inl (k 0, 24, .inl dr)), (a 10, .inl (k 1, 256, .inl sth)), (a 11, .inl (k 2, 256, .inr (.inr (.inr (.inr (gOut t 256))))))] ++ cxR k r t M sM, fun th => ?_⟩
  have h := pm_ix (L := cxF k a r t th kd bs us sth mk dr) (L' := [(a 1, .inr (ciTb, [.ref (a 8), .ref (a 9)])), (a 8, .inl (k 1, 64, .inl th)), (a 9, .inl (k 2, 64, .inr (.inr (.inr (.inr (gOut r 64))))))] ++ [(a 0, .inr (ciSS, [.ref (a 1), .ref (a 2), .ref (a 3), .ref (a 4), .ref (a 5), .ref (a 6), .ref (a 7)])), (a 2, .inl (k 0, 64, .inl kd)), (a 3, .inl (k 0, 64, .inl bs)), (a 4, .inl (k 0, 24, .inl us)), (a 5, .inr (ciTb, [.ref (a 10), .ref (a 11)])), (a 6, .inl (k 1, 256, .inl mk)), (a 7, .inl (k 0, 24, .inl dr)), (a 10, .inl (k 1, 256, .inl sth)), (a 11, .inl (k 2, 256, .inr (.inr (.inr (.inr (gOut t 256))))))]) [1, 8, 9, 0, 2, 3, 4, 5, 6, 7, 10, 11] (show (List.range 12).Perm [1, 8, 9, 0, 2, 3, 4, 5, 6, 7, 10, 11] by decide) rfl
  have h2 := h.append_right (cxR k r t M sM)
  rw [List.append_assoc] at h2
  exact h2
theorem cx_SW : ∃ wr : va_W, ∀ (th : Nat → Int32) (M : Nat → Nat → Int32), (cxW k a r t th kd bs us sth mk dr M sM).Perm (tbW k (a 1) (a 8) (a 9) r 64 th M ++ wr) := by
  refine ⟨[(a 0, .inr (ciSS, [.ref (a 1), .ref (a 2), .ref (a 3), .ref (a 4), .ref (a 5), .ref (a 6), .ref (a 7)])), (a 2, .inl (k 0, 64, .inl kd)), (a 3, .inl (k 0, 64, .inl bs)), (a 4, .inl (k 0, 24, .inl us)), (a 5, .inr (ciTb, [.ref (a 10), .ref (a 11)])), (a 6, .inl (k 1, 256, .inl mk)), (a 7, .inl (k 0, 24, .inl dr)), (a 10, .inl (k 1, 256, .inl sth)), (a 11, .inl (k 2, 256, .inr (.inr (.inr (.inr (gOut t 256))))))] ++ gRows (k 0) t 256 sM, fun th M => ?_⟩
  have h := pm_ix (L := cxF k a r t th kd bs us sth mk dr) (L' := [(a 1, .inr (ciTb, [.ref (a 8), .ref (a 9)])), (a 8, .inl (k 1, 64, .inl th)), (a 9, .inl (k 2, 64, .inr (.inr (.inr (.inr (gOut r 64))))))] ++ [(a 0, .inr (ciSS, [.ref (a 1), .ref (a 2), .ref (a 3), .ref (a 4), .ref (a 5), .ref (a 6), .ref (a 7)])), (a 2, .inl (k 0, 64, .inl kd)), (a 3, .inl (k 0, 64, .inl bs)), (a 4, .inl (k 0, 24, .inl us)), (a 5, .inr (ciTb, [.ref (a 10), .ref (a 11)])), (a 6, .inl (k 1, 256, .inl mk)), (a 7, .inl (k 0, 24, .inl dr)), (a 10, .inl (k 1, 256, .inl sth)), (a 11, .inl (k 2, 256, .inr (.inr (.inr (.inr (gOut t 256))))))]) [1, 8, 9, 0, 2, 3, 4, 5, 6, 7, 10, 11] (show (List.range 12).Perm [1, 8, 9, 0, 2, 3, 4, 5, 6, 7, 10, 11] by decide) rfl
  exact (h.append_right (cxR k r t M sM)).trans (pm_4 _ _ _ _)
theorem cx_T : ∃ wr : va_W, ∀ (sth : Nat → Int32), (cxW k a r t th kd bs us sth mk dr M sM).Perm (tbF k (a 5) (a 10) (a 11) t 256 sth ++ wr) := by
  refine ⟨[(a 0, .inr (ciSS, [.ref (a 1), .ref (a 2), .ref (a 3), .ref (a 4), .ref (a 5), .ref (a 6), .ref (a 7)])), (a 1, .inr (ciTb, [.ref (a 8), .ref (a 9)])), (a 2, .inl (k 0, 64, .inl kd)), (a 3, .inl (k 0, 64, .inl bs)), (a 4, .inl (k 0, 24, .inl us)), (a 6, .inl (k 1, 256, .inl mk)), (a 7, .inl (k 0, 24, .inl dr)), (a 8, .inl (k 1, 64, .inl th)), (a 9, .inl (k 2, 64, .inr (.inr (.inr (.inr (gOut r 64))))))] ++ cxR k r t M sM, fun sth => ?_⟩
  have h := pm_ix (L := cxF k a r t th kd bs us sth mk dr) (L' := [(a 5, .inr (ciTb, [.ref (a 10), .ref (a 11)])), (a 10, .inl (k 1, 256, .inl sth)), (a 11, .inl (k 2, 256, .inr (.inr (.inr (.inr (gOut t 256))))))] ++ [(a 0, .inr (ciSS, [.ref (a 1), .ref (a 2), .ref (a 3), .ref (a 4), .ref (a 5), .ref (a 6), .ref (a 7)])), (a 1, .inr (ciTb, [.ref (a 8), .ref (a 9)])), (a 2, .inl (k 0, 64, .inl kd)), (a 3, .inl (k 0, 64, .inl bs)), (a 4, .inl (k 0, 24, .inl us)), (a 6, .inl (k 1, 256, .inl mk)), (a 7, .inl (k 0, 24, .inl dr)), (a 8, .inl (k 1, 64, .inl th)), (a 9, .inl (k 2, 64, .inr (.inr (.inr (.inr (gOut r 64))))))]) [5, 10, 11, 0, 1, 2, 3, 4, 6, 7, 8, 9] (show (List.range 12).Perm [5, 10, 11, 0, 1, 2, 3, 4, 6, 7, 8, 9] by decide) rfl
  have h2 := h.append_right (cxR k r t M sM)
  rw [List.append_assoc] at h2
  exact h2
theorem cx_TW : ∃ wr : va_W, ∀ (sth : Nat → Int32) (sM : Nat → Nat → Int32), (cxW k a r t th kd bs us sth mk dr M sM).Perm (tbW k (a 5) (a 10) (a 11) t 256 sth sM ++ wr) := by
  refine ⟨[(a 0, .inr (ciSS, [.ref (a 1), .ref (a 2), .ref (a 3), .ref (a 4), .ref (a 5), .ref (a 6), .ref (a 7)])), (a 1, .inr (ciTb, [.ref (a 8), .ref (a 9)])), (a 2, .inl (k 0, 64, .inl kd)), (a 3, .inl (k 0, 64, .inl bs)), (a 4, .inl (k 0, 24, .inl us)), (a 6, .inl (k 1, 256, .inl mk)), (a 7, .inl (k 0, 24, .inl dr)), (a 8, .inl (k 1, 64, .inl th)), (a 9, .inl (k 2, 64, .inr (.inr (.inr (.inr (gOut r 64))))))] ++ gRows (k 0) r 64 M, fun sth sM => ?_⟩
  have h := pm_ix (L := cxF k a r t th kd bs us sth mk dr) (L' := [(a 5, .inr (ciTb, [.ref (a 10), .ref (a 11)])), (a 10, .inl (k 1, 256, .inl sth)), (a 11, .inl (k 2, 256, .inr (.inr (.inr (.inr (gOut t 256))))))] ++ [(a 0, .inr (ciSS, [.ref (a 1), .ref (a 2), .ref (a 3), .ref (a 4), .ref (a 5), .ref (a 6), .ref (a 7)])), (a 1, .inr (ciTb, [.ref (a 8), .ref (a 9)])), (a 2, .inl (k 0, 64, .inl kd)), (a 3, .inl (k 0, 64, .inl bs)), (a 4, .inl (k 0, 24, .inl us)), (a 6, .inl (k 1, 256, .inl mk)), (a 7, .inl (k 0, 24, .inl dr)), (a 8, .inl (k 1, 64, .inl th)), (a 9, .inl (k 2, 64, .inr (.inr (.inr (.inr (gOut r 64))))))]) [5, 10, 11, 0, 1, 2, 3, 4, 6, 7, 8, 9] (show (List.range 12).Perm [5, 10, 11, 0, 1, 2, 3, 4, 6, 7, 8, 9] by decide) rfl
  exact (h.append_right (cxR k r t M sM)).trans (pm_4' _ _ _ _)
theorem cx_N : ∃ wr : va_W, ∀ (sth : Nat → Int32) (sM : Nat → Nat → Int32), (cxW k a r t th kd bs us sth mk dr M sM).Perm (nbW k (a 5) (a 10) (a 11) (a 7) t 256 sth dr sM ++ wr) := by
  refine ⟨[(a 0, .inr (ciSS, [.ref (a 1), .ref (a 2), .ref (a 3), .ref (a 4), .ref (a 5), .ref (a 6), .ref (a 7)])), (a 1, .inr (ciTb, [.ref (a 8), .ref (a 9)])), (a 2, .inl (k 0, 64, .inl kd)), (a 3, .inl (k 0, 64, .inl bs)), (a 4, .inl (k 0, 24, .inl us)), (a 6, .inl (k 1, 256, .inl mk)), (a 8, .inl (k 1, 64, .inl th)), (a 9, .inl (k 2, 64, .inr (.inr (.inr (.inr (gOut r 64))))))] ++ gRows (k 0) r 64 M, fun sth sM => ?_⟩
  have h := pm_ix (L := cxF k a r t th kd bs us sth mk dr) (L' := [(a 5, .inr (ciTb, [.ref (a 10), .ref (a 11)])), (a 10, .inl (k 1, 256, .inl sth)), (a 11, .inl (k 2, 256, .inr (.inr (.inr (.inr (gOut t 256)))))), (a 7, .inl (k 0, 24, .inl dr))] ++ [(a 0, .inr (ciSS, [.ref (a 1), .ref (a 2), .ref (a 3), .ref (a 4), .ref (a 5), .ref (a 6), .ref (a 7)])), (a 1, .inr (ciTb, [.ref (a 8), .ref (a 9)])), (a 2, .inl (k 0, 64, .inl kd)), (a 3, .inl (k 0, 64, .inl bs)), (a 4, .inl (k 0, 24, .inl us)), (a 6, .inl (k 1, 256, .inl mk)), (a 8, .inl (k 1, 64, .inl th)), (a 9, .inl (k 2, 64, .inr (.inr (.inr (.inr (gOut r 64))))))]) [5, 10, 11, 7, 0, 1, 2, 3, 4, 6, 8, 9] (show (List.range 12).Perm [5, 10, 11, 7, 0, 1, 2, 3, 4, 6, 8, 9] by decide) rfl
  exact (h.append_right (cxR k r t M sM)).trans (pm_4' _ _ _ _)
end CX
/-! walks along a chain, and what hangs on them -/
def grt (x : Int32) : Int32 := if nI 8 ≤ x then (if nI 16 ≤ x then 65535 else nI 255) else nI 1
def gvF (th bs : Nat → Int32) (M : Nat → Nat → Int32) (p : Nat) : Nat → Int32 → Int32
  | 0, _ => -1
  | n + 1, x => if hsB 64 th x = true then (if M x.toNatClampNeg p = -1 then gvF th bs M p n (bs x.toNatClampNeg) else x) else -1
theorem gvF_end {th bs : Nat → Int32} {M : Nat → Nat → Int32} {p i : Nat} {x : Int32} (h : 64 ≤ i) : gvF th bs M p (64 - i) x = -1 := by rw [show 64 - i = 0 by omega]; rfl
theorem gvF_off {th bs : Nat → Int32} {M : Nat → Nat → Int32} {p n : Nat} {x : Int32} (h : hsB 64 th x = false) : gvF th bs M p n x = -1 := by
  cases n with
  | zero => rfl
  | succ n => simp [gvF, h]
theorem gvF_hit {th bs : Nat → Int32} {M : Nat → Nat → Int32} {p i j : Nat} (hi : i < 64) (hj : j < 64) (h : hsB 64 th (nI j) = true) (hm : ¬ M j p = -1) : gvF th bs M p (64 - i) (nI j) = nI j := by
  obtain ⟨n, hn⟩ : ∃ n, 64 - i = n + 1 := ⟨63 - i, by omega⟩
  rw [hn]; simp [gvF, h, nI_clamp (show j < 2 ^ 31 by omega), hm]
theorem gvF_go {th bs : Nat → Int32} {M : Nat → Nat → Int32} {p i j : Nat} (hi : i < 64) (hj : j < 64) (h : hsB 64 th (nI j) = true) (hm : M j p = -1) : gvF th bs M p (64 - i) (nI j) = gvF th bs M p (64 - (i + 1)) (bs j) := by
  obtain ⟨n, hn⟩ : ∃ n, 64 - i = n + 1 := ⟨63 - i, by omega⟩
  rw [hn, show 64 - (i + 1) = n by omega]; simp [gvF, h, nI_clamp (show j < 2 ^ 31 by omega), hm]
theorem gvF_in {th bs : Nat → Int32} {M : Nat → Nat → Int32} {p : Nat} : ∀ (n : Nat) (x : Int32), gvF th bs M p n x = -1 ∨ ∃ j : Nat, j < 64 ∧ gvF th bs M p n x = nI j ∧ th j ≠ 0 ∧ M j p ≠ -1 := by
  intro n
  induction n with
  | zero => intro x; exact Or.inl rfl
  | succ n ih =>
    intro x
    cases h : hsB 64 th x with
    | false => exact Or.inl (gvF_off h)
    | true =>
      obtain ⟨j, hj, rfl, hjt⟩ := hsB_t (by decide) h
      by_cases hm : M j p = -1
      · have e : gvF th bs M p (n + 1) (nI j) = gvF th bs M p n (bs j) := by simp [gvF, h, nI_clamp (show j < 2 ^ 31 by omega), hm]
        rw [e]
        exact ih (bs j)
      · have e : gvF th bs M p (n + 1) (nI j) = nI j := by simp [gvF, h, nI_clamp (show j < 2 ^ 31 by omega), hm]
        rw [e]
        exact Or.inr ⟨j, hj, rfl, hjt, hm⟩
def chF (th bs : Nat → Int32) : Nat → Int32 → Nat
  | 0, _ => 0
  | n + 1, x => if hsB 64 th x = true then chF th bs n (bs x.toNatClampNeg) + 1 else 0
theorem chF_end {th bs : Nat → Int32} {i : Nat} {x : Int32} (h : 64 ≤ i) : chF th bs (64 - i) x = 0 := by rw [show 64 - i = 0 by omega]; rfl
theorem chF_off {th bs : Nat → Int32} {n : Nat} {x : Int32} (h : hsB 64 th x = false) : chF th bs n x = 0 := by
  cases n with
  | zero => rfl
  | succ n => simp [chF, h]
theorem chF_go {th bs : Nat → Int32} {i j : Nat} (hi : i < 64) (hj : j < 64) (h : hsB 64 th (nI j) = true) : chF th bs (64 - i) (nI j) = chF th bs (64 - (i + 1)) (bs j) + 1 := by
  obtain ⟨n, hn⟩ : ∃ n, 64 - i = n + 1 := ⟨63 - i, by omega⟩
  rw [hn, show 64 - (i + 1) = n by omega]; simp [chF, h, nI_clamp (show j < 2 ^ 31 by omega)]
theorem chF_le {th bs : Nat → Int32} : ∀ (n : Nat) (x : Int32), chF th bs n x ≤ n := by
  intro n
  induction n with
  | zero => intro x; exact Nat.le_refl 0
  | succ n ih => intro x; simp only [chF]; split
                 · have := ih (bs x.toNatClampNeg); omega
                 · omega
def ocF (th bs : Nat → Int32) (z : Int32) : Nat → Int32 → Bool
  | 0, _ => false
  | n + 1, x => if hsB 64 th x = true then (if x = z then true else ocF th bs z n (bs x.toNatClampNeg)) else false
theorem ocF_end {th bs : Nat → Int32} {i : Nat} {x z : Int32} (h : 64 ≤ i) : ocF th bs z (64 - i) x = false := by rw [show 64 - i = 0 by omega]; rfl
theorem ocF_off {th bs : Nat → Int32} {n : Nat} {x z : Int32} (h : hsB 64 th x = false) : ocF th bs z n x = false := by
  cases n with
  | zero => rfl
  | succ n => simp [ocF, h]
theorem ocF_hit {th bs : Nat → Int32} {i j : Nat} {z : Int32} (hi : i < 64) (h : hsB 64 th (nI j) = true) (hm : nI j = z) : ocF th bs z (64 - i) (nI j) = true := by
  obtain ⟨n, hn⟩ : ∃ n, 64 - i = n + 1 := ⟨63 - i, by omega⟩
  subst hm
  rw [hn]; simp [ocF, h]
theorem ocF_go {th bs : Nat → Int32} {i j : Nat} {z : Int32} (hi : i < 64) (hj : j < 64) (h : hsB 64 th (nI j) = true) (hm : ¬ nI j = z) : ocF th bs z (64 - i) (nI j) = ocF th bs z (64 - (i + 1)) (bs j) := by
  obtain ⟨n, hn⟩ : ∃ n, 64 - i = n + 1 := ⟨63 - i, by omega⟩
  rw [hn, show 64 - (i + 1) = n by omega]; simp [ocF, h, nI_clamp (show j < 2 ^ 31 by omega), hm]
def mxF (f : Nat → Nat) : Nat → Nat
  | 0 => 0
  | n + 1 => if mxF f n < f n then f n else mxF f n
theorem mxF_le {f : Nat → Nat} {b : Nat} (h : ∀ i, f i ≤ b) : ∀ n, mxF f n ≤ b := by
  intro n
  induction n with
  | zero => exact Nat.zero_le _
  | succ n ih => simp only [mxF]; split
                 · exact h n
                 · exact ih
theorem mx_nI {m n : Nat} (hm : m < 2 ^ 31) (hn : n < 2 ^ 31) : (if nI m < nI n then nI n else nI m) = nI (if m < n then n else m) := by
  by_cases h : m < n
  · rw [if_pos h, if_pos ((nI_ltI hm hn).mpr h)]
  · rw [if_neg h, if_neg (fun q => h ((nI_ltI hm hn).mp q))]
def vbF (th bs : Nat → Int32) (M : Nat → Nat → Int32) (x : Int32) (p : Nat) : Int32 := if gvF th bs M p 64 x = -1 then -1 else M (gvF th bs M p 64 x).toNatClampNeg p
def rbF (th bs us : Nat → Int32) (M : Nat → Nat → Int32) (c q : Int32) (p : Nat) : Int32 := if vbF th bs M c p = -1 then (if vbF th bs M q p = -1 then us p else vbF th bs M q p) else vbF th bs M c p
def rsF (th bs us : Nat → Int32) (M sM : Nat → Nat → Int32) (j : Nat) (c q : Int32) (p : Nat) : Int32 := if sM j p = -1 then rbF th bs us M c q p else sM j p
theorem ne_m1 {j : Nat} (h : j < 2 ^ 31) : ¬ nI j = -1 := by
  intro e
  have h1 : ¬ nI j < 0 := nI_pos h
  rw [e] at h1
  exact h1 (by decide)

set_option maxRecDepth 100000 in
set_option maxHeartbeats 4000000 in
theorem c_greatest (l : Launch) (D : va_G) (k : Nat → ClassId) (x : Int32) (sz : Nat) : bMI l y_S_greatest (wY y_S_greatest b_S_greatest 1 (some .int)) (rm9 1 0 0) D (tsK k) ([]) sz [.int x] (fun v w => v = grt x ∧ w = []) 0 0 := by
  refine ent_i (cc := b_S_greatest) (maxL := 1) (ty := .int) (by decide) (Nat.le_of_ble_eq_true rfl) (fun _ _ _ => rfl) ?_
  intro p e s m args below meth c A Q ls hx hb hml hown hts hsz hA hP hD hS hK hl hret
  refine lv_iload_n hx hb d_S_greatest_0 rfl (lv_at hl 0 rfl) ?_
  refine lv_bipush (v := nI 8) hx hb d_S_greatest_1 (by decide) ?_
  refine lv_icmp_ge (tgt := 8) hx hb d_S_greatest_3 (by decide) (fun c3 => ?_) (fun c3 => ?_)
  · skip
    refine lv_iload_n hx hb d_S_greatest_8 rfl (lv_at hl 0 rfl) ?_
    refine lv_bipush (v := nI 16) hx hb d_S_greatest_9 (by decide) ?_
    refine lv_icmp_ge (tgt := 20) hx hb d_S_greatest_11 (by decide) (fun c11 => ?_) (fun c11 => ?_)
    · skip
      refine lv_ldc (v := 65535) hx hb hown (hts _ wd_273) d_S_greatest_20 ?_
      exact hret _ _ _ _ _ _ _ _ d_S_greatest_22 ⟨by simp [grt, c3, c11], rfl⟩ hP hD hS (by decide) (by decide)
    · skip
      refine lv_sipush (v := nI 255) hx hb d_S_greatest_14 (by decide) ?_
      refine lv_goto (tgt := 22) hx hb d_S_greatest_17 (by decide) ?_
      exact hret _ _ _ _ _ _ _ _ d_S_greatest_22 ⟨by simp [grt, c3, c11], rfl⟩ hP hD hS (by decide) (by decide)
  · skip
    refine lv_iconst (v := nI 1) hx hb d_S_greatest_6 (by decide) ?_
    exact hret _ _ _ _ _ _ _ _ d_S_greatest_7 ⟨by simp [grt, c3], rfl⟩ hP hD hS (by decide) (by decide)

set_option maxRecDepth 100000 in
set_option maxHeartbeats 4000000 in
theorem c_giverOnChain (l : Launch) (D : va_G) (k : Nat → ClassId) (a r t : Nat → Nat) (th kd bs us sth mk dr : Nat → Int32) (M sM : Nat → Nat → Int32) (x : Int32) (p9 : Nat) (hp9 : p9 < 24) (sz : Nat) : bMI l y_S_giverOnChain (wY y_S_giverOnChain b_S_giverOnChain 5 (some .int)) (rm9 2 0 0) D (tsK k) (cxW k a r t th kd bs us sth mk dr M sM) sz [.ref (a 0), .int x, .int (nI p9)] (fun v w => v = gvF th bs M p9 64 x ∧ w = cxW k a r t th kd bs us sth mk dr M sM) 0 0 := by
  refine ent_i (cc := b_S_giverOnChain) (maxL := 5) (ty := .int) (by decide) (Nat.le_of_ble_eq_true rfl) (fun _ _ _ => rfl) ?_
  intro p e s m args below meth c A Q ls hx hb hml hown hts hsz hA hP hD hS hK hl hret
  refine lv_iload_n hx hb d_S_giverOnChain_0 rfl (lv_at hl 1 rfl) ?_
  refine lv_istore_n (lv' := [(3, .int x), (0, .ref (a 0)), (1, .int x), (2, .int (nI p9))]) hx hb d_S_giverOnChain_1 rfl hl (by decide) rfl (fun ls hl => ?_)
  refine lv_iconst (v := nI 0) hx hb d_S_giverOnChain_2 (by decide) ?_
  refine lv_istore (lv' := [(4, .int (nI 0)), (3, .int x), (0, .ref (a 0)), (1, .int x), (2, .int (nI p9))]) hx hb d_S_giverOnChain_3 hl (by decide) rfl (fun ls hl => ?_)
  have lp : ∀ (n9 : Nat) (i : Nat) (y : Int32) (ls : Array Slot) (H : Heap) (locs : List Loc), 64 - i < n9 → (i ≤ 64) → (gvF th bs M p9 64 x = gvF th bs M p9 (64 - i) y) → va_P D vwCl (cxW k a r t th kd bs us sth mk dr M sM) H → va_D A (cxW k a r t th kd bs us sth mk dr M sM) → va_S A s.heap H locs → lv_has ls 5 [(0, .ref (a 0)), (1, .int x), (2, .int (nI p9)), (3, .int y), (4, .int (nI i))] → W p l e (rm9 2 0 0) s m args below meth c H locs 0 0 Q (F0 m 5 ls []) := by
    intro n9
    induction n9 with
    | zero => intro i y ls H locs hm; omega
    | succ n9 ih =>
      intro i y ls H locs hm hi hf hP hD hS hl
      refine lv_iload hx hb d_S_giverOnChain_5 (lv_at hl 4 rfl) ?_
      refine lv_bipush (v := nI 64) hx hb d_S_giverOnChain_7 (by decide) ?_
      refine lv_icmp_ge (tgt := 53) hx hb d_S_giverOnChain_9 (by decide) (fun c9 => ?_) (fun c9 => ?_)
      · skip
        rw [nI_leI (by omega) (by omega)] at c9
        refine lv_iconst (v := -1) hx hb d_S_giverOnChain_53 (by decide) ?_
        exact hret _ _ _ _ _ _ _ _ d_S_giverOnChain_54 ⟨by rw [hf, gvF_end (by omega)], rfl⟩ hP hD hS (by decide) (by decide)
      · skip
        rw [nI_leI (by omega) (by omega)] at c9
        refine lv_aload_n hx hb d_S_giverOnChain_12 rfl (lv_at hl 0 rfl) ?_
        refine va_get (D := D) (ci := ciSS) (v := .ref (a 1)) (C := RS) (T := TS) (N := 7) hx hb hts inS hown hK.1 hP 0 rfl rfl 0 (by decide) (hts _ wd_46) (fun _ h9 => h9) rfl d_S_giverOnChain_13 ?_
        refine lv_iload_n hx hb d_S_giverOnChain_16 rfl (lv_at hl 3 rfl) ?_
        obtain ⟨wr, hwr⟩ := cx_S (k := k) (a := a) (r := r) (t := t) (kd := kd) (bs := bs) (us := us) (sth := sth) (mk := mk) (dr := dr) (M := M) (sM := sM)
        refine cal_i (wc := tbF k (a 1) (a 8) (a 9) r 64 th) (wr := wr) (va_runVN (As := [.int y]) (rest := []) ⟨hx, hb, hml, hown, hts⟩ (c_has l D k (a 1) (a 8) (a 9) r 64 (by decide) th y H.size) (cwN9 1 hts wd_75 (hK.2.1 (.methodLinkNest "StyleSheet" 64 ⟨"StyleSheet$Table", "has", "(I)Z"⟩ "StyleSheet") (by decide)) wd_74 ws_1 wd_2 (by decide) ⟨Nat.le_of_ble_eq_true rfl, Nat.le_of_ble_eq_true rfl⟩) (prV (q0 := 0) (ci := ciTb) hK hP hD (hwr _) rfl rfl) rfl rfl hl.1 rfl (lv_room (Nat.le_of_ble_eq_true rfl)) d_S_giverOnChain_17 ⟨by decide, by decide⟩) (hwr _) hP hD hS hA (fun r w1 H locs hw hpd hS => ?_)
        obtain ⟨rfl, rfl⟩ := hw
        obtain ⟨hP, hD⟩ := hpd (cxW k a r t th kd bs us sth mk dr M sM) (hwr _).symm
        refine lv_if_eq (tgt := 53) hx hb d_S_giverOnChain_20 (by decide) (fun c20 => ?_) (fun c20 => ?_)
        · skip
          have c20 := b_of0 c20
          refine lv_iconst (v := -1) hx hb d_S_giverOnChain_53 (by decide) ?_
          exact hret _ _ _ _ _ _ _ _ d_S_giverOnChain_54 ⟨by rw [hf, gvF_off c20], rfl⟩ hP hD hS (by decide) (by decide)
        · skip
          have c20 := b_of1 c20
          obtain ⟨j, hj, rfl, hjt⟩ := hsB_t (by decide) c20
          refine lv_aload_n hx hb d_S_giverOnChain_23 rfl (lv_at hl 0 rfl) ?_
          refine va_get (D := D) (ci := ciSS) (v := .ref (a 1)) (C := RS) (T := TS) (N := 7) hx hb hts inS hown hK.1 hP 0 rfl rfl 0 (by decide) (hts _ wd_46) (fun _ h9 => h9) rfl d_S_giverOnChain_24 ?_
          refine va_getN (D := D) (ci := ciTb) (v := .ref (a 9)) (C := RT) (T := TT) (N := 2) hx hb hts inT hown hK.1 hP 1 rfl rfl 1 (by decide) (va_Nw.use rfl (hK.2.1 (.fieldLinkNest "StyleSheet" 81 "StyleSheet$Table" "values" "[[I" "StyleSheet") (by decide))) (fun _ h9 => h9) rfl d_S_giverOnChain_27 ?_
          refine lv_iload_n hx hb d_S_giverOnChain_30 rfl (lv_at hl 3 rfl) ?_
          refine rw_aald hx hb hK.1 hP 9 2 rfl rfl (j := j) (y := r j) (by omega) (by decide) (gOut_at (by omega)) d_S_giverOnChain_31 ?_
          refine lv_iload_n hx hb d_S_giverOnChain_32 rfl (lv_at hl 2 rfl) ?_
          refine rw_iald hx hb hK.1 hP (12 + j) 0 (cx_rowS (by omega)) rfl (j := p9) (by omega) (by decide) d_S_giverOnChain_33 ?_
          refine lv_iconst (v := -1) hx hb d_S_giverOnChain_34 (by decide) ?_
          refine lv_icmp_eq (tgt := 40) hx hb d_S_giverOnChain_35 (by decide) (fun c35 => ?_) (fun c35 => ?_)
          · skip
            refine lv_aload_n hx hb d_S_giverOnChain_40 rfl (lv_at hl 0 rfl) ?_
            refine va_get (D := D) (ci := ciSS) (v := .ref (a 3)) (C := RS) (T := TS) (N := 7) hx hb hts inS hown hK.1 hP 0 rfl rfl 2 (by decide) (hts _ wd_48) (fun _ h9 => h9) rfl d_S_giverOnChain_41 ?_
            refine lv_iload_n hx hb d_S_giverOnChain_44 rfl (lv_at hl 3 rfl) ?_
            refine rw_iald hx hb hK.1 hP 3 0 rfl rfl (j := j) (by omega) (by decide) d_S_giverOnChain_45 ?_
            refine lv_istore_n (lv' := [(3, .int (bs j)), (0, .ref (a 0)), (1, .int x), (2, .int (nI p9)), (4, .int (nI i))]) hx hb d_S_giverOnChain_46 rfl hl (by decide) rfl (fun ls hl => ?_)
            refine lv_iinc (v := nI (i + 1)) (lv' := [(4, .int (nI (i + 1))), (3, .int (bs j)), (0, .ref (a 0)), (1, .int x), (2, .int (nI p9))]) hx hb d_S_giverOnChain_47 hl (k := 4) rfl (ii_1 _) (by decide) rfl (fun ls hl => ?_)
            refine lv_goto (tgt := 5) hx hb d_S_giverOnChain_50 (by decide) ?_
            exact ih (i + 1) (bs j) ls H locs (by omega) (by omega) (by rw [hf]; exact gvF_go (by omega) hj c20 c35) hP hD hS (lv_sub hl [2, 3, 4, 1, 0] rfl)
          · skip
            refine lv_iload_n hx hb d_S_giverOnChain_38 rfl (lv_at hl 3 rfl) ?_
            exact hret _ _ _ _ _ _ _ _ d_S_giverOnChain_39 ⟨by rw [hf, gvF_hit (by omega) hj c20 c35], rfl⟩ hP hD hS (by decide) (by decide)
  exact lp _ (0) (x) ls s.heap [] (Nat.lt_succ_self _) (by decide) rfl hP hD hS (lv_sub hl [2, 3, 4, 1, 0] rfl)

set_option maxRecDepth 100000 in
set_option maxHeartbeats 4000000 in
theorem c_chainLength (l : Launch) (D : va_G) (k : Nat → ClassId) (a r t : Nat → Nat) (th kd bs us sth mk dr : Nat → Int32) (M sM : Nat → Nat → Int32) (x : Int32) (sz : Nat) : bMI l y_S_chainLength (wY y_S_chainLength b_S_chainLength 4 (some .int)) (rm9 2 0 0) D (tsK k) (cxW k a r t th kd bs us sth mk dr M sM) sz [.ref (a 0), .int x] (fun v w => v = nI (chF th bs 64 x) ∧ w = cxW k a r t th kd bs us sth mk dr M sM) 0 0 := by
  refine ent_i (cc := b_S_chainLength) (maxL := 4) (ty := .int) (by decide) (Nat.le_of_ble_eq_true rfl) (fun _ _ _ => rfl) ?_
  intro p e s m args below meth c A Q ls hx hb hml hown hts hsz hA hP hD hS hK hl hret
  refine lv_iload_n hx hb d_S_chainLength_0 rfl (lv_at hl 1 rfl) ?_
  refine lv_istore_n (lv' := [(2, .int x), (0, .ref (a 0)), (1, .int x)]) hx hb d_S_chainLength_1 rfl hl (by decide) rfl (fun ls hl => ?_)
  refine lv_iconst (v := nI 0) hx hb d_S_chainLength_2 (by decide) ?_
  refine lv_istore_n (lv' := [(3, .int (nI 0)), (2, .int x), (0, .ref (a 0)), (1, .int x)]) hx hb d_S_chainLength_3 rfl hl (by decide) rfl (fun ls hl => ?_)
  have lp : ∀ (n9 : Nat) (i : Nat) (y : Int32) (ls : Array Slot) (H : Heap) (locs : List Loc), 64 - i < n9 → (i ≤ 64) → (chF th bs 64 x = i + chF th bs (64 - i) y) → va_P D vwCl (cxW k a r t th kd bs us sth mk dr M sM) H → va_D A (cxW k a r t th kd bs us sth mk dr M sM) → va_S A s.heap H locs → lv_has ls 4 [(0, .ref (a 0)), (1, .int x), (2, .int y), (3, .int (nI i))] → W p l e (rm9 2 0 0) s m args below meth c H locs 0 0 Q (F0 m 4 ls []) := by
    intro n9
    induction n9 with
    | zero => intro i y ls H locs hm; omega
    | succ n9 ih =>
      intro i y ls H locs hm hi hf hP hD hS hl
      refine lv_iload_n hx hb d_S_chainLength_4 rfl (lv_at hl 3 rfl) ?_
      refine lv_bipush (v := nI 64) hx hb d_S_chainLength_5 (by decide) ?_
      refine lv_icmp_ge (tgt := 34) hx hb d_S_chainLength_7 (by decide) (fun c7 => ?_) (fun c7 => ?_)
      · skip
        rw [nI_leI (by omega) (by omega)] at c7
        refine lv_iload_n hx hb d_S_chainLength_34 rfl (lv_at hl 3 rfl) ?_
        exact hret _ _ _ _ _ _ _ _ d_S_chainLength_35 ⟨by rw [hf, chF_end (by omega), Nat.add_zero], rfl⟩ hP hD hS (by decide) (by decide)
      · skip
        rw [nI_leI (by omega) (by omega)] at c7
        refine lv_aload_n hx hb d_S_chainLength_10 rfl (lv_at hl 0 rfl) ?_
        refine va_get (D := D) (ci := ciSS) (v := .ref (a 1)) (C := RS) (T := TS) (N := 7) hx hb hts inS hown hK.1 hP 0 rfl rfl 0 (by decide) (hts _ wd_46) (fun _ h9 => h9) rfl d_S_chainLength_11 ?_
        refine lv_iload_n hx hb d_S_chainLength_14 rfl (lv_at hl 2 rfl) ?_
        obtain ⟨wr, hwr⟩ := cx_S (k := k) (a := a) (r := r) (t := t) (kd := kd) (bs := bs) (us := us) (sth := sth) (mk := mk) (dr := dr) (M := M) (sM := sM)
        refine cal_i (wc := tbF k (a 1) (a 8) (a 9) r 64 th) (wr := wr) (va_runVN (As := [.int y]) (rest := []) ⟨hx, hb, hml, hown, hts⟩ (c_has l D k (a 1) (a 8) (a 9) r 64 (by decide) th y H.size) (cwN9 1 hts wd_75 (hK.2.1 (.methodLinkNest "StyleSheet" 64 ⟨"StyleSheet$Table", "has", "(I)Z"⟩ "StyleSheet") (by decide)) wd_74 ws_1 wd_2 (by decide) ⟨Nat.le_of_ble_eq_true rfl, Nat.le_of_ble_eq_true rfl⟩) (prV (q0 := 0) (ci := ciTb) hK hP hD (hwr _) rfl rfl) rfl rfl hl.1 rfl (lv_room (Nat.le_of_ble_eq_true rfl)) d_S_chainLength_15 ⟨by decide, by decide⟩) (hwr _) hP hD hS hA (fun r w1 H locs hw hpd hS => ?_)
        obtain ⟨rfl, rfl⟩ := hw
        obtain ⟨hP, hD⟩ := hpd (cxW k a r t th kd bs us sth mk dr M sM) (hwr _).symm
        refine lv_if_eq (tgt := 34) hx hb d_S_chainLength_18 (by decide) (fun c18 => ?_) (fun c18 => ?_)
        · skip
          have c18 := b_of0 c18
          refine lv_iload_n hx hb d_S_chainLength_34 rfl (lv_at hl 3 rfl) ?_
          exact hret _ _ _ _ _ _ _ _ d_S_chainLength_35 ⟨by rw [hf, chF_off c18, Nat.add_zero], rfl⟩ hP hD hS (by decide) (by decide)
        · skip
          have c18 := b_of1 c18
          obtain ⟨j, hj, rfl, hjt⟩ := hsB_t (by decide) c18
          refine lv_iinc (v := nI (i + 1)) (lv' := [(3, .int (nI (i + 1))), (0, .ref (a 0)), (1, .int x), (2, .int (nI j))]) hx hb d_S_chainLength_21 hl (k := 3) rfl (ii_1 _) (by decide) rfl (fun ls hl => ?_)
          refine lv_aload_n hx hb d_S_chainLength_24 rfl (lv_at hl 1 rfl) ?_
          refine va_get (D := D) (ci := ciSS) (v := .ref (a 3)) (C := RS) (T := TS) (N := 7) hx hb hts inS hown hK.1 hP 0 rfl rfl 2 (by decide) (hts _ wd_48) (fun _ h9 => h9) rfl d_S_chainLength_25 ?_
          refine lv_iload_n hx hb d_S_chainLength_28 rfl (lv_at hl 3 rfl) ?_
          refine rw_iald hx hb hK.1 hP 3 0 rfl rfl (j := j) (by omega) (by decide) d_S_chainLength_29 ?_
          refine lv_istore_n (lv' := [(2, .int (bs j)), (3, .int (nI (i + 1))), (0, .ref (a 0)), (1, .int x)]) hx hb d_S_chainLength_30 rfl hl (by decide) rfl (fun ls hl => ?_)
          refine lv_goto (tgt := 4) hx hb d_S_chainLength_31 (by decide) ?_
          exact ih (i + 1) (bs j) ls H locs (by omega) (by omega) (by rw [hf, chF_go (by omega) hj c18]; omega) hP hD hS (lv_sub hl [2, 3, 0, 1] rfl)
  exact lp _ (0) (x) ls s.heap [] (Nat.lt_succ_self _) (by decide) (Nat.zero_add _).symm hP hD hS (lv_sub hl [2, 3, 1, 0] rfl)

set_option maxRecDepth 100000 in
set_option maxHeartbeats 4000000 in
theorem c_isOnChain (l : Launch) (D : va_G) (k : Nat → ClassId) (a r t : Nat → Nat) (th kd bs us sth mk dr : Nat → Int32) (M sM : Nat → Nat → Int32) (z x : Int32) (sz : Nat) : bMI l y_S_isOnChain (wY y_S_isOnChain b_S_isOnChain 5 (some .boolean)) (rm9 2 0 0) D (tsK k) (cxW k a r t th kd bs us sth mk dr M sM) sz [.ref (a 0), .int z, .int x] (fun v w => v = (if ocF th bs z 64 x = true then nI 1 else nI 0) ∧ w = cxW k a r t th kd bs us sth mk dr M sM) 0 0 := by
  refine ent_i (cc := b_S_isOnChain) (maxL := 5) (ty := .boolean) (by decide) (Nat.le_of_ble_eq_true rfl) (fun v w h => nr_if h.1) ?_
  intro p e s m args below meth c A Q ls hx hb hml hown hts hsz hA hP hD hS hK hl hret
  refine lv_iload_n hx hb d_S_isOnChain_0 rfl (lv_at hl 2 rfl) ?_
  refine lv_istore_n (lv' := [(3, .int x), (0, .ref (a 0)), (1, .int z), (2, .int x)]) hx hb d_S_isOnChain_1 rfl hl (by decide) rfl (fun ls hl => ?_)
  refine lv_iconst (v := nI 0) hx hb d_S_isOnChain_2 (by decide) ?_
  refine lv_istore (lv' := [(4, .int (nI 0)), (3, .int x), (0, .ref (a 0)), (1, .int z), (2, .int x)]) hx hb d_S_isOnChain_3 hl (by decide) rfl (fun ls hl => ?_)
  have lp : ∀ (n9 : Nat) (i : Nat) (y : Int32) (ls : Array Slot) (H : Heap) (locs : List Loc), 64 - i < n9 → (i ≤ 64) → (ocF th bs z 64 x = ocF th bs z (64 - i) y) → va_P D vwCl (cxW k a r t th kd bs us sth mk dr M sM) H → va_D A (cxW k a r t th kd bs us sth mk dr M sM) → va_S A s.heap H locs → lv_has ls 5 [(0, .ref (a 0)), (1, .int z), (2, .int x), (3, .int y), (4, .int (nI i))] → W p l e (rm9 2 0 0) s m args below meth c H locs 0 0 Q (F0 m 5 ls []) := by
    intro n9
    induction n9 with
    | zero => intro i y ls H locs hm; omega
    | succ n9 ih =>
      intro i y ls H locs hm hi hf hP hD hS hl
      refine lv_iload hx hb d_S_isOnChain_5 (lv_at hl 4 rfl) ?_
      refine lv_bipush (v := nI 64) hx hb d_S_isOnChain_7 (by decide) ?_
      refine lv_icmp_ge (tgt := 43) hx hb d_S_isOnChain_9 (by decide) (fun c9 => ?_) (fun c9 => ?_)
      · skip
        rw [nI_leI (by omega) (by omega)] at c9
        refine lv_iconst (v := nI 0) hx hb d_S_isOnChain_43 (by decide) ?_
        exact hret _ _ _ _ _ _ _ _ d_S_isOnChain_44 ⟨if_f (by rw [hf, ocF_end (by omega)]), rfl⟩ hP hD hS (by decide) (by decide)
      · skip
        rw [nI_leI (by omega) (by omega)] at c9
        refine lv_aload_n hx hb d_S_isOnChain_12 rfl (lv_at hl 0 rfl) ?_
        refine va_get (D := D) (ci := ciSS) (v := .ref (a 1)) (C := RS) (T := TS) (N := 7) hx hb hts inS hown hK.1 hP 0 rfl rfl 0 (by decide) (hts _ wd_46) (fun _ h9 => h9) rfl d_S_isOnChain_13 ?_
        refine lv_iload_n hx hb d_S_isOnChain_16 rfl (lv_at hl 3 rfl) ?_
        obtain ⟨wr, hwr⟩ := cx_S (k := k) (a := a) (r := r) (t := t) (kd := kd) (bs := bs) (us := us) (sth := sth) (mk := mk) (dr := dr) (M := M) (sM := sM)
        refine cal_i (wc := tbF k (a 1) (a 8) (a 9) r 64 th) (wr := wr) (va_runVN (As := [.int y]) (rest := []) ⟨hx, hb, hml, hown, hts⟩ (c_has l D k (a 1) (a 8) (a 9) r 64 (by decide) th y H.size) (cwN9 1 hts wd_75 (hK.2.1 (.methodLinkNest "StyleSheet" 64 ⟨"StyleSheet$Table", "has", "(I)Z"⟩ "StyleSheet") (by decide)) wd_74 ws_1 wd_2 (by decide) ⟨Nat.le_of_ble_eq_true rfl, Nat.le_of_ble_eq_true rfl⟩) (prV (q0 := 0) (ci := ciTb) hK hP hD (hwr _) rfl rfl) rfl rfl hl.1 rfl (lv_room (Nat.le_of_ble_eq_true rfl)) d_S_isOnChain_17 ⟨by decide, by decide⟩) (hwr _) hP hD hS hA (fun r w1 H locs hw hpd hS => ?_)
        obtain ⟨rfl, rfl⟩ := hw
        obtain ⟨hP, hD⟩ := hpd (cxW k a r t th kd bs us sth mk dr M sM) (hwr _).symm
        refine lv_if_eq (tgt := 43) hx hb d_S_isOnChain_20 (by decide) (fun c20 => ?_) (fun c20 => ?_)
        · skip
          have c20 := b_of0 c20
          refine lv_iconst (v := nI 0) hx hb d_S_isOnChain_43 (by decide) ?_
          exact hret _ _ _ _ _ _ _ _ d_S_isOnChain_44 ⟨if_f (by rw [hf, ocF_off c20]), rfl⟩ hP hD hS (by decide) (by decide)
        · skip
          have c20 := b_of1 c20
          obtain ⟨j, hj, rfl, hjt⟩ := hsB_t (by decide) c20
          refine lv_iload_n hx hb d_S_isOnChain_23 rfl (lv_at hl 3 rfl) ?_
          refine lv_iload_n hx hb d_S_isOnChain_24 rfl (lv_at hl 1 rfl) ?_
          refine lv_icmp_ne (tgt := 30) hx hb d_S_isOnChain_25 (by decide) (fun c25 => ?_) (fun c25 => ?_)
          · skip
            refine lv_aload_n hx hb d_S_isOnChain_30 rfl (lv_at hl 0 rfl) ?_
            refine va_get (D := D) (ci := ciSS) (v := .ref (a 3)) (C := RS) (T := TS) (N := 7) hx hb hts inS hown hK.1 hP 0 rfl rfl 2 (by decide) (hts _ wd_48) (fun _ h9 => h9) rfl d_S_isOnChain_31 ?_
            refine lv_iload_n hx hb d_S_isOnChain_34 rfl (lv_at hl 3 rfl) ?_
            refine rw_iald hx hb hK.1 hP 3 0 rfl rfl (j := j) (by omega) (by decide) d_S_isOnChain_35 ?_
            refine lv_istore_n (lv' := [(3, .int (bs j)), (0, .ref (a 0)), (1, .int z), (2, .int x), (4, .int (nI i))]) hx hb d_S_isOnChain_36 rfl hl (by decide) rfl (fun ls hl => ?_)
            refine lv_iinc (v := nI (i + 1)) (lv' := [(4, .int (nI (i + 1))), (3, .int (bs j)), (0, .ref (a 0)), (1, .int z), (2, .int x)]) hx hb d_S_isOnChain_37 hl (k := 4) rfl (ii_1 _) (by decide) rfl (fun ls hl => ?_)
            refine lv_goto (tgt := 5) hx hb d_S_isOnChain_40 (by decide) ?_
            exact ih (i + 1) (bs j) ls H locs (by omega) (by omega) (by rw [hf]; exact ocF_go (by omega) hj c20 c25) hP hD hS (lv_sub hl [2, 3, 4, 1, 0] rfl)
          · skip
            refine lv_iconst (v := nI 1) hx hb d_S_isOnChain_28 (by decide) ?_
            exact hret _ _ _ _ _ _ _ _ d_S_isOnChain_29 ⟨if_t (by rw [hf]; exact ocF_hit (by omega) c20 c25), rfl⟩ hP hD hS (by decide) (by decide)
  exact lp _ (0) (x) ls s.heap [] (Nat.lt_succ_self _) (by decide) rfl hP hD hS (lv_sub hl [2, 3, 4, 1, 0] rfl)

set_option maxRecDepth 100000 in
set_option maxHeartbeats 4000000 in
theorem c_othersBuiltOn (l : Launch) (D : va_G) (k : Nat → ClassId) (a r t : Nat → Nat) (th kd bs us sth mk dr : Nat → Int32) (M sM : Nat → Nat → Int32) (x : Int32) (sz : Nat) : bMI l y_S_othersBuiltOn (wY y_S_othersBuiltOn b_S_othersBuiltOn 4 (some .int)) (rm9 3 0 0) D (tsK k) (cxW k a r t th kd bs us sth mk dr M sM) sz [.ref (a 0), .int x] (fun v w => v = nI (cnF (fun i => decide (¬ nI i = x) && ocF th bs x 64 (nI i)) 64) ∧ w = cxW k a r t th kd bs us sth mk dr M sM) 0 0 := by
  refine ent_i (cc := b_S_othersBuiltOn) (maxL := 4) (ty := .int) (by decide) (Nat.le_of_ble_eq_true rfl) (fun _ _ _ => rfl) ?_
  intro p e s m args below meth c A Q ls hx hb hml hown hts hsz hA hP hD hS hK hl hret
  refine lv_iconst (v := nI 0) hx hb d_S_othersBuiltOn_0 (by decide) ?_
  refine lv_istore_n (lv' := [(2, .int (nI 0)), (0, .ref (a 0)), (1, .int x)]) hx hb d_S_othersBuiltOn_1 rfl hl (by decide) rfl (fun ls hl => ?_)
  refine lv_iconst (v := nI 0) hx hb d_S_othersBuiltOn_2 (by decide) ?_
  refine lv_istore_n (lv' := [(3, .int (nI 0)), (2, .int (nI 0)), (0, .ref (a 0)), (1, .int x)]) hx hb d_S_othersBuiltOn_3 rfl hl (by decide) rfl (fun ls hl => ?_)
  have lp : ∀ (n9 : Nat) (i : Nat) (ls : Array Slot) (H : Heap) (locs : List Loc), 64 - i < n9 → (i ≤ 64) → va_P D vwCl (cxW k a r t th kd bs us sth mk dr M sM) H → va_D A (cxW k a r t th kd bs us sth mk dr M sM) → va_S A s.heap H locs → lv_has ls 4 [(0, .ref (a 0)), (1, .int x), (2, .int (nI (cnF (fun i => decide (¬ nI i = x) && ocF th bs x 64 (nI i)) i))), (3, .int (nI i))] → W p l e (rm9 3 0 0) s m args below meth c H locs 0 0 Q (F0 m 4 ls []) := by
    intro n9
    induction n9 with
    | zero => intro i ls H locs hm; omega
    | succ n9 ih =>
      intro i ls H locs hm hi hP hD hS hl
      refine lv_iload_n hx hb d_S_othersBuiltOn_4 rfl (lv_at hl 3 rfl) ?_
      refine lv_bipush (v := nI 64) hx hb d_S_othersBuiltOn_5 (by decide) ?_
      refine lv_icmp_ge (tgt := 33) hx hb d_S_othersBuiltOn_7 (by decide) (fun c7 => ?_) (fun c7 => ?_)
      · skip
        rw [nI_leI (by omega) (by omega)] at c7
        refine lv_iload_n hx hb d_S_othersBuiltOn_33 rfl (lv_at hl 2 rfl) ?_
        exact hret _ _ _ _ _ _ _ _ d_S_othersBuiltOn_34 ⟨by rw [show i = 64 by omega], rfl⟩ hP hD hS (by decide) (by decide)
      · skip
        rw [nI_leI (by omega) (by omega)] at c7
        refine lv_iload_n hx hb d_S_othersBuiltOn_10 rfl (lv_at hl 3 rfl) ?_
        refine lv_iload_n hx hb d_S_othersBuiltOn_11 rfl (lv_at hl 1 rfl) ?_
        refine lv_icmp_eq (tgt := 27) hx hb d_S_othersBuiltOn_12 (by decide) (fun c12 => ?_) (fun c12 => ?_)
        · skip
          rw [cnF_f (f := (fun i => decide (¬ nI i = x) && ocF th bs x 64 (nI i))) (by simp [c12])] at hl
          refine lv_iinc (v := nI (i + 1)) (lv' := [(3, .int (nI (i + 1))), (0, .ref (a 0)), (1, .int x), (2, .int (nI (cnF (fun i => decide (¬ nI i = x) && ocF th bs x 64 (nI i)) (i + 1))))]) hx hb d_S_othersBuiltOn_27 hl (k := 3) rfl (ii_1 _) (by decide) rfl (fun ls hl => ?_)
          refine lv_goto (tgt := 4) hx hb d_S_othersBuiltOn_30 (by decide) ?_
          exact ih (i + 1) ls H locs (by omega) (by omega) hP hD hS (lv_sub hl [1, 2, 3, 0] rfl)
        · skip
          refine lv_aload_n hx hb d_S_othersBuiltOn_15 rfl (lv_at hl 0 rfl) ?_
          refine lv_iload_n hx hb d_S_othersBuiltOn_16 rfl (lv_at hl 1 rfl) ?_
          refine lv_iload_n hx hb d_S_othersBuiltOn_17 rfl (lv_at hl 3 rfl) ?_
          refine cal_i (wc := cxW k a r t th kd bs us sth mk dr M sM) (wr := []) (va_runV (As := [.int x, .int (nI i)]) (rest := []) ⟨hx, hb, hml, hown, hts⟩ (c_isOnChain l D k a r t th kd bs us sth mk dr M sM x (nI i) H.size) (cwV9 2 hts wd_252 wd_249 wd_251 ws_12 wd_1 (by decide) ⟨Nat.le_of_ble_eq_true rfl, Nat.le_of_ble_eq_true rfl⟩) (prV (q0 := 0) (ci := ciSS) hK hP hD (pm_nil' _) rfl rfl) rfl rfl hl.1 rfl (lv_room (Nat.le_of_ble_eq_true rfl)) d_S_othersBuiltOn_18 ⟨by decide, by decide⟩) (pm_nil' _) hP hD hS hA (fun r w1 H locs hw hpd hS => ?_)
          obtain ⟨rfl, rfl⟩ := hw
          obtain ⟨hP, hD⟩ := hpd (cxW k a r t th kd bs us sth mk dr M sM) (pm_nil _)
          refine lv_if_eq (tgt := 27) hx hb d_S_othersBuiltOn_21 (by decide) (fun c21 => ?_) (fun c21 => ?_)
          · skip
            have c21 := b_of0 c21
            rw [cnF_f (f := (fun i => decide (¬ nI i = x) && ocF th bs x 64 (nI i))) (by simp [c21])] at hl
            refine lv_iinc (v := nI (i + 1)) (lv' := [(3, .int (nI (i + 1))), (0, .ref (a 0)), (1, .int x), (2, .int (nI (cnF (fun i => decide (¬ nI i = x) && ocF th bs x 64 (nI i)) (i + 1))))]) hx hb d_S_othersBuiltOn_27 hl (k := 3) rfl (ii_1 _) (by decide) rfl (fun ls hl => ?_)
            refine lv_goto (tgt := 4) hx hb d_S_othersBuiltOn_30 (by decide) ?_
            exact ih (i + 1) ls H locs (by omega) (by omega) hP hD hS (lv_sub hl [1, 2, 3, 0] rfl)
          · skip
            have c21 := b_of1 c21
            refine lv_iinc (v := nI ((cnF (fun i => decide (¬ nI i = x) && ocF th bs x 64 (nI i)) i) + 1)) (lv' := [(2, .int (nI ((cnF (fun i => decide (¬ nI i = x) && ocF th bs x 64 (nI i)) i) + 1))), (0, .ref (a 0)), (1, .int x), (3, .int (nI i))]) hx hb d_S_othersBuiltOn_24 hl (k := 2) rfl (ii_1 _) (by decide) rfl (fun ls hl => ?_)
            rw [cnF_t (f := (fun i => decide (¬ nI i = x) && ocF th bs x 64 (nI i))) (by simp [c12, c21])] at hl
            refine lv_iinc (v := nI (i + 1)) (lv' := [(3, .int (nI (i + 1))), (2, .int (nI (cnF (fun i => decide (¬ nI i = x) && ocF th bs x 64 (nI i)) (i + 1)))), (0, .ref (a 0)), (1, .int x)]) hx hb d_S_othersBuiltOn_27 hl (k := 3) rfl (ii_1 _) (by decide) rfl (fun ls hl => ?_)
            refine lv_goto (tgt := 4) hx hb d_S_othersBuiltOn_30 (by decide) ?_
            exact ih (i + 1) ls H locs (by omega) (by omega) hP hD hS (lv_sub hl [2, 3, 1, 0] rfl)
  exact lp _ (0) ls s.heap [] (Nat.lt_succ_self _) (by decide) hP hD hS (lv_sub hl [2, 3, 1, 0] rfl)

set_option maxRecDepth 100000 in
set_option maxHeartbeats 4000000 in
theorem c_longestChain (l : Launch) (D : va_G) (k : Nat → ClassId) (a r t : Nat → Nat) (th kd bs us sth mk dr : Nat → Int32) (M sM : Nat → Nat → Int32) (sz : Nat) : bMI l y_S_longestChain (wY y_S_longestChain b_S_longestChain 3 (some .int)) (rm9 3 0 0) D (tsK k) (cxW k a r t th kd bs us sth mk dr M sM) sz [.ref (a 0)] (fun v w => v = nI (mxF (fun i => chF th bs 64 (nI i)) 64) ∧ w = cxW k a r t th kd bs us sth mk dr M sM) 0 0 := by
  refine ent_i (cc := b_S_longestChain) (maxL := 3) (ty := .int) (by decide) (Nat.le_of_ble_eq_true rfl) (fun _ _ _ => rfl) ?_
  intro p e s m args below meth c A Q ls hx hb hml hown hts hsz hA hP hD hS hK hl hret
  refine lv_iconst (v := nI 0) hx hb d_S_longestChain_0 (by decide) ?_
  refine lv_istore_n (lv' := [(1, .int (nI 0)), (0, .ref (a 0))]) hx hb d_S_longestChain_1 rfl hl (by decide) rfl (fun ls hl => ?_)
  refine lv_iconst (v := nI 0) hx hb d_S_longestChain_2 (by decide) ?_
  refine lv_istore_n (lv' := [(2, .int (nI 0)), (1, .int (nI 0)), (0, .ref (a 0))]) hx hb d_S_longestChain_3 rfl hl (by decide) rfl (fun ls hl => ?_)
  have lp : ∀ (n9 : Nat) (i : Nat) (ls : Array Slot) (H : Heap) (locs : List Loc), 64 - i < n9 → (i ≤ 64) → va_P D vwCl (cxW k a r t th kd bs us sth mk dr M sM) H → va_D A (cxW k a r t th kd bs us sth mk dr M sM) → va_S A s.heap H locs → lv_has ls 3 [(0, .ref (a 0)), (1, .int (nI (mxF (fun i => chF th bs 64 (nI i)) i))), (2, .int (nI i))] → W p l e (rm9 3 0 0) s m args below meth c H locs 0 0 Q (F0 m 4 ls []) := by
    intro n9
    induction n9 with
    | zero => intro i ls H locs hm; omega
    | succ n9 ih =>
      intro i ls H locs hm hi hP hD hS hl
      refine lv_iload_n hx hb d_S_longestChain_4 rfl (lv_at hl 2 rfl) ?_
      refine lv_bipush (v := nI 64) hx hb d_S_longestChain_5 (by decide) ?_
      refine lv_icmp_ge (tgt := 26) hx hb d_S_longestChain_7 (by decide) (fun c7 => ?_) (fun c7 => ?_)
      · skip
        rw [nI_leI (by omega) (by omega)] at c7
        refine lv_iload_n hx hb d_S_longestChain_26 rfl (lv_at hl 1 rfl) ?_
        exact hret _ _ _ _ _ _ _ _ d_S_longestChain_27 ⟨by rw [show i = 64 by omega], rfl⟩ hP hD hS (by decide) (by decide)
      · skip
        rw [nI_leI (by omega) (by omega)] at c7
        refine lv_iload_n hx hb d_S_longestChain_10 rfl (lv_at hl 1 rfl) ?_
        refine lv_aload_n hx hb d_S_longestChain_11 rfl (lv_at hl 0 rfl) ?_
        refine lv_iload_n hx hb d_S_longestChain_12 rfl (lv_at hl 2 rfl) ?_
        refine cal_i (wc := cxW k a r t th kd bs us sth mk dr M sM) (wr := []) (va_runV (As := [.int (nI i)]) (rest := [.int (nI (mxF (fun i => chF th bs 64 (nI i)) i))]) ⟨hx, hb, hml, hown, hts⟩ (c_chainLength l D k a r t th kd bs us sth mk dr M sM (nI i) H.size) (cwV9 1 hts wd_108 wd_105 wd_107 ws_7 wd_1 (by decide) ⟨Nat.le_of_ble_eq_true rfl, Nat.le_of_ble_eq_true rfl⟩) (prV (q0 := 0) (ci := ciSS) hK hP hD (pm_nil' _) rfl rfl) rfl rfl hl.1 rfl (lv_room (Nat.le_of_ble_eq_true rfl)) d_S_longestChain_13 ⟨by decide, by decide⟩) (pm_nil' _) hP hD hS hA (fun r w1 H locs hw hpd hS => ?_)
        obtain ⟨rfl, rfl⟩ := hw
        obtain ⟨hP, hD⟩ := hpd (cxW k a r t th kd bs us sth mk dr M sM) (pm_nil _)
        refine va_mmax hx hb (hml.trans hl.1.symm) hown (hts _ wd_109) (hts _ wd_110) (hts _ wd_12) (hts _ wd_111) (Nat.le_of_ble_eq_true rfl) (Nat.le_of_ble_eq_true rfl) (by decide) (by decide) d_S_longestChain_16 ?_
        rw [mx_nI (by have := mxF_le (f := (fun i => chF th bs 64 (nI i))) (b := 64) (fun i => chF_le 64 _) i; omega) (by have := chF_le (th := th) (bs := bs) 64 (nI i); omega)]
        refine lv_istore_n (lv' := [(1, .int (nI (mxF (fun i => chF th bs 64 (nI i)) (i + 1)))), (0, .ref (a 0)), (2, .int (nI i))]) hx hb d_S_longestChain_19 rfl hl (by decide) rfl (fun ls hl => ?_)
        refine lv_iinc (v := nI (i + 1)) (lv' := [(2, .int (nI (i + 1))), (1, .int (nI (mxF (fun i => chF th bs 64 (nI i)) (i + 1)))), (0, .ref (a 0))]) hx hb d_S_longestChain_20 hl (k := 2) rfl (ii_1 _) (by decide) rfl (fun ls hl => ?_)
        refine lv_goto (tgt := 4) hx hb d_S_longestChain_23 (by decide) ?_
        exact ih (i + 1) ls H locs (by omega) (by omega) hP hD hS (lv_sub hl [2, 1, 0] rfl)
  exact lp _ (0) ls s.heap [] (Nat.lt_succ_self _) (by decide) hP hD hS (lv_sub hl [2, 1, 0] rfl)

set_option maxRecDepth 100000 in
set_option maxHeartbeats 4000000 in
theorem c_valueByChain (l : Launch) (D : va_G) (k : Nat → ClassId) (a r t : Nat → Nat) (th kd bs us sth mk dr : Nat → Int32) (M sM : Nat → Nat → Int32) (x : Int32) (p9 : Nat) (hp9 : p9 < 24) (sz : Nat) : bMI l y_S_valueByChain (wY y_S_valueByChain b_S_valueByChain 4 (some .int)) (rm9 3 0 0) D (tsK k) (cxW k a r t th kd bs us sth mk dr M sM) sz [.ref (a 0), .int x, .int (nI p9)] (fun v w => v = vbF th bs M x p9 ∧ w = cxW k a r t th kd bs us sth mk dr M sM) 0 0 := by
  refine ent_i (cc := b_S_valueByChain) (maxL := 4) (ty := .int) (by decide) (Nat.le_of_ble_eq_true rfl) (fun _ _ _ => rfl) ?_
  intro p e s m args below meth c A Q ls hx hb hml hown hts hsz hA hP hD hS hK hl hret
  refine lv_aload_n hx hb d_S_valueByChain_0 rfl (lv_at hl 0 rfl) ?_
  refine lv_iload_n hx hb d_S_valueByChain_1 rfl (lv_at hl 1 rfl) ?_
  refine lv_iload_n hx hb d_S_valueByChain_2 rfl (lv_at hl 2 rfl) ?_
  refine cal_i (wc := cxW k a r t th kd bs us sth mk dr M sM) (wr := []) (va_runV (As := [.int x, .int (nI p9)]) (rest := []) ⟨hx, hb, hml, hown, hts⟩ (c_giverOnChain l D k a r t th kd bs us sth mk dr M sM x p9 hp9 s.heap.size) (cwV9 2 hts wd_289 wd_286 wd_288 ws_14 wd_1 (by decide) ⟨Nat.le_of_ble_eq_true rfl, Nat.le_of_ble_eq_true rfl⟩) (prV (q0 := 0) (ci := ciSS) hK hP hD (pm_nil' _) rfl rfl) rfl rfl hl.1 rfl (lv_room (Nat.le_of_ble_eq_true rfl)) d_S_valueByChain_3 ⟨by decide, by decide⟩) (pm_nil' _) hP hD hS hA (fun r w1 H locs hw hpd hS => ?_)
  obtain ⟨rfl, rfl⟩ := hw
  obtain ⟨hP, hD⟩ := hpd (cxW k a r t th kd bs us sth mk dr M sM) (pm_nil _)
  refine lv_istore_n (lv' := [(3, .int (gvF th bs M p9 64 x)), (0, .ref (a 0)), (1, .int x), (2, .int (nI p9))]) hx hb d_S_valueByChain_6 rfl hl (by decide) rfl (fun ls hl => ?_)
  refine lv_iload_n hx hb d_S_valueByChain_7 rfl (lv_at hl 0 rfl) ?_
  refine lv_iconst (v := -1) hx hb d_S_valueByChain_8 (by decide) ?_
  refine lv_icmp_ne (tgt := 16) hx hb d_S_valueByChain_9 (by decide) (fun c9 => ?_) (fun c9 => ?_)
  · skip
    rcases gvF_in (th := th) (bs := bs) (M := M) (p := p9) 64 x with hg | ⟨j, hj, hg, -, -⟩
    · exact absurd hg c9
    rw [hg] at hl
    refine lv_aload_n hx hb d_S_valueByChain_16 rfl (lv_at hl 1 rfl) ?_
    refine va_get (D := D) (ci := ciSS) (v := .ref (a 1)) (C := RS) (T := TS) (N := 7) hx hb hts inS hown hK.1 hP 0 rfl rfl 0 (by decide) (hts _ wd_46) (fun _ h9 => h9) rfl d_S_valueByChain_17 ?_
    refine va_getN (D := D) (ci := ciTb) (v := .ref (a 9)) (C := RT) (T := TT) (N := 2) hx hb hts inT hown hK.1 hP 1 rfl rfl 1 (by decide) (va_Nw.use rfl (hK.2.1 (.fieldLinkNest "StyleSheet" 81 "StyleSheet$Table" "values" "[[I" "StyleSheet") (by decide))) (fun _ h9 => h9) rfl d_S_valueByChain_20 ?_
    refine lv_iload_n hx hb d_S_valueByChain_23 rfl (lv_at hl 0 rfl) ?_
    refine rw_aald hx hb hK.1 hP 9 2 rfl rfl (j := j) (y := r j) (by omega) (by decide) (gOut_at (by omega)) d_S_valueByChain_24 ?_
    refine lv_iload_n hx hb d_S_valueByChain_25 rfl (lv_at hl 3 rfl) ?_
    refine rw_iald hx hb hK.1 hP (12 + j) 0 (cx_rowS (by omega)) rfl (j := p9) (by omega) (by decide) d_S_valueByChain_26 ?_
    exact hret _ _ _ _ _ _ _ _ d_S_valueByChain_27 ⟨by simp only [vbF]; rw [if_neg c9, hg, nI_clamp (by omega)], rfl⟩ hP hD hS (by decide) (by decide)
  · skip
    refine lv_iconst (v := -1) hx hb d_S_valueByChain_12 (by decide) ?_
    refine lv_goto (tgt := 27) hx hb d_S_valueByChain_13 (by decide) ?_
    exact hret _ _ _ _ _ _ _ _ d_S_valueByChain_27 ⟨by simp [vbF, c9], rfl⟩ hP hD hS (by decide) (by decide)

set_option maxRecDepth 100000 in
set_option maxHeartbeats 4000000 in
theorem c_resolvedByStyles (l : Launch) (D : va_G) (k : Nat → ClassId) (a r t : Nat → Nat) (th kd bs us sth mk dr : Nat → Int32) (M sM : Nat → Nat → Int32) (c9 q9 : Int32) (p9 : Nat) (hp9 : p9 < 24) (sz : Nat) : bMI l y_S_resolvedByStyles (wY y_S_resolvedByStyles b_S_resolvedByStyles 6 (some .int)) (rm9 4 0 0) D (tsK k) (cxW k a r t th kd bs us sth mk dr M sM) sz [.ref (a 0), .int c9, .int q9, .int (nI p9)] (fun v w => v = rbF th bs us M c9 q9 p9 ∧ w = cxW k a r t th kd bs us sth mk dr M sM) 0 0 := by
  refine ent_i (cc := b_S_resolvedByStyles) (maxL := 6) (ty := .int) (by decide) (Nat.le_of_ble_eq_true rfl) (fun _ _ _ => rfl) ?_
  intro p e s m args below meth c A Q ls hx hb hml hown hts hsz hA hP hD hS hK hl hret
  refine lv_aload_n hx hb d_S_resolvedByStyles_0 rfl (lv_at hl 0 rfl) ?_
  refine lv_iload_n hx hb d_S_resolvedByStyles_1 rfl (lv_at hl 1 rfl) ?_
  refine lv_iload_n hx hb d_S_resolvedByStyles_2 rfl (lv_at hl 3 rfl) ?_
  refine cal_i (wc := cxW k a r t th kd bs us sth mk dr M sM) (wr := []) (va_runV (As := [.int c9, .int (nI p9)]) (rest := []) ⟨hx, hb, hml, hown, hts⟩ (c_valueByChain l D k a r t th kd bs us sth mk dr M sM c9 p9 hp9 s.heap.size) (cwV9 2 hts wd_285 wd_282 wd_284 ws_13 wd_1 (by decide) ⟨Nat.le_of_ble_eq_true rfl, Nat.le_of_ble_eq_true rfl⟩) (prV (q0 := 0) (ci := ciSS) hK hP hD (pm_nil' _) rfl rfl) rfl rfl hl.1 rfl (lv_room (Nat.le_of_ble_eq_true rfl)) d_S_resolvedByStyles_3 ⟨by decide, by decide⟩) (pm_nil' _) hP hD hS hA (fun r w1 H locs hw hpd hS => ?_)
  obtain ⟨rfl, rfl⟩ := hw
  obtain ⟨hP, hD⟩ := hpd (cxW k a r t th kd bs us sth mk dr M sM) (pm_nil _)
  refine lv_istore (lv' := [(4, .int (vbF th bs M c9 p9)), (0, .ref (a 0)), (1, .int c9), (2, .int q9), (3, .int (nI p9))]) hx hb d_S_resolvedByStyles_6 hl (by decide) rfl (fun ls hl => ?_)
  refine lv_iload hx hb d_S_resolvedByStyles_8 (lv_at hl 0 rfl) ?_
  refine lv_iconst (v := -1) hx hb d_S_resolvedByStyles_10 (by decide) ?_
  refine lv_icmp_eq (tgt := 17) hx hb d_S_resolvedByStyles_11 (by decide) (fun c11 => ?_) (fun c11 => ?_)
  · skip
    refine lv_aload_n hx hb d_S_resolvedByStyles_17 rfl (lv_at hl 1 rfl) ?_
    refine lv_iload_n hx hb d_S_resolvedByStyles_18 rfl (lv_at hl 3 rfl) ?_
    refine lv_iload_n hx hb d_S_resolvedByStyles_19 rfl (lv_at hl 4 rfl) ?_
    refine cal_i (wc := cxW k a r t th kd bs us sth mk dr M sM) (wr := []) (va_runV (As := [.int q9, .int (nI p9)]) (rest := []) ⟨hx, hb, hml, hown, hts⟩ (c_valueByChain l D k a r t th kd bs us sth mk dr M sM q9 p9 hp9 H.size) (cwV9 2 hts wd_285 wd_282 wd_284 ws_13 wd_1 (by decide) ⟨Nat.le_of_ble_eq_true rfl, Nat.le_of_ble_eq_true rfl⟩) (prV (q0 := 0) (ci := ciSS) hK hP hD (pm_nil' _) rfl rfl) rfl rfl hl.1 rfl (lv_room (Nat.le_of_ble_eq_true rfl)) d_S_resolvedByStyles_20 ⟨by decide, by decide⟩) (pm_nil' _) hP hD hS hA (fun r w1 H locs hw hpd hS => ?_)
    obtain ⟨rfl, rfl⟩ := hw
    obtain ⟨hP, hD⟩ := hpd (cxW k a r t th kd bs us sth mk dr M sM) (pm_nil _)
    refine lv_istore (lv' := [(5, .int (vbF th bs M q9 p9)), (4, .int (vbF th bs M c9 p9)), (0, .ref (a 0)), (1, .int c9), (2, .int q9), (3, .int (nI p9))]) hx hb d_S_resolvedByStyles_23 hl (by decide) rfl (fun ls hl => ?_)
    refine lv_iload hx hb d_S_resolvedByStyles_25 (lv_at hl 0 rfl) ?_
    refine lv_iconst (v := -1) hx hb d_S_resolvedByStyles_27 (by decide) ?_
    refine lv_icmp_eq (tgt := 36) hx hb d_S_resolvedByStyles_28 (by decide) (fun c28 => ?_) (fun c28 => ?_)
    · skip
      refine lv_aload_n hx hb d_S_resolvedByStyles_36 rfl (lv_at hl 2 rfl) ?_
      refine va_get (D := D) (ci := ciSS) (v := .ref (a 4)) (C := RS) (T := TS) (N := 7) hx hb hts inS hown hK.1 hP 0 rfl rfl 3 (by decide) (hts _ wd_49) (fun _ h9 => h9) rfl d_S_resolvedByStyles_37 ?_
      refine lv_iload_n hx hb d_S_resolvedByStyles_40 rfl (lv_at hl 5 rfl) ?_
      refine rw_iald hx hb hK.1 hP 4 0 rfl rfl (j := p9) (by omega) (by decide) d_S_resolvedByStyles_41 ?_
      exact hret _ _ _ _ _ _ _ _ d_S_resolvedByStyles_42 ⟨by simp [rbF, c11, c28], rfl⟩ hP hD hS (by decide) (by decide)
    · skip
      refine lv_iload hx hb d_S_resolvedByStyles_31 (lv_at hl 0 rfl) ?_
      refine lv_goto (tgt := 42) hx hb d_S_resolvedByStyles_33 (by decide) ?_
      exact hret _ _ _ _ _ _ _ _ d_S_resolvedByStyles_42 ⟨by simp [rbF, c11, c28], rfl⟩ hP hD hS (by decide) (by decide)
  · skip
    refine lv_iload hx hb d_S_resolvedByStyles_14 (lv_at hl 0 rfl) ?_
    exact hret _ _ _ _ _ _ _ _ d_S_resolvedByStyles_16 ⟨by simp [rbF, c11], rfl⟩ hP hD hS (by decide) (by decide)

set_option maxRecDepth 100000 in
set_option maxHeartbeats 4000000 in
theorem c_resolved (l : Launch) (D : va_G) (k : Nat → ClassId) (a r t : Nat → Nat) (th kd bs us sth mk dr : Nat → Int32) (M sM : Nat → Nat → Int32) (j : Nat) (hj : j < 256) (c9 q9 : Int32) (p9 : Nat) (hp9 : p9 < 24) (sz : Nat) : bMI l y_S_resolved (wY y_S_resolved b_S_resolved 6 (some .int)) (rm9 5 0 0) D (tsK k) (cxW k a r t th kd bs us sth mk dr M sM) sz [.ref (a 0), .int (nI j), .int c9, .int q9, .int (nI p9)] (fun v w => v = rsF th bs us M sM j c9 q9 p9 ∧ w = cxW k a r t th kd bs us sth mk dr M sM) 0 0 := by
  refine ent_i (cc := b_S_resolved) (maxL := 6) (ty := .int) (by decide) (Nat.le_of_ble_eq_true rfl) (fun _ _ _ => rfl) ?_
  intro p e s m args below meth c A Q ls hx hb hml hown hts hsz hA hP hD hS hK hl hret
  refine lv_aload_n hx hb d_S_resolved_0 rfl (lv_at hl 0 rfl) ?_
  refine va_get (D := D) (ci := ciSS) (v := .ref (a 5)) (C := RS) (T := TS) (N := 7) hx hb hts inS hown hK.1 hP 0 rfl rfl 4 (by decide) (hts _ wd_50) (fun _ h9 => h9) rfl d_S_resolved_1 ?_
  refine va_getN (D := D) (ci := ciTb) (v := .ref (a 11)) (C := RT) (T := TT) (N := 2) hx hb hts inT hown hK.1 hP 5 rfl rfl 1 (by decide) (va_Nw.use rfl (hK.2.1 (.fieldLinkNest "StyleSheet" 81 "StyleSheet$Table" "values" "[[I" "StyleSheet") (by decide))) (fun _ h9 => h9) rfl d_S_resolved_4 ?_
  refine lv_iload_n hx hb d_S_resolved_7 rfl (lv_at hl 1 rfl) ?_
  refine rw_aald hx hb hK.1 hP 11 2 rfl rfl (j := j) (y := t j) (by omega) (by decide) (gOut_at (by omega)) d_S_resolved_8 ?_
  refine lv_iload hx hb d_S_resolved_9 (lv_at hl 4 rfl) ?_
  refine rw_iald hx hb hK.1 hP (76 + j) 0 (cx_rowT (by omega)) rfl (j := p9) (by omega) (by decide) d_S_resolved_11 ?_
  refine lv_istore (lv' := [(5, .int ((sM j) p9)), (0, .ref (a 0)), (1, .int (nI j)), (2, .int c9), (3, .int q9), (4, .int (nI p9))]) hx hb d_S_resolved_12 hl (by decide) rfl (fun ls hl => ?_)
  refine lv_iload hx hb d_S_resolved_14 (lv_at hl 0 rfl) ?_
  refine lv_iconst (v := -1) hx hb d_S_resolved_16 (by decide) ?_
  refine lv_icmp_eq (tgt := 25) hx hb d_S_resolved_17 (by decide) (fun c17 => ?_) (fun c17 => ?_)
  · skip
    refine lv_aload_n hx hb d_S_resolved_25 rfl (lv_at hl 1 rfl) ?_
    refine lv_iload_n hx hb d_S_resolved_26 rfl (lv_at hl 3 rfl) ?_
    refine lv_iload_n hx hb d_S_resolved_27 rfl (lv_at hl 4 rfl) ?_
    refine lv_iload hx hb d_S_resolved_28 (lv_at hl 5 rfl) ?_
    refine cal_i (wc := cxW k a r t th kd bs us sth mk dr M sM) (wr := []) (va_runV (As := [.int c9, .int q9, .int (nI p9)]) (rest := []) ⟨hx, hb, hml, hown, hts⟩ (c_resolvedByStyles l D k a r t th kd bs us sth mk dr M sM c9 q9 p9 hp9 s.heap.size) (cwV9 3 hts wd_360 wd_357 wd_359 ws_19 wd_1 (by decide) ⟨Nat.le_of_ble_eq_true rfl, Nat.le_of_ble_eq_true rfl⟩) (prV (q0 := 0) (ci := ciSS) hK hP hD (pm_nil' _) rfl rfl) rfl rfl hl.1 rfl (lv_room (Nat.le_of_ble_eq_true rfl)) d_S_resolved_30 ⟨by decide, by decide⟩) (pm_nil' _) hP hD hS hA (fun r w1 H locs hw hpd hS => ?_)
    obtain ⟨rfl, rfl⟩ := hw
    obtain ⟨hP, hD⟩ := hpd (cxW k a r t th kd bs us sth mk dr M sM) (pm_nil _)
    exact hret _ _ _ _ _ _ _ _ d_S_resolved_33 ⟨by simp [rsF, c17], rfl⟩ hP hD hS (by decide) (by decide)
  · skip
    refine lv_iload hx hb d_S_resolved_20 (lv_at hl 0 rfl) ?_
    refine lv_goto (tgt := 33) hx hb d_S_resolved_22 (by decide) ?_
    exact hret _ _ _ _ _ _ _ _ d_S_resolved_33 ⟨by simp [rsF, c17], rfl⟩ hP hD hS (by decide) (by decide)
