/-! THE REFERENCE BESIDE THE CLASS: what holds between their states -/
def mdW (k : Nat → ClassId) (b : Nat → Nat) (cd : Int32) (ki ba ow uu te ma va wa : Nat → Int32) : va_W :=
  [(b 0, .inr (ciMo, [.int cd, .ref (b 1), .ref (b 2), .ref (b 3), .ref (b 4), .ref (b 5), .ref (b 6), .ref (b 7), .ref (b 8)])), (b 1, .inl (k 0, 64, .inl ki)), (b 2, .inl (k 0, 64, .inl ba)), (b 3, .inl (k 0, 1536, .inl ow)), (b 4, .inl (k 0, 24, .inl uu)), (b 5, .inl (k 1, 256, .inl te)), (b 6, .inl (k 1, 256, .inl ma)), (b 7, .inl (k 0, 6144, .inl va)), (b 8, .inl (k 0, 24, .inl wa))]
/-- the chain from x ends after at most n styles that are there -/
def eN (th bs : Nat → Int32) : Nat → Int32 → Prop
  | 0, x => x = -1
  | n + 1, x => x = -1 ∨ ∃ j : Nat, j < 64 ∧ x = nI j ∧ th j ≠ 0 ∧ eN th bs n (bs j)
/-- the styles of the class: values, bases, no chain comes back -/
def RS1 (th kd bs : Nat → Int32) (M : Nat → Nat → Int32) : Prop :=
  (∀ i p, i < 64 → p < 24 → M i p = -1 ∨ ¬ M i p < 0) ∧ (∀ i p, i < 64 → p < 24 → th i = 0 → M i p = -1) ∧ (∀ i, i < 64 → th i ≠ 0 → ¬ kd i < 0) ∧
  (∀ i, i < 64 → th i ≠ 0 → bs i = -1 ∨ ∃ j : Nat, j < 64 ∧ bs i = nI j ∧ th j ≠ 0 ∧ kd j = kd i) ∧
  ∃ rk : Nat → Nat, ∀ i j, i < 64 → j < 64 → th i ≠ 0 → bs i = nI j → rk j < rk i
/-- the sets of the class -/
def RS2 (us sth mk : Nat → Int32) (sM : Nat → Nat → Int32) : Prop :=
  (∀ p, p < 24 → ¬ us p < 0) ∧ (∀ j, j < 256 → sth j = nI 0 ∨ sth j = nI 1) ∧ (∀ j p, j < 256 → p < 24 → sM j p = -1 ∨ ¬ sM j p < 0) ∧ (∀ j p, j < 256 → p < 24 → sth j = 0 → sM j p = -1) ∧ (∀ j, j < 256 → sth j = 0 → mk j = 0)
/-- the reference's styles are the class's -/
def RR1 (th kd bs : Nat → Int32) (M : Nat → Nat → Int32) (ki ba ow : Nat → Int32) : Prop :=
  (∀ i, i < 64 → (th i ≠ 0 ↔ ¬ ki i < 0)) ∧ (∀ i, i < 64 → th i ≠ 0 → ki i = kd i) ∧ (∀ i, i < 64 → th i ≠ 0 → ba i = bs i) ∧ (∀ i p, i < 64 → p < 24 → th i ≠ 0 → ow (24 * i + p) = M i p)
def RR2 (us sth mk : Nat → Int32) (sM : Nat → Nat → Int32) (uu te ma va : Nat → Int32) : Prop :=
  (∀ p, p < 24 → uu p = us p) ∧ (∀ j, j < 256 → te j = sth j) ∧ (∀ j, j < 256 → ma j = mk j) ∧ (∀ j p, j < 256 → p < 24 → sth j ≠ 0 → va (24 * j + p) = sM j p)
def RI (th kd bs us sth mk : Nat → Int32) (M sM : Nat → Nat → Int32) (ki ba ow uu te ma va : Nat → Int32) : Prop :=
  (RS1 th kd bs M ∧ RS2 us sth mk sM) ∧ RR1 th kd bs M ki ba ow ∧ RR2 us sth mk sM uu te ma va
theorem hs_m1 {n : Nat} {th : Nat → Int32} : hsB n th (-1) = false := hsB_lt (by decide)
theorem gv_m1 {th bs : Nat → Int32} {M : Nat → Nat → Int32} {p n : Nat} : gvF th bs M p n (-1) = -1 := gvF_off hs_m1
theorem eN_m1 {th bs : Nat → Int32} : ∀ n, eN th bs n (-1)
  | 0 => rfl
  | _ + 1 => Or.inl rfl
theorem php : ∀ (m n : Nat) (f : Nat → Nat), (∀ i, i ≤ n → f i < m) → (∀ i j, i < j → j ≤ n → f i ≠ f j) → n < m := by
  intro m
  induction m with
  | zero => intro n f h1 _; exact absurd (h1 0 (Nat.zero_le n)) (Nat.not_lt_zero _)
  | succ m ih =>
    intro n f h1 h2
    by_cases hk : ∃ k, k ≤ n ∧ f k = m
    · obtain ⟨k, hkn, hkm⟩ := hk
      cases n with
      | zero => omega
      | succ n =>
        have := ih n (fun i => if i < k then f i else f (i + 1)) (fun i hi => by
          show (if i < k then f i else f (i + 1)) < m
          split
          · have a := h1 i (by omega); have b := h2 i k (by omega) hkn; omega
          · have a := h1 (i + 1) (by omega); have b := h2 k (i + 1) (by omega) (by omega); omega) (fun i j hij hj => by
          show (if i < k then f i else f (i + 1)) ≠ (if j < k then f j else f (j + 1))
          split <;> split
          · exact h2 i j hij (by omega)
          · exact h2 i (j + 1) (by omega) (by omega)
          · omega
          · exact h2 (i + 1) (j + 1) (by omega) (by omega))
        omega
    · have := ih n f (fun i hi => by
        have a := h1 i hi
        by_cases e : f i = m
        · exact absurd ⟨i, hi, e⟩ hk
        · omega) h2
      omega
/-- a chain that hasn't ended after n has n + 1 styles, each lower than the one before -/
theorem eN_not {th kd bs : Nat → Int32} {rk : Nat → Nat} (hb : ∀ i, i < 64 → th i ≠ 0 → bs i = -1 ∨ ∃ j : Nat, j < 64 ∧ bs i = nI j ∧ th j ≠ 0 ∧ kd j = kd i) (hr : ∀ i j, i < 64 → j < 64 → th i ≠ 0 → bs i = nI j → rk j < rk i) :
    ∀ (n i : Nat), i < 64 → th i ≠ 0 → ¬ eN th bs n (nI i) → ∃ f : Nat → Nat, f 0 = i ∧ (∀ m, m ≤ n → f m < 64) ∧ ∀ m, m < n → rk (f (m + 1)) < rk (f m) := by
  intro n
  induction n with
  | zero => intro i hi ht _; exact ⟨fun _ => i, rfl, fun _ _ => hi, fun m hm => absurd hm (Nat.not_lt_zero m)⟩
  | succ n ih =>
    intro i hi ht h
    rcases hb i hi ht with e | ⟨j, hj, e, hjt, -⟩
    · exact absurd (Or.inr ⟨i, hi, rfl, ht, by rw [e]; exact eN_m1 n⟩) h
    · have h3 : ¬ eN th bs n (nI j) := fun q => h (Or.inr ⟨i, hi, rfl, ht, by rw [e]; exact q⟩)
      obtain ⟨f, f0, f1, f2⟩ := ih j hj hjt h3
      refine ⟨fun m => match m with | 0 => i | m + 1 => f m, rfl, ?_, ?_⟩
      · intro m hm
        cases m with
        | zero => exact hi
        | succ m => exact f1 m (by omega)
      · intro m hm
        cases m with
        | zero => show rk (f 0) < rk i; rw [f0]; exact hr i j hi hj ht e
        | succ m => exact f2 m (by omega)
theorem rk_lt {rk f : Nat → Nat} {n : Nat} (h : ∀ m, m < n → rk (f (m + 1)) < rk (f m)) : ∀ d i, i + d + 1 ≤ n → rk (f (i + d + 1)) < rk (f i) := by
  intro d
  induction d with
  | zero => intro i hi; exact h i (by omega)
  | succ d ih =>
    intro i hi
    have a := ih i (by omega)
    have b := h (i + d + 1) (by omega)
    have e : i + (d + 1) + 1 = i + d + 1 + 1 := by omega
    rw [e]
    omega
theorem eN_64 {th kd bs : Nat → Int32} {M : Nat → Nat → Int32} (h : RS1 th kd bs M) {i : Nat} (hi : i < 64) (ht : th i ≠ 0) : eN th bs 64 (nI i) := by
  obtain ⟨-, -, -, hb, rk, hr⟩ := h
  by_cases q : eN th bs 64 (nI i)
  · exact q
  · obtain ⟨f, -, f1, f2⟩ := eN_not hb hr 64 i hi ht q
    have := php 64 64 f f1 (fun a b hab hb2 e => by
      have h3 := rk_lt f2 (b - a - 1) a (by omega)
      rw [show a + (b - a - 1) + 1 = b by omega, e] at h3
      exact absurd h3 (Nat.lt_irrefl _))
    omega
theorem ki_of {n j : Nat} {x : Int32} (h : ¬ x < 0) (hx : x = -1 ∨ ∃ j : Nat, j < n ∧ x = nI j) : ∃ j : Nat, j < n ∧ x = nI j := by
  rcases hx with rfl | hx
  · exact absurd (by decide) h
  · exact hx
theorem m1_lt : (-1 : Int32) < 0 := by decide
theorem inB_ex {x : Int32} {n : Nat} (hn : n < 2 ^ 31) : (decide (nI 0 ≤ x) && decide (x ≤ nI n)) = true → ∃ j : Nat, j < n + 1 ∧ x = nI j := by
  intro h
  simp only [Bool.and_eq_true, decide_eq_true_eq] at h
  have h0 : ¬ x < 0 := by rw [Int32.not_lt]; exact h.1
  obtain ⟨j, hj, rfl⟩ := nI_of h0
  rw [nI_leI hj hn] at h
  exact ⟨j, by omega, rfl⟩
def inB (x lo hi : Int32) : Bool := decide (lo ≤ x) && decide (x ≤ hi)
theorem inB_hs {x : Int32} {n : Nat} {th : Nat → Int32} (hn : n + 1 < 2 ^ 31) (h : inB x (nI 0) (nI n) = false) : hsB (n + 1) th x = false := by
  cases e : hsB (n + 1) th x with
  | false => rfl
  | true =>
    obtain ⟨j, hj, rfl, -⟩ := hsB_t hn e
    have h1 : nI 0 ≤ nI j := nI_le (Nat.zero_le j) (by omega)
    have h2 : nI j ≤ nI n := nI_le (by omega) (by omega)
    simp [inB, h1, h2] at h
theorem inB_pr (x : Int32) : inB x (nI 0) (nI 23) = prB x := by
  cases e : prB x with
  | true =>
    obtain ⟨p, hp, rfl⟩ := prB_t e
    simp [inB, nI_le (show 0 ≤ p from Nat.zero_le p) (by omega), nI_le (show p ≤ 23 by omega) (by decide)]
  | false =>
    cases e2 : inB x (nI 0) (nI 23) with
    | false => rfl
    | true =>
      obtain ⟨j, hj, rfl⟩ := inB_ex (by decide) e2
      rw [prB_ok (nI_pos (by omega)) (nI_lt (by omega) (by decide))] at e
      cases e
