/-! WHAT HOLDS BETWEEN CLASS AND REFERENCE IS KEPT by every call -/
theorem ni_64 {i j : Nat} (hi : i < 64) (hj : j < 64) (h : nI i = nI j) : i = j := (nI_eq (by omega) (by omega)).mp h
theorem up_eq (f : Nat → Int32) (k : Nat) (x : Int32) : upd f k x k = x := by simp [upd]
theorem up_ne {f : Nat → Int32} {k j : Nat} {x : Int32} (h : j ≠ k) : upd f k x j = f j := by simp [upd, h]
theorem vu_eq (f : Nat → Nat → Int32) (k : Nat) (x : Nat → Int32) : va_up f k x k = x := by simp [va_up]
theorem vu_ne {f : Nat → Nat → Int32} {k j : Nat} {x : Nat → Int32} (h : j ≠ k) : va_up f k x j = f j := by simp [va_up, h]
theorem fr_at {th : Nat → Int32} {n j : Nat} (hn : n ≤ 256) (hj : j < n) (h : frF th n = nI j) : th j = 0 := by
  rcases fdF_in (f := fun i => decide (th i = 0)) n 0 with hg | ⟨i, -, hi, hg, hf⟩
  · rw [show frF th n = -1 from hg] at h
    exact absurd h.symm (ne_m1 (by omega))
  · rw [show frF th n = nI i from hg] at h
    rw [(nI_eq (by omega) (by omega)).mp h] at hf
    exact of_decide_eq_true hf
theorem n1_ne : (nI 1 : Int32) ≠ 0 := by decide
section KEEP
variable {th kd bs us sth mk : Nat → Int32} {M sM : Nat → Nat → Int32} {ki ba ow uu te ma va : Nat → Int32}
theorem bs_self (h : RS1 th kd bs M) {i : Nat} (hi : i < 64) (ht : th i ≠ 0) : ¬ bs i = nI i := by
  obtain ⟨-, -, -, -, rk, hr⟩ := h
  exact fun e => absurd (hr i i hi hi ht e) (Nat.lt_irrefl _)
theorem RI_init : RI (fun _ => 0) (fun _ => 0) (fun _ => 0) (fun _ => 0) (upd (fun _ => 0) 0 (nI 1)) (fun _ => 0) (fun _ _ => -1) (fun _ _ => -1) (pfF (fun _ => -1) (fun _ => 0) 64) (fun _ => 0) (fun _ => 0) (fun _ => 0) (upd (fun _ => 0) 0 (nI 1)) (fun _ => 0) (pfF (fun _ => -1) (fun _ => 0) 24) := by
  refine ⟨⟨⟨fun _ _ _ _ => Or.inl rfl, fun _ _ _ _ _ => rfl, fun _ _ h => absurd rfl h, fun _ _ h => absurd rfl h, fun _ => 0, fun _ _ _ _ h => absurd rfl h⟩, ⟨fun _ _ => (show ¬ (0 : Int32) < 0 by decide), ?_, fun _ _ _ _ => Or.inl rfl, fun _ _ _ _ _ => rfl, fun _ _ _ => rfl⟩⟩, ⟨?_, fun _ _ h => absurd rfl h, fun _ _ h => absurd rfl h, fun _ _ _ _ h => absurd rfl h⟩, ⟨fun _ _ => rfl, fun _ _ => rfl, fun _ _ => rfl, ?_⟩⟩
  · intro j _
    by_cases e : j = 0
    · right; rw [e, up_eq]
    · left; rw [up_ne e]; rfl
  · intro i hi
    constructor
    · intro h; exact absurd rfl h
    · intro h
      rw [show pfF (fun _ => -1) (fun _ => 0) 64 i = -1 by simp [pfF, hi]] at h
      exact absurd (by decide) h
  · intro j p hj hp h
    by_cases e : j = 0
    · subst e; simp [pfF, hp]
    · rw [up_ne e] at h; exact absurd rfl h
theorem RI_make (h : RI th kd bs us sth mk M sM ki ba ow uu te ma va) {j : Nat} {x y : Int32} (hj : j < 64) (hf : frF th 64 = nI j) (hx : kdB x = true) (hy : okB th kd y x = true) :
    RI (upd th j (nI 1)) (upd kd j x) (upd bs j y) us sth mk M sM (upd ki j x) (upd ba j y) (rwF ow j (fun _ => -1) 24) uu te ma va := by
  obtain ⟨⟨⟨a1, a2, a3, a4, rk, a5⟩, hs2⟩, ⟨b1, b2, b3, b4⟩, hr2⟩ := h
  have h0 : th j = 0 := fr_at (by decide) hj hf
  have hxp : ¬ x < 0 := by
    simp only [kdB, Bool.or_eq_true, decide_eq_true_eq] at hx
    rcases hx with rfl | rfl <;> decide
  have hyb : y = -1 ∨ ∃ i : Nat, i < 64 ∧ y = nI i ∧ th i ≠ 0 ∧ kd i = x := by
    simp only [okB, Bool.or_eq_true, Bool.and_eq_true, decide_eq_true_eq] at hy
    rcases hy with hy | ⟨hy, hk⟩
    · exact Or.inl hy
    · obtain ⟨i, hi, rfl, hit⟩ := hsB_t (by decide) hy
      rw [nI_clamp (by omega)] at hk
      exact Or.inr ⟨i, hi, rfl, hit, hk⟩
  have nj : ∀ {i : Nat}, th i ≠ 0 → i ≠ j := fun hi e => hi (e ▸ h0)
  refine ⟨⟨⟨a1, ?_, ?_, ?_, ?_⟩, hs2⟩, ⟨?_, ?_, ?_, ?_⟩, hr2⟩
  · intro i p hi hp ht
    by_cases e : i = j
    · subst e; rw [up_eq] at ht; exact absurd ht n1_ne
    · rw [up_ne e] at ht; exact a2 i p hi hp ht
  · intro i hi ht
    by_cases e : i = j
    · subst e; rw [up_eq]; exact hxp
    · rw [up_ne e] at ht ⊢; exact a3 i hi ht
  · intro i hi ht
    by_cases e : i = j
    · subst e
      rw [up_eq, up_eq]
      rcases hyb with hyb | ⟨i0, hi0, hy0, ht0, hk0⟩
      · exact Or.inl hyb
      · exact Or.inr ⟨i0, hi0, hy0, by rw [up_ne (nj ht0)]; exact ht0, by rw [up_ne (nj ht0)]; exact hk0⟩
    · rw [up_ne e] at ht
      rw [up_ne e, up_ne e]
      rcases a4 i hi ht with hb | ⟨i0, hi0, hy0, ht0, hk0⟩
      · exact Or.inl hb
      · exact Or.inr ⟨i0, hi0, hy0, by rw [up_ne (nj ht0)]; exact ht0, by rw [up_ne (nj ht0)]; exact hk0⟩
  · refine ⟨fun i => if i = j then rk y.toNatClampNeg + 1 else rk i, ?_⟩
    intro i m hi hm ht hb
    show (if m = j then rk y.toNatClampNeg + 1 else rk m) < (if i = j then rk y.toNatClampNeg + 1 else rk i)
    by_cases e : i = j
    · subst e
      rw [up_eq] at hb
      subst hb
      rw [nI_clamp (by omega), if_pos rfl]
      by_cases e2 : m = i
      · subst e2
        rcases hyb with hyb | ⟨i0, hi0, hy0, ht0, hk0⟩
        · exact absurd hyb (ne_m1 (by omega))
        · rw [← ni_64 hm hi0 hy0] at ht0; exact absurd h0 ht0
      · rw [if_neg e2]; omega
    · rw [up_ne e] at hb ht
      have hm2 : m ≠ j := by
        rcases a4 i hi ht with hb2 | ⟨i0, hi0, hy0, ht0, hk0⟩
        · rw [hb2] at hb; exact absurd hb.symm (ne_m1 (by omega))
        · rw [hb] at hy0; rw [ni_64 hm hi0 hy0]; exact nj ht0
      rw [if_neg hm2, if_neg e]
      exact a5 i m hi hm ht hb
  · intro i hi
    by_cases e : i = j
    · subst e; rw [up_eq, up_eq]; exact ⟨fun _ => hxp, fun _ => n1_ne⟩
    · rw [up_ne e, up_ne e]; exact b1 i hi
  · intro i hi ht
    by_cases e : i = j
    · subst e; rw [up_eq, up_eq]
    · rw [up_ne e] at ht; rw [up_ne e, up_ne e]; exact b2 i hi ht
  · intro i hi ht
    by_cases e : i = j
    · subst e; rw [up_eq, up_eq]
    · rw [up_ne e] at ht; rw [up_ne e, up_ne e]; exact b3 i hi ht
  · intro i p hi hp ht
    by_cases e : i = j
    · subst e
      rw [a2 i p hi hp h0]
      simp only [rwF]; rw [if_pos (by omega)]
    · rw [up_ne e] at ht
      simp only [rwF]; rw [if_neg (by omega)]
      exact b4 i p hi hp ht
theorem dbF_is {s0 : Nat} (h : ¬ bs s0 = nI s0) : ∀ n, dbF th s0 bs n = fun i => if i < n ∧ th i ≠ 0 ∧ bs i = nI s0 then bs s0 else bs i := by
  intro n
  induction n with
  | zero => funext i; simp [dbF]
  | succ n ih =>
    have hn : dbF th s0 bs n n = bs n := by rw [ih]; simp
    have hs : dbF th s0 bs n s0 = bs s0 := by rw [ih]; simp
    funext i
    show (if (decide (th n ≠ 0) && decide (dbF th s0 bs n n = nI s0)) = true then upd (dbF th s0 bs n) n (dbF th s0 bs n s0) else dbF th s0 bs n) i = _
    rw [hn, hs]
    by_cases c : th n ≠ 0 ∧ bs n = nI s0
    · rw [if_pos (by simp [c])]
      by_cases e : i = n
      · subst e; rw [up_eq, if_pos ⟨by omega, c.1, c.2⟩]
      · rw [up_ne e, ih]
        show (if i < n ∧ _ then _ else _) = (if i < n + 1 ∧ _ then _ else _)
        by_cases c2 : i < n ∧ th i ≠ 0 ∧ bs i = nI s0
        · rw [if_pos c2, if_pos ⟨by omega, c2.2⟩]
        · rw [if_neg c2, if_neg (fun q => c2 ⟨by omega, q.2⟩)]
    · rw [if_neg (fun q => c (by simpa using q)), ih]
      show (if i < n ∧ _ then _ else _) = (if i < n + 1 ∧ _ then _ else _)
      by_cases c2 : i < n ∧ th i ≠ 0 ∧ bs i = nI s0
      · rw [if_pos c2, if_pos ⟨by omega, c2.2⟩]
      · rw [if_neg c2, if_neg (fun q => c2 ⟨by
          by_cases e : i = n
          · subst e; exact absurd q.2 c
          · omega, q.2⟩)]
theorem dnB_is {s0 : Nat} (h : ¬ bs s0 = nI s0) (i : Nat) : dnB th s0 bs i = (decide (th i ≠ 0) && decide (bs i = nI s0)) := by
  show (decide (th i ≠ 0) && decide (dbF th s0 bs i i = nI s0)) = _
  rw [dbF_is h i]
  simp
theorem ba_self (h : RI th kd bs us sth mk M sM ki ba ow uu te ma va) {s0 : Nat} (hs : s0 < 64) (ht : th s0 ≠ 0) : ¬ ba s0 = nI s0 := by
  rw [h.2.1.2.2.1 s0 hs ht]; exact bs_self h.1.1 hs ht
theorem drop_cn (h : RI th kd bs us sth mk M sM ki ba ow uu te ma va) {s0 : Nat} (hs : s0 < 64) (ht : th s0 ≠ 0) : cnF (dnB th s0 ba) 64 = cnF (dnB th s0 bs) 64 := by
  apply cnF_congr
  intro i hi
  rw [dnB_is (ba_self h hs ht), dnB_is (bs_self h.1.1 hs ht)]
  by_cases e : th i = 0
  · simp [e]
  · rw [h.2.1.2.2.1 i hi e]
theorem RI_drop (h : RI th kd bs us sth mk M sM ki ba ow uu te ma va) {s0 : Nat} (hs : s0 < 64) (ht0 : th s0 ≠ 0) :
    RI (upd th s0 (nI 0)) kd (dbF th s0 bs 64) us sth mk (va_up M s0 (fun _ => -1)) sM (upd ki s0 (-1)) (dbF th s0 ba 64) ow uu te ma va := by
  have hbs := bs_self h.1.1 hs ht0
  have hba := ba_self h hs ht0
  obtain ⟨⟨⟨a1, a2, a3, a4, rk, a5⟩, hs2⟩, ⟨b1, b2, b3, b4⟩, hr2⟩ := h
  have ni : ∀ {i : Nat}, upd th s0 (nI 0) i ≠ 0 → i ≠ s0 ∧ th i ≠ 0 := by
    intro i hi
    by_cases e : i = s0
    · subst e; rw [up_eq] at hi; exact absurd rfl hi
    · rw [up_ne e] at hi; exact ⟨e, hi⟩
  refine ⟨⟨⟨?_, ?_, ?_, ?_, rk, ?_⟩, hs2⟩, ⟨?_, ?_, ?_, ?_⟩, hr2⟩
  · intro i p hi hp
    by_cases e : i = s0
    · subst e; rw [vu_eq]; exact Or.inl rfl
    · rw [vu_ne e]; exact a1 i p hi hp
  · intro i p hi hp ht
    by_cases e : i = s0
    · subst e; rw [vu_eq]
    · rw [up_ne e] at ht; rw [vu_ne e]; exact a2 i p hi hp ht
  · intro i hi ht
    exact a3 i hi (ni ht).2
  · intro i hi ht
    obtain ⟨e, hti⟩ := ni ht
    rw [dbF_is hbs]
    show (if i < 64 ∧ th i ≠ 0 ∧ bs i = nI s0 then bs s0 else bs i) = -1 ∨ ∃ j : Nat, j < 64 ∧ (if i < 64 ∧ th i ≠ 0 ∧ bs i = nI s0 then bs s0 else bs i) = nI j ∧ upd th s0 (nI 0) j ≠ 0 ∧ kd j = kd i
    by_cases c : i < 64 ∧ th i ≠ 0 ∧ bs i = nI s0
    · rw [if_pos c]
      have hks : kd s0 = kd i := by
        rcases a4 i hi hti with q | ⟨j, hj, hb, hjt, hk⟩
        · rw [q] at c; exact absurd c.2.2.symm (ne_m1 (by omega))
        · rw [c.2.2] at hb; rw [ni_64 hs hj hb]; exact hk
      rcases a4 s0 hs ht0 with q | ⟨j, hj, hb, hjt, hk⟩
      · exact Or.inl q
      · have hjs : j ≠ s0 := fun q => hbs (by rw [hb, q])
        exact Or.inr ⟨j, hj, hb, by rw [up_ne hjs]; exact hjt, hk.trans hks⟩
    · rw [if_neg c]
      rcases a4 i hi hti with q | ⟨j, hj, hb, hjt, hk⟩
      · exact Or.inl q
      · have hjs : j ≠ s0 := fun q => c ⟨hi, hti, by rw [hb, q]⟩
        exact Or.inr ⟨j, hj, hb, by rw [up_ne hjs]; exact hjt, hk⟩
  · intro i j hi hj ht hb
    obtain ⟨e, hti⟩ := ni ht
    rw [dbF_is hbs] at hb
    replace hb : (if i < 64 ∧ th i ≠ 0 ∧ bs i = nI s0 then bs s0 else bs i) = nI j := hb
    by_cases c : i < 64 ∧ th i ≠ 0 ∧ bs i = nI s0
    · rw [if_pos c] at hb
      exact Nat.lt_trans (a5 s0 j hs hj ht0 hb) (a5 i s0 hi hs hti c.2.2)
    · rw [if_neg c] at hb
      exact a5 i j hi hj hti hb
  · intro i hi
    by_cases e : i = s0
    · subst e; rw [up_eq, up_eq]; exact ⟨fun q => absurd rfl q, fun q => absurd (by decide) q⟩
    · rw [up_ne e, up_ne e]; exact b1 i hi
  · intro i hi ht
    rw [up_ne (ni ht).1]; exact b2 i hi (ni ht).2
  · intro i hi ht
    rw [dbF_is hbs, dbF_is hba]
    show (if i < 64 ∧ th i ≠ 0 ∧ ba i = nI s0 then ba s0 else ba i) = (if i < 64 ∧ th i ≠ 0 ∧ bs i = nI s0 then bs s0 else bs i)
    rw [b3 i hi (ni ht).2, b3 s0 hs ht0]
  · intro i p hi hp ht
    rw [vu_ne (ni ht).1]; exact b4 i p hi hp (ni ht).2
theorem ocF_eN {z : Int32} : ∀ (m n : Nat) (x : Int32), eN th bs m x → ocF th bs z n x = true → ocF th bs z m x = true := by
  intro m
  induction m with
  | zero => intro n x he h; rw [show x = -1 from he, ocF_off hs_m1] at h; cases h
  | succ m ih =>
    intro n x he h
    rcases he with he | ⟨j, hj, rfl, hjt, he⟩
    · rw [he, ocF_off hs_m1] at h; cases h
    · cases n with
      | zero => cases h
      | succ n =>
        simp only [ocF] at h ⊢
        rw [if_pos (hsB_on hj (by decide) hjt)] at h ⊢
        by_cases c : nI j = z
        · rw [if_pos c]
        · rw [if_neg c] at h ⊢
          rw [nI_clamp (by omega)] at h ⊢
          exact ih n (bs j) he h
theorem RI_rebase (h : RI th kd bs us sth mk M sM ki ba ow uu te ma va) {s0 : Nat} {y : Int32} (hs : s0 < 64) (ht0 : th s0 ≠ 0) (hy : okB th kd y (kd s0) = true) (ho : ocF th bs (nI s0) 64 y = false) :
    RI th kd (upd bs s0 y) us sth mk M sM ki (upd ba s0 y) ow uu te ma va := by
  have h64 := fun {i : Nat} (hi : i < 64) (ht : th i ≠ 0) => eN_64 h.1.1 hi ht
  obtain ⟨⟨⟨a1, a2, a3, a4, rk, a5⟩, hs2⟩, ⟨b1, b2, b3, b4⟩, hr2⟩ := h
  have hyb : y = -1 ∨ ∃ i : Nat, i < 64 ∧ y = nI i ∧ th i ≠ 0 ∧ kd i = kd s0 := by
    simp only [okB, Bool.or_eq_true, Bool.and_eq_true, decide_eq_true_eq] at hy
    rcases hy with hy | ⟨hy, hk⟩
    · exact Or.inl hy
    · obtain ⟨i, hi, rfl, hit⟩ := hsB_t (by decide) hy
      rw [nI_clamp (by omega)] at hk
      exact Or.inr ⟨i, hi, rfl, hit, hk⟩
  refine ⟨⟨⟨a1, a2, a3, ?_, ?_⟩, hs2⟩, ⟨b1, b2, ?_, b4⟩, hr2⟩
  · intro i hi ht
    by_cases e : i = s0
    · subst e; rw [up_eq]; exact hyb
    · rw [up_ne e]; exact a4 i hi ht
  · classical
    refine ⟨fun i => rk i + if ∃ n, ocF th bs (nI s0) n (nI i) = true then rk y.toNatClampNeg + 1 else 0, ?_⟩
    intro i j hi hj ht hb
    show rk j + (if ∃ n, ocF th bs (nI s0) n (nI j) = true then rk y.toNatClampNeg + 1 else 0) < rk i + (if ∃ n, ocF th bs (nI s0) n (nI i) = true then rk y.toNatClampNeg + 1 else 0)
    by_cases e : i = s0
    · subst e
      rw [up_eq] at hb
      subst hb
      have hjt : th j ≠ 0 := by
        rcases hyb with q | ⟨i0, hi0, hy0, hit, -⟩
        · exact absurd q (ne_m1 (by omega))
        · rw [ni_64 hj hi0 hy0]; exact hit
      rw [if_neg (fun ⟨n, hn⟩ => by rw [ocF_eN 64 n _ (h64 hj hjt) hn] at ho; cases ho), if_pos ⟨1, by simp [ocF, hsB_on hi (by decide) ht0]⟩, nI_clamp (by omega)]
      omega
    · rw [up_ne e] at hb
      have hlt := a5 i j hi hj ht hb
      by_cases c : ∃ n, ocF th bs (nI s0) n (nI j) = true
      · have c2 : ∃ n, ocF th bs (nI s0) n (nI i) = true := by
          obtain ⟨n, hn⟩ := c
          refine ⟨n + 1, ?_⟩
          simp only [ocF]
          rw [if_pos (hsB_on hi (by decide) ht), if_neg (fun q => e (ni_64 hi hs q)), nI_clamp (by omega), hb]
          exact hn
        rw [if_pos c, if_pos c2]; omega
      · rw [if_neg c]; omega
  · intro i hi ht
    by_cases e : i = s0
    · subst e; rw [up_eq, up_eq]
    · rw [up_ne e, up_ne e]; exact b3 i hi ht
theorem vl_pos {p v : Int32} (h : vlB p v = true) : ¬ v < 0 := by
  simp only [vlB, Bool.and_eq_true, decide_eq_true_eq] at h
  exact Int32.not_lt.mpr h.1
theorem nv_pos {p v : Int32} (h : nvB p v = true) : v = -1 ∨ ¬ v < 0 := by
  simp only [nvB, Bool.or_eq_true, decide_eq_true_eq] at h
  rcases h with h | h
  · exact Or.inl h
  · exact Or.inr (vl_pos h)
theorem RI_own (h : RI th kd bs us sth mk M sM ki ba ow uu te ma va) {s0 p9 : Nat} {v : Int32} (hs : s0 < 64) (ht0 : th s0 ≠ 0) (hp9 : p9 < 24) (hv : v = -1 ∨ ¬ v < 0) :
    RI th kd bs us sth mk (va_up M s0 (upd (M s0) p9 v)) sM ki ba (upd ow (24 * s0 + p9) v) uu te ma va := by
  obtain ⟨⟨⟨a1, a2, a3, a4, a5⟩, hs2⟩, ⟨b1, b2, b3, b4⟩, hr2⟩ := h
  refine ⟨⟨⟨?_, ?_, a3, a4, a5⟩, hs2⟩, ⟨b1, b2, b3, ?_⟩, hr2⟩
  · intro i p hi hp
    by_cases e : i = s0
    · subst e; rw [vu_eq]
      by_cases e2 : p = p9
      · subst e2; rw [up_eq]; exact hv
      · rw [up_ne e2]; exact a1 i p hi hp
    · rw [vu_ne e]; exact a1 i p hi hp
  · intro i p hi hp ht
    by_cases e : i = s0
    · subst e; exact absurd ht ht0
    · rw [vu_ne e]; exact a2 i p hi hp ht
  · intro i p hi hp ht
    by_cases e : i = s0
    · subst e; rw [vu_eq]
      by_cases e2 : p = p9
      · subst e2; rw [up_eq, up_eq]
      · rw [up_ne e2, up_ne (by omega)]; exact b4 i p hi hp ht
    · rw [vu_ne e, up_ne (by omega)]; exact b4 i p hi hp ht
theorem RI_usual (h : RI th kd bs us sth mk M sM ki ba ow uu te ma va) {p9 : Nat} {v : Int32} (hp9 : p9 < 24) (hv : ¬ v < 0) :
    RI th kd bs (upd us p9 v) sth mk M sM ki ba ow (upd uu p9 v) te ma va := by
  obtain ⟨⟨hs1, c1, c2⟩, hr1, d1, d2⟩ := h
  refine ⟨⟨hs1, ?_, c2⟩, hr1, ?_, d2⟩
  · intro p hp
    by_cases e : p = p9
    · subst e; rw [up_eq]; exact hv
    · rw [up_ne e]; exact c1 p hp
  · intro p hp
    by_cases e : p = p9
    · subst e; rw [up_eq, up_eq]
    · rw [up_ne e, up_ne e]; exact d1 p hp
theorem RI_found (h : RI th kd bs us sth mk M sM ki ba ow uu te ma va) {j : Nat} {dr wa g : Nat → Int32} (hj : j < 256) (hf : frF sth 256 = nI j) (hd : ∀ p, p < 24 → dr p = g p) (hw : ∀ p, p < 24 → wa p = g p) (hg : ∀ p, p < 24 → g p = -1 ∨ ¬ g p < 0) :
    RI th kd bs us (upd sth j (nI 1)) mk M (va_up sM j dr) ki ba ow uu (upd te j (nI 1)) (upd ma j (nI 0)) (rwF va j wa 24) := by
  have h0 : sth j = 0 := fr_at (by decide) hj hf
  obtain ⟨⟨hs1, c1, c2, c3, c4, c5⟩, hr1, d1, d2, d3, d4⟩ := h
  refine ⟨⟨hs1, c1, ?_, ?_, ?_, ?_⟩, hr1, d1, ?_, ?_, ?_⟩
  · intro i hi
    by_cases e : i = j
    · subst e; rw [up_eq]; exact Or.inr rfl
    · rw [up_ne e]; exact c2 i hi
  · intro i p hi hp
    by_cases e : i = j
    · subst e; rw [vu_eq, hd p hp]; exact hg p hp
    · rw [vu_ne e]; exact c3 i p hi hp
  · intro i p hi hp ht
    by_cases e : i = j
    · subst e; rw [up_eq] at ht; exact absurd ht n1_ne
    · rw [up_ne e] at ht; rw [vu_ne e]; exact c4 i p hi hp ht
  · intro i hi ht
    by_cases e : i = j
    · subst e; rw [up_eq] at ht; exact absurd ht n1_ne
    · rw [up_ne e] at ht; exact c5 i hi ht
  · intro i hi
    by_cases e : i = j
    · subst e; rw [up_eq, up_eq]
    · rw [up_ne e, up_ne e]; exact d2 i hi
  · intro i hi
    by_cases e : i = j
    · subst e; rw [up_eq, c5 i hi h0]; rfl
    · rw [up_ne e]; exact d3 i hi
  · intro i p hi hp ht
    by_cases e : i = j
    · subst e
      simp only [rwF]; rw [if_pos (by omega), vu_eq, show 24 * i + p - 24 * i = p by omega, hw p hp, hd p hp]
    · rw [up_ne e] at ht
      simp only [rwF]; rw [if_neg (by omega), vu_ne e]
      exact d4 i p hi hp ht
theorem RI_mark (h : RI th kd bs us sth mk M sM ki ba ow uu te ma va) {j : Nat} (ht : sth j ≠ 0) :
    RI th kd bs us sth (upd mk j (nI 1)) M sM ki ba ow uu te (upd ma j (nI 1)) va := by
  obtain ⟨⟨hs1, c1, c2, c3, c4, c5⟩, hr1, d1, d2, d3, d4⟩ := h
  refine ⟨⟨hs1, c1, c2, c3, c4, ?_⟩, hr1, d1, d2, ?_, d4⟩
  · intro i hi h0
    by_cases e : i = j
    · subst e; exact absurd h0 ht
    · rw [up_ne e]; exact c5 i hi h0
  · intro i hi
    by_cases e : i = j
    · subst e; rw [up_eq, up_eq]
    · rw [up_ne e, up_ne e]; exact d3 i hi
theorem RI_sweep (h : RI th kd bs us sth mk M sM ki ba ow uu te ma va) :
    RI th kd bs us (swT sth mk 256) (swK mk 256) M (swM sth mk sM 256) ki ba ow uu (swT te ma 256) (swK ma 256) va := by
  obtain ⟨⟨hs1, c1, c2, c3, c4, c5⟩, hr1, hr2⟩ := h
  have hsw := fun {i : Nat} (hi : i < 256) => sw_cnt hr2 (i := i) hi
  obtain ⟨d1, d2, d3, d4⟩ := hr2
  refine ⟨⟨hs1, c1, ?_, ?_, ?_, ?_⟩, hr1, d1, ?_, ?_, ?_⟩
  · intro i hi
    simp only [swT]
    by_cases c : i < 256 ∧ swB sth mk i = true
    · rw [if_pos c]; exact Or.inl rfl
    · rw [if_neg c]; exact c2 i hi
  · intro i p hi hp
    simp only [swM]
    by_cases c : i < 256 ∧ swB sth mk i = true
    · rw [if_pos c]; exact Or.inl rfl
    · rw [if_neg c]; exact c3 i p hi hp
  · intro i p hi hp ht
    simp only [swM]
    simp only [swT] at ht
    by_cases c : i < 256 ∧ swB sth mk i = true
    · rw [if_pos c]
    · rw [if_neg c] at ht ⊢; exact c4 i p hi hp ht
  · intro i hi _
    simp only [swK]; rw [if_pos hi]; rfl
  · intro i hi
    simp only [swT]
    rw [hsw hi, d2 i hi]
  · intro i hi
    simp only [swK]; rw [if_pos hi, if_pos hi]
  · intro i p hi hp ht
    simp only [swM]
    simp only [swT] at ht
    by_cases c : i < 256 ∧ swB sth mk i = true
    · rw [if_pos c] at ht; exact absurd rfl ht
    · rw [if_neg c] at ht ⊢; exact d4 i p hi hp ht
end KEEP
