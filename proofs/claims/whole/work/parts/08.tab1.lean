/-! searches, alike rows -/
theorem hsB_lt {n : Nat} {th : Nat → Int32} {x : Int32} (h : x < 0) : hsB n th x = false := by
  have h1 : ¬ (0 : Int32) ≤ x := by rw [Int32.not_le]; exact h
  simp [hsB, h1]
theorem hsB_ge {n : Nat} {th : Nat → Int32} {x : Int32} (h : nI n ≤ x) : hsB n th x = false := by
  have h1 : ¬ x < nI n := by rw [Int32.not_lt]; exact h
  simp [hsB, h1]
theorem ix_of {n : Nat} {x : Int32} (hn : n < 2 ^ 31) (h0 : ¬ x < 0) (h1 : ¬ nI n ≤ x) : ∃ j : Nat, j < n ∧ x = nI j := by
  obtain ⟨j, hj, rfl⟩ := nI_of h0
  rw [nI_leI hn hj] at h1
  exact ⟨j, by omega, rfl⟩
theorem fdF_hit {f : Nat → Bool} {n i : Nat} (h : i < n) (hf : f i = true) : fdF f (n - i) i = nI i := by
  obtain ⟨k, hk⟩ : ∃ k, n - i = k + 1 := ⟨n - i - 1, by omega⟩
  rw [hk]; simp [fdF, hf]
theorem fdF_miss {f : Nat → Bool} {n i : Nat} (h : i < n) (hf : f i = false) : fdF f (n - i) i = fdF f (n - (i + 1)) (i + 1) := by
  obtain ⟨k, hk⟩ : ∃ k, n - i = k + 1 := ⟨n - i - 1, by omega⟩
  rw [hk, show n - (i + 1) = k by omega]; simp [fdF, hf]
theorem fdF_end {f : Nat → Bool} {n i : Nat} (h : n ≤ i) : fdF f (n - i) i = -1 := by rw [show n - i = 0 by omega]; rfl
theorem cnF_t {f : Nat → Bool} {i : Nat} (h : f i = true) : cnF f i + 1 = cnF f (i + 1) := by simp [cnF, h]
theorem cnF_f {f : Nat → Bool} {i : Nat} (h : f i = false) : cnF f i = cnF f (i + 1) := by simp [cnF, h]
def eqF (f g : Nat → Int32) : Nat → Bool
  | 0 => true
  | n + 1 => eqF f g n && decide (f n = g n)
theorem eqF_lt {f g : Nat → Int32} {n i : Nat} (h : eqF f g n = true) (hi : i < n) : f i = g i := by
  induction n with
  | zero => omega
  | succ n ih =>
    simp only [eqF, Bool.and_eq_true, decide_eq_true_eq] at h
    by_cases e : i = n
    · rw [e]; exact h.2
    · exact ih h.1 (by omega)
theorem eqF_ne {f g : Nat → Int32} {n i : Nat} (hi : i < n) (h : f i ≠ g i) : eqF f g n = false := by
  cases e : eqF f g n with
  | false => rfl
  | true => exact absurd (eqF_lt e hi) h
theorem eqF_s {f g : Nat → Int32} {n : Nat} (h : eqF f g n = true) (e : f n = g n) : eqF f g (n + 1) = true := by simp [eqF, h, e]
theorem nr_if {b : Bool} {v : Int32} (h : v = if b = true then nI 1 else nI 0) : narrow .boolean (.int v) = .int v := by rw [h]; cases b <;> rfl
theorem if_t {b : Bool} (h : b = true) : nI 1 = if b = true then nI 1 else nI 0 := by rw [if_pos h]
theorem if_f {b : Bool} (h : b = false) : nI 0 = if b = true then nI 1 else nI 0 := by rw [h]; rfl

set_option maxRecDepth 100000 in
set_option maxHeartbeats 4000000 in
theorem c_has (l : Launch) (D : va_G) (k : Nat → ClassId) (t a g : Nat) (r : Nat → Nat) (n : Nat) (hn : n ≤ 256) (th : Nat → Int32) (x : Int32) (sz : Nat) : bMI l y_T_has (wY y_T_has b_T_has 2 (some .boolean)) (rm9 1 0 0) D (tsK k) (tbF k t a g r n th) sz [.ref t, .int x] (fun v w => v = (if hsB n th x = true then nI 1 else nI 0) ∧ w = tbF k t a g r n th) 0 0 := by
  refine ent_i (cc := b_T_has) (maxL := 2) (ty := .boolean) (by decide) (Nat.le_of_ble_eq_true rfl) (fun v w h => nr_if h.1) ?_
  intro p e s m args below meth c A Q ls hx hb hml hown hts hsz hA hP hD hS hK hl hret
  refine lv_iload_n hx hb d_T_has_0 rfl (lv_at hl 1 rfl) ?_
  refine lv_if_lt (tgt := 26) hx hb d_T_has_1 (by decide) (fun c1 => ?_) (fun c1 => ?_)
  · skip
    refine lv_iconst (v := nI 0) hx hb d_T_has_26 (by decide) ?_
    exact hret _ _ _ _ _ _ _ _ d_T_has_27 ⟨if_f (hsB_lt c1), rfl⟩ hP hD hS (by decide) (by decide)
  · skip
    refine lv_iload_n hx hb d_T_has_4 rfl (lv_at hl 1 rfl) ?_
    refine lv_aload_n hx hb d_T_has_5 rfl (lv_at hl 0 rfl) ?_
    refine va_get (D := D) (ci := ciTb) (v := .ref a) (C := RT) (T := TT) (N := 2) hx hb hts inT hown hK.1 hP 0 rfl rfl 0 (by decide) (hts _ wd_32) (fun _ h9 => h9) rfl d_T_has_6 ?_
    refine va_alen (v := nI n) hx hb hK.1 hP 1 1 rfl rfl rfl d_T_has_9 ?_
    refine lv_icmp_ge (tgt := 26) hx hb d_T_has_10 (by decide) (fun c10 => ?_) (fun c10 => ?_)
    · skip
      refine lv_iconst (v := nI 0) hx hb d_T_has_26 (by decide) ?_
      exact hret _ _ _ _ _ _ _ _ d_T_has_27 ⟨if_f (hsB_ge c10), rfl⟩ hP hD hS (by decide) (by decide)
    · skip
      obtain ⟨j, hj, rfl⟩ := ix_of (by omega) c1 c10
      refine lv_aload_n hx hb d_T_has_13 rfl (lv_at hl 0 rfl) ?_
      refine va_get (D := D) (ci := ciTb) (v := .ref a) (C := RT) (T := TT) (N := 2) hx hb hts inT hown hK.1 hP 0 rfl rfl 0 (by decide) (hts _ wd_32) (fun _ h9 => h9) rfl d_T_has_14 ?_
      refine lv_iload_n hx hb d_T_has_17 rfl (lv_at hl 1 rfl) ?_
      refine rw_zald hx hb hK.1 hP 1 1 rfl rfl (j := j) (by omega) (by omega) d_T_has_18 ?_
      refine lv_if_eq (tgt := 26) hx hb d_T_has_19 (by decide) (fun c19 => ?_) (fun c19 => ?_)
      · skip
        refine lv_iconst (v := nI 0) hx hb d_T_has_26 (by decide) ?_
        exact hret _ _ _ _ _ _ _ _ d_T_has_27 ⟨if_f (by rw [hsB_nI hj (by omega), c19]; rfl), rfl⟩ hP hD hS (by decide) (by decide)
      · skip
        refine lv_iconst (v := nI 1) hx hb d_T_has_22 (by decide) ?_
        refine lv_goto (tgt := 27) hx hb d_T_has_23 (by decide) ?_
        exact hret _ _ _ _ _ _ _ _ d_T_has_27 ⟨if_t (by rw [hsB_nI hj (by omega)]; simp [c19]), rfl⟩ hP hD hS (by decide) (by decide)

set_option maxRecDepth 100000 in
set_option maxHeartbeats 4000000 in
theorem c_leastFree (l : Launch) (D : va_G) (k : Nat → ClassId) (t a g : Nat) (r : Nat → Nat) (n : Nat) (hn : n ≤ 256) (th : Nat → Int32) (sz : Nat) : bMI l y_T_leastFree (wY y_T_leastFree b_T_leastFree 2 (some .int)) (rm9 1 0 0) D (tsK k) (tbF k t a g r n th) sz [.ref t] (fun v w => v = fdF (fun i => decide (th i = 0)) n 0 ∧ w = tbF k t a g r n th) 0 0 := by
  refine ent_i (cc := b_T_leastFree) (maxL := 2) (ty := .int) (by decide) (Nat.le_of_ble_eq_true rfl) (fun _ _ _ => rfl) ?_
  intro p e s m args below meth c A Q ls hx hb hml hown hts hsz hA hP hD hS hK hl hret
  refine lv_iconst (v := nI 0) hx hb d_T_leastFree_0 (by decide) ?_
  refine lv_istore_n (lv' := [(1, .int (nI 0)), (0, .ref t)]) hx hb d_T_leastFree_1 rfl hl (by decide) rfl (fun ls hl => ?_)
  have lp : ∀ (n9 : Nat) (i : Nat) (ls : Array Slot), n - i < n9 → (i ≤ n) → (fdF (fun i => decide (th i = 0)) n 0 = fdF (fun i => decide (th i = 0)) (n - i) i) → lv_has ls 2 [(0, .ref t), (1, .int (nI i))] → W p l e (rm9 1 0 0) s m args below meth c s.heap [] 0 0 Q (F0 m 2 ls []) := by
    intro n9
    induction n9 with
    | zero => intro i ls hm; omega
    | succ n9 ih =>
      intro i ls hm hi hf hl
      refine lv_iload_n hx hb d_T_leastFree_2 rfl (lv_at hl 1 rfl) ?_
      refine lv_aload_n hx hb d_T_leastFree_3 rfl (lv_at hl 0 rfl) ?_
      refine va_get (D := D) (ci := ciTb) (v := .ref a) (C := RT) (T := TT) (N := 2) hx hb hts inT hown hK.1 hP 0 rfl rfl 0 (by decide) (hts _ wd_32) (fun _ h9 => h9) rfl d_T_leastFree_4 ?_
      refine va_alen (v := nI n) hx hb hK.1 hP 1 1 rfl rfl rfl d_T_leastFree_7 ?_
      refine lv_icmp_ge (tgt := 28) hx hb d_T_leastFree_8 (by decide) (fun c8 => ?_) (fun c8 => ?_)
      · skip
        rw [nI_leI (by omega) (by omega)] at c8
        refine lv_iconst (v := -1) hx hb d_T_leastFree_28 (by decide) ?_
        exact hret _ _ _ _ _ _ _ _ d_T_leastFree_29 ⟨by rw [hf, fdF_end (by omega)], rfl⟩ hP hD hS (by decide) (by decide)
      · skip
        rw [nI_leI (by omega) (by omega)] at c8
        refine lv_aload_n hx hb d_T_leastFree_11 rfl (lv_at hl 0 rfl) ?_
        refine va_get (D := D) (ci := ciTb) (v := .ref a) (C := RT) (T := TT) (N := 2) hx hb hts inT hown hK.1 hP 0 rfl rfl 0 (by decide) (hts _ wd_32) (fun _ h9 => h9) rfl d_T_leastFree_12 ?_
        refine lv_iload_n hx hb d_T_leastFree_15 rfl (lv_at hl 1 rfl) ?_
        refine rw_zald hx hb hK.1 hP 1 1 rfl rfl (j := i) (by omega) (by omega) d_T_leastFree_16 ?_
        refine lv_if_ne (tgt := 22) hx hb d_T_leastFree_17 (by decide) (fun c17 => ?_) (fun c17 => ?_)
        · skip
          refine lv_iinc (v := nI (i + 1)) (lv' := [(1, .int (nI (i + 1))), (0, .ref t)]) hx hb d_T_leastFree_22 hl (k := 1) rfl (ii_1 _) (by decide) rfl (fun ls hl => ?_)
          refine lv_goto (tgt := 2) hx hb d_T_leastFree_25 (by decide) ?_
          exact ih (i + 1) ls (by omega) (by omega) (by rw [hf]; exact fdF_miss (by omega) (by simp [c17])) (lv_sub hl [1, 0] rfl)
        · skip
          refine lv_iload_n hx hb d_T_leastFree_20 rfl (lv_at hl 1 rfl) ?_
          exact hret _ _ _ _ _ _ _ _ d_T_leastFree_21 ⟨by rw [hf, fdF_hit (by omega) (by simp [c17])], rfl⟩ hP hD hS (by decide) (by decide)
  exact lp _ (0) ls (Nat.lt_succ_self _) (Nat.zero_le n) rfl (lv_sub hl [1, 0] rfl)

set_option maxRecDepth 100000 in
set_option maxHeartbeats 4000000 in
theorem c_add (l : Launch) (D : va_G) (k : Nat → ClassId) (t a g : Nat) (r : Nat → Nat) (n : Nat) (hn : n ≤ 256) (th : Nat → Int32) (j : Nat) (hj : j < n) (sz : Nat) : bMV l y_T_add (wY y_T_add b_T_add 2 none) (rm9 1 0 0) D (tsK k) (tbF k t a g r n th) sz [.ref t, .int (nI j)] (fun w => w = tbF k t a g r n (upd th j (nI 1))) 0 0 := by
  refine ent_v (cc := b_T_add) (maxL := 2) (by decide) (Nat.le_of_ble_eq_true rfl) ?_
  intro p e s m args below meth c A Q ls hx hb hml hown hts hsz hA hP hD hS hK hl hnm hret
  refine lv_aload_n hx hb d_T_add_0 rfl (lv_at hl 0 rfl) ?_
  refine va_get (D := D) (ci := ciTb) (v := .ref a) (C := RT) (T := TT) (N := 2) hx hb hts inT hown hK.1 hP 0 rfl rfl 0 (by decide) (hts _ wd_32) (fun _ h9 => h9) rfl d_T_add_1 ?_
  refine lv_iload_n hx hb d_T_add_4 rfl (lv_at hl 1 rfl) ?_
  refine lv_iconst (v := nI 1) hx hb d_T_add_5 (by decide) ?_
  refine rw_zast hx hb hK.1 hP hD hS 1 1 rfl rfl (j := j) bz_1 (by omega) (by omega) d_T_add_6 (wn := tbF k t a g r n (upd th j (nI 1))) rfl (fun H locs hP hD hS => ?_)
  exact hret _ _ _ _ _ _ _ d_T_add_7 rfl hP hD hS (by decide) (by decide)

set_option maxRecDepth 100000 in
set_option maxHeartbeats 4000000 in
theorem c_howMany (l : Launch) (D : va_G) (k : Nat → ClassId) (t a g : Nat) (r : Nat → Nat) (n : Nat) (hn : n ≤ 256) (th : Nat → Int32) (sz : Nat) : bMI l y_T_howMany (wY y_T_howMany b_T_howMany 3 (some .int)) (rm9 1 0 0) D (tsK k) (tbF k t a g r n th) sz [.ref t] (fun v w => v = nI (cnF (fun i => decide (th i ≠ 0)) n) ∧ w = tbF k t a g r n th) 0 0 := by
  refine ent_i (cc := b_T_howMany) (maxL := 3) (ty := .int) (by decide) (Nat.le_of_ble_eq_true rfl) (fun _ _ _ => rfl) ?_
  intro p e s m args below meth c A Q ls hx hb hml hown hts hsz hA hP hD hS hK hl hret
  refine lv_iconst (v := nI 0) hx hb d_T_howMany_0 (by decide) ?_
  refine lv_istore_n (lv' := [(1, .int (nI 0)), (0, .ref t)]) hx hb d_T_howMany_1 rfl hl (by decide) rfl (fun ls hl => ?_)
  refine lv_iconst (v := nI 0) hx hb d_T_howMany_2 (by decide) ?_
  refine lv_istore_n (lv' := [(2, .int (nI 0)), (1, .int (nI 0)), (0, .ref t)]) hx hb d_T_howMany_3 rfl hl (by decide) rfl (fun ls hl => ?_)
  have lp : ∀ (n9 : Nat) (i : Nat) (ls : Array Slot), n - i < n9 → (i ≤ n) → lv_has ls 3 [(0, .ref t), (1, .int (nI (cnF (fun i => decide (th i ≠ 0)) i))), (2, .int (nI i))] → W p l e (rm9 1 0 0) s m args below meth c s.heap [] 0 0 Q (F0 m 4 ls []) := by
    intro n9
    induction n9 with
    | zero => intro i ls hm; omega
    | succ n9 ih =>
      intro i ls hm hi hl
      refine lv_iload_n hx hb d_T_howMany_4 rfl (lv_at hl 2 rfl) ?_
      refine lv_aload_n hx hb d_T_howMany_5 rfl (lv_at hl 0 rfl) ?_
      refine va_get (D := D) (ci := ciTb) (v := .ref a) (C := RT) (T := TT) (N := 2) hx hb hts inT hown hK.1 hP 0 rfl rfl 0 (by decide) (hts _ wd_32) (fun _ h9 => h9) rfl d_T_howMany_6 ?_
      refine va_alen (v := nI n) hx hb hK.1 hP 1 1 rfl rfl rfl d_T_howMany_9 ?_
      refine lv_icmp_ge (tgt := 31) hx hb d_T_howMany_10 (by decide) (fun c10 => ?_) (fun c10 => ?_)
      · skip
        rw [nI_leI (by omega) (by omega)] at c10
        refine lv_iload_n hx hb d_T_howMany_31 rfl (lv_at hl 1 rfl) ?_
        exact hret _ _ _ _ _ _ _ _ d_T_howMany_32 ⟨by rw [show i = n by omega], rfl⟩ hP hD hS (by decide) (by decide)
      · skip
        rw [nI_leI (by omega) (by omega)] at c10
        refine lv_aload_n hx hb d_T_howMany_13 rfl (lv_at hl 0 rfl) ?_
        refine va_get (D := D) (ci := ciTb) (v := .ref a) (C := RT) (T := TT) (N := 2) hx hb hts inT hown hK.1 hP 0 rfl rfl 0 (by decide) (hts _ wd_32) (fun _ h9 => h9) rfl d_T_howMany_14 ?_
        refine lv_iload_n hx hb d_T_howMany_17 rfl (lv_at hl 2 rfl) ?_
        refine rw_zald hx hb hK.1 hP 1 1 rfl rfl (j := i) (by omega) (by omega) d_T_howMany_18 ?_
        refine lv_if_eq (tgt := 25) hx hb d_T_howMany_19 (by decide) (fun c19 => ?_) (fun c19 => ?_)
        · skip
          rw [cnF_f (f := (fun i => decide (th i ≠ 0))) (by simp [c19])] at hl
          refine lv_iinc (v := nI (i + 1)) (lv' := [(2, .int (nI (i + 1))), (0, .ref t), (1, .int (nI (cnF (fun i => decide (th i ≠ 0)) (i + 1))))]) hx hb d_T_howMany_25 hl (k := 2) rfl (ii_1 _) (by decide) rfl (fun ls hl => ?_)
          refine lv_goto (tgt := 4) hx hb d_T_howMany_28 (by decide) ?_
          exact ih (i + 1) ls (by omega) (by omega) (lv_sub hl [1, 2, 0] rfl)
        · skip
          refine lv_iinc (v := nI ((cnF (fun i => decide (th i ≠ 0)) i) + 1)) (lv' := [(1, .int (nI ((cnF (fun i => decide (th i ≠ 0)) i) + 1))), (0, .ref t), (2, .int (nI i))]) hx hb d_T_howMany_22 hl (k := 1) rfl (ii_1 _) (by decide) rfl (fun ls hl => ?_)
          rw [cnF_t (f := (fun i => decide (th i ≠ 0))) (by simp [c19])] at hl
          refine lv_iinc (v := nI (i + 1)) (lv' := [(2, .int (nI (i + 1))), (1, .int (nI (cnF (fun i => decide (th i ≠ 0)) (i + 1)))), (0, .ref t)]) hx hb d_T_howMany_25 hl (k := 2) rfl (ii_1 _) (by decide) rfl (fun ls hl => ?_)
          refine lv_goto (tgt := 4) hx hb d_T_howMany_28 (by decide) ?_
          exact ih (i + 1) ls (by omega) (by omega) (lv_sub hl [2, 1, 0] rfl)
  exact lp _ (0) ls (Nat.lt_succ_self _) (Nat.zero_le n) (lv_sub hl [2, 1, 0] rfl)

set_option maxRecDepth 100000 in
set_option maxHeartbeats 4000000 in
theorem c_valuesIn (l : Launch) (D : va_G) (k : Nat → ClassId) (t a g : Nat) (r : Nat → Nat) (n : Nat) (hn : n ≤ 256) (th : Nat → Int32) (M : Nat → Nat → Int32) (j : Nat) (hj : j < n) (sz : Nat) : bMI l y_T_valuesIn (wY y_T_valuesIn b_T_valuesIn 4 (some .int)) (rm9 1 0 0) D (tsK k) (tbW k t a g r n th M) sz [.ref t, .int (nI j)] (fun v w => v = nI (cnF (fun p => decide (M j p ≠ -1)) 24) ∧ w = tbW k t a g r n th M) 0 0 := by
  refine ent_i (cc := b_T_valuesIn) (maxL := 4) (ty := .int) (by decide) (Nat.le_of_ble_eq_true rfl) (fun _ _ _ => rfl) ?_
  intro p e s m args below meth c A Q ls hx hb hml hown hts hsz hA hP hD hS hK hl hret
  refine lv_iconst (v := nI 0) hx hb d_T_valuesIn_0 (by decide) ?_
  refine lv_istore_n (lv' := [(2, .int (nI 0)), (0, .ref t), (1, .int (nI j))]) hx hb d_T_valuesIn_1 rfl hl (by decide) rfl (fun ls hl => ?_)
  refine lv_iconst (v := nI 0) hx hb d_T_valuesIn_2 (by decide) ?_
  refine lv_istore_n (lv' := [(3, .int (nI 0)), (2, .int (nI 0)), (0, .ref t), (1, .int (nI j))]) hx hb d_T_valuesIn_3 rfl hl (by decide) rfl (fun ls hl => ?_)
  have lp : ∀ (n9 : Nat) (i : Nat) (ls : Array Slot), 24 - i < n9 → (i ≤ 24) → lv_has ls 4 [(0, .ref t), (1, .int (nI j)), (2, .int (nI (cnF (fun p => decide (M j p ≠ -1)) i))), (3, .int (nI i))] → W p l e (rm9 1 0 0) s m args below meth c s.heap [] 0 0 Q (F0 m 4 ls []) := by
    intro n9
    induction n9 with
    | zero => intro i ls hm; omega
    | succ n9 ih =>
      intro i ls hm hi hl
      refine lv_iload_n hx hb d_T_valuesIn_4 rfl (lv_at hl 3 rfl) ?_
      refine lv_bipush (v := nI 24) hx hb d_T_valuesIn_5 (by decide) ?_
      refine lv_icmp_ge (tgt := 31) hx hb d_T_valuesIn_7 (by decide) (fun c7 => ?_) (fun c7 => ?_)
      · skip
        rw [nI_leI (by omega) (by omega)] at c7
        refine lv_iload_n hx hb d_T_valuesIn_31 rfl (lv_at hl 2 rfl) ?_
        exact hret _ _ _ _ _ _ _ _ d_T_valuesIn_32 ⟨by rw [show i = 24 by omega], rfl⟩ hP hD hS (by decide) (by decide)
      · skip
        rw [nI_leI (by omega) (by omega)] at c7
        refine lv_aload_n hx hb d_T_valuesIn_10 rfl (lv_at hl 0 rfl) ?_
        refine va_get (D := D) (ci := ciTb) (v := .ref g) (C := RT) (T := TT) (N := 2) hx hb hts inT hown hK.1 hP 0 rfl rfl 1 (by decide) (hts _ wd_33) (fun _ h9 => h9) rfl d_T_valuesIn_11 ?_
        refine lv_iload_n hx hb d_T_valuesIn_14 rfl (lv_at hl 1 rfl) ?_
        refine rw_aald hx hb hK.1 hP 2 2 rfl rfl (j := j) (y := r j) (by omega) (by omega) (gOut_at (by omega)) d_T_valuesIn_15 ?_
        refine lv_iload_n hx hb d_T_valuesIn_16 rfl (lv_at hl 3 rfl) ?_
        refine rw_iald hx hb hK.1 hP (3 + j) 0 (tb_row (by omega)) rfl (j := i) (by omega) (by decide) d_T_valuesIn_17 ?_
        refine lv_iconst (v := -1) hx hb d_T_valuesIn_18 (by decide) ?_
        refine lv_icmp_eq (tgt := 25) hx hb d_T_valuesIn_19 (by decide) (fun c19 => ?_) (fun c19 => ?_)
        · skip
          rw [cnF_f (f := (fun p => decide (M j p ≠ -1))) (by simp [c19])] at hl
          refine lv_iinc (v := nI (i + 1)) (lv' := [(3, .int (nI (i + 1))), (0, .ref t), (1, .int (nI j)), (2, .int (nI (cnF (fun p => decide (M j p ≠ -1)) (i + 1))))]) hx hb d_T_valuesIn_25 hl (k := 3) rfl (ii_1 _) (by decide) rfl (fun ls hl => ?_)
          refine lv_goto (tgt := 4) hx hb d_T_valuesIn_28 (by decide) ?_
          exact ih (i + 1) ls (by omega) (by omega) (lv_sub hl [1, 2, 3, 0] rfl)
        · skip
          refine lv_iinc (v := nI ((cnF (fun p => decide (M j p ≠ -1)) i) + 1)) (lv' := [(2, .int (nI ((cnF (fun p => decide (M j p ≠ -1)) i) + 1))), (0, .ref t), (1, .int (nI j)), (3, .int (nI i))]) hx hb d_T_valuesIn_22 hl (k := 2) rfl (ii_1 _) (by decide) rfl (fun ls hl => ?_)
          rw [cnF_t (f := (fun p => decide (M j p ≠ -1))) (by simp [c19])] at hl
          refine lv_iinc (v := nI (i + 1)) (lv' := [(3, .int (nI (i + 1))), (2, .int (nI (cnF (fun p => decide (M j p ≠ -1)) (i + 1)))), (0, .ref t), (1, .int (nI j))]) hx hb d_T_valuesIn_25 hl (k := 3) rfl (ii_1 _) (by decide) rfl (fun ls hl => ?_)
          refine lv_goto (tgt := 4) hx hb d_T_valuesIn_28 (by decide) ?_
          exact ih (i + 1) ls (by omega) (by omega) (lv_sub hl [2, 3, 1, 0] rfl)
  exact lp _ (0) ls (Nat.lt_succ_self _) (by omega) (lv_sub hl [2, 3, 1, 0] rfl)

set_option maxRecDepth 100000 in
set_option maxHeartbeats 4000000 in
theorem c_valuesInAll (l : Launch) (D : va_G) (k : Nat → ClassId) (t a g : Nat) (r : Nat → Nat) (n : Nat) (hn : n ≤ 256) (th : Nat → Int32) (M : Nat → Nat → Int32) (sz : Nat) : bMI l y_T_valuesInAll (wY y_T_valuesInAll b_T_valuesInAll 3 (some .int)) (rm9 2 0 0) D (tsK k) (tbW k t a g r n th M) sz [.ref t] (fun v w => v = nI (smF (fun i => cnF (fun p => decide (M i p ≠ -1)) 24) n) ∧ w = tbW k t a g r n th M) 0 0 := by
  refine ent_i (cc := b_T_valuesInAll) (maxL := 3) (ty := .int) (by decide) (Nat.le_of_ble_eq_true rfl) (fun _ _ _ => rfl) ?_
  intro p e s m args below meth c A Q ls hx hb hml hown hts hsz hA hP hD hS hK hl hret
  refine lv_iconst (v := nI 0) hx hb d_T_valuesInAll_0 (by decide) ?_
  refine lv_istore_n (lv' := [(1, .int (nI 0)), (0, .ref t)]) hx hb d_T_valuesInAll_1 rfl hl (by decide) rfl (fun ls hl => ?_)
  refine lv_iconst (v := nI 0) hx hb d_T_valuesInAll_2 (by decide) ?_
  refine lv_istore_n (lv' := [(2, .int (nI 0)), (1, .int (nI 0)), (0, .ref t)]) hx hb d_T_valuesInAll_3 rfl hl (by decide) rfl (fun ls hl => ?_)
  have lp : ∀ (n9 : Nat) (i : Nat) (ls : Array Slot) (H : Heap) (locs : List Loc), n - i < n9 → (i ≤ n) → va_P D vwCl (tbW k t a g r n th M) H → va_D A (tbW k t a g r n th M) → va_S A s.heap H locs → lv_has ls 3 [(0, .ref t), (1, .int (nI (smF (fun i => cnF (fun p => decide (M i p ≠ -1)) 24) i))), (2, .int (nI i))] → W p l e (rm9 2 0 0) s m args below meth c H locs 0 0 Q (F0 m 4 ls []) := by
    intro n9
    induction n9 with
    | zero => intro i ls H locs hm; omega
    | succ n9 ih =>
      intro i ls H locs hm hi hP hD hS hl
      refine lv_iload_n hx hb d_T_valuesInAll_4 rfl (lv_at hl 2 rfl) ?_
      refine lv_aload_n hx hb d_T_valuesInAll_5 rfl (lv_at hl 0 rfl) ?_
      refine va_get (D := D) (ci := ciTb) (v := .ref a) (C := RT) (T := TT) (N := 2) hx hb hts inT hown hK.1 hP 0 rfl rfl 0 (by decide) (hts _ wd_32) (fun _ h9 => h9) rfl d_T_valuesInAll_6 ?_
      refine va_alen (v := nI n) hx hb hK.1 hP 1 1 rfl rfl rfl d_T_valuesInAll_9 ?_
      refine lv_icmp_ge (tgt := 27) hx hb d_T_valuesInAll_10 (by decide) (fun c10 => ?_) (fun c10 => ?_)
      · skip
        rw [nI_leI (by omega) (by omega)] at c10
        refine lv_iload_n hx hb d_T_valuesInAll_27 rfl (lv_at hl 1 rfl) ?_
        exact hret _ _ _ _ _ _ _ _ d_T_valuesInAll_28 ⟨by rw [show i = n by omega], rfl⟩ hP hD hS (by decide) (by decide)
      · skip
        rw [nI_leI (by omega) (by omega)] at c10
        refine lv_iload_n hx hb d_T_valuesInAll_13 rfl (lv_at hl 1 rfl) ?_
        refine lv_aload_n hx hb d_T_valuesInAll_14 rfl (lv_at hl 0 rfl) ?_
        refine lv_iload_n hx hb d_T_valuesInAll_15 rfl (lv_at hl 2 rfl) ?_
        refine cal_i (wc := tbW k t a g r n th M) (wr := []) (va_runV (As := [.int (nI i)]) (rest := [.int (nI (smF (fun i => cnF (fun p => decide (M i p ≠ -1)) 24) i))]) ⟨hx, hb, hml, hown, hts⟩ (c_valuesIn l D k t a g r n hn th M i (by omega) H.size) (cwV9 1 hts wd_79 wd_100 wd_78 ws_2 wd_2 (by decide) ⟨by decide, by decide⟩) (prV (q0 := 0) (ci := ciTb) hK hP hD (pm_nil' _) rfl rfl) rfl rfl hl.1 rfl (lv_room (Nat.le_of_ble_eq_true rfl)) d_T_valuesInAll_16 ⟨by decide, by decide⟩) (pm_nil' _) hP hD hS hA (fun r w1 H locs hw hpd hS => ?_)
        obtain ⟨rfl, rfl⟩ := hw
        obtain ⟨hP, hD⟩ := hpd (tbW k t a g r n th M) (pm_nil _)
        refine lv_iadd hx hb d_T_valuesInAll_19 ?_
        rw [nI_add]
        refine lv_istore_n (lv' := [(1, .int (nI ((smF (fun i => cnF (fun p => decide (M i p ≠ -1)) 24) i) + (cnF (fun p => decide (M i p ≠ -1)) 24)))), (0, .ref t), (2, .int (nI i))]) hx hb d_T_valuesInAll_20 rfl hl (by decide) rfl (fun ls hl => ?_)
        refine lv_iinc (v := nI (i + 1)) (lv' := [(2, .int (nI (i + 1))), (1, .int (nI ((smF (fun i => cnF (fun p => decide (M i p ≠ -1)) 24) i) + (cnF (fun p => decide (M i p ≠ -1)) 24)))), (0, .ref t)]) hx hb d_T_valuesInAll_21 hl (k := 2) rfl (ii_1 _) (by decide) rfl (fun ls hl => ?_)
        refine lv_goto (tgt := 4) hx hb d_T_valuesInAll_24 (by decide) ?_
        exact ih (i + 1) ls H locs (by omega) (by omega) hP hD hS (lv_sub hl [2, 1, 0] rfl)
  exact lp _ (0) ls s.heap [] (Nat.lt_succ_self _) (Nat.zero_le n) hP hD hS (lv_sub hl [2, 1, 0] rfl)
