/-! the reference's own words -/
theorem inB_kd (x : Int32) : inB x (nI 0) (nI 1) = kdB x := by
  cases e : kdB x with
  | true =>
    simp only [kdB, Bool.or_eq_true, decide_eq_true_eq] at e
    rcases e with rfl | rfl <;> decide
  | false =>
    cases e2 : inB x (nI 0) (nI 1) with
    | false => rfl
    | true =>
      obtain ⟨j, hj, rfl⟩ := inB_ex (by decide) e2
      rcases (show j = 0 ∨ j = 1 by omega) with rfl | rfl
      · exact absurd e (by decide)
      · exact absurd e (by decide)
theorem inB_wh (x : Int32) : inB x (nI 0) (nI 4) = whB x := by
  rcases sw5 x with rfl | rfl | rfl | rfl | rfl | ⟨h, hw⟩
  · decide
  · decide
  · decide
  · decide
  · decide
  · rw [hw]
    cases e2 : inB x (nI 0) (nI 4) with
    | false => rfl
    | true =>
      obtain ⟨j, hj, rfl⟩ := inB_ex (by decide) e2
      rw [nI_toInt (by omega)] at h
      omega
theorem eN_go {th bs : Nat → Int32} {n : Nat} {y : Int32} (he : eN th bs n y) (h : ¬ y < 0) : ∃ n' : Nat, n = n' + 1 ∧ ∃ j : Nat, j < 64 ∧ y = nI j ∧ th j ≠ 0 ∧ eN th bs n' (bs j) := by
  cases n with
  | zero => exact absurd (by rw [show y = -1 from he]; decide) h
  | succ n =>
    rcases he with rfl | ⟨j, hj, rfl, hjt, he⟩
    · exact absurd (by decide) h
    · exact ⟨n, rfl, j, hj, rfl, hjt, he⟩
theorem eN_m {th bs : Nat → Int32} {n : Nat} {y : Int32} (he : eN th bs n y) (h : y < 0) : y = -1 := by
  cases n with
  | zero => exact he
  | succ n =>
    rcases he with rfl | ⟨j, hj, rfl, hjt, he⟩
    · rfl
    · exact absurd h (nI_pos (by omega))
theorem hsB_on {j n : Nat} {th : Nat → Int32} (hj : j < n) (hn : n < 2 ^ 31) (h : th j ≠ 0) : hsB n th (nI j) = true := by rw [hsB_nI hj hn]; exact decide_eq_true h
/-- q places of row j of a flat table become g's -/
def rwF (f : Nat → Int32) (j : Nat) (g : Nat → Int32) (q : Nat) : Nat → Int32 := fun a => if 24 * j ≤ a ∧ a < 24 * j + q then g (a - 24 * j) else f a
theorem rwF_0 (f : Nat → Int32) (j : Nat) (g : Nat → Int32) : rwF f j g 0 = f := by
  funext a
  simp only [rwF]
  rw [if_neg (by omega)]
theorem rwF_s {f g : Nat → Int32} {j q : Nat} {x : Int32} (h : x = g q) : upd (rwF f j g q) (24 * j + q) x = rwF f j g (q + 1) := by
  subst h
  funext a
  simp only [upd, rwF]
  by_cases e : a = 24 * j + q
  · rw [if_pos e, if_pos (by omega), show a - 24 * j = q by omega]
  · rw [if_neg e]
    by_cases h2 : 24 * j ≤ a ∧ a < 24 * j + q
    · rw [if_pos h2, if_pos (by omega)]
    · rw [if_neg h2, if_neg (by omega)]
theorem eqF_congr {f f' g g' : Nat → Int32} : ∀ n, (∀ p, p < n → f p = f' p) → (∀ p, p < n → g p = g' p) → eqF f g n = eqF f' g' n := by
  intro n
  induction n with
  | zero => intros; rfl
  | succ n ih => intro h1 h2; simp only [eqF]; rw [ih (fun p hp => h1 p (by omega)) (fun p hp => h2 p (by omega)), h1 n (by omega), h2 n (by omega)]
theorem cnF_congr {f g : Nat → Bool} : ∀ n, (∀ p, p < n → f p = g p) → cnF f n = cnF g n := by
  intro n
  induction n with
  | zero => intros; rfl
  | succ n ih => intro h; simp only [cnF]; rw [ih (fun p hp => h p (by omega)), h n (by omega)]
theorem fdF_congr {f g : Nat → Bool} : ∀ n i, (∀ p, i ≤ p → p < i + n → f p = g p) → fdF f n i = fdF g n i := by
  intro n
  induction n with
  | zero => intros; rfl
  | succ n ih => intro i h; simp only [fdF]; rw [ih (i + 1) (fun p h1 h2 => h p (by omega) (by omega)), h i (by omega) (by omega)]

set_option maxRecDepth 100000 in
set_option maxHeartbeats 4000000 in
theorem c_Mthrown (l : Launch) (D : va_G) (k : Nat → ClassId) (b : Nat → Nat) (cd : Int32) (ki ba ow uu te ma va wa : Nat → Int32) (sz : Nat) : bMI l y_M_thrown (wY y_M_thrown b_M_thrown 1 (some .int)) (rm9 1 0 0) D (tsK k) (mdW k b cd ki ba ow uu te ma va wa) sz [.ref (b 0)] (fun v w => v = cd ∧ w = mdW k b cd ki ba ow uu te ma va wa) 0 0 := by
  refine ent_i (cc := b_M_thrown) (maxL := 1) (ty := .int) (by decide) (Nat.le_of_ble_eq_true rfl) (fun _ _ _ => rfl) ?_
  intro p e s m args below meth c A Q ls hx hb hml hown hts hsz hA hP hD hS hK hl hret
  refine lv_aload_n hx hb d_M_thrown_0 rfl (lv_at hl 0 rfl) ?_
  refine va_get (D := D) (ci := ciMo) (v := .int cd) (C := RM) (T := TM) (N := 9) hx hb hts inM hown hK.1 hP 0 rfl rfl 0 (by decide) (hts _ wd_399) (fun _ h9 => h9) rfl d_M_thrown_1 ?_
  exact hret _ _ _ _ _ _ _ _ d_M_thrown_4 ⟨rfl, rfl⟩ hP hD hS (by decide) (by decide)

set_option maxRecDepth 100000 in
set_option maxHeartbeats 4000000 in
theorem c_Min (l : Launch) (D : va_G) (k : Nat → ClassId) (x lo hi : Int32) (sz : Nat) : bMI l y_M_in (wY y_M_in b_M_in 3 (some .boolean)) (rm9 1 0 0) D (tsK k) ([]) sz [.int x, .int lo, .int hi] (fun v w => v = (if inB x lo hi = true then nI 1 else nI 0) ∧ w = []) 0 0 := by
  refine ent_i (cc := b_M_in) (maxL := 3) (ty := .boolean) (by decide) (Nat.le_of_ble_eq_true rfl) (fun v w h => nr_if h.1) ?_
  intro p e s m args below meth c A Q ls hx hb hml hown hts hsz hA hP hD hS hK hl hret
  refine lv_iload_n hx hb d_M_in_0 rfl (lv_at hl 0 rfl) ?_
  refine lv_iload_n hx hb d_M_in_1 rfl (lv_at hl 1 rfl) ?_
  refine lv_icmp_lt (tgt := 14) hx hb d_M_in_2 (by decide) (fun c2 => ?_) (fun c2 => ?_)
  · skip
    refine lv_iconst (v := nI 0) hx hb d_M_in_14 (by decide) ?_
    exact hret _ _ _ _ _ _ _ _ d_M_in_15 ⟨if_f (by simp [inB]; intro h; exact absurd c2 (Int32.not_lt.mpr h)), rfl⟩ hP hD hS (by decide) (by decide)
  · skip
    refine lv_iload_n hx hb d_M_in_5 rfl (lv_at hl 0 rfl) ?_
    refine lv_iload_n hx hb d_M_in_6 rfl (lv_at hl 2 rfl) ?_
    refine lv_icmp_gt (tgt := 14) hx hb d_M_in_7 (by decide) (fun c7 => ?_) (fun c7 => ?_)
    · skip
      refine lv_iconst (v := nI 0) hx hb d_M_in_14 (by decide) ?_
      exact hret _ _ _ _ _ _ _ _ d_M_in_15 ⟨if_f (by simp [inB]; intro _; exact c7), rfl⟩ hP hD hS (by decide) (by decide)
    · skip
      refine lv_iconst (v := nI 1) hx hb d_M_in_10 (by decide) ?_
      refine lv_goto (tgt := 15) hx hb d_M_in_11 (by decide) ?_
      exact hret _ _ _ _ _ _ _ _ d_M_in_15 ⟨if_t (by simp only [inB, Bool.and_eq_true, decide_eq_true_eq]; exact ⟨Int32.not_lt.mp c2, Int32.not_lt.mp c7⟩), rfl⟩ hP hD hS (by decide) (by decide)

set_option maxRecDepth 100000 in
set_option maxHeartbeats 4000000 in
theorem c_MisStyle (l : Launch) (D : va_G) (k : Nat → ClassId) (b : Nat → Nat) (cd : Int32) (ki ba ow uu te ma va wa : Nat → Int32) (th : Nat → Int32) (h1 : ∀ i, i < 64 → (th i ≠ 0 ↔ ¬ ki i < 0)) (x : Int32) (sz : Nat) : bMI l y_M_isStyle (wY y_M_isStyle b_M_isStyle 2 (some .boolean)) (rm9 2 0 0) D (tsK k) (mdW k b cd ki ba ow uu te ma va wa) sz [.ref (b 0), .int x] (fun v w => v = (if hsB 64 th x = true then nI 1 else nI 0) ∧ w = mdW k b cd ki ba ow uu te ma va wa) 0 0 := by
  refine ent_i (cc := b_M_isStyle) (maxL := 2) (ty := .boolean) (by decide) (Nat.le_of_ble_eq_true rfl) (fun v w h => nr_if h.1) ?_
  intro p e s m args below meth c A Q ls hx hb hml hown hts hsz hA hP hD hS hK hl hret
  refine lv_iload_n hx hb d_M_isStyle_0 rfl (lv_at hl 1 rfl) ?_
  refine lv_iconst (v := nI 0) hx hb d_M_isStyle_1 (by decide) ?_
  refine lv_bipush (v := nI 63) hx hb d_M_isStyle_2 (by decide) ?_
  refine cal_i (wc := []) (wr := mdW k b cd ki ba ow uu te ma va wa) (va_runS (As := [.int x, .int (nI 0), .int (nI 63)]) (rest := []) ⟨hx, hb, hml, hown, hts⟩ (c_Min l D k x (nI 0) (nI 63) s.heap.size) (cwS9 3 hts wd_437 wd_435 wd_436 wd_4 (by decide) ⟨Nat.le_of_ble_eq_true rfl, Nat.le_of_ble_eq_true rfl⟩) (prS hK hP hD (List.Perm.refl _)) rfl rfl hl.1 rfl (lv_room (Nat.le_of_ble_eq_true rfl)) d_M_isStyle_4 ⟨by decide, by decide⟩) (List.Perm.refl _) hP hD hS hA (fun r w1 H locs hw hpd hS => ?_)
  obtain ⟨rfl, rfl⟩ := hw
  obtain ⟨hP, hD⟩ := hpd (mdW k b cd ki ba ow uu te ma va wa) (List.Perm.refl _)
  refine lv_if_eq (tgt := 23) hx hb d_M_isStyle_7 (by decide) (fun c7 => ?_) (fun c7 => ?_)
  · skip
    have c7 := b_of0 c7
    refine lv_iconst (v := nI 0) hx hb d_M_isStyle_23 (by decide) ?_
    exact hret _ _ _ _ _ _ _ _ d_M_isStyle_24 ⟨if_f (inB_hs (n := 63) (by decide) c7), rfl⟩ hP hD hS (by decide) (by decide)
  · skip
    have c7 := b_of1 c7
    obtain ⟨j, hj, rfl⟩ := inB_ex (n := 63) (by decide) c7
    refine lv_aload_n hx hb d_M_isStyle_10 rfl (lv_at hl 0 rfl) ?_
    refine va_get (D := D) (ci := ciMo) (v := .ref (b 1)) (C := RM) (T := TM) (N := 9) hx hb hts inM hown hK.1 hP 0 rfl rfl 1 (by decide) (hts _ wd_400) (fun _ h9 => h9) rfl d_M_isStyle_11 ?_
    refine lv_iload_n hx hb d_M_isStyle_14 rfl (lv_at hl 1 rfl) ?_
    refine rw_iald hx hb hK.1 hP 1 0 rfl rfl (j := j) (by omega) (by decide) d_M_isStyle_15 ?_
    refine lv_if_lt (tgt := 23) hx hb d_M_isStyle_16 (by decide) (fun c16 => ?_) (fun c16 => ?_)
    · skip
      refine lv_iconst (v := nI 0) hx hb d_M_isStyle_23 (by decide) ?_
      exact hret _ _ _ _ _ _ _ _ d_M_isStyle_24 ⟨if_f (by rw [hsB_nI hj (by decide)]; exact decide_eq_false (fun q => (h1 j hj).mp q c16)), rfl⟩ hP hD hS (by decide) (by decide)
    · skip
      refine lv_iconst (v := nI 1) hx hb d_M_isStyle_19 (by decide) ?_
      refine lv_goto (tgt := 24) hx hb d_M_isStyle_20 (by decide) ?_
      exact hret _ _ _ _ _ _ _ _ d_M_isStyle_24 ⟨if_t (by rw [hsB_nI hj (by decide)]; exact decide_eq_true ((h1 j hj).mpr c16)), rfl⟩ hP hD hS (by decide) (by decide)

set_option maxRecDepth 100000 in
set_option maxHeartbeats 4000000 in
theorem c_MisOf (l : Launch) (D : va_G) (k : Nat → ClassId) (b : Nat → Nat) (cd : Int32) (ki ba ow uu te ma va wa : Nat → Int32) (th kd : Nat → Int32) (h1 : ∀ i, i < 64 → (th i ≠ 0 ↔ ¬ ki i < 0)) (h2 : ∀ i, i < 64 → th i ≠ 0 → ki i = kd i) (x y : Int32) (sz : Nat) : bMI l y_M_isOf (wY y_M_isOf b_M_isOf 3 (some .boolean)) (rm9 3 0 0) D (tsK k) (mdW k b cd ki ba ow uu te ma va wa) sz [.ref (b 0), .int x, .int y] (fun v w => v = (if okB th kd x y = true then nI 1 else nI 0) ∧ w = mdW k b cd ki ba ow uu te ma va wa) 0 0 := by
  refine ent_i (cc := b_M_isOf) (maxL := 3) (ty := .boolean) (by decide) (Nat.le_of_ble_eq_true rfl) (fun v w h => nr_if h.1) ?_
  intro p e s m args below meth c A Q ls hx hb hml hown hts hsz hA hP hD hS hK hl hret
  refine lv_iload_n hx hb d_M_isOf_0 rfl (lv_at hl 1 rfl) ?_
  refine lv_iconst (v := -1) hx hb d_M_isOf_1 (by decide) ?_
  refine lv_icmp_eq (tgt := 23) hx hb d_M_isOf_2 (by decide) (fun c2 => ?_) (fun c2 => ?_)
  · skip
    refine lv_iconst (v := nI 1) hx hb d_M_isOf_23 (by decide) ?_
    refine lv_goto (tgt := 28) hx hb d_M_isOf_24 (by decide) ?_
    exact hret _ _ _ _ _ _ _ _ d_M_isOf_28 ⟨if_t (by simp [okB, c2]), rfl⟩ hP hD hS (by decide) (by decide)
  · skip
    refine lv_aload_n hx hb d_M_isOf_5 rfl (lv_at hl 0 rfl) ?_
    refine lv_iload_n hx hb d_M_isOf_6 rfl (lv_at hl 1 rfl) ?_
    refine cal_i (wc := mdW k b cd ki ba ow uu te ma va wa) (wr := []) (va_runV (As := [.int x]) (rest := []) ⟨hx, hb, hml, hown, hts⟩ (c_MisStyle l D k b cd ki ba ow uu te ma va wa th h1 x s.heap.size) (cwV9 1 hts wd_445 wd_442 wd_444 ws_22 wd_4 (by decide) ⟨Nat.le_of_ble_eq_true rfl, Nat.le_of_ble_eq_true rfl⟩) (prV (q0 := 0) (ci := ciMo) hK hP hD (pm_nil' _) rfl rfl) rfl rfl hl.1 rfl (lv_room (Nat.le_of_ble_eq_true rfl)) d_M_isOf_7 ⟨by decide, by decide⟩) (pm_nil' _) hP hD hS hA (fun r w1 H locs hw hpd hS => ?_)
    obtain ⟨rfl, rfl⟩ := hw
    obtain ⟨hP, hD⟩ := hpd (mdW k b cd ki ba ow uu te ma va wa) (pm_nil _)
    refine lv_if_eq (tgt := 27) hx hb d_M_isOf_10 (by decide) (fun c10 => ?_) (fun c10 => ?_)
    · skip
      have c10 := b_of0 c10
      refine lv_iconst (v := nI 0) hx hb d_M_isOf_27 (by decide) ?_
      exact hret _ _ _ _ _ _ _ _ d_M_isOf_28 ⟨if_f (by simp [okB, c2, c10]), rfl⟩ hP hD hS (by decide) (by decide)
    · skip
      have c10 := b_of1 c10
      obtain ⟨j, hj, rfl, hjt⟩ := hsB_t (by decide) c10
      refine lv_aload_n hx hb d_M_isOf_13 rfl (lv_at hl 0 rfl) ?_
      refine va_get (D := D) (ci := ciMo) (v := .ref (b 1)) (C := RM) (T := TM) (N := 9) hx hb hts inM hown hK.1 hP 0 rfl rfl 1 (by decide) (hts _ wd_400) (fun _ h9 => h9) rfl d_M_isOf_14 ?_
      refine lv_iload_n hx hb d_M_isOf_17 rfl (lv_at hl 1 rfl) ?_
      refine rw_iald hx hb hK.1 hP 1 0 rfl rfl (j := j) (by omega) (by decide) d_M_isOf_18 ?_
      refine lv_iload_n hx hb d_M_isOf_19 rfl (lv_at hl 2 rfl) ?_
      refine lv_icmp_ne (tgt := 27) hx hb d_M_isOf_20 (by decide) (fun c20 => ?_) (fun c20 => ?_)
      · skip
        refine lv_iconst (v := nI 0) hx hb d_M_isOf_27 (by decide) ?_
        exact hret _ _ _ _ _ _ _ _ d_M_isOf_28 ⟨if_f (by rw [h2 j hj hjt] at c20; simp [okB, ne_m1 (show j < 2 ^ 31 by omega), nI_clamp (show j < 2 ^ 31 by omega), c20]), rfl⟩ hP hD hS (by decide) (by decide)
      · skip
        refine lv_iconst (v := nI 1) hx hb d_M_isOf_23 (by decide) ?_
        refine lv_goto (tgt := 28) hx hb d_M_isOf_24 (by decide) ?_
        exact hret _ _ _ _ _ _ _ _ d_M_isOf_28 ⟨if_t (by rw [h2 j hj hjt] at c20; simp [okB, c10, nI_clamp (show j < 2 ^ 31 by omega), c20]), rfl⟩ hP hD hS (by decide) (by decide)

set_option maxRecDepth 100000 in
set_option maxHeartbeats 4000000 in
theorem c_MisSet (l : Launch) (D : va_G) (k : Nat → ClassId) (b : Nat → Nat) (cd : Int32) (ki ba ow uu te ma va wa : Nat → Int32) (sth : Nat → Int32) (h3 : ∀ j, j < 256 → te j = sth j) (x : Int32) (sz : Nat) : bMI l y_M_isSet (wY y_M_isSet b_M_isSet 2 (some .boolean)) (rm9 2 0 0) D (tsK k) (mdW k b cd ki ba ow uu te ma va wa) sz [.ref (b 0), .int x] (fun v w => v = (if hsB 256 sth x = true then nI 1 else nI 0) ∧ w = mdW k b cd ki ba ow uu te ma va wa) 0 0 := by
  refine ent_i (cc := b_M_isSet) (maxL := 2) (ty := .boolean) (by decide) (Nat.le_of_ble_eq_true rfl) (fun v w h => nr_if h.1) ?_
  intro p e s m args below meth c A Q ls hx hb hml hown hts hsz hA hP hD hS hK hl hret
  refine lv_iload_n hx hb d_M_isSet_0 rfl (lv_at hl 1 rfl) ?_
  refine lv_iconst (v := nI 0) hx hb d_M_isSet_1 (by decide) ?_
  refine lv_sipush (v := nI 255) hx hb d_M_isSet_2 (by decide) ?_
  refine cal_i (wc := []) (wr := mdW k b cd ki ba ow uu te ma va wa) (va_runS (As := [.int x, .int (nI 0), .int (nI 255)]) (rest := []) ⟨hx, hb, hml, hown, hts⟩ (c_Min l D k x (nI 0) (nI 255) s.heap.size) (cwS9 3 hts wd_437 wd_435 wd_436 wd_4 (by decide) ⟨Nat.le_of_ble_eq_true rfl, Nat.le_of_ble_eq_true rfl⟩) (prS hK hP hD (List.Perm.refl _)) rfl rfl hl.1 rfl (lv_room (Nat.le_of_ble_eq_true rfl)) d_M_isSet_5 ⟨by decide, by decide⟩) (List.Perm.refl _) hP hD hS hA (fun r w1 H locs hw hpd hS => ?_)
  obtain ⟨rfl, rfl⟩ := hw
  obtain ⟨hP, hD⟩ := hpd (mdW k b cd ki ba ow uu te ma va wa) (List.Perm.refl _)
  refine lv_if_eq (tgt := 24) hx hb d_M_isSet_8 (by decide) (fun c8 => ?_) (fun c8 => ?_)
  · skip
    have c8 := b_of0 c8
    refine lv_iconst (v := nI 0) hx hb d_M_isSet_24 (by decide) ?_
    exact hret _ _ _ _ _ _ _ _ d_M_isSet_25 ⟨if_f (inB_hs (n := 255) (by decide) c8), rfl⟩ hP hD hS (by decide) (by decide)
  · skip
    have c8 := b_of1 c8
    obtain ⟨j, hj, rfl⟩ := inB_ex (n := 255) (by decide) c8
    refine lv_aload_n hx hb d_M_isSet_11 rfl (lv_at hl 0 rfl) ?_
    refine va_get (D := D) (ci := ciMo) (v := .ref (b 5)) (C := RM) (T := TM) (N := 9) hx hb hts inM hown hK.1 hP 0 rfl rfl 5 (by decide) (hts _ wd_404) (fun _ h9 => h9) rfl d_M_isSet_12 ?_
    refine lv_iload_n hx hb d_M_isSet_15 rfl (lv_at hl 1 rfl) ?_
    refine rw_zald hx hb hK.1 hP 5 1 rfl rfl (j := j) (by omega) (by decide) d_M_isSet_16 ?_
    refine lv_if_eq (tgt := 24) hx hb d_M_isSet_17 (by decide) (fun c17 => ?_) (fun c17 => ?_)
    · skip
      refine lv_iconst (v := nI 0) hx hb d_M_isSet_24 (by decide) ?_
      exact hret _ _ _ _ _ _ _ _ d_M_isSet_25 ⟨if_f (by rw [hsB_nI hj (by decide), ← h3 j hj, c17]; rfl), rfl⟩ hP hD hS (by decide) (by decide)
    · skip
      refine lv_iconst (v := nI 1) hx hb d_M_isSet_20 (by decide) ?_
      refine lv_goto (tgt := 25) hx hb d_M_isSet_21 (by decide) ?_
      exact hret _ _ _ _ _ _ _ _ d_M_isSet_25 ⟨if_t (by rw [hsB_nI hj (by decide), ← h3 j hj]; simp [c17]), rfl⟩ hP hD hS (by decide) (by decide)

set_option maxRecDepth 100000 in
set_option maxHeartbeats 4000000 in
theorem c_MisProperty (l : Launch) (D : va_G) (k : Nat → ClassId) (x : Int32) (sz : Nat) : bMI l y_M_isProperty (wY y_M_isProperty b_M_isProperty 1 (some .boolean)) (rm9 2 0 0) D (tsK k) ([]) sz [.int x] (fun v w => v = (if prB x = true then nI 1 else nI 0) ∧ w = []) 0 0 := by
  refine ent_i (cc := b_M_isProperty) (maxL := 1) (ty := .boolean) (by decide) (Nat.le_of_ble_eq_true rfl) (fun v w h => nr_if h.1) ?_
  intro p e s m args below meth c A Q ls hx hb hml hown hts hsz hA hP hD hS hK hl hret
  refine lv_iload_n hx hb d_M_isProperty_0 rfl (lv_at hl 0 rfl) ?_
  refine lv_iconst (v := nI 0) hx hb d_M_isProperty_1 (by decide) ?_
  refine lv_bipush (v := nI 23) hx hb d_M_isProperty_2 (by decide) ?_
  refine cal_i (wc := []) (wr := []) (va_runS (As := [.int x, .int (nI 0), .int (nI 23)]) (rest := []) ⟨hx, hb, hml, hown, hts⟩ (c_Min l D k x (nI 0) (nI 23) s.heap.size) (cwS9 3 hts wd_437 wd_435 wd_436 wd_4 (by decide) ⟨Nat.le_of_ble_eq_true rfl, Nat.le_of_ble_eq_true rfl⟩) (prS hK hP hD (List.Perm.refl _)) rfl rfl hl.1 rfl (lv_room (Nat.le_of_ble_eq_true rfl)) d_M_isProperty_4 ⟨by decide, by decide⟩) (List.Perm.refl _) hP hD hS hA (fun r w1 H locs hw hpd hS => ?_)
  obtain ⟨rfl, rfl⟩ := hw
  obtain ⟨hP, hD⟩ := hpd ([]) (List.Perm.refl _)
  exact hret _ _ _ _ _ _ _ _ d_M_isProperty_7 ⟨by rw [inB_pr], rfl⟩ hP hD hS (by decide) (by decide)

set_option maxRecDepth 100000 in
set_option maxHeartbeats 4000000 in
theorem c_MisValue (l : Launch) (D : va_G) (k : Nat → ClassId) (x v9 lo : Int32) (sz : Nat) : bMI l y_M_isValue (wY y_M_isValue b_M_isValue 3 (some .boolean)) (rm9 3 0 0) D (tsK k) ([]) sz [.int x, .int v9, .int lo] (fun v w => v = (if (prB x && inB v9 lo (grt x)) = true then nI 1 else nI 0) ∧ w = []) 0 0 := by
  refine ent_i (cc := b_M_isValue) (maxL := 3) (ty := .boolean) (by decide) (Nat.le_of_ble_eq_true rfl) (fun v w h => nr_if h.1) ?_
  intro p e s m args below meth c A Q ls hx hb hml hown hts hsz hA hP hD hS hK hl hret
  refine lv_iload_n hx hb d_M_isValue_0 rfl (lv_at hl 0 rfl) ?_
  refine cal_i (wc := []) (wr := []) (va_runS (As := [.int x]) (rest := []) ⟨hx, hb, hml, hown, hts⟩ (c_MisProperty l D k x s.heap.size) (cwS9 1 hts wd_467 wd_465 wd_466 wd_4 (by decide) ⟨Nat.le_of_ble_eq_true rfl, Nat.le_of_ble_eq_true rfl⟩) (prS hK hP hD (List.Perm.refl _)) rfl rfl hl.1 rfl (lv_room (Nat.le_of_ble_eq_true rfl)) d_M_isValue_1 ⟨by decide, by decide⟩) (List.Perm.refl _) hP hD hS hA (fun r w1 H locs hw hpd hS => ?_)
  obtain ⟨rfl, rfl⟩ := hw
  obtain ⟨hP, hD⟩ := hpd ([]) (List.Perm.refl _)
  refine lv_if_eq (tgt := 43) hx hb d_M_isValue_4 (by decide) (fun c4 => ?_) (fun c4 => ?_)
  · skip
    have c4 := b_of0 c4
    refine lv_iconst (v := nI 0) hx hb d_M_isValue_43 (by decide) ?_
    exact hret _ _ _ _ _ _ _ _ d_M_isValue_44 ⟨if_f (by simp [c4]), rfl⟩ hP hD hS (by decide) (by decide)
  · skip
    have c4 := b_of1 c4
    refine lv_iload_n hx hb d_M_isValue_7 rfl (lv_at hl 1 rfl) ?_
    refine lv_iload_n hx hb d_M_isValue_8 rfl (lv_at hl 2 rfl) ?_
    refine lv_iload_n hx hb d_M_isValue_9 rfl (lv_at hl 0 rfl) ?_
    refine lv_bipush (v := nI 8) hx hb d_M_isValue_10 (by decide) ?_
    refine lv_icmp_ge (tgt := 19) hx hb d_M_isValue_12 (by decide) (fun c12 => ?_) (fun c12 => ?_)
    · skip
      refine lv_iload_n hx hb d_M_isValue_19 rfl (lv_at hl 0 rfl) ?_
      refine lv_bipush (v := nI 16) hx hb d_M_isValue_20 (by decide) ?_
      refine lv_icmp_ge (tgt := 31) hx hb d_M_isValue_22 (by decide) (fun c22 => ?_) (fun c22 => ?_)
      · skip
        refine lv_ldc (v := 65535) hx hb hown (hts _ wd_468) d_M_isValue_31 ?_
        refine cal_i (wc := []) (wr := []) (va_runS (As := [.int v9, .int lo, .int 65535]) (rest := []) ⟨hx, hb, hml, hown, hts⟩ (c_Min l D k v9 lo 65535 H.size) (cwS9 3 hts wd_437 wd_435 wd_436 wd_4 (by decide) ⟨Nat.le_of_ble_eq_true rfl, Nat.le_of_ble_eq_true rfl⟩) (prS hK hP hD (List.Perm.refl _)) rfl rfl hl.1 rfl (lv_room (Nat.le_of_ble_eq_true rfl)) d_M_isValue_33 ⟨by decide, by decide⟩) (List.Perm.refl _) hP hD hS hA (fun r w1 H locs hw hpd hS => ?_)
        obtain ⟨rfl, rfl⟩ := hw
        obtain ⟨hP, hD⟩ := hpd ([]) (List.Perm.refl _)
        refine lv_if_eq (tgt := 43) hx hb d_M_isValue_36 (by decide) (fun c36 => ?_) (fun c36 => ?_)
        · skip
          have c36 := b_of0 c36
          refine lv_iconst (v := nI 0) hx hb d_M_isValue_43 (by decide) ?_
          exact hret _ _ _ _ _ _ _ _ d_M_isValue_44 ⟨if_f (by simp [grt, c12, c22, c36]), rfl⟩ hP hD hS (by decide) (by decide)
        · skip
          have c36 := b_of1 c36
          refine lv_iconst (v := nI 1) hx hb d_M_isValue_39 (by decide) ?_
          refine lv_goto (tgt := 44) hx hb d_M_isValue_40 (by decide) ?_
          exact hret _ _ _ _ _ _ _ _ d_M_isValue_44 ⟨if_t (by simp [c4, grt, c12, c22, c36]), rfl⟩ hP hD hS (by decide) (by decide)
      · skip
        refine lv_sipush (v := nI 255) hx hb d_M_isValue_25 (by decide) ?_
        refine lv_goto (tgt := 33) hx hb d_M_isValue_28 (by decide) ?_
        refine cal_i (wc := []) (wr := []) (va_runS (As := [.int v9, .int lo, .int (nI 255)]) (rest := []) ⟨hx, hb, hml, hown, hts⟩ (c_Min l D k v9 lo (nI 255) H.size) (cwS9 3 hts wd_437 wd_435 wd_436 wd_4 (by decide) ⟨Nat.le_of_ble_eq_true rfl, Nat.le_of_ble_eq_true rfl⟩) (prS hK hP hD (List.Perm.refl _)) rfl rfl hl.1 rfl (lv_room (Nat.le_of_ble_eq_true rfl)) d_M_isValue_33 ⟨by decide, by decide⟩) (List.Perm.refl _) hP hD hS hA (fun r w1 H locs hw hpd hS => ?_)
        obtain ⟨rfl, rfl⟩ := hw
        obtain ⟨hP, hD⟩ := hpd ([]) (List.Perm.refl _)
        refine lv_if_eq (tgt := 43) hx hb d_M_isValue_36 (by decide) (fun c36 => ?_) (fun c36 => ?_)
        · skip
          have c36 := b_of0 c36
          refine lv_iconst (v := nI 0) hx hb d_M_isValue_43 (by decide) ?_
          exact hret _ _ _ _ _ _ _ _ d_M_isValue_44 ⟨if_f (by simp [grt, c12, c22, c36]), rfl⟩ hP hD hS (by decide) (by decide)
        · skip
          have c36 := b_of1 c36
          refine lv_iconst (v := nI 1) hx hb d_M_isValue_39 (by decide) ?_
          refine lv_goto (tgt := 44) hx hb d_M_isValue_40 (by decide) ?_
          exact hret _ _ _ _ _ _ _ _ d_M_isValue_44 ⟨if_t (by simp [c4, grt, c12, c22, c36]), rfl⟩ hP hD hS (by decide) (by decide)
    · skip
      refine lv_iconst (v := nI 1) hx hb d_M_isValue_15 (by decide) ?_
      refine lv_goto (tgt := 33) hx hb d_M_isValue_16 (by decide) ?_
      refine cal_i (wc := []) (wr := []) (va_runS (As := [.int v9, .int lo, .int (nI 1)]) (rest := []) ⟨hx, hb, hml, hown, hts⟩ (c_Min l D k v9 lo (nI 1) H.size) (cwS9 3 hts wd_437 wd_435 wd_436 wd_4 (by decide) ⟨Nat.le_of_ble_eq_true rfl, Nat.le_of_ble_eq_true rfl⟩) (prS hK hP hD (List.Perm.refl _)) rfl rfl hl.1 rfl (lv_room (Nat.le_of_ble_eq_true rfl)) d_M_isValue_33 ⟨by decide, by decide⟩) (List.Perm.refl _) hP hD hS hA (fun r w1 H locs hw hpd hS => ?_)
      obtain ⟨rfl, rfl⟩ := hw
      obtain ⟨hP, hD⟩ := hpd ([]) (List.Perm.refl _)
      refine lv_if_eq (tgt := 43) hx hb d_M_isValue_36 (by decide) (fun c36 => ?_) (fun c36 => ?_)
      · skip
        have c36 := b_of0 c36
        refine lv_iconst (v := nI 0) hx hb d_M_isValue_43 (by decide) ?_
        exact hret _ _ _ _ _ _ _ _ d_M_isValue_44 ⟨if_f (by simp [grt, c12, c36]), rfl⟩ hP hD hS (by decide) (by decide)
      · skip
        have c36 := b_of1 c36
        refine lv_iconst (v := nI 1) hx hb d_M_isValue_39 (by decide) ?_
        refine lv_goto (tgt := 44) hx hb d_M_isValue_40 (by decide) ?_
        exact hret _ _ _ _ _ _ _ _ d_M_isValue_44 ⟨if_t (by simp [c4, grt, c12, c36]), rfl⟩ hP hD hS (by decide) (by decide)

set_option maxRecDepth 100000 in
set_option maxHeartbeats 4000000 in
theorem c_Mcomes (l : Launch) (D : va_G) (k : Nat → ClassId) (b : Nat → Nat) (cd : Int32) (ki ba ow uu te ma va wa : Nat → Int32) (th kd bs us sth mk : Nat → Int32) (M sM : Nat → Nat → Int32) (hR : RI th kd bs us sth mk M sM ki ba ow uu te ma va) (i0 : Nat) (hi0 : i0 < 64) (ht0 : th i0 ≠ 0) (s0 : Nat) (hs0 : s0 < 64) (sz : Nat) : bMI l y_M_comes (wY y_M_comes b_M_comes 4 (some .boolean)) (rm9 2 0 0) D (tsK k) (mdW k b cd ki ba ow uu te ma va wa) sz [.ref (b 0), .int (nI i0), .int (nI s0)] (fun v w => v = (if ocF th bs (nI s0) 64 (nI i0) = true then nI 1 else nI 0) ∧ w = mdW k b cd ki ba ow uu te ma va wa) 0 0 := by
  refine ent_i (cc := b_M_comes) (maxL := 4) (ty := .boolean) (by decide) (Nat.le_of_ble_eq_true rfl) (fun v w h => nr_if h.1) ?_
  intro p e s m args below meth c A Q ls hx hb hml hown hts hsz hA hP hD hS hK hl hret
  refine lv_iload_n hx hb d_M_comes_0 rfl (lv_at hl 1 rfl) ?_
  refine lv_istore_n (lv' := [(3, .int (nI i0)), (0, .ref (b 0)), (1, .int (nI i0)), (2, .int (nI s0))]) hx hb d_M_comes_1 rfl hl (by decide) rfl (fun ls hl => ?_)
  have lp : ∀ (n9 : Nat) (n : Nat) (y : Int32) (i : Nat) (ls : Array Slot), n < n9 → (i + n ≤ 64) → (eN th bs n y) → (ocF th bs (nI s0) 64 (nI i0) = ocF th bs (nI s0) (64 - i) y) → lv_has ls 4 [(0, .ref (b 0)), (1, .int (nI i0)), (2, .int (nI s0)), (3, .int y)] → W p l e (rm9 2 0 0) s m args below meth c s.heap [] 0 0 Q (F0 m 2 ls []) := by
    intro n9
    induction n9 with
    | zero => intro n y i ls hm; omega
    | succ n9 ih =>
      intro n y i ls hm hn he hf hl
      refine lv_iload_n hx hb d_M_comes_2 rfl (lv_at hl 3 rfl) ?_
      refine lv_if_lt (tgt := 21) hx hb d_M_comes_3 (by decide) (fun c3 => ?_) (fun c3 => ?_)
      · skip
        obtain rfl := eN_m he c3
        refine lv_iload_n hx hb d_M_comes_21 rfl (lv_at hl 3 rfl) ?_
        refine lv_iload_n hx hb d_M_comes_22 rfl (lv_at hl 2 rfl) ?_
        refine lv_icmp_ne (tgt := 30) hx hb d_M_comes_23 (by decide) (fun c23 => ?_) (fun c23 => ?_)
        · skip
          refine lv_iconst (v := nI 0) hx hb d_M_comes_30 (by decide) ?_
          exact hret _ _ _ _ _ _ _ _ d_M_comes_31 ⟨if_f (by rw [hf, ocF_off hs_m1]), rfl⟩ hP hD hS (by decide) (by decide)
        · skip
          refine lv_iconst (v := nI 1) hx hb d_M_comes_26 (by decide) ?_
          refine lv_goto (tgt := 31) hx hb d_M_comes_27 (by decide) ?_
          exact absurd c23.symm (ne_m1 (by omega))
      · skip
        obtain ⟨n, rfl, j, hj, rfl, hjt, he⟩ := eN_go he c3
        refine lv_iload_n hx hb d_M_comes_6 rfl (lv_at hl 3 rfl) ?_
        refine lv_iload_n hx hb d_M_comes_7 rfl (lv_at hl 2 rfl) ?_
        refine lv_icmp_eq (tgt := 21) hx hb d_M_comes_8 (by decide) (fun c8 => ?_) (fun c8 => ?_)
        · skip
          rw [nI_eq (by omega) (by omega)] at c8
          refine lv_iload_n hx hb d_M_comes_21 rfl (lv_at hl 3 rfl) ?_
          refine lv_iload_n hx hb d_M_comes_22 rfl (lv_at hl 2 rfl) ?_
          refine lv_icmp_ne (tgt := 30) hx hb d_M_comes_23 (by decide) (fun c23 => ?_) (fun c23 => ?_)
          · skip
            rw [nI_eq (by omega) (by omega)] at c23
            refine lv_iconst (v := nI 0) hx hb d_M_comes_30 (by decide) ?_
            exact absurd c8 c23
          · skip
            rw [nI_eq (by omega) (by omega)] at c23
            refine lv_iconst (v := nI 1) hx hb d_M_comes_26 (by decide) ?_
            refine lv_goto (tgt := 31) hx hb d_M_comes_27 (by decide) ?_
            exact hret _ _ _ _ _ _ _ _ d_M_comes_31 ⟨if_t (by rw [hf]; exact ocF_hit (by omega) (hsB_on hj (by decide) hjt) (by rw [c8])), rfl⟩ hP hD hS (by decide) (by decide)
        · skip
          rw [nI_eq (by omega) (by omega)] at c8
          refine lv_aload_n hx hb d_M_comes_11 rfl (lv_at hl 0 rfl) ?_
          refine va_get (D := D) (ci := ciMo) (v := .ref (b 2)) (C := RM) (T := TM) (N := 9) hx hb hts inM hown hK.1 hP 0 rfl rfl 2 (by decide) (hts _ wd_401) (fun _ h9 => h9) rfl d_M_comes_12 ?_
          refine lv_iload_n hx hb d_M_comes_15 rfl (lv_at hl 3 rfl) ?_
          refine rw_iald hx hb hK.1 hP 2 0 rfl rfl (j := j) (by omega) (by decide) d_M_comes_16 ?_
          rw [hR.2.1.2.2.1 j hj hjt]
          refine lv_istore_n (lv' := [(3, .int (bs j)), (0, .ref (b 0)), (1, .int (nI i0)), (2, .int (nI s0))]) hx hb d_M_comes_17 rfl hl (by decide) rfl (fun ls hl => ?_)
          refine lv_goto (tgt := 2) hx hb d_M_comes_18 (by decide) ?_
          exact ih (n) (bs j) (i + 1) ls (by omega) (by omega) he (by rw [hf]; exact ocF_go (by omega) hj (hsB_on hj (by decide) hjt) (fun q => c8 ((nI_eq (by omega) (by omega)).mp q))) (lv_sub hl [1, 2, 3, 0] rfl)
  exact lp _ (64) (nI i0) (0) ls (Nat.lt_succ_self _) (by decide) (eN_64 hR.1.1 hi0 ht0) rfl (lv_sub hl [1, 2, 3, 0] rfl)

set_option maxRecDepth 100000 in
set_option maxHeartbeats 4000000 in
theorem c_Mfirst (l : Launch) (D : va_G) (k : Nat → ClassId) (b : Nat → Nat) (cd : Int32) (ki ba ow uu te ma va wa : Nat → Int32) (th kd bs us sth mk : Nat → Int32) (M sM : Nat → Nat → Int32) (hR : RI th kd bs us sth mk M sM ki ba ow uu te ma va) (i0 : Nat) (hi0 : i0 < 64) (ht0 : th i0 ≠ 0) (p9 : Nat) (hp9 : p9 < 24) (sz : Nat) : bMI l y_M_first (wY y_M_first b_M_first 4 (some .int)) (rm9 2 0 0) D (tsK k) (mdW k b cd ki ba ow uu te ma va wa) sz [.ref (b 0), .int (nI i0), .int (nI p9)] (fun v w => v = gvF th bs M p9 64 (nI i0) ∧ w = mdW k b cd ki ba ow uu te ma va wa) 0 0 := by
  refine ent_i (cc := b_M_first) (maxL := 4) (ty := .int) (by decide) (Nat.le_of_ble_eq_true rfl) (fun _ _ _ => rfl) ?_
  intro p e s m args below meth c A Q ls hx hb hml hown hts hsz hA hP hD hS hK hl hret
  refine lv_iload_n hx hb d_M_first_0 rfl (lv_at hl 1 rfl) ?_
  refine lv_istore_n (lv' := [(3, .int (nI i0)), (0, .ref (b 0)), (1, .int (nI i0)), (2, .int (nI p9))]) hx hb d_M_first_1 rfl hl (by decide) rfl (fun ls hl => ?_)
  have lp : ∀ (n9 : Nat) (n : Nat) (y : Int32) (i : Nat) (ls : Array Slot), n < n9 → (i + n ≤ 64) → (eN th bs n y) → (gvF th bs M p9 64 (nI i0) = gvF th bs M p9 (64 - i) y) → lv_has ls 4 [(0, .ref (b 0)), (1, .int (nI i0)), (2, .int (nI p9)), (3, .int y)] → W p l e (rm9 2 0 0) s m args below meth c s.heap [] 0 0 Q (F0 m 2 ls []) := by
    intro n9
    induction n9 with
    | zero => intro n y i ls hm; omega
    | succ n9 ih =>
      intro n y i ls hm hn he hf hl
      refine lv_iload_n hx hb d_M_first_2 rfl (lv_at hl 3 rfl) ?_
      refine lv_if_lt (tgt := 30) hx hb d_M_first_3 (by decide) (fun c3 => ?_) (fun c3 => ?_)
      · skip
        obtain rfl := eN_m he c3
        refine lv_iload_n hx hb d_M_first_30 rfl (lv_at hl 3 rfl) ?_
        exact hret _ _ _ _ _ _ _ _ d_M_first_31 ⟨by rw [hf, gvF_off hs_m1], rfl⟩ hP hD hS (by decide) (by decide)
      · skip
        obtain ⟨n, rfl, j, hj, rfl, hjt, he⟩ := eN_go he c3
        refine lv_aload_n hx hb d_M_first_6 rfl (lv_at hl 0 rfl) ?_
        refine va_get (D := D) (ci := ciMo) (v := .ref (b 3)) (C := RM) (T := TM) (N := 9) hx hb hts inM hown hK.1 hP 0 rfl rfl 3 (by decide) (hts _ wd_402) (fun _ h9 => h9) rfl d_M_first_7 ?_
        refine lv_bipush (v := nI 24) hx hb d_M_first_10 (by decide) ?_
        refine lv_iload_n hx hb d_M_first_12 rfl (lv_at hl 3 rfl) ?_
        refine lv_imul hx hb d_M_first_13 ?_
        rw [pk_mul]
        refine lv_iload_n hx hb d_M_first_14 rfl (lv_at hl 2 rfl) ?_
        refine lv_iadd hx hb d_M_first_15 ?_
        rw [nI_add]
        refine rw_iald hx hb hK.1 hP 3 0 rfl rfl (j := ((24 * j) + p9)) (by omega) (by decide) d_M_first_16 ?_
        rw [hR.2.1.2.2.2 j p9 hj hp9 hjt]
        refine lv_if_ge (tgt := 30) hx hb d_M_first_17 (by decide) (fun c17 => ?_) (fun c17 => ?_)
        · skip
          refine lv_iload_n hx hb d_M_first_30 rfl (lv_at hl 3 rfl) ?_
          exact hret _ _ _ _ _ _ _ _ d_M_first_31 ⟨by rw [hf, gvF_hit (by omega) hj (hsB_on hj (by decide) hjt) (fun q => by rw [q] at c17; exact absurd c17 (by decide))], rfl⟩ hP hD hS (by decide) (by decide)
        · skip
          refine lv_aload_n hx hb d_M_first_20 rfl (lv_at hl 0 rfl) ?_
          refine va_get (D := D) (ci := ciMo) (v := .ref (b 2)) (C := RM) (T := TM) (N := 9) hx hb hts inM hown hK.1 hP 0 rfl rfl 2 (by decide) (hts _ wd_401) (fun _ h9 => h9) rfl d_M_first_21 ?_
          refine lv_iload_n hx hb d_M_first_24 rfl (lv_at hl 3 rfl) ?_
          refine rw_iald hx hb hK.1 hP 2 0 rfl rfl (j := j) (by omega) (by decide) d_M_first_25 ?_
          rw [hR.2.1.2.2.1 j hj hjt]
          refine lv_istore_n (lv' := [(3, .int (bs j)), (0, .ref (b 0)), (1, .int (nI i0)), (2, .int (nI p9))]) hx hb d_M_first_26 rfl hl (by decide) rfl (fun ls hl => ?_)
          refine lv_goto (tgt := 2) hx hb d_M_first_27 (by decide) ?_
          exact ih (n) (bs j) (i + 1) ls (by omega) (by omega) he (by rw [hf]; refine gvF_go (by omega) hj (hsB_on hj (by decide) hjt) ?_; rcases hR.1.1.1 j p9 hj hp9 with q | q; exact q; exact absurd (Int32.not_lt.mp q) c17) (lv_sub hl [1, 2, 3, 0] rfl)
  exact lp _ (64) (nI i0) (0) ls (Nat.lt_succ_self _) (by decide) (eN_64 hR.1.1 hi0 ht0) rfl (lv_sub hl [1, 2, 3, 0] rfl)

set_option maxRecDepth 100000 in
set_option maxHeartbeats 4000000 in
theorem c_Mchain (l : Launch) (D : va_G) (k : Nat → ClassId) (b : Nat → Nat) (cd : Int32) (ki ba ow uu te ma va wa : Nat → Int32) (th kd bs us sth mk : Nat → Int32) (M sM : Nat → Nat → Int32) (hR : RI th kd bs us sth mk M sM ki ba ow uu te ma va) (i0 : Nat) (hi0 : i0 < 64) (ht0 : th i0 ≠ 0) (sz : Nat) : bMI l y_M_chain (wY y_M_chain b_M_chain 4 (some .int)) (rm9 2 0 0) D (tsK k) (mdW k b cd ki ba ow uu te ma va wa) sz [.ref (b 0), .int (nI i0)] (fun v w => v = nI (chF th bs 64 (nI i0)) ∧ w = mdW k b cd ki ba ow uu te ma va wa) 0 0 := by
  refine ent_i (cc := b_M_chain) (maxL := 4) (ty := .int) (by decide) (Nat.le_of_ble_eq_true rfl) (fun _ _ _ => rfl) ?_
  intro p e s m args below meth c A Q ls hx hb hml hown hts hsz hA hP hD hS hK hl hret
  refine lv_iconst (v := nI 0) hx hb d_M_chain_0 (by decide) ?_
  refine lv_istore_n (lv' := [(2, .int (nI 0)), (0, .ref (b 0)), (1, .int (nI i0))]) hx hb d_M_chain_1 rfl hl (by decide) rfl (fun ls hl => ?_)
  refine lv_iload_n hx hb d_M_chain_2 rfl (lv_at hl 2 rfl) ?_
  refine lv_istore_n (lv' := [(3, .int (nI i0)), (2, .int (nI 0)), (0, .ref (b 0)), (1, .int (nI i0))]) hx hb d_M_chain_3 rfl hl (by decide) rfl (fun ls hl => ?_)
  have lp : ∀ (n9 : Nat) (n : Nat) (y : Int32) (i : Nat) (ls : Array Slot), n < n9 → (i + n ≤ 64) → (eN th bs n y) → (chF th bs 64 (nI i0) = i + chF th bs (64 - i) y) → lv_has ls 4 [(0, .ref (b 0)), (1, .int (nI i0)), (2, .int (nI i)), (3, .int y)] → W p l e (rm9 2 0 0) s m args below meth c s.heap [] 0 0 Q (F0 m 4 ls []) := by
    intro n9
    induction n9 with
    | zero => intro n y i ls hm; omega
    | succ n9 ih =>
      intro n y i ls hm hn he hf hl
      refine lv_iload_n hx hb d_M_chain_4 rfl (lv_at hl 3 rfl) ?_
      refine lv_if_lt (tgt := 21) hx hb d_M_chain_5 (by decide) (fun c5 => ?_) (fun c5 => ?_)
      · skip
        obtain rfl := eN_m he c5
        refine lv_iload_n hx hb d_M_chain_21 rfl (lv_at hl 2 rfl) ?_
        exact hret _ _ _ _ _ _ _ _ d_M_chain_22 ⟨by rw [hf, chF_off hs_m1, Nat.add_zero], rfl⟩ hP hD hS (by decide) (by decide)
      · skip
        obtain ⟨n, rfl, j, hj, rfl, hjt, he⟩ := eN_go he c5
        refine lv_iinc (v := nI (i + 1)) (lv' := [(2, .int (nI (i + 1))), (0, .ref (b 0)), (1, .int (nI i0)), (3, .int (nI j))]) hx hb d_M_chain_8 hl (k := 2) rfl (ii_1 _) (by decide) rfl (fun ls hl => ?_)
        refine lv_aload_n hx hb d_M_chain_11 rfl (lv_at hl 1 rfl) ?_
        refine va_get (D := D) (ci := ciMo) (v := .ref (b 2)) (C := RM) (T := TM) (N := 9) hx hb hts inM hown hK.1 hP 0 rfl rfl 2 (by decide) (hts _ wd_401) (fun _ h9 => h9) rfl d_M_chain_12 ?_
        refine lv_iload_n hx hb d_M_chain_15 rfl (lv_at hl 3 rfl) ?_
        refine rw_iald hx hb hK.1 hP 2 0 rfl rfl (j := j) (by omega) (by decide) d_M_chain_16 ?_
        rw [hR.2.1.2.2.1 j hj hjt]
        refine lv_istore_n (lv' := [(3, .int (bs j)), (2, .int (nI (i + 1))), (0, .ref (b 0)), (1, .int (nI i0))]) hx hb d_M_chain_17 rfl hl (by decide) rfl (fun ls hl => ?_)
        refine lv_goto (tgt := 4) hx hb d_M_chain_18 (by decide) ?_
        exact ih (n) (bs j) (i + 1) ls (by omega) (by omega) he (by rw [hf, chF_go (by omega) hj (hsB_on hj (by decide) hjt)]; omega) (lv_sub hl [2, 3, 1, 0] rfl)
  exact lp _ (64) (nI i0) (0) ls (Nat.lt_succ_self _) (by decide) (eN_64 hR.1.1 hi0 ht0) (Nat.zero_add _).symm (lv_sub hl [2, 3, 1, 0] rfl)
