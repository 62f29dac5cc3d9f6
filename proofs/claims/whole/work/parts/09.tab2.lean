/-! rows filled, rows taken out -/
theorem ce_eq {c : ClassId} {n : Nat} {f g : Nat → Int32} (h : ∀ p, p < n → f p = g p) : vp_cell c (n, .inl f) = vp_cell c (n, .inl g) := by
  rw [vp_cell_i, vp_cell_i]
  unfold arrV
  congr 1
  apply congrArg
  funext j
  show Value.int (f j.val) = Value.int (g j.val)
  rw [h j.val j.isLt]
theorem bs_cell {D : va_G} {cl : List vw_C} {H : Heap} {w1 w2 : va_W} {x n : Nat} {c : ClassId} {f g : Nat → Int32} (h : ∀ p, p < n → f p = g p) (hP : va_P D cl (w1 ++ (x, .inl (c, n, .inl f)) :: w2) H) : va_P D cl (w1 ++ (x, .inl (c, n, .inl g)) :: w2) H := by
  refine bs_of fun q hq => ?_
  rcases List.mem_append.mp hq with hq | hq
  · exact bs_at hP (List.mem_append_left _ hq)
  · rcases List.mem_cons.mp hq with rfl | hq
    · have h1 := bs_at hP (q := (x, .inl (c, n, .inl f))) (List.mem_append_right _ List.mem_cons_self)
      show H[x]? = some (vp_cell c (n, .inl g))
      rw [← ce_eq h]
      exact h1
    · exact bs_at hP (List.mem_append_right _ (List.mem_cons_of_mem _ hq))
theorem bs_adr {A : Nat → Prop} {w w' : va_W} (hD : va_D A w) (h : w.map (fun q => q.1) = w'.map (fun q => q.1)) : va_D A w' := by
  refine ⟨(bs_nd w').mpr (h ▸ (bs_nd w).mp hD.1), fun k q hk => ?_⟩
  have hm : q.1 ∈ w'.map (fun q => q.1) := List.mem_map.mpr ⟨q, List.mem_of_getElem? hk, rfl⟩
  rw [← h] at hm
  obtain ⟨q', hq', e⟩ := List.mem_map.mp hm
  rw [← e]
  exact bs_in hD hq'
def flF (f : Nat → Int32) (v : Int32) (i : Nat) : Nat → Int32 := fun p => if p < i then v else f p
theorem flF_0 (f : Nat → Int32) (v : Int32) : flF f v 0 = f := by funext p; simp [flF]
theorem flF_s (f : Nat → Int32) (v : Int32) (i : Nat) : upd (flF f v i) i v = flF f v (i + 1) := by
  funext p
  by_cases h : p = i
  · simp [upd, flF, h]
  · by_cases h2 : p < i
    · simp [upd, flF, h, h2, Nat.lt_succ_of_lt h2]
    · simp [upd, flF, h, h2, show ¬ p < i + 1 by omega]
theorem b_of0 {b : Bool} (h : (if b = true then nI 1 else nI 0) = 0) : b = false := by
  cases b
  · rfl
  · exact absurd h (by decide)
theorem b_of1 {b : Bool} (h : ¬ (if b = true then nI 1 else nI 0) = 0) : b = true := by
  cases b
  · exact absurd (by decide) h
  · rfl
theorem tb_out {k : Nat → ClassId} {t a g : Nat} {r : Nat → Nat} {n : Nat} {th : Nat → Int32} (M : Nat → Nat → Int32) {j : Nat} (h : j < n) : ∃ wr : va_W, ∀ f : Nat → Int32, (tbW k t a g r n th (va_up M j f)).Perm ([(r j, .inl (k 0, 24, .inl f))] ++ wr) := by
  obtain ⟨w, hw⟩ := gRows_out (c := k 0) (r := r) M h
  refine ⟨tbF k t a g r n th ++ w, fun f => ?_⟩
  exact (List.Perm.append_left (tbF k t a g r n th) (hw f)).trans List.perm_middle
/-- a table, and a row beside it -/
def nbW (k : Nat → ClassId) (t a g y : Nat) (r : Nat → Nat) (n : Nat) (th dr : Nat → Int32) (M : Nat → Nat → Int32) : va_W := (tbF k t a g r n th ++ [(y, .inl (k 0, 24, .inl dr))]) ++ gRows (k 0) r n M
theorem nb_out {k : Nat → ClassId} {t a g y : Nat} {r : Nat → Nat} {n : Nat} {th dr : Nat → Int32} (M : Nat → Nat → Int32) {j : Nat} (h : j < n) : ∃ wr : va_W, (nbW k t a g y r n th dr M).Perm ([(r j, .inl (k 0, 24, .inl (M j))), (y, .inl (k 0, 24, .inl dr))] ++ wr) := by
  obtain ⟨w, hw⟩ := gRows_out (c := k 0) (r := r) M h
  have h1 := hw (M j)
  rw [gr_same] at h1
  refine ⟨tbF k t a g r n th ++ w, ?_⟩
  refine (List.Perm.append_left (tbF k t a g r n th ++ [(y, .inl (k 0, 24, .inl dr))]) h1).trans ?_
  refine List.perm_middle.trans (List.Perm.cons _ ?_)
  rw [List.append_assoc]
  exact List.perm_middle

set_option maxRecDepth 100000 in
set_option maxHeartbeats 4000000 in
theorem c_fill (l : Launch) (D : va_G) (k : Nat → ClassId) (x m9 : Nat) (hm9 : m9 < 2 ^ 31) (f : Nat → Int32) (v : Int32) (sz : Nat) : bMV l y_J_fill (wY y_J_fill b_J_fill 4 none) (rm9 1 0 0) D (tsK k) ([(x, .inl (k 0, m9, .inl f))]) sz [.ref x, .int v] (fun w => w = [(x, .inl (k 0, m9, .inl (fun _ => v)))]) 0 0 := by
  refine ent_v (cc := b_J_fill) (maxL := 4) (by decide) (Nat.le_of_ble_eq_true rfl) ?_
  intro p e s m args below meth c A Q ls hx hb hml hown hts hsz hA hP hD hS hK hl hnm hret
  rw [← flF_0 f v] at hP hD
  refine lv_iconst (v := nI 0) hx hb d_J_fill_0 (by decide) ?_
  refine lv_istore_n (lv' := [(2, .int (nI 0)), (0, .ref x), (1, .int v)]) hx hb d_J_fill_1 rfl hl (by decide) rfl (fun ls hl => ?_)
  refine lv_aload_n hx hb d_J_fill_2 rfl (lv_at hl 1 rfl) ?_
  refine va_alen (v := nI m9) hx hb hK.1 hP 0 0 rfl rfl rfl d_J_fill_3 ?_
  refine lv_istore_n (lv' := [(3, .int (nI m9)), (2, .int (nI 0)), (0, .ref x), (1, .int v)]) hx hb d_J_fill_4 rfl hl (by decide) rfl (fun ls hl => ?_)
  have lp : ∀ (n9 : Nat) (i : Nat) (ls : Array Slot) (H : Heap) (locs : List Loc), m9 - i < n9 → (i ≤ m9) → va_P D vwCl ([(x, .inl (k 0, m9, .inl (flF f v i)))]) H → va_D A ([(x, .inl (k 0, m9, .inl (flF f v i)))]) → va_S A s.heap H locs → lv_has ls 4 [(0, .ref x), (1, .int v), (2, .int (nI i)), (3, .int (nI m9))] → W p l e (rm9 1 0 0) s m args below meth c H locs 0 0 Q (F0 m 5 ls []) := by
    intro n9
    induction n9 with
    | zero => intro i ls H locs hm; omega
    | succ n9 ih =>
      intro i ls H locs hm hi hP hD hS hl
      refine lv_iload_n hx hb d_J_fill_5 rfl (lv_at hl 2 rfl) ?_
      refine lv_iload_n hx hb d_J_fill_6 rfl (lv_at hl 3 rfl) ?_
      refine lv_icmp_ge (tgt := 20) hx hb d_J_fill_7 (by decide) (fun c7 => ?_) (fun c7 => ?_)
      · skip
        rw [nI_leI (by omega) (by omega)] at c7
        have hP := bs_cell (w1 := []) (w2 := []) (g := fun _ => v) (fun p hp => by simp only [flF]; rw [if_pos (by omega)]) hP
        have hD := bs_adr (w' := [(x, .inl (k 0, m9, .inl (fun _ => v)))]) hD rfl
        exact hret _ _ _ _ _ _ _ d_J_fill_20 rfl hP hD hS (by decide) (by decide)
      · skip
        rw [nI_leI (by omega) (by omega)] at c7
        refine lv_aload_n hx hb d_J_fill_10 rfl (lv_at hl 0 rfl) ?_
        refine lv_iload_n hx hb d_J_fill_11 rfl (lv_at hl 2 rfl) ?_
        refine lv_iload_n hx hb d_J_fill_12 rfl (lv_at hl 1 rfl) ?_
        refine rw_iast hx hb hK.1 hP hD hS 0 0 rfl rfl (j := i) (by omega) (by omega) d_J_fill_13 (wn := [(x, .inl (k 0, m9, .inl (flF f v (i + 1))))]) (by rw [flF_s]; rfl) (fun H locs hP hD hS => ?_)
        refine lv_iinc (v := nI (i + 1)) (lv' := [(2, .int (nI (i + 1))), (0, .ref x), (1, .int v), (3, .int (nI m9))]) hx hb d_J_fill_14 hl (k := 2) rfl (ii_1 _) (by decide) rfl (fun ls hl => ?_)
        refine lv_goto (tgt := 5) hx hb d_J_fill_17 (by decide) ?_
        exact ih (i + 1) ls H locs (by omega) (by omega) hP hD hS (lv_sub hl [1, 2, 0, 3] rfl)
  exact lp _ (0) ls s.heap [] (Nat.lt_succ_self _) (Nat.zero_le _) hP hD hS (lv_sub hl [2, 3, 1, 0] rfl)

set_option maxRecDepth 100000 in
set_option maxHeartbeats 4000000 in
theorem c_isAlike (l : Launch) (D : va_G) (k : Nat → ClassId) (x y : Nat) (f f2 : Nat → Int32) (sz : Nat) : bMI l y_T_isAlike (wY y_T_isAlike b_T_isAlike 3 (some .boolean)) (rm9 1 0 0) D (tsK k) ([(x, .inl (k 0, 24, .inl f)), (y, .inl (k 0, 24, .inl f2))]) sz [.ref x, .ref y] (fun v w => v = (if eqF f f2 24 = true then nI 1 else nI 0) ∧ w = [(x, .inl (k 0, 24, .inl f)), (y, .inl (k 0, 24, .inl f2))]) 0 0 := by
  refine ent_i (cc := b_T_isAlike) (maxL := 3) (ty := .boolean) (by decide) (Nat.le_of_ble_eq_true rfl) (fun v w h => nr_if h.1) ?_
  intro p e s m args below meth c A Q ls hx hb hml hown hts hsz hA hP hD hS hK hl hret
  refine lv_iconst (v := nI 0) hx hb d_T_isAlike_0 (by decide) ?_
  refine lv_istore_n (lv' := [(2, .int (nI 0)), (0, .ref x), (1, .ref y)]) hx hb d_T_isAlike_1 rfl hl (by decide) rfl (fun ls hl => ?_)
  have lp : ∀ (n9 : Nat) (i : Nat) (ls : Array Slot), 24 - i < n9 → (i ≤ 24) → (eqF f f2 i = true) → lv_has ls 3 [(0, .ref x), (1, .ref y), (2, .int (nI i))] → W p l e (rm9 1 0 0) s m args below meth c s.heap [] 0 0 Q (F0 m 2 ls []) := by
    intro n9
    induction n9 with
    | zero => intro i ls hm; omega
    | succ n9 ih =>
      intro i ls hm hi he hl
      refine lv_iload_n hx hb d_T_isAlike_2 rfl (lv_at hl 2 rfl) ?_
      refine lv_bipush (v := nI 24) hx hb d_T_isAlike_3 (by decide) ?_
      refine lv_icmp_ge (tgt := 25) hx hb d_T_isAlike_5 (by decide) (fun c5 => ?_) (fun c5 => ?_)
      · skip
        rw [nI_leI (by omega) (by omega)] at c5
        refine lv_iconst (v := nI 1) hx hb d_T_isAlike_25 (by decide) ?_
        exact hret _ _ _ _ _ _ _ _ d_T_isAlike_26 ⟨if_t (by rw [show (24 : Nat) = i by omega]; exact he), rfl⟩ hP hD hS (by decide) (by decide)
      · skip
        rw [nI_leI (by omega) (by omega)] at c5
        refine lv_aload_n hx hb d_T_isAlike_8 rfl (lv_at hl 0 rfl) ?_
        refine lv_iload_n hx hb d_T_isAlike_9 rfl (lv_at hl 2 rfl) ?_
        refine rw_iald hx hb hK.1 hP 0 0 rfl rfl (j := i) (by omega) (by decide) d_T_isAlike_10 ?_
        refine lv_aload_n hx hb d_T_isAlike_11 rfl (lv_at hl 1 rfl) ?_
        refine lv_iload_n hx hb d_T_isAlike_12 rfl (lv_at hl 2 rfl) ?_
        refine rw_iald hx hb hK.1 hP 1 0 rfl rfl (j := i) (by omega) (by decide) d_T_isAlike_13 ?_
        refine lv_icmp_eq (tgt := 19) hx hb d_T_isAlike_14 (by decide) (fun c14 => ?_) (fun c14 => ?_)
        · skip
          refine lv_iinc (v := nI (i + 1)) (lv' := [(2, .int (nI (i + 1))), (0, .ref x), (1, .ref y)]) hx hb d_T_isAlike_19 hl (k := 2) rfl (ii_1 _) (by decide) rfl (fun ls hl => ?_)
          refine lv_goto (tgt := 2) hx hb d_T_isAlike_22 (by decide) ?_
          exact ih (i + 1) ls (by omega) (by omega) (eqF_s he c14) (lv_sub hl [1, 2, 0] rfl)
        · skip
          refine lv_iconst (v := nI 0) hx hb d_T_isAlike_17 (by decide) ?_
          exact hret _ _ _ _ _ _ _ _ d_T_isAlike_18 ⟨if_f (eqF_ne (i := i) (by omega) c14), rfl⟩ hP hD hS (by decide) (by decide)
  exact lp _ (0) ls (Nat.lt_succ_self _) (Nat.zero_le _) rfl (lv_sub hl [1, 2, 0] rfl)

set_option maxRecDepth 100000 in
set_option maxHeartbeats 4000000 in
theorem c_numberOf (l : Launch) (D : va_G) (k : Nat → ClassId) (t a g : Nat) (r : Nat → Nat) (n : Nat) (hn : n ≤ 256) (th : Nat → Int32) (M : Nat → Nat → Int32) (y : Nat) (dr : Nat → Int32) (sz : Nat) : bMI l y_T_numberOf (wY y_T_numberOf b_T_numberOf 3 (some .int)) (rm9 2 0 0) D (tsK k) (nbW k t a g y r n th dr M) sz [.ref t, .ref y] (fun v w => v = fdF (fun i => decide (th i ≠ 0) && eqF (M i) dr 24) n 0 ∧ w = nbW k t a g y r n th dr M) 0 0 := by
  refine ent_i (cc := b_T_numberOf) (maxL := 3) (ty := .int) (by decide) (Nat.le_of_ble_eq_true rfl) (fun _ _ _ => rfl) ?_
  intro p e s m args below meth c A Q ls hx hb hml hown hts hsz hA hP hD hS hK hl hret
  refine lv_iconst (v := nI 0) hx hb d_T_numberOf_0 (by decide) ?_
  refine lv_istore_n (lv' := [(2, .int (nI 0)), (0, .ref t), (1, .ref y)]) hx hb d_T_numberOf_1 rfl hl (by decide) rfl (fun ls hl => ?_)
  have lp : ∀ (n9 : Nat) (i : Nat) (ls : Array Slot) (H : Heap) (locs : List Loc), n - i < n9 → (i ≤ n) → (fdF (fun i => decide (th i ≠ 0) && eqF (M i) dr 24) n 0 = fdF (fun i => decide (th i ≠ 0) && eqF (M i) dr 24) (n - i) i) → va_P D vwCl (nbW k t a g y r n th dr M) H → va_D A (nbW k t a g y r n th dr M) → va_S A s.heap H locs → lv_has ls 3 [(0, .ref t), (1, .ref y), (2, .int (nI i))] → W p l e (rm9 2 0 0) s m args below meth c H locs 0 0 Q (F0 m 2 ls []) := by
    intro n9
    induction n9 with
    | zero => intro i ls H locs hm; omega
    | succ n9 ih =>
      intro i ls H locs hm hi hf hP hD hS hl
      refine lv_iload_n hx hb d_T_numberOf_2 rfl (lv_at hl 2 rfl) ?_
      refine lv_aload_n hx hb d_T_numberOf_3 rfl (lv_at hl 0 rfl) ?_
      refine va_get (D := D) (ci := ciTb) (v := .ref a) (C := RT) (T := TT) (N := 2) hx hb hts inT hown hK.1 hP 0 rfl rfl 0 (by decide) (hts _ wd_32) (fun _ h9 => h9) rfl d_T_numberOf_4 ?_
      refine va_alen (v := nI n) hx hb hK.1 hP 1 1 rfl rfl rfl d_T_numberOf_7 ?_
      refine lv_icmp_ge (tgt := 41) hx hb d_T_numberOf_8 (by decide) (fun c8 => ?_) (fun c8 => ?_)
      · skip
        rw [nI_leI (by omega) (by omega)] at c8
        refine lv_iconst (v := -1) hx hb d_T_numberOf_41 (by decide) ?_
        exact hret _ _ _ _ _ _ _ _ d_T_numberOf_42 ⟨by rw [hf, fdF_end (by omega)], rfl⟩ hP hD hS (by decide) (by decide)
      · skip
        rw [nI_leI (by omega) (by omega)] at c8
        refine lv_aload_n hx hb d_T_numberOf_11 rfl (lv_at hl 0 rfl) ?_
        refine va_get (D := D) (ci := ciTb) (v := .ref a) (C := RT) (T := TT) (N := 2) hx hb hts inT hown hK.1 hP 0 rfl rfl 0 (by decide) (hts _ wd_32) (fun _ h9 => h9) rfl d_T_numberOf_12 ?_
        refine lv_iload_n hx hb d_T_numberOf_15 rfl (lv_at hl 2 rfl) ?_
        refine rw_zald hx hb hK.1 hP 1 1 rfl rfl (j := i) (by omega) (by omega) d_T_numberOf_16 ?_
        refine lv_if_eq (tgt := 35) hx hb d_T_numberOf_17 (by decide) (fun c17 => ?_) (fun c17 => ?_)
        · skip
          refine lv_iinc (v := nI (i + 1)) (lv' := [(2, .int (nI (i + 1))), (0, .ref t), (1, .ref y)]) hx hb d_T_numberOf_35 hl (k := 2) rfl (ii_1 _) (by decide) rfl (fun ls hl => ?_)
          refine lv_goto (tgt := 2) hx hb d_T_numberOf_38 (by decide) ?_
          exact ih (i + 1) ls H locs (by omega) (by omega) (by rw [hf]; exact fdF_miss (by omega) (by simp [c17])) hP hD hS (lv_sub hl [1, 2, 0] rfl)
        · skip
          refine lv_aload_n hx hb d_T_numberOf_20 rfl (lv_at hl 0 rfl) ?_
          refine va_get (D := D) (ci := ciTb) (v := .ref g) (C := RT) (T := TT) (N := 2) hx hb hts inT hown hK.1 hP 0 rfl rfl 1 (by decide) (hts _ wd_33) (fun _ h9 => h9) rfl d_T_numberOf_21 ?_
          refine lv_iload_n hx hb d_T_numberOf_24 rfl (lv_at hl 2 rfl) ?_
          refine rw_aald hx hb hK.1 hP 2 2 rfl rfl (j := i) (y := r i) (by omega) (by omega) (gOut_at (by omega)) d_T_numberOf_25 ?_
          refine lv_aload_n hx hb d_T_numberOf_26 rfl (lv_at hl 1 rfl) ?_
          obtain ⟨wr, hpm⟩ := nb_out (k := k) (t := t) (a := a) (g := g) (y := y) (r := r) (n := n) (th := th) (dr := dr) M (j := i) (by omega)
          refine cal_i (wc := [(r i, .inl (k 0, 24, .inl (M i))), (y, .inl (k 0, 24, .inl dr))]) (wr := wr) (va_runS (As := [.ref (r i), .ref y]) (rest := []) ⟨hx, hb, hml, hown, hts⟩ (c_isAlike l D k (r i) y (M i) dr H.size) (cwS9 2 hts wd_338 wd_336 wd_337 wd_2 (by decide) ⟨by decide, by decide⟩) (prS hK hP hD hpm) rfl rfl hl.1 rfl (lv_room (Nat.le_of_ble_eq_true rfl)) d_T_numberOf_27 ⟨by decide, by decide⟩) hpm hP hD hS hA (fun r w1 H locs hw hpd hS => ?_)
          obtain ⟨rfl, rfl⟩ := hw
          obtain ⟨hP, hD⟩ := hpd (nbW k t a g y r n th dr M) hpm.symm
          refine lv_if_eq (tgt := 35) hx hb d_T_numberOf_30 (by decide) (fun c30 => ?_) (fun c30 => ?_)
          · skip
            have c30 := b_of0 c30
            refine lv_iinc (v := nI (i + 1)) (lv' := [(2, .int (nI (i + 1))), (0, .ref t), (1, .ref y)]) hx hb d_T_numberOf_35 hl (k := 2) rfl (ii_1 _) (by decide) rfl (fun ls hl => ?_)
            refine lv_goto (tgt := 2) hx hb d_T_numberOf_38 (by decide) ?_
            exact ih (i + 1) ls H locs (by omega) (by omega) (by rw [hf]; exact fdF_miss (by omega) (by simp [c30])) hP hD hS (lv_sub hl [1, 2, 0] rfl)
          · skip
            have c30 := b_of1 c30
            refine lv_iload_n hx hb d_T_numberOf_33 rfl (lv_at hl 2 rfl) ?_
            exact hret _ _ _ _ _ _ _ _ d_T_numberOf_34 ⟨by rw [hf, fdF_hit (by omega) (by simp [c17, c30])], rfl⟩ hP hD hS (by decide) (by decide)
  exact lp _ (0) ls s.heap [] (Nat.lt_succ_self _) (Nat.zero_le n) rfl hP hD hS (lv_sub hl [1, 2, 0] rfl)

set_option maxRecDepth 100000 in
set_option maxHeartbeats 4000000 in
theorem c_remove (l : Launch) (D : va_G) (k : Nat → ClassId) (t a g : Nat) (r : Nat → Nat) (n : Nat) (hn : n ≤ 256) (th : Nat → Int32) (M : Nat → Nat → Int32) (j : Nat) (hj : j < n) (sz : Nat) : bMV l y_T_remove (wY y_T_remove b_T_remove 2 none) (rm9 2 0 0) D (tsK k) (tbW k t a g r n th M) sz [.ref t, .int (nI j)] (fun w => w = tbW k t a g r n (upd th j (nI 0)) (va_up M j (fun _ => -1))) 0 0 := by
  refine ent_v (cc := b_T_remove) (maxL := 2) (by decide) (Nat.le_of_ble_eq_true rfl) ?_
  intro p e s m args below meth c A Q ls hx hb hml hown hts hsz hA hP hD hS hK hl hnm hret
  refine lv_aload_n hx hb d_T_remove_0 rfl (lv_at hl 0 rfl) ?_
  refine va_get (D := D) (ci := ciTb) (v := .ref a) (C := RT) (T := TT) (N := 2) hx hb hts inT hown hK.1 hP 0 rfl rfl 0 (by decide) (hts _ wd_32) (fun _ h9 => h9) rfl d_T_remove_1 ?_
  refine lv_iload_n hx hb d_T_remove_4 rfl (lv_at hl 1 rfl) ?_
  refine lv_iconst (v := nI 0) hx hb d_T_remove_5 (by decide) ?_
  refine rw_zast hx hb hK.1 hP hD hS 1 1 rfl rfl (j := j) bz_0 (by omega) (by omega) d_T_remove_6 (wn := tbW k t a g r n (upd th j (nI 0)) M) rfl (fun H locs hP hD hS => ?_)
  refine lv_aload_n hx hb d_T_remove_7 rfl (lv_at hl 0 rfl) ?_
  refine va_get (D := D) (ci := ciTb) (v := .ref g) (C := RT) (T := TT) (N := 2) hx hb hts inT hown hK.1 hP 0 rfl rfl 1 (by decide) (hts _ wd_33) (fun _ h9 => h9) rfl d_T_remove_8 ?_
  refine lv_iload_n hx hb d_T_remove_11 rfl (lv_at hl 1 rfl) ?_
  refine rw_aald hx hb hK.1 hP 2 2 rfl rfl (j := j) (y := r j) (by omega) (by omega) (gOut_at (by omega)) d_T_remove_12 ?_
  refine lv_iconst (v := -1) hx hb d_T_remove_13 (by decide) ?_
  obtain ⟨wr, hwr⟩ := tb_out (k := k) (t := t) (a := a) (g := g) (r := r) (n := n) (th := upd th j (nI 0)) M hj
  have hpm := hwr (M j)
  rw [gr_same] at hpm
  refine cal_v (wc := [(r j, .inl (k 0, 24, .inl (M j)))]) (wr := wr) (va_runS (As := [.ref (r j), .int (-1)]) (rest := []) ⟨hx, hb, hml, hown, hts⟩ (c_fill l D k (r j) 24 (by decide) (M j) (-1) H.size) (cwS9 2 hts wd_31 wd_29 wd_30 wd_3 (by decide) ⟨by decide, by decide⟩) (prS hK hP hD hpm) rfl rfl hl.1 rfl (lv_room (Nat.le_of_ble_eq_true rfl)) d_T_remove_14 ⟨by decide, by decide⟩) hpm hP hD hS hA (fun w1 H locs hw hpd hS => ?_)
  subst hw
  obtain ⟨hP, hD⟩ := hpd (tbW k t a g r n (upd th j (nI 0)) (va_up M j (fun _ => -1))) (hwr (fun _ => -1)).symm
  exact hret _ _ _ _ _ _ _ d_T_remove_17 rfl hP hD hS (by decide) (by decide)
