/-! a new table -/
theorem ka_eq {s : State} {nm : String} {a b : ClassId} (h1 : s.vm.findClass nm = some a) (h2 : s.vm.findClass nm = some b) : a = b := Option.some.inj (h1.symm.trans h2)
theorem gr_pl {c : ClassId} {r : Nat → Nat} {n : Nat} {f : Nat → va_E} : va_pl ([] ++ (List.range n).map r) (vr_up f ((List.range n).map r) (.inl (c, 24, .inl (fun _ => 0)))) = gRows c r n (fun _ _ => 0) := by
  unfold va_pl gRows
  rw [List.nil_append, List.map_map]
  apply List.map_congr_left
  intro i hi
  show (r i, vr_up f ((List.range n).map r) (.inl (c, 24, .inl (fun _ => 0))) (r i)) = _
  rw [vr_up_in (List.mem_map.mpr ⟨i, hi, rfl⟩)]
  rfl
theorem gRows_congr {c : ClassId} {r : Nat → Nat} {n : Nat} {M M' : Nat → Nat → Int32} (h : ∀ i, i < n → M i = M' i) : gRows c r n M = gRows c r n M' := by
  unfold gRows
  apply List.map_congr_left
  intro i hi
  show (r i, _) = (r i, _)
  rw [h i (List.mem_range.mp hi)]
def inF (i : Nat) : Nat → Nat → Int32 := fun a _ => if a < i then -1 else 0
theorem inF_0 : inF 0 = fun _ _ => 0 := by funext a p; simp [inF]
theorem inF_s (i : Nat) : va_up (inF i) i (fun _ => -1) = inF (i + 1) := by
  funext a p
  by_cases h : a = i
  · simp [va_up, inF, h]
  · by_cases h2 : a < i
    · simp [va_up, inF, h, h2, Nat.lt_succ_of_lt h2]
    · simp [va_up, inF, h, h2, show ¬ a < i + 1 by omega]
theorem tb_end {k : Nat → ClassId} {t a g : Nat} {r : Nat → Nat} {n i : Nat} {th : Nat → Int32} (h : n ≤ i) : tbW k t a g r n th (inF i) = tbW k t a g r n th (fun _ _ => -1) := by
  unfold tbW
  rw [gRows_congr (M' := fun _ _ => -1)]
  intro a ha
  funext p
  simp [inF, show a < i by omega]

set_option maxRecDepth 100000 in
set_option maxHeartbeats 4000000 in
theorem c_Tinit (l : Launch) (D : va_G) (k : Nat → ClassId) (t n : Nat) (hn : n ≤ 256) (sz : Nat) : bMV l y_T_init (wY y_T_init b_T_init 3 none) (rm9 2 (n + 2) (26 * n)) D (tsK k) ([(t, .inr (ciTb, [.null, .null]))]) sz [.ref t, .int (nI n)] (fun w => ∃ (a g : Nat) (r : Nat → Nat), w = tbW k t a g r n (fun _ => 0) (fun _ _ => -1)) (n + 2) (26 * n) := by
  refine ent_v (cc := b_T_init) (maxL := 3) (by decide) (Nat.le_of_ble_eq_true rfl) ?_
  intro p e s m args below meth c A Q ls hx hb hml hown hts hsz hA hP hD hS hK hl hnm hret
  refine lv_aload_n hx hb d_T_init_0 rfl (lv_at hl 0 rfl) ?_
  refine W.objInit hx hb hown (hts _ wd_26) (hts _ wd_19) (hts _ wd_20) rfl (by rw [hml]; exact hl.1) rfl d_T_init_1 (Nat.le_of_ble_eq_true rfl) (Nat.le_of_ble_eq_true rfl) ?_
  refine W.eq (g2 := F0 m 4 ls []) rfl ?_
  refine lv_aload_n hx hb d_T_init_4 rfl (lv_at hl 0 rfl) ?_
  refine lv_iload_n hx hb d_T_init_5 rfl (lv_at hl 1 rfl) ?_
  refine va_newa (atype := .boolean) (ty := .boolean) (N' := n) (a0 := (n, .inl (fun _ => 0))) hx hb (hts _ wd_40) rfl hK.1 hP hD hS hA (fun cA => rfl) (nI_pos (by omega)) (nI_clamp (by omega)) (by show n * 1 ≤ 536870912; omega) (by show 0 + 1 ≤ n + 2; omega) (by show 0 + n ≤ 26 * n; omega) d_T_init_6 (fun q6 cA H hK6 hP hD hS => ?_)
  obtain rfl : cA = k 1 := ka_eq (hK6.2 4 _ rfl).2 (hK.1.2 1 _ rfl).2
  have hP : va_P D vwCl [(t, .inr (ciTb, [.null, .null])), (q6, .inl (k 1, n, .inl (fun _ => 0)))] H := hP
  have hD : va_D A [(t, .inr (ciTb, [.null, .null])), (q6, .inl (k 1, n, .inl (fun _ => 0)))] := hD
  refine va_putF (D := D) (ci := ciTb) (v := .ref q6) (ty := .array .boolean) (C := RT) (T := TT) (N := 2) hx hb hts inT tyT ttT nnT hown hK.1 hP hD hS 0 rfl rfl 0 (by decide) (hts _ wd_32) (fun _ h9 => h9) rfl hnm rfl (by decide +kernel) rfl rfl (Nat.le_of_ble_eq_true rfl) d_T_init_8 (fun H locs hP hD hS => ?_)
  have hP : va_P D vwCl ([(t, .inr (ciTb, [.ref q6, .null])), (q6, .inl (k 1, n, .inl (fun _ => 0)))]) H := hP
  have hD : va_D A ([(t, .inr (ciTb, [.ref q6, .null])), (q6, .inl (k 1, n, .inl (fun _ => 0)))]) := hD
  refine lv_aload_n hx hb d_T_init_11 rfl (lv_at hl 0 rfl) ?_
  refine lv_iload_n hx hb d_T_init_12 rfl (lv_at hl 1 rfl) ?_
  refine lv_bipush (v := nI 24) hx hb d_T_init_13 (by decide) ?_
  refine va_mna (X := [(t, .inr (ciTb, [.ref q6, .null])), (q6, .inl (k 1, n, .inl (fun _ => 0)))]) (L := []) (f := fun _ => .inl (k 0, 0, .inl (fun _ => 0))) (cy := k 0) (ty := .int) (N' := n) (K' := 24) (z := (24, .inl (fun _ => 0))) hx hb hown (by rw [show "[" ++ (FieldType.array .int).toString = "[[I" by decide]; exact hts _ wd_27) hK.2.2 (hts _ wd_41) (hK.1.2 0 _ rfl).2 hK.1 (by simpa [va_pl] using hP) (by simpa [va_pl] using hD) hS hA (nI_pos (by omega)) (by decide) (nI_clamp (by omega)) (by decide) (by omega) (by decide) (by decide) rfl rfl (by show 0 + 1 + (1 + n) ≤ n + 2; omega) (by show 0 + n + (n + n * 24) ≤ 26 * n; omega) (fun c => arrV_new c 24 (.int 0)) d_T_init_15 (fun q15 rr cA H hij hnl hK15 hP hD hS => ?_)
  obtain rfl : cA = k 2 := ka_eq (hK15.2 4 _ rfl).2 (hK.1.2 2 _ rfl).2
  rw [gr_pl] at hP hD
  have hP : va_P D vwCl ([(t, .inr (ciTb, [.ref q6, .null])), (q6, .inl (k 1, n, .inl (fun _ => 0))), (q15, .inl (k 2, n, .inr (.inr (.inr (.inr (gOut rr n))))))] ++ gRows (k 0) rr n (fun _ _ => 0)) H := hP
  have hD : va_D A ([(t, .inr (ciTb, [.ref q6, .null])), (q6, .inl (k 1, n, .inl (fun _ => 0))), (q15, .inl (k 2, n, .inr (.inr (.inr (.inr (gOut rr n))))))] ++ gRows (k 0) rr n (fun _ _ => 0)) := hD
  refine va_putF (D := D) (ci := ciTb) (v := .ref q15) (ty := .array (.array .int)) (C := RT) (T := TT) (N := 2) hx hb hts inT tyT ttT nnT hown hK.1 hP hD hS 0 rfl rfl 1 (by decide) (hts _ wd_33) (fun _ h9 => h9) rfl hnm rfl (by decide +kernel) rfl rfl (Nat.le_of_ble_eq_true rfl) d_T_init_19 (fun H locs hP hD hS => ?_)
  have hP : va_P D vwCl (tbW k t q6 q15 rr n (fun _ => 0) (fun _ _ => 0)) H := hP
  have hD : va_D A (tbW k t q6 q15 rr n (fun _ => 0) (fun _ _ => 0)) := hD
  refine W.widen (k := n + 2) (n := 26 * n) (by omega) (by omega) ?_
  rw [← inF_0] at hP hD
  refine lv_iconst (v := nI 0) hx hb d_T_init_22 (by decide) ?_
  refine lv_istore_n (lv' := [(2, .int (nI 0)), (0, .ref t), (1, .int (nI n))]) hx hb d_T_init_23 rfl hl (by decide) rfl (fun ls hl => ?_)
  have lp : ∀ (n9 : Nat) (i : Nat) (ls : Array Slot) (H : Heap) (locs : List Loc), n - i < n9 → (i ≤ n) → va_P D vwCl (tbW k t q6 q15 rr n (fun _ => 0) (inF i)) H → va_D A (tbW k t q6 q15 rr n (fun _ => 0) (inF i)) → va_S A s.heap H locs → lv_has ls 3 [(0, .ref t), (1, .int (nI n)), (2, .int (nI i))] → W p l e (rm9 2 (n + 2) (26 * n)) s m args below meth c H locs (n + 2) (26 * n) Q (F0 m 24 ls []) := by
    intro n9
    induction n9 with
    | zero => intro i ls H locs hm; omega
    | succ n9 ih =>
      intro i ls H locs hm hi hP hD hS hl
      refine lv_iload_n hx hb d_T_init_24 rfl (lv_at hl 2 rfl) ?_
      refine lv_iload_n hx hb d_T_init_25 rfl (lv_at hl 1 rfl) ?_
      refine lv_icmp_ge (tgt := 45) hx hb d_T_init_26 (by decide) (fun c26 => ?_) (fun c26 => ?_)
      · skip
        rw [nI_leI (by omega) (by omega)] at c26
        rw [tb_end (i := i) (by omega)] at hP hD
        exact hret _ _ _ _ _ _ _ d_T_init_45 ⟨q6, q15, rr, rfl⟩ hP hD hS (Nat.le_refl _) (Nat.le_refl _)
      · skip
        rw [nI_leI (by omega) (by omega)] at c26
        refine lv_aload_n hx hb d_T_init_29 rfl (lv_at hl 0 rfl) ?_
        refine va_get (D := D) (ci := ciTb) (v := .ref q15) (C := RT) (T := TT) (N := 2) hx hb hts inT hown hK.1 hP 0 rfl rfl 1 (by decide) (hts _ wd_33) (fun _ h9 => h9) rfl d_T_init_30 ?_
        refine lv_iload_n hx hb d_T_init_33 rfl (lv_at hl 2 rfl) ?_
        refine rw_aald hx hb hK.1 hP 2 2 rfl rfl (j := i) (y := rr i) (by omega) (by omega) (gOut_at (by omega)) d_T_init_34 ?_
        refine lv_iconst (v := -1) hx hb d_T_init_35 (by decide) ?_
        obtain ⟨wr, hwr⟩ := tb_out (k := k) (t := t) (a := q6) (g := q15) (r := rr) (n := n) (th := fun _ => 0) (inF i) (j := i) (by omega)
        have hpm := hwr (inF i i)
        rw [gr_same] at hpm
        have hpn := hwr (fun _ => -1)
        rw [inF_s] at hpn
        refine cal_v (wc := [(rr i, .inl (k 0, 24, .inl (inF i i)))]) (wr := wr) (va_runS (As := [.ref (rr i), .int (-1)]) (rest := []) ⟨hx, hb, hml, hown, hts⟩ (c_fill l D k (rr i) 24 (by decide) (inF i i) (-1) H.size) (cwS9 2 hts wd_31 wd_29 wd_30 wd_3 (by decide) ⟨Nat.le_of_ble_eq_true rfl, Nat.le_of_ble_eq_true rfl⟩) (prS hK hP hD hpm) rfl rfl hl.1 rfl (lv_room (Nat.le_of_ble_eq_true rfl)) d_T_init_36 ⟨Nat.le_refl _, Nat.le_refl _⟩) hpm hP hD hS hA (fun w1 H locs hw hpd hS => ?_)
        subst hw
        obtain ⟨hP, hD⟩ := hpd (tbW k t q6 q15 rr n (fun _ => 0) (inF (i + 1))) hpn.symm
        refine lv_iinc (v := nI (i + 1)) (lv' := [(2, .int (nI (i + 1))), (0, .ref t), (1, .int (nI n))]) hx hb d_T_init_39 hl (k := 2) rfl (ii_1 _) (by decide) rfl (fun ls hl => ?_)
        refine lv_goto (tgt := 24) hx hb d_T_init_42 (by decide) ?_
        exact ih (i + 1) ls H locs (by omega) (by omega) hP hD hS (lv_sub hl [1, 2, 0] rfl)
  exact lp _ (0) ls H locs (Nat.lt_succ_self _) (Nat.zero_le n) hP hD hS (lv_sub hl [1, 2, 0] rfl)
