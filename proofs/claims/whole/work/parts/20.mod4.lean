/-! the reference's public calls, in the class's words -/
theorem pr_nv {x v : Int32} (h : (prB x && inB v (-1) (grt x)) = true) : prB x = true ∧ nvB x v = true := by rw [iv_nv] at h; exact Bool.and_eq_true_iff.mp h
theorem pr_vl {x v : Int32} (h : (prB x && inB v (nI 0) (grt x)) = true) : prB x = true ∧ vlB x v = true := by rw [iv_vl] at h; exact Bool.and_eq_true_iff.mp h
theorem pr_nvF {x v : Int32} (h : (prB x && inB v (-1) (grt x)) = false) : prB x = false ∨ nvB x v = false := by rw [iv_nv] at h; exact Bool.and_eq_false_iff.mp h
theorem pr_vlF {x v : Int32} (h : (prB x && inB v (nI 0) (grt x)) = false) : prB x = false ∨ vlB x v = false := by rw [iv_vl] at h; exact Bool.and_eq_false_iff.mp h
theorem mk_cnt {us sth mk : Nat → Int32} {sM : Nat → Nat → Int32} {uu te ma va : Nat → Int32} (h2 : RS2 us sth mk sM) (h : RR2 us sth mk sM uu te ma va) {j : Nat} (hj : sth j ≠ 0) {i : Nat} (hi : i < 256) : (decide (te i ≠ 0) && decide (upd ma j (nI 1) i ≠ 0)) = decide (upd mk j (nI 1) i ≠ 0) := by
  by_cases e : i = j
  · subst e
    rw [h.2.1 i hi]
    simp [upd, hj]
  · simp only [upd, if_neg e]
    rw [h.2.1 i hi, h.2.2.1 i hi]
    by_cases q : sth i = 0
    · simp [q, h2.2.2.2.2 i hi q]
    · simp [q]
theorem sw_cnt {us sth mk : Nat → Int32} {sM : Nat → Nat → Int32} {uu te ma va : Nat → Int32} (h : RR2 us sth mk sM uu te ma va) {i : Nat} (hi : i < 256) : swB te ma i = swB sth mk i := by simp only [swB]; rw [h.2.1 i hi, h.2.2.1 i hi]

set_option maxRecDepth 100000 in
set_option maxHeartbeats 4000000 in
theorem c_Mvalue (l : Launch) (D : va_G) (k : Nat → ClassId) (b : Nat → Nat) (cd : Int32) (ki ba ow uu te ma va wa : Nat → Int32) (th kd bs us sth mk : Nat → Int32) (M sM : Nat → Nat → Int32) (hR : RI th kd bs us sth mk M sM ki ba ow uu te ma va) (x y : Int32) (sz : Nat) : bMI l y_M_value (wY y_M_value b_M_value 3 (some .int)) (rm9 4 0 0) D (tsK k) (mdW k b cd ki ba ow uu te ma va wa) sz [.ref (b 0), .int x, .int y] (fun v w => (cdVa th x y = 0 → v = vbF th bs M x y.toNatClampNeg) ∧ w = mdW k b (nI (cdVa th x y)) ki ba ow uu te ma va wa) 0 0 := by
  refine ent_i (cc := b_M_value) (maxL := 3) (ty := .int) (by decide) (Nat.le_of_ble_eq_true rfl) (fun _ _ _ => rfl) ?_
  intro p e s m args below meth c A Q ls hx hb hml hown hts hsz hA hP hD hS hK hl hret
  refine lv_aload_n hx hb d_M_value_0 rfl (lv_at hl 0 rfl) ?_
  refine lv_aload_n hx hb d_M_value_1 rfl (lv_at hl 0 rfl) ?_
  refine lv_iload_n hx hb d_M_value_2 rfl (lv_at hl 1 rfl) ?_
  refine cal_i (wc := mdW k b cd ki ba ow uu te ma va wa) (wr := []) (va_runV (As := [.int x]) (rest := [.ref (b 0)]) ⟨hx, hb, hml, hown, hts⟩ (c_MisStyle l D k b cd ki ba ow uu te ma va wa th hR.2.1.1 x s.heap.size) (cwV9 1 hts wd_445 wd_442 wd_444 ws_22 wd_4 (by decide) ⟨Nat.le_of_ble_eq_true rfl, Nat.le_of_ble_eq_true rfl⟩) (prV (q0 := 0) (ci := ciMo) hK hP hD (pm_nil' _) rfl rfl) rfl rfl hl.1 rfl (lv_room (Nat.le_of_ble_eq_true rfl)) d_M_value_3 ⟨by decide, by decide⟩) (pm_nil' _) hP hD hS hA (fun r w1 H locs hw hpd hS => ?_)
  obtain ⟨rfl, rfl⟩ := hw
  obtain ⟨hP, hD⟩ := hpd (mdW k b cd ki ba ow uu te ma va wa) (pm_nil _)
  refine lv_if_ne (tgt := 13) hx hb d_M_value_6 (by decide) (fun c6 => ?_) (fun c6 => ?_)
  · skip
    have c6 := b_of1 c6
    refine lv_iload_n hx hb d_M_value_13 rfl (lv_at hl 2 rfl) ?_
    refine cal_i (wc := []) (wr := mdW k b cd ki ba ow uu te ma va wa) (va_runS (As := [.int y]) (rest := [.ref (b 0)]) ⟨hx, hb, hml, hown, hts⟩ (c_MisProperty l D k y H.size) (cwS9 1 hts wd_467 wd_465 wd_466 wd_4 (by decide) ⟨Nat.le_of_ble_eq_true rfl, Nat.le_of_ble_eq_true rfl⟩) (prS hK hP hD (List.Perm.refl _)) rfl rfl hl.1 rfl (lv_room (Nat.le_of_ble_eq_true rfl)) d_M_value_14 ⟨by decide, by decide⟩) (List.Perm.refl _) hP hD hS hA (fun r w1 H locs hw hpd hS => ?_)
    obtain ⟨rfl, rfl⟩ := hw
    obtain ⟨hP, hD⟩ := hpd (mdW k b cd ki ba ow uu te ma va wa) (List.Perm.refl _)
    refine lv_if_ne (tgt := 24) hx hb d_M_value_17 (by decide) (fun c17 => ?_) (fun c17 => ?_)
    · skip
      have c17 := b_of1 c17
      refine lv_iconst (v := nI 0) hx hb d_M_value_24 (by decide) ?_
      refine va_put (D := D) (ci := ciMo) (v := .int (nI 0)) (ty := .int) (C := RM) (T := TM) (N := 9) hx hb hts inM tyM ttM nnM hown hK.1 hP hD hS 0 rfl rfl 0 (by decide) (hts _ wd_399) (fun _ h9 => h9) rfl (by decide +kernel) rfl rfl (Nat.le_of_ble_eq_true rfl) d_M_value_25 (fun H locs hP hD hS => ?_)
      have hP : va_P D vwCl (mdW k b (nI 0) ki ba ow uu te ma va wa) H := hP
      have hD : va_D A (mdW k b (nI 0) ki ba ow uu te ma va wa) := hD
      refine lv_aload_n hx hb d_M_value_28 rfl (lv_at hl 0 rfl) ?_
      refine va_get (D := D) (ci := ciMo) (v := .int (nI 0)) (C := RM) (T := TM) (N := 9) hx hb hts inM hown hK.1 hP 0 rfl rfl 0 (by decide) (hts _ wd_399) (fun _ h9 => h9) rfl d_M_value_29 ?_
      refine lv_if_le (tgt := 39) hx hb d_M_value_32 (by decide) (fun c32 => ?_) (fun c32 => ?_)
      · skip
        obtain ⟨s0, hs0, rfl, hs0t⟩ := hsB_t (by decide) c6
        obtain ⟨p9, hp9, rfl⟩ := prB_t c17
        refine lv_aload_n hx hb d_M_value_39 rfl (lv_at hl 0 rfl) ?_
        refine lv_iload_n hx hb d_M_value_40 rfl (lv_at hl 1 rfl) ?_
        refine lv_iload_n hx hb d_M_value_41 rfl (lv_at hl 2 rfl) ?_
        refine cal_i (wc := mdW k b (nI 0) ki ba ow uu te ma va wa) (wr := []) (va_runV (As := [.int (nI s0), .int (nI p9)]) (rest := []) ⟨hx, hb, hml, hown, hts⟩ (c_MvalueOf l D k b (nI 0) ki ba ow uu te ma va wa th kd bs us sth mk M sM hR (nI s0) (Or.inr ⟨s0, hs0, rfl, hs0t⟩) p9 hp9 H.size) (cwV9 2 hts wd_476 wd_473 wd_475 ws_24 wd_4 (by decide) ⟨Nat.le_of_ble_eq_true rfl, Nat.le_of_ble_eq_true rfl⟩) (prV (q0 := 0) (ci := ciMo) hK hP hD (pm_nil' _) rfl rfl) rfl rfl hl.1 rfl (lv_room (Nat.le_of_ble_eq_true rfl)) d_M_value_42 ⟨by decide, by decide⟩) (pm_nil' _) hP hD hS hA (fun r w1 H locs hw hpd hS => ?_)
        obtain ⟨rfl, rfl⟩ := hw
        obtain ⟨hP, hD⟩ := hpd (mdW k b (nI 0) ki ba ow uu te ma va wa) (pm_nil _)
        exact hret _ _ _ _ _ _ _ _ d_M_value_45 ⟨fun _ => by rw [nI_clamp (show p9 < 2 ^ 31 by omega)], by rw [show cdVa th (nI s0) (nI p9) = 0 by simp [cdVa, c6, c17]]⟩ hP hD hS (by decide) (by decide)
      · skip
        exact absurd (by decide) c32
    · skip
      have c17 := b_of0 c17
      refine lv_iconst (v := nI 2) hx hb d_M_value_20 (by decide) ?_
      refine lv_goto (tgt := 25) hx hb d_M_value_21 (by decide) ?_
      refine va_put (D := D) (ci := ciMo) (v := .int (nI 2)) (ty := .int) (C := RM) (T := TM) (N := 9) hx hb hts inM tyM ttM nnM hown hK.1 hP hD hS 0 rfl rfl 0 (by decide) (hts _ wd_399) (fun _ h9 => h9) rfl (by decide +kernel) rfl rfl (Nat.le_of_ble_eq_true rfl) d_M_value_25 (fun H locs hP hD hS => ?_)
      have hP : va_P D vwCl (mdW k b (nI 2) ki ba ow uu te ma va wa) H := hP
      have hD : va_D A (mdW k b (nI 2) ki ba ow uu te ma va wa) := hD
      refine lv_aload_n hx hb d_M_value_28 rfl (lv_at hl 0 rfl) ?_
      refine va_get (D := D) (ci := ciMo) (v := .int (nI 2)) (C := RM) (T := TM) (N := 9) hx hb hts inM hown hK.1 hP 0 rfl rfl 0 (by decide) (hts _ wd_399) (fun _ h9 => h9) rfl d_M_value_29 ?_
      refine lv_if_le (tgt := 39) hx hb d_M_value_32 (by decide) (fun c32 => ?_) (fun c32 => ?_)
      · skip
        exact absurd c32 (by decide)
      · skip
        refine lv_iconst (v := nI 0) hx hb d_M_value_35 (by decide) ?_
        refine lv_goto (tgt := 45) hx hb d_M_value_36 (by decide) ?_
        exact hret _ _ _ _ _ _ _ _ d_M_value_45 ⟨fun h => absurd h (by simp [cdVa, c6, c17]), by rw [show cdVa th x y = 2 by simp [cdVa, c6, c17]]⟩ hP hD hS (by decide) (by decide)
  · skip
    have c6 := b_of0 c6
    refine lv_iconst (v := nI 1) hx hb d_M_value_9 (by decide) ?_
    refine lv_goto (tgt := 25) hx hb d_M_value_10 (by decide) ?_
    refine va_put (D := D) (ci := ciMo) (v := .int (nI 1)) (ty := .int) (C := RM) (T := TM) (N := 9) hx hb hts inM tyM ttM nnM hown hK.1 hP hD hS 0 rfl rfl 0 (by decide) (hts _ wd_399) (fun _ h9 => h9) rfl (by decide +kernel) rfl rfl (Nat.le_of_ble_eq_true rfl) d_M_value_25 (fun H locs hP hD hS => ?_)
    have hP : va_P D vwCl (mdW k b (nI 1) ki ba ow uu te ma va wa) H := hP
    have hD : va_D A (mdW k b (nI 1) ki ba ow uu te ma va wa) := hD
    refine lv_aload_n hx hb d_M_value_28 rfl (lv_at hl 0 rfl) ?_
    refine va_get (D := D) (ci := ciMo) (v := .int (nI 1)) (C := RM) (T := TM) (N := 9) hx hb hts inM hown hK.1 hP 0 rfl rfl 0 (by decide) (hts _ wd_399) (fun _ h9 => h9) rfl d_M_value_29 ?_
    refine lv_if_le (tgt := 39) hx hb d_M_value_32 (by decide) (fun c32 => ?_) (fun c32 => ?_)
    · skip
      exact absurd c32 (by decide)
    · skip
      refine lv_iconst (v := nI 0) hx hb d_M_value_35 (by decide) ?_
      refine lv_goto (tgt := 45) hx hb d_M_value_36 (by decide) ?_
      exact hret _ _ _ _ _ _ _ _ d_M_value_45 ⟨fun h => absurd h (by simp [cdVa, c6]), by rw [show cdVa th x y = 1 by simp [cdVa, c6]]⟩ hP hD hS (by decide) (by decide)

set_option maxRecDepth 100000 in
set_option maxHeartbeats 4000000 in
theorem c_Mgiver (l : Launch) (D : va_G) (k : Nat → ClassId) (b : Nat → Nat) (cd : Int32) (ki ba ow uu te ma va wa : Nat → Int32) (th kd bs us sth mk : Nat → Int32) (M sM : Nat → Nat → Int32) (hR : RI th kd bs us sth mk M sM ki ba ow uu te ma va) (x y : Int32) (sz : Nat) : bMI l y_M_giver (wY y_M_giver b_M_giver 3 (some .int)) (rm9 4 0 0) D (tsK k) (mdW k b cd ki ba ow uu te ma va wa) sz [.ref (b 0), .int x, .int y] (fun v w => (cdVa th x y = 0 → v = gvF th bs M y.toNatClampNeg 64 x) ∧ w = mdW k b (nI (cdVa th x y)) ki ba ow uu te ma va wa) 0 0 := by
  refine ent_i (cc := b_M_giver) (maxL := 3) (ty := .int) (by decide) (Nat.le_of_ble_eq_true rfl) (fun _ _ _ => rfl) ?_
  intro p e s m args below meth c A Q ls hx hb hml hown hts hsz hA hP hD hS hK hl hret
  refine lv_aload_n hx hb d_M_giver_0 rfl (lv_at hl 0 rfl) ?_
  refine lv_aload_n hx hb d_M_giver_1 rfl (lv_at hl 0 rfl) ?_
  refine lv_iload_n hx hb d_M_giver_2 rfl (lv_at hl 1 rfl) ?_
  refine cal_i (wc := mdW k b cd ki ba ow uu te ma va wa) (wr := []) (va_runV (As := [.int x]) (rest := [.ref (b 0)]) ⟨hx, hb, hml, hown, hts⟩ (c_MisStyle l D k b cd ki ba ow uu te ma va wa th hR.2.1.1 x s.heap.size) (cwV9 1 hts wd_445 wd_442 wd_444 ws_22 wd_4 (by decide) ⟨Nat.le_of_ble_eq_true rfl, Nat.le_of_ble_eq_true rfl⟩) (prV (q0 := 0) (ci := ciMo) hK hP hD (pm_nil' _) rfl rfl) rfl rfl hl.1 rfl (lv_room (Nat.le_of_ble_eq_true rfl)) d_M_giver_3 ⟨by decide, by decide⟩) (pm_nil' _) hP hD hS hA (fun r w1 H locs hw hpd hS => ?_)
  obtain ⟨rfl, rfl⟩ := hw
  obtain ⟨hP, hD⟩ := hpd (mdW k b cd ki ba ow uu te ma va wa) (pm_nil _)
  refine lv_if_ne (tgt := 13) hx hb d_M_giver_6 (by decide) (fun c6 => ?_) (fun c6 => ?_)
  · skip
    have c6 := b_of1 c6
    refine lv_iload_n hx hb d_M_giver_13 rfl (lv_at hl 2 rfl) ?_
    refine cal_i (wc := []) (wr := mdW k b cd ki ba ow uu te ma va wa) (va_runS (As := [.int y]) (rest := [.ref (b 0)]) ⟨hx, hb, hml, hown, hts⟩ (c_MisProperty l D k y H.size) (cwS9 1 hts wd_467 wd_465 wd_466 wd_4 (by decide) ⟨Nat.le_of_ble_eq_true rfl, Nat.le_of_ble_eq_true rfl⟩) (prS hK hP hD (List.Perm.refl _)) rfl rfl hl.1 rfl (lv_room (Nat.le_of_ble_eq_true rfl)) d_M_giver_14 ⟨by decide, by decide⟩) (List.Perm.refl _) hP hD hS hA (fun r w1 H locs hw hpd hS => ?_)
    obtain ⟨rfl, rfl⟩ := hw
    obtain ⟨hP, hD⟩ := hpd (mdW k b cd ki ba ow uu te ma va wa) (List.Perm.refl _)
    refine lv_if_ne (tgt := 24) hx hb d_M_giver_17 (by decide) (fun c17 => ?_) (fun c17 => ?_)
    · skip
      have c17 := b_of1 c17
      refine lv_iconst (v := nI 0) hx hb d_M_giver_24 (by decide) ?_
      refine va_put (D := D) (ci := ciMo) (v := .int (nI 0)) (ty := .int) (C := RM) (T := TM) (N := 9) hx hb hts inM tyM ttM nnM hown hK.1 hP hD hS 0 rfl rfl 0 (by decide) (hts _ wd_399) (fun _ h9 => h9) rfl (by decide +kernel) rfl rfl (Nat.le_of_ble_eq_true rfl) d_M_giver_25 (fun H locs hP hD hS => ?_)
      have hP : va_P D vwCl (mdW k b (nI 0) ki ba ow uu te ma va wa) H := hP
      have hD : va_D A (mdW k b (nI 0) ki ba ow uu te ma va wa) := hD
      refine lv_aload_n hx hb d_M_giver_28 rfl (lv_at hl 0 rfl) ?_
      refine va_get (D := D) (ci := ciMo) (v := .int (nI 0)) (C := RM) (T := TM) (N := 9) hx hb hts inM hown hK.1 hP 0 rfl rfl 0 (by decide) (hts _ wd_399) (fun _ h9 => h9) rfl d_M_giver_29 ?_
      refine lv_if_le (tgt := 39) hx hb d_M_giver_32 (by decide) (fun c32 => ?_) (fun c32 => ?_)
      · skip
        obtain ⟨s0, hs0, rfl, hs0t⟩ := hsB_t (by decide) c6
        obtain ⟨p9, hp9, rfl⟩ := prB_t c17
        refine lv_aload_n hx hb d_M_giver_39 rfl (lv_at hl 0 rfl) ?_
        refine lv_iload_n hx hb d_M_giver_40 rfl (lv_at hl 1 rfl) ?_
        refine lv_iload_n hx hb d_M_giver_41 rfl (lv_at hl 2 rfl) ?_
        refine cal_i (wc := mdW k b (nI 0) ki ba ow uu te ma va wa) (wr := []) (va_runV (As := [.int (nI s0), .int (nI p9)]) (rest := []) ⟨hx, hb, hml, hown, hts⟩ (c_Mfirst l D k b (nI 0) ki ba ow uu te ma va wa th kd bs us sth mk M sM hR s0 hs0 hs0t p9 hp9 H.size) (cwV9 2 hts wd_480 wd_477 wd_479 ws_25 wd_4 (by decide) ⟨Nat.le_of_ble_eq_true rfl, Nat.le_of_ble_eq_true rfl⟩) (prV (q0 := 0) (ci := ciMo) hK hP hD (pm_nil' _) rfl rfl) rfl rfl hl.1 rfl (lv_room (Nat.le_of_ble_eq_true rfl)) d_M_giver_42 ⟨by decide, by decide⟩) (pm_nil' _) hP hD hS hA (fun r w1 H locs hw hpd hS => ?_)
        obtain ⟨rfl, rfl⟩ := hw
        obtain ⟨hP, hD⟩ := hpd (mdW k b (nI 0) ki ba ow uu te ma va wa) (pm_nil _)
        exact hret _ _ _ _ _ _ _ _ d_M_giver_45 ⟨fun _ => by rw [nI_clamp (show p9 < 2 ^ 31 by omega)], by rw [show cdVa th (nI s0) (nI p9) = 0 by simp [cdVa, c6, c17]]⟩ hP hD hS (by decide) (by decide)
      · skip
        exact absurd (by decide) c32
    · skip
      have c17 := b_of0 c17
      refine lv_iconst (v := nI 2) hx hb d_M_giver_20 (by decide) ?_
      refine lv_goto (tgt := 25) hx hb d_M_giver_21 (by decide) ?_
      refine va_put (D := D) (ci := ciMo) (v := .int (nI 2)) (ty := .int) (C := RM) (T := TM) (N := 9) hx hb hts inM tyM ttM nnM hown hK.1 hP hD hS 0 rfl rfl 0 (by decide) (hts _ wd_399) (fun _ h9 => h9) rfl (by decide +kernel) rfl rfl (Nat.le_of_ble_eq_true rfl) d_M_giver_25 (fun H locs hP hD hS => ?_)
      have hP : va_P D vwCl (mdW k b (nI 2) ki ba ow uu te ma va wa) H := hP
      have hD : va_D A (mdW k b (nI 2) ki ba ow uu te ma va wa) := hD
      refine lv_aload_n hx hb d_M_giver_28 rfl (lv_at hl 0 rfl) ?_
      refine va_get (D := D) (ci := ciMo) (v := .int (nI 2)) (C := RM) (T := TM) (N := 9) hx hb hts inM hown hK.1 hP 0 rfl rfl 0 (by decide) (hts _ wd_399) (fun _ h9 => h9) rfl d_M_giver_29 ?_
      refine lv_if_le (tgt := 39) hx hb d_M_giver_32 (by decide) (fun c32 => ?_) (fun c32 => ?_)
      · skip
        exact absurd c32 (by decide)
      · skip
        refine lv_iconst (v := nI 0) hx hb d_M_giver_35 (by decide) ?_
        refine lv_goto (tgt := 45) hx hb d_M_giver_36 (by decide) ?_
        exact hret _ _ _ _ _ _ _ _ d_M_giver_45 ⟨fun h => absurd h (by simp [cdVa, c6, c17]), by rw [show cdVa th x y = 2 by simp [cdVa, c6, c17]]⟩ hP hD hS (by decide) (by decide)
  · skip
    have c6 := b_of0 c6
    refine lv_iconst (v := nI 1) hx hb d_M_giver_9 (by decide) ?_
    refine lv_goto (tgt := 25) hx hb d_M_giver_10 (by decide) ?_
    refine va_put (D := D) (ci := ciMo) (v := .int (nI 1)) (ty := .int) (C := RM) (T := TM) (N := 9) hx hb hts inM tyM ttM nnM hown hK.1 hP hD hS 0 rfl rfl 0 (by decide) (hts _ wd_399) (fun _ h9 => h9) rfl (by decide +kernel) rfl rfl (Nat.le_of_ble_eq_true rfl) d_M_giver_25 (fun H locs hP hD hS => ?_)
    have hP : va_P D vwCl (mdW k b (nI 1) ki ba ow uu te ma va wa) H := hP
    have hD : va_D A (mdW k b (nI 1) ki ba ow uu te ma va wa) := hD
    refine lv_aload_n hx hb d_M_giver_28 rfl (lv_at hl 0 rfl) ?_
    refine va_get (D := D) (ci := ciMo) (v := .int (nI 1)) (C := RM) (T := TM) (N := 9) hx hb hts inM hown hK.1 hP 0 rfl rfl 0 (by decide) (hts _ wd_399) (fun _ h9 => h9) rfl d_M_giver_29 ?_
    refine lv_if_le (tgt := 39) hx hb d_M_giver_32 (by decide) (fun c32 => ?_) (fun c32 => ?_)
    · skip
      exact absurd c32 (by decide)
    · skip
      refine lv_iconst (v := nI 0) hx hb d_M_giver_35 (by decide) ?_
      refine lv_goto (tgt := 45) hx hb d_M_giver_36 (by decide) ?_
      exact hret _ _ _ _ _ _ _ _ d_M_giver_45 ⟨fun h => absurd h (by simp [cdVa, c6]), by rw [show cdVa th x y = 1 by simp [cdVa, c6]]⟩ hP hD hS (by decide) (by decide)

set_option maxRecDepth 100000 in
set_option maxHeartbeats 4000000 in
theorem c_Mget (l : Launch) (D : va_G) (k : Nat → ClassId) (b : Nat → Nat) (cd : Int32) (ki ba ow uu te ma va wa : Nat → Int32) (th kd bs us sth mk : Nat → Int32) (M sM : Nat → Nat → Int32) (hR : RI th kd bs us sth mk M sM ki ba ow uu te ma va) (x y : Int32) (sz : Nat) : bMI l y_M_get (wY y_M_get b_M_get 3 (some .int)) (rm9 4 0 0) D (tsK k) (mdW k b cd ki ba ow uu te ma va wa) sz [.ref (b 0), .int x, .int y] (fun v w => (cdGe sth x y = 0 → v = sM x.toNatClampNeg y.toNatClampNeg) ∧ w = mdW k b (nI (cdGe sth x y)) ki ba ow uu te ma va wa) 0 0 := by
  refine ent_i (cc := b_M_get) (maxL := 3) (ty := .int) (by decide) (Nat.le_of_ble_eq_true rfl) (fun _ _ _ => rfl) ?_
  intro p e s m args below meth c A Q ls hx hb hml hown hts hsz hA hP hD hS hK hl hret
  refine lv_aload_n hx hb d_M_get_0 rfl (lv_at hl 0 rfl) ?_
  refine lv_aload_n hx hb d_M_get_1 rfl (lv_at hl 0 rfl) ?_
  refine lv_iload_n hx hb d_M_get_2 rfl (lv_at hl 1 rfl) ?_
  refine cal_i (wc := mdW k b cd ki ba ow uu te ma va wa) (wr := []) (va_runV (As := [.int x]) (rest := [.ref (b 0)]) ⟨hx, hb, hml, hown, hts⟩ (c_MisSet l D k b cd ki ba ow uu te ma va wa sth hR.2.2.2.1 x s.heap.size) (cwV9 1 hts wd_508 wd_505 wd_507 ws_28 wd_4 (by decide) ⟨Nat.le_of_ble_eq_true rfl, Nat.le_of_ble_eq_true rfl⟩) (prV (q0 := 0) (ci := ciMo) hK hP hD (pm_nil' _) rfl rfl) rfl rfl hl.1 rfl (lv_room (Nat.le_of_ble_eq_true rfl)) d_M_get_3 ⟨by decide, by decide⟩) (pm_nil' _) hP hD hS hA (fun r w1 H locs hw hpd hS => ?_)
  obtain ⟨rfl, rfl⟩ := hw
  obtain ⟨hP, hD⟩ := hpd (mdW k b cd ki ba ow uu te ma va wa) (pm_nil _)
  refine lv_if_ne (tgt := 13) hx hb d_M_get_6 (by decide) (fun c6 => ?_) (fun c6 => ?_)
  · skip
    have c6 := b_of1 c6
    refine lv_iload_n hx hb d_M_get_13 rfl (lv_at hl 2 rfl) ?_
    refine cal_i (wc := []) (wr := mdW k b cd ki ba ow uu te ma va wa) (va_runS (As := [.int y]) (rest := [.ref (b 0)]) ⟨hx, hb, hml, hown, hts⟩ (c_MisProperty l D k y H.size) (cwS9 1 hts wd_467 wd_465 wd_466 wd_4 (by decide) ⟨Nat.le_of_ble_eq_true rfl, Nat.le_of_ble_eq_true rfl⟩) (prS hK hP hD (List.Perm.refl _)) rfl rfl hl.1 rfl (lv_room (Nat.le_of_ble_eq_true rfl)) d_M_get_14 ⟨by decide, by decide⟩) (List.Perm.refl _) hP hD hS hA (fun r w1 H locs hw hpd hS => ?_)
    obtain ⟨rfl, rfl⟩ := hw
    obtain ⟨hP, hD⟩ := hpd (mdW k b cd ki ba ow uu te ma va wa) (List.Perm.refl _)
    refine lv_if_ne (tgt := 24) hx hb d_M_get_17 (by decide) (fun c17 => ?_) (fun c17 => ?_)
    · skip
      have c17 := b_of1 c17
      refine lv_iconst (v := nI 0) hx hb d_M_get_24 (by decide) ?_
      refine va_put (D := D) (ci := ciMo) (v := .int (nI 0)) (ty := .int) (C := RM) (T := TM) (N := 9) hx hb hts inM tyM ttM nnM hown hK.1 hP hD hS 0 rfl rfl 0 (by decide) (hts _ wd_399) (fun _ h9 => h9) rfl (by decide +kernel) rfl rfl (Nat.le_of_ble_eq_true rfl) d_M_get_25 (fun H locs hP hD hS => ?_)
      have hP : va_P D vwCl (mdW k b (nI 0) ki ba ow uu te ma va wa) H := hP
      have hD : va_D A (mdW k b (nI 0) ki ba ow uu te ma va wa) := hD
      refine lv_aload_n hx hb d_M_get_28 rfl (lv_at hl 0 rfl) ?_
      refine va_get (D := D) (ci := ciMo) (v := .int (nI 0)) (C := RM) (T := TM) (N := 9) hx hb hts inM hown hK.1 hP 0 rfl rfl 0 (by decide) (hts _ wd_399) (fun _ h9 => h9) rfl d_M_get_29 ?_
      refine lv_if_le (tgt := 39) hx hb d_M_get_32 (by decide) (fun c32 => ?_) (fun c32 => ?_)
      · skip
        obtain ⟨s0, hs0, rfl, hs0t⟩ := hsB_t (by decide) c6
        obtain ⟨p9, hp9, rfl⟩ := prB_t c17
        refine lv_aload_n hx hb d_M_get_39 rfl (lv_at hl 0 rfl) ?_
        refine va_get (D := D) (ci := ciMo) (v := .ref (b 7)) (C := RM) (T := TM) (N := 9) hx hb hts inM hown hK.1 hP 0 rfl rfl 7 (by decide) (hts _ wd_406) (fun _ h9 => h9) rfl d_M_get_40 ?_
        refine lv_bipush (v := nI 24) hx hb d_M_get_43 (by decide) ?_
        refine lv_iload_n hx hb d_M_get_45 rfl (lv_at hl 1 rfl) ?_
        refine lv_imul hx hb d_M_get_46 ?_
        rw [pk_mul]
        refine lv_iload_n hx hb d_M_get_47 rfl (lv_at hl 2 rfl) ?_
        refine lv_iadd hx hb d_M_get_48 ?_
        rw [nI_add]
        refine rw_iald hx hb hK.1 hP 7 0 rfl rfl (j := ((24 * s0) + p9)) (by omega) (by decide) d_M_get_49 ?_
        exact hret _ _ _ _ _ _ _ _ d_M_get_50 ⟨fun _ => by rw [nI_clamp (show s0 < 2 ^ 31 by omega), nI_clamp (show p9 < 2 ^ 31 by omega)]; exact hR.2.2.2.2.2 s0 p9 hs0 hp9 hs0t, by rw [show cdGe sth (nI s0) (nI p9) = 0 by simp [cdGe, c6, c17]]⟩ hP hD hS (by decide) (by decide)
      · skip
        exact absurd (by decide) c32
    · skip
      have c17 := b_of0 c17
      refine lv_iconst (v := nI 2) hx hb d_M_get_20 (by decide) ?_
      refine lv_goto (tgt := 25) hx hb d_M_get_21 (by decide) ?_
      refine va_put (D := D) (ci := ciMo) (v := .int (nI 2)) (ty := .int) (C := RM) (T := TM) (N := 9) hx hb hts inM tyM ttM nnM hown hK.1 hP hD hS 0 rfl rfl 0 (by decide) (hts _ wd_399) (fun _ h9 => h9) rfl (by decide +kernel) rfl rfl (Nat.le_of_ble_eq_true rfl) d_M_get_25 (fun H locs hP hD hS => ?_)
      have hP : va_P D vwCl (mdW k b (nI 2) ki ba ow uu te ma va wa) H := hP
      have hD : va_D A (mdW k b (nI 2) ki ba ow uu te ma va wa) := hD
      refine lv_aload_n hx hb d_M_get_28 rfl (lv_at hl 0 rfl) ?_
      refine va_get (D := D) (ci := ciMo) (v := .int (nI 2)) (C := RM) (T := TM) (N := 9) hx hb hts inM hown hK.1 hP 0 rfl rfl 0 (by decide) (hts _ wd_399) (fun _ h9 => h9) rfl d_M_get_29 ?_
      refine lv_if_le (tgt := 39) hx hb d_M_get_32 (by decide) (fun c32 => ?_) (fun c32 => ?_)
      · skip
        exact absurd c32 (by decide)
      · skip
        refine lv_iconst (v := nI 0) hx hb d_M_get_35 (by decide) ?_
        refine lv_goto (tgt := 50) hx hb d_M_get_36 (by decide) ?_
        exact hret _ _ _ _ _ _ _ _ d_M_get_50 ⟨fun h => absurd h (by simp [cdGe, c6, c17]), by rw [show cdGe sth x y = 2 by simp [cdGe, c6, c17]]⟩ hP hD hS (by decide) (by decide)
  · skip
    have c6 := b_of0 c6
    refine lv_iconst (v := nI 1) hx hb d_M_get_9 (by decide) ?_
    refine lv_goto (tgt := 25) hx hb d_M_get_10 (by decide) ?_
    refine va_put (D := D) (ci := ciMo) (v := .int (nI 1)) (ty := .int) (C := RM) (T := TM) (N := 9) hx hb hts inM tyM ttM nnM hown hK.1 hP hD hS 0 rfl rfl 0 (by decide) (hts _ wd_399) (fun _ h9 => h9) rfl (by decide +kernel) rfl rfl (Nat.le_of_ble_eq_true rfl) d_M_get_25 (fun H locs hP hD hS => ?_)
    have hP : va_P D vwCl (mdW k b (nI 1) ki ba ow uu te ma va wa) H := hP
    have hD : va_D A (mdW k b (nI 1) ki ba ow uu te ma va wa) := hD
    refine lv_aload_n hx hb d_M_get_28 rfl (lv_at hl 0 rfl) ?_
    refine va_get (D := D) (ci := ciMo) (v := .int (nI 1)) (C := RM) (T := TM) (N := 9) hx hb hts inM hown hK.1 hP 0 rfl rfl 0 (by decide) (hts _ wd_399) (fun _ h9 => h9) rfl d_M_get_29 ?_
    refine lv_if_le (tgt := 39) hx hb d_M_get_32 (by decide) (fun c32 => ?_) (fun c32 => ?_)
    · skip
      exact absurd c32 (by decide)
    · skip
      refine lv_iconst (v := nI 0) hx hb d_M_get_35 (by decide) ?_
      refine lv_goto (tgt := 50) hx hb d_M_get_36 (by decide) ?_
      exact hret _ _ _ _ _ _ _ _ d_M_get_50 ⟨fun h => absurd h (by simp [cdGe, c6]), by rw [show cdGe sth x y = 1 by simp [cdGe, c6]]⟩ hP hD hS (by decide) (by decide)

set_option maxRecDepth 100000 in
set_option maxHeartbeats 4000000 in
theorem c_Mresolve (l : Launch) (D : va_G) (k : Nat → ClassId) (b : Nat → Nat) (cd : Int32) (ki ba ow uu te ma va wa : Nat → Int32) (th kd bs us sth mk : Nat → Int32) (M sM : Nat → Nat → Int32) (hR : RI th kd bs us sth mk M sM ki ba ow uu te ma va) (x c9 q9 y : Int32) (sz : Nat) : bMI l y_M_resolve (wY y_M_resolve b_M_resolve 5 (some .int)) (rm9 6 0 0) D (tsK k) (mdW k b cd ki ba ow uu te ma va wa) sz [.ref (b 0), .int x, .int c9, .int q9, .int y] (fun v w => (cdRe th kd sth x c9 q9 y = 0 → v = rsF th bs us M sM x.toNatClampNeg c9 q9 y.toNatClampNeg) ∧ w = mdW k b (nI (cdRe th kd sth x c9 q9 y)) ki ba ow uu te ma va wa) 0 0 := by
  refine ent_i (cc := b_M_resolve) (maxL := 5) (ty := .int) (by decide) (Nat.le_of_ble_eq_true rfl) (fun _ _ _ => rfl) ?_
  intro p e s m args below meth c A Q ls hx hb hml hown hts hsz hA hP hD hS hK hl hret
  refine lv_aload_n hx hb d_M_resolve_0 rfl (lv_at hl 0 rfl) ?_
  refine lv_aload_n hx hb d_M_resolve_1 rfl (lv_at hl 0 rfl) ?_
  refine lv_iload_n hx hb d_M_resolve_2 rfl (lv_at hl 1 rfl) ?_
  refine cal_i (wc := mdW k b cd ki ba ow uu te ma va wa) (wr := []) (va_runV (As := [.int x]) (rest := [.ref (b 0)]) ⟨hx, hb, hml, hown, hts⟩ (c_MisSet l D k b cd ki ba ow uu te ma va wa sth hR.2.2.2.1 x s.heap.size) (cwV9 1 hts wd_508 wd_505 wd_507 ws_28 wd_4 (by decide) ⟨Nat.le_of_ble_eq_true rfl, Nat.le_of_ble_eq_true rfl⟩) (prV (q0 := 0) (ci := ciMo) hK hP hD (pm_nil' _) rfl rfl) rfl rfl hl.1 rfl (lv_room (Nat.le_of_ble_eq_true rfl)) d_M_resolve_3 ⟨by decide, by decide⟩) (pm_nil' _) hP hD hS hA (fun r w1 H locs hw hpd hS => ?_)
  obtain ⟨rfl, rfl⟩ := hw
  obtain ⟨hP, hD⟩ := hpd (mdW k b cd ki ba ow uu te ma va wa) (pm_nil _)
  refine lv_if_ne (tgt := 13) hx hb d_M_resolve_6 (by decide) (fun c6 => ?_) (fun c6 => ?_)
  · skip
    have c6 := b_of1 c6
    refine lv_aload_n hx hb d_M_resolve_13 rfl (lv_at hl 0 rfl) ?_
    refine lv_iload_n hx hb d_M_resolve_14 rfl (lv_at hl 2 rfl) ?_
    refine lv_iload_n hx hb d_M_resolve_15 rfl (lv_at hl 3 rfl) ?_
    refine cal_i (wc := mdW k b cd ki ba ow uu te ma va wa) (wr := []) (va_runV (As := [.int c9, .int q9]) (rest := [.ref (b 0)]) ⟨hx, hb, hml, hown, hts⟩ (c_MareStyles l D k b cd ki ba ow uu te ma va wa th kd bs us sth mk M sM hR c9 q9 H.size) (cwV9 2 hts wd_532 wd_529 wd_531 ws_32 wd_4 (by decide) ⟨Nat.le_of_ble_eq_true rfl, Nat.le_of_ble_eq_true rfl⟩) (prV (q0 := 0) (ci := ciMo) hK hP hD (pm_nil' _) rfl rfl) rfl rfl hl.1 rfl (lv_room (Nat.le_of_ble_eq_true rfl)) d_M_resolve_16 ⟨by decide, by decide⟩) (pm_nil' _) hP hD hS hA (fun r w1 H locs hw hpd hS => ?_)
    obtain ⟨rfl, rfl⟩ := hw
    obtain ⟨hP, hD⟩ := hpd (mdW k b cd ki ba ow uu te ma va wa) (pm_nil _)
    refine lv_if_eq (tgt := 30) hx hb d_M_resolve_19 (by decide) (fun c19 => ?_) (fun c19 => ?_)
    · skip
      have c19 := b_of0 c19
      refine lv_iconst (v := nI 2) hx hb d_M_resolve_30 (by decide) ?_
      refine lv_goto (tgt := 35) hx hb d_M_resolve_31 (by decide) ?_
      refine va_put (D := D) (ci := ciMo) (v := .int (nI 2)) (ty := .int) (C := RM) (T := TM) (N := 9) hx hb hts inM tyM ttM nnM hown hK.1 hP hD hS 0 rfl rfl 0 (by decide) (hts _ wd_399) (fun _ h9 => h9) rfl (by decide +kernel) rfl rfl (Nat.le_of_ble_eq_true rfl) d_M_resolve_35 (fun H locs hP hD hS => ?_)
      have hP : va_P D vwCl (mdW k b (nI 2) ki ba ow uu te ma va wa) H := hP
      have hD : va_D A (mdW k b (nI 2) ki ba ow uu te ma va wa) := hD
      refine lv_aload_n hx hb d_M_resolve_38 rfl (lv_at hl 0 rfl) ?_
      refine va_get (D := D) (ci := ciMo) (v := .int (nI 2)) (C := RM) (T := TM) (N := 9) hx hb hts inM hown hK.1 hP 0 rfl rfl 0 (by decide) (hts _ wd_399) (fun _ h9 => h9) rfl d_M_resolve_39 ?_
      refine lv_if_le (tgt := 49) hx hb d_M_resolve_42 (by decide) (fun c42 => ?_) (fun c42 => ?_)
      · skip
        exact absurd c42 (by decide)
      · skip
        refine lv_iconst (v := nI 0) hx hb d_M_resolve_45 (by decide) ?_
        refine lv_goto (tgt := 58) hx hb d_M_resolve_46 (by decide) ?_
        rcases Bool.and_eq_false_iff.mp c19 with q | q
        · exact hret _ _ _ _ _ _ _ _ d_M_resolve_58 ⟨fun h => absurd h (by simp [cdRe, c6, q]), by rw [show cdRe th kd sth x c9 q9 y = 2 by simp [cdRe, c6, q]]⟩ hP hD hS (by decide) (by decide)
        · by_cases q1 : okB th kd c9 (nI 0) = true
          · exact hret _ _ _ _ _ _ _ _ d_M_resolve_58 ⟨fun h => absurd h (by simp [cdRe, c6, q1, q]), by rw [show cdRe th kd sth x c9 q9 y = 2 by simp [cdRe, c6, q1, q]]⟩ hP hD hS (by decide) (by decide)
          · exact hret _ _ _ _ _ _ _ _ d_M_resolve_58 ⟨fun h => absurd h (by simp [cdRe, c6, q1]), by rw [show cdRe th kd sth x c9 q9 y = 2 by simp [cdRe, c6, q1]]⟩ hP hD hS (by decide) (by decide)
    · skip
      have c19 := b_of1 c19
      refine lv_iload hx hb d_M_resolve_22 (lv_at hl 4 rfl) ?_
      refine cal_i (wc := []) (wr := mdW k b cd ki ba ow uu te ma va wa) (va_runS (As := [.int y]) (rest := [.ref (b 0)]) ⟨hx, hb, hml, hown, hts⟩ (c_MisProperty l D k y H.size) (cwS9 1 hts wd_467 wd_465 wd_466 wd_4 (by decide) ⟨Nat.le_of_ble_eq_true rfl, Nat.le_of_ble_eq_true rfl⟩) (prS hK hP hD (List.Perm.refl _)) rfl rfl hl.1 rfl (lv_room (Nat.le_of_ble_eq_true rfl)) d_M_resolve_24 ⟨by decide, by decide⟩) (List.Perm.refl _) hP hD hS hA (fun r w1 H locs hw hpd hS => ?_)
      obtain ⟨rfl, rfl⟩ := hw
      obtain ⟨hP, hD⟩ := hpd (mdW k b cd ki ba ow uu te ma va wa) (List.Perm.refl _)
      refine lv_if_ne (tgt := 34) hx hb d_M_resolve_27 (by decide) (fun c27 => ?_) (fun c27 => ?_)
      · skip
        have c27 := b_of1 c27
        refine lv_iconst (v := nI 0) hx hb d_M_resolve_34 (by decide) ?_
        refine va_put (D := D) (ci := ciMo) (v := .int (nI 0)) (ty := .int) (C := RM) (T := TM) (N := 9) hx hb hts inM tyM ttM nnM hown hK.1 hP hD hS 0 rfl rfl 0 (by decide) (hts _ wd_399) (fun _ h9 => h9) rfl (by decide +kernel) rfl rfl (Nat.le_of_ble_eq_true rfl) d_M_resolve_35 (fun H locs hP hD hS => ?_)
        have hP : va_P D vwCl (mdW k b (nI 0) ki ba ow uu te ma va wa) H := hP
        have hD : va_D A (mdW k b (nI 0) ki ba ow uu te ma va wa) := hD
        refine lv_aload_n hx hb d_M_resolve_38 rfl (lv_at hl 0 rfl) ?_
        refine va_get (D := D) (ci := ciMo) (v := .int (nI 0)) (C := RM) (T := TM) (N := 9) hx hb hts inM hown hK.1 hP 0 rfl rfl 0 (by decide) (hts _ wd_399) (fun _ h9 => h9) rfl d_M_resolve_39 ?_
        refine lv_if_le (tgt := 49) hx hb d_M_resolve_42 (by decide) (fun c42 => ?_) (fun c42 => ?_)
        · skip
          obtain ⟨s0, hs0, rfl, hs0t⟩ := hsB_t (by decide) c6
          obtain ⟨p9, hp9, rfl⟩ := prB_t c27
          refine lv_aload_n hx hb d_M_resolve_49 rfl (lv_at hl 0 rfl) ?_
          refine lv_iload_n hx hb d_M_resolve_50 rfl (lv_at hl 1 rfl) ?_
          refine lv_iload_n hx hb d_M_resolve_51 rfl (lv_at hl 2 rfl) ?_
          refine lv_iload_n hx hb d_M_resolve_52 rfl (lv_at hl 3 rfl) ?_
          refine lv_iload hx hb d_M_resolve_53 (lv_at hl 4 rfl) ?_
          refine cal_i (wc := mdW k b (nI 0) ki ba ow uu te ma va wa) (wr := []) (va_runV (As := [.int (nI s0), .int c9, .int q9, .int (nI p9)]) (rest := []) ⟨hx, hb, hml, hown, hts⟩ (c_Mresolved l D k b (nI 0) ki ba ow uu te ma va wa th kd bs us sth mk M sM hR s0 hs0 hs0t c9 (ok_st (Bool.and_eq_true_iff.mp c19).1) q9 (ok_st (Bool.and_eq_true_iff.mp c19).2) p9 hp9 H.size) (cwV9 4 hts wd_556 wd_553 wd_555 ws_35 wd_4 (by decide) ⟨Nat.le_of_ble_eq_true rfl, Nat.le_of_ble_eq_true rfl⟩) (prV (q0 := 0) (ci := ciMo) hK hP hD (pm_nil' _) rfl rfl) rfl rfl hl.1 rfl (lv_room (Nat.le_of_ble_eq_true rfl)) d_M_resolve_55 ⟨by decide, by decide⟩) (pm_nil' _) hP hD hS hA (fun r w1 H locs hw hpd hS => ?_)
          obtain ⟨rfl, rfl⟩ := hw
          obtain ⟨hP, hD⟩ := hpd (mdW k b (nI 0) ki ba ow uu te ma va wa) (pm_nil _)
          exact hret _ _ _ _ _ _ _ _ d_M_resolve_58 ⟨fun _ => by rw [nI_clamp (show s0 < 2 ^ 31 by omega), nI_clamp (show p9 < 2 ^ 31 by omega)], by rw [show cdRe th kd sth (nI s0) c9 q9 (nI p9) = 0 by simp [cdRe, c6, (Bool.and_eq_true_iff.mp c19).1, (Bool.and_eq_true_iff.mp c19).2, c27]]⟩ hP hD hS (by decide) (by decide)
        · skip
          exact absurd (by decide) c42
      · skip
        have c27 := b_of0 c27
        refine lv_iconst (v := nI 2) hx hb d_M_resolve_30 (by decide) ?_
        refine lv_goto (tgt := 35) hx hb d_M_resolve_31 (by decide) ?_
        refine va_put (D := D) (ci := ciMo) (v := .int (nI 2)) (ty := .int) (C := RM) (T := TM) (N := 9) hx hb hts inM tyM ttM nnM hown hK.1 hP hD hS 0 rfl rfl 0 (by decide) (hts _ wd_399) (fun _ h9 => h9) rfl (by decide +kernel) rfl rfl (Nat.le_of_ble_eq_true rfl) d_M_resolve_35 (fun H locs hP hD hS => ?_)
        have hP : va_P D vwCl (mdW k b (nI 2) ki ba ow uu te ma va wa) H := hP
        have hD : va_D A (mdW k b (nI 2) ki ba ow uu te ma va wa) := hD
        refine lv_aload_n hx hb d_M_resolve_38 rfl (lv_at hl 0 rfl) ?_
        refine va_get (D := D) (ci := ciMo) (v := .int (nI 2)) (C := RM) (T := TM) (N := 9) hx hb hts inM hown hK.1 hP 0 rfl rfl 0 (by decide) (hts _ wd_399) (fun _ h9 => h9) rfl d_M_resolve_39 ?_
        refine lv_if_le (tgt := 49) hx hb d_M_resolve_42 (by decide) (fun c42 => ?_) (fun c42 => ?_)
        · skip
          exact absurd c42 (by decide)
        · skip
          refine lv_iconst (v := nI 0) hx hb d_M_resolve_45 (by decide) ?_
          refine lv_goto (tgt := 58) hx hb d_M_resolve_46 (by decide) ?_
          exact hret _ _ _ _ _ _ _ _ d_M_resolve_58 ⟨fun h => absurd h (by simp [cdRe, c6, (Bool.and_eq_true_iff.mp c19).1, (Bool.and_eq_true_iff.mp c19).2, c27]), by rw [show cdRe th kd sth x c9 q9 y = 2 by simp [cdRe, c6, (Bool.and_eq_true_iff.mp c19).1, (Bool.and_eq_true_iff.mp c19).2, c27]]⟩ hP hD hS (by decide) (by decide)
  · skip
    have c6 := b_of0 c6
    refine lv_iconst (v := nI 1) hx hb d_M_resolve_9 (by decide) ?_
    refine lv_goto (tgt := 35) hx hb d_M_resolve_10 (by decide) ?_
    refine va_put (D := D) (ci := ciMo) (v := .int (nI 1)) (ty := .int) (C := RM) (T := TM) (N := 9) hx hb hts inM tyM ttM nnM hown hK.1 hP hD hS 0 rfl rfl 0 (by decide) (hts _ wd_399) (fun _ h9 => h9) rfl (by decide +kernel) rfl rfl (Nat.le_of_ble_eq_true rfl) d_M_resolve_35 (fun H locs hP hD hS => ?_)
    have hP : va_P D vwCl (mdW k b (nI 1) ki ba ow uu te ma va wa) H := hP
    have hD : va_D A (mdW k b (nI 1) ki ba ow uu te ma va wa) := hD
    refine lv_aload_n hx hb d_M_resolve_38 rfl (lv_at hl 0 rfl) ?_
    refine va_get (D := D) (ci := ciMo) (v := .int (nI 1)) (C := RM) (T := TM) (N := 9) hx hb hts inM hown hK.1 hP 0 rfl rfl 0 (by decide) (hts _ wd_399) (fun _ h9 => h9) rfl d_M_resolve_39 ?_
    refine lv_if_le (tgt := 49) hx hb d_M_resolve_42 (by decide) (fun c42 => ?_) (fun c42 => ?_)
    · skip
      exact absurd c42 (by decide)
    · skip
      refine lv_iconst (v := nI 0) hx hb d_M_resolve_45 (by decide) ?_
      refine lv_goto (tgt := 58) hx hb d_M_resolve_46 (by decide) ?_
      exact hret _ _ _ _ _ _ _ _ d_M_resolve_58 ⟨fun h => absurd h (by simp [cdRe, c6]), by rw [show cdRe th kd sth x c9 q9 y = 1 by simp [cdRe, c6]]⟩ hP hD hS (by decide) (by decide)

set_option maxRecDepth 100000 in
set_option maxHeartbeats 4000000 in
theorem c_Mdiffer (l : Launch) (D : va_G) (k : Nat → ClassId) (b : Nat → Nat) (cd : Int32) (ki ba ow uu te ma va wa : Nat → Int32) (th kd bs us sth mk : Nat → Int32) (M sM : Nat → Nat → Int32) (hR : RI th kd bs us sth mk M sM ki ba ow uu te ma va) (x y c9 q9 : Int32) (sz : Nat) : bMI l y_M_differ (wY y_M_differ b_M_differ 6 (some .int)) (rm9 6 0 0) D (tsK k) (mdW k b cd ki ba ow uu te ma va wa) sz [.ref (b 0), .int x, .int y, .int c9, .int q9] (fun v w => (cdDi th kd sth x y c9 q9 = 0 → v = fdF (fun i => decide (¬ rsF th bs us M sM x.toNatClampNeg c9 q9 i = rsF th bs us M sM y.toNatClampNeg c9 q9 i)) 24 0) ∧ w = mdW k b (nI (cdDi th kd sth x y c9 q9)) ki ba ow uu te ma va wa) 0 0 := by
  refine ent_i (cc := b_M_differ) (maxL := 6) (ty := .int) (by decide) (Nat.le_of_ble_eq_true rfl) (fun _ _ _ => rfl) ?_
  intro p e s m args below meth c A Q ls hx hb hml hown hts hsz hA hP hD hS hK hl hret
  refine lv_aload_n hx hb d_M_differ_0 rfl (lv_at hl 0 rfl) ?_
  refine lv_aload_n hx hb d_M_differ_1 rfl (lv_at hl 0 rfl) ?_
  refine lv_iload_n hx hb d_M_differ_2 rfl (lv_at hl 1 rfl) ?_
  refine cal_i (wc := mdW k b cd ki ba ow uu te ma va wa) (wr := []) (va_runV (As := [.int x]) (rest := [.ref (b 0)]) ⟨hx, hb, hml, hown, hts⟩ (c_MisSet l D k b cd ki ba ow uu te ma va wa sth hR.2.2.2.1 x s.heap.size) (cwV9 1 hts wd_508 wd_505 wd_507 ws_28 wd_4 (by decide) ⟨Nat.le_of_ble_eq_true rfl, Nat.le_of_ble_eq_true rfl⟩) (prV (q0 := 0) (ci := ciMo) hK hP hD (pm_nil' _) rfl rfl) rfl rfl hl.1 rfl (lv_room (Nat.le_of_ble_eq_true rfl)) d_M_differ_3 ⟨by decide, by decide⟩) (pm_nil' _) hP hD hS hA (fun r w1 H locs hw hpd hS => ?_)
  obtain ⟨rfl, rfl⟩ := hw
  obtain ⟨hP, hD⟩ := hpd (mdW k b cd ki ba ow uu te ma va wa) (pm_nil _)
  refine lv_if_eq (tgt := 17) hx hb d_M_differ_6 (by decide) (fun c6 => ?_) (fun c6 => ?_)
  · skip
    have c6 := b_of0 c6
    refine lv_iconst (v := nI 1) hx hb d_M_differ_17 (by decide) ?_
    refine lv_goto (tgt := 36) hx hb d_M_differ_18 (by decide) ?_
    refine va_put (D := D) (ci := ciMo) (v := .int (nI 1)) (ty := .int) (C := RM) (T := TM) (N := 9) hx hb hts inM tyM ttM nnM hown hK.1 hP hD hS 0 rfl rfl 0 (by decide) (hts _ wd_399) (fun _ h9 => h9) rfl (by decide +kernel) rfl rfl (Nat.le_of_ble_eq_true rfl) d_M_differ_36 (fun H locs hP hD hS => ?_)
    have hP : va_P D vwCl (mdW k b (nI 1) ki ba ow uu te ma va wa) H := hP
    have hD : va_D A (mdW k b (nI 1) ki ba ow uu te ma va wa) := hD
    refine lv_aload_n hx hb d_M_differ_39 rfl (lv_at hl 0 rfl) ?_
    refine va_get (D := D) (ci := ciMo) (v := .int (nI 1)) (C := RM) (T := TM) (N := 9) hx hb hts inM hown hK.1 hP 0 rfl rfl 0 (by decide) (hts _ wd_399) (fun _ h9 => h9) rfl d_M_differ_40 ?_
    refine lv_if_le (tgt := 48) hx hb d_M_differ_43 (by decide) (fun c43 => ?_) (fun c43 => ?_)
    · skip
      exact absurd c43 (by decide)
    · skip
      refine lv_iconst (v := nI 0) hx hb d_M_differ_46 (by decide) ?_
      exact hret _ _ _ _ _ _ _ _ d_M_differ_47 ⟨fun h => absurd h (by simp [cdDi, c6]), by rw [show cdDi th kd sth x y c9 q9 = 1 by simp [cdDi, c6]]⟩ hP hD hS (by decide) (by decide)
  · skip
    have c6 := b_of1 c6
    refine lv_aload_n hx hb d_M_differ_9 rfl (lv_at hl 0 rfl) ?_
    refine lv_iload_n hx hb d_M_differ_10 rfl (lv_at hl 2 rfl) ?_
    refine cal_i (wc := mdW k b cd ki ba ow uu te ma va wa) (wr := []) (va_runV (As := [.int y]) (rest := [.ref (b 0)]) ⟨hx, hb, hml, hown, hts⟩ (c_MisSet l D k b cd ki ba ow uu te ma va wa sth hR.2.2.2.1 y H.size) (cwV9 1 hts wd_508 wd_505 wd_507 ws_28 wd_4 (by decide) ⟨Nat.le_of_ble_eq_true rfl, Nat.le_of_ble_eq_true rfl⟩) (prV (q0 := 0) (ci := ciMo) hK hP hD (pm_nil' _) rfl rfl) rfl rfl hl.1 rfl (lv_room (Nat.le_of_ble_eq_true rfl)) d_M_differ_11 ⟨by decide, by decide⟩) (pm_nil' _) hP hD hS hA (fun r w1 H locs hw hpd hS => ?_)
    obtain ⟨rfl, rfl⟩ := hw
    obtain ⟨hP, hD⟩ := hpd (mdW k b cd ki ba ow uu te ma va wa) (pm_nil _)
    refine lv_if_ne (tgt := 21) hx hb d_M_differ_14 (by decide) (fun c14 => ?_) (fun c14 => ?_)
    · skip
      have c14 := b_of1 c14
      refine lv_aload_n hx hb d_M_differ_21 rfl (lv_at hl 0 rfl) ?_
      refine lv_iload_n hx hb d_M_differ_22 rfl (lv_at hl 3 rfl) ?_
      refine lv_iload hx hb d_M_differ_23 (lv_at hl 4 rfl) ?_
      refine cal_i (wc := mdW k b cd ki ba ow uu te ma va wa) (wr := []) (va_runV (As := [.int c9, .int q9]) (rest := [.ref (b 0)]) ⟨hx, hb, hml, hown, hts⟩ (c_MareStyles l D k b cd ki ba ow uu te ma va wa th kd bs us sth mk M sM hR c9 q9 H.size) (cwV9 2 hts wd_532 wd_529 wd_531 ws_32 wd_4 (by decide) ⟨Nat.le_of_ble_eq_true rfl, Nat.le_of_ble_eq_true rfl⟩) (prV (q0 := 0) (ci := ciMo) hK hP hD (pm_nil' _) rfl rfl) rfl rfl hl.1 rfl (lv_room (Nat.le_of_ble_eq_true rfl)) d_M_differ_25 ⟨by decide, by decide⟩) (pm_nil' _) hP hD hS hA (fun r w1 H locs hw hpd hS => ?_)
      obtain ⟨rfl, rfl⟩ := hw
      obtain ⟨hP, hD⟩ := hpd (mdW k b cd ki ba ow uu te ma va wa) (pm_nil _)
      refine lv_if_ne (tgt := 35) hx hb d_M_differ_28 (by decide) (fun c28 => ?_) (fun c28 => ?_)
      · skip
        have c28 := b_of1 c28
        refine lv_iconst (v := nI 0) hx hb d_M_differ_35 (by decide) ?_
        refine va_put (D := D) (ci := ciMo) (v := .int (nI 0)) (ty := .int) (C := RM) (T := TM) (N := 9) hx hb hts inM tyM ttM nnM hown hK.1 hP hD hS 0 rfl rfl 0 (by decide) (hts _ wd_399) (fun _ h9 => h9) rfl (by decide +kernel) rfl rfl (Nat.le_of_ble_eq_true rfl) d_M_differ_36 (fun H locs hP hD hS => ?_)
        have hP : va_P D vwCl (mdW k b (nI 0) ki ba ow uu te ma va wa) H := hP
        have hD : va_D A (mdW k b (nI 0) ki ba ow uu te ma va wa) := hD
        refine lv_aload_n hx hb d_M_differ_39 rfl (lv_at hl 0 rfl) ?_
        refine va_get (D := D) (ci := ciMo) (v := .int (nI 0)) (C := RM) (T := TM) (N := 9) hx hb hts inM hown hK.1 hP 0 rfl rfl 0 (by decide) (hts _ wd_399) (fun _ h9 => h9) rfl d_M_differ_40 ?_
        refine lv_if_le (tgt := 48) hx hb d_M_differ_43 (by decide) (fun c43 => ?_) (fun c43 => ?_)
        · skip
          obtain ⟨s0, hs0, rfl, hs0t⟩ := hsB_t (by decide) c6
          obtain ⟨s1, hs1, rfl, hs1t⟩ := hsB_t (by decide) c14
          refine lv_iconst (v := nI 0) hx hb d_M_differ_48 (by decide) ?_
          refine lv_istore (lv' := [(5, .int (nI 0)), (0, .ref (b 0)), (1, .int (nI s0)), (2, .int (nI s1)), (3, .int c9), (4, .int q9)]) hx hb d_M_differ_49 hl (by decide) rfl (fun ls hl => ?_)
          have lp : ∀ (n9 : Nat) (i : Nat) (ls : Array Slot) (H : Heap) (locs : List Loc), 24 - i < n9 → (i ≤ 24) → (fdF (fun i => decide (¬ rsF th bs us M sM s0 c9 q9 i = rsF th bs us M sM s1 c9 q9 i)) 24 0 = fdF (fun i => decide (¬ rsF th bs us M sM s0 c9 q9 i = rsF th bs us M sM s1 c9 q9 i)) (24 - i) i) → va_P D vwCl (mdW k b (nI 0) ki ba ow uu te ma va wa) H → va_D A (mdW k b (nI 0) ki ba ow uu te ma va wa) → va_S A s.heap H locs → lv_has ls 6 [(0, .ref (b 0)), (1, .int (nI s0)), (2, .int (nI s1)), (3, .int c9), (4, .int q9), (5, .int (nI i))] → W p l e (rm9 6 0 0) s m args below meth c H locs 0 0 Q (F0 m 51 ls []) := by
            intro n9
            induction n9 with
            | zero => intro i ls H locs hm; omega
            | succ n9 ih =>
              intro i ls H locs hm hi hf hP hD hS hl
              refine lv_iload hx hb d_M_differ_51 (lv_at hl 5 rfl) ?_
              refine lv_bipush (v := nI 24) hx hb d_M_differ_53 (by decide) ?_
              refine lv_icmp_ge (tgt := 87) hx hb d_M_differ_55 (by decide) (fun c55 => ?_) (fun c55 => ?_)
              · skip
                rw [nI_leI (by omega) (by omega)] at c55
                refine lv_iload hx hb d_M_differ_87 (lv_at hl 5 rfl) ?_
                refine lv_bipush (v := nI 24) hx hb d_M_differ_89 (by decide) ?_
                refine lv_icmp_ge (tgt := 99) hx hb d_M_differ_91 (by decide) (fun c91 => ?_) (fun c91 => ?_)
                · skip
                  rw [nI_leI (by omega) (by omega)] at c91
                  refine lv_iconst (v := -1) hx hb d_M_differ_99 (by decide) ?_
                  exact hret _ _ _ _ _ _ _ _ d_M_differ_100 ⟨fun _ => by rw [nI_clamp (show s0 < 2 ^ 31 by omega), nI_clamp (show s1 < 2 ^ 31 by omega), hf, fdF_end (by omega)], by rw [show cdDi th kd sth (nI s0) (nI s1) c9 q9 = 0 by simp [cdDi, c6, c14, (Bool.and_eq_true_iff.mp c28).1, (Bool.and_eq_true_iff.mp c28).2]]⟩ hP hD hS (by decide) (by decide)
                · skip
                  rw [nI_leI (by omega) (by omega)] at c91
                  exact absurd (by omega) c91
              · skip
                rw [nI_leI (by omega) (by omega)] at c55
                refine lv_aload_n hx hb d_M_differ_58 rfl (lv_at hl 0 rfl) ?_
                refine lv_iload_n hx hb d_M_differ_59 rfl (lv_at hl 1 rfl) ?_
                refine lv_iload_n hx hb d_M_differ_60 rfl (lv_at hl 3 rfl) ?_
                refine lv_iload hx hb d_M_differ_61 (lv_at hl 4 rfl) ?_
                refine lv_iload hx hb d_M_differ_63 (lv_at hl 5 rfl) ?_
                refine cal_i (wc := mdW k b (nI 0) ki ba ow uu te ma va wa) (wr := []) (va_runV (As := [.int (nI s0), .int c9, .int q9, .int (nI i)]) (rest := []) ⟨hx, hb, hml, hown, hts⟩ (c_Mresolved l D k b (nI 0) ki ba ow uu te ma va wa th kd bs us sth mk M sM hR s0 hs0 hs0t c9 (ok_st (Bool.and_eq_true_iff.mp c28).1) q9 (ok_st (Bool.and_eq_true_iff.mp c28).2) i (by omega) H.size) (cwV9 4 hts wd_556 wd_553 wd_555 ws_35 wd_4 (by decide) ⟨Nat.le_of_ble_eq_true rfl, Nat.le_of_ble_eq_true rfl⟩) (prV (q0 := 0) (ci := ciMo) hK hP hD (pm_nil' _) rfl rfl) rfl rfl hl.1 rfl (lv_room (Nat.le_of_ble_eq_true rfl)) d_M_differ_65 ⟨by decide, by decide⟩) (pm_nil' _) hP hD hS hA (fun r w1 H locs hw hpd hS => ?_)
                obtain ⟨rfl, rfl⟩ := hw
                obtain ⟨hP, hD⟩ := hpd (mdW k b (nI 0) ki ba ow uu te ma va wa) (pm_nil _)
                refine lv_aload_n hx hb d_M_differ_68 rfl (lv_at hl 0 rfl) ?_
                refine lv_iload_n hx hb d_M_differ_69 rfl (lv_at hl 2 rfl) ?_
                refine lv_iload_n hx hb d_M_differ_70 rfl (lv_at hl 3 rfl) ?_
                refine lv_iload hx hb d_M_differ_71 (lv_at hl 4 rfl) ?_
                refine lv_iload hx hb d_M_differ_73 (lv_at hl 5 rfl) ?_
                refine cal_i (wc := mdW k b (nI 0) ki ba ow uu te ma va wa) (wr := []) (va_runV (As := [.int (nI s1), .int c9, .int q9, .int (nI i)]) (rest := [.int (rsF th bs us M sM s0 c9 q9 i)]) ⟨hx, hb, hml, hown, hts⟩ (c_Mresolved l D k b (nI 0) ki ba ow uu te ma va wa th kd bs us sth mk M sM hR s1 hs1 hs1t c9 (ok_st (Bool.and_eq_true_iff.mp c28).1) q9 (ok_st (Bool.and_eq_true_iff.mp c28).2) i (by omega) H.size) (cwV9 4 hts wd_556 wd_553 wd_555 ws_35 wd_4 (by decide) ⟨Nat.le_of_ble_eq_true rfl, Nat.le_of_ble_eq_true rfl⟩) (prV (q0 := 0) (ci := ciMo) hK hP hD (pm_nil' _) rfl rfl) rfl rfl hl.1 rfl (lv_room (Nat.le_of_ble_eq_true rfl)) d_M_differ_75 ⟨by decide, by decide⟩) (pm_nil' _) hP hD hS hA (fun r w1 H locs hw hpd hS => ?_)
                obtain ⟨rfl, rfl⟩ := hw
                obtain ⟨hP, hD⟩ := hpd (mdW k b (nI 0) ki ba ow uu te ma va wa) (pm_nil _)
                refine lv_icmp_ne (tgt := 87) hx hb d_M_differ_78 (by decide) (fun c78 => ?_) (fun c78 => ?_)
                · skip
                  refine lv_iload hx hb d_M_differ_87 (lv_at hl 5 rfl) ?_
                  refine lv_bipush (v := nI 24) hx hb d_M_differ_89 (by decide) ?_
                  refine lv_icmp_ge (tgt := 99) hx hb d_M_differ_91 (by decide) (fun c91 => ?_) (fun c91 => ?_)
                  · skip
                    rw [nI_leI (by omega) (by omega)] at c91
                    omega
                  · skip
                    rw [nI_leI (by omega) (by omega)] at c91
                    refine lv_iload hx hb d_M_differ_94 (lv_at hl 5 rfl) ?_
                    refine lv_goto (tgt := 100) hx hb d_M_differ_96 (by decide) ?_
                    exact hret _ _ _ _ _ _ _ _ d_M_differ_100 ⟨fun _ => by rw [nI_clamp (show s0 < 2 ^ 31 by omega), nI_clamp (show s1 < 2 ^ 31 by omega), hf, fdF_hit (by omega) (by simp [c78])], by rw [show cdDi th kd sth (nI s0) (nI s1) c9 q9 = 0 by simp [cdDi, c6, c14, (Bool.and_eq_true_iff.mp c28).1, (Bool.and_eq_true_iff.mp c28).2]]⟩ hP hD hS (by decide) (by decide)
                · skip
                  refine lv_iinc (v := nI (i + 1)) (lv' := [(5, .int (nI (i + 1))), (0, .ref (b 0)), (1, .int (nI s0)), (2, .int (nI s1)), (3, .int c9), (4, .int q9)]) hx hb d_M_differ_81 hl (k := 5) rfl (ii_1 _) (by decide) rfl (fun ls hl => ?_)
                  refine lv_goto (tgt := 51) hx hb d_M_differ_84 (by decide) ?_
                  exact ih (i + 1) ls H locs (by omega) (by omega) (by rw [hf]; exact fdF_miss (by omega) (by simp [c78])) hP hD hS (lv_sub hl [1, 2, 3, 4, 5, 0] rfl)
          exact lp _ (0) ls H locs (Nat.lt_succ_self _) (by decide) rfl hP hD hS (lv_sub hl [1, 2, 3, 4, 5, 0] rfl)
        · skip
          exact absurd (by decide) c43
      · skip
        have c28 := b_of0 c28
        refine lv_iconst (v := nI 2) hx hb d_M_differ_31 (by decide) ?_
        refine lv_goto (tgt := 36) hx hb d_M_differ_32 (by decide) ?_
        refine va_put (D := D) (ci := ciMo) (v := .int (nI 2)) (ty := .int) (C := RM) (T := TM) (N := 9) hx hb hts inM tyM ttM nnM hown hK.1 hP hD hS 0 rfl rfl 0 (by decide) (hts _ wd_399) (fun _ h9 => h9) rfl (by decide +kernel) rfl rfl (Nat.le_of_ble_eq_true rfl) d_M_differ_36 (fun H locs hP hD hS => ?_)
        have hP : va_P D vwCl (mdW k b (nI 2) ki ba ow uu te ma va wa) H := hP
        have hD : va_D A (mdW k b (nI 2) ki ba ow uu te ma va wa) := hD
        refine lv_aload_n hx hb d_M_differ_39 rfl (lv_at hl 0 rfl) ?_
        refine va_get (D := D) (ci := ciMo) (v := .int (nI 2)) (C := RM) (T := TM) (N := 9) hx hb hts inM hown hK.1 hP 0 rfl rfl 0 (by decide) (hts _ wd_399) (fun _ h9 => h9) rfl d_M_differ_40 ?_
        refine lv_if_le (tgt := 48) hx hb d_M_differ_43 (by decide) (fun c43 => ?_) (fun c43 => ?_)
        · skip
          exact absurd c43 (by decide)
        · skip
          refine lv_iconst (v := nI 0) hx hb d_M_differ_46 (by decide) ?_
          rcases Bool.and_eq_false_iff.mp c28 with q | q
          · exact hret _ _ _ _ _ _ _ _ d_M_differ_47 ⟨fun h => absurd h (by simp [cdDi, c6, c14, q]), by rw [show cdDi th kd sth x y c9 q9 = 2 by simp [cdDi, c6, c14, q]]⟩ hP hD hS (by decide) (by decide)
          · by_cases q1 : okB th kd c9 (nI 0) = true
            · exact hret _ _ _ _ _ _ _ _ d_M_differ_47 ⟨fun h => absurd h (by simp [cdDi, c6, c14, q1, q]), by rw [show cdDi th kd sth x y c9 q9 = 2 by simp [cdDi, c6, c14, q1, q]]⟩ hP hD hS (by decide) (by decide)
            · exact hret _ _ _ _ _ _ _ _ d_M_differ_47 ⟨fun h => absurd h (by simp [cdDi, c6, c14, q1]), by rw [show cdDi th kd sth x y c9 q9 = 2 by simp [cdDi, c6, c14, q1]]⟩ hP hD hS (by decide) (by decide)
    · skip
      have c14 := b_of0 c14
      refine lv_iconst (v := nI 1) hx hb d_M_differ_17 (by decide) ?_
      refine lv_goto (tgt := 36) hx hb d_M_differ_18 (by decide) ?_
      refine va_put (D := D) (ci := ciMo) (v := .int (nI 1)) (ty := .int) (C := RM) (T := TM) (N := 9) hx hb hts inM tyM ttM nnM hown hK.1 hP hD hS 0 rfl rfl 0 (by decide) (hts _ wd_399) (fun _ h9 => h9) rfl (by decide +kernel) rfl rfl (Nat.le_of_ble_eq_true rfl) d_M_differ_36 (fun H locs hP hD hS => ?_)
      have hP : va_P D vwCl (mdW k b (nI 1) ki ba ow uu te ma va wa) H := hP
      have hD : va_D A (mdW k b (nI 1) ki ba ow uu te ma va wa) := hD
      refine lv_aload_n hx hb d_M_differ_39 rfl (lv_at hl 0 rfl) ?_
      refine va_get (D := D) (ci := ciMo) (v := .int (nI 1)) (C := RM) (T := TM) (N := 9) hx hb hts inM hown hK.1 hP 0 rfl rfl 0 (by decide) (hts _ wd_399) (fun _ h9 => h9) rfl d_M_differ_40 ?_
      refine lv_if_le (tgt := 48) hx hb d_M_differ_43 (by decide) (fun c43 => ?_) (fun c43 => ?_)
      · skip
        exact absurd c43 (by decide)
      · skip
        refine lv_iconst (v := nI 0) hx hb d_M_differ_46 (by decide) ?_
        exact hret _ _ _ _ _ _ _ _ d_M_differ_47 ⟨fun h => absurd h (by simp [cdDi, c6, c14]), by rw [show cdDi th kd sth x y c9 q9 = 1 by simp [cdDi, c6, c14]]⟩ hP hD hS (by decide) (by decide)

set_option maxRecDepth 100000 in
set_option maxHeartbeats 4000000 in
theorem c_Mown (l : Launch) (D : va_G) (k : Nat → ClassId) (b : Nat → Nat) (cd : Int32) (ki ba ow uu te ma va wa : Nat → Int32) (th kd bs us sth mk : Nat → Int32) (M sM : Nat → Nat → Int32) (hR : RI th kd bs us sth mk M sM ki ba ow uu te ma va) (x y v9 : Int32) (sz : Nat) : bMV l y_M_own (wY y_M_own b_M_own 4 none) (rm9 4 0 0) D (tsK k) (mdW k b cd ki ba ow uu te ma va wa) sz [.ref (b 0), .int x, .int y, .int v9] (fun w => (cdOw th x y v9 = 0 → w = mdW k b (nI 0) ki ba (upd ow (24 * x.toNatClampNeg + y.toNatClampNeg) v9) uu te ma va wa) ∧ (¬ cdOw th x y v9 = 0 → w = mdW k b (nI (cdOw th x y v9)) ki ba ow uu te ma va wa)) 0 0 := by
  refine ent_v (cc := b_M_own) (maxL := 4) (by decide) (Nat.le_of_ble_eq_true rfl) ?_
  intro p e s m args below meth c A Q ls hx hb hml hown hts hsz hA hP hD hS hK hl hnm hret
  refine lv_aload_n hx hb d_M_own_0 rfl (lv_at hl 0 rfl) ?_
  refine lv_aload_n hx hb d_M_own_1 rfl (lv_at hl 0 rfl) ?_
  refine lv_iload_n hx hb d_M_own_2 rfl (lv_at hl 1 rfl) ?_
  refine cal_i (wc := mdW k b cd ki ba ow uu te ma va wa) (wr := []) (va_runV (As := [.int x]) (rest := [.ref (b 0)]) ⟨hx, hb, hml, hown, hts⟩ (c_MisStyle l D k b cd ki ba ow uu te ma va wa th hR.2.1.1 x s.heap.size) (cwV9 1 hts wd_445 wd_442 wd_444 ws_22 wd_4 (by decide) ⟨Nat.le_of_ble_eq_true rfl, Nat.le_of_ble_eq_true rfl⟩) (prV (q0 := 0) (ci := ciMo) hK hP hD (pm_nil' _) rfl rfl) rfl rfl hl.1 rfl (lv_room (Nat.le_of_ble_eq_true rfl)) d_M_own_3 ⟨by decide, by decide⟩) (pm_nil' _) hP hD hS hA (fun r w1 H locs hw hpd hS => ?_)
  obtain ⟨rfl, rfl⟩ := hw
  obtain ⟨hP, hD⟩ := hpd (mdW k b cd ki ba ow uu te ma va wa) (pm_nil _)
  refine lv_if_ne (tgt := 13) hx hb d_M_own_6 (by decide) (fun c6 => ?_) (fun c6 => ?_)
  · skip
    have c6 := b_of1 c6
    refine lv_iload_n hx hb d_M_own_13 rfl (lv_at hl 2 rfl) ?_
    refine lv_iload_n hx hb d_M_own_14 rfl (lv_at hl 3 rfl) ?_
    refine lv_iconst (v := -1) hx hb d_M_own_15 (by decide) ?_
    refine cal_i (wc := []) (wr := mdW k b cd ki ba ow uu te ma va wa) (va_runS (As := [.int y, .int v9, .int (-1)]) (rest := [.ref (b 0)]) ⟨hx, hb, hml, hown, hts⟩ (c_MisValue l D k y v9 (-1) H.size) (cwS9 3 hts wd_464 wd_462 wd_463 wd_4 (by decide) ⟨Nat.le_of_ble_eq_true rfl, Nat.le_of_ble_eq_true rfl⟩) (prS hK hP hD (List.Perm.refl _)) rfl rfl hl.1 rfl (lv_room (Nat.le_of_ble_eq_true rfl)) d_M_own_16 ⟨by decide, by decide⟩) (List.Perm.refl _) hP hD hS hA (fun r w1 H locs hw hpd hS => ?_)
    obtain ⟨rfl, rfl⟩ := hw
    obtain ⟨hP, hD⟩ := hpd (mdW k b cd ki ba ow uu te ma va wa) (List.Perm.refl _)
    refine lv_if_ne (tgt := 26) hx hb d_M_own_19 (by decide) (fun c19 => ?_) (fun c19 => ?_)
    · skip
      have c19 := b_of1 c19
      refine lv_iconst (v := nI 0) hx hb d_M_own_26 (by decide) ?_
      refine va_put (D := D) (ci := ciMo) (v := .int (nI 0)) (ty := .int) (C := RM) (T := TM) (N := 9) hx hb hts inM tyM ttM nnM hown hK.1 hP hD hS 0 rfl rfl 0 (by decide) (hts _ wd_399) (fun _ h9 => h9) rfl (by decide +kernel) rfl rfl (Nat.le_of_ble_eq_true rfl) d_M_own_27 (fun H locs hP hD hS => ?_)
      have hP : va_P D vwCl (mdW k b (nI 0) ki ba ow uu te ma va wa) H := hP
      have hD : va_D A (mdW k b (nI 0) ki ba ow uu te ma va wa) := hD
      refine lv_aload_n hx hb d_M_own_30 rfl (lv_at hl 0 rfl) ?_
      refine va_get (D := D) (ci := ciMo) (v := .int (nI 0)) (C := RM) (T := TM) (N := 9) hx hb hts inM hown hK.1 hP 0 rfl rfl 0 (by decide) (hts _ wd_399) (fun _ h9 => h9) rfl d_M_own_31 ?_
      refine lv_if_ne (tgt := 49) hx hb d_M_own_34 (by decide) (fun c34 => ?_) (fun c34 => ?_)
      · skip
        exact absurd (by decide) c34
      · skip
        have hp := pr_nv c19
        obtain ⟨s0, hs0, rfl, hs0t⟩ := hsB_t (by decide) c6
        obtain ⟨p9, hp9, rfl⟩ := prB_t hp.1
        refine lv_aload_n hx hb d_M_own_37 rfl (lv_at hl 0 rfl) ?_
        refine va_get (D := D) (ci := ciMo) (v := .ref (b 3)) (C := RM) (T := TM) (N := 9) hx hb hts inM hown hK.1 hP 0 rfl rfl 3 (by decide) (hts _ wd_402) (fun _ h9 => h9) rfl d_M_own_38 ?_
        refine lv_bipush (v := nI 24) hx hb d_M_own_41 (by decide) ?_
        refine lv_iload_n hx hb d_M_own_43 rfl (lv_at hl 1 rfl) ?_
        refine lv_imul hx hb d_M_own_44 ?_
        rw [pk_mul]
        refine lv_iload_n hx hb d_M_own_45 rfl (lv_at hl 2 rfl) ?_
        refine lv_iadd hx hb d_M_own_46 ?_
        rw [nI_add]
        refine lv_iload_n hx hb d_M_own_47 rfl (lv_at hl 3 rfl) ?_
        refine rw_iast hx hb hK.1 hP hD hS 3 0 rfl rfl (j := ((24 * s0) + p9)) (by omega) (by decide) d_M_own_48 (wn := mdW k b (nI 0) ki ba (upd ow (((24 * s0) + p9)) v9) uu te ma va wa) rfl (fun H locs hP hD hS => ?_)
        exact hret _ _ _ _ _ _ _ d_M_own_49 ⟨fun _ => by rw [nI_clamp (show s0 < 2 ^ 31 by omega), nI_clamp (show p9 < 2 ^ 31 by omega)], fun h => absurd (by simp [cdOw, c6, hp.1, hp.2]) h⟩ hP hD hS (by decide) (by decide)
    · skip
      have c19 := b_of0 c19
      refine lv_iconst (v := nI 2) hx hb d_M_own_22 (by decide) ?_
      refine lv_goto (tgt := 27) hx hb d_M_own_23 (by decide) ?_
      refine va_put (D := D) (ci := ciMo) (v := .int (nI 2)) (ty := .int) (C := RM) (T := TM) (N := 9) hx hb hts inM tyM ttM nnM hown hK.1 hP hD hS 0 rfl rfl 0 (by decide) (hts _ wd_399) (fun _ h9 => h9) rfl (by decide +kernel) rfl rfl (Nat.le_of_ble_eq_true rfl) d_M_own_27 (fun H locs hP hD hS => ?_)
      have hP : va_P D vwCl (mdW k b (nI 2) ki ba ow uu te ma va wa) H := hP
      have hD : va_D A (mdW k b (nI 2) ki ba ow uu te ma va wa) := hD
      refine lv_aload_n hx hb d_M_own_30 rfl (lv_at hl 0 rfl) ?_
      refine va_get (D := D) (ci := ciMo) (v := .int (nI 2)) (C := RM) (T := TM) (N := 9) hx hb hts inM hown hK.1 hP 0 rfl rfl 0 (by decide) (hts _ wd_399) (fun _ h9 => h9) rfl d_M_own_31 ?_
      refine lv_if_ne (tgt := 49) hx hb d_M_own_34 (by decide) (fun c34 => ?_) (fun c34 => ?_)
      · skip
        rcases pr_nvF c19 with q | q
        · exact hret _ _ _ _ _ _ _ d_M_own_49 ⟨by intro h; exact absurd h (by simp [cdOw, c6, q]), fun _ => by rw [show cdOw th x y v9 = 2 by simp [cdOw, c6, q]]⟩ hP hD hS (by decide) (by decide)
        · by_cases q1 : prB y = true
          · exact hret _ _ _ _ _ _ _ d_M_own_49 ⟨by intro h; exact absurd h (by simp [cdOw, c6, q1, q]), fun _ => by rw [show cdOw th x y v9 = 2 by simp [cdOw, c6, q1, q]]⟩ hP hD hS (by decide) (by decide)
          · exact hret _ _ _ _ _ _ _ d_M_own_49 ⟨by intro h; exact absurd h (by simp [cdOw, c6, q1]), fun _ => by rw [show cdOw th x y v9 = 2 by simp [cdOw, c6, q1]]⟩ hP hD hS (by decide) (by decide)
      · skip
        exact absurd c34 (by decide)
  · skip
    have c6 := b_of0 c6
    refine lv_iconst (v := nI 1) hx hb d_M_own_9 (by decide) ?_
    refine lv_goto (tgt := 27) hx hb d_M_own_10 (by decide) ?_
    refine va_put (D := D) (ci := ciMo) (v := .int (nI 1)) (ty := .int) (C := RM) (T := TM) (N := 9) hx hb hts inM tyM ttM nnM hown hK.1 hP hD hS 0 rfl rfl 0 (by decide) (hts _ wd_399) (fun _ h9 => h9) rfl (by decide +kernel) rfl rfl (Nat.le_of_ble_eq_true rfl) d_M_own_27 (fun H locs hP hD hS => ?_)
    have hP : va_P D vwCl (mdW k b (nI 1) ki ba ow uu te ma va wa) H := hP
    have hD : va_D A (mdW k b (nI 1) ki ba ow uu te ma va wa) := hD
    refine lv_aload_n hx hb d_M_own_30 rfl (lv_at hl 0 rfl) ?_
    refine va_get (D := D) (ci := ciMo) (v := .int (nI 1)) (C := RM) (T := TM) (N := 9) hx hb hts inM hown hK.1 hP 0 rfl rfl 0 (by decide) (hts _ wd_399) (fun _ h9 => h9) rfl d_M_own_31 ?_
    refine lv_if_ne (tgt := 49) hx hb d_M_own_34 (by decide) (fun c34 => ?_) (fun c34 => ?_)
    · skip
      exact hret _ _ _ _ _ _ _ d_M_own_49 ⟨by intro h; exact absurd h (by simp [cdOw, c6]), fun _ => by rw [show cdOw th x y v9 = 1 by simp [cdOw, c6]]⟩ hP hD hS (by decide) (by decide)
    · skip
      exact absurd c34 (by decide)

set_option maxRecDepth 100000 in
set_option maxHeartbeats 4000000 in
theorem c_Musual (l : Launch) (D : va_G) (k : Nat → ClassId) (b : Nat → Nat) (cd : Int32) (ki ba ow uu te ma va wa : Nat → Int32) (th kd bs us sth mk : Nat → Int32) (M sM : Nat → Nat → Int32) (hR : RI th kd bs us sth mk M sM ki ba ow uu te ma va) (y v9 : Int32) (sz : Nat) : bMV l y_M_usual (wY y_M_usual b_M_usual 3 none) (rm9 4 0 0) D (tsK k) (mdW k b cd ki ba ow uu te ma va wa) sz [.ref (b 0), .int y, .int v9] (fun w => (cdUs y v9 = 0 → w = mdW k b (nI 0) ki ba ow (upd uu y.toNatClampNeg v9) te ma va wa) ∧ (¬ cdUs y v9 = 0 → w = mdW k b (nI (cdUs y v9)) ki ba ow uu te ma va wa)) 0 0 := by
  refine ent_v (cc := b_M_usual) (maxL := 3) (by decide) (Nat.le_of_ble_eq_true rfl) ?_
  intro p e s m args below meth c A Q ls hx hb hml hown hts hsz hA hP hD hS hK hl hnm hret
  refine lv_aload_n hx hb d_M_usual_0 rfl (lv_at hl 0 rfl) ?_
  refine lv_iload_n hx hb d_M_usual_1 rfl (lv_at hl 1 rfl) ?_
  refine lv_iload_n hx hb d_M_usual_2 rfl (lv_at hl 2 rfl) ?_
  refine lv_iconst (v := nI 0) hx hb d_M_usual_3 (by decide) ?_
  refine cal_i (wc := []) (wr := mdW k b cd ki ba ow uu te ma va wa) (va_runS (As := [.int y, .int v9, .int (nI 0)]) (rest := [.ref (b 0)]) ⟨hx, hb, hml, hown, hts⟩ (c_MisValue l D k y v9 (nI 0) s.heap.size) (cwS9 3 hts wd_464 wd_462 wd_463 wd_4 (by decide) ⟨Nat.le_of_ble_eq_true rfl, Nat.le_of_ble_eq_true rfl⟩) (prS hK hP hD (List.Perm.refl _)) rfl rfl hl.1 rfl (lv_room (Nat.le_of_ble_eq_true rfl)) d_M_usual_4 ⟨by decide, by decide⟩) (List.Perm.refl _) hP hD hS hA (fun r w1 H locs hw hpd hS => ?_)
  obtain ⟨rfl, rfl⟩ := hw
  obtain ⟨hP, hD⟩ := hpd (mdW k b cd ki ba ow uu te ma va wa) (List.Perm.refl _)
  refine lv_if_eq (tgt := 14) hx hb d_M_usual_7 (by decide) (fun c7 => ?_) (fun c7 => ?_)
  · skip
    have c7 := b_of0 c7
    refine lv_iconst (v := nI 1) hx hb d_M_usual_14 (by decide) ?_
    refine va_put (D := D) (ci := ciMo) (v := .int (nI 1)) (ty := .int) (C := RM) (T := TM) (N := 9) hx hb hts inM tyM ttM nnM hown hK.1 hP hD hS 0 rfl rfl 0 (by decide) (hts _ wd_399) (fun _ h9 => h9) rfl (by decide +kernel) rfl rfl (Nat.le_of_ble_eq_true rfl) d_M_usual_15 (fun H locs hP hD hS => ?_)
    have hP : va_P D vwCl (mdW k b (nI 1) ki ba ow uu te ma va wa) H := hP
    have hD : va_D A (mdW k b (nI 1) ki ba ow uu te ma va wa) := hD
    refine lv_aload_n hx hb d_M_usual_18 rfl (lv_at hl 0 rfl) ?_
    refine va_get (D := D) (ci := ciMo) (v := .int (nI 1)) (C := RM) (T := TM) (N := 9) hx hb hts inM hown hK.1 hP 0 rfl rfl 0 (by decide) (hts _ wd_399) (fun _ h9 => h9) rfl d_M_usual_19 ?_
    refine lv_if_ne (tgt := 32) hx hb d_M_usual_22 (by decide) (fun c22 => ?_) (fun c22 => ?_)
    · skip
      rcases pr_vlF c7 with q | q
      · exact hret _ _ _ _ _ _ _ d_M_usual_32 ⟨by intro h; exact absurd h (by simp [cdUs, q]), fun _ => by rw [show cdUs y v9 = 1 by simp [cdUs, q]]⟩ hP hD hS (by decide) (by decide)
      · by_cases q1 : prB y = true
        · exact hret _ _ _ _ _ _ _ d_M_usual_32 ⟨by intro h; exact absurd h (by simp [cdUs, q1, q]), fun _ => by rw [show cdUs y v9 = 1 by simp [cdUs, q1, q]]⟩ hP hD hS (by decide) (by decide)
        · exact hret _ _ _ _ _ _ _ d_M_usual_32 ⟨by intro h; exact absurd h (by simp [cdUs, q1]), fun _ => by rw [show cdUs y v9 = 1 by simp [cdUs, q1]]⟩ hP hD hS (by decide) (by decide)
    · skip
      exact absurd c22 (by decide)
  · skip
    have c7 := b_of1 c7
    refine lv_iconst (v := nI 0) hx hb d_M_usual_10 (by decide) ?_
    refine lv_goto (tgt := 15) hx hb d_M_usual_11 (by decide) ?_
    refine va_put (D := D) (ci := ciMo) (v := .int (nI 0)) (ty := .int) (C := RM) (T := TM) (N := 9) hx hb hts inM tyM ttM nnM hown hK.1 hP hD hS 0 rfl rfl 0 (by decide) (hts _ wd_399) (fun _ h9 => h9) rfl (by decide +kernel) rfl rfl (Nat.le_of_ble_eq_true rfl) d_M_usual_15 (fun H locs hP hD hS => ?_)
    have hP : va_P D vwCl (mdW k b (nI 0) ki ba ow uu te ma va wa) H := hP
    have hD : va_D A (mdW k b (nI 0) ki ba ow uu te ma va wa) := hD
    refine lv_aload_n hx hb d_M_usual_18 rfl (lv_at hl 0 rfl) ?_
    refine va_get (D := D) (ci := ciMo) (v := .int (nI 0)) (C := RM) (T := TM) (N := 9) hx hb hts inM hown hK.1 hP 0 rfl rfl 0 (by decide) (hts _ wd_399) (fun _ h9 => h9) rfl d_M_usual_19 ?_
    refine lv_if_ne (tgt := 32) hx hb d_M_usual_22 (by decide) (fun c22 => ?_) (fun c22 => ?_)
    · skip
      exact absurd (by decide) c22
    · skip
      have hp := pr_vl c7
      obtain ⟨p9, hp9, rfl⟩ := prB_t hp.1
      refine lv_aload_n hx hb d_M_usual_25 rfl (lv_at hl 0 rfl) ?_
      refine va_get (D := D) (ci := ciMo) (v := .ref (b 4)) (C := RM) (T := TM) (N := 9) hx hb hts inM hown hK.1 hP 0 rfl rfl 4 (by decide) (hts _ wd_403) (fun _ h9 => h9) rfl d_M_usual_26 ?_
      refine lv_iload_n hx hb d_M_usual_29 rfl (lv_at hl 1 rfl) ?_
      refine lv_iload_n hx hb d_M_usual_30 rfl (lv_at hl 2 rfl) ?_
      refine rw_iast hx hb hK.1 hP hD hS 4 0 rfl rfl (j := p9) (by omega) (by decide) d_M_usual_31 (wn := mdW k b (nI 0) ki ba ow (upd uu p9 v9) te ma va wa) rfl (fun H locs hP hD hS => ?_)
      exact hret _ _ _ _ _ _ _ d_M_usual_32 ⟨fun _ => by rw [nI_clamp (show p9 < 2 ^ 31 by omega)], fun h => absurd (by simp [cdUs, hp.1, hp.2]) h⟩ hP hD hS (by decide) (by decide)

set_option maxRecDepth 100000 in
set_option maxHeartbeats 4000000 in
theorem c_Msize (l : Launch) (D : va_G) (k : Nat → ClassId) (b : Nat → Nat) (cd : Int32) (ki ba ow uu te ma va wa : Nat → Int32) (th kd bs us sth mk : Nat → Int32) (M sM : Nat → Nat → Int32) (hR : RI th kd bs us sth mk M sM ki ba ow uu te ma va) (x : Int32) (sz : Nat) : bMI l y_M_size (wY y_M_size b_M_size 2 (some .int)) (rm9 4 0 0) D (tsK k) (mdW k b cd ki ba ow uu te ma va wa) sz [.ref (b 0), .int x] (fun v w => v = (if hsB 256 sth x = true then nI (viF sM x.toNatClampNeg) else -1) ∧ w = mdW k b (nI 0) ki ba ow uu te ma va wa) 0 0 := by
  refine ent_i (cc := b_M_size) (maxL := 2) (ty := .int) (by decide) (Nat.le_of_ble_eq_true rfl) (fun _ _ _ => rfl) ?_
  intro p e s m args below meth c A Q ls hx hb hml hown hts hsz hA hP hD hS hK hl hret
  refine lv_aload_n hx hb d_M_size_0 rfl (lv_at hl 0 rfl) ?_
  refine lv_iconst (v := nI 0) hx hb d_M_size_1 (by decide) ?_
  refine va_put (D := D) (ci := ciMo) (v := .int (nI 0)) (ty := .int) (C := RM) (T := TM) (N := 9) hx hb hts inM tyM ttM nnM hown hK.1 hP hD hS 0 rfl rfl 0 (by decide) (hts _ wd_399) (fun _ h9 => h9) rfl (by decide +kernel) rfl rfl (Nat.le_of_ble_eq_true rfl) d_M_size_2 (fun H locs hP hD hS => ?_)
  have hP : va_P D vwCl (mdW k b (nI 0) ki ba ow uu te ma va wa) H := hP
  have hD : va_D A (mdW k b (nI 0) ki ba ow uu te ma va wa) := hD
  refine lv_aload_n hx hb d_M_size_5 rfl (lv_at hl 0 rfl) ?_
  refine lv_iload_n hx hb d_M_size_6 rfl (lv_at hl 1 rfl) ?_
  refine cal_i (wc := mdW k b (nI 0) ki ba ow uu te ma va wa) (wr := []) (va_runV (As := [.int x]) (rest := []) ⟨hx, hb, hml, hown, hts⟩ (c_MisSet l D k b (nI 0) ki ba ow uu te ma va wa sth hR.2.2.2.1 x H.size) (cwV9 1 hts wd_508 wd_505 wd_507 ws_28 wd_4 (by decide) ⟨Nat.le_of_ble_eq_true rfl, Nat.le_of_ble_eq_true rfl⟩) (prV (q0 := 0) (ci := ciMo) hK hP hD (pm_nil' _) rfl rfl) rfl rfl hl.1 rfl (lv_room (Nat.le_of_ble_eq_true rfl)) d_M_size_7 ⟨by decide, by decide⟩) (pm_nil' _) hP hD hS hA (fun r w1 H locs hw hpd hS => ?_)
  obtain ⟨rfl, rfl⟩ := hw
  obtain ⟨hP, hD⟩ := hpd (mdW k b (nI 0) ki ba ow uu te ma va wa) (pm_nil _)
  refine lv_if_eq (tgt := 21) hx hb d_M_size_10 (by decide) (fun c10 => ?_) (fun c10 => ?_)
  · skip
    have c10 := b_of0 c10
    refine lv_iconst (v := -1) hx hb d_M_size_21 (by decide) ?_
    exact hret _ _ _ _ _ _ _ _ d_M_size_22 ⟨by rw [c10]; rfl, rfl⟩ hP hD hS (by decide) (by decide)
  · skip
    have c10 := b_of1 c10
    obtain ⟨s0, hs0, rfl, hs0t⟩ := hsB_t (by decide) c10
    refine lv_aload_n hx hb d_M_size_13 rfl (lv_at hl 0 rfl) ?_
    refine lv_iload_n hx hb d_M_size_14 rfl (lv_at hl 1 rfl) ?_
    refine cal_i (wc := mdW k b (nI 0) ki ba ow uu te ma va wa) (wr := []) (va_runV (As := [.int (nI s0)]) (rest := []) ⟨hx, hb, hml, hown, hts⟩ (c_Msized l D k b (nI 0) ki ba ow uu te ma va wa th kd bs us sth mk M sM hR s0 hs0 hs0t H.size) (cwV9 1 hts wd_548 wd_545 wd_547 ws_34 wd_4 (by decide) ⟨Nat.le_of_ble_eq_true rfl, Nat.le_of_ble_eq_true rfl⟩) (prV (q0 := 0) (ci := ciMo) hK hP hD (pm_nil' _) rfl rfl) rfl rfl hl.1 rfl (lv_room (Nat.le_of_ble_eq_true rfl)) d_M_size_15 ⟨by decide, by decide⟩) (pm_nil' _) hP hD hS hA (fun r w1 H locs hw hpd hS => ?_)
    obtain ⟨rfl, rfl⟩ := hw
    obtain ⟨hP, hD⟩ := hpd (mdW k b (nI 0) ki ba ow uu te ma va wa) (pm_nil _)
    refine lv_goto (tgt := 22) hx hb d_M_size_18 (by decide) ?_
    exact hret _ _ _ _ _ _ _ _ d_M_size_22 ⟨by rw [if_pos c10, nI_clamp (show s0 < 2 ^ 31 by omega)], rfl⟩ hP hD hS (by decide) (by decide)

set_option maxRecDepth 100000 in
set_option maxHeartbeats 4000000 in
theorem c_Mmark (l : Launch) (D : va_G) (k : Nat → ClassId) (b : Nat → Nat) (cd : Int32) (ki ba ow uu te ma va wa : Nat → Int32) (th kd bs us sth mk : Nat → Int32) (M sM : Nat → Nat → Int32) (hR : RI th kd bs us sth mk M sM ki ba ow uu te ma va) (x : Int32) (sz : Nat) : bMI l y_M_mark (wY y_M_mark b_M_mark 4 (some .int)) (rm9 4 0 0) D (tsK k) (mdW k b cd ki ba ow uu te ma va wa) sz [.ref (b 0), .int x] (fun v w => (cdMa sth x = 0 → v = nI (cnF (fun i => decide (upd mk x.toNatClampNeg (nI 1) i ≠ 0)) 256) ∧ w = mdW k b (nI 0) ki ba ow uu te (upd ma x.toNatClampNeg (nI 1)) va wa) ∧ (¬ cdMa sth x = 0 → w = mdW k b (nI (cdMa sth x)) ki ba ow uu te ma va wa)) 0 0 := by
  refine ent_i (cc := b_M_mark) (maxL := 4) (ty := .int) (by decide) (Nat.le_of_ble_eq_true rfl) (fun _ _ _ => rfl) ?_
  intro p e s m args below meth c A Q ls hx hb hml hown hts hsz hA hP hD hS hK hl hret
  refine lv_aload_n hx hb d_M_mark_0 rfl (lv_at hl 0 rfl) ?_
  refine lv_aload_n hx hb d_M_mark_1 rfl (lv_at hl 0 rfl) ?_
  refine lv_iload_n hx hb d_M_mark_2 rfl (lv_at hl 1 rfl) ?_
  refine cal_i (wc := mdW k b cd ki ba ow uu te ma va wa) (wr := []) (va_runV (As := [.int x]) (rest := [.ref (b 0)]) ⟨hx, hb, hml, hown, hts⟩ (c_MisSet l D k b cd ki ba ow uu te ma va wa sth hR.2.2.2.1 x s.heap.size) (cwV9 1 hts wd_508 wd_505 wd_507 ws_28 wd_4 (by decide) ⟨Nat.le_of_ble_eq_true rfl, Nat.le_of_ble_eq_true rfl⟩) (prV (q0 := 0) (ci := ciMo) hK hP hD (pm_nil' _) rfl rfl) rfl rfl hl.1 rfl (lv_room (Nat.le_of_ble_eq_true rfl)) d_M_mark_3 ⟨by decide, by decide⟩) (pm_nil' _) hP hD hS hA (fun r w1 H locs hw hpd hS => ?_)
  obtain ⟨rfl, rfl⟩ := hw
  obtain ⟨hP, hD⟩ := hpd (mdW k b cd ki ba ow uu te ma va wa) (pm_nil _)
  refine lv_if_eq (tgt := 13) hx hb d_M_mark_6 (by decide) (fun c6 => ?_) (fun c6 => ?_)
  · skip
    have c6 := b_of0 c6
    refine lv_iconst (v := nI 1) hx hb d_M_mark_13 (by decide) ?_
    refine va_put (D := D) (ci := ciMo) (v := .int (nI 1)) (ty := .int) (C := RM) (T := TM) (N := 9) hx hb hts inM tyM ttM nnM hown hK.1 hP hD hS 0 rfl rfl 0 (by decide) (hts _ wd_399) (fun _ h9 => h9) rfl (by decide +kernel) rfl rfl (Nat.le_of_ble_eq_true rfl) d_M_mark_14 (fun H locs hP hD hS => ?_)
    have hP : va_P D vwCl (mdW k b (nI 1) ki ba ow uu te ma va wa) H := hP
    have hD : va_D A (mdW k b (nI 1) ki ba ow uu te ma va wa) := hD
    refine lv_aload_n hx hb d_M_mark_17 rfl (lv_at hl 0 rfl) ?_
    refine va_get (D := D) (ci := ciMo) (v := .int (nI 1)) (C := RM) (T := TM) (N := 9) hx hb hts inM hown hK.1 hP 0 rfl rfl 0 (by decide) (hts _ wd_399) (fun _ h9 => h9) rfl d_M_mark_18 ?_
    refine lv_if_le (tgt := 26) hx hb d_M_mark_21 (by decide) (fun c21 => ?_) (fun c21 => ?_)
    · skip
      exact absurd c21 (by decide)
    · skip
      refine lv_iconst (v := nI 0) hx hb d_M_mark_24 (by decide) ?_
      exact hret _ _ _ _ _ _ _ _ d_M_mark_25 ⟨fun h => absurd h (by simp [cdMa, c6]), fun _ => by rw [show cdMa sth x = 1 by simp [cdMa, c6]]⟩ hP hD hS (by decide) (by decide)
  · skip
    have c6 := b_of1 c6
    refine lv_iconst (v := nI 0) hx hb d_M_mark_9 (by decide) ?_
    refine lv_goto (tgt := 14) hx hb d_M_mark_10 (by decide) ?_
    refine va_put (D := D) (ci := ciMo) (v := .int (nI 0)) (ty := .int) (C := RM) (T := TM) (N := 9) hx hb hts inM tyM ttM nnM hown hK.1 hP hD hS 0 rfl rfl 0 (by decide) (hts _ wd_399) (fun _ h9 => h9) rfl (by decide +kernel) rfl rfl (Nat.le_of_ble_eq_true rfl) d_M_mark_14 (fun H locs hP hD hS => ?_)
    have hP : va_P D vwCl (mdW k b (nI 0) ki ba ow uu te ma va wa) H := hP
    have hD : va_D A (mdW k b (nI 0) ki ba ow uu te ma va wa) := hD
    refine lv_aload_n hx hb d_M_mark_17 rfl (lv_at hl 0 rfl) ?_
    refine va_get (D := D) (ci := ciMo) (v := .int (nI 0)) (C := RM) (T := TM) (N := 9) hx hb hts inM hown hK.1 hP 0 rfl rfl 0 (by decide) (hts _ wd_399) (fun _ h9 => h9) rfl d_M_mark_18 ?_
    refine lv_if_le (tgt := 26) hx hb d_M_mark_21 (by decide) (fun c21 => ?_) (fun c21 => ?_)
    · skip
      obtain ⟨s0, hs0, rfl, hs0t⟩ := hsB_t (by decide) c6
      refine lv_aload_n hx hb d_M_mark_26 rfl (lv_at hl 0 rfl) ?_
      refine va_get (D := D) (ci := ciMo) (v := .ref (b 6)) (C := RM) (T := TM) (N := 9) hx hb hts inM hown hK.1 hP 0 rfl rfl 6 (by decide) (hts _ wd_405) (fun _ h9 => h9) rfl d_M_mark_27 ?_
      refine lv_iload_n hx hb d_M_mark_30 rfl (lv_at hl 1 rfl) ?_
      refine lv_iconst (v := nI 1) hx hb d_M_mark_31 (by decide) ?_
      refine rw_zast hx hb hK.1 hP hD hS 6 1 rfl rfl (j := s0) bz_1 (by omega) (by decide) d_M_mark_32 (wn := mdW k b (nI 0) ki ba ow uu te (upd ma s0 (nI 1)) va wa) rfl (fun H locs hP hD hS => ?_)
      refine lv_iconst (v := nI 0) hx hb d_M_mark_33 (by decide) ?_
      refine lv_istore_n (lv' := [(2, .int (nI 0)), (0, .ref (b 0)), (1, .int (nI s0))]) hx hb d_M_mark_34 rfl hl (by decide) rfl (fun ls hl => ?_)
      refine lv_iconst (v := nI 0) hx hb d_M_mark_35 (by decide) ?_
      refine lv_istore_n (lv' := [(3, .int (nI 0)), (2, .int (nI 0)), (0, .ref (b 0)), (1, .int (nI s0))]) hx hb d_M_mark_36 rfl hl (by decide) rfl (fun ls hl => ?_)
      have lp : ∀ (n9 : Nat) (i : Nat) (ls : Array Slot) (H : Heap) (locs : List Loc), 256 - i < n9 → (i ≤ 256) → va_P D vwCl (mdW k b (nI 0) ki ba ow uu te (upd ma s0 (nI 1)) va wa) H → va_D A (mdW k b (nI 0) ki ba ow uu te (upd ma s0 (nI 1)) va wa) → va_S A s.heap H locs → lv_has ls 4 [(0, .ref (b 0)), (1, .int (nI s0)), (2, .int (nI (cnF (fun i => decide (upd mk s0 (nI 1) i ≠ 0)) i))), (3, .int (nI i))] → W p l e (rm9 4 0 0) s m args below meth c H locs 0 0 Q (F0 m 37 ls []) := by
        intro n9
        induction n9 with
        | zero => intro i ls H locs hm; omega
        | succ n9 ih =>
          intro i ls H locs hm hi hP hD hS hl
          refine lv_iload_n hx hb d_M_mark_37 rfl (lv_at hl 3 rfl) ?_
          refine lv_sipush (v := nI 256) hx hb d_M_mark_38 (by decide) ?_
          refine lv_icmp_ge (tgt := 76) hx hb d_M_mark_41 (by decide) (fun c41 => ?_) (fun c41 => ?_)
          · skip
            rw [nI_leI (by omega) (by omega)] at c41
            refine lv_iload_n hx hb d_M_mark_76 rfl (lv_at hl 2 rfl) ?_
            exact hret _ _ _ _ _ _ _ _ d_M_mark_77 ⟨fun _ => ⟨by rw [show i = 256 by omega, nI_clamp (show s0 < 2 ^ 31 by omega)], by rw [nI_clamp (show s0 < 2 ^ 31 by omega)]⟩, fun h => absurd (by simp [cdMa, c6]) h⟩ hP hD hS (by decide) (by decide)
          · skip
            rw [nI_leI (by omega) (by omega)] at c41
            refine lv_iload_n hx hb d_M_mark_44 rfl (lv_at hl 2 rfl) ?_
            refine lv_aload_n hx hb d_M_mark_45 rfl (lv_at hl 0 rfl) ?_
            refine va_get (D := D) (ci := ciMo) (v := .ref (b 5)) (C := RM) (T := TM) (N := 9) hx hb hts inM hown hK.1 hP 0 rfl rfl 5 (by decide) (hts _ wd_404) (fun _ h9 => h9) rfl d_M_mark_46 ?_
            refine lv_iload_n hx hb d_M_mark_49 rfl (lv_at hl 3 rfl) ?_
            refine rw_zald hx hb hK.1 hP 5 1 rfl rfl (j := i) (by omega) (by decide) d_M_mark_50 ?_
            refine lv_if_eq (tgt := 67) hx hb d_M_mark_51 (by decide) (fun c51 => ?_) (fun c51 => ?_)
            · skip
              refine lv_iconst (v := nI 0) hx hb d_M_mark_67 (by decide) ?_
              refine lv_iadd hx hb d_M_mark_68 ?_
              rw [nI_add]
              rw [Nat.add_zero, cnF_f (f := (fun i => decide (upd mk s0 (nI 1) i ≠ 0))) (i := i) (by rw [← mk_cnt hR.1.2 hR.2.2 hs0t (by omega)]; simp [c51])]
              refine lv_istore_n (lv' := [(2, .int (nI (cnF (fun i => decide (upd mk s0 (nI 1) i ≠ 0)) (i + 1)))), (0, .ref (b 0)), (1, .int (nI s0)), (3, .int (nI i))]) hx hb d_M_mark_69 rfl hl (by decide) rfl (fun ls hl => ?_)
              refine lv_iinc (v := nI (i + 1)) (lv' := [(3, .int (nI (i + 1))), (2, .int (nI (cnF (fun i => decide (upd mk s0 (nI 1) i ≠ 0)) (i + 1)))), (0, .ref (b 0)), (1, .int (nI s0))]) hx hb d_M_mark_70 hl (k := 3) rfl (ii_1 _) (by decide) rfl (fun ls hl => ?_)
              refine lv_goto (tgt := 37) hx hb d_M_mark_73 (by decide) ?_
              exact ih (i + 1) ls H locs (by omega) (by omega) hP hD hS (lv_sub hl [2, 3, 1, 0] rfl)
            · skip
              refine lv_aload_n hx hb d_M_mark_54 rfl (lv_at hl 0 rfl) ?_
              refine va_get (D := D) (ci := ciMo) (v := .ref (b 6)) (C := RM) (T := TM) (N := 9) hx hb hts inM hown hK.1 hP 0 rfl rfl 6 (by decide) (hts _ wd_405) (fun _ h9 => h9) rfl d_M_mark_55 ?_
              refine lv_iload_n hx hb d_M_mark_58 rfl (lv_at hl 3 rfl) ?_
              refine rw_zald hx hb hK.1 hP 6 1 rfl rfl (j := i) (by omega) (by decide) d_M_mark_59 ?_
              refine lv_if_eq (tgt := 67) hx hb d_M_mark_60 (by decide) (fun c60 => ?_) (fun c60 => ?_)
              · skip
                refine lv_iconst (v := nI 0) hx hb d_M_mark_67 (by decide) ?_
                refine lv_iadd hx hb d_M_mark_68 ?_
                rw [nI_add]
                rw [Nat.add_zero, cnF_f (f := (fun i => decide (upd mk s0 (nI 1) i ≠ 0))) (i := i) (by rw [← mk_cnt hR.1.2 hR.2.2 hs0t (by omega)]; simp [c60])]
                refine lv_istore_n (lv' := [(2, .int (nI (cnF (fun i => decide (upd mk s0 (nI 1) i ≠ 0)) (i + 1)))), (0, .ref (b 0)), (1, .int (nI s0)), (3, .int (nI i))]) hx hb d_M_mark_69 rfl hl (by decide) rfl (fun ls hl => ?_)
                refine lv_iinc (v := nI (i + 1)) (lv' := [(3, .int (nI (i + 1))), (2, .int (nI (cnF (fun i => decide (upd mk s0 (nI 1) i ≠ 0)) (i + 1)))), (0, .ref (b 0)), (1, .int (nI s0))]) hx hb d_M_mark_70 hl (k := 3) rfl (ii_1 _) (by decide) rfl (fun ls hl => ?_)
                refine lv_goto (tgt := 37) hx hb d_M_mark_73 (by decide) ?_
                exact ih (i + 1) ls H locs (by omega) (by omega) hP hD hS (lv_sub hl [2, 3, 1, 0] rfl)
              · skip
                refine lv_iconst (v := nI 1) hx hb d_M_mark_63 (by decide) ?_
                refine lv_goto (tgt := 68) hx hb d_M_mark_64 (by decide) ?_
                refine lv_iadd hx hb d_M_mark_68 ?_
                rw [nI_add]
                rw [cnF_t (f := (fun i => decide (upd mk s0 (nI 1) i ≠ 0))) (i := i) (by rw [← mk_cnt hR.1.2 hR.2.2 hs0t (by omega)]; simp [c51, c60])]
                refine lv_istore_n (lv' := [(2, .int (nI (cnF (fun i => decide (upd mk s0 (nI 1) i ≠ 0)) (i + 1)))), (0, .ref (b 0)), (1, .int (nI s0)), (3, .int (nI i))]) hx hb d_M_mark_69 rfl hl (by decide) rfl (fun ls hl => ?_)
                refine lv_iinc (v := nI (i + 1)) (lv' := [(3, .int (nI (i + 1))), (2, .int (nI (cnF (fun i => decide (upd mk s0 (nI 1) i ≠ 0)) (i + 1)))), (0, .ref (b 0)), (1, .int (nI s0))]) hx hb d_M_mark_70 hl (k := 3) rfl (ii_1 _) (by decide) rfl (fun ls hl => ?_)
                refine lv_goto (tgt := 37) hx hb d_M_mark_73 (by decide) ?_
                exact ih (i + 1) ls H locs (by omega) (by omega) hP hD hS (lv_sub hl [2, 3, 1, 0] rfl)
      exact lp _ (0) ls H locs (Nat.lt_succ_self _) (by decide) hP hD hS (lv_sub hl [2, 3, 1, 0] rfl)
    · skip
      exact absurd (by decide) c21

set_option maxRecDepth 100000 in
set_option maxHeartbeats 4000000 in
theorem c_Msweep (l : Launch) (D : va_G) (k : Nat → ClassId) (b : Nat → Nat) (cd : Int32) (ki ba ow uu te ma va wa : Nat → Int32) (th kd bs us sth mk : Nat → Int32) (M sM : Nat → Nat → Int32) (hR : RI th kd bs us sth mk M sM ki ba ow uu te ma va) (sz : Nat) : bMI l y_M_sweep (wY y_M_sweep b_M_sweep 3 (some .int)) (rm9 4 0 0) D (tsK k) (mdW k b cd ki ba ow uu te ma va wa) sz [.ref (b 0)] (fun v w => v = nI (cnF (swB sth mk) 256) ∧ w = mdW k b (nI 0) ki ba ow uu (swT te ma 256) (swK ma 256) va wa) 0 0 := by
  refine ent_i (cc := b_M_sweep) (maxL := 3) (ty := .int) (by decide) (Nat.le_of_ble_eq_true rfl) (fun _ _ _ => rfl) ?_
  intro p e s m args below meth c A Q ls hx hb hml hown hts hsz hA hP hD hS hK hl hret
  refine lv_aload_n hx hb d_M_sweep_0 rfl (lv_at hl 0 rfl) ?_
  refine lv_iconst (v := nI 0) hx hb d_M_sweep_1 (by decide) ?_
  refine va_put (D := D) (ci := ciMo) (v := .int (nI 0)) (ty := .int) (C := RM) (T := TM) (N := 9) hx hb hts inM tyM ttM nnM hown hK.1 hP hD hS 0 rfl rfl 0 (by decide) (hts _ wd_399) (fun _ h9 => h9) rfl (by decide +kernel) rfl rfl (Nat.le_of_ble_eq_true rfl) d_M_sweep_2 (fun H locs hP hD hS => ?_)
  have hP : va_P D vwCl (mdW k b (nI 0) ki ba ow uu te ma va wa) H := hP
  have hD : va_D A (mdW k b (nI 0) ki ba ow uu te ma va wa) := hD
  rw [← swT_0 te ma, ← swK_0 ma] at hP hD
  refine lv_iconst (v := nI 0) hx hb d_M_sweep_5 (by decide) ?_
  refine lv_istore_n (lv' := [(1, .int (nI 0)), (0, .ref (b 0))]) hx hb d_M_sweep_6 rfl hl (by decide) rfl (fun ls hl => ?_)
  refine lv_iconst (v := nI 0) hx hb d_M_sweep_7 (by decide) ?_
  refine lv_istore_n (lv' := [(2, .int (nI 0)), (1, .int (nI 0)), (0, .ref (b 0))]) hx hb d_M_sweep_8 rfl hl (by decide) rfl (fun ls hl => ?_)
  have lp : ∀ (n9 : Nat) (i : Nat) (ls : Array Slot) (H : Heap) (locs : List Loc), 256 - i < n9 → (i ≤ 256) → va_P D vwCl (mdW k b (nI 0) ki ba ow uu (swT te ma i) (swK ma i) va wa) H → va_D A (mdW k b (nI 0) ki ba ow uu (swT te ma i) (swK ma i) va wa) → va_S A s.heap H locs → lv_has ls 3 [(0, .ref (b 0)), (1, .int (nI (cnF (swB te ma) i))), (2, .int (nI i))] → W p l e (rm9 4 0 0) s m args below meth c H locs 0 0 Q (F0 m 9 ls []) := by
    intro n9
    induction n9 with
    | zero => intro i ls H locs hm; omega
    | succ n9 ih =>
      intro i ls H locs hm hi hP hD hS hl
      refine lv_iload_n hx hb d_M_sweep_9 rfl (lv_at hl 2 rfl) ?_
      refine lv_sipush (v := nI 256) hx hb d_M_sweep_10 (by decide) ?_
      refine lv_icmp_ge (tgt := 61) hx hb d_M_sweep_13 (by decide) (fun c13 => ?_) (fun c13 => ?_)
      · skip
        rw [nI_leI (by omega) (by omega)] at c13
        refine lv_iload_n hx hb d_M_sweep_61 rfl (lv_at hl 1 rfl) ?_
        obtain rfl : i = 256 := by omega
        exact hret _ _ _ _ _ _ _ _ d_M_sweep_62 ⟨by rw [cnF_congr 256 (fun p hp => sw_cnt hR.2.2 hp)], rfl⟩ hP hD hS (by decide) (by decide)
      · skip
        rw [nI_leI (by omega) (by omega)] at c13
        refine lv_iload_n hx hb d_M_sweep_16 rfl (lv_at hl 2 rfl) ?_
        refine lv_if_le (tgt := 48) hx hb d_M_sweep_17 (by decide) (fun c17 => ?_) (fun c17 => ?_)
        · skip
          have c17 : i = 0 := by rw [show (0 : Int32) = nI 0 from rfl, nI_leI (by omega) (by decide)] at c17; omega
          have hsw : swB te ma i = false := by simp [swB, c17]
          rw [swT_f hsw] at hP hD
          rw [cnF_f hsw] at hl
          refine lv_aload_n hx hb d_M_sweep_48 rfl (lv_at hl 0 rfl) ?_
          refine va_get (D := D) (ci := ciMo) (v := .ref (b 6)) (C := RM) (T := TM) (N := 9) hx hb hts inM hown hK.1 hP 0 rfl rfl 6 (by decide) (hts _ wd_405) (fun _ h9 => h9) rfl d_M_sweep_49 ?_
          refine lv_iload_n hx hb d_M_sweep_52 rfl (lv_at hl 2 rfl) ?_
          refine lv_iconst (v := nI 0) hx hb d_M_sweep_53 (by decide) ?_
          refine rw_zast hx hb hK.1 hP hD hS 6 1 rfl rfl (j := i) bz_0 (by omega) (by decide) d_M_sweep_54 (wn := mdW k b (nI 0) ki ba ow uu (swT te ma (i + 1)) (swK ma (i + 1)) va wa) (by rw [← swK_s]; rfl) (fun H locs hP hD hS => ?_)
          refine lv_iinc (v := nI (i + 1)) (lv' := [(2, .int (nI (i + 1))), (0, .ref (b 0)), (1, .int (nI (cnF (swB te ma) (i + 1))))]) hx hb d_M_sweep_55 hl (k := 2) rfl (ii_1 _) (by decide) rfl (fun ls hl => ?_)
          refine lv_goto (tgt := 9) hx hb d_M_sweep_58 (by decide) ?_
          exact ih (i + 1) ls H locs (by omega) (by omega) hP hD hS (lv_sub hl [1, 2, 0] rfl)
        · skip
          have c17 : ¬ i = 0 := by rw [show (0 : Int32) = nI 0 from rfl, nI_leI (by omega) (by decide)] at c17; omega
          refine lv_aload_n hx hb d_M_sweep_20 rfl (lv_at hl 0 rfl) ?_
          refine va_get (D := D) (ci := ciMo) (v := .ref (b 5)) (C := RM) (T := TM) (N := 9) hx hb hts inM hown hK.1 hP 0 rfl rfl 5 (by decide) (hts _ wd_404) (fun _ h9 => h9) rfl d_M_sweep_21 ?_
          refine lv_iload_n hx hb d_M_sweep_24 rfl (lv_at hl 2 rfl) ?_
          refine rw_zald hx hb hK.1 hP 5 1 rfl rfl (j := i) (by omega) (by decide) d_M_sweep_25 ?_
          refine lv_if_eq (tgt := 48) hx hb d_M_sweep_26 (by decide) (fun c26 => ?_) (fun c26 => ?_)
          · skip
            rw [swT_at] at c26
            have hsw : swB te ma i = false := by simp [swB, c26]
            rw [swT_f hsw] at hP hD
            rw [cnF_f hsw] at hl
            refine lv_aload_n hx hb d_M_sweep_48 rfl (lv_at hl 0 rfl) ?_
            refine va_get (D := D) (ci := ciMo) (v := .ref (b 6)) (C := RM) (T := TM) (N := 9) hx hb hts inM hown hK.1 hP 0 rfl rfl 6 (by decide) (hts _ wd_405) (fun _ h9 => h9) rfl d_M_sweep_49 ?_
            refine lv_iload_n hx hb d_M_sweep_52 rfl (lv_at hl 2 rfl) ?_
            refine lv_iconst (v := nI 0) hx hb d_M_sweep_53 (by decide) ?_
            refine rw_zast hx hb hK.1 hP hD hS 6 1 rfl rfl (j := i) bz_0 (by omega) (by decide) d_M_sweep_54 (wn := mdW k b (nI 0) ki ba ow uu (swT te ma (i + 1)) (swK ma (i + 1)) va wa) (by rw [← swK_s]; rfl) (fun H locs hP hD hS => ?_)
            refine lv_iinc (v := nI (i + 1)) (lv' := [(2, .int (nI (i + 1))), (0, .ref (b 0)), (1, .int (nI (cnF (swB te ma) (i + 1))))]) hx hb d_M_sweep_55 hl (k := 2) rfl (ii_1 _) (by decide) rfl (fun ls hl => ?_)
            refine lv_goto (tgt := 9) hx hb d_M_sweep_58 (by decide) ?_
            exact ih (i + 1) ls H locs (by omega) (by omega) hP hD hS (lv_sub hl [1, 2, 0] rfl)
          · skip
            rw [swT_at] at c26
            refine lv_aload_n hx hb d_M_sweep_29 rfl (lv_at hl 0 rfl) ?_
            refine va_get (D := D) (ci := ciMo) (v := .ref (b 6)) (C := RM) (T := TM) (N := 9) hx hb hts inM hown hK.1 hP 0 rfl rfl 6 (by decide) (hts _ wd_405) (fun _ h9 => h9) rfl d_M_sweep_30 ?_
            refine lv_iload_n hx hb d_M_sweep_33 rfl (lv_at hl 2 rfl) ?_
            refine rw_zald hx hb hK.1 hP 6 1 rfl rfl (j := i) (by omega) (by decide) d_M_sweep_34 ?_
            refine lv_if_ne (tgt := 48) hx hb d_M_sweep_35 (by decide) (fun c35 => ?_) (fun c35 => ?_)
            · skip
              rw [swK_at] at c35
              have hsw : swB te ma i = false := by simp [swB, c35]
              rw [swT_f hsw] at hP hD
              rw [cnF_f hsw] at hl
              refine lv_aload_n hx hb d_M_sweep_48 rfl (lv_at hl 0 rfl) ?_
              refine va_get (D := D) (ci := ciMo) (v := .ref (b 6)) (C := RM) (T := TM) (N := 9) hx hb hts inM hown hK.1 hP 0 rfl rfl 6 (by decide) (hts _ wd_405) (fun _ h9 => h9) rfl d_M_sweep_49 ?_
              refine lv_iload_n hx hb d_M_sweep_52 rfl (lv_at hl 2 rfl) ?_
              refine lv_iconst (v := nI 0) hx hb d_M_sweep_53 (by decide) ?_
              refine rw_zast hx hb hK.1 hP hD hS 6 1 rfl rfl (j := i) bz_0 (by omega) (by decide) d_M_sweep_54 (wn := mdW k b (nI 0) ki ba ow uu (swT te ma (i + 1)) (swK ma (i + 1)) va wa) (by rw [← swK_s]; rfl) (fun H locs hP hD hS => ?_)
              refine lv_iinc (v := nI (i + 1)) (lv' := [(2, .int (nI (i + 1))), (0, .ref (b 0)), (1, .int (nI (cnF (swB te ma) (i + 1))))]) hx hb d_M_sweep_55 hl (k := 2) rfl (ii_1 _) (by decide) rfl (fun ls hl => ?_)
              refine lv_goto (tgt := 9) hx hb d_M_sweep_58 (by decide) ?_
              exact ih (i + 1) ls H locs (by omega) (by omega) hP hD hS (lv_sub hl [1, 2, 0] rfl)
            · skip
              rw [swK_at] at c35
              refine lv_aload_n hx hb d_M_sweep_38 rfl (lv_at hl 0 rfl) ?_
              refine va_get (D := D) (ci := ciMo) (v := .ref (b 5)) (C := RM) (T := TM) (N := 9) hx hb hts inM hown hK.1 hP 0 rfl rfl 5 (by decide) (hts _ wd_404) (fun _ h9 => h9) rfl d_M_sweep_39 ?_
              refine lv_iload_n hx hb d_M_sweep_42 rfl (lv_at hl 2 rfl) ?_
              refine lv_iconst (v := nI 0) hx hb d_M_sweep_43 (by decide) ?_
              refine rw_zast hx hb hK.1 hP hD hS 5 1 rfl rfl (j := i) bz_0 (by omega) (by decide) d_M_sweep_44 (wn := mdW k b (nI 0) ki ba ow uu (upd (swT te ma i) i (nI 0)) (swK ma i) va wa) rfl (fun H locs hP hD hS => ?_)
              refine lv_iinc (v := nI ((cnF (swB te ma) i) + 1)) (lv' := [(1, .int (nI ((cnF (swB te ma) i) + 1))), (0, .ref (b 0)), (2, .int (nI i))]) hx hb d_M_sweep_45 hl (k := 1) rfl (ii_1 _) (by decide) rfl (fun ls hl => ?_)
              have hsw : swB te ma i = true := by simp [swB, c17, c26, c35]
              rw [swT_t hsw] at hP hD
              rw [cnF_t hsw] at hl
              refine lv_aload_n hx hb d_M_sweep_48 rfl (lv_at hl 1 rfl) ?_
              refine va_get (D := D) (ci := ciMo) (v := .ref (b 6)) (C := RM) (T := TM) (N := 9) hx hb hts inM hown hK.1 hP 0 rfl rfl 6 (by decide) (hts _ wd_405) (fun _ h9 => h9) rfl d_M_sweep_49 ?_
              refine lv_iload_n hx hb d_M_sweep_52 rfl (lv_at hl 2 rfl) ?_
              refine lv_iconst (v := nI 0) hx hb d_M_sweep_53 (by decide) ?_
              refine rw_zast hx hb hK.1 hP hD hS 6 1 rfl rfl (j := i) bz_0 (by omega) (by decide) d_M_sweep_54 (wn := mdW k b (nI 0) ki ba ow uu (swT te ma (i + 1)) (swK ma (i + 1)) va wa) (by rw [← swK_s]; rfl) (fun H locs hP hD hS => ?_)
              refine lv_iinc (v := nI (i + 1)) (lv' := [(2, .int (nI (i + 1))), (1, .int (nI (cnF (swB te ma) (i + 1)))), (0, .ref (b 0))]) hx hb d_M_sweep_55 hl (k := 2) rfl (ii_1 _) (by decide) rfl (fun ls hl => ?_)
              refine lv_goto (tgt := 9) hx hb d_M_sweep_58 (by decide) ?_
              exact ih (i + 1) ls H locs (by omega) (by omega) hP hD hS (lv_sub hl [2, 1, 0] rfl)
  exact lp _ (0) ls H locs (Nat.lt_succ_self _) (by decide) hP hD hS (lv_sub hl [2, 1, 0] rfl)
