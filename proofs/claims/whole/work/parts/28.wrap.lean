/-! the law's own methods -/
theorem vin_0 : vp_in (nI 0) 1 := by unfold vp_in; decide

set_option maxRecDepth 100000 in
set_option maxHeartbeats 4000000 in
theorem w_make (l : Launch) (D : va_G) (k : Nat → ClassId) (a r t : Nat → Nat) (th kd bs us sth mk dr : Nat → Int32) (M sM : Nat → Nat → Int32) (sa : Nat → Nat) (hl9 : l.stackTraces = false) (x y : Int32) (ob : Nat) (of : Nat → Int64) (sz : Nat) : bHI l y_L_make (wZ y_L_make b_L_make 5 (some .int) [(0, 10, 13, 13), (0, 10, 17, 15)]) (rm9 9 2 12) Sts sa D (tsK k) ((ob, .inl (k 3, 1, .inr (.inl of))) :: cxW k a r t th kd bs us sth mk dr M sM) sz [.ref (a 0), .int x, .int y, .ref ob] (fun v8 w8 => (v8 = nI 0 ∧ ∃ (r9 : Int32) (w9 : va_W), ((fun v w => cdMk th kd x y = 0 ∧ ∃ j : Nat, j < 64 ∧ frF th 64 = nI j ∧ v = nI j ∧ w = cxW k a r t (upd th j (nI 1)) (upd kd j x) (upd bs j y) us sth mk dr M sM)) r9 w9 ∧ w8 = (ob, .inl (k 3, 1, .inr (.inl ((vp_updL of (nI 0).toNatClampNeg (r9.toInt64)))))) :: w9) ∨ (¬ cdMk th kd x y = 0 ∧ v8 = nI (cdMk th kd x y) ∧ w8 = (ob, .inl (k 3, 1, .inr (.inl of))) :: cxW k a r t th kd bs us sth mk dr M sM)) 2 12 := by
  refine ent_h (cc := b_L_make) (maxL := 5) (hh := [(0, 10, 13, 13), (0, 10, 17, 15)]) (by decide) (Nat.le_of_ble_eq_true rfl) ?_
  intro p e s m args below meth c A Q ls hx hb hml hown hts hsz hA hP hD hS hK hl htab hE hN hret
  refine lv_aload_n hx hb d_L_make_0 rfl (lv_at hl 3 rfl) ?_
  refine lv_iconst (v := nI 0) hx hb d_L_make_1 (by decide) ?_
  refine lv_aload_n hx hb d_L_make_2 rfl (lv_at hl 0 rfl) ?_
  refine lv_iload_n hx hb d_L_make_3 rfl (lv_at hl 1 rfl) ?_
  refine lv_iload_n hx hb d_L_make_4 rfl (lv_at hl 2 rfl) ?_
  refine cax_i (wc := cxW k a r t th kd bs us sth mk dr M sM) (wr := [(ob, .inl (k 3, 1, .inr (.inl of)))]) (vx_runV (As := [.int x, .int y]) (rest := [.int (nI 0), .ref ob]) ⟨hx, hb, hml, hown, hts⟩ (c_make l D k a r t th kd bs us sth mk dr M sM sa hl9 x y s.heap.size) (cwV9 2 hts wd_120 wd_117 wd_118 wd_119 wd_1 (by decide) ⟨Nat.le_of_ble_eq_true rfl, Nat.le_of_ble_eq_true rfl⟩) (prVx (q0 := 0) (ci := ciSS) hE hS hA hK hP hD (pm_cm1 _ _) rfl rfl) rfl rfl hl.1 rfl (lv_room (Nat.le_of_ble_eq_true rfl)) d_L_make_5 ⟨by decide, by decide⟩) (pm_cm1 _ _) hP hD hS hA (fun E9 ce9 ad9 w1 H locs hpx hpd hS hce hcv hcl => ?_) (fun r w1 H locs hw hpd hS => ?_)
  · skip
    rcases hpx with ⟨⟨rfl, hcd⟩ | ⟨rfl, hcd⟩, rfl⟩
    · skip
      obtain ⟨hP, hD⟩ := hpd ((ob, .inl (k 3, 1, .inr (.inl of))) :: cxW k a r t th kd bs us sth mk dr M sM) (pm_cm2 _ _)
      refine vx_catch hown [] ⟨0, 10, 13, 13⟩ [⟨0, 10, 17, 15⟩] (by rw [htab]; rfl) (fun z hz => absurd hz List.not_mem_nil) (by decide) (by decide) (hts _ wd_115) (va_Nw.use rfl (hK.2.1 (Cond.castable "java/lang/IllegalArgumentException" "java/lang/IllegalArgumentException") (by decide))) hce hcv hcl ?_
      refine lv_astore (lv' := [(4, .ref ad9), (0, .ref (a 0)), (1, .int x), (2, .int y), (3, .ref ob)]) hx hb d_L_make_13 hl (by decide) rfl (fun ls hl => ?_)
      refine lv_iconst (v := nI 1) hx hb d_L_make_15 (by decide) ?_
      exact hret _ _ _ _ _ _ _ _ d_L_make_16 (Or.inr ⟨by rw [hcd]; decide, by rw [hcd], rfl⟩) hP hD hS (by decide) (by decide)
    · skip
      obtain ⟨hP, hD⟩ := hpd ((ob, .inl (k 3, 1, .inr (.inl of))) :: cxW k a r t th kd bs us sth mk dr M sM) (pm_cm2 _ _)
      refine vx_catch hown [⟨0, 10, 13, 13⟩] ⟨0, 10, 17, 15⟩ [] (by rw [htab]; rfl) (fun z hz => by obtain rfl := List.mem_singleton.mp hz; exact Or.inr ⟨by decide, _, hts _ wd_115, hN.1⟩) (by decide) (by decide) (hts _ wd_116) (va_Nw.use rfl (hK.2.1 (Cond.castable "java/lang/IllegalStateException" "java/lang/IllegalStateException") (by decide))) hce hcv hcl ?_
      refine lv_astore (lv' := [(4, .ref ad9), (0, .ref (a 0)), (1, .int x), (2, .int y), (3, .ref ob)]) hx hb d_L_make_17 hl (by decide) rfl (fun ls hl => ?_)
      refine lv_iconst (v := nI 2) hx hb d_L_make_19 (by decide) ?_
      exact hret _ _ _ _ _ _ _ _ d_L_make_20 (Or.inr ⟨by rw [hcd]; decide, by rw [hcd], rfl⟩) hP hD hS (by decide) (by decide)
  obtain ⟨hP, hD⟩ := hpd ((ob, .inl (k 3, 1, .inr (.inl of))) :: w1) (pm_cm2 _ _)
  refine lv_i2l (v := (r).toInt64) hx hb d_L_make_8 rfl ?_
  refine va_last hx hb hK.1 hP hD hS 0 3 rfl rfl vin_0 d_L_make_9 (fun H locs hP hD hS => ?_)
  have hP : va_P D vwCl ((ob, .inl (k 3, 1, .inr (.inl ((vp_updL of (nI 0).toNatClampNeg ((r).toInt64)))))) :: w1) H := hP
  have hD : va_D A ((ob, .inl (k 3, 1, .inr (.inl ((vp_updL of (nI 0).toNatClampNeg ((r).toInt64)))))) :: w1) := hD
  refine lv_goto (tgt := 21) hx hb d_L_make_10 (by decide) ?_
  refine lv_iconst (v := nI 0) hx hb d_L_make_21 (by decide) ?_
  exact hret _ _ _ _ _ _ _ _ d_L_make_22 (Or.inl ⟨rfl, r, w1, hw, rfl⟩) hP hD hS (by decide) (by decide)

set_option maxRecDepth 100000 in
set_option maxHeartbeats 4000000 in
theorem w_drop (l : Launch) (D : va_G) (k : Nat → ClassId) (a r t : Nat → Nat) (th kd bs us sth mk dr : Nat → Int32) (M sM : Nat → Nat → Int32) (sa : Nat → Nat) (hl9 : l.stackTraces = false) (x : Int32) (ob : Nat) (of : Nat → Int64) (sz : Nat) : bHI l y_L_drop (wZ y_L_drop b_L_drop 4 (some .int) [(0, 9, 12, 21)]) (rm9 9 1 6) Sts sa D (tsK k) ((ob, .inl (k 3, 1, .inr (.inl of))) :: cxW k a r t th kd bs us sth mk dr M sM) sz [.ref (a 0), .int x, .ref ob] (fun v8 w8 => (v8 = nI 0 ∧ ∃ (r9 : Int32) (w9 : va_W), ((fun v w => ∃ s0 : Nat, s0 < 64 ∧ x = nI s0 ∧ hsB 64 th (nI s0) = true ∧ v = nI (cnF (dnB th s0 bs) 64) ∧ w = cxW k a r t (upd th s0 (nI 0)) kd (dbF th s0 bs 64) us sth mk dr (va_up M s0 (fun _ => -1)) sM)) r9 w9 ∧ w8 = (ob, .inl (k 3, 1, .inr (.inl ((vp_updL of (nI 0).toNatClampNeg (r9.toInt64)))))) :: w9) ∨ (¬ cdDr th x = 0 ∧ v8 = nI (cdDr th x) ∧ w8 = (ob, .inl (k 3, 1, .inr (.inl of))) :: cxW k a r t th kd bs us sth mk dr M sM)) 1 6 := by
  refine ent_h (cc := b_L_drop) (maxL := 4) (hh := [(0, 9, 12, 21)]) (by decide) (Nat.le_of_ble_eq_true rfl) ?_
  intro p e s m args below meth c A Q ls hx hb hml hown hts hsz hA hP hD hS hK hl htab hE hN hret
  refine lv_aload_n hx hb d_L_drop_0 rfl (lv_at hl 2 rfl) ?_
  refine lv_iconst (v := nI 0) hx hb d_L_drop_1 (by decide) ?_
  refine lv_aload_n hx hb d_L_drop_2 rfl (lv_at hl 0 rfl) ?_
  refine lv_iload_n hx hb d_L_drop_3 rfl (lv_at hl 1 rfl) ?_
  refine cax_i (wc := cxW k a r t th kd bs us sth mk dr M sM) (wr := [(ob, .inl (k 3, 1, .inr (.inl of)))]) (vx_runV (As := [.int x]) (rest := [.int (nI 0), .ref ob]) ⟨hx, hb, hml, hown, hts⟩ (c_drop l D k a r t th kd bs us sth mk dr M sM sa hl9 x s.heap.size) (cwV9 1 hts wd_221 wd_218 wd_219 wd_220 wd_1 (by decide) ⟨Nat.le_of_ble_eq_true rfl, Nat.le_of_ble_eq_true rfl⟩) (prVx (q0 := 0) (ci := ciSS) hE hS hA hK hP hD (pm_cm1 _ _) rfl rfl) rfl rfl hl.1 rfl (lv_room (Nat.le_of_ble_eq_true rfl)) d_L_drop_4 ⟨by decide, by decide⟩) (pm_cm1 _ _) hP hD hS hA (fun E9 ce9 ad9 w1 H locs hpx hpd hS hce hcv hcl => ?_) (fun r w1 H locs hw hpd hS => ?_)
  · skip
    rcases hpx with ⟨⟨rfl, hcd⟩, rfl⟩
    · skip
      obtain ⟨hP, hD⟩ := hpd ((ob, .inl (k 3, 1, .inr (.inl of))) :: cxW k a r t th kd bs us sth mk dr M sM) (pm_cm2 _ _)
      refine vx_catch hown [] ⟨0, 9, 12, 21⟩ [] (by rw [htab]; rfl) (fun z hz => absurd hz List.not_mem_nil) (by decide) (by decide) (hts _ wd_217) (va_Nw.use rfl (hK.2.1 (Cond.castable "java/util/NoSuchElementException" "java/util/NoSuchElementException") (by decide))) hce hcv hcl ?_
      refine lv_astore_n (lv' := [(3, .ref ad9), (0, .ref (a 0)), (1, .int x), (2, .ref ob)]) hx hb d_L_drop_12 rfl hl (by decide) rfl (fun ls hl => ?_)
      refine lv_iconst (v := nI 1) hx hb d_L_drop_13 (by decide) ?_
      exact hret _ _ _ _ _ _ _ _ d_L_drop_14 (Or.inr ⟨by rw [hcd]; decide, by rw [hcd], rfl⟩) hP hD hS (by decide) (by decide)
  obtain ⟨hP, hD⟩ := hpd ((ob, .inl (k 3, 1, .inr (.inl of))) :: w1) (pm_cm2 _ _)
  refine lv_i2l (v := (r).toInt64) hx hb d_L_drop_7 rfl ?_
  refine va_last hx hb hK.1 hP hD hS 0 3 rfl rfl vin_0 d_L_drop_8 (fun H locs hP hD hS => ?_)
  have hP : va_P D vwCl ((ob, .inl (k 3, 1, .inr (.inl ((vp_updL of (nI 0).toNatClampNeg ((r).toInt64)))))) :: w1) H := hP
  have hD : va_D A ((ob, .inl (k 3, 1, .inr (.inl ((vp_updL of (nI 0).toNatClampNeg ((r).toInt64)))))) :: w1) := hD
  refine lv_goto (tgt := 15) hx hb d_L_drop_9 (by decide) ?_
  refine lv_iconst (v := nI 0) hx hb d_L_drop_15 (by decide) ?_
  exact hret _ _ _ _ _ _ _ _ d_L_drop_16 (Or.inl ⟨rfl, r, w1, hw, rfl⟩) hP hD hS (by decide) (by decide)

set_option maxRecDepth 100000 in
set_option maxHeartbeats 4000000 in
theorem w_rebase (l : Launch) (D : va_G) (k : Nat → ClassId) (a r t : Nat → Nat) (th kd bs us sth mk dr : Nat → Int32) (M sM : Nat → Nat → Int32) (sa : Nat → Nat) (hl9 : l.stackTraces = false) (x y : Int32) (ob : Nat) (of : Nat → Int64) (sz : Nat) : bHI l y_L_rebase (wZ y_L_rebase b_L_rebase 5 (some .int) [(0, 17, 20, 21), (0, 17, 24, 13)]) (rm9 9 2 12) Sts sa D (tsK k) ((ob, .inl (k 3, 1, .inr (.inl of))) :: cxW k a r t th kd bs us sth mk dr M sM) sz [.ref (a 0), .int x, .int y, .ref ob] (fun v8 w8 => (v8 = nI 0 ∧ ∃ (r9 : Int32) (w9 : va_W), ((fun v w => ∃ s0 : Nat, s0 < 64 ∧ x = nI s0 ∧ hsB 64 th (nI s0) = true ∧ okB th kd y (kd s0) = true ∧ ((ocF th bs (nI s0) 64 y = true ∧ v = nI 0 ∧ w = cxW k a r t th kd bs us sth mk dr M sM) ∨ (ocF th bs (nI s0) 64 y = false ∧ v = nI 1 ∧ w = cxW k a r t th kd (upd bs s0 y) us sth mk dr M sM)))) r9 w9 ∧ w8 = (ob, .inl (k 3, 1, .inr (.inl ((vp_updL of (nI 0).toNatClampNeg (if r9 = 0 then 0 else 1)))))) :: w9) ∨ (¬ cdRb th kd x y = 0 ∧ v8 = nI (cdRb th kd x y) ∧ w8 = (ob, .inl (k 3, 1, .inr (.inl of))) :: cxW k a r t th kd bs us sth mk dr M sM)) 2 12 := by
  refine ent_h (cc := b_L_rebase) (maxL := 5) (hh := [(0, 17, 20, 21), (0, 17, 24, 13)]) (by decide) (Nat.le_of_ble_eq_true rfl) ?_
  intro p e s m args below meth c A Q ls hx hb hml hown hts hsz hA hP hD hS hK hl htab hE hN hret
  refine lv_aload_n hx hb d_L_rebase_0 rfl (lv_at hl 3 rfl) ?_
  refine lv_iconst (v := nI 0) hx hb d_L_rebase_1 (by decide) ?_
  refine lv_aload_n hx hb d_L_rebase_2 rfl (lv_at hl 0 rfl) ?_
  refine lv_iload_n hx hb d_L_rebase_3 rfl (lv_at hl 1 rfl) ?_
  refine lv_iload_n hx hb d_L_rebase_4 rfl (lv_at hl 2 rfl) ?_
  refine cax_i (wc := cxW k a r t th kd bs us sth mk dr M sM) (wr := [(ob, .inl (k 3, 1, .inr (.inl of)))]) (vx_runV (As := [.int x, .int y]) (rest := [.int (nI 0), .ref ob]) ⟨hx, hb, hml, hown, hts⟩ (c_rebase l D k a r t th kd bs us sth mk dr M sM sa hl9 x y s.heap.size) (cwV9 2 hts wd_248 wd_245 wd_246 wd_247 wd_1 (by decide) ⟨Nat.le_of_ble_eq_true rfl, Nat.le_of_ble_eq_true rfl⟩) (prVx (q0 := 0) (ci := ciSS) hE hS hA hK hP hD (pm_cm1 _ _) rfl rfl) rfl rfl hl.1 rfl (lv_room (Nat.le_of_ble_eq_true rfl)) d_L_rebase_5 ⟨by decide, by decide⟩) (pm_cm1 _ _) hP hD hS hA (fun E9 ce9 ad9 w1 H locs hpx hpd hS hce hcv hcl => ?_) (fun r w1 H locs hw hpd hS => ?_)
  · skip
    rcases hpx with ⟨⟨rfl, hcd⟩ | ⟨rfl, hcd⟩, rfl⟩
    · skip
      obtain ⟨hP, hD⟩ := hpd ((ob, .inl (k 3, 1, .inr (.inl of))) :: cxW k a r t th kd bs us sth mk dr M sM) (pm_cm2 _ _)
      refine vx_catch hown [] ⟨0, 17, 20, 21⟩ [⟨0, 17, 24, 13⟩] (by rw [htab]; rfl) (fun z hz => absurd hz List.not_mem_nil) (by decide) (by decide) (hts _ wd_217) (va_Nw.use rfl (hK.2.1 (Cond.castable "java/util/NoSuchElementException" "java/util/NoSuchElementException") (by decide))) hce hcv hcl ?_
      refine lv_astore (lv' := [(4, .ref ad9), (0, .ref (a 0)), (1, .int x), (2, .int y), (3, .ref ob)]) hx hb d_L_rebase_20 hl (by decide) rfl (fun ls hl => ?_)
      refine lv_iconst (v := nI 1) hx hb d_L_rebase_22 (by decide) ?_
      exact hret _ _ _ _ _ _ _ _ d_L_rebase_23 (Or.inr ⟨by rw [hcd]; decide, by rw [hcd], rfl⟩) hP hD hS (by decide) (by decide)
    · skip
      obtain ⟨hP, hD⟩ := hpd ((ob, .inl (k 3, 1, .inr (.inl of))) :: cxW k a r t th kd bs us sth mk dr M sM) (pm_cm2 _ _)
      refine vx_catch hown [⟨0, 17, 20, 21⟩] ⟨0, 17, 24, 13⟩ [] (by rw [htab]; rfl) (fun z hz => by obtain rfl := List.mem_singleton.mp hz; exact Or.inr ⟨by decide, _, hts _ wd_217, hN.2.1⟩) (by decide) (by decide) (hts _ wd_115) (va_Nw.use rfl (hK.2.1 (Cond.castable "java/lang/IllegalArgumentException" "java/lang/IllegalArgumentException") (by decide))) hce hcv hcl ?_
      refine lv_astore (lv' := [(4, .ref ad9), (0, .ref (a 0)), (1, .int x), (2, .int y), (3, .ref ob)]) hx hb d_L_rebase_24 hl (by decide) rfl (fun ls hl => ?_)
      refine lv_iconst (v := nI 2) hx hb d_L_rebase_26 (by decide) ?_
      exact hret _ _ _ _ _ _ _ _ d_L_rebase_27 (Or.inr ⟨by rw [hcd]; decide, by rw [hcd], rfl⟩) hP hD hS (by decide) (by decide)
  obtain ⟨hP, hD⟩ := hpd ((ob, .inl (k 3, 1, .inr (.inl of))) :: w1) (pm_cm2 _ _)
  refine lv_if_eq (tgt := 15) hx hb d_L_rebase_8 (by decide) (fun c8 => ?_) (fun c8 => ?_)
  · skip
    refine lv_lconst (v := 0) hx hb d_L_rebase_15 (by decide) ?_
    refine va_last hx hb hK.1 hP hD hS 0 3 rfl rfl vin_0 d_L_rebase_16 (fun H locs hP hD hS => ?_)
    have hP : va_P D vwCl ((ob, .inl (k 3, 1, .inr (.inl ((vp_updL of (nI 0).toNatClampNeg 0))))) :: w1) H := hP
    have hD : va_D A ((ob, .inl (k 3, 1, .inr (.inl ((vp_updL of (nI 0).toNatClampNeg 0))))) :: w1) := hD
    rw [show (0 : Int64) = (if r = 0 then 0 else 1) by rw [if_pos c8]] at hP hD
    refine lv_goto (tgt := 28) hx hb d_L_rebase_17 (by decide) ?_
    refine lv_iconst (v := nI 0) hx hb d_L_rebase_28 (by decide) ?_
    exact hret _ _ _ _ _ _ _ _ d_L_rebase_29 (Or.inl ⟨rfl, r, w1, hw, rfl⟩) hP hD hS (by decide) (by decide)
  · skip
    refine lv_lconst (v := 1) hx hb d_L_rebase_11 (by decide) ?_
    refine lv_goto (tgt := 16) hx hb d_L_rebase_12 (by decide) ?_
    refine va_last hx hb hK.1 hP hD hS 0 3 rfl rfl vin_0 d_L_rebase_16 (fun H locs hP hD hS => ?_)
    have hP : va_P D vwCl ((ob, .inl (k 3, 1, .inr (.inl ((vp_updL of (nI 0).toNatClampNeg 1))))) :: w1) H := hP
    have hD : va_D A ((ob, .inl (k 3, 1, .inr (.inl ((vp_updL of (nI 0).toNatClampNeg 1))))) :: w1) := hD
    rw [show (1 : Int64) = (if r = 0 then 0 else 1) by rw [if_neg c8]] at hP hD
    refine lv_goto (tgt := 28) hx hb d_L_rebase_17 (by decide) ?_
    refine lv_iconst (v := nI 0) hx hb d_L_rebase_28 (by decide) ?_
    exact hret _ _ _ _ _ _ _ _ d_L_rebase_29 (Or.inl ⟨rfl, r, w1, hw, rfl⟩) hP hD hS (by decide) (by decide)

set_option maxRecDepth 100000 in
set_option maxHeartbeats 4000000 in
theorem w_own (l : Launch) (D : va_G) (k : Nat → ClassId) (a r t : Nat → Nat) (th kd bs us sth mk dr : Nat → Int32) (M sM : Nat → Nat → Int32) (sa : Nat → Nat) (hl9 : l.stackTraces = false) (x y v : Int32) (sz : Nat) : bHI l y_L_own (wZ y_L_own b_L_own 5 (some .int) [(0, 7, 10, 21), (0, 7, 14, 13)]) (rm9 9 3 18) Sts sa D (tsK k) (cxW k a r t th kd bs us sth mk dr M sM) sz [.ref (a 0), .int x, .int y, .int v] (fun v8 w8 => (v8 = nI 0 ∧ ((fun w => ∃ s0 : Nat, s0 < 64 ∧ x = nI s0 ∧ hsB 64 th (nI s0) = true ∧ ∃ p9 : Nat, p9 < 24 ∧ y = nI p9 ∧ nvB (nI p9) v = true ∧ w = cxW k a r t th kd bs us sth mk dr (va_up M s0 (upd (M s0) p9 v)) sM)) w8) ∨ (¬ cdOw th x y v = 0 ∧ v8 = nI (cdOw th x y v) ∧ w8 = cxW k a r t th kd bs us sth mk dr M sM)) 3 18 := by
  refine ent_h (cc := b_L_own) (maxL := 5) (hh := [(0, 7, 10, 21), (0, 7, 14, 13)]) (by decide) (Nat.le_of_ble_eq_true rfl) ?_
  intro p e s m args below meth c A Q ls hx hb hml hown hts hsz hA hP hD hS hK hl htab hE hN hret
  refine lv_aload_n hx hb d_L_own_0 rfl (lv_at hl 0 rfl) ?_
  refine lv_iload_n hx hb d_L_own_1 rfl (lv_at hl 1 rfl) ?_
  refine lv_iload_n hx hb d_L_own_2 rfl (lv_at hl 2 rfl) ?_
  refine lv_iload_n hx hb d_L_own_3 rfl (lv_at hl 3 rfl) ?_
  refine cax_v (wc := cxW k a r t th kd bs us sth mk dr M sM) (wr := []) (vx_runV (As := [.int x, .int y, .int v]) (rest := []) ⟨hx, hb, hml, hown, hts⟩ (c_own l D k a r t th kd bs us sth mk dr M sM sa hl9 x y v s.heap.size) (cwV9 3 hts wd_259 wd_256 wd_257 wd_258 wd_1 (by decide) ⟨Nat.le_of_ble_eq_true rfl, Nat.le_of_ble_eq_true rfl⟩) (prVx (q0 := 0) (ci := ciSS) hE hS hA hK hP hD (pm_nil' _) rfl rfl) rfl rfl hl.1 rfl (lv_room (Nat.le_of_ble_eq_true rfl)) d_L_own_4 ⟨by decide, by decide⟩) (pm_nil' _) hP hD hS hA (fun E9 ce9 ad9 w1 H locs hpx hpd hS hce hcv hcl => ?_) (fun w1 H locs hw hpd hS => ?_)
  · skip
    rcases hpx with ⟨⟨rfl, hcd⟩ | ⟨rfl, hcd⟩, rfl⟩
    · skip
      obtain ⟨hP, hD⟩ := hpd (cxW k a r t th kd bs us sth mk dr M sM) (pm_nil _)
      refine vx_catch hown [] ⟨0, 7, 10, 21⟩ [⟨0, 7, 14, 13⟩] (by rw [htab]; rfl) (fun z hz => absurd hz List.not_mem_nil) (by decide) (by decide) (hts _ wd_217) (va_Nw.use rfl (hK.2.1 (Cond.castable "java/util/NoSuchElementException" "java/util/NoSuchElementException") (by decide))) hce hcv hcl ?_
      refine lv_astore (lv' := [(4, .ref ad9), (0, .ref (a 0)), (1, .int x), (2, .int y), (3, .int v)]) hx hb d_L_own_10 hl (by decide) rfl (fun ls hl => ?_)
      refine lv_iconst (v := nI 1) hx hb d_L_own_12 (by decide) ?_
      exact hret _ _ _ _ _ _ _ _ d_L_own_13 (Or.inr ⟨by rw [hcd]; decide, by rw [hcd], rfl⟩) hP hD hS (by decide) (by decide)
    · skip
      obtain ⟨hP, hD⟩ := hpd (cxW k a r t th kd bs us sth mk dr M sM) (pm_nil _)
      refine vx_catch hown [⟨0, 7, 10, 21⟩] ⟨0, 7, 14, 13⟩ [] (by rw [htab]; rfl) (fun z hz => by obtain rfl := List.mem_singleton.mp hz; exact Or.inr ⟨by decide, _, hts _ wd_217, hN.2.1⟩) (by decide) (by decide) (hts _ wd_115) (va_Nw.use rfl (hK.2.1 (Cond.castable "java/lang/IllegalArgumentException" "java/lang/IllegalArgumentException") (by decide))) hce hcv hcl ?_
      refine lv_astore (lv' := [(4, .ref ad9), (0, .ref (a 0)), (1, .int x), (2, .int y), (3, .int v)]) hx hb d_L_own_14 hl (by decide) rfl (fun ls hl => ?_)
      refine lv_iconst (v := nI 2) hx hb d_L_own_16 (by decide) ?_
      exact hret _ _ _ _ _ _ _ _ d_L_own_17 (Or.inr ⟨by rw [hcd]; decide, by rw [hcd], rfl⟩) hP hD hS (by decide) (by decide)
  obtain ⟨hP, hD⟩ := hpd (w1) (pm_nil _)
  refine lv_goto (tgt := 18) hx hb d_L_own_7 (by decide) ?_
  refine lv_iconst (v := nI 0) hx hb d_L_own_18 (by decide) ?_
  exact hret _ _ _ _ _ _ _ _ d_L_own_19 (Or.inl ⟨rfl, hw⟩) hP hD hS (by decide) (by decide)

set_option maxRecDepth 100000 in
set_option maxHeartbeats 4000000 in
theorem w_value (l : Launch) (D : va_G) (k : Nat → ClassId) (a r t : Nat → Nat) (th kd bs us sth mk dr : Nat → Int32) (M sM : Nat → Nat → Int32) (sa : Nat → Nat) (hl9 : l.stackTraces = false) (x y : Int32) (ob : Nat) (of : Nat → Int64) (sz : Nat) : bHI l y_L_value (wZ y_L_value b_L_value 5 (some .int) [(0, 10, 13, 21), (0, 10, 17, 13)]) (rm9 9 2 12) Sts sa D (tsK k) ((ob, .inl (k 3, 1, .inr (.inl of))) :: cxW k a r t th kd bs us sth mk dr M sM) sz [.ref (a 0), .int x, .int y, .ref ob] (fun v8 w8 => (v8 = nI 0 ∧ ∃ (r9 : Int32) (w9 : va_W), ((fun v w => ∃ s0 : Nat, s0 < 64 ∧ x = nI s0 ∧ hsB 64 th (nI s0) = true ∧ ∃ p9 : Nat, p9 < 24 ∧ y = nI p9 ∧ v = vbF th bs M (nI s0) p9 ∧ w = cxW k a r t th kd bs us sth mk dr M sM)) r9 w9 ∧ w8 = (ob, .inl (k 3, 1, .inr (.inl ((vp_updL of (nI 0).toNatClampNeg (r9.toInt64)))))) :: w9) ∨ (¬ cdVa th x y = 0 ∧ v8 = nI (cdVa th x y) ∧ w8 = (ob, .inl (k 3, 1, .inr (.inl of))) :: cxW k a r t th kd bs us sth mk dr M sM)) 2 12 := by
  refine ent_h (cc := b_L_value) (maxL := 5) (hh := [(0, 10, 13, 21), (0, 10, 17, 13)]) (by decide) (Nat.le_of_ble_eq_true rfl) ?_
  intro p e s m args below meth c A Q ls hx hb hml hown hts hsz hA hP hD hS hK hl htab hE hN hret
  refine lv_aload_n hx hb d_L_value_0 rfl (lv_at hl 3 rfl) ?_
  refine lv_iconst (v := nI 0) hx hb d_L_value_1 (by decide) ?_
  refine lv_aload_n hx hb d_L_value_2 rfl (lv_at hl 0 rfl) ?_
  refine lv_iload_n hx hb d_L_value_3 rfl (lv_at hl 1 rfl) ?_
  refine lv_iload_n hx hb d_L_value_4 rfl (lv_at hl 2 rfl) ?_
  refine cax_i (wc := cxW k a r t th kd bs us sth mk dr M sM) (wr := [(ob, .inl (k 3, 1, .inr (.inl of)))]) (vx_runV (As := [.int x, .int y]) (rest := [.int (nI 0), .ref ob]) ⟨hx, hb, hml, hown, hts⟩ (c_value l D k a r t th kd bs us sth mk dr M sM sa hl9 x y s.heap.size) (cwV9 2 hts wd_281 wd_278 wd_279 wd_280 wd_1 (by decide) ⟨Nat.le_of_ble_eq_true rfl, Nat.le_of_ble_eq_true rfl⟩) (prVx (q0 := 0) (ci := ciSS) hE hS hA hK hP hD (pm_cm1 _ _) rfl rfl) rfl rfl hl.1 rfl (lv_room (Nat.le_of_ble_eq_true rfl)) d_L_value_5 ⟨by decide, by decide⟩) (pm_cm1 _ _) hP hD hS hA (fun E9 ce9 ad9 w1 H locs hpx hpd hS hce hcv hcl => ?_) (fun r w1 H locs hw hpd hS => ?_)
  · skip
    rcases hpx with ⟨⟨rfl, hcd⟩ | ⟨rfl, hcd⟩, rfl⟩
    · skip
      obtain ⟨hP, hD⟩ := hpd ((ob, .inl (k 3, 1, .inr (.inl of))) :: cxW k a r t th kd bs us sth mk dr M sM) (pm_cm2 _ _)
      refine vx_catch hown [] ⟨0, 10, 13, 21⟩ [⟨0, 10, 17, 13⟩] (by rw [htab]; rfl) (fun z hz => absurd hz List.not_mem_nil) (by decide) (by decide) (hts _ wd_217) (va_Nw.use rfl (hK.2.1 (Cond.castable "java/util/NoSuchElementException" "java/util/NoSuchElementException") (by decide))) hce hcv hcl ?_
      refine lv_astore (lv' := [(4, .ref ad9), (0, .ref (a 0)), (1, .int x), (2, .int y), (3, .ref ob)]) hx hb d_L_value_13 hl (by decide) rfl (fun ls hl => ?_)
      refine lv_iconst (v := nI 1) hx hb d_L_value_15 (by decide) ?_
      exact hret _ _ _ _ _ _ _ _ d_L_value_16 (Or.inr ⟨by rw [hcd]; decide, by rw [hcd], rfl⟩) hP hD hS (by decide) (by decide)
    · skip
      obtain ⟨hP, hD⟩ := hpd ((ob, .inl (k 3, 1, .inr (.inl of))) :: cxW k a r t th kd bs us sth mk dr M sM) (pm_cm2 _ _)
      refine vx_catch hown [⟨0, 10, 13, 21⟩] ⟨0, 10, 17, 13⟩ [] (by rw [htab]; rfl) (fun z hz => by obtain rfl := List.mem_singleton.mp hz; exact Or.inr ⟨by decide, _, hts _ wd_217, hN.2.1⟩) (by decide) (by decide) (hts _ wd_115) (va_Nw.use rfl (hK.2.1 (Cond.castable "java/lang/IllegalArgumentException" "java/lang/IllegalArgumentException") (by decide))) hce hcv hcl ?_
      refine lv_astore (lv' := [(4, .ref ad9), (0, .ref (a 0)), (1, .int x), (2, .int y), (3, .ref ob)]) hx hb d_L_value_17 hl (by decide) rfl (fun ls hl => ?_)
      refine lv_iconst (v := nI 2) hx hb d_L_value_19 (by decide) ?_
      exact hret _ _ _ _ _ _ _ _ d_L_value_20 (Or.inr ⟨by rw [hcd]; decide, by rw [hcd], rfl⟩) hP hD hS (by decide) (by decide)
  obtain ⟨hP, hD⟩ := hpd ((ob, .inl (k 3, 1, .inr (.inl of))) :: w1) (pm_cm2 _ _)
  refine lv_i2l (v := (r).toInt64) hx hb d_L_value_8 rfl ?_
  refine va_last hx hb hK.1 hP hD hS 0 3 rfl rfl vin_0 d_L_value_9 (fun H locs hP hD hS => ?_)
  have hP : va_P D vwCl ((ob, .inl (k 3, 1, .inr (.inl ((vp_updL of (nI 0).toNatClampNeg ((r).toInt64)))))) :: w1) H := hP
  have hD : va_D A ((ob, .inl (k 3, 1, .inr (.inl ((vp_updL of (nI 0).toNatClampNeg ((r).toInt64)))))) :: w1) := hD
  refine lv_goto (tgt := 21) hx hb d_L_value_10 (by decide) ?_
  refine lv_iconst (v := nI 0) hx hb d_L_value_21 (by decide) ?_
  exact hret _ _ _ _ _ _ _ _ d_L_value_22 (Or.inl ⟨rfl, r, w1, hw, rfl⟩) hP hD hS (by decide) (by decide)

set_option maxRecDepth 100000 in
set_option maxHeartbeats 4000000 in
theorem w_giver (l : Launch) (D : va_G) (k : Nat → ClassId) (a r t : Nat → Nat) (th kd bs us sth mk dr : Nat → Int32) (M sM : Nat → Nat → Int32) (sa : Nat → Nat) (hl9 : l.stackTraces = false) (x y : Int32) (ob : Nat) (of : Nat → Int64) (sz : Nat) : bHI l y_L_giver (wZ y_L_giver b_L_giver 5 (some .int) [(0, 10, 13, 21), (0, 10, 17, 13)]) (rm9 9 2 12) Sts sa D (tsK k) ((ob, .inl (k 3, 1, .inr (.inl of))) :: cxW k a r t th kd bs us sth mk dr M sM) sz [.ref (a 0), .int x, .int y, .ref ob] (fun v8 w8 => (v8 = nI 0 ∧ ∃ (r9 : Int32) (w9 : va_W), ((fun v w => ∃ s0 : Nat, s0 < 64 ∧ x = nI s0 ∧ hsB 64 th (nI s0) = true ∧ ∃ p9 : Nat, p9 < 24 ∧ y = nI p9 ∧ v = gvF th bs M p9 64 (nI s0) ∧ w = cxW k a r t th kd bs us sth mk dr M sM)) r9 w9 ∧ w8 = (ob, .inl (k 3, 1, .inr (.inl ((vp_updL of (nI 0).toNatClampNeg (r9.toInt64)))))) :: w9) ∨ (¬ cdVa th x y = 0 ∧ v8 = nI (cdVa th x y) ∧ w8 = (ob, .inl (k 3, 1, .inr (.inl of))) :: cxW k a r t th kd bs us sth mk dr M sM)) 2 12 := by
  refine ent_h (cc := b_L_giver) (maxL := 5) (hh := [(0, 10, 13, 21), (0, 10, 17, 13)]) (by decide) (Nat.le_of_ble_eq_true rfl) ?_
  intro p e s m args below meth c A Q ls hx hb hml hown hts hsz hA hP hD hS hK hl htab hE hN hret
  refine lv_aload_n hx hb d_L_giver_0 rfl (lv_at hl 3 rfl) ?_
  refine lv_iconst (v := nI 0) hx hb d_L_giver_1 (by decide) ?_
  refine lv_aload_n hx hb d_L_giver_2 rfl (lv_at hl 0 rfl) ?_
  refine lv_iload_n hx hb d_L_giver_3 rfl (lv_at hl 1 rfl) ?_
  refine lv_iload_n hx hb d_L_giver_4 rfl (lv_at hl 2 rfl) ?_
  refine cax_i (wc := cxW k a r t th kd bs us sth mk dr M sM) (wr := [(ob, .inl (k 3, 1, .inr (.inl of)))]) (vx_runV (As := [.int x, .int y]) (rest := [.int (nI 0), .ref ob]) ⟨hx, hb, hml, hown, hts⟩ (c_giver l D k a r t th kd bs us sth mk dr M sM sa hl9 x y s.heap.size) (cwV9 2 hts wd_296 wd_293 wd_294 wd_295 wd_1 (by decide) ⟨Nat.le_of_ble_eq_true rfl, Nat.le_of_ble_eq_true rfl⟩) (prVx (q0 := 0) (ci := ciSS) hE hS hA hK hP hD (pm_cm1 _ _) rfl rfl) rfl rfl hl.1 rfl (lv_room (Nat.le_of_ble_eq_true rfl)) d_L_giver_5 ⟨by decide, by decide⟩) (pm_cm1 _ _) hP hD hS hA (fun E9 ce9 ad9 w1 H locs hpx hpd hS hce hcv hcl => ?_) (fun r w1 H locs hw hpd hS => ?_)
  · skip
    rcases hpx with ⟨⟨rfl, hcd⟩ | ⟨rfl, hcd⟩, rfl⟩
    · skip
      obtain ⟨hP, hD⟩ := hpd ((ob, .inl (k 3, 1, .inr (.inl of))) :: cxW k a r t th kd bs us sth mk dr M sM) (pm_cm2 _ _)
      refine vx_catch hown [] ⟨0, 10, 13, 21⟩ [⟨0, 10, 17, 13⟩] (by rw [htab]; rfl) (fun z hz => absurd hz List.not_mem_nil) (by decide) (by decide) (hts _ wd_217) (va_Nw.use rfl (hK.2.1 (Cond.castable "java/util/NoSuchElementException" "java/util/NoSuchElementException") (by decide))) hce hcv hcl ?_
      refine lv_astore (lv' := [(4, .ref ad9), (0, .ref (a 0)), (1, .int x), (2, .int y), (3, .ref ob)]) hx hb d_L_giver_13 hl (by decide) rfl (fun ls hl => ?_)
      refine lv_iconst (v := nI 1) hx hb d_L_giver_15 (by decide) ?_
      exact hret _ _ _ _ _ _ _ _ d_L_giver_16 (Or.inr ⟨by rw [hcd]; decide, by rw [hcd], rfl⟩) hP hD hS (by decide) (by decide)
    · skip
      obtain ⟨hP, hD⟩ := hpd ((ob, .inl (k 3, 1, .inr (.inl of))) :: cxW k a r t th kd bs us sth mk dr M sM) (pm_cm2 _ _)
      refine vx_catch hown [⟨0, 10, 13, 21⟩] ⟨0, 10, 17, 13⟩ [] (by rw [htab]; rfl) (fun z hz => by obtain rfl := List.mem_singleton.mp hz; exact Or.inr ⟨by decide, _, hts _ wd_217, hN.2.1⟩) (by decide) (by decide) (hts _ wd_115) (va_Nw.use rfl (hK.2.1 (Cond.castable "java/lang/IllegalArgumentException" "java/lang/IllegalArgumentException") (by decide))) hce hcv hcl ?_
      refine lv_astore (lv' := [(4, .ref ad9), (0, .ref (a 0)), (1, .int x), (2, .int y), (3, .ref ob)]) hx hb d_L_giver_17 hl (by decide) rfl (fun ls hl => ?_)
      refine lv_iconst (v := nI 2) hx hb d_L_giver_19 (by decide) ?_
      exact hret _ _ _ _ _ _ _ _ d_L_giver_20 (Or.inr ⟨by rw [hcd]; decide, by rw [hcd], rfl⟩) hP hD hS (by decide) (by decide)
  obtain ⟨hP, hD⟩ := hpd ((ob, .inl (k 3, 1, .inr (.inl of))) :: w1) (pm_cm2 _ _)
  refine lv_i2l (v := (r).toInt64) hx hb d_L_giver_8 rfl ?_
  refine va_last hx hb hK.1 hP hD hS 0 3 rfl rfl vin_0 d_L_giver_9 (fun H locs hP hD hS => ?_)
  have hP : va_P D vwCl ((ob, .inl (k 3, 1, .inr (.inl ((vp_updL of (nI 0).toNatClampNeg ((r).toInt64)))))) :: w1) H := hP
  have hD : va_D A ((ob, .inl (k 3, 1, .inr (.inl ((vp_updL of (nI 0).toNatClampNeg ((r).toInt64)))))) :: w1) := hD
  refine lv_goto (tgt := 21) hx hb d_L_giver_10 (by decide) ?_
  refine lv_iconst (v := nI 0) hx hb d_L_giver_21 (by decide) ?_
  exact hret _ _ _ _ _ _ _ _ d_L_giver_22 (Or.inl ⟨rfl, r, w1, hw, rfl⟩) hP hD hS (by decide) (by decide)

set_option maxRecDepth 100000 in
set_option maxHeartbeats 4000000 in
theorem w_style (l : Launch) (D : va_G) (k : Nat → ClassId) (a r t : Nat → Nat) (th kd bs us sth mk dr : Nat → Int32) (M sM : Nat → Nat → Int32) (sa : Nat → Nat) (hl9 : l.stackTraces = false) (x y : Int32) (ob : Nat) (of : Nat → Int64) (sz : Nat) : bHI l y_L_style (wZ y_L_style b_L_style 5 (some .int) [(0, 10, 13, 21), (0, 10, 17, 13)]) (rm9 9 2 12) Sts sa D (tsK k) ((ob, .inl (k 3, 1, .inr (.inl of))) :: cxW k a r t th kd bs us sth mk dr M sM) sz [.ref (a 0), .int x, .int y, .ref ob] (fun v8 w8 => (v8 = nI 0 ∧ ∃ (r9 : Int32) (w9 : va_W), ((fun v w => ∃ s0 : Nat, s0 < 64 ∧ x = nI s0 ∧ hsB 64 th (nI s0) = true ∧ whB y = true ∧ v = stF th kd bs M s0 y ∧ w = cxW k a r t th kd bs us sth mk dr M sM)) r9 w9 ∧ w8 = (ob, .inl (k 3, 1, .inr (.inl ((vp_updL of (nI 0).toNatClampNeg (r9.toInt64)))))) :: w9) ∨ (¬ cdSt th x y = 0 ∧ v8 = nI (cdSt th x y) ∧ w8 = (ob, .inl (k 3, 1, .inr (.inl of))) :: cxW k a r t th kd bs us sth mk dr M sM)) 2 12 := by
  refine ent_h (cc := b_L_style) (maxL := 5) (hh := [(0, 10, 13, 21), (0, 10, 17, 13)]) (by decide) (Nat.le_of_ble_eq_true rfl) ?_
  intro p e s m args below meth c A Q ls hx hb hml hown hts hsz hA hP hD hS hK hl htab hE hN hret
  refine lv_aload_n hx hb d_L_style_0 rfl (lv_at hl 3 rfl) ?_
  refine lv_iconst (v := nI 0) hx hb d_L_style_1 (by decide) ?_
  refine lv_aload_n hx hb d_L_style_2 rfl (lv_at hl 0 rfl) ?_
  refine lv_iload_n hx hb d_L_style_3 rfl (lv_at hl 1 rfl) ?_
  refine lv_iload_n hx hb d_L_style_4 rfl (lv_at hl 2 rfl) ?_
  refine cax_i (wc := cxW k a r t th kd bs us sth mk dr M sM) (wr := [(ob, .inl (k 3, 1, .inr (.inl of)))]) (vx_runV (As := [.int x, .int y]) (rest := [.int (nI 0), .ref ob]) ⟨hx, hb, hml, hown, hts⟩ (c_style l D k a r t th kd bs us sth mk dr M sM sa hl9 x y s.heap.size) (cwV9 2 hts wd_303 wd_300 wd_301 wd_302 wd_1 (by decide) ⟨Nat.le_of_ble_eq_true rfl, Nat.le_of_ble_eq_true rfl⟩) (prVx (q0 := 0) (ci := ciSS) hE hS hA hK hP hD (pm_cm1 _ _) rfl rfl) rfl rfl hl.1 rfl (lv_room (Nat.le_of_ble_eq_true rfl)) d_L_style_5 ⟨by decide, by decide⟩) (pm_cm1 _ _) hP hD hS hA (fun E9 ce9 ad9 w1 H locs hpx hpd hS hce hcv hcl => ?_) (fun r w1 H locs hw hpd hS => ?_)
  · skip
    rcases hpx with ⟨⟨rfl, hcd⟩ | ⟨rfl, hcd⟩, rfl⟩
    · skip
      obtain ⟨hP, hD⟩ := hpd ((ob, .inl (k 3, 1, .inr (.inl of))) :: cxW k a r t th kd bs us sth mk dr M sM) (pm_cm2 _ _)
      refine vx_catch hown [] ⟨0, 10, 13, 21⟩ [⟨0, 10, 17, 13⟩] (by rw [htab]; rfl) (fun z hz => absurd hz List.not_mem_nil) (by decide) (by decide) (hts _ wd_217) (va_Nw.use rfl (hK.2.1 (Cond.castable "java/util/NoSuchElementException" "java/util/NoSuchElementException") (by decide))) hce hcv hcl ?_
      refine lv_astore (lv' := [(4, .ref ad9), (0, .ref (a 0)), (1, .int x), (2, .int y), (3, .ref ob)]) hx hb d_L_style_13 hl (by decide) rfl (fun ls hl => ?_)
      refine lv_iconst (v := nI 1) hx hb d_L_style_15 (by decide) ?_
      exact hret _ _ _ _ _ _ _ _ d_L_style_16 (Or.inr ⟨by rw [hcd]; decide, by rw [hcd], rfl⟩) hP hD hS (by decide) (by decide)
    · skip
      obtain ⟨hP, hD⟩ := hpd ((ob, .inl (k 3, 1, .inr (.inl of))) :: cxW k a r t th kd bs us sth mk dr M sM) (pm_cm2 _ _)
      refine vx_catch hown [⟨0, 10, 13, 21⟩] ⟨0, 10, 17, 13⟩ [] (by rw [htab]; rfl) (fun z hz => by obtain rfl := List.mem_singleton.mp hz; exact Or.inr ⟨by decide, _, hts _ wd_217, hN.2.1⟩) (by decide) (by decide) (hts _ wd_115) (va_Nw.use rfl (hK.2.1 (Cond.castable "java/lang/IllegalArgumentException" "java/lang/IllegalArgumentException") (by decide))) hce hcv hcl ?_
      refine lv_astore (lv' := [(4, .ref ad9), (0, .ref (a 0)), (1, .int x), (2, .int y), (3, .ref ob)]) hx hb d_L_style_17 hl (by decide) rfl (fun ls hl => ?_)
      refine lv_iconst (v := nI 2) hx hb d_L_style_19 (by decide) ?_
      exact hret _ _ _ _ _ _ _ _ d_L_style_20 (Or.inr ⟨by rw [hcd]; decide, by rw [hcd], rfl⟩) hP hD hS (by decide) (by decide)
  obtain ⟨hP, hD⟩ := hpd ((ob, .inl (k 3, 1, .inr (.inl of))) :: w1) (pm_cm2 _ _)
  refine lv_i2l (v := (r).toInt64) hx hb d_L_style_8 rfl ?_
  refine va_last hx hb hK.1 hP hD hS 0 3 rfl rfl vin_0 d_L_style_9 (fun H locs hP hD hS => ?_)
  have hP : va_P D vwCl ((ob, .inl (k 3, 1, .inr (.inl ((vp_updL of (nI 0).toNatClampNeg ((r).toInt64)))))) :: w1) H := hP
  have hD : va_D A ((ob, .inl (k 3, 1, .inr (.inl ((vp_updL of (nI 0).toNatClampNeg ((r).toInt64)))))) :: w1) := hD
  refine lv_goto (tgt := 21) hx hb d_L_style_10 (by decide) ?_
  refine lv_iconst (v := nI 0) hx hb d_L_style_21 (by decide) ?_
  exact hret _ _ _ _ _ _ _ _ d_L_style_22 (Or.inl ⟨rfl, r, w1, hw, rfl⟩) hP hD hS (by decide) (by decide)

set_option maxRecDepth 100000 in
set_option maxHeartbeats 4000000 in
theorem w_usual (l : Launch) (D : va_G) (k : Nat → ClassId) (a r t : Nat → Nat) (th kd bs us sth mk dr : Nat → Int32) (M sM : Nat → Nat → Int32) (sa : Nat → Nat) (hl9 : l.stackTraces = false) (y v : Int32) (sz : Nat) : bHI l y_L_usual (wZ y_L_usual b_L_usual 4 (some .int) [(0, 6, 9, 13)]) (rm9 9 2 12) Sts sa D (tsK k) (cxW k a r t th kd bs us sth mk dr M sM) sz [.ref (a 0), .int y, .int v] (fun v8 w8 => (v8 = nI 0 ∧ ((fun w => ∃ p9 : Nat, p9 < 24 ∧ y = nI p9 ∧ vlB (nI p9) v = true ∧ w = cxW k a r t th kd bs (upd us p9 v) sth mk dr M sM)) w8) ∨ (¬ cdUs y v = 0 ∧ v8 = nI (cdUs y v) ∧ w8 = cxW k a r t th kd bs us sth mk dr M sM)) 2 12 := by
  refine ent_h (cc := b_L_usual) (maxL := 4) (hh := [(0, 6, 9, 13)]) (by decide) (Nat.le_of_ble_eq_true rfl) ?_
  intro p e s m args below meth c A Q ls hx hb hml hown hts hsz hA hP hD hS hK hl htab hE hN hret
  refine lv_aload_n hx hb d_L_usual_0 rfl (lv_at hl 0 rfl) ?_
  refine lv_iload_n hx hb d_L_usual_1 rfl (lv_at hl 1 rfl) ?_
  refine lv_iload_n hx hb d_L_usual_2 rfl (lv_at hl 2 rfl) ?_
  refine cax_v (wc := cxW k a r t th kd bs us sth mk dr M sM) (wr := []) (vx_runV (As := [.int y, .int v]) (rest := []) ⟨hx, hb, hml, hown, hts⟩ (c_usual l D k a r t th kd bs us sth mk dr M sM sa hl9 y v s.heap.size) (cwV9 2 hts wd_315 wd_312 wd_313 wd_314 wd_1 (by decide) ⟨Nat.le_of_ble_eq_true rfl, Nat.le_of_ble_eq_true rfl⟩) (prVx (q0 := 0) (ci := ciSS) hE hS hA hK hP hD (pm_nil' _) rfl rfl) rfl rfl hl.1 rfl (lv_room (Nat.le_of_ble_eq_true rfl)) d_L_usual_3 ⟨by decide, by decide⟩) (pm_nil' _) hP hD hS hA (fun E9 ce9 ad9 w1 H locs hpx hpd hS hce hcv hcl => ?_) (fun w1 H locs hw hpd hS => ?_)
  · skip
    rcases hpx with ⟨⟨rfl, hcd⟩, rfl⟩
    · skip
      obtain ⟨hP, hD⟩ := hpd (cxW k a r t th kd bs us sth mk dr M sM) (pm_nil _)
      refine vx_catch hown [] ⟨0, 6, 9, 13⟩ [] (by rw [htab]; rfl) (fun z hz => absurd hz List.not_mem_nil) (by decide) (by decide) (hts _ wd_115) (va_Nw.use rfl (hK.2.1 (Cond.castable "java/lang/IllegalArgumentException" "java/lang/IllegalArgumentException") (by decide))) hce hcv hcl ?_
      refine lv_astore_n (lv' := [(3, .ref ad9), (0, .ref (a 0)), (1, .int y), (2, .int v)]) hx hb d_L_usual_9 rfl hl (by decide) rfl (fun ls hl => ?_)
      refine lv_iconst (v := nI 1) hx hb d_L_usual_10 (by decide) ?_
      exact hret _ _ _ _ _ _ _ _ d_L_usual_11 (Or.inr ⟨by rw [hcd]; decide, by rw [hcd], rfl⟩) hP hD hS (by decide) (by decide)
  obtain ⟨hP, hD⟩ := hpd (w1) (pm_nil _)
  refine lv_goto (tgt := 12) hx hb d_L_usual_6 (by decide) ?_
  refine lv_iconst (v := nI 0) hx hb d_L_usual_12 (by decide) ?_
  exact hret _ _ _ _ _ _ _ _ d_L_usual_13 (Or.inl ⟨rfl, hw⟩) hP hD hS (by decide) (by decide)

set_option maxRecDepth 100000 in
set_option maxHeartbeats 4000000 in
theorem w_with (l : Launch) (D : va_G) (k : Nat → ClassId) (a r t : Nat → Nat) (th kd bs us sth mk dr : Nat → Int32) (M sM : Nat → Nat → Int32) (sa : Nat → Nat) (hl9 : l.stackTraces = false) (x y v9 : Int32) (ob : Nat) (of : Nat → Int64) (sz : Nat) : bHI l y_L_with (wZ y_L_with b_L_with 6 (some .int) [(0, 12, 15, 21), (0, 12, 19, 13), (0, 12, 23, 15)]) (rm9 9 4 24) Sts sa D (tsK k) ((ob, .inl (k 3, 1, .inr (.inl of))) :: cxW k a r t th kd bs us sth mk dr M sM) sz [.ref (a 0), .int x, .int y, .int v9, .ref ob] (fun v8 w8 => (v8 = nI 0 ∧ ∃ (r9 : Int32) (w9 : va_W), ((fun v w => ∃ j : Nat, j < 256 ∧ x = nI j ∧ hsB 256 sth (nI j) = true ∧ ∃ p9 : Nat, p9 < 24 ∧ y = nI p9 ∧ nvB (nI p9) v9 = true ∧ cdWi sth x y v9 (fuB sth (pfF (wiG sM j p9 v9) dr 24) sM) = 0 ∧ ((¬ ndF sth (pfF (wiG sM j p9 v9) dr 24) sM = -1 ∧ v = ndF sth (pfF (wiG sM j p9 v9) dr 24) sM ∧ w = cxW k a r t th kd bs us sth mk (pfF (wiG sM j p9 v9) dr 24) M sM) ∨ (ndF sth (pfF (wiG sM j p9 v9) dr 24) sM = -1 ∧ ∃ j9 : Nat, j9 < 256 ∧ frF sth 256 = nI j9 ∧ v = nI j9 ∧ w = cxW k a r t th kd bs us (upd sth j9 (nI 1)) mk (pfF (wiG sM j p9 v9) dr 24) M (va_up sM j9 (pfF (wiG sM j p9 v9) dr 24)))))) r9 w9 ∧ w8 = (ob, .inl (k 3, 1, .inr (.inl ((vp_updL of (nI 0).toNatClampNeg (r9.toInt64)))))) :: w9) ∨ (¬ cdWi sth x y v9 false = 0 ∧ v8 = nI (cdWi sth x y v9 false) ∧ w8 = (ob, .inl (k 3, 1, .inr (.inl of))) :: cxW k a r t th kd bs us sth mk dr M sM) ∨ (v8 = nI 3 ∧ ∃ w9 : va_W, (fun w => ∃ j : Nat, j < 256 ∧ x = nI j ∧ hsB 256 sth (nI j) = true ∧ ∃ p9 : Nat, p9 < 24 ∧ y = nI p9 ∧ nvB (nI p9) v9 = true ∧ cdWi sth x y v9 (fuB sth (pfF (wiG sM j p9 v9) dr 24) sM) = 3 ∧ w = cxW k a r t th kd bs us sth mk (pfF (wiG sM j p9 v9) dr 24) M sM) w9 ∧ w8 = (ob, .inl (k 3, 1, .inr (.inl of))) :: w9)) 4 24 := by
  refine ent_h (cc := b_L_with) (maxL := 6) (hh := [(0, 12, 15, 21), (0, 12, 19, 13), (0, 12, 23, 15)]) (by decide) (Nat.le_of_ble_eq_true rfl) ?_
  intro p e s m args below meth c A Q ls hx hb hml hown hts hsz hA hP hD hS hK hl htab hE hN hret
  refine lv_aload hx hb d_L_with_0 (lv_at hl 4 rfl) ?_
  refine lv_iconst (v := nI 0) hx hb d_L_with_2 (by decide) ?_
  refine lv_aload_n hx hb d_L_with_3 rfl (lv_at hl 0 rfl) ?_
  refine lv_iload_n hx hb d_L_with_4 rfl (lv_at hl 1 rfl) ?_
  refine lv_iload_n hx hb d_L_with_5 rfl (lv_at hl 2 rfl) ?_
  refine lv_iload_n hx hb d_L_with_6 rfl (lv_at hl 3 rfl) ?_
  refine cax_i (wc := cxW k a r t th kd bs us sth mk dr M sM) (wr := [(ob, .inl (k 3, 1, .inr (.inl of)))]) (vx_runV (As := [.int x, .int y, .int v9]) (rest := [.int (nI 0), .ref ob]) ⟨hx, hb, hml, hown, hts⟩ (c_with l D k a r t th kd bs us sth mk dr M sM sa hl9 x y v9 s.heap.size) (cwV9 3 hts wd_322 wd_319 wd_320 wd_321 wd_1 (by decide) ⟨Nat.le_of_ble_eq_true rfl, Nat.le_of_ble_eq_true rfl⟩) (prVx (q0 := 0) (ci := ciSS) hE hS hA hK hP hD (pm_cm1 _ _) rfl rfl) rfl rfl hl.1 rfl (lv_room (Nat.le_of_ble_eq_true rfl)) d_L_with_7 ⟨by decide, by decide⟩) (pm_cm1 _ _) hP hD hS hA (fun E9 ce9 ad9 w1 H locs hpx hpd hS hce hcv hcl => ?_) (fun r w1 H locs hw hpd hS => ?_)
  · skip
    rcases hpx with ⟨⟨rfl, hcd⟩ | ⟨rfl, hcd⟩, rfl⟩ | ⟨rfl, hpi⟩
    · skip
      obtain ⟨hP, hD⟩ := hpd ((ob, .inl (k 3, 1, .inr (.inl of))) :: cxW k a r t th kd bs us sth mk dr M sM) (pm_cm2 _ _)
      refine vx_catch hown [] ⟨0, 12, 15, 21⟩ [⟨0, 12, 19, 13⟩, ⟨0, 12, 23, 15⟩] (by rw [htab]; rfl) (fun z hz => absurd hz List.not_mem_nil) (by decide) (by decide) (hts _ wd_217) (va_Nw.use rfl (hK.2.1 (Cond.castable "java/util/NoSuchElementException" "java/util/NoSuchElementException") (by decide))) hce hcv hcl ?_
      have hcd := hcd false
      refine lv_astore (lv' := [(5, .ref ad9), (0, .ref (a 0)), (1, .int x), (2, .int y), (3, .int v9), (4, .ref ob)]) hx hb d_L_with_15 hl (by decide) rfl (fun ls hl => ?_)
      refine lv_iconst (v := nI 1) hx hb d_L_with_17 (by decide) ?_
      exact hret _ _ _ _ _ _ _ _ d_L_with_18 (Or.inr (Or.inl ⟨by rw [hcd]; decide, by rw [hcd], rfl⟩)) hP hD hS (by decide) (by decide)
    · skip
      obtain ⟨hP, hD⟩ := hpd ((ob, .inl (k 3, 1, .inr (.inl of))) :: cxW k a r t th kd bs us sth mk dr M sM) (pm_cm2 _ _)
      refine vx_catch hown [⟨0, 12, 15, 21⟩] ⟨0, 12, 19, 13⟩ [⟨0, 12, 23, 15⟩] (by rw [htab]; rfl) (fun z hz => by obtain rfl := List.mem_singleton.mp hz; exact Or.inr ⟨by decide, _, hts _ wd_217, hN.2.1⟩) (by decide) (by decide) (hts _ wd_115) (va_Nw.use rfl (hK.2.1 (Cond.castable "java/lang/IllegalArgumentException" "java/lang/IllegalArgumentException") (by decide))) hce hcv hcl ?_
      have hcd := hcd false
      refine lv_astore (lv' := [(5, .ref ad9), (0, .ref (a 0)), (1, .int x), (2, .int y), (3, .int v9), (4, .ref ob)]) hx hb d_L_with_19 hl (by decide) rfl (fun ls hl => ?_)
      refine lv_iconst (v := nI 2) hx hb d_L_with_21 (by decide) ?_
      exact hret _ _ _ _ _ _ _ _ d_L_with_22 (Or.inr (Or.inl ⟨by rw [hcd]; decide, by rw [hcd], rfl⟩)) hP hD hS (by decide) (by decide)
    · skip
      obtain ⟨hP, hD⟩ := hpd ((ob, .inl (k 3, 1, .inr (.inl of))) :: w1) (pm_cm2 _ _)
      refine vx_catch hown [⟨0, 12, 15, 21⟩, ⟨0, 12, 19, 13⟩] ⟨0, 12, 23, 15⟩ [] (by rw [htab]; rfl) (fun z hz => by rcases List.mem_cons.mp hz with rfl | hz; exact Or.inr ⟨by decide, _, hts _ wd_217, hN.2.2⟩; obtain rfl := List.mem_singleton.mp hz; exact Or.inr ⟨by decide, _, hts _ wd_115, hN.1⟩) (by decide) (by decide) (hts _ wd_116) (va_Nw.use rfl (hK.2.1 (Cond.castable "java/lang/IllegalStateException" "java/lang/IllegalStateException") (by decide))) hce hcv hcl ?_
      refine lv_astore (lv' := [(5, .ref ad9), (0, .ref (a 0)), (1, .int x), (2, .int y), (3, .int v9), (4, .ref ob)]) hx hb d_L_with_23 hl (by decide) rfl (fun ls hl => ?_)
      refine lv_iconst (v := nI 3) hx hb d_L_with_25 (by decide) ?_
      exact hret _ _ _ _ _ _ _ _ d_L_with_26 (Or.inr (Or.inr ⟨rfl, w1, hpi, rfl⟩)) hP hD hS (by decide) (by decide)
  obtain ⟨hP, hD⟩ := hpd ((ob, .inl (k 3, 1, .inr (.inl of))) :: w1) (pm_cm2 _ _)
  refine lv_i2l (v := (r).toInt64) hx hb d_L_with_10 rfl ?_
  refine va_last hx hb hK.1 hP hD hS 0 3 rfl rfl vin_0 d_L_with_11 (fun H locs hP hD hS => ?_)
  have hP : va_P D vwCl ((ob, .inl (k 3, 1, .inr (.inl ((vp_updL of (nI 0).toNatClampNeg ((r).toInt64)))))) :: w1) H := hP
  have hD : va_D A ((ob, .inl (k 3, 1, .inr (.inl ((vp_updL of (nI 0).toNatClampNeg ((r).toInt64)))))) :: w1) := hD
  refine lv_goto (tgt := 27) hx hb d_L_with_12 (by decide) ?_
  refine lv_iconst (v := nI 0) hx hb d_L_with_27 (by decide) ?_
  exact hret _ _ _ _ _ _ _ _ d_L_with_28 (Or.inl ⟨rfl, r, w1, hw, rfl⟩) hP hD hS (by decide) (by decide)

set_option maxRecDepth 100000 in
set_option maxHeartbeats 4000000 in
theorem w_over (l : Launch) (D : va_G) (k : Nat → ClassId) (a r t : Nat → Nat) (th kd bs us sth mk dr : Nat → Int32) (M sM : Nat → Nat → Int32) (sa : Nat → Nat) (hl9 : l.stackTraces = false) (x y : Int32) (ob : Nat) (of : Nat → Int64) (sz : Nat) : bHI l y_L_over (wZ y_L_over b_L_over 5 (some .int) [(0, 10, 13, 21), (0, 10, 17, 15)]) (rm9 9 3 18) Sts sa D (tsK k) ((ob, .inl (k 3, 1, .inr (.inl of))) :: cxW k a r t th kd bs us sth mk dr M sM) sz [.ref (a 0), .int x, .int y, .ref ob] (fun v8 w8 => (v8 = nI 0 ∧ ∃ (r9 : Int32) (w9 : va_W), ((fun v w => ∃ j : Nat, j < 256 ∧ x = nI j ∧ hsB 256 sth (nI j) = true ∧ ∃ j2 : Nat, j2 < 256 ∧ y = nI j2 ∧ hsB 256 sth (nI j2) = true ∧ cdOv sth x y (fuB sth (pfF (ovG sM j j2) dr 24) sM) = 0 ∧ ((¬ ndF sth (pfF (ovG sM j j2) dr 24) sM = -1 ∧ v = ndF sth (pfF (ovG sM j j2) dr 24) sM ∧ w = cxW k a r t th kd bs us sth mk (pfF (ovG sM j j2) dr 24) M sM) ∨ (ndF sth (pfF (ovG sM j j2) dr 24) sM = -1 ∧ ∃ j9 : Nat, j9 < 256 ∧ frF sth 256 = nI j9 ∧ v = nI j9 ∧ w = cxW k a r t th kd bs us (upd sth j9 (nI 1)) mk (pfF (ovG sM j j2) dr 24) M (va_up sM j9 (pfF (ovG sM j j2) dr 24)))))) r9 w9 ∧ w8 = (ob, .inl (k 3, 1, .inr (.inl ((vp_updL of (nI 0).toNatClampNeg (r9.toInt64)))))) :: w9) ∨ (¬ cdOv sth x y false = 0 ∧ v8 = nI (cdOv sth x y false) ∧ w8 = (ob, .inl (k 3, 1, .inr (.inl of))) :: cxW k a r t th kd bs us sth mk dr M sM) ∨ (v8 = nI 2 ∧ ∃ w9 : va_W, (fun w => ∃ j : Nat, j < 256 ∧ x = nI j ∧ hsB 256 sth (nI j) = true ∧ ∃ j2 : Nat, j2 < 256 ∧ y = nI j2 ∧ hsB 256 sth (nI j2) = true ∧ cdOv sth x y (fuB sth (pfF (ovG sM j j2) dr 24) sM) = 2 ∧ w = cxW k a r t th kd bs us sth mk (pfF (ovG sM j j2) dr 24) M sM) w9 ∧ w8 = (ob, .inl (k 3, 1, .inr (.inl of))) :: w9)) 3 18 := by
  refine ent_h (cc := b_L_over) (maxL := 5) (hh := [(0, 10, 13, 21), (0, 10, 17, 15)]) (by decide) (Nat.le_of_ble_eq_true rfl) ?_
  intro p e s m args below meth c A Q ls hx hb hml hown hts hsz hA hP hD hS hK hl htab hE hN hret
  refine lv_aload_n hx hb d_L_over_0 rfl (lv_at hl 3 rfl) ?_
  refine lv_iconst (v := nI 0) hx hb d_L_over_1 (by decide) ?_
  refine lv_aload_n hx hb d_L_over_2 rfl (lv_at hl 0 rfl) ?_
  refine lv_iload_n hx hb d_L_over_3 rfl (lv_at hl 1 rfl) ?_
  refine lv_iload_n hx hb d_L_over_4 rfl (lv_at hl 2 rfl) ?_
  refine cax_i (wc := cxW k a r t th kd bs us sth mk dr M sM) (wr := [(ob, .inl (k 3, 1, .inr (.inl of)))]) (vx_runV (As := [.int x, .int y]) (rest := [.int (nI 0), .ref ob]) ⟨hx, hb, hml, hown, hts⟩ (c_over l D k a r t th kd bs us sth mk dr M sM sa hl9 x y s.heap.size) (cwV9 2 hts wd_349 wd_346 wd_347 wd_348 wd_1 (by decide) ⟨Nat.le_of_ble_eq_true rfl, Nat.le_of_ble_eq_true rfl⟩) (prVx (q0 := 0) (ci := ciSS) hE hS hA hK hP hD (pm_cm1 _ _) rfl rfl) rfl rfl hl.1 rfl (lv_room (Nat.le_of_ble_eq_true rfl)) d_L_over_5 ⟨by decide, by decide⟩) (pm_cm1 _ _) hP hD hS hA (fun E9 ce9 ad9 w1 H locs hpx hpd hS hce hcv hcl => ?_) (fun r w1 H locs hw hpd hS => ?_)
  · skip
    rcases hpx with ⟨⟨rfl, hcd⟩, rfl⟩ | ⟨rfl, hpi⟩
    · skip
      obtain ⟨hP, hD⟩ := hpd ((ob, .inl (k 3, 1, .inr (.inl of))) :: cxW k a r t th kd bs us sth mk dr M sM) (pm_cm2 _ _)
      refine vx_catch hown [] ⟨0, 10, 13, 21⟩ [⟨0, 10, 17, 15⟩] (by rw [htab]; rfl) (fun z hz => absurd hz List.not_mem_nil) (by decide) (by decide) (hts _ wd_217) (va_Nw.use rfl (hK.2.1 (Cond.castable "java/util/NoSuchElementException" "java/util/NoSuchElementException") (by decide))) hce hcv hcl ?_
      have hcd := hcd false
      refine lv_astore (lv' := [(4, .ref ad9), (0, .ref (a 0)), (1, .int x), (2, .int y), (3, .ref ob)]) hx hb d_L_over_13 hl (by decide) rfl (fun ls hl => ?_)
      refine lv_iconst (v := nI 1) hx hb d_L_over_15 (by decide) ?_
      exact hret _ _ _ _ _ _ _ _ d_L_over_16 (Or.inr (Or.inl ⟨by rw [hcd]; decide, by rw [hcd], rfl⟩)) hP hD hS (by decide) (by decide)
    · skip
      obtain ⟨hP, hD⟩ := hpd ((ob, .inl (k 3, 1, .inr (.inl of))) :: w1) (pm_cm2 _ _)
      refine vx_catch hown [⟨0, 10, 13, 21⟩] ⟨0, 10, 17, 15⟩ [] (by rw [htab]; rfl) (fun z hz => by obtain rfl := List.mem_singleton.mp hz; exact Or.inr ⟨by decide, _, hts _ wd_217, hN.2.2⟩) (by decide) (by decide) (hts _ wd_116) (va_Nw.use rfl (hK.2.1 (Cond.castable "java/lang/IllegalStateException" "java/lang/IllegalStateException") (by decide))) hce hcv hcl ?_
      refine lv_astore (lv' := [(4, .ref ad9), (0, .ref (a 0)), (1, .int x), (2, .int y), (3, .ref ob)]) hx hb d_L_over_17 hl (by decide) rfl (fun ls hl => ?_)
      refine lv_iconst (v := nI 2) hx hb d_L_over_19 (by decide) ?_
      exact hret _ _ _ _ _ _ _ _ d_L_over_20 (Or.inr (Or.inr ⟨rfl, w1, hpi, rfl⟩)) hP hD hS (by decide) (by decide)
  obtain ⟨hP, hD⟩ := hpd ((ob, .inl (k 3, 1, .inr (.inl of))) :: w1) (pm_cm2 _ _)
  refine lv_i2l (v := (r).toInt64) hx hb d_L_over_8 rfl ?_
  refine va_last hx hb hK.1 hP hD hS 0 3 rfl rfl vin_0 d_L_over_9 (fun H locs hP hD hS => ?_)
  have hP : va_P D vwCl ((ob, .inl (k 3, 1, .inr (.inl ((vp_updL of (nI 0).toNatClampNeg ((r).toInt64)))))) :: w1) H := hP
  have hD : va_D A ((ob, .inl (k 3, 1, .inr (.inl ((vp_updL of (nI 0).toNatClampNeg ((r).toInt64)))))) :: w1) := hD
  refine lv_goto (tgt := 21) hx hb d_L_over_10 (by decide) ?_
  refine lv_iconst (v := nI 0) hx hb d_L_over_21 (by decide) ?_
  exact hret _ _ _ _ _ _ _ _ d_L_over_22 (Or.inl ⟨rfl, r, w1, hw, rfl⟩) hP hD hS (by decide) (by decide)

set_option maxRecDepth 100000 in
set_option maxHeartbeats 4000000 in
theorem w_lean (l : Launch) (D : va_G) (k : Nat → ClassId) (a r t : Nat → Nat) (th kd bs us sth mk dr : Nat → Int32) (M sM : Nat → Nat → Int32) (sa : Nat → Nat) (hl9 : l.stackTraces = false) (x c9 q9 : Int32) (ob : Nat) (of : Nat → Int64) (sz : Nat) : bHI l y_L_lean (wZ y_L_lean b_L_lean 6 (some .int) [(0, 12, 15, 21), (0, 12, 19, 13), (0, 12, 23, 15)]) (rm9 9 4 24) Sts sa D (tsK k) ((ob, .inl (k 3, 1, .inr (.inl of))) :: cxW k a r t th kd bs us sth mk dr M sM) sz [.ref (a 0), .int x, .int c9, .int q9, .ref ob] (fun v8 w8 => (v8 = nI 0 ∧ ∃ (r9 : Int32) (w9 : va_W), ((fun v w => ∃ j : Nat, j < 256 ∧ x = nI j ∧ hsB 256 sth (nI j) = true ∧ okB th kd c9 (nI 0) = true ∧ okB th kd q9 (nI 1) = true ∧ cdLe th kd sth x c9 q9 (fuB sth (pfF (leG th bs us M sM j c9 q9) dr 24) sM) = 0 ∧ ((¬ ndF sth (pfF (leG th bs us M sM j c9 q9) dr 24) sM = -1 ∧ v = ndF sth (pfF (leG th bs us M sM j c9 q9) dr 24) sM ∧ w = cxW k a r t th kd bs us sth mk (pfF (leG th bs us M sM j c9 q9) dr 24) M sM) ∨ (ndF sth (pfF (leG th bs us M sM j c9 q9) dr 24) sM = -1 ∧ ∃ j9 : Nat, j9 < 256 ∧ frF sth 256 = nI j9 ∧ v = nI j9 ∧ w = cxW k a r t th kd bs us (upd sth j9 (nI 1)) mk (pfF (leG th bs us M sM j c9 q9) dr 24) M (va_up sM j9 (pfF (leG th bs us M sM j c9 q9) dr 24)))))) r9 w9 ∧ w8 = (ob, .inl (k 3, 1, .inr (.inl ((vp_updL of (nI 0).toNatClampNeg (r9.toInt64)))))) :: w9) ∨ (¬ cdLe th kd sth x c9 q9 false = 0 ∧ v8 = nI (cdLe th kd sth x c9 q9 false) ∧ w8 = (ob, .inl (k 3, 1, .inr (.inl of))) :: cxW k a r t th kd bs us sth mk dr M sM) ∨ (v8 = nI 3 ∧ ∃ w9 : va_W, (fun w => ∃ j : Nat, j < 256 ∧ x = nI j ∧ hsB 256 sth (nI j) = true ∧ okB th kd c9 (nI 0) = true ∧ okB th kd q9 (nI 1) = true ∧ cdLe th kd sth x c9 q9 (fuB sth (pfF (leG th bs us M sM j c9 q9) dr 24) sM) = 3 ∧ w = cxW k a r t th kd bs us sth mk (pfF (leG th bs us M sM j c9 q9) dr 24) M sM) w9 ∧ w8 = (ob, .inl (k 3, 1, .inr (.inl of))) :: w9)) 4 24 := by
  refine ent_h (cc := b_L_lean) (maxL := 6) (hh := [(0, 12, 15, 21), (0, 12, 19, 13), (0, 12, 23, 15)]) (by decide) (Nat.le_of_ble_eq_true rfl) ?_
  intro p e s m args below meth c A Q ls hx hb hml hown hts hsz hA hP hD hS hK hl htab hE hN hret
  refine lv_aload hx hb d_L_lean_0 (lv_at hl 4 rfl) ?_
  refine lv_iconst (v := nI 0) hx hb d_L_lean_2 (by decide) ?_
  refine lv_aload_n hx hb d_L_lean_3 rfl (lv_at hl 0 rfl) ?_
  refine lv_iload_n hx hb d_L_lean_4 rfl (lv_at hl 1 rfl) ?_
  refine lv_iload_n hx hb d_L_lean_5 rfl (lv_at hl 2 rfl) ?_
  refine lv_iload_n hx hb d_L_lean_6 rfl (lv_at hl 3 rfl) ?_
  refine cax_i (wc := cxW k a r t th kd bs us sth mk dr M sM) (wr := [(ob, .inl (k 3, 1, .inr (.inl of)))]) (vx_runV (As := [.int x, .int c9, .int q9]) (rest := [.int (nI 0), .ref ob]) ⟨hx, hb, hml, hown, hts⟩ (c_lean l D k a r t th kd bs us sth mk dr M sM sa hl9 x c9 q9 s.heap.size) (cwV9 3 hts wd_356 wd_353 wd_354 wd_355 wd_1 (by decide) ⟨Nat.le_of_ble_eq_true rfl, Nat.le_of_ble_eq_true rfl⟩) (prVx (q0 := 0) (ci := ciSS) hE hS hA hK hP hD (pm_cm1 _ _) rfl rfl) rfl rfl hl.1 rfl (lv_room (Nat.le_of_ble_eq_true rfl)) d_L_lean_7 ⟨by decide, by decide⟩) (pm_cm1 _ _) hP hD hS hA (fun E9 ce9 ad9 w1 H locs hpx hpd hS hce hcv hcl => ?_) (fun r w1 H locs hw hpd hS => ?_)
  · skip
    rcases hpx with ⟨⟨rfl, hcd⟩ | ⟨rfl, hcd⟩, rfl⟩ | ⟨rfl, hpi⟩
    · skip
      obtain ⟨hP, hD⟩ := hpd ((ob, .inl (k 3, 1, .inr (.inl of))) :: cxW k a r t th kd bs us sth mk dr M sM) (pm_cm2 _ _)
      refine vx_catch hown [] ⟨0, 12, 15, 21⟩ [⟨0, 12, 19, 13⟩, ⟨0, 12, 23, 15⟩] (by rw [htab]; rfl) (fun z hz => absurd hz List.not_mem_nil) (by decide) (by decide) (hts _ wd_217) (va_Nw.use rfl (hK.2.1 (Cond.castable "java/util/NoSuchElementException" "java/util/NoSuchElementException") (by decide))) hce hcv hcl ?_
      have hcd := hcd false
      refine lv_astore (lv' := [(5, .ref ad9), (0, .ref (a 0)), (1, .int x), (2, .int c9), (3, .int q9), (4, .ref ob)]) hx hb d_L_lean_15 hl (by decide) rfl (fun ls hl => ?_)
      refine lv_iconst (v := nI 1) hx hb d_L_lean_17 (by decide) ?_
      exact hret _ _ _ _ _ _ _ _ d_L_lean_18 (Or.inr (Or.inl ⟨by rw [hcd]; decide, by rw [hcd], rfl⟩)) hP hD hS (by decide) (by decide)
    · skip
      obtain ⟨hP, hD⟩ := hpd ((ob, .inl (k 3, 1, .inr (.inl of))) :: cxW k a r t th kd bs us sth mk dr M sM) (pm_cm2 _ _)
      refine vx_catch hown [⟨0, 12, 15, 21⟩] ⟨0, 12, 19, 13⟩ [⟨0, 12, 23, 15⟩] (by rw [htab]; rfl) (fun z hz => by obtain rfl := List.mem_singleton.mp hz; exact Or.inr ⟨by decide, _, hts _ wd_217, hN.2.1⟩) (by decide) (by decide) (hts _ wd_115) (va_Nw.use rfl (hK.2.1 (Cond.castable "java/lang/IllegalArgumentException" "java/lang/IllegalArgumentException") (by decide))) hce hcv hcl ?_
      have hcd := hcd false
      refine lv_astore (lv' := [(5, .ref ad9), (0, .ref (a 0)), (1, .int x), (2, .int c9), (3, .int q9), (4, .ref ob)]) hx hb d_L_lean_19 hl (by decide) rfl (fun ls hl => ?_)
      refine lv_iconst (v := nI 2) hx hb d_L_lean_21 (by decide) ?_
      exact hret _ _ _ _ _ _ _ _ d_L_lean_22 (Or.inr (Or.inl ⟨by rw [hcd]; decide, by rw [hcd], rfl⟩)) hP hD hS (by decide) (by decide)
    · skip
      obtain ⟨hP, hD⟩ := hpd ((ob, .inl (k 3, 1, .inr (.inl of))) :: w1) (pm_cm2 _ _)
      refine vx_catch hown [⟨0, 12, 15, 21⟩, ⟨0, 12, 19, 13⟩] ⟨0, 12, 23, 15⟩ [] (by rw [htab]; rfl) (fun z hz => by rcases List.mem_cons.mp hz with rfl | hz; exact Or.inr ⟨by decide, _, hts _ wd_217, hN.2.2⟩; obtain rfl := List.mem_singleton.mp hz; exact Or.inr ⟨by decide, _, hts _ wd_115, hN.1⟩) (by decide) (by decide) (hts _ wd_116) (va_Nw.use rfl (hK.2.1 (Cond.castable "java/lang/IllegalStateException" "java/lang/IllegalStateException") (by decide))) hce hcv hcl ?_
      refine lv_astore (lv' := [(5, .ref ad9), (0, .ref (a 0)), (1, .int x), (2, .int c9), (3, .int q9), (4, .ref ob)]) hx hb d_L_lean_23 hl (by decide) rfl (fun ls hl => ?_)
      refine lv_iconst (v := nI 3) hx hb d_L_lean_25 (by decide) ?_
      exact hret _ _ _ _ _ _ _ _ d_L_lean_26 (Or.inr (Or.inr ⟨rfl, w1, hpi, rfl⟩)) hP hD hS (by decide) (by decide)
  obtain ⟨hP, hD⟩ := hpd ((ob, .inl (k 3, 1, .inr (.inl of))) :: w1) (pm_cm2 _ _)
  refine lv_i2l (v := (r).toInt64) hx hb d_L_lean_10 rfl ?_
  refine va_last hx hb hK.1 hP hD hS 0 3 rfl rfl vin_0 d_L_lean_11 (fun H locs hP hD hS => ?_)
  have hP : va_P D vwCl ((ob, .inl (k 3, 1, .inr (.inl ((vp_updL of (nI 0).toNatClampNeg ((r).toInt64)))))) :: w1) H := hP
  have hD : va_D A ((ob, .inl (k 3, 1, .inr (.inl ((vp_updL of (nI 0).toNatClampNeg ((r).toInt64)))))) :: w1) := hD
  refine lv_goto (tgt := 27) hx hb d_L_lean_12 (by decide) ?_
  refine lv_iconst (v := nI 0) hx hb d_L_lean_27 (by decide) ?_
  exact hret _ _ _ _ _ _ _ _ d_L_lean_28 (Or.inl ⟨rfl, r, w1, hw, rfl⟩) hP hD hS (by decide) (by decide)

set_option maxRecDepth 100000 in
set_option maxHeartbeats 4000000 in
theorem w_get (l : Launch) (D : va_G) (k : Nat → ClassId) (a r t : Nat → Nat) (th kd bs us sth mk dr : Nat → Int32) (M sM : Nat → Nat → Int32) (sa : Nat → Nat) (hl9 : l.stackTraces = false) (x y : Int32) (ob : Nat) (of : Nat → Int64) (sz : Nat) : bHI l y_L_get (wZ y_L_get b_L_get 5 (some .int) [(0, 10, 13, 21), (0, 10, 17, 13)]) (rm9 9 2 12) Sts sa D (tsK k) ((ob, .inl (k 3, 1, .inr (.inl of))) :: cxW k a r t th kd bs us sth mk dr M sM) sz [.ref (a 0), .int x, .int y, .ref ob] (fun v8 w8 => (v8 = nI 0 ∧ ∃ (r9 : Int32) (w9 : va_W), ((fun v w => ∃ j : Nat, j < 256 ∧ x = nI j ∧ hsB 256 sth (nI j) = true ∧ ∃ p9 : Nat, p9 < 24 ∧ y = nI p9 ∧ v = sM j p9 ∧ w = cxW k a r t th kd bs us sth mk dr M sM)) r9 w9 ∧ w8 = (ob, .inl (k 3, 1, .inr (.inl ((vp_updL of (nI 0).toNatClampNeg (r9.toInt64)))))) :: w9) ∨ (¬ cdGe sth x y = 0 ∧ v8 = nI (cdGe sth x y) ∧ w8 = (ob, .inl (k 3, 1, .inr (.inl of))) :: cxW k a r t th kd bs us sth mk dr M sM)) 2 12 := by
  refine ent_h (cc := b_L_get) (maxL := 5) (hh := [(0, 10, 13, 21), (0, 10, 17, 13)]) (by decide) (Nat.le_of_ble_eq_true rfl) ?_
  intro p e s m args below meth c A Q ls hx hb hml hown hts hsz hA hP hD hS hK hl htab hE hN hret
  refine lv_aload_n hx hb d_L_get_0 rfl (lv_at hl 3 rfl) ?_
  refine lv_iconst (v := nI 0) hx hb d_L_get_1 (by decide) ?_
  refine lv_aload_n hx hb d_L_get_2 rfl (lv_at hl 0 rfl) ?_
  refine lv_iload_n hx hb d_L_get_3 rfl (lv_at hl 1 rfl) ?_
  refine lv_iload_n hx hb d_L_get_4 rfl (lv_at hl 2 rfl) ?_
  refine cax_i (wc := cxW k a r t th kd bs us sth mk dr M sM) (wr := [(ob, .inl (k 3, 1, .inr (.inl of)))]) (vx_runV (As := [.int x, .int y]) (rest := [.int (nI 0), .ref ob]) ⟨hx, hb, hml, hown, hts⟩ (c_get l D k a r t th kd bs us sth mk dr M sM sa hl9 x y s.heap.size) (cwV9 2 hts wd_367 wd_364 wd_365 wd_366 wd_1 (by decide) ⟨Nat.le_of_ble_eq_true rfl, Nat.le_of_ble_eq_true rfl⟩) (prVx (q0 := 0) (ci := ciSS) hE hS hA hK hP hD (pm_cm1 _ _) rfl rfl) rfl rfl hl.1 rfl (lv_room (Nat.le_of_ble_eq_true rfl)) d_L_get_5 ⟨by decide, by decide⟩) (pm_cm1 _ _) hP hD hS hA (fun E9 ce9 ad9 w1 H locs hpx hpd hS hce hcv hcl => ?_) (fun r w1 H locs hw hpd hS => ?_)
  · skip
    rcases hpx with ⟨⟨rfl, hcd⟩ | ⟨rfl, hcd⟩, rfl⟩
    · skip
      obtain ⟨hP, hD⟩ := hpd ((ob, .inl (k 3, 1, .inr (.inl of))) :: cxW k a r t th kd bs us sth mk dr M sM) (pm_cm2 _ _)
      refine vx_catch hown [] ⟨0, 10, 13, 21⟩ [⟨0, 10, 17, 13⟩] (by rw [htab]; rfl) (fun z hz => absurd hz List.not_mem_nil) (by decide) (by decide) (hts _ wd_217) (va_Nw.use rfl (hK.2.1 (Cond.castable "java/util/NoSuchElementException" "java/util/NoSuchElementException") (by decide))) hce hcv hcl ?_
      refine lv_astore (lv' := [(4, .ref ad9), (0, .ref (a 0)), (1, .int x), (2, .int y), (3, .ref ob)]) hx hb d_L_get_13 hl (by decide) rfl (fun ls hl => ?_)
      refine lv_iconst (v := nI 1) hx hb d_L_get_15 (by decide) ?_
      exact hret _ _ _ _ _ _ _ _ d_L_get_16 (Or.inr ⟨by rw [hcd]; decide, by rw [hcd], rfl⟩) hP hD hS (by decide) (by decide)
    · skip
      obtain ⟨hP, hD⟩ := hpd ((ob, .inl (k 3, 1, .inr (.inl of))) :: cxW k a r t th kd bs us sth mk dr M sM) (pm_cm2 _ _)
      refine vx_catch hown [⟨0, 10, 13, 21⟩] ⟨0, 10, 17, 13⟩ [] (by rw [htab]; rfl) (fun z hz => by obtain rfl := List.mem_singleton.mp hz; exact Or.inr ⟨by decide, _, hts _ wd_217, hN.2.1⟩) (by decide) (by decide) (hts _ wd_115) (va_Nw.use rfl (hK.2.1 (Cond.castable "java/lang/IllegalArgumentException" "java/lang/IllegalArgumentException") (by decide))) hce hcv hcl ?_
      refine lv_astore (lv' := [(4, .ref ad9), (0, .ref (a 0)), (1, .int x), (2, .int y), (3, .ref ob)]) hx hb d_L_get_17 hl (by decide) rfl (fun ls hl => ?_)
      refine lv_iconst (v := nI 2) hx hb d_L_get_19 (by decide) ?_
      exact hret _ _ _ _ _ _ _ _ d_L_get_20 (Or.inr ⟨by rw [hcd]; decide, by rw [hcd], rfl⟩) hP hD hS (by decide) (by decide)
  obtain ⟨hP, hD⟩ := hpd ((ob, .inl (k 3, 1, .inr (.inl of))) :: w1) (pm_cm2 _ _)
  refine lv_i2l (v := (r).toInt64) hx hb d_L_get_8 rfl ?_
  refine va_last hx hb hK.1 hP hD hS 0 3 rfl rfl vin_0 d_L_get_9 (fun H locs hP hD hS => ?_)
  have hP : va_P D vwCl ((ob, .inl (k 3, 1, .inr (.inl ((vp_updL of (nI 0).toNatClampNeg ((r).toInt64)))))) :: w1) H := hP
  have hD : va_D A ((ob, .inl (k 3, 1, .inr (.inl ((vp_updL of (nI 0).toNatClampNeg ((r).toInt64)))))) :: w1) := hD
  refine lv_goto (tgt := 21) hx hb d_L_get_10 (by decide) ?_
  refine lv_iconst (v := nI 0) hx hb d_L_get_21 (by decide) ?_
  exact hret _ _ _ _ _ _ _ _ d_L_get_22 (Or.inl ⟨rfl, r, w1, hw, rfl⟩) hP hD hS (by decide) (by decide)

set_option maxRecDepth 100000 in
set_option maxHeartbeats 4000000 in
theorem w_resolve (l : Launch) (D : va_G) (k : Nat → ClassId) (a r t : Nat → Nat) (th kd bs us sth mk dr : Nat → Int32) (M sM : Nat → Nat → Int32) (sa : Nat → Nat) (hl9 : l.stackTraces = false) (x c9 q9 y : Int32) (ob : Nat) (of : Nat → Int64) (sz : Nat) : bHI l y_L_resolve (wZ y_L_resolve b_L_resolve 7 (some .int) [(0, 14, 17, 21), (0, 14, 21, 13)]) (rm9 9 4 24) Sts sa D (tsK k) ((ob, .inl (k 3, 1, .inr (.inl of))) :: cxW k a r t th kd bs us sth mk dr M sM) sz [.ref (a 0), .int x, .int c9, .int q9, .int y, .ref ob] (fun v8 w8 => (v8 = nI 0 ∧ ∃ (r9 : Int32) (w9 : va_W), ((fun v w => ∃ j : Nat, j < 256 ∧ x = nI j ∧ hsB 256 sth (nI j) = true ∧ okB th kd c9 (nI 0) = true ∧ okB th kd q9 (nI 1) = true ∧ ∃ p9 : Nat, p9 < 24 ∧ y = nI p9 ∧ v = rsF th bs us M sM j c9 q9 p9 ∧ w = cxW k a r t th kd bs us sth mk dr M sM)) r9 w9 ∧ w8 = (ob, .inl (k 3, 1, .inr (.inl ((vp_updL of (nI 0).toNatClampNeg (r9.toInt64)))))) :: w9) ∨ (¬ cdRe th kd sth x c9 q9 y = 0 ∧ v8 = nI (cdRe th kd sth x c9 q9 y) ∧ w8 = (ob, .inl (k 3, 1, .inr (.inl of))) :: cxW k a r t th kd bs us sth mk dr M sM)) 4 24 := by
  refine ent_h (cc := b_L_resolve) (maxL := 7) (hh := [(0, 14, 17, 21), (0, 14, 21, 13)]) (by decide) (Nat.le_of_ble_eq_true rfl) ?_
  intro p e s m args below meth c A Q ls hx hb hml hown hts hsz hA hP hD hS hK hl htab hE hN hret
  refine lv_aload hx hb d_L_resolve_0 (lv_at hl 5 rfl) ?_
  refine lv_iconst (v := nI 0) hx hb d_L_resolve_2 (by decide) ?_
  refine lv_aload_n hx hb d_L_resolve_3 rfl (lv_at hl 0 rfl) ?_
  refine lv_iload_n hx hb d_L_resolve_4 rfl (lv_at hl 1 rfl) ?_
  refine lv_iload_n hx hb d_L_resolve_5 rfl (lv_at hl 2 rfl) ?_
  refine lv_iload_n hx hb d_L_resolve_6 rfl (lv_at hl 3 rfl) ?_
  refine lv_iload hx hb d_L_resolve_7 (lv_at hl 4 rfl) ?_
  refine cax_i (wc := cxW k a r t th kd bs us sth mk dr M sM) (wr := [(ob, .inl (k 3, 1, .inr (.inl of)))]) (vx_runV (As := [.int x, .int c9, .int q9, .int y]) (rest := [.int (nI 0), .ref ob]) ⟨hx, hb, hml, hown, hts⟩ (c_resolve l D k a r t th kd bs us sth mk dr M sM sa hl9 x c9 q9 y s.heap.size) (cwV9 4 hts wd_374 wd_371 wd_372 wd_373 wd_1 (by decide) ⟨Nat.le_of_ble_eq_true rfl, Nat.le_of_ble_eq_true rfl⟩) (prVx (q0 := 0) (ci := ciSS) hE hS hA hK hP hD (pm_cm1 _ _) rfl rfl) rfl rfl hl.1 rfl (lv_room (Nat.le_of_ble_eq_true rfl)) d_L_resolve_9 ⟨by decide, by decide⟩) (pm_cm1 _ _) hP hD hS hA (fun E9 ce9 ad9 w1 H locs hpx hpd hS hce hcv hcl => ?_) (fun r w1 H locs hw hpd hS => ?_)
  · skip
    rcases hpx with ⟨⟨rfl, hcd⟩ | ⟨rfl, hcd⟩, rfl⟩
    · skip
      obtain ⟨hP, hD⟩ := hpd ((ob, .inl (k 3, 1, .inr (.inl of))) :: cxW k a r t th kd bs us sth mk dr M sM) (pm_cm2 _ _)
      refine vx_catch hown [] ⟨0, 14, 17, 21⟩ [⟨0, 14, 21, 13⟩] (by rw [htab]; rfl) (fun z hz => absurd hz List.not_mem_nil) (by decide) (by decide) (hts _ wd_217) (va_Nw.use rfl (hK.2.1 (Cond.castable "java/util/NoSuchElementException" "java/util/NoSuchElementException") (by decide))) hce hcv hcl ?_
      refine lv_astore (lv' := [(6, .ref ad9), (0, .ref (a 0)), (1, .int x), (2, .int c9), (3, .int q9), (4, .int y), (5, .ref ob)]) hx hb d_L_resolve_17 hl (by decide) rfl (fun ls hl => ?_)
      refine lv_iconst (v := nI 1) hx hb d_L_resolve_19 (by decide) ?_
      exact hret _ _ _ _ _ _ _ _ d_L_resolve_20 (Or.inr ⟨by rw [hcd]; decide, by rw [hcd], rfl⟩) hP hD hS (by decide) (by decide)
    · skip
      obtain ⟨hP, hD⟩ := hpd ((ob, .inl (k 3, 1, .inr (.inl of))) :: cxW k a r t th kd bs us sth mk dr M sM) (pm_cm2 _ _)
      refine vx_catch hown [⟨0, 14, 17, 21⟩] ⟨0, 14, 21, 13⟩ [] (by rw [htab]; rfl) (fun z hz => by obtain rfl := List.mem_singleton.mp hz; exact Or.inr ⟨by decide, _, hts _ wd_217, hN.2.1⟩) (by decide) (by decide) (hts _ wd_115) (va_Nw.use rfl (hK.2.1 (Cond.castable "java/lang/IllegalArgumentException" "java/lang/IllegalArgumentException") (by decide))) hce hcv hcl ?_
      refine lv_astore (lv' := [(6, .ref ad9), (0, .ref (a 0)), (1, .int x), (2, .int c9), (3, .int q9), (4, .int y), (5, .ref ob)]) hx hb d_L_resolve_21 hl (by decide) rfl (fun ls hl => ?_)
      refine lv_iconst (v := nI 2) hx hb d_L_resolve_23 (by decide) ?_
      exact hret _ _ _ _ _ _ _ _ d_L_resolve_24 (Or.inr ⟨by rw [hcd]; decide, by rw [hcd], rfl⟩) hP hD hS (by decide) (by decide)
  obtain ⟨hP, hD⟩ := hpd ((ob, .inl (k 3, 1, .inr (.inl of))) :: w1) (pm_cm2 _ _)
  refine lv_i2l (v := (r).toInt64) hx hb d_L_resolve_12 rfl ?_
  refine va_last hx hb hK.1 hP hD hS 0 3 rfl rfl vin_0 d_L_resolve_13 (fun H locs hP hD hS => ?_)
  have hP : va_P D vwCl ((ob, .inl (k 3, 1, .inr (.inl ((vp_updL of (nI 0).toNatClampNeg ((r).toInt64)))))) :: w1) H := hP
  have hD : va_D A ((ob, .inl (k 3, 1, .inr (.inl ((vp_updL of (nI 0).toNatClampNeg ((r).toInt64)))))) :: w1) := hD
  refine lv_goto (tgt := 25) hx hb d_L_resolve_14 (by decide) ?_
  refine lv_iconst (v := nI 0) hx hb d_L_resolve_25 (by decide) ?_
  exact hret _ _ _ _ _ _ _ _ d_L_resolve_26 (Or.inl ⟨rfl, r, w1, hw, rfl⟩) hP hD hS (by decide) (by decide)

set_option maxRecDepth 100000 in
set_option maxHeartbeats 4000000 in
theorem w_differ (l : Launch) (D : va_G) (k : Nat → ClassId) (a r t : Nat → Nat) (th kd bs us sth mk dr : Nat → Int32) (M sM : Nat → Nat → Int32) (sa : Nat → Nat) (hl9 : l.stackTraces = false) (x y c9 q9 : Int32) (ob : Nat) (of : Nat → Int64) (sz : Nat) : bHI l y_L_differ (wZ y_L_differ b_L_differ 7 (some .int) [(0, 14, 17, 21), (0, 14, 21, 13)]) (rm9 9 4 24) Sts sa D (tsK k) ((ob, .inl (k 3, 1, .inr (.inl of))) :: cxW k a r t th kd bs us sth mk dr M sM) sz [.ref (a 0), .int x, .int y, .int c9, .int q9, .ref ob] (fun v8 w8 => (v8 = nI 0 ∧ ∃ (r9 : Int32) (w9 : va_W), ((fun v w => ∃ j : Nat, j < 256 ∧ x = nI j ∧ hsB 256 sth (nI j) = true ∧ ∃ j2 : Nat, j2 < 256 ∧ y = nI j2 ∧ hsB 256 sth (nI j2) = true ∧ okB th kd c9 (nI 0) = true ∧ okB th kd q9 (nI 1) = true ∧ v = fdF (fun i => decide (¬ rsF th bs us M sM j c9 q9 i = rsF th bs us M sM j2 c9 q9 i)) 24 0 ∧ w = cxW k a r t th kd bs us sth mk dr M sM)) r9 w9 ∧ w8 = (ob, .inl (k 3, 1, .inr (.inl ((vp_updL of (nI 0).toNatClampNeg (r9.toInt64)))))) :: w9) ∨ (¬ cdDi th kd sth x y c9 q9 = 0 ∧ v8 = nI (cdDi th kd sth x y c9 q9) ∧ w8 = (ob, .inl (k 3, 1, .inr (.inl of))) :: cxW k a r t th kd bs us sth mk dr M sM)) 4 24 := by
  refine ent_h (cc := b_L_differ) (maxL := 7) (hh := [(0, 14, 17, 21), (0, 14, 21, 13)]) (by decide) (Nat.le_of_ble_eq_true rfl) ?_
  intro p e s m args below meth c A Q ls hx hb hml hown hts hsz hA hP hD hS hK hl htab hE hN hret
  refine lv_aload hx hb d_L_differ_0 (lv_at hl 5 rfl) ?_
  refine lv_iconst (v := nI 0) hx hb d_L_differ_2 (by decide) ?_
  refine lv_aload_n hx hb d_L_differ_3 rfl (lv_at hl 0 rfl) ?_
  refine lv_iload_n hx hb d_L_differ_4 rfl (lv_at hl 1 rfl) ?_
  refine lv_iload_n hx hb d_L_differ_5 rfl (lv_at hl 2 rfl) ?_
  refine lv_iload_n hx hb d_L_differ_6 rfl (lv_at hl 3 rfl) ?_
  refine lv_iload hx hb d_L_differ_7 (lv_at hl 4 rfl) ?_
  refine cax_i (wc := cxW k a r t th kd bs us sth mk dr M sM) (wr := [(ob, .inl (k 3, 1, .inr (.inl of)))]) (vx_runV (As := [.int x, .int y, .int c9, .int q9]) (rest := [.int (nI 0), .ref ob]) ⟨hx, hb, hml, hown, hts⟩ (c_differ l D k a r t th kd bs us sth mk dr M sM sa hl9 x y c9 q9 s.heap.size) (cwV9 4 hts wd_385 wd_382 wd_383 wd_384 wd_1 (by decide) ⟨Nat.le_of_ble_eq_true rfl, Nat.le_of_ble_eq_true rfl⟩) (prVx (q0 := 0) (ci := ciSS) hE hS hA hK hP hD (pm_cm1 _ _) rfl rfl) rfl rfl hl.1 rfl (lv_room (Nat.le_of_ble_eq_true rfl)) d_L_differ_9 ⟨by decide, by decide⟩) (pm_cm1 _ _) hP hD hS hA (fun E9 ce9 ad9 w1 H locs hpx hpd hS hce hcv hcl => ?_) (fun r w1 H locs hw hpd hS => ?_)
  · skip
    rcases hpx with ⟨⟨rfl, hcd⟩ | ⟨rfl, hcd⟩, rfl⟩
    · skip
      obtain ⟨hP, hD⟩ := hpd ((ob, .inl (k 3, 1, .inr (.inl of))) :: cxW k a r t th kd bs us sth mk dr M sM) (pm_cm2 _ _)
      refine vx_catch hown [] ⟨0, 14, 17, 21⟩ [⟨0, 14, 21, 13⟩] (by rw [htab]; rfl) (fun z hz => absurd hz List.not_mem_nil) (by decide) (by decide) (hts _ wd_217) (va_Nw.use rfl (hK.2.1 (Cond.castable "java/util/NoSuchElementException" "java/util/NoSuchElementException") (by decide))) hce hcv hcl ?_
      refine lv_astore (lv' := [(6, .ref ad9), (0, .ref (a 0)), (1, .int x), (2, .int y), (3, .int c9), (4, .int q9), (5, .ref ob)]) hx hb d_L_differ_17 hl (by decide) rfl (fun ls hl => ?_)
      refine lv_iconst (v := nI 1) hx hb d_L_differ_19 (by decide) ?_
      exact hret _ _ _ _ _ _ _ _ d_L_differ_20 (Or.inr ⟨by rw [hcd]; decide, by rw [hcd], rfl⟩) hP hD hS (by decide) (by decide)
    · skip
      obtain ⟨hP, hD⟩ := hpd ((ob, .inl (k 3, 1, .inr (.inl of))) :: cxW k a r t th kd bs us sth mk dr M sM) (pm_cm2 _ _)
      refine vx_catch hown [⟨0, 14, 17, 21⟩] ⟨0, 14, 21, 13⟩ [] (by rw [htab]; rfl) (fun z hz => by obtain rfl := List.mem_singleton.mp hz; exact Or.inr ⟨by decide, _, hts _ wd_217, hN.2.1⟩) (by decide) (by decide) (hts _ wd_115) (va_Nw.use rfl (hK.2.1 (Cond.castable "java/lang/IllegalArgumentException" "java/lang/IllegalArgumentException") (by decide))) hce hcv hcl ?_
      refine lv_astore (lv' := [(6, .ref ad9), (0, .ref (a 0)), (1, .int x), (2, .int y), (3, .int c9), (4, .int q9), (5, .ref ob)]) hx hb d_L_differ_21 hl (by decide) rfl (fun ls hl => ?_)
      refine lv_iconst (v := nI 2) hx hb d_L_differ_23 (by decide) ?_
      exact hret _ _ _ _ _ _ _ _ d_L_differ_24 (Or.inr ⟨by rw [hcd]; decide, by rw [hcd], rfl⟩) hP hD hS (by decide) (by decide)
  obtain ⟨hP, hD⟩ := hpd ((ob, .inl (k 3, 1, .inr (.inl of))) :: w1) (pm_cm2 _ _)
  refine lv_i2l (v := (r).toInt64) hx hb d_L_differ_12 rfl ?_
  refine va_last hx hb hK.1 hP hD hS 0 3 rfl rfl vin_0 d_L_differ_13 (fun H locs hP hD hS => ?_)
  have hP : va_P D vwCl ((ob, .inl (k 3, 1, .inr (.inl ((vp_updL of (nI 0).toNatClampNeg ((r).toInt64)))))) :: w1) H := hP
  have hD : va_D A ((ob, .inl (k 3, 1, .inr (.inl ((vp_updL of (nI 0).toNatClampNeg ((r).toInt64)))))) :: w1) := hD
  refine lv_goto (tgt := 25) hx hb d_L_differ_14 (by decide) ?_
  refine lv_iconst (v := nI 0) hx hb d_L_differ_25 (by decide) ?_
  exact hret _ _ _ _ _ _ _ _ d_L_differ_26 (Or.inl ⟨rfl, r, w1, hw, rfl⟩) hP hD hS (by decide) (by decide)

set_option maxRecDepth 100000 in
set_option maxHeartbeats 4000000 in
theorem w_mark (l : Launch) (D : va_G) (k : Nat → ClassId) (a r t : Nat → Nat) (th kd bs us sth mk dr : Nat → Int32) (M sM : Nat → Nat → Int32) (sa : Nat → Nat) (hl9 : l.stackTraces = false) (x : Int32) (ob : Nat) (of : Nat → Int64) (sz : Nat) : bHI l y_L_mark (wZ y_L_mark b_L_mark 4 (some .int) [(0, 9, 12, 21)]) (rm9 9 1 6) Sts sa D (tsK k) ((ob, .inl (k 3, 1, .inr (.inl of))) :: cxW k a r t th kd bs us sth mk dr M sM) sz [.ref (a 0), .int x, .ref ob] (fun v8 w8 => (v8 = nI 0 ∧ ∃ (r9 : Int32) (w9 : va_W), ((fun v w => ∃ j : Nat, j < 256 ∧ x = nI j ∧ hsB 256 sth (nI j) = true ∧ v = nI (cnF (fun i => decide (upd mk j (nI 1) i ≠ 0)) 256) ∧ w = cxW k a r t th kd bs us sth (upd mk j (nI 1)) dr M sM)) r9 w9 ∧ w8 = (ob, .inl (k 3, 1, .inr (.inl ((vp_updL of (nI 0).toNatClampNeg (r9.toInt64)))))) :: w9) ∨ (¬ cdMa sth x = 0 ∧ v8 = nI (cdMa sth x) ∧ w8 = (ob, .inl (k 3, 1, .inr (.inl of))) :: cxW k a r t th kd bs us sth mk dr M sM)) 1 6 := by
  refine ent_h (cc := b_L_mark) (maxL := 4) (hh := [(0, 9, 12, 21)]) (by decide) (Nat.le_of_ble_eq_true rfl) ?_
  intro p e s m args below meth c A Q ls hx hb hml hown hts hsz hA hP hD hS hK hl htab hE hN hret
  refine lv_aload_n hx hb d_L_mark_0 rfl (lv_at hl 2 rfl) ?_
  refine lv_iconst (v := nI 0) hx hb d_L_mark_1 (by decide) ?_
  refine lv_aload_n hx hb d_L_mark_2 rfl (lv_at hl 0 rfl) ?_
  refine lv_iload_n hx hb d_L_mark_3 rfl (lv_at hl 1 rfl) ?_
  refine cax_i (wc := cxW k a r t th kd bs us sth mk dr M sM) (wr := [(ob, .inl (k 3, 1, .inr (.inl of)))]) (vx_runV (As := [.int x]) (rest := [.int (nI 0), .ref ob]) ⟨hx, hb, hml, hown, hts⟩ (c_mark l D k a r t th kd bs us sth mk dr M sM sa hl9 x s.heap.size) (cwV9 1 hts wd_392 wd_389 wd_390 wd_391 wd_1 (by decide) ⟨Nat.le_of_ble_eq_true rfl, Nat.le_of_ble_eq_true rfl⟩) (prVx (q0 := 0) (ci := ciSS) hE hS hA hK hP hD (pm_cm1 _ _) rfl rfl) rfl rfl hl.1 rfl (lv_room (Nat.le_of_ble_eq_true rfl)) d_L_mark_4 ⟨by decide, by decide⟩) (pm_cm1 _ _) hP hD hS hA (fun E9 ce9 ad9 w1 H locs hpx hpd hS hce hcv hcl => ?_) (fun r w1 H locs hw hpd hS => ?_)
  · skip
    rcases hpx with ⟨⟨rfl, hcd⟩, rfl⟩
    · skip
      obtain ⟨hP, hD⟩ := hpd ((ob, .inl (k 3, 1, .inr (.inl of))) :: cxW k a r t th kd bs us sth mk dr M sM) (pm_cm2 _ _)
      refine vx_catch hown [] ⟨0, 9, 12, 21⟩ [] (by rw [htab]; rfl) (fun z hz => absurd hz List.not_mem_nil) (by decide) (by decide) (hts _ wd_217) (va_Nw.use rfl (hK.2.1 (Cond.castable "java/util/NoSuchElementException" "java/util/NoSuchElementException") (by decide))) hce hcv hcl ?_
      refine lv_astore_n (lv' := [(3, .ref ad9), (0, .ref (a 0)), (1, .int x), (2, .ref ob)]) hx hb d_L_mark_12 rfl hl (by decide) rfl (fun ls hl => ?_)
      refine lv_iconst (v := nI 1) hx hb d_L_mark_13 (by decide) ?_
      exact hret _ _ _ _ _ _ _ _ d_L_mark_14 (Or.inr ⟨by rw [hcd]; decide, by rw [hcd], rfl⟩) hP hD hS (by decide) (by decide)
  obtain ⟨hP, hD⟩ := hpd ((ob, .inl (k 3, 1, .inr (.inl of))) :: w1) (pm_cm2 _ _)
  refine lv_i2l (v := (r).toInt64) hx hb d_L_mark_7 rfl ?_
  refine va_last hx hb hK.1 hP hD hS 0 3 rfl rfl vin_0 d_L_mark_8 (fun H locs hP hD hS => ?_)
  have hP : va_P D vwCl ((ob, .inl (k 3, 1, .inr (.inl ((vp_updL of (nI 0).toNatClampNeg ((r).toInt64)))))) :: w1) H := hP
  have hD : va_D A ((ob, .inl (k 3, 1, .inr (.inl ((vp_updL of (nI 0).toNatClampNeg ((r).toInt64)))))) :: w1) := hD
  refine lv_goto (tgt := 15) hx hb d_L_mark_9 (by decide) ?_
  refine lv_iconst (v := nI 0) hx hb d_L_mark_15 (by decide) ?_
  exact hret _ _ _ _ _ _ _ _ d_L_mark_16 (Or.inl ⟨rfl, r, w1, hw, rfl⟩) hP hD hS (by decide) (by decide)
