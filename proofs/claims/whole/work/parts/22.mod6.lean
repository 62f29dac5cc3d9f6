/-! a new StyleSheetModel -/

set_option maxRecDepth 100000 in
set_option maxHeartbeats 4000000 in
theorem c_Minit (l : Launch) (D : va_G) (k : Nat → ClassId) (x : Nat) (sz : Nat) : bMV l y_M_init (wY y_M_init b_M_init 2 none) (rm9 4 8 8368) D (tsK k) ([(x, .inr (ciMo, [.int 0, .null, .null, .null, .null, .null, .null, .null, .null]))]) sz [.ref x] (fun w => ∃ b : Nat → Nat, b 0 = x ∧ w = mdW k b 0 (pfF (fun _ => -1) (fun _ => 0) 64) ((fun _ => 0)) ((fun _ => 0)) ((fun _ => 0)) (upd (fun _ => 0) 0 (nI 1)) ((fun _ => 0)) (pfF (fun _ => -1) (fun _ => 0) 24) ((fun _ => 0))) 8 8368 := by
  refine ent_v (cc := b_M_init) (maxL := 2) (by decide) (Nat.le_of_ble_eq_true rfl) ?_
  intro p e s m args below meth c A Q ls hx hb hml hown hts hsz hA hP hD hS hK hl hnm hret
  refine lv_aload_n hx hb d_M_init_0 rfl (lv_at hl 0 rfl) ?_
  refine W.objInit hx hb hown (hts _ wd_398) (hts _ wd_19) (hts _ wd_20) rfl (by rw [hml]; exact hl.1) rfl d_M_init_1 (Nat.le_of_ble_eq_true rfl) (Nat.le_of_ble_eq_true rfl) ?_
  refine W.eq (g2 := F0 m 4 ls []) rfl ?_
  refine lv_aload_n hx hb d_M_init_4 rfl (lv_at hl 0 rfl) ?_
  refine lv_bipush (v := nI 64) hx hb d_M_init_5 (by decide) ?_
  refine va_newa (atype := .int) (ty := .int) (N' := 64) (a0 := (64, .inl (fun _ => 0))) hx hb (hts _ wd_41) rfl hK.1 hP hD hS hA (fun cA => rfl) (by decide) (by decide) (by decide) (by decide) (by decide) d_M_init_7 (fun q7 cA H hKn hP hD hS => ?_)
  obtain rfl : cA = k 0 := ka_eq (hKn.2 4 _ rfl).2 (hK.1.2 0 _ rfl).2
  have hP : va_P D vwCl ((x, .inr (ciMo, [.int 0, .null, .null, .null, .null, .null, .null, .null, .null])) :: ([(q7, .inl (k 0, 64, .inl (fun _ => 0)))])) H := hP
  have hD : va_D A ((x, .inr (ciMo, [.int 0, .null, .null, .null, .null, .null, .null, .null, .null])) :: ([(q7, .inl (k 0, 64, .inl (fun _ => 0)))])) := hD
  refine W.widen (k := 1) (n := 64) (by decide) (by decide) ?_
  refine va_putF (D := D) (ci := ciMo) (v := .ref q7) (ty := .array .int) (C := RM) (T := TM) (N := 9) hx hb hts inM tyM ttM nnM hown hK.1 hP hD hS 0 rfl rfl 1 (by decide) (hts _ wd_400) (fun _ h9 => h9) rfl hnm rfl (by decide +kernel) rfl rfl (Nat.le_of_ble_eq_true rfl) d_M_init_9 (fun H locs hP hD hS => ?_)
  have hP : va_P D vwCl ((x, .inr (ciMo, [.int 0, .ref q7, .null, .null, .null, .null, .null, .null, .null])) :: ([(q7, .inl (k 0, 64, .inl (fun _ => 0)))])) H := hP
  have hD : va_D A ((x, .inr (ciMo, [.int 0, .ref q7, .null, .null, .null, .null, .null, .null, .null])) :: ([(q7, .inl (k 0, 64, .inl (fun _ => 0)))])) := hD
  refine lv_aload_n hx hb d_M_init_12 rfl (lv_at hl 0 rfl) ?_
  refine lv_bipush (v := nI 64) hx hb d_M_init_13 (by decide) ?_
  refine va_newa (atype := .int) (ty := .int) (N' := 64) (a0 := (64, .inl (fun _ => 0))) hx hb (hts _ wd_41) rfl hK.1 hP hD hS hA (fun cA => rfl) (by decide) (by decide) (by decide) (by decide) (by decide) d_M_init_15 (fun q15 cA H hKn hP hD hS => ?_)
  obtain rfl : cA = k 0 := ka_eq (hKn.2 4 _ rfl).2 (hK.1.2 0 _ rfl).2
  have hP : va_P D vwCl ((x, .inr (ciMo, [.int 0, .ref q7, .null, .null, .null, .null, .null, .null, .null])) :: (([(q7, .inl (k 0, 64, .inl (fun _ => 0)))]) ++ [(q15, .inl (k 0, 64, .inl (fun _ => 0)))])) H := hP
  have hD : va_D A ((x, .inr (ciMo, [.int 0, .ref q7, .null, .null, .null, .null, .null, .null, .null])) :: (([(q7, .inl (k 0, 64, .inl (fun _ => 0)))]) ++ [(q15, .inl (k 0, 64, .inl (fun _ => 0)))])) := hD
  refine W.widen (k := 2) (n := 128) (by decide) (by decide) ?_
  refine va_putF (D := D) (ci := ciMo) (v := .ref q15) (ty := .array .int) (C := RM) (T := TM) (N := 9) hx hb hts inM tyM ttM nnM hown hK.1 hP hD hS 0 rfl rfl 2 (by decide) (hts _ wd_401) (fun _ h9 => h9) rfl hnm rfl (by decide +kernel) rfl rfl (Nat.le_of_ble_eq_true rfl) d_M_init_17 (fun H locs hP hD hS => ?_)
  have hP : va_P D vwCl ((x, .inr (ciMo, [.int 0, .ref q7, .ref q15, .null, .null, .null, .null, .null, .null])) :: (([(q7, .inl (k 0, 64, .inl (fun _ => 0)))]) ++ [(q15, .inl (k 0, 64, .inl (fun _ => 0)))])) H := hP
  have hD : va_D A ((x, .inr (ciMo, [.int 0, .ref q7, .ref q15, .null, .null, .null, .null, .null, .null])) :: (([(q7, .inl (k 0, 64, .inl (fun _ => 0)))]) ++ [(q15, .inl (k 0, 64, .inl (fun _ => 0)))])) := hD
  refine lv_aload_n hx hb d_M_init_20 rfl (lv_at hl 0 rfl) ?_
  refine lv_sipush (v := nI 1536) hx hb d_M_init_21 (by decide) ?_
  refine va_newa (atype := .int) (ty := .int) (N' := 1536) (a0 := (1536, .inl (fun _ => 0))) hx hb (hts _ wd_41) rfl hK.1 hP hD hS hA (fun cA => rfl) (by decide) (by decide) (by decide) (by decide) (by decide) d_M_init_24 (fun q24 cA H hKn hP hD hS => ?_)
  obtain rfl : cA = k 0 := ka_eq (hKn.2 4 _ rfl).2 (hK.1.2 0 _ rfl).2
  have hP : va_P D vwCl ((x, .inr (ciMo, [.int 0, .ref q7, .ref q15, .null, .null, .null, .null, .null, .null])) :: ((([(q7, .inl (k 0, 64, .inl (fun _ => 0)))]) ++ [(q15, .inl (k 0, 64, .inl (fun _ => 0)))]) ++ [(q24, .inl (k 0, 1536, .inl (fun _ => 0)))])) H := hP
  have hD : va_D A ((x, .inr (ciMo, [.int 0, .ref q7, .ref q15, .null, .null, .null, .null, .null, .null])) :: ((([(q7, .inl (k 0, 64, .inl (fun _ => 0)))]) ++ [(q15, .inl (k 0, 64, .inl (fun _ => 0)))]) ++ [(q24, .inl (k 0, 1536, .inl (fun _ => 0)))])) := hD
  refine W.widen (k := 3) (n := 1664) (by decide) (by decide) ?_
  refine va_putF (D := D) (ci := ciMo) (v := .ref q24) (ty := .array .int) (C := RM) (T := TM) (N := 9) hx hb hts inM tyM ttM nnM hown hK.1 hP hD hS 0 rfl rfl 3 (by decide) (hts _ wd_402) (fun _ h9 => h9) rfl hnm rfl (by decide +kernel) rfl rfl (Nat.le_of_ble_eq_true rfl) d_M_init_26 (fun H locs hP hD hS => ?_)
  have hP : va_P D vwCl ((x, .inr (ciMo, [.int 0, .ref q7, .ref q15, .ref q24, .null, .null, .null, .null, .null])) :: ((([(q7, .inl (k 0, 64, .inl (fun _ => 0)))]) ++ [(q15, .inl (k 0, 64, .inl (fun _ => 0)))]) ++ [(q24, .inl (k 0, 1536, .inl (fun _ => 0)))])) H := hP
  have hD : va_D A ((x, .inr (ciMo, [.int 0, .ref q7, .ref q15, .ref q24, .null, .null, .null, .null, .null])) :: ((([(q7, .inl (k 0, 64, .inl (fun _ => 0)))]) ++ [(q15, .inl (k 0, 64, .inl (fun _ => 0)))]) ++ [(q24, .inl (k 0, 1536, .inl (fun _ => 0)))])) := hD
  refine lv_aload_n hx hb d_M_init_29 rfl (lv_at hl 0 rfl) ?_
  refine lv_bipush (v := nI 24) hx hb d_M_init_30 (by decide) ?_
  refine va_newa (atype := .int) (ty := .int) (N' := 24) (a0 := (24, .inl (fun _ => 0))) hx hb (hts _ wd_41) rfl hK.1 hP hD hS hA (fun cA => rfl) (by decide) (by decide) (by decide) (by decide) (by decide) d_M_init_32 (fun q32 cA H hKn hP hD hS => ?_)
  obtain rfl : cA = k 0 := ka_eq (hKn.2 4 _ rfl).2 (hK.1.2 0 _ rfl).2
  have hP : va_P D vwCl ((x, .inr (ciMo, [.int 0, .ref q7, .ref q15, .ref q24, .null, .null, .null, .null, .null])) :: (((([(q7, .inl (k 0, 64, .inl (fun _ => 0)))]) ++ [(q15, .inl (k 0, 64, .inl (fun _ => 0)))]) ++ [(q24, .inl (k 0, 1536, .inl (fun _ => 0)))]) ++ [(q32, .inl (k 0, 24, .inl (fun _ => 0)))])) H := hP
  have hD : va_D A ((x, .inr (ciMo, [.int 0, .ref q7, .ref q15, .ref q24, .null, .null, .null, .null, .null])) :: (((([(q7, .inl (k 0, 64, .inl (fun _ => 0)))]) ++ [(q15, .inl (k 0, 64, .inl (fun _ => 0)))]) ++ [(q24, .inl (k 0, 1536, .inl (fun _ => 0)))]) ++ [(q32, .inl (k 0, 24, .inl (fun _ => 0)))])) := hD
  refine W.widen (k := 4) (n := 1688) (by decide) (by decide) ?_
  refine va_putF (D := D) (ci := ciMo) (v := .ref q32) (ty := .array .int) (C := RM) (T := TM) (N := 9) hx hb hts inM tyM ttM nnM hown hK.1 hP hD hS 0 rfl rfl 4 (by decide) (hts _ wd_403) (fun _ h9 => h9) rfl hnm rfl (by decide +kernel) rfl rfl (Nat.le_of_ble_eq_true rfl) d_M_init_34 (fun H locs hP hD hS => ?_)
  have hP : va_P D vwCl ((x, .inr (ciMo, [.int 0, .ref q7, .ref q15, .ref q24, .ref q32, .null, .null, .null, .null])) :: (((([(q7, .inl (k 0, 64, .inl (fun _ => 0)))]) ++ [(q15, .inl (k 0, 64, .inl (fun _ => 0)))]) ++ [(q24, .inl (k 0, 1536, .inl (fun _ => 0)))]) ++ [(q32, .inl (k 0, 24, .inl (fun _ => 0)))])) H := hP
  have hD : va_D A ((x, .inr (ciMo, [.int 0, .ref q7, .ref q15, .ref q24, .ref q32, .null, .null, .null, .null])) :: (((([(q7, .inl (k 0, 64, .inl (fun _ => 0)))]) ++ [(q15, .inl (k 0, 64, .inl (fun _ => 0)))]) ++ [(q24, .inl (k 0, 1536, .inl (fun _ => 0)))]) ++ [(q32, .inl (k 0, 24, .inl (fun _ => 0)))])) := hD
  refine lv_aload_n hx hb d_M_init_37 rfl (lv_at hl 0 rfl) ?_
  refine lv_sipush (v := nI 256) hx hb d_M_init_38 (by decide) ?_
  refine va_newa (atype := .boolean) (ty := .boolean) (N' := 256) (a0 := (256, .inl (fun _ => 0))) hx hb (hts _ wd_40) rfl hK.1 hP hD hS hA (fun cA => rfl) (by decide) (by decide) (by decide) (by decide) (by decide) d_M_init_41 (fun q41 cA H hKn hP hD hS => ?_)
  obtain rfl : cA = k 1 := ka_eq (hKn.2 4 _ rfl).2 (hK.1.2 1 _ rfl).2
  have hP : va_P D vwCl ((x, .inr (ciMo, [.int 0, .ref q7, .ref q15, .ref q24, .ref q32, .null, .null, .null, .null])) :: ((((([(q7, .inl (k 0, 64, .inl (fun _ => 0)))]) ++ [(q15, .inl (k 0, 64, .inl (fun _ => 0)))]) ++ [(q24, .inl (k 0, 1536, .inl (fun _ => 0)))]) ++ [(q32, .inl (k 0, 24, .inl (fun _ => 0)))]) ++ [(q41, .inl (k 1, 256, .inl (fun _ => 0)))])) H := hP
  have hD : va_D A ((x, .inr (ciMo, [.int 0, .ref q7, .ref q15, .ref q24, .ref q32, .null, .null, .null, .null])) :: ((((([(q7, .inl (k 0, 64, .inl (fun _ => 0)))]) ++ [(q15, .inl (k 0, 64, .inl (fun _ => 0)))]) ++ [(q24, .inl (k 0, 1536, .inl (fun _ => 0)))]) ++ [(q32, .inl (k 0, 24, .inl (fun _ => 0)))]) ++ [(q41, .inl (k 1, 256, .inl (fun _ => 0)))])) := hD
  refine W.widen (k := 5) (n := 1944) (by decide) (by decide) ?_
  refine va_putF (D := D) (ci := ciMo) (v := .ref q41) (ty := .array .boolean) (C := RM) (T := TM) (N := 9) hx hb hts inM tyM ttM nnM hown hK.1 hP hD hS 0 rfl rfl 5 (by decide) (hts _ wd_404) (fun _ h9 => h9) rfl hnm rfl (by decide +kernel) rfl rfl (Nat.le_of_ble_eq_true rfl) d_M_init_43 (fun H locs hP hD hS => ?_)
  have hP : va_P D vwCl ((x, .inr (ciMo, [.int 0, .ref q7, .ref q15, .ref q24, .ref q32, .ref q41, .null, .null, .null])) :: ((((([(q7, .inl (k 0, 64, .inl (fun _ => 0)))]) ++ [(q15, .inl (k 0, 64, .inl (fun _ => 0)))]) ++ [(q24, .inl (k 0, 1536, .inl (fun _ => 0)))]) ++ [(q32, .inl (k 0, 24, .inl (fun _ => 0)))]) ++ [(q41, .inl (k 1, 256, .inl (fun _ => 0)))])) H := hP
  have hD : va_D A ((x, .inr (ciMo, [.int 0, .ref q7, .ref q15, .ref q24, .ref q32, .ref q41, .null, .null, .null])) :: ((((([(q7, .inl (k 0, 64, .inl (fun _ => 0)))]) ++ [(q15, .inl (k 0, 64, .inl (fun _ => 0)))]) ++ [(q24, .inl (k 0, 1536, .inl (fun _ => 0)))]) ++ [(q32, .inl (k 0, 24, .inl (fun _ => 0)))]) ++ [(q41, .inl (k 1, 256, .inl (fun _ => 0)))])) := hD
  refine lv_aload_n hx hb d_M_init_46 rfl (lv_at hl 0 rfl) ?_
  refine lv_sipush (v := nI 256) hx hb d_M_init_47 (by decide) ?_
  refine va_newa (atype := .boolean) (ty := .boolean) (N' := 256) (a0 := (256, .inl (fun _ => 0))) hx hb (hts _ wd_40) rfl hK.1 hP hD hS hA (fun cA => rfl) (by decide) (by decide) (by decide) (by decide) (by decide) d_M_init_50 (fun q50 cA H hKn hP hD hS => ?_)
  obtain rfl : cA = k 1 := ka_eq (hKn.2 4 _ rfl).2 (hK.1.2 1 _ rfl).2
  have hP : va_P D vwCl ((x, .inr (ciMo, [.int 0, .ref q7, .ref q15, .ref q24, .ref q32, .ref q41, .null, .null, .null])) :: (((((([(q7, .inl (k 0, 64, .inl (fun _ => 0)))]) ++ [(q15, .inl (k 0, 64, .inl (fun _ => 0)))]) ++ [(q24, .inl (k 0, 1536, .inl (fun _ => 0)))]) ++ [(q32, .inl (k 0, 24, .inl (fun _ => 0)))]) ++ [(q41, .inl (k 1, 256, .inl (fun _ => 0)))]) ++ [(q50, .inl (k 1, 256, .inl (fun _ => 0)))])) H := hP
  have hD : va_D A ((x, .inr (ciMo, [.int 0, .ref q7, .ref q15, .ref q24, .ref q32, .ref q41, .null, .null, .null])) :: (((((([(q7, .inl (k 0, 64, .inl (fun _ => 0)))]) ++ [(q15, .inl (k 0, 64, .inl (fun _ => 0)))]) ++ [(q24, .inl (k 0, 1536, .inl (fun _ => 0)))]) ++ [(q32, .inl (k 0, 24, .inl (fun _ => 0)))]) ++ [(q41, .inl (k 1, 256, .inl (fun _ => 0)))]) ++ [(q50, .inl (k 1, 256, .inl (fun _ => 0)))])) := hD
  refine W.widen (k := 6) (n := 2200) (by decide) (by decide) ?_
  refine va_putF (D := D) (ci := ciMo) (v := .ref q50) (ty := .array .boolean) (C := RM) (T := TM) (N := 9) hx hb hts inM tyM ttM nnM hown hK.1 hP hD hS 0 rfl rfl 6 (by decide) (hts _ wd_405) (fun _ h9 => h9) rfl hnm rfl (by decide +kernel) rfl rfl (Nat.le_of_ble_eq_true rfl) d_M_init_52 (fun H locs hP hD hS => ?_)
  have hP : va_P D vwCl ((x, .inr (ciMo, [.int 0, .ref q7, .ref q15, .ref q24, .ref q32, .ref q41, .ref q50, .null, .null])) :: (((((([(q7, .inl (k 0, 64, .inl (fun _ => 0)))]) ++ [(q15, .inl (k 0, 64, .inl (fun _ => 0)))]) ++ [(q24, .inl (k 0, 1536, .inl (fun _ => 0)))]) ++ [(q32, .inl (k 0, 24, .inl (fun _ => 0)))]) ++ [(q41, .inl (k 1, 256, .inl (fun _ => 0)))]) ++ [(q50, .inl (k 1, 256, .inl (fun _ => 0)))])) H := hP
  have hD : va_D A ((x, .inr (ciMo, [.int 0, .ref q7, .ref q15, .ref q24, .ref q32, .ref q41, .ref q50, .null, .null])) :: (((((([(q7, .inl (k 0, 64, .inl (fun _ => 0)))]) ++ [(q15, .inl (k 0, 64, .inl (fun _ => 0)))]) ++ [(q24, .inl (k 0, 1536, .inl (fun _ => 0)))]) ++ [(q32, .inl (k 0, 24, .inl (fun _ => 0)))]) ++ [(q41, .inl (k 1, 256, .inl (fun _ => 0)))]) ++ [(q50, .inl (k 1, 256, .inl (fun _ => 0)))])) := hD
  refine lv_aload_n hx hb d_M_init_55 rfl (lv_at hl 0 rfl) ?_
  refine lv_sipush (v := nI 6144) hx hb d_M_init_56 (by decide) ?_
  refine va_newa (atype := .int) (ty := .int) (N' := 6144) (a0 := (6144, .inl (fun _ => 0))) hx hb (hts _ wd_41) rfl hK.1 hP hD hS hA (fun cA => rfl) (by decide) (by decide) (by decide) (by decide) (by decide) d_M_init_59 (fun q59 cA H hKn hP hD hS => ?_)
  obtain rfl : cA = k 0 := ka_eq (hKn.2 4 _ rfl).2 (hK.1.2 0 _ rfl).2
  have hP : va_P D vwCl ((x, .inr (ciMo, [.int 0, .ref q7, .ref q15, .ref q24, .ref q32, .ref q41, .ref q50, .null, .null])) :: ((((((([(q7, .inl (k 0, 64, .inl (fun _ => 0)))]) ++ [(q15, .inl (k 0, 64, .inl (fun _ => 0)))]) ++ [(q24, .inl (k 0, 1536, .inl (fun _ => 0)))]) ++ [(q32, .inl (k 0, 24, .inl (fun _ => 0)))]) ++ [(q41, .inl (k 1, 256, .inl (fun _ => 0)))]) ++ [(q50, .inl (k 1, 256, .inl (fun _ => 0)))]) ++ [(q59, .inl (k 0, 6144, .inl (fun _ => 0)))])) H := hP
  have hD : va_D A ((x, .inr (ciMo, [.int 0, .ref q7, .ref q15, .ref q24, .ref q32, .ref q41, .ref q50, .null, .null])) :: ((((((([(q7, .inl (k 0, 64, .inl (fun _ => 0)))]) ++ [(q15, .inl (k 0, 64, .inl (fun _ => 0)))]) ++ [(q24, .inl (k 0, 1536, .inl (fun _ => 0)))]) ++ [(q32, .inl (k 0, 24, .inl (fun _ => 0)))]) ++ [(q41, .inl (k 1, 256, .inl (fun _ => 0)))]) ++ [(q50, .inl (k 1, 256, .inl (fun _ => 0)))]) ++ [(q59, .inl (k 0, 6144, .inl (fun _ => 0)))])) := hD
  refine W.widen (k := 7) (n := 8344) (by decide) (by decide) ?_
  refine va_putF (D := D) (ci := ciMo) (v := .ref q59) (ty := .array .int) (C := RM) (T := TM) (N := 9) hx hb hts inM tyM ttM nnM hown hK.1 hP hD hS 0 rfl rfl 7 (by decide) (hts _ wd_406) (fun _ h9 => h9) rfl hnm rfl (by decide +kernel) rfl rfl (Nat.le_of_ble_eq_true rfl) d_M_init_61 (fun H locs hP hD hS => ?_)
  have hP : va_P D vwCl ((x, .inr (ciMo, [.int 0, .ref q7, .ref q15, .ref q24, .ref q32, .ref q41, .ref q50, .ref q59, .null])) :: ((((((([(q7, .inl (k 0, 64, .inl (fun _ => 0)))]) ++ [(q15, .inl (k 0, 64, .inl (fun _ => 0)))]) ++ [(q24, .inl (k 0, 1536, .inl (fun _ => 0)))]) ++ [(q32, .inl (k 0, 24, .inl (fun _ => 0)))]) ++ [(q41, .inl (k 1, 256, .inl (fun _ => 0)))]) ++ [(q50, .inl (k 1, 256, .inl (fun _ => 0)))]) ++ [(q59, .inl (k 0, 6144, .inl (fun _ => 0)))])) H := hP
  have hD : va_D A ((x, .inr (ciMo, [.int 0, .ref q7, .ref q15, .ref q24, .ref q32, .ref q41, .ref q50, .ref q59, .null])) :: ((((((([(q7, .inl (k 0, 64, .inl (fun _ => 0)))]) ++ [(q15, .inl (k 0, 64, .inl (fun _ => 0)))]) ++ [(q24, .inl (k 0, 1536, .inl (fun _ => 0)))]) ++ [(q32, .inl (k 0, 24, .inl (fun _ => 0)))]) ++ [(q41, .inl (k 1, 256, .inl (fun _ => 0)))]) ++ [(q50, .inl (k 1, 256, .inl (fun _ => 0)))]) ++ [(q59, .inl (k 0, 6144, .inl (fun _ => 0)))])) := hD
  refine lv_aload_n hx hb d_M_init_64 rfl (lv_at hl 0 rfl) ?_
  refine lv_bipush (v := nI 24) hx hb d_M_init_65 (by decide) ?_
  refine va_newa (atype := .int) (ty := .int) (N' := 24) (a0 := (24, .inl (fun _ => 0))) hx hb (hts _ wd_41) rfl hK.1 hP hD hS hA (fun cA => rfl) (by decide) (by decide) (by decide) (by decide) (by decide) d_M_init_67 (fun q67 cA H hKn hP hD hS => ?_)
  obtain rfl : cA = k 0 := ka_eq (hKn.2 4 _ rfl).2 (hK.1.2 0 _ rfl).2
  have hP : va_P D vwCl ((x, .inr (ciMo, [.int 0, .ref q7, .ref q15, .ref q24, .ref q32, .ref q41, .ref q50, .ref q59, .null])) :: (((((((([(q7, .inl (k 0, 64, .inl (fun _ => 0)))]) ++ [(q15, .inl (k 0, 64, .inl (fun _ => 0)))]) ++ [(q24, .inl (k 0, 1536, .inl (fun _ => 0)))]) ++ [(q32, .inl (k 0, 24, .inl (fun _ => 0)))]) ++ [(q41, .inl (k 1, 256, .inl (fun _ => 0)))]) ++ [(q50, .inl (k 1, 256, .inl (fun _ => 0)))]) ++ [(q59, .inl (k 0, 6144, .inl (fun _ => 0)))]) ++ [(q67, .inl (k 0, 24, .inl (fun _ => 0)))])) H := hP
  have hD : va_D A ((x, .inr (ciMo, [.int 0, .ref q7, .ref q15, .ref q24, .ref q32, .ref q41, .ref q50, .ref q59, .null])) :: (((((((([(q7, .inl (k 0, 64, .inl (fun _ => 0)))]) ++ [(q15, .inl (k 0, 64, .inl (fun _ => 0)))]) ++ [(q24, .inl (k 0, 1536, .inl (fun _ => 0)))]) ++ [(q32, .inl (k 0, 24, .inl (fun _ => 0)))]) ++ [(q41, .inl (k 1, 256, .inl (fun _ => 0)))]) ++ [(q50, .inl (k 1, 256, .inl (fun _ => 0)))]) ++ [(q59, .inl (k 0, 6144, .inl (fun _ => 0)))]) ++ [(q67, .inl (k 0, 24, .inl (fun _ => 0)))])) := hD
  refine W.widen (k := 8) (n := 8368) (by decide) (by decide) ?_
  refine va_putF (D := D) (ci := ciMo) (v := .ref q67) (ty := .array .int) (C := RM) (T := TM) (N := 9) hx hb hts inM tyM ttM nnM hown hK.1 hP hD hS 0 rfl rfl 8 (by decide) (hts _ wd_407) (fun _ h9 => h9) rfl hnm rfl (by decide +kernel) rfl rfl (Nat.le_of_ble_eq_true rfl) d_M_init_69 (fun H locs hP hD hS => ?_)
  have hP : va_P D vwCl ((x, .inr (ciMo, [.int 0, .ref q7, .ref q15, .ref q24, .ref q32, .ref q41, .ref q50, .ref q59, .ref q67])) :: (((((((([(q7, .inl (k 0, 64, .inl (fun _ => 0)))]) ++ [(q15, .inl (k 0, 64, .inl (fun _ => 0)))]) ++ [(q24, .inl (k 0, 1536, .inl (fun _ => 0)))]) ++ [(q32, .inl (k 0, 24, .inl (fun _ => 0)))]) ++ [(q41, .inl (k 1, 256, .inl (fun _ => 0)))]) ++ [(q50, .inl (k 1, 256, .inl (fun _ => 0)))]) ++ [(q59, .inl (k 0, 6144, .inl (fun _ => 0)))]) ++ [(q67, .inl (k 0, 24, .inl (fun _ => 0)))])) H := hP
  have hD : va_D A ((x, .inr (ciMo, [.int 0, .ref q7, .ref q15, .ref q24, .ref q32, .ref q41, .ref q50, .ref q59, .ref q67])) :: (((((((([(q7, .inl (k 0, 64, .inl (fun _ => 0)))]) ++ [(q15, .inl (k 0, 64, .inl (fun _ => 0)))]) ++ [(q24, .inl (k 0, 1536, .inl (fun _ => 0)))]) ++ [(q32, .inl (k 0, 24, .inl (fun _ => 0)))]) ++ [(q41, .inl (k 1, 256, .inl (fun _ => 0)))]) ++ [(q50, .inl (k 1, 256, .inl (fun _ => 0)))]) ++ [(q59, .inl (k 0, 6144, .inl (fun _ => 0)))]) ++ [(q67, .inl (k 0, 24, .inl (fun _ => 0)))])) := hD
  obtain ⟨b, hb0, hb1, hb2, hb3, hb4, hb5, hb6, hb7, hb8⟩ : ∃ b : Nat → Nat, b 0 = x ∧ b 1 = q7 ∧ b 2 = q15 ∧ b 3 = q24 ∧ b 4 = q32 ∧ b 5 = q41 ∧ b 6 = q50 ∧ b 7 = q59 ∧ b 8 = q67 := ⟨fun i => match i with | 0 => x | 1 => q7 | 2 => q15 | 3 => q24 | 4 => q32 | 5 => q41 | 6 => q50 | 7 => q59 | _ => q67, rfl, rfl, rfl, rfl, rfl, rfl, rfl, rfl, rfl⟩
  subst hb0
  subst hb1
  subst hb2
  subst hb3
  subst hb4
  subst hb5
  subst hb6
  subst hb7
  subst hb8
  have hP : va_P D vwCl (mdW k b 0 ((fun _ => 0)) ((fun _ => 0)) ((fun _ => 0)) ((fun _ => 0)) ((fun _ => 0)) ((fun _ => 0)) ((fun _ => 0)) ((fun _ => 0))) H := hP
  have hD : va_D A (mdW k b 0 ((fun _ => 0)) ((fun _ => 0)) ((fun _ => 0)) ((fun _ => 0)) ((fun _ => 0)) ((fun _ => 0)) ((fun _ => 0)) ((fun _ => 0))) := hD
  have hP : va_P D vwCl (mdW k b 0 (pfF (fun _ => -1) (fun _ => 0) 0) ((fun _ => 0)) ((fun _ => 0)) ((fun _ => 0)) ((fun _ => 0)) ((fun _ => 0)) ((fun _ => 0)) ((fun _ => 0))) H := by rw [pfF_0]; exact hP
  have hD : va_D A (mdW k b 0 (pfF (fun _ => -1) (fun _ => 0) 0) ((fun _ => 0)) ((fun _ => 0)) ((fun _ => 0)) ((fun _ => 0)) ((fun _ => 0)) ((fun _ => 0)) ((fun _ => 0))) := by rw [pfF_0]; exact hD
  refine lv_iconst (v := nI 0) hx hb d_M_init_72 (by decide) ?_
  refine lv_istore_n (lv' := [(1, .int (nI 0)), (0, .ref (b 0))]) hx hb d_M_init_73 rfl hl (by decide) rfl (fun ls hl => ?_)
  have lp : ∀ (n9 : Nat) (i : Nat) (ls : Array Slot) (H : Heap) (locs : List Loc), 64 - i < n9 → (i ≤ 64) → va_P D vwCl (mdW k b 0 (pfF (fun _ => -1) (fun _ => 0) i) ((fun _ => 0)) ((fun _ => 0)) ((fun _ => 0)) ((fun _ => 0)) ((fun _ => 0)) ((fun _ => 0)) ((fun _ => 0))) H → va_D A (mdW k b 0 (pfF (fun _ => -1) (fun _ => 0) i) ((fun _ => 0)) ((fun _ => 0)) ((fun _ => 0)) ((fun _ => 0)) ((fun _ => 0)) ((fun _ => 0)) ((fun _ => 0))) → va_S A s.heap H locs → lv_has ls 2 [(0, .ref (b 0)), (1, .int (nI i))] → W p l e (rm9 4 8 8368) s m args below meth c H locs 8 8368 Q (F0 m 74 ls []) := by
    intro n9
    induction n9 with
    | zero => intro i ls H locs hm; omega
    | succ n9 ih =>
      intro i ls H locs hm hi hP hD hS hl
      refine lv_iload_n hx hb d_M_init_74 rfl (lv_at hl 1 rfl) ?_
      refine lv_bipush (v := nI 64) hx hb d_M_init_75 (by decide) ?_
      refine lv_icmp_ge (tgt := 93) hx hb d_M_init_77 (by decide) (fun c77 => ?_) (fun c77 => ?_)
      · skip
        rw [nI_leI (by omega) (by omega)] at c77
        obtain rfl : i = 64 := by omega
        have hP : va_P D vwCl (mdW k b 0 (pfF (fun _ => -1) (fun _ => 0) 64) ((fun _ => 0)) ((fun _ => 0)) ((fun _ => 0)) ((fun _ => 0)) ((fun _ => 0)) (pfF (fun _ => -1) (fun _ => 0) 0) ((fun _ => 0))) H := by rw [pfF_0]; exact hP
        have hD : va_D A (mdW k b 0 (pfF (fun _ => -1) (fun _ => 0) 64) ((fun _ => 0)) ((fun _ => 0)) ((fun _ => 0)) ((fun _ => 0)) ((fun _ => 0)) (pfF (fun _ => -1) (fun _ => 0) 0) ((fun _ => 0))) := by rw [pfF_0]; exact hD
        refine lv_iconst (v := nI 0) hx hb d_M_init_93 (by decide) ?_
        refine lv_istore_n (lv' := [(1, .int (nI 0)), (0, .ref (b 0))]) hx hb d_M_init_94 rfl hl (by decide) rfl (fun ls hl => ?_)
        have lp2 : ∀ (n9 : Nat) (i : Nat) (ls : Array Slot) (H : Heap) (locs : List Loc), 24 - i < n9 → (i ≤ 24) → va_P D vwCl (mdW k b 0 (pfF (fun _ => -1) (fun _ => 0) 64) ((fun _ => 0)) ((fun _ => 0)) ((fun _ => 0)) ((fun _ => 0)) ((fun _ => 0)) (pfF (fun _ => -1) (fun _ => 0) i) ((fun _ => 0))) H → va_D A (mdW k b 0 (pfF (fun _ => -1) (fun _ => 0) 64) ((fun _ => 0)) ((fun _ => 0)) ((fun _ => 0)) ((fun _ => 0)) ((fun _ => 0)) (pfF (fun _ => -1) (fun _ => 0) i) ((fun _ => 0))) → va_S A s.heap H locs → lv_has ls 2 [(0, .ref (b 0)), (1, .int (nI i))] → W p l e (rm9 4 8 8368) s m args below meth c H locs 8 8368 Q (F0 m 95 ls []) := by
          intro n9
          induction n9 with
          | zero => intro i ls H locs hm; omega
          | succ n9 ih =>
            intro i ls H locs hm hi hP hD hS hl
            refine lv_iload_n hx hb d_M_init_95 rfl (lv_at hl 1 rfl) ?_
            refine lv_bipush (v := nI 24) hx hb d_M_init_96 (by decide) ?_
            refine lv_icmp_ge (tgt := 114) hx hb d_M_init_98 (by decide) (fun c98 => ?_) (fun c98 => ?_)
            · skip
              rw [nI_leI (by omega) (by omega)] at c98
              obtain rfl : i = 24 := by omega
              refine lv_aload_n hx hb d_M_init_114 rfl (lv_at hl 0 rfl) ?_
              refine va_get (D := D) (ci := ciMo) (v := .ref (b 5)) (C := RM) (T := TM) (N := 9) hx hb hts inM hown hK.1 hP 0 rfl rfl 5 (by decide) (hts _ wd_404) (fun _ h9 => h9) rfl d_M_init_115 ?_
              refine lv_iconst (v := nI 0) hx hb d_M_init_118 (by decide) ?_
              refine lv_iconst (v := nI 1) hx hb d_M_init_119 (by decide) ?_
              refine rw_zast hx hb hK.1 hP hD hS 5 1 rfl rfl (j := 0) bz_1 (by omega) (by decide) d_M_init_120 (wn := mdW k b 0 (pfF (fun _ => -1) (fun _ => 0) 64) ((fun _ => 0)) ((fun _ => 0)) ((fun _ => 0)) (upd ((fun _ => 0)) 0 (nI 1)) ((fun _ => 0)) (pfF (fun _ => -1) (fun _ => 0) 24) ((fun _ => 0))) rfl (fun H locs hP hD hS => ?_)
              exact hret _ _ _ _ _ _ _ d_M_init_121 ⟨b, rfl, rfl⟩ hP hD hS (by decide) (by decide)
            · skip
              rw [nI_leI (by omega) (by omega)] at c98
              refine lv_aload_n hx hb d_M_init_101 rfl (lv_at hl 0 rfl) ?_
              refine va_get (D := D) (ci := ciMo) (v := .ref (b 7)) (C := RM) (T := TM) (N := 9) hx hb hts inM hown hK.1 hP 0 rfl rfl 7 (by decide) (hts _ wd_406) (fun _ h9 => h9) rfl d_M_init_102 ?_
              refine lv_iload_n hx hb d_M_init_105 rfl (lv_at hl 1 rfl) ?_
              refine lv_iconst (v := -1) hx hb d_M_init_106 (by decide) ?_
              refine rw_iast hx hb hK.1 hP hD hS 7 0 rfl rfl (j := i) (by omega) (by decide) d_M_init_107 (wn := mdW k b 0 (pfF (fun _ => -1) (fun _ => 0) 64) ((fun _ => 0)) ((fun _ => 0)) ((fun _ => 0)) ((fun _ => 0)) ((fun _ => 0)) (pfF (fun _ => -1) (fun _ => 0) (i + 1)) ((fun _ => 0))) (by rw [← pfF_s (g := (fun _ => -1)) (dr := (fun _ => 0)) (i := i) (x := -1) rfl]; rfl) (fun H locs hP hD hS => ?_)
              refine lv_iinc (v := nI (i + 1)) (lv' := [(1, .int (nI (i + 1))), (0, .ref (b 0))]) hx hb d_M_init_108 hl (k := 1) rfl (ii_1 _) (by decide) rfl (fun ls hl => ?_)
              refine lv_goto (tgt := 95) hx hb d_M_init_111 (by decide) ?_
              exact ih (i + 1) ls H locs (by omega) (by omega) hP hD hS (lv_sub hl [1, 0] rfl)
        exact lp2 _ (0) ls H locs (Nat.lt_succ_self _) (by decide) hP hD hS (lv_sub hl [1, 0] rfl)
      · skip
        rw [nI_leI (by omega) (by omega)] at c77
        refine lv_aload_n hx hb d_M_init_80 rfl (lv_at hl 0 rfl) ?_
        refine va_get (D := D) (ci := ciMo) (v := .ref (b 1)) (C := RM) (T := TM) (N := 9) hx hb hts inM hown hK.1 hP 0 rfl rfl 1 (by decide) (hts _ wd_400) (fun _ h9 => h9) rfl d_M_init_81 ?_
        refine lv_iload_n hx hb d_M_init_84 rfl (lv_at hl 1 rfl) ?_
        refine lv_iconst (v := -1) hx hb d_M_init_85 (by decide) ?_
        refine rw_iast hx hb hK.1 hP hD hS 1 0 rfl rfl (j := i) (by omega) (by decide) d_M_init_86 (wn := mdW k b 0 (pfF (fun _ => -1) (fun _ => 0) (i + 1)) ((fun _ => 0)) ((fun _ => 0)) ((fun _ => 0)) ((fun _ => 0)) ((fun _ => 0)) ((fun _ => 0)) ((fun _ => 0))) (by rw [← pfF_s (g := (fun _ => -1)) (dr := (fun _ => 0)) (i := i) (x := -1) rfl]; rfl) (fun H locs hP hD hS => ?_)
        refine lv_iinc (v := nI (i + 1)) (lv' := [(1, .int (nI (i + 1))), (0, .ref (b 0))]) hx hb d_M_init_87 hl (k := 1) rfl (ii_1 _) (by decide) rfl (fun ls hl => ?_)
        refine lv_goto (tgt := 74) hx hb d_M_init_90 (by decide) ?_
        exact ih (i + 1) ls H locs (by omega) (by omega) hP hD hS (lv_sub hl [1, 0] rfl)
  exact lp _ (0) ls H locs (Nat.lt_succ_self _) (by decide) hP hD hS (lv_sub hl [1, 0] rfl)
