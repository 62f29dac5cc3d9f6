/-! with, over, lean, size, sweep, count, a new object -/

set_option maxRecDepth 100000 in
set_option maxHeartbeats 4000000 in
theorem c_with (l : Launch) (D : va_G) (k : Nat → ClassId) (a r t : Nat → Nat) (th kd bs us sth mk dr : Nat → Int32) (M sM : Nat → Nat → Int32) (sa : Nat → Nat) (hl9 : l.stackTraces = false) (x y v9 : Int32) (sz : Nat) : bXI l y_S_with (wY y_S_with b_S_with 5 (some .int)) (rm9 8 4 24) Sts sa D (tsK k) (cxW k a r t th kd bs us sth mk dr M sM) sz [.ref (a 0), .int x, .int y, .int v9] (fun v w => ∃ j : Nat, j < 256 ∧ x = nI j ∧ hsB 256 sth (nI j) = true ∧ ∃ p9 : Nat, p9 < 24 ∧ y = nI p9 ∧ nvB (nI p9) v9 = true ∧ cdWi sth x y v9 (fuB sth (pfF (wiG sM j p9 v9) dr 24) sM) = 0 ∧ ((¬ ndF sth (pfF (wiG sM j p9 v9) dr 24) sM = -1 ∧ v = ndF sth (pfF (wiG sM j p9 v9) dr 24) sM ∧ w = cxW k a r t th kd bs us sth mk (pfF (wiG sM j p9 v9) dr 24) M sM) ∨ (ndF sth (pfF (wiG sM j p9 v9) dr 24) sM = -1 ∧ ∃ j9 : Nat, j9 < 256 ∧ frF sth 256 = nI j9 ∧ v = nI j9 ∧ w = cxW k a r t th kd bs us (upd sth j9 (nI 1)) mk (pfF (wiG sM j p9 v9) dr 24) M (va_up sM j9 (pfF (wiG sM j p9 v9) dr 24))))) (fun E w => (((E = "java/util/NoSuchElementException" ∧ ∀ fu, cdWi sth x y v9 fu = 1) ∨ (E = "java/lang/IllegalArgumentException" ∧ ∀ fu, cdWi sth x y v9 fu = 2)) ∧ w = cxW k a r t th kd bs us sth mk dr M sM) ∨ (E = "java/lang/IllegalStateException" ∧ ∃ j : Nat, j < 256 ∧ x = nI j ∧ hsB 256 sth (nI j) = true ∧ ∃ p9 : Nat, p9 < 24 ∧ y = nI p9 ∧ nvB (nI p9) v9 = true ∧ cdWi sth x y v9 (fuB sth (pfF (wiG sM j p9 v9) dr 24) sM) = 3 ∧ w = cxW k a r t th kd bs us sth mk (pfF (wiG sM j p9 v9) dr 24) M sM)) 4 24 := by
  refine ent_xi (cc := b_S_with) (maxL := 5) (ty := .int) (by decide) (Nat.le_of_ble_eq_true rfl) (fun _ _ _ => rfl) ?_
  intro p e s m args below meth c A Q ls hx hb hml hown hts hsz hA hP hD hS hK hl hlk htb hE hQ hret
  refine lv_aload_n hx hb d_S_with_0 rfl (lv_at hl 0 rfl) ?_
  refine lv_iload_n hx hb d_S_with_1 rfl (lv_at hl 1 rfl) ?_
  refine cax_v (wc := cxW k a r t th kd bs us sth mk dr M sM) (wr := []) (vx_runV (As := [.int x]) (rest := []) ⟨hx, hb, hml, hown, hts⟩ (c_requireSet l D k a r t th kd bs us sth mk dr M sM sa hl9 x s.heap.size) (cwV9 1 hts wd_326 wd_323 wd_325 ws_16 wd_1 (by decide) ⟨Nat.le_of_ble_eq_true rfl, Nat.le_of_ble_eq_true rfl⟩) (prVx (q0 := 0) (ci := ciSS) hE hS hA hK hP hD (pm_nil' _) rfl rfl) rfl rfl hl.1 rfl (lv_room (Nat.le_of_ble_eq_true rfl)) d_S_with_2 ⟨by decide, by decide⟩) (pm_nil' _) hP hD hS hA (fun E9 ce9 ad9 w1 H locs hpx hpd hS hce hcv hcl => ?_) (fun w1 H locs hw hpd hS => ?_)
  · skip
    obtain ⟨rfl, h9, rfl⟩ := hpx
    obtain ⟨hP, hD⟩ := hpd (cxW k a r t th kd bs us sth mk dr M sM) (pm_nil _)
    exact ps_x hQ hlk htb (Or.inl ⟨Or.inl ⟨rfl, by intro fu; simp [cdWi, h9]⟩, rfl⟩) hP hD hS hce hcv hcl (by decide) (by decide)
  obtain ⟨rfl, hq⟩ := hw
  obtain ⟨hP, hD⟩ := hpd (cxW k a r t th kd bs us sth mk dr M sM) (pm_nil _)
  refine W.widen (k := 1) (n := 6) (by decide) (by decide) ?_
  obtain ⟨j, hj, rfl, hqt⟩ := hsB_t (by decide) hq
  refine lv_iload_n hx hb d_S_with_5 rfl (lv_at hl 2 rfl) ?_
  refine cax_v (wc := []) (wr := cxW k a r t th kd bs us sth mk dr M sM) (vx_runS (As := [.int y]) (rest := []) ⟨hx, hb, hml, hown, hts⟩ (c_requireProperty l D k sa hl9 y H.size) (cwS9 1 hts wd_262 wd_260 wd_261 wd_1 (by decide) ⟨Nat.le_of_ble_eq_true rfl, Nat.le_of_ble_eq_true rfl⟩) (prSx hE hS hA hK hP hD (List.Perm.refl _)) rfl rfl hl.1 rfl (lv_room (Nat.le_of_ble_eq_true rfl)) d_S_with_6 ⟨by decide, by decide⟩) (List.Perm.refl _) hP hD hS hA (fun E9 ce9 ad9 w1 H locs hpx hpd hS hce hcv hcl => ?_) (fun w1 H locs hw hpd hS => ?_)
  · skip
    obtain ⟨rfl, h9, rfl⟩ := hpx
    obtain ⟨hP, hD⟩ := hpd (cxW k a r t th kd bs us sth mk dr M sM) (List.Perm.refl _)
    exact ps_x hQ hlk htb (Or.inl ⟨Or.inr (⟨rfl, by intro fu; simp [cdWi, hq, h9]⟩), rfl⟩) hP hD hS hce hcv hcl (by decide) (by decide)
  obtain ⟨rfl, hp⟩ := hw
  obtain ⟨hP, hD⟩ := hpd (cxW k a r t th kd bs us sth mk dr M sM) (List.Perm.refl _)
  refine W.widen (k := 2) (n := 12) (by decide) (by decide) ?_
  refine lv_iload_n hx hb d_S_with_9 rfl (lv_at hl 2 rfl) ?_
  refine lv_iload_n hx hb d_S_with_10 rfl (lv_at hl 3 rfl) ?_
  refine cax_v (wc := []) (wr := cxW k a r t th kd bs us sth mk dr M sM) (vx_runS (As := [.int y, .int v9]) (rest := []) ⟨hx, hb, hml, hown, hts⟩ (c_requireNoneOrValue l D k sa hl9 y v9 H.size) (cwS9 2 hts wd_266 wd_264 wd_265 wd_1 (by decide) ⟨Nat.le_of_ble_eq_true rfl, Nat.le_of_ble_eq_true rfl⟩) (prSx hE hS hA hK hP hD (List.Perm.refl _)) rfl rfl hl.1 rfl (lv_room (Nat.le_of_ble_eq_true rfl)) d_S_with_11 ⟨by decide, by decide⟩) (List.Perm.refl _) hP hD hS hA (fun E9 ce9 ad9 w1 H locs hpx hpd hS hce hcv hcl => ?_) (fun w1 H locs hw hpd hS => ?_)
  · skip
    obtain ⟨rfl, h9, rfl⟩ := hpx
    obtain ⟨hP, hD⟩ := hpd (cxW k a r t th kd bs us sth mk dr M sM) (List.Perm.refl _)
    exact ps_x hQ hlk htb (Or.inl ⟨Or.inr (⟨rfl, by intro fu; simp [cdWi, hq, hp, h9]⟩), rfl⟩) hP hD hS hce hcv hcl (by decide) (by decide)
  obtain ⟨rfl, hv⟩ := hw
  obtain ⟨hP, hD⟩ := hpd (cxW k a r t th kd bs us sth mk dr M sM) (List.Perm.refl _)
  refine W.widen (k := 3) (n := 18) (by decide) (by decide) ?_
  obtain ⟨p9, hp9, rfl⟩ := prB_t hp
  rw [← pfF_0 (wiG sM j p9 v9) dr] at hP hD
  refine lv_iconst (v := nI 0) hx hb d_S_with_14 (by decide) ?_
  refine lv_istore (lv' := [(4, .int (nI 0)), (0, .ref (a 0)), (1, .int (nI j)), (2, .int (nI p9)), (3, .int v9)]) hx hb d_S_with_15 hl (by decide) rfl (fun ls hl => ?_)
  have lp : ∀ (n9 : Nat) (i : Nat) (ls : Array Slot) (H : Heap) (locs : List Loc), 24 - i < n9 → (i ≤ 24) → va_P D vwCl (cxW k a r t th kd bs us sth mk (pfF (wiG sM j p9 v9) dr i) M sM) H → va_D A (cxW k a r t th kd bs us sth mk (pfF (wiG sM j p9 v9) dr i) M sM) → va_S A s.heap H locs → lv_has ls 5 [(0, .ref (a 0)), (1, .int (nI j)), (2, .int (nI p9)), (3, .int v9), (4, .int (nI i))] → W p l e (rm9 8 4 24) s m args below meth c H locs 3 18 Q (F0 m 17 ls []) := by
    intro n9
    induction n9 with
    | zero => intro i ls H locs hm; omega
    | succ n9 ih =>
      intro i ls H locs hm hi hP hD hS hl
      refine lv_iload hx hb d_S_with_17 (lv_at hl 4 rfl) ?_
      refine lv_bipush (v := nI 24) hx hb d_S_with_19 (by decide) ?_
      refine lv_icmp_ge (tgt := 59) hx hb d_S_with_21 (by decide) (fun c21 => ?_) (fun c21 => ?_)
      · skip
        rw [nI_leI (by omega) (by omega)] at c21
        obtain rfl : i = 24 := by omega
        refine lv_aload_n hx hb d_S_with_59 rfl (lv_at hl 0 rfl) ?_
        refine cax_i (wc := cxW k a r t th kd bs us sth mk (pfF (wiG sM j p9 v9) dr 24) M sM) (wr := []) (vx_runV (As := []) (rest := []) ⟨hx, hb, hml, hown, hts⟩ (c_numberOfDraft l D k a r t th kd bs us sth mk (pfF (wiG sM j p9 v9) dr 24) M sM sa hl9 H.size) (cwV9 0 hts wd_331 wd_328 wd_330 ws_17 wd_1 (by decide) ⟨Nat.le_of_ble_eq_true rfl, Nat.le_of_ble_eq_true rfl⟩) (prVx (q0 := 0) (ci := ciSS) hE hS hA hK hP hD (pm_nil' _) rfl rfl) rfl rfl hl.1 rfl (lv_room (Nat.le_of_ble_eq_true rfl)) d_S_with_60 ⟨by decide, by decide⟩) (pm_nil' _) hP hD hS hA (fun E9 ce9 ad9 w1 H locs hpx hpd hS hce hcv hcl => ?_) (fun r w1 H locs hw hpd hS => ?_)
        · skip
          obtain ⟨rfl, h9, h8, rfl⟩ := hpx
          obtain ⟨hP, hD⟩ := hpd (cxW k a r t th kd bs us sth mk (pfF (wiG sM j p9 v9) dr 24) M sM) (pm_nil _)
          exact ps_x hQ hlk htb (Or.inr ⟨rfl, j, hj, rfl, hq, p9, hp9, rfl, hv, by simp [cdWi, hq, hp, hv, fuB, h9, h8], rfl⟩) hP hD hS hce hcv hcl (by decide) (by decide)
        · skip
          rcases hw with ⟨h7, rfl, rfl⟩ | ⟨h7, j9, hj9, h8, rfl, rfl⟩
          · obtain ⟨hP, hD⟩ := hpd (cxW k a r t th kd bs us sth mk (pfF (wiG sM j p9 v9) dr 24) M sM) (pm_nil _)
            exact hret _ _ _ _ _ _ _ _ d_S_with_63 ⟨j, hj, rfl, hq, p9, hp9, rfl, hv, by simp [cdWi, hq, hp, hv, fuB, h7], Or.inl ⟨h7, rfl, rfl⟩⟩ hP hD hS (by decide) (by decide)
          · obtain ⟨hP, hD⟩ := hpd (cxW k a r t th kd bs us (upd sth j9 (nI 1)) mk (pfF (wiG sM j p9 v9) dr 24) M (va_up sM j9 (pfF (wiG sM j p9 v9) dr 24))) (pm_nil _)
            exact hret _ _ _ _ _ _ _ _ d_S_with_63 ⟨j, hj, rfl, hq, p9, hp9, rfl, hv, by simp [cdWi, hq, hp, hv, fuB, h7, h8, ne_m1 (show j9 < 2 ^ 31 by omega)], Or.inr ⟨h7, j9, hj9, h8, rfl, rfl⟩⟩ hP hD hS (by decide) (by decide)
      · skip
        rw [nI_leI (by omega) (by omega)] at c21
        refine lv_aload_n hx hb d_S_with_24 rfl (lv_at hl 0 rfl) ?_
        refine va_get (D := D) (ci := ciSS) (v := .ref (a 7)) (C := RS) (T := TS) (N := 7) hx hb hts inS hown hK.1 hP 0 rfl rfl 6 (by decide) (hts _ wd_52) (fun _ h9 => h9) rfl d_S_with_25 ?_
        refine lv_iload hx hb d_S_with_28 (lv_at hl 4 rfl) ?_
        refine lv_iload hx hb d_S_with_30 (lv_at hl 4 rfl) ?_
        refine lv_iload_n hx hb d_S_with_32 rfl (lv_at hl 2 rfl) ?_
        refine lv_icmp_ne (tgt := 40) hx hb d_S_with_33 (by decide) (fun c33 => ?_) (fun c33 => ?_)
        · skip
          rw [nI_eq (by omega) (by omega)] at c33
          refine lv_aload_n hx hb d_S_with_40 rfl (lv_at hl 0 rfl) ?_
          refine va_get (D := D) (ci := ciSS) (v := .ref (a 5)) (C := RS) (T := TS) (N := 7) hx hb hts inS hown hK.1 hP 0 rfl rfl 4 (by decide) (hts _ wd_50) (fun _ h9 => h9) rfl d_S_with_41 ?_
          refine va_getN (D := D) (ci := ciTb) (v := .ref (a 11)) (C := RT) (T := TT) (N := 2) hx hb hts inT hown hK.1 hP 5 rfl rfl 1 (by decide) (va_Nw.use rfl (hK.2.1 (.fieldLinkNest "StyleSheet" 81 "StyleSheet$Table" "values" "[[I" "StyleSheet") (by decide))) (fun _ h9 => h9) rfl d_S_with_44 ?_
          refine lv_iload_n hx hb d_S_with_47 rfl (lv_at hl 1 rfl) ?_
          refine rw_aald hx hb hK.1 hP 11 2 rfl rfl (j := j) (y := t j) (by omega) (by decide) (gOut_at (by omega)) d_S_with_48 ?_
          refine lv_iload hx hb d_S_with_49 (lv_at hl 4 rfl) ?_
          refine rw_iald hx hb hK.1 hP (76 + j) 0 (cx_rowT (by omega)) rfl (j := i) (by omega) (by decide) d_S_with_51 ?_
          refine rw_iast hx hb hK.1 hP hD hS 7 0 rfl rfl (j := i) (by omega) (by decide) d_S_with_52 (wn := cxW k a r t th kd bs us sth mk (pfF (wiG sM j p9 v9) dr (i + 1)) M sM) (by rw [← pfF_s (g := wiG sM j p9 v9) (dr := dr) (i := i) (x := (sM j) i) (by simp [wiG, c33])]; rfl) (fun H locs hP hD hS => ?_)
          refine lv_iinc (v := nI (i + 1)) (lv' := [(4, .int (nI (i + 1))), (0, .ref (a 0)), (1, .int (nI j)), (2, .int (nI p9)), (3, .int v9)]) hx hb d_S_with_53 hl (k := 4) rfl (ii_1 _) (by decide) rfl (fun ls hl => ?_)
          refine lv_goto (tgt := 17) hx hb d_S_with_56 (by decide) ?_
          exact ih (i + 1) ls H locs (by omega) (by omega) hP hD hS (lv_sub hl [1, 2, 3, 4, 0] rfl)
        · skip
          rw [nI_eq (by omega) (by omega)] at c33
          refine lv_iload_n hx hb d_S_with_36 rfl (lv_at hl 3 rfl) ?_
          refine lv_goto (tgt := 52) hx hb d_S_with_37 (by decide) ?_
          refine rw_iast hx hb hK.1 hP hD hS 7 0 rfl rfl (j := i) (by omega) (by decide) d_S_with_52 (wn := cxW k a r t th kd bs us sth mk (pfF (wiG sM j p9 v9) dr (i + 1)) M sM) (by rw [← pfF_s (g := wiG sM j p9 v9) (dr := dr) (i := i) (x := v9) (by simp [wiG, c33])]; rfl) (fun H locs hP hD hS => ?_)
          refine lv_iinc (v := nI (i + 1)) (lv' := [(4, .int (nI (i + 1))), (0, .ref (a 0)), (1, .int (nI j)), (2, .int (nI p9)), (3, .int v9)]) hx hb d_S_with_53 hl (k := 4) rfl (ii_1 _) (by decide) rfl (fun ls hl => ?_)
          refine lv_goto (tgt := 17) hx hb d_S_with_56 (by decide) ?_
          exact ih (i + 1) ls H locs (by omega) (by omega) hP hD hS (lv_sub hl [1, 2, 3, 4, 0] rfl)
  exact lp _ (0) ls H locs (Nat.lt_succ_self _) (by decide) hP hD hS (lv_sub hl [1, 2, 3, 4, 0] rfl)

set_option maxRecDepth 100000 in
set_option maxHeartbeats 4000000 in
theorem c_over (l : Launch) (D : va_G) (k : Nat → ClassId) (a r t : Nat → Nat) (th kd bs us sth mk dr : Nat → Int32) (M sM : Nat → Nat → Int32) (sa : Nat → Nat) (hl9 : l.stackTraces = false) (x y : Int32) (sz : Nat) : bXI l y_S_over (wY y_S_over b_S_over 5 (some .int)) (rm9 8 3 18) Sts sa D (tsK k) (cxW k a r t th kd bs us sth mk dr M sM) sz [.ref (a 0), .int x, .int y] (fun v w => ∃ j : Nat, j < 256 ∧ x = nI j ∧ hsB 256 sth (nI j) = true ∧ ∃ j2 : Nat, j2 < 256 ∧ y = nI j2 ∧ hsB 256 sth (nI j2) = true ∧ cdOv sth x y (fuB sth (pfF (ovG sM j j2) dr 24) sM) = 0 ∧ ((¬ ndF sth (pfF (ovG sM j j2) dr 24) sM = -1 ∧ v = ndF sth (pfF (ovG sM j j2) dr 24) sM ∧ w = cxW k a r t th kd bs us sth mk (pfF (ovG sM j j2) dr 24) M sM) ∨ (ndF sth (pfF (ovG sM j j2) dr 24) sM = -1 ∧ ∃ j9 : Nat, j9 < 256 ∧ frF sth 256 = nI j9 ∧ v = nI j9 ∧ w = cxW k a r t th kd bs us (upd sth j9 (nI 1)) mk (pfF (ovG sM j j2) dr 24) M (va_up sM j9 (pfF (ovG sM j j2) dr 24))))) (fun E w => (((E = "java/util/NoSuchElementException" ∧ ∀ fu, cdOv sth x y fu = 1)) ∧ w = cxW k a r t th kd bs us sth mk dr M sM) ∨ (E = "java/lang/IllegalStateException" ∧ ∃ j : Nat, j < 256 ∧ x = nI j ∧ hsB 256 sth (nI j) = true ∧ ∃ j2 : Nat, j2 < 256 ∧ y = nI j2 ∧ hsB 256 sth (nI j2) = true ∧ cdOv sth x y (fuB sth (pfF (ovG sM j j2) dr 24) sM) = 2 ∧ w = cxW k a r t th kd bs us sth mk (pfF (ovG sM j j2) dr 24) M sM)) 3 18 := by
  refine ent_xi (cc := b_S_over) (maxL := 5) (ty := .int) (by decide) (Nat.le_of_ble_eq_true rfl) (fun _ _ _ => rfl) ?_
  intro p e s m args below meth c A Q ls hx hb hml hown hts hsz hA hP hD hS hK hl hlk htb hE hQ hret
  refine lv_aload_n hx hb d_S_over_0 rfl (lv_at hl 0 rfl) ?_
  refine lv_iload_n hx hb d_S_over_1 rfl (lv_at hl 1 rfl) ?_
  refine cax_v (wc := cxW k a r t th kd bs us sth mk dr M sM) (wr := []) (vx_runV (As := [.int x]) (rest := []) ⟨hx, hb, hml, hown, hts⟩ (c_requireSet l D k a r t th kd bs us sth mk dr M sM sa hl9 x s.heap.size) (cwV9 1 hts wd_326 wd_323 wd_325 ws_16 wd_1 (by decide) ⟨Nat.le_of_ble_eq_true rfl, Nat.le_of_ble_eq_true rfl⟩) (prVx (q0 := 0) (ci := ciSS) hE hS hA hK hP hD (pm_nil' _) rfl rfl) rfl rfl hl.1 rfl (lv_room (Nat.le_of_ble_eq_true rfl)) d_S_over_2 ⟨by decide, by decide⟩) (pm_nil' _) hP hD hS hA (fun E9 ce9 ad9 w1 H locs hpx hpd hS hce hcv hcl => ?_) (fun w1 H locs hw hpd hS => ?_)
  · skip
    obtain ⟨rfl, h9, rfl⟩ := hpx
    obtain ⟨hP, hD⟩ := hpd (cxW k a r t th kd bs us sth mk dr M sM) (pm_nil _)
    exact ps_x hQ hlk htb (Or.inl ⟨⟨rfl, by intro fu; simp [cdOv, h9]⟩, rfl⟩) hP hD hS hce hcv hcl (by decide) (by decide)
  obtain ⟨rfl, hq⟩ := hw
  obtain ⟨hP, hD⟩ := hpd (cxW k a r t th kd bs us sth mk dr M sM) (pm_nil _)
  refine W.widen (k := 1) (n := 6) (by decide) (by decide) ?_
  obtain ⟨j, hj, rfl, hqt⟩ := hsB_t (by decide) hq
  refine lv_aload_n hx hb d_S_over_5 rfl (lv_at hl 0 rfl) ?_
  refine lv_iload_n hx hb d_S_over_6 rfl (lv_at hl 2 rfl) ?_
  refine cax_v (wc := cxW k a r t th kd bs us sth mk dr M sM) (wr := []) (vx_runV (As := [.int y]) (rest := []) ⟨hx, hb, hml, hown, hts⟩ (c_requireSet l D k a r t th kd bs us sth mk dr M sM sa hl9 y H.size) (cwV9 1 hts wd_326 wd_323 wd_325 ws_16 wd_1 (by decide) ⟨Nat.le_of_ble_eq_true rfl, Nat.le_of_ble_eq_true rfl⟩) (prVx (q0 := 0) (ci := ciSS) hE hS hA hK hP hD (pm_nil' _) rfl rfl) rfl rfl hl.1 rfl (lv_room (Nat.le_of_ble_eq_true rfl)) d_S_over_7 ⟨by decide, by decide⟩) (pm_nil' _) hP hD hS hA (fun E9 ce9 ad9 w1 H locs hpx hpd hS hce hcv hcl => ?_) (fun w1 H locs hw hpd hS => ?_)
  · skip
    obtain ⟨rfl, h9, rfl⟩ := hpx
    obtain ⟨hP, hD⟩ := hpd (cxW k a r t th kd bs us sth mk dr M sM) (pm_nil _)
    exact ps_x hQ hlk htb (Or.inl ⟨⟨rfl, by intro fu; simp [cdOv, hq, h9]⟩, rfl⟩) hP hD hS hce hcv hcl (by decide) (by decide)
  obtain ⟨rfl, hq2⟩ := hw
  obtain ⟨hP, hD⟩ := hpd (cxW k a r t th kd bs us sth mk dr M sM) (pm_nil _)
  refine W.widen (k := 2) (n := 12) (by decide) (by decide) ?_
  obtain ⟨j2, hj2, rfl, hq2t⟩ := hsB_t (by decide) hq2
  rw [← pfF_0 (ovG sM j j2) dr] at hP hD
  refine lv_iconst (v := nI 0) hx hb d_S_over_10 (by decide) ?_
  refine lv_istore_n (lv' := [(3, .int (nI 0)), (0, .ref (a 0)), (1, .int (nI j)), (2, .int (nI j2))]) hx hb d_S_over_11 rfl hl (by decide) rfl (fun ls hl => ?_)
  have lp : ∀ (n9 : Nat) (i : Nat) (ls : Array Slot) (H : Heap) (locs : List Loc), 24 - i < n9 → (i ≤ 24) → va_P D vwCl (cxW k a r t th kd bs us sth mk (pfF (ovG sM j j2) dr i) M sM) H → va_D A (cxW k a r t th kd bs us sth mk (pfF (ovG sM j j2) dr i) M sM) → va_S A s.heap H locs → lv_has ls 5 [(0, .ref (a 0)), (1, .int (nI j)), (2, .int (nI j2)), (3, .int (nI i))] → W p l e (rm9 8 3 18) s m args below meth c H locs 2 12 Q (F0 m 12 ls []) := by
    intro n9
    induction n9 with
    | zero => intro i ls H locs hm; omega
    | succ n9 ih =>
      intro i ls H locs hm hi hP hD hS hl
      refine lv_iload_n hx hb d_S_over_12 rfl (lv_at hl 3 rfl) ?_
      refine lv_bipush (v := nI 24) hx hb d_S_over_13 (by decide) ?_
      refine lv_icmp_ge (tgt := 65) hx hb d_S_over_15 (by decide) (fun c15 => ?_) (fun c15 => ?_)
      · skip
        rw [nI_leI (by omega) (by omega)] at c15
        obtain rfl : i = 24 := by omega
        refine lv_aload_n hx hb d_S_over_65 rfl (lv_at hl 0 rfl) ?_
        refine cax_i (wc := cxW k a r t th kd bs us sth mk (pfF (ovG sM j j2) dr 24) M sM) (wr := []) (vx_runV (As := []) (rest := []) ⟨hx, hb, hml, hown, hts⟩ (c_numberOfDraft l D k a r t th kd bs us sth mk (pfF (ovG sM j j2) dr 24) M sM sa hl9 H.size) (cwV9 0 hts wd_331 wd_328 wd_330 ws_17 wd_1 (by decide) ⟨Nat.le_of_ble_eq_true rfl, Nat.le_of_ble_eq_true rfl⟩) (prVx (q0 := 0) (ci := ciSS) hE hS hA hK hP hD (pm_nil' _) rfl rfl) rfl rfl hl.1 rfl (lv_room (Nat.le_of_ble_eq_true rfl)) d_S_over_66 ⟨by decide, by decide⟩) (pm_nil' _) hP hD hS hA (fun E9 ce9 ad9 w1 H locs hpx hpd hS hce hcv hcl => ?_) (fun r w1 H locs hw hpd hS => ?_)
        · skip
          obtain ⟨rfl, h9, h8, rfl⟩ := hpx
          obtain ⟨hP, hD⟩ := hpd (cxW k a r t th kd bs us sth mk (pfF (ovG sM j j2) dr 24) M sM) (pm_nil _)
          exact ps_x hQ hlk htb (Or.inr ⟨rfl, j, hj, rfl, hq, j2, hj2, rfl, hq2, by simp [cdOv, hq, hq2, fuB, h9, h8], rfl⟩) hP hD hS hce hcv hcl (by decide) (by decide)
        · skip
          rcases hw with ⟨h7, rfl, rfl⟩ | ⟨h7, j9, hj9, h8, rfl, rfl⟩
          · obtain ⟨hP, hD⟩ := hpd (cxW k a r t th kd bs us sth mk (pfF (ovG sM j j2) dr 24) M sM) (pm_nil _)
            exact hret _ _ _ _ _ _ _ _ d_S_over_69 ⟨j, hj, rfl, hq, j2, hj2, rfl, hq2, by simp [cdOv, hq, hq2, fuB, h7], Or.inl ⟨h7, rfl, rfl⟩⟩ hP hD hS (by decide) (by decide)
          · obtain ⟨hP, hD⟩ := hpd (cxW k a r t th kd bs us (upd sth j9 (nI 1)) mk (pfF (ovG sM j j2) dr 24) M (va_up sM j9 (pfF (ovG sM j j2) dr 24))) (pm_nil _)
            exact hret _ _ _ _ _ _ _ _ d_S_over_69 ⟨j, hj, rfl, hq, j2, hj2, rfl, hq2, by simp [cdOv, hq, hq2, fuB, h7, h8, ne_m1 (show j9 < 2 ^ 31 by omega)], Or.inr ⟨h7, j9, hj9, h8, rfl, rfl⟩⟩ hP hD hS (by decide) (by decide)
      · skip
        rw [nI_leI (by omega) (by omega)] at c15
        refine lv_aload_n hx hb d_S_over_18 rfl (lv_at hl 0 rfl) ?_
        refine va_get (D := D) (ci := ciSS) (v := .ref (a 5)) (C := RS) (T := TS) (N := 7) hx hb hts inS hown hK.1 hP 0 rfl rfl 4 (by decide) (hts _ wd_50) (fun _ h9 => h9) rfl d_S_over_19 ?_
        refine va_getN (D := D) (ci := ciTb) (v := .ref (a 11)) (C := RT) (T := TT) (N := 2) hx hb hts inT hown hK.1 hP 5 rfl rfl 1 (by decide) (va_Nw.use rfl (hK.2.1 (.fieldLinkNest "StyleSheet" 81 "StyleSheet$Table" "values" "[[I" "StyleSheet") (by decide))) (fun _ h9 => h9) rfl d_S_over_22 ?_
        refine lv_iload_n hx hb d_S_over_25 rfl (lv_at hl 2 rfl) ?_
        refine rw_aald hx hb hK.1 hP 11 2 rfl rfl (j := j2) (y := t j2) (by omega) (by decide) (gOut_at (by omega)) d_S_over_26 ?_
        refine lv_iload_n hx hb d_S_over_27 rfl (lv_at hl 3 rfl) ?_
        refine rw_iald hx hb hK.1 hP (76 + j2) 0 (cx_rowT (by omega)) rfl (j := i) (by omega) (by decide) d_S_over_28 ?_
        refine lv_istore (lv' := [(4, .int ((sM j2) i)), (0, .ref (a 0)), (1, .int (nI j)), (2, .int (nI j2)), (3, .int (nI i))]) hx hb d_S_over_29 hl (by decide) rfl (fun ls hl => ?_)
        refine lv_aload_n hx hb d_S_over_31 rfl (lv_at hl 1 rfl) ?_
        refine va_get (D := D) (ci := ciSS) (v := .ref (a 7)) (C := RS) (T := TS) (N := 7) hx hb hts inS hown hK.1 hP 0 rfl rfl 6 (by decide) (hts _ wd_52) (fun _ h9 => h9) rfl d_S_over_32 ?_
        refine lv_iload_n hx hb d_S_over_35 rfl (lv_at hl 4 rfl) ?_
        refine lv_iload hx hb d_S_over_36 (lv_at hl 0 rfl) ?_
        refine lv_iconst (v := -1) hx hb d_S_over_38 (by decide) ?_
        refine lv_icmp_eq (tgt := 47) hx hb d_S_over_39 (by decide) (fun c39 => ?_) (fun c39 => ?_)
        · skip
          refine lv_aload_n hx hb d_S_over_47 rfl (lv_at hl 1 rfl) ?_
          refine va_get (D := D) (ci := ciSS) (v := .ref (a 5)) (C := RS) (T := TS) (N := 7) hx hb hts inS hown hK.1 hP 0 rfl rfl 4 (by decide) (hts _ wd_50) (fun _ h9 => h9) rfl d_S_over_48 ?_
          refine va_getN (D := D) (ci := ciTb) (v := .ref (a 11)) (C := RT) (T := TT) (N := 2) hx hb hts inT hown hK.1 hP 5 rfl rfl 1 (by decide) (va_Nw.use rfl (hK.2.1 (.fieldLinkNest "StyleSheet" 81 "StyleSheet$Table" "values" "[[I" "StyleSheet") (by decide))) (fun _ h9 => h9) rfl d_S_over_51 ?_
          refine lv_iload_n hx hb d_S_over_54 rfl (lv_at hl 2 rfl) ?_
          refine rw_aald hx hb hK.1 hP 11 2 rfl rfl (j := j) (y := t j) (by omega) (by decide) (gOut_at (by omega)) d_S_over_55 ?_
          refine lv_iload_n hx hb d_S_over_56 rfl (lv_at hl 4 rfl) ?_
          refine rw_iald hx hb hK.1 hP (76 + j) 0 (cx_rowT (by omega)) rfl (j := i) (by omega) (by decide) d_S_over_57 ?_
          refine rw_iast hx hb hK.1 hP hD hS 7 0 rfl rfl (j := i) (by omega) (by decide) d_S_over_58 (wn := cxW k a r t th kd bs us sth mk (pfF (ovG sM j j2) dr (i + 1)) M sM) (by rw [← pfF_s (g := ovG sM j j2) (dr := dr) (i := i) (x := (sM j) i) (by simp [ovG, c39])]; rfl) (fun H locs hP hD hS => ?_)
          refine lv_iinc (v := nI (i + 1)) (lv' := [(3, .int (nI (i + 1))), (4, .int ((sM j2) i)), (0, .ref (a 0)), (1, .int (nI j)), (2, .int (nI j2))]) hx hb d_S_over_59 hl (k := 4) rfl (ii_1 _) (by decide) rfl (fun ls hl => ?_)
          refine lv_goto (tgt := 12) hx hb d_S_over_62 (by decide) ?_
          exact ih (i + 1) ls H locs (by omega) (by omega) hP hD hS (lv_sub hl [2, 3, 4, 0] rfl)
        · skip
          refine lv_iload hx hb d_S_over_42 (lv_at hl 0 rfl) ?_
          refine lv_goto (tgt := 58) hx hb d_S_over_44 (by decide) ?_
          refine rw_iast hx hb hK.1 hP hD hS 7 0 rfl rfl (j := i) (by omega) (by decide) d_S_over_58 (wn := cxW k a r t th kd bs us sth mk (pfF (ovG sM j j2) dr (i + 1)) M sM) (by rw [← pfF_s (g := ovG sM j j2) (dr := dr) (i := i) (x := (sM j2) i) (by simp [ovG, c39])]; rfl) (fun H locs hP hD hS => ?_)
          refine lv_iinc (v := nI (i + 1)) (lv' := [(3, .int (nI (i + 1))), (4, .int ((sM j2) i)), (0, .ref (a 0)), (1, .int (nI j)), (2, .int (nI j2))]) hx hb d_S_over_59 hl (k := 4) rfl (ii_1 _) (by decide) rfl (fun ls hl => ?_)
          refine lv_goto (tgt := 12) hx hb d_S_over_62 (by decide) ?_
          exact ih (i + 1) ls H locs (by omega) (by omega) hP hD hS (lv_sub hl [2, 3, 4, 0] rfl)
  exact lp _ (0) ls H locs (Nat.lt_succ_self _) (by decide) hP hD hS (lv_sub hl [1, 2, 3, 0] rfl)

set_option maxRecDepth 100000 in
set_option maxHeartbeats 4000000 in
theorem c_lean (l : Launch) (D : va_G) (k : Nat → ClassId) (a r t : Nat → Nat) (th kd bs us sth mk dr : Nat → Int32) (M sM : Nat → Nat → Int32) (sa : Nat → Nat) (hl9 : l.stackTraces = false) (x c9 q9 : Int32) (sz : Nat) : bXI l y_S_lean (wY y_S_lean b_S_lean 6 (some .int)) (rm9 8 4 24) Sts sa D (tsK k) (cxW k a r t th kd bs us sth mk dr M sM) sz [.ref (a 0), .int x, .int c9, .int q9] (fun v w => ∃ j : Nat, j < 256 ∧ x = nI j ∧ hsB 256 sth (nI j) = true ∧ okB th kd c9 (nI 0) = true ∧ okB th kd q9 (nI 1) = true ∧ cdLe th kd sth x c9 q9 (fuB sth (pfF (leG th bs us M sM j c9 q9) dr 24) sM) = 0 ∧ ((¬ ndF sth (pfF (leG th bs us M sM j c9 q9) dr 24) sM = -1 ∧ v = ndF sth (pfF (leG th bs us M sM j c9 q9) dr 24) sM ∧ w = cxW k a r t th kd bs us sth mk (pfF (leG th bs us M sM j c9 q9) dr 24) M sM) ∨ (ndF sth (pfF (leG th bs us M sM j c9 q9) dr 24) sM = -1 ∧ ∃ j9 : Nat, j9 < 256 ∧ frF sth 256 = nI j9 ∧ v = nI j9 ∧ w = cxW k a r t th kd bs us (upd sth j9 (nI 1)) mk (pfF (leG th bs us M sM j c9 q9) dr 24) M (va_up sM j9 (pfF (leG th bs us M sM j c9 q9) dr 24))))) (fun E w => (((E = "java/util/NoSuchElementException" ∧ ∀ fu, cdLe th kd sth x c9 q9 fu = 1) ∨ (E = "java/lang/IllegalArgumentException" ∧ ∀ fu, cdLe th kd sth x c9 q9 fu = 2)) ∧ w = cxW k a r t th kd bs us sth mk dr M sM) ∨ (E = "java/lang/IllegalStateException" ∧ ∃ j : Nat, j < 256 ∧ x = nI j ∧ hsB 256 sth (nI j) = true ∧ okB th kd c9 (nI 0) = true ∧ okB th kd q9 (nI 1) = true ∧ cdLe th kd sth x c9 q9 (fuB sth (pfF (leG th bs us M sM j c9 q9) dr 24) sM) = 3 ∧ w = cxW k a r t th kd bs us sth mk (pfF (leG th bs us M sM j c9 q9) dr 24) M sM)) 4 24 := by
  refine ent_xi (cc := b_S_lean) (maxL := 6) (ty := .int) (by decide) (Nat.le_of_ble_eq_true rfl) (fun _ _ _ => rfl) ?_
  intro p e s m args below meth c A Q ls hx hb hml hown hts hsz hA hP hD hS hK hl hlk htb hE hQ hret
  refine lv_aload_n hx hb d_S_lean_0 rfl (lv_at hl 0 rfl) ?_
  refine lv_iload_n hx hb d_S_lean_1 rfl (lv_at hl 1 rfl) ?_
  refine cax_v (wc := cxW k a r t th kd bs us sth mk dr M sM) (wr := []) (vx_runV (As := [.int x]) (rest := []) ⟨hx, hb, hml, hown, hts⟩ (c_requireSet l D k a r t th kd bs us sth mk dr M sM sa hl9 x s.heap.size) (cwV9 1 hts wd_326 wd_323 wd_325 ws_16 wd_1 (by decide) ⟨Nat.le_of_ble_eq_true rfl, Nat.le_of_ble_eq_true rfl⟩) (prVx (q0 := 0) (ci := ciSS) hE hS hA hK hP hD (pm_nil' _) rfl rfl) rfl rfl hl.1 rfl (lv_room (Nat.le_of_ble_eq_true rfl)) d_S_lean_2 ⟨by decide, by decide⟩) (pm_nil' _) hP hD hS hA (fun E9 ce9 ad9 w1 H locs hpx hpd hS hce hcv hcl => ?_) (fun w1 H locs hw hpd hS => ?_)
  · skip
    obtain ⟨rfl, h9, rfl⟩ := hpx
    obtain ⟨hP, hD⟩ := hpd (cxW k a r t th kd bs us sth mk dr M sM) (pm_nil _)
    exact ps_x hQ hlk htb (Or.inl ⟨Or.inl ⟨rfl, by intro fu; simp [cdLe, h9]⟩, rfl⟩) hP hD hS hce hcv hcl (by decide) (by decide)
  obtain ⟨rfl, hq⟩ := hw
  obtain ⟨hP, hD⟩ := hpd (cxW k a r t th kd bs us sth mk dr M sM) (pm_nil _)
  refine W.widen (k := 1) (n := 6) (by decide) (by decide) ?_
  obtain ⟨j, hj, rfl, hqt⟩ := hsB_t (by decide) hq
  refine lv_aload_n hx hb d_S_lean_5 rfl (lv_at hl 0 rfl) ?_
  refine lv_iload_n hx hb d_S_lean_6 rfl (lv_at hl 2 rfl) ?_
  refine lv_iconst (v := nI 0) hx hb d_S_lean_7 (by decide) ?_
  refine cax_v (wc := cxW k a r t th kd bs us sth mk dr M sM) (wr := []) (vx_runV (As := [.int c9, .int (nI 0)]) (rest := []) ⟨hx, hb, hml, hown, hts⟩ (c_requireNoneOrOfKind l D k a r t th kd bs us sth mk dr M sM sa hl9 c9 (nI 0) H.size) (cwV9 2 hts wd_192 wd_189 wd_191 ws_9 wd_1 (by decide) ⟨Nat.le_of_ble_eq_true rfl, Nat.le_of_ble_eq_true rfl⟩) (prVx (q0 := 0) (ci := ciSS) hE hS hA hK hP hD (pm_nil' _) rfl rfl) rfl rfl hl.1 rfl (lv_room (Nat.le_of_ble_eq_true rfl)) d_S_lean_8 ⟨by decide, by decide⟩) (pm_nil' _) hP hD hS hA (fun E9 ce9 ad9 w1 H locs hpx hpd hS hce hcv hcl => ?_) (fun w1 H locs hw hpd hS => ?_)
  · skip
    obtain ⟨rfl, h9, rfl⟩ := hpx
    obtain ⟨hP, hD⟩ := hpd (cxW k a r t th kd bs us sth mk dr M sM) (pm_nil _)
    exact ps_x hQ hlk htb (Or.inl ⟨Or.inr (⟨rfl, by intro fu; simp [cdLe, hq, h9]⟩), rfl⟩) hP hD hS hce hcv hcl (by decide) (by decide)
  obtain ⟨rfl, hc⟩ := hw
  obtain ⟨hP, hD⟩ := hpd (cxW k a r t th kd bs us sth mk dr M sM) (pm_nil _)
  refine W.widen (k := 2) (n := 12) (by decide) (by decide) ?_
  refine lv_aload_n hx hb d_S_lean_11 rfl (lv_at hl 0 rfl) ?_
  refine lv_iload_n hx hb d_S_lean_12 rfl (lv_at hl 3 rfl) ?_
  refine lv_iconst (v := nI 1) hx hb d_S_lean_13 (by decide) ?_
  refine cax_v (wc := cxW k a r t th kd bs us sth mk dr M sM) (wr := []) (vx_runV (As := [.int q9, .int (nI 1)]) (rest := []) ⟨hx, hb, hml, hown, hts⟩ (c_requireNoneOrOfKind l D k a r t th kd bs us sth mk dr M sM sa hl9 q9 (nI 1) H.size) (cwV9 2 hts wd_192 wd_189 wd_191 ws_9 wd_1 (by decide) ⟨Nat.le_of_ble_eq_true rfl, Nat.le_of_ble_eq_true rfl⟩) (prVx (q0 := 0) (ci := ciSS) hE hS hA hK hP hD (pm_nil' _) rfl rfl) rfl rfl hl.1 rfl (lv_room (Nat.le_of_ble_eq_true rfl)) d_S_lean_14 ⟨by decide, by decide⟩) (pm_nil' _) hP hD hS hA (fun E9 ce9 ad9 w1 H locs hpx hpd hS hce hcv hcl => ?_) (fun w1 H locs hw hpd hS => ?_)
  · skip
    obtain ⟨rfl, h9, rfl⟩ := hpx
    obtain ⟨hP, hD⟩ := hpd (cxW k a r t th kd bs us sth mk dr M sM) (pm_nil _)
    exact ps_x hQ hlk htb (Or.inl ⟨Or.inr (⟨rfl, by intro fu; simp [cdLe, hq, hc, h9]⟩), rfl⟩) hP hD hS hce hcv hcl (by decide) (by decide)
  obtain ⟨rfl, hk⟩ := hw
  obtain ⟨hP, hD⟩ := hpd (cxW k a r t th kd bs us sth mk dr M sM) (pm_nil _)
  refine W.widen (k := 3) (n := 18) (by decide) (by decide) ?_
  rw [← pfF_0 (leG th bs us M sM j c9 q9) dr] at hP hD
  refine lv_iconst (v := nI 0) hx hb d_S_lean_17 (by decide) ?_
  refine lv_istore (lv' := [(4, .int (nI 0)), (0, .ref (a 0)), (1, .int (nI j)), (2, .int c9), (3, .int q9)]) hx hb d_S_lean_18 hl (by decide) rfl (fun ls hl => ?_)
  have lp : ∀ (n9 : Nat) (i : Nat) (ls : Array Slot) (H : Heap) (locs : List Loc), 24 - i < n9 → (i ≤ 24) → va_P D vwCl (cxW k a r t th kd bs us sth mk (pfF (leG th bs us M sM j c9 q9) dr i) M sM) H → va_D A (cxW k a r t th kd bs us sth mk (pfF (leG th bs us M sM j c9 q9) dr i) M sM) → va_S A s.heap H locs → lv_has ls 6 [(0, .ref (a 0)), (1, .int (nI j)), (2, .int c9), (3, .int q9), (4, .int (nI i))] → W p l e (rm9 8 4 24) s m args below meth c H locs 3 18 Q (F0 m 20 ls []) := by
    intro n9
    induction n9 with
    | zero => intro i ls H locs hm; omega
    | succ n9 ih =>
      intro i ls H locs hm hi hP hD hS hl
      refine lv_iload hx hb d_S_lean_20 (lv_at hl 4 rfl) ?_
      refine lv_bipush (v := nI 24) hx hb d_S_lean_22 (by decide) ?_
      refine lv_icmp_ge (tgt := 73) hx hb d_S_lean_24 (by decide) (fun c24 => ?_) (fun c24 => ?_)
      · skip
        rw [nI_leI (by omega) (by omega)] at c24
        obtain rfl : i = 24 := by omega
        refine lv_aload_n hx hb d_S_lean_73 rfl (lv_at hl 0 rfl) ?_
        refine cax_i (wc := cxW k a r t th kd bs us sth mk (pfF (leG th bs us M sM j c9 q9) dr 24) M sM) (wr := []) (vx_runV (As := []) (rest := []) ⟨hx, hb, hml, hown, hts⟩ (c_numberOfDraft l D k a r t th kd bs us sth mk (pfF (leG th bs us M sM j c9 q9) dr 24) M sM sa hl9 H.size) (cwV9 0 hts wd_331 wd_328 wd_330 ws_17 wd_1 (by decide) ⟨Nat.le_of_ble_eq_true rfl, Nat.le_of_ble_eq_true rfl⟩) (prVx (q0 := 0) (ci := ciSS) hE hS hA hK hP hD (pm_nil' _) rfl rfl) rfl rfl hl.1 rfl (lv_room (Nat.le_of_ble_eq_true rfl)) d_S_lean_74 ⟨by decide, by decide⟩) (pm_nil' _) hP hD hS hA (fun E9 ce9 ad9 w1 H locs hpx hpd hS hce hcv hcl => ?_) (fun r w1 H locs hw hpd hS => ?_)
        · skip
          obtain ⟨rfl, h9, h8, rfl⟩ := hpx
          obtain ⟨hP, hD⟩ := hpd (cxW k a r t th kd bs us sth mk (pfF (leG th bs us M sM j c9 q9) dr 24) M sM) (pm_nil _)
          exact ps_x hQ hlk htb (Or.inr ⟨rfl, j, hj, rfl, hq, hc, hk, by simp [cdLe, hq, hc, hk, fuB, h9, h8], rfl⟩) hP hD hS hce hcv hcl (by decide) (by decide)
        · skip
          rcases hw with ⟨h7, rfl, rfl⟩ | ⟨h7, j9, hj9, h8, rfl, rfl⟩
          · obtain ⟨hP, hD⟩ := hpd (cxW k a r t th kd bs us sth mk (pfF (leG th bs us M sM j c9 q9) dr 24) M sM) (pm_nil _)
            exact hret _ _ _ _ _ _ _ _ d_S_lean_77 ⟨j, hj, rfl, hq, hc, hk, by simp [cdLe, hq, hc, hk, fuB, h7], Or.inl ⟨h7, rfl, rfl⟩⟩ hP hD hS (by decide) (by decide)
          · obtain ⟨hP, hD⟩ := hpd (cxW k a r t th kd bs us (upd sth j9 (nI 1)) mk (pfF (leG th bs us M sM j c9 q9) dr 24) M (va_up sM j9 (pfF (leG th bs us M sM j c9 q9) dr 24))) (pm_nil _)
            exact hret _ _ _ _ _ _ _ _ d_S_lean_77 ⟨j, hj, rfl, hq, hc, hk, by simp [cdLe, hq, hc, hk, fuB, h7, h8, ne_m1 (show j9 < 2 ^ 31 by omega)], Or.inr ⟨h7, j9, hj9, h8, rfl, rfl⟩⟩ hP hD hS (by decide) (by decide)
      · skip
        rw [nI_leI (by omega) (by omega)] at c24
        refine lv_aload_n hx hb d_S_lean_27 rfl (lv_at hl 0 rfl) ?_
        refine va_get (D := D) (ci := ciSS) (v := .ref (a 5)) (C := RS) (T := TS) (N := 7) hx hb hts inS hown hK.1 hP 0 rfl rfl 4 (by decide) (hts _ wd_50) (fun _ h9 => h9) rfl d_S_lean_28 ?_
        refine va_getN (D := D) (ci := ciTb) (v := .ref (a 11)) (C := RT) (T := TT) (N := 2) hx hb hts inT hown hK.1 hP 5 rfl rfl 1 (by decide) (va_Nw.use rfl (hK.2.1 (.fieldLinkNest "StyleSheet" 81 "StyleSheet$Table" "values" "[[I" "StyleSheet") (by decide))) (fun _ h9 => h9) rfl d_S_lean_31 ?_
        refine lv_iload_n hx hb d_S_lean_34 rfl (lv_at hl 1 rfl) ?_
        refine rw_aald hx hb hK.1 hP 11 2 rfl rfl (j := j) (y := t j) (by omega) (by decide) (gOut_at (by omega)) d_S_lean_35 ?_
        refine lv_iload hx hb d_S_lean_36 (lv_at hl 4 rfl) ?_
        refine rw_iald hx hb hK.1 hP (76 + j) 0 (cx_rowT (by omega)) rfl (j := i) (by omega) (by decide) d_S_lean_38 ?_
        refine lv_istore (lv' := [(5, .int ((sM j) i)), (0, .ref (a 0)), (1, .int (nI j)), (2, .int c9), (3, .int q9), (4, .int (nI i))]) hx hb d_S_lean_39 hl (by decide) rfl (fun ls hl => ?_)
        refine lv_aload_n hx hb d_S_lean_41 rfl (lv_at hl 1 rfl) ?_
        refine va_get (D := D) (ci := ciSS) (v := .ref (a 7)) (C := RS) (T := TS) (N := 7) hx hb hts inS hown hK.1 hP 0 rfl rfl 6 (by decide) (hts _ wd_52) (fun _ h9 => h9) rfl d_S_lean_42 ?_
        refine lv_iload hx hb d_S_lean_45 (lv_at hl 5 rfl) ?_
        refine lv_iload hx hb d_S_lean_47 (lv_at hl 0 rfl) ?_
        refine lv_aload_n hx hb d_S_lean_49 rfl (lv_at hl 1 rfl) ?_
        refine lv_iload_n hx hb d_S_lean_50 rfl (lv_at hl 3 rfl) ?_
        refine lv_iload_n hx hb d_S_lean_51 rfl (lv_at hl 4 rfl) ?_
        refine lv_iload hx hb d_S_lean_52 (lv_at hl 5 rfl) ?_
        refine cal_i (wc := cxW k a r t th kd bs us sth mk (pfF (leG th bs us M sM j c9 q9) dr i) M sM) (wr := []) (va_runV (As := [.int c9, .int q9, .int (nI i)]) (rest := [.int ((sM j) i), .int (nI i), .ref (a 7)]) ⟨hx, hb, hml, hown, hts⟩ (c_resolvedByStyles l D k a r t th kd bs us sth mk (pfF (leG th bs us M sM j c9 q9) dr i) M sM c9 q9 i (by omega) H.size) (cwV9 3 hts wd_360 wd_357 wd_359 ws_19 wd_1 (by decide) ⟨Nat.le_of_ble_eq_true rfl, Nat.le_of_ble_eq_true rfl⟩) (prV (q0 := 0) (ci := ciSS) hK hP hD (pm_nil' _) rfl rfl) rfl rfl hl.1 rfl (lv_room (Nat.le_of_ble_eq_true rfl)) d_S_lean_54 ⟨by decide, by decide⟩) (pm_nil' _) hP hD hS hA (fun r w1 H locs hw hpd hS => ?_)
        obtain ⟨rfl, rfl⟩ := hw
        obtain ⟨hP, hD⟩ := hpd (cxW k a r t th kd bs us sth mk (pfF (leG th bs us M sM j c9 q9) dr i) M sM) (pm_nil _)
        refine lv_icmp_ne (tgt := 64) hx hb d_S_lean_57 (by decide) (fun c57 => ?_) (fun c57 => ?_)
        · skip
          refine lv_iload hx hb d_S_lean_64 (lv_at hl 0 rfl) ?_
          refine rw_iast hx hb hK.1 hP hD hS 7 0 rfl rfl (j := i) (by omega) (by decide) d_S_lean_66 (wn := cxW k a r t th kd bs us sth mk (pfF (leG th bs us M sM j c9 q9) dr (i + 1)) M sM) (by rw [← pfF_s (g := leG th bs us M sM j c9 q9) (dr := dr) (i := i) (x := (sM j) i) (by simp [leG, c57])]; rfl) (fun H locs hP hD hS => ?_)
          refine lv_iinc (v := nI (i + 1)) (lv' := [(4, .int (nI (i + 1))), (5, .int ((sM j) i)), (0, .ref (a 0)), (1, .int (nI j)), (2, .int c9), (3, .int q9)]) hx hb d_S_lean_67 hl (k := 5) rfl (ii_1 _) (by decide) rfl (fun ls hl => ?_)
          refine lv_goto (tgt := 20) hx hb d_S_lean_70 (by decide) ?_
          exact ih (i + 1) ls H locs (by omega) (by omega) hP hD hS (lv_sub hl [2, 3, 4, 5, 0] rfl)
        · skip
          refine lv_iconst (v := -1) hx hb d_S_lean_60 (by decide) ?_
          refine lv_goto (tgt := 66) hx hb d_S_lean_61 (by decide) ?_
          refine rw_iast hx hb hK.1 hP hD hS 7 0 rfl rfl (j := i) (by omega) (by decide) d_S_lean_66 (wn := cxW k a r t th kd bs us sth mk (pfF (leG th bs us M sM j c9 q9) dr (i + 1)) M sM) (by rw [← pfF_s (g := leG th bs us M sM j c9 q9) (dr := dr) (i := i) (x := -1) (by simp [leG, c57])]; rfl) (fun H locs hP hD hS => ?_)
          refine lv_iinc (v := nI (i + 1)) (lv' := [(4, .int (nI (i + 1))), (5, .int ((sM j) i)), (0, .ref (a 0)), (1, .int (nI j)), (2, .int c9), (3, .int q9)]) hx hb d_S_lean_67 hl (k := 5) rfl (ii_1 _) (by decide) rfl (fun ls hl => ?_)
          refine lv_goto (tgt := 20) hx hb d_S_lean_70 (by decide) ?_
          exact ih (i + 1) ls H locs (by omega) (by omega) hP hD hS (lv_sub hl [2, 3, 4, 5, 0] rfl)
  exact lp _ (0) ls H locs (Nat.lt_succ_self _) (by decide) hP hD hS (lv_sub hl [1, 2, 3, 4, 0] rfl)

set_option maxRecDepth 100000 in
set_option maxHeartbeats 4000000 in
theorem c_size (l : Launch) (D : va_G) (k : Nat → ClassId) (a r t : Nat → Nat) (th kd bs us sth mk dr : Nat → Int32) (M sM : Nat → Nat → Int32) (x : Int32) (sz : Nat) : bMI l y_S_size (wY y_S_size b_S_size 2 (some .int)) (rm9 8 0 0) D (tsK k) (cxW k a r t th kd bs us sth mk dr M sM) sz [.ref (a 0), .int x] (fun v w => v = (if hsB 256 sth x = true then nI (viF sM x.toNatClampNeg) else -1) ∧ w = cxW k a r t th kd bs us sth mk dr M sM) 0 0 := by
  refine ent_i (cc := b_S_size) (maxL := 2) (ty := .int) (by decide) (Nat.le_of_ble_eq_true rfl) (fun _ _ _ => rfl) ?_
  intro p e s m args below meth c A Q ls hx hb hml hown hts hsz hA hP hD hS hK hl hret
  refine lv_aload_n hx hb d_S_size_0 rfl (lv_at hl 0 rfl) ?_
  refine va_get (D := D) (ci := ciSS) (v := .ref (a 5)) (C := RS) (T := TS) (N := 7) hx hb hts inS hown hK.1 hP 0 rfl rfl 4 (by decide) (hts _ wd_50) (fun _ h9 => h9) rfl d_S_size_1 ?_
  refine lv_iload_n hx hb d_S_size_4 rfl (lv_at hl 1 rfl) ?_
  obtain ⟨wr, hwr⟩ := cx_T (k := k) (a := a) (r := r) (t := t) (th := th) (kd := kd) (bs := bs) (us := us) (mk := mk) (dr := dr) (M := M) (sM := sM)
  refine cal_i (wc := tbF k (a 5) (a 10) (a 11) t 256 sth) (wr := wr) (va_runVN (As := [.int x]) (rest := []) ⟨hx, hb, hml, hown, hts⟩ (c_has l D k (a 5) (a 10) (a 11) t 256 (by decide) sth x s.heap.size) (cwN9 1 hts wd_75 (hK.2.1 (.methodLinkNest "StyleSheet" 64 ⟨"StyleSheet$Table", "has", "(I)Z"⟩ "StyleSheet") (by decide)) wd_74 ws_1 wd_2 (by decide) ⟨Nat.le_of_ble_eq_true rfl, Nat.le_of_ble_eq_true rfl⟩) (prV (q0 := 0) (ci := ciTb) hK hP hD (hwr _) rfl rfl) rfl rfl hl.1 rfl (lv_room (Nat.le_of_ble_eq_true rfl)) d_S_size_5 ⟨by decide, by decide⟩) (hwr _) hP hD hS hA (fun r w1 H locs hw hpd hS => ?_)
  obtain ⟨rfl, rfl⟩ := hw
  obtain ⟨hP, hD⟩ := hpd (cxW k a r t th kd bs us sth mk dr M sM) (hwr _).symm
  refine lv_if_eq (tgt := 22) hx hb d_S_size_8 (by decide) (fun c8 => ?_) (fun c8 => ?_)
  · skip
    have c8 := b_of0 c8
    refine lv_iconst (v := -1) hx hb d_S_size_22 (by decide) ?_
    exact hret _ _ _ _ _ _ _ _ d_S_size_23 ⟨by rw [c8]; rfl, rfl⟩ hP hD hS (by decide) (by decide)
  · skip
    have c8 := b_of1 c8
    obtain ⟨j, hj, rfl, hjt⟩ := hsB_t (by decide) c8
    refine lv_aload_n hx hb d_S_size_11 rfl (lv_at hl 0 rfl) ?_
    refine va_get (D := D) (ci := ciSS) (v := .ref (a 5)) (C := RS) (T := TS) (N := 7) hx hb hts inS hown hK.1 hP 0 rfl rfl 4 (by decide) (hts _ wd_50) (fun _ h9 => h9) rfl d_S_size_12 ?_
    refine lv_iload_n hx hb d_S_size_15 rfl (lv_at hl 1 rfl) ?_
    obtain ⟨wr, hwr⟩ := cx_TW (k := k) (a := a) (r := r) (t := t) (th := th) (kd := kd) (bs := bs) (us := us) (mk := mk) (dr := dr) (M := M)
    refine cal_i (wc := tbW k (a 5) (a 10) (a 11) t 256 sth sM) (wr := wr) (va_runVN (As := [.int (nI j)]) (rest := []) ⟨hx, hb, hml, hown, hts⟩ (c_valuesIn l D k (a 5) (a 10) (a 11) t 256 (by decide) sth sM j hj H.size) (cwN9 1 hts wd_79 (hK.2.1 (.methodLinkNest "StyleSheet" 99 ⟨"StyleSheet$Table", "valuesIn", "(I)I"⟩ "StyleSheet") (by decide)) wd_78 ws_2 wd_2 (by decide) ⟨Nat.le_of_ble_eq_true rfl, Nat.le_of_ble_eq_true rfl⟩) (prV (q0 := 0) (ci := ciTb) hK hP hD (hwr _ _) rfl rfl) rfl rfl hl.1 rfl (lv_room (Nat.le_of_ble_eq_true rfl)) d_S_size_16 ⟨by decide, by decide⟩) (hwr _ _) hP hD hS hA (fun r w1 H locs hw hpd hS => ?_)
    obtain ⟨rfl, rfl⟩ := hw
    obtain ⟨hP, hD⟩ := hpd (cxW k a r t th kd bs us sth mk dr M sM) (hwr _ _).symm
    refine lv_goto (tgt := 23) hx hb d_S_size_19 (by decide) ?_
    exact hret _ _ _ _ _ _ _ _ d_S_size_23 ⟨by rw [if_pos c8, nI_clamp (by omega)]; rfl, rfl⟩ hP hD hS (by decide) (by decide)

set_option maxRecDepth 100000 in
set_option maxHeartbeats 4000000 in
theorem c_sweep (l : Launch) (D : va_G) (k : Nat → ClassId) (a r t : Nat → Nat) (th kd bs us sth mk dr : Nat → Int32) (M sM : Nat → Nat → Int32) (sz : Nat) : bMI l y_S_sweep (wY y_S_sweep b_S_sweep 3 (some .int)) (rm9 8 0 0) D (tsK k) (cxW k a r t th kd bs us sth mk dr M sM) sz [.ref (a 0)] (fun v w => v = nI (cnF (swB sth mk) 256) ∧ w = cxW k a r t th kd bs us (swT sth mk 256) (swK mk 256) dr M (swM sth mk sM 256)) 0 0 := by
  refine ent_i (cc := b_S_sweep) (maxL := 3) (ty := .int) (by decide) (Nat.le_of_ble_eq_true rfl) (fun _ _ _ => rfl) ?_
  intro p e s m args below meth c A Q ls hx hb hml hown hts hsz hA hP hD hS hK hl hret
  rw [← swT_0 sth mk, ← swM_0 sth mk sM, ← swK_0 mk] at hP hD
  refine lv_iconst (v := nI 0) hx hb d_S_sweep_0 (by decide) ?_
  refine lv_istore_n (lv' := [(1, .int (nI 0)), (0, .ref (a 0))]) hx hb d_S_sweep_1 rfl hl (by decide) rfl (fun ls hl => ?_)
  refine lv_iconst (v := nI 0) hx hb d_S_sweep_2 (by decide) ?_
  refine lv_istore_n (lv' := [(2, .int (nI 0)), (1, .int (nI 0)), (0, .ref (a 0))]) hx hb d_S_sweep_3 rfl hl (by decide) rfl (fun ls hl => ?_)
  have lp : ∀ (n9 : Nat) (i : Nat) (ls : Array Slot) (H : Heap) (locs : List Loc), 256 - i < n9 → (i ≤ 256) → va_P D vwCl (cxW k a r t th kd bs us (swT sth mk i) (swK mk i) dr M (swM sth mk sM i)) H → va_D A (cxW k a r t th kd bs us (swT sth mk i) (swK mk i) dr M (swM sth mk sM i)) → va_S A s.heap H locs → lv_has ls 3 [(0, .ref (a 0)), (1, .int (nI (cnF (swB sth mk) i))), (2, .int (nI i))] → W p l e (rm9 8 0 0) s m args below meth c H locs 0 0 Q (F0 m 4 ls []) := by
    intro n9
    induction n9 with
    | zero => intro i ls H locs hm; omega
    | succ n9 ih =>
      intro i ls H locs hm hi hP hD hS hl
      refine lv_iload_n hx hb d_S_sweep_4 rfl (lv_at hl 2 rfl) ?_
      refine lv_sipush (v := nI 256) hx hb d_S_sweep_5 (by decide) ?_
      refine lv_icmp_ge (tgt := 59) hx hb d_S_sweep_8 (by decide) (fun c8 => ?_) (fun c8 => ?_)
      · skip
        rw [nI_leI (by omega) (by omega)] at c8
        refine lv_iload_n hx hb d_S_sweep_59 rfl (lv_at hl 1 rfl) ?_
        obtain rfl : i = 256 := by omega
        exact hret _ _ _ _ _ _ _ _ d_S_sweep_60 ⟨rfl, rfl⟩ hP hD hS (by decide) (by decide)
      · skip
        rw [nI_leI (by omega) (by omega)] at c8
        refine lv_iload_n hx hb d_S_sweep_11 rfl (lv_at hl 2 rfl) ?_
        refine lv_if_eq (tgt := 46) hx hb d_S_sweep_12 (by decide) (fun c12 => ?_) (fun c12 => ?_)
        · skip
          have c12 : i = 0 := by rw [show (0 : Int32) = nI 0 from rfl, nI_eq (by omega) (by decide)] at c12; exact c12
          have hsw : swB sth mk i = false := by simp [swB, c12]
          rw [swT_f hsw, swM_f hsw] at hP hD
          rw [cnF_f hsw] at hl
          refine lv_aload_n hx hb d_S_sweep_46 rfl (lv_at hl 0 rfl) ?_
          refine va_get (D := D) (ci := ciSS) (v := .ref (a 6)) (C := RS) (T := TS) (N := 7) hx hb hts inS hown hK.1 hP 0 rfl rfl 5 (by decide) (hts _ wd_51) (fun _ h9 => h9) rfl d_S_sweep_47 ?_
          refine lv_iload_n hx hb d_S_sweep_50 rfl (lv_at hl 2 rfl) ?_
          refine lv_iconst (v := nI 0) hx hb d_S_sweep_51 (by decide) ?_
          refine rw_zast hx hb hK.1 hP hD hS 6 1 rfl rfl (j := i) bz_0 (by omega) (by decide) d_S_sweep_52 (wn := cxW k a r t th kd bs us (swT sth mk (i + 1)) (swK mk (i + 1)) dr M (swM sth mk sM (i + 1))) (by rw [← swK_s]; rfl) (fun H locs hP hD hS => ?_)
          refine lv_iinc (v := nI (i + 1)) (lv' := [(2, .int (nI (i + 1))), (0, .ref (a 0)), (1, .int (nI (cnF (swB sth mk) (i + 1))))]) hx hb d_S_sweep_53 hl (k := 2) rfl (ii_1 _) (by decide) rfl (fun ls hl => ?_)
          refine lv_goto (tgt := 4) hx hb d_S_sweep_56 (by decide) ?_
          exact ih (i + 1) ls H locs (by omega) (by omega) hP hD hS (lv_sub hl [1, 2, 0] rfl)
        · skip
          have c12 : ¬ i = 0 := by rw [show (0 : Int32) = nI 0 from rfl, nI_eq (by omega) (by decide)] at c12; exact c12
          refine lv_aload_n hx hb d_S_sweep_15 rfl (lv_at hl 0 rfl) ?_
          refine va_get (D := D) (ci := ciSS) (v := .ref (a 5)) (C := RS) (T := TS) (N := 7) hx hb hts inS hown hK.1 hP 0 rfl rfl 4 (by decide) (hts _ wd_50) (fun _ h9 => h9) rfl d_S_sweep_16 ?_
          refine lv_iload_n hx hb d_S_sweep_19 rfl (lv_at hl 2 rfl) ?_
          obtain ⟨wr, hwr⟩ := cx_T (k := k) (a := a) (r := r) (t := t) (th := th) (kd := kd) (bs := bs) (us := us) (mk := swK mk i) (dr := dr) (M := M) (sM := swM sth mk sM i)
          refine cal_i (wc := tbF k (a 5) (a 10) (a 11) t 256 (swT sth mk i)) (wr := wr) (va_runVN (As := [.int (nI i)]) (rest := []) ⟨hx, hb, hml, hown, hts⟩ (c_has l D k (a 5) (a 10) (a 11) t 256 (by decide) (swT sth mk i) (nI i) H.size) (cwN9 1 hts wd_75 (hK.2.1 (.methodLinkNest "StyleSheet" 64 ⟨"StyleSheet$Table", "has", "(I)Z"⟩ "StyleSheet") (by decide)) wd_74 ws_1 wd_2 (by decide) ⟨Nat.le_of_ble_eq_true rfl, Nat.le_of_ble_eq_true rfl⟩) (prV (q0 := 0) (ci := ciTb) hK hP hD (hwr _) rfl rfl) rfl rfl hl.1 rfl (lv_room (Nat.le_of_ble_eq_true rfl)) d_S_sweep_20 ⟨by decide, by decide⟩) (hwr _) hP hD hS hA (fun r w1 H locs hw hpd hS => ?_)
          obtain ⟨rfl, rfl⟩ := hw
          obtain ⟨hP, hD⟩ := hpd (cxW k a r t th kd bs us (swT sth mk i) (swK mk i) dr M (swM sth mk sM i)) (hwr _).symm
          refine lv_if_eq (tgt := 46) hx hb d_S_sweep_23 (by decide) (fun c23 => ?_) (fun c23 => ?_)
          · skip
            have c23 := b_of0 c23
            rw [hsB_nI (by omega) (by decide), swT_at] at c23
            have c23 := of_decide_eq_false c23
            have hsw : swB sth mk i = false := by simp [swB, c23]
            rw [swT_f hsw, swM_f hsw] at hP hD
            rw [cnF_f hsw] at hl
            refine lv_aload_n hx hb d_S_sweep_46 rfl (lv_at hl 0 rfl) ?_
            refine va_get (D := D) (ci := ciSS) (v := .ref (a 6)) (C := RS) (T := TS) (N := 7) hx hb hts inS hown hK.1 hP 0 rfl rfl 5 (by decide) (hts _ wd_51) (fun _ h9 => h9) rfl d_S_sweep_47 ?_
            refine lv_iload_n hx hb d_S_sweep_50 rfl (lv_at hl 2 rfl) ?_
            refine lv_iconst (v := nI 0) hx hb d_S_sweep_51 (by decide) ?_
            refine rw_zast hx hb hK.1 hP hD hS 6 1 rfl rfl (j := i) bz_0 (by omega) (by decide) d_S_sweep_52 (wn := cxW k a r t th kd bs us (swT sth mk (i + 1)) (swK mk (i + 1)) dr M (swM sth mk sM (i + 1))) (by rw [← swK_s]; rfl) (fun H locs hP hD hS => ?_)
            refine lv_iinc (v := nI (i + 1)) (lv' := [(2, .int (nI (i + 1))), (0, .ref (a 0)), (1, .int (nI (cnF (swB sth mk) (i + 1))))]) hx hb d_S_sweep_53 hl (k := 2) rfl (ii_1 _) (by decide) rfl (fun ls hl => ?_)
            refine lv_goto (tgt := 4) hx hb d_S_sweep_56 (by decide) ?_
            exact ih (i + 1) ls H locs (by omega) (by omega) hP hD hS (lv_sub hl [1, 2, 0] rfl)
          · skip
            have c23 := b_of1 c23
            rw [hsB_nI (by omega) (by decide), swT_at] at c23
            have c23 := of_decide_eq_true c23
            refine lv_aload_n hx hb d_S_sweep_26 rfl (lv_at hl 0 rfl) ?_
            refine va_get (D := D) (ci := ciSS) (v := .ref (a 6)) (C := RS) (T := TS) (N := 7) hx hb hts inS hown hK.1 hP 0 rfl rfl 5 (by decide) (hts _ wd_51) (fun _ h9 => h9) rfl d_S_sweep_27 ?_
            refine lv_iload_n hx hb d_S_sweep_30 rfl (lv_at hl 2 rfl) ?_
            refine rw_zald hx hb hK.1 hP 6 1 rfl rfl (j := i) (by omega) (by decide) d_S_sweep_31 ?_
            refine lv_if_ne (tgt := 46) hx hb d_S_sweep_32 (by decide) (fun c32 => ?_) (fun c32 => ?_)
            · skip
              rw [swK_at] at c32
              have hsw : swB sth mk i = false := by simp [swB, c32]
              rw [swT_f hsw, swM_f hsw] at hP hD
              rw [cnF_f hsw] at hl
              refine lv_aload_n hx hb d_S_sweep_46 rfl (lv_at hl 0 rfl) ?_
              refine va_get (D := D) (ci := ciSS) (v := .ref (a 6)) (C := RS) (T := TS) (N := 7) hx hb hts inS hown hK.1 hP 0 rfl rfl 5 (by decide) (hts _ wd_51) (fun _ h9 => h9) rfl d_S_sweep_47 ?_
              refine lv_iload_n hx hb d_S_sweep_50 rfl (lv_at hl 2 rfl) ?_
              refine lv_iconst (v := nI 0) hx hb d_S_sweep_51 (by decide) ?_
              refine rw_zast hx hb hK.1 hP hD hS 6 1 rfl rfl (j := i) bz_0 (by omega) (by decide) d_S_sweep_52 (wn := cxW k a r t th kd bs us (swT sth mk (i + 1)) (swK mk (i + 1)) dr M (swM sth mk sM (i + 1))) (by rw [← swK_s]; rfl) (fun H locs hP hD hS => ?_)
              refine lv_iinc (v := nI (i + 1)) (lv' := [(2, .int (nI (i + 1))), (0, .ref (a 0)), (1, .int (nI (cnF (swB sth mk) (i + 1))))]) hx hb d_S_sweep_53 hl (k := 2) rfl (ii_1 _) (by decide) rfl (fun ls hl => ?_)
              refine lv_goto (tgt := 4) hx hb d_S_sweep_56 (by decide) ?_
              exact ih (i + 1) ls H locs (by omega) (by omega) hP hD hS (lv_sub hl [1, 2, 0] rfl)
            · skip
              rw [swK_at] at c32
              refine lv_aload_n hx hb d_S_sweep_35 rfl (lv_at hl 0 rfl) ?_
              refine va_get (D := D) (ci := ciSS) (v := .ref (a 5)) (C := RS) (T := TS) (N := 7) hx hb hts inS hown hK.1 hP 0 rfl rfl 4 (by decide) (hts _ wd_50) (fun _ h9 => h9) rfl d_S_sweep_36 ?_
              refine lv_iload_n hx hb d_S_sweep_39 rfl (lv_at hl 2 rfl) ?_
              obtain ⟨wr, hwr⟩ := cx_TW (k := k) (a := a) (r := r) (t := t) (th := th) (kd := kd) (bs := bs) (us := us) (mk := swK mk i) (dr := dr) (M := M)
              refine cal_v (wc := tbW k (a 5) (a 10) (a 11) t 256 (swT sth mk i) (swM sth mk sM i)) (wr := wr) (va_runVN (As := [.int (nI i)]) (rest := []) ⟨hx, hb, hml, hown, hts⟩ (c_remove l D k (a 5) (a 10) (a 11) t 256 (by decide) (swT sth mk i) (swM sth mk sM i) i (by omega) H.size) (cwN9 1 hts wd_87 (hK.2.1 (.methodLinkNest "StyleSheet" 68 ⟨"StyleSheet$Table", "remove", "(I)V"⟩ "StyleSheet") (by decide)) wd_86 ws_3 wd_2 (by decide) ⟨Nat.le_of_ble_eq_true rfl, Nat.le_of_ble_eq_true rfl⟩) (prV (q0 := 0) (ci := ciTb) hK hP hD (hwr _ _) rfl rfl) rfl rfl hl.1 rfl (lv_room (Nat.le_of_ble_eq_true rfl)) d_S_sweep_40 ⟨by decide, by decide⟩) (hwr _ _) hP hD hS hA (fun w1 H locs hw hpd hS => ?_)
              subst hw
              obtain ⟨hP, hD⟩ := hpd (cxW k a r t th kd bs us (upd (swT sth mk i) i (nI 0)) (swK mk i) dr M (va_up (swM sth mk sM i) i (fun _ => -1))) (hwr _ _).symm
              refine lv_iinc (v := nI ((cnF (swB sth mk) i) + 1)) (lv' := [(1, .int (nI ((cnF (swB sth mk) i) + 1))), (0, .ref (a 0)), (2, .int (nI i))]) hx hb d_S_sweep_43 hl (k := 1) rfl (ii_1 _) (by decide) rfl (fun ls hl => ?_)
              have hsw : swB sth mk i = true := by simp [swB, c12, c23, c32]
              rw [swT_t hsw, swM_t hsw] at hP hD
              rw [cnF_t hsw] at hl
              refine lv_aload_n hx hb d_S_sweep_46 rfl (lv_at hl 1 rfl) ?_
              refine va_get (D := D) (ci := ciSS) (v := .ref (a 6)) (C := RS) (T := TS) (N := 7) hx hb hts inS hown hK.1 hP 0 rfl rfl 5 (by decide) (hts _ wd_51) (fun _ h9 => h9) rfl d_S_sweep_47 ?_
              refine lv_iload_n hx hb d_S_sweep_50 rfl (lv_at hl 2 rfl) ?_
              refine lv_iconst (v := nI 0) hx hb d_S_sweep_51 (by decide) ?_
              refine rw_zast hx hb hK.1 hP hD hS 6 1 rfl rfl (j := i) bz_0 (by omega) (by decide) d_S_sweep_52 (wn := cxW k a r t th kd bs us (swT sth mk (i + 1)) (swK mk (i + 1)) dr M (swM sth mk sM (i + 1))) (by rw [← swK_s]; rfl) (fun H locs hP hD hS => ?_)
              refine lv_iinc (v := nI (i + 1)) (lv' := [(2, .int (nI (i + 1))), (1, .int (nI (cnF (swB sth mk) (i + 1)))), (0, .ref (a 0))]) hx hb d_S_sweep_53 hl (k := 2) rfl (ii_1 _) (by decide) rfl (fun ls hl => ?_)
              refine lv_goto (tgt := 4) hx hb d_S_sweep_56 (by decide) ?_
              exact ih (i + 1) ls H locs (by omega) (by omega) hP hD hS (lv_sub hl [2, 1, 0] rfl)
  exact lp _ (0) ls s.heap [] (Nat.lt_succ_self _) (by decide) hP hD hS (lv_sub hl [2, 1, 0] rfl)

set_option maxRecDepth 100000 in
set_option maxHeartbeats 4000000 in
theorem c_count (l : Launch) (D : va_G) (k : Nat → ClassId) (a r t : Nat → Nat) (th kd bs us sth mk dr : Nat → Int32) (M sM : Nat → Nat → Int32) (y : Int32) (sz : Nat) : bMI l y_S_count (wY y_S_count b_S_count 2 (some .int)) (rm9 8 0 0) D (tsK k) (cxW k a r t th kd bs us sth mk dr M sM) sz [.ref (a 0), .int y] (fun v w => v = coF th bs sth M sM y ∧ w = cxW k a r t th kd bs us sth mk dr M sM) 0 0 := by
  refine ent_i (cc := b_S_count) (maxL := 2) (ty := .int) (by decide) (Nat.le_of_ble_eq_true rfl) (fun _ _ _ => rfl) ?_
  intro p e s m args below meth c A Q ls hx hb hml hown hts hsz hA hP hD hS hK hl hret
  refine lv_iload_n hx hb d_S_count_0 rfl (lv_at hl 1 rfl) ?_
  rcases sw5 y with rfl | rfl | rfl | rfl | rfl | ⟨hsw, hwh⟩
  · skip
    refine lv_tableIn (off := 35) (tgt := 36) hx hb d_S_count_1 (by decide) (by decide) (by decide) (by decide) ?_
    refine lv_aload_n hx hb d_S_count_36 rfl (lv_at hl 0 rfl) ?_
    refine va_get (D := D) (ci := ciSS) (v := .ref (a 1)) (C := RS) (T := TS) (N := 7) hx hb hts inS hown hK.1 hP 0 rfl rfl 0 (by decide) (hts _ wd_46) (fun _ h9 => h9) rfl d_S_count_37 ?_
    obtain ⟨wr, hwr⟩ := cx_S (k := k) (a := a) (r := r) (t := t) (kd := kd) (bs := bs) (us := us) (sth := sth) (mk := mk) (dr := dr) (M := M) (sM := sM)
    refine cal_i (wc := tbF k (a 1) (a 8) (a 9) r 64 th) (wr := wr) (va_runVN (As := []) (rest := []) ⟨hx, hb, hml, hown, hts⟩ (c_howMany l D k (a 1) (a 8) (a 9) r 64 (by decide) th  s.heap.size) (cwN9 0 hts wd_95 (hK.2.1 (.methodLinkNest "StyleSheet" 121 ⟨"StyleSheet$Table", "howMany", "()I"⟩ "StyleSheet") (by decide)) wd_94 ws_4 wd_2 (by decide) ⟨Nat.le_of_ble_eq_true rfl, Nat.le_of_ble_eq_true rfl⟩) (prV (q0 := 0) (ci := ciTb) hK hP hD (hwr _) rfl rfl) rfl rfl hl.1 rfl (lv_room (Nat.le_of_ble_eq_true rfl)) d_S_count_40 ⟨by decide, by decide⟩) (hwr _) hP hD hS hA (fun r w1 H locs hw hpd hS => ?_)
    obtain ⟨rfl, rfl⟩ := hw
    obtain ⟨hP, hD⟩ := hpd (cxW k a r t th kd bs us sth mk dr M sM) (hwr _).symm
    exact hret _ _ _ _ _ _ _ _ d_S_count_43 ⟨rfl, rfl⟩ hP hD hS (by decide) (by decide)
  · skip
    refine lv_tableIn (off := 43) (tgt := 44) hx hb d_S_count_1 (by decide) (by decide) (by decide) (by decide) ?_
    refine lv_aload_n hx hb d_S_count_44 rfl (lv_at hl 0 rfl) ?_
    refine va_get (D := D) (ci := ciSS) (v := .ref (a 5)) (C := RS) (T := TS) (N := 7) hx hb hts inS hown hK.1 hP 0 rfl rfl 4 (by decide) (hts _ wd_50) (fun _ h9 => h9) rfl d_S_count_45 ?_
    obtain ⟨wr, hwr⟩ := cx_T (k := k) (a := a) (r := r) (t := t) (th := th) (kd := kd) (bs := bs) (us := us) (mk := mk) (dr := dr) (M := M) (sM := sM)
    refine cal_i (wc := tbF k (a 5) (a 10) (a 11) t 256 sth) (wr := wr) (va_runVN (As := []) (rest := []) ⟨hx, hb, hml, hown, hts⟩ (c_howMany l D k (a 5) (a 10) (a 11) t 256 (by decide) sth  s.heap.size) (cwN9 0 hts wd_95 (hK.2.1 (.methodLinkNest "StyleSheet" 121 ⟨"StyleSheet$Table", "howMany", "()I"⟩ "StyleSheet") (by decide)) wd_94 ws_4 wd_2 (by decide) ⟨Nat.le_of_ble_eq_true rfl, Nat.le_of_ble_eq_true rfl⟩) (prV (q0 := 0) (ci := ciTb) hK hP hD (hwr _) rfl rfl) rfl rfl hl.1 rfl (lv_room (Nat.le_of_ble_eq_true rfl)) d_S_count_48 ⟨by decide, by decide⟩) (hwr _) hP hD hS hA (fun r w1 H locs hw hpd hS => ?_)
    obtain ⟨rfl, rfl⟩ := hw
    obtain ⟨hP, hD⟩ := hpd (cxW k a r t th kd bs us sth mk dr M sM) (hwr _).symm
    exact hret _ _ _ _ _ _ _ _ d_S_count_51 ⟨rfl, rfl⟩ hP hD hS (by decide) (by decide)
  · skip
    refine lv_tableIn (off := 51) (tgt := 52) hx hb d_S_count_1 (by decide) (by decide) (by decide) (by decide) ?_
    refine lv_aload_n hx hb d_S_count_52 rfl (lv_at hl 0 rfl) ?_
    refine va_get (D := D) (ci := ciSS) (v := .ref (a 1)) (C := RS) (T := TS) (N := 7) hx hb hts inS hown hK.1 hP 0 rfl rfl 0 (by decide) (hts _ wd_46) (fun _ h9 => h9) rfl d_S_count_53 ?_
    obtain ⟨wr, hwr⟩ := cx_SW (k := k) (a := a) (r := r) (t := t) (kd := kd) (bs := bs) (us := us) (sth := sth) (mk := mk) (dr := dr) (sM := sM)
    refine cal_i (wc := tbW k (a 1) (a 8) (a 9) r 64 th M) (wr := wr) (va_runVN (As := []) (rest := []) ⟨hx, hb, hml, hown, hts⟩ (c_valuesInAll l D k (a 1) (a 8) (a 9) r 64 (by decide) th M  s.heap.size) (cwN9 0 hts wd_99 (hK.2.1 (.methodLinkNest "StyleSheet" 124 ⟨"StyleSheet$Table", "valuesInAll", "()I"⟩ "StyleSheet") (by decide)) wd_98 ws_5 wd_2 (by decide) ⟨Nat.le_of_ble_eq_true rfl, Nat.le_of_ble_eq_true rfl⟩) (prV (q0 := 0) (ci := ciTb) hK hP hD (hwr _ _) rfl rfl) rfl rfl hl.1 rfl (lv_room (Nat.le_of_ble_eq_true rfl)) d_S_count_56 ⟨by decide, by decide⟩) (hwr _ _) hP hD hS hA (fun r w1 H locs hw hpd hS => ?_)
    obtain ⟨rfl, rfl⟩ := hw
    obtain ⟨hP, hD⟩ := hpd (cxW k a r t th kd bs us sth mk dr M sM) (hwr _ _).symm
    exact hret _ _ _ _ _ _ _ _ d_S_count_59 ⟨rfl, rfl⟩ hP hD hS (by decide) (by decide)
  · skip
    refine lv_tableIn (off := 59) (tgt := 60) hx hb d_S_count_1 (by decide) (by decide) (by decide) (by decide) ?_
    refine lv_aload_n hx hb d_S_count_60 rfl (lv_at hl 0 rfl) ?_
    refine va_get (D := D) (ci := ciSS) (v := .ref (a 5)) (C := RS) (T := TS) (N := 7) hx hb hts inS hown hK.1 hP 0 rfl rfl 4 (by decide) (hts _ wd_50) (fun _ h9 => h9) rfl d_S_count_61 ?_
    obtain ⟨wr, hwr⟩ := cx_TW (k := k) (a := a) (r := r) (t := t) (th := th) (kd := kd) (bs := bs) (us := us) (mk := mk) (dr := dr) (M := M)
    refine cal_i (wc := tbW k (a 5) (a 10) (a 11) t 256 sth sM) (wr := wr) (va_runVN (As := []) (rest := []) ⟨hx, hb, hml, hown, hts⟩ (c_valuesInAll l D k (a 5) (a 10) (a 11) t 256 (by decide) sth sM  s.heap.size) (cwN9 0 hts wd_99 (hK.2.1 (.methodLinkNest "StyleSheet" 124 ⟨"StyleSheet$Table", "valuesInAll", "()I"⟩ "StyleSheet") (by decide)) wd_98 ws_5 wd_2 (by decide) ⟨Nat.le_of_ble_eq_true rfl, Nat.le_of_ble_eq_true rfl⟩) (prV (q0 := 0) (ci := ciTb) hK hP hD (hwr _ _) rfl rfl) rfl rfl hl.1 rfl (lv_room (Nat.le_of_ble_eq_true rfl)) d_S_count_64 ⟨by decide, by decide⟩) (hwr _ _) hP hD hS hA (fun r w1 H locs hw hpd hS => ?_)
    obtain ⟨rfl, rfl⟩ := hw
    obtain ⟨hP, hD⟩ := hpd (cxW k a r t th kd bs us sth mk dr M sM) (hwr _ _).symm
    exact hret _ _ _ _ _ _ _ _ d_S_count_67 ⟨rfl, rfl⟩ hP hD hS (by decide) (by decide)
  · skip
    refine lv_tableIn (off := 67) (tgt := 68) hx hb d_S_count_1 (by decide) (by decide) (by decide) (by decide) ?_
    refine lv_aload_n hx hb d_S_count_68 rfl (lv_at hl 0 rfl) ?_
    refine cal_i (wc := cxW k a r t th kd bs us sth mk dr M sM) (wr := []) (va_runV (As := []) (rest := []) ⟨hx, hb, hml, hown, hts⟩ (c_longestChain l D k a r t th kd bs us sth mk dr M sM  s.heap.size) (cwV9 0 hts wd_104 wd_101 wd_103 ws_6 wd_1 (by decide) ⟨Nat.le_of_ble_eq_true rfl, Nat.le_of_ble_eq_true rfl⟩) (prV (q0 := 0) (ci := ciSS) hK hP hD (pm_nil' _) rfl rfl) rfl rfl hl.1 rfl (lv_room (Nat.le_of_ble_eq_true rfl)) d_S_count_69 ⟨by decide, by decide⟩) (pm_nil' _) hP hD hS hA (fun r w1 H locs hw hpd hS => ?_)
    obtain ⟨rfl, rfl⟩ := hw
    obtain ⟨hP, hD⟩ := hpd (cxW k a r t th kd bs us sth mk dr M sM) (pm_nil _)
    exact hret _ _ _ _ _ _ _ _ d_S_count_72 ⟨rfl, rfl⟩ hP hD hS (by decide) (by decide)
  · skip
    refine lv_tableOut (tgt := 73) hx hb d_S_count_1 hsw (by decide) ?_
    refine lv_iconst (v := -1) hx hb d_S_count_73 (by decide) ?_
    exact hret _ _ _ _ _ _ _ _ d_S_count_74 ⟨by simp only [whB, Bool.or_eq_false_iff, decide_eq_false_iff_not] at hwh; simp [coF, hwh], rfl⟩ hP hD hS (by decide) (by decide)
