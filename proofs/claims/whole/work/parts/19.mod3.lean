/-! the reference's public calls -/
theorem nd_same {us sth mk : Nat → Int32} {sM : Nat → Nat → Int32} {uu te ma va wa : Nat → Int32} (h : RR2 us sth mk sM uu te ma va) : fdF (fun j => decide (te j ≠ 0) && eqF (fun p => va (24 * j + p)) wa 24) 256 0 = ndF sth wa sM := by
  unfold ndF
  apply fdF_congr
  intro j h1 h2
  have hj : j < 256 := by omega
  show (decide (te j ≠ 0) && _) = (decide (sth j ≠ 0) && _)
  rw [h.2.1 j hj]
  by_cases e : sth j = 0
  · simp [e]
  · rw [eqF_congr 24 (fun p hp => h.2.2.2 j p hj hp e) (fun p hp => rfl)]
theorem fr_same {th ki : Nat → Int32} (h1 : ∀ i, i < 64 → (th i ≠ 0 ↔ ¬ ki i < 0)) {i : Nat} (hi : i < 64) : decide (th i = 0) = decide (ki i < 0) := by
  by_cases e : th i = 0
  · have : ki i < 0 := Classical.not_not.mp (fun q => (h1 i hi).mpr q e)
    simp [e, this]
  · have := (h1 i hi).mp e
    simp [e, this]
theorem te_01 {us sth mk : Nat → Int32} {sM : Nat → Nat → Int32} {uu te ma va : Nat → Int32} (h2 : RS2 us sth mk sM) (h : RR2 us sth mk sM uu te ma va) : ∀ j, j < 256 → te j = nI 0 ∨ te j = nI 1 := fun j hj => by rw [h.2.1 j hj]; exact h2.2.1 j hj
theorem le_0 {x : Int32} (h : x ≤ 0) (h2 : ¬ x < 0) : x = 0 := by
  rw [Int32.le_iff_toInt_le] at h
  rw [Int32.lt_iff_toInt_lt] at h2
  rw [show (0 : Int32).toInt = 0 from rfl] at h h2
  exact Int32.toInt_inj.mp (by rw [show (0 : Int32).toInt = 0 from rfl]; omega)

set_option maxRecDepth 100000 in
set_option maxHeartbeats 4000000 in
theorem c_Mfound (l : Launch) (D : va_G) (k : Nat → ClassId) (b : Nat → Nat) (cd : Int32) (ki ba ow uu te ma va wa : Nat → Int32) (th kd bs us sth mk : Nat → Int32) (M sM : Nat → Nat → Int32) (hR : RI th kd bs us sth mk M sM ki ba ow uu te ma va) (f9 : Nat) (hf9 : 0 < f9) (hf8 : f9 < 10) (sz : Nat) : bMI l y_M_found (wY y_M_found b_M_found 4 (some .int)) (rm9 3 0 0) D (tsK k) (mdW k b cd ki ba ow uu te ma va wa) sz [.ref (b 0), .int (nI f9)] (fun v w => (¬ ndF sth wa sM = -1 ∧ v = ndF sth wa sM ∧ w = mdW k b cd ki ba ow uu te ma va wa) ∨ (ndF sth wa sM = -1 ∧ ∃ i : Nat, i < 256 ∧ frF sth 256 = nI i ∧ v = nI i ∧ w = mdW k b (nI 0) ki ba ow uu (upd te i (nI 1)) (upd ma i (nI 0)) (rwF va i wa 24) wa) ∨ (ndF sth wa sM = -1 ∧ frF sth 256 = -1 ∧ w = mdW k b (nI f9) ki ba ow uu te ma va wa)) 0 0 := by
  refine ent_i (cc := b_M_found) (maxL := 4) (ty := .int) (by decide) (Nat.le_of_ble_eq_true rfl) (fun _ _ _ => rfl) ?_
  intro p e s m args below meth c A Q ls hx hb hml hown hts hsz hA hP hD hS hK hl hret
  refine lv_iconst (v := nI 0) hx hb d_M_found_0 (by decide) ?_
  refine lv_istore_n (lv' := [(2, .int (nI 0)), (0, .ref (b 0)), (1, .int (nI f9))]) hx hb d_M_found_1 rfl hl (by decide) rfl (fun ls hl => ?_)
  have lp : ∀ (n9 : Nat) (i : Nat) (ls : Array Slot) (H : Heap) (locs : List Loc), 256 - i < n9 → (i ≤ 256) → (fdF (fun j => decide (te j ≠ 0) && eqF (fun p => va (24 * j + p)) wa 24) 256 0 = fdF (fun j => decide (te j ≠ 0) && eqF (fun p => va (24 * j + p)) wa 24) (256 - i) i) → va_P D vwCl (mdW k b cd ki ba ow uu te ma va wa) H → va_D A (mdW k b cd ki ba ow uu te ma va wa) → va_S A s.heap H locs → lv_has ls 4 [(0, .ref (b 0)), (1, .int (nI f9)), (2, .int (nI i))] → W p l e (rm9 3 0 0) s m args below meth c H locs 0 0 Q (F0 m 2 ls []) := by
    intro n9
    induction n9 with
    | zero => intro i ls H locs hm; omega
    | succ n9 ih =>
      intro i ls H locs hm hi hf hP hD hS hl
      refine lv_iload_n hx hb d_M_found_2 rfl (lv_at hl 2 rfl) ?_
      refine lv_sipush (v := nI 256) hx hb d_M_found_3 (by decide) ?_
      refine lv_icmp_ge (tgt := 25) hx hb d_M_found_6 (by decide) (fun c6 => ?_) (fun c6 => ?_)
      · skip
        rw [nI_leI (by omega) (by omega)] at c6
        have hnd : ndF sth wa sM = -1 := by rw [← nd_same hR.2.2, hf, fdF_end (by omega)]
        refine lv_iconst (v := nI 0) hx hb d_M_found_25 (by decide) ?_
        refine lv_istore_n (lv' := [(2, .int (nI 0)), (0, .ref (b 0)), (1, .int (nI f9))]) hx hb d_M_found_26 rfl hl (by decide) rfl (fun ls hl => ?_)
        have lp2 : ∀ (n9 : Nat) (i : Nat) (ls : Array Slot), 256 - i < n9 → (i ≤ 256) → (fdF (fun i => decide (sth i = 0)) 256 0 = fdF (fun i => decide (sth i = 0)) (256 - i) i) → lv_has ls 4 [(0, .ref (b 0)), (1, .int (nI f9)), (2, .int (nI i))] → W p l e (rm9 3 0 0) s m args below meth c H locs 0 0 Q (F0 m 27 ls []) := by
          intro n9
          induction n9 with
          | zero => intro i ls hm; omega
          | succ n9 ih =>
            intro i ls hm hi hg hl
            refine lv_iload_n hx hb d_M_found_27 rfl (lv_at hl 2 rfl) ?_
            refine lv_sipush (v := nI 256) hx hb d_M_found_28 (by decide) ?_
            refine lv_icmp_ge (tgt := 49) hx hb d_M_found_31 (by decide) (fun c31 => ?_) (fun c31 => ?_)
            · skip
              rw [nI_leI (by omega) (by omega)] at c31
              obtain rfl : i = 256 := by omega
              have hfr : frF sth 256 = -1 := by show fdF _ 256 0 = -1; rw [hg, fdF_end (Nat.le_refl _)]
              refine lv_aload_n hx hb d_M_found_49 rfl (lv_at hl 0 rfl) ?_
              refine lv_iload_n hx hb d_M_found_50 rfl (lv_at hl 2 rfl) ?_
              refine lv_sipush (v := nI 256) hx hb d_M_found_51 (by decide) ?_
              refine lv_icmp_ne (tgt := 61) hx hb d_M_found_54 (by decide) (fun c54 => ?_) (fun c54 => ?_)
              · skip
                rw [nI_eq (by omega) (by omega)] at c54
                exact absurd rfl c54
              · skip
                rw [nI_eq (by omega) (by omega)] at c54
                refine lv_iload_n hx hb d_M_found_57 rfl (lv_at hl 1 rfl) ?_
                refine lv_goto (tgt := 62) hx hb d_M_found_58 (by decide) ?_
                refine va_put (D := D) (ci := ciMo) (v := .int (nI f9)) (ty := .int) (C := RM) (T := TM) (N := 9) hx hb hts inM tyM ttM nnM hown hK.1 hP hD hS 0 rfl rfl 0 (by decide) (hts _ wd_399) (fun _ h9 => h9) rfl (by decide +kernel) rfl rfl (Nat.le_of_ble_eq_true rfl) d_M_found_62 (fun H locs hP hD hS => ?_)
                have hP : va_P D vwCl (mdW k b (nI f9) ki ba ow uu te ma va wa) H := hP
                have hD : va_D A (mdW k b (nI f9) ki ba ow uu te ma va wa) := hD
                refine lv_aload_n hx hb d_M_found_65 rfl (lv_at hl 0 rfl) ?_
                refine va_get (D := D) (ci := ciMo) (v := .int (nI f9)) (C := RM) (T := TM) (N := 9) hx hb hts inM hown hK.1 hP 0 rfl rfl 0 (by decide) (hts _ wd_399) (fun _ h9 => h9) rfl d_M_found_66 ?_
                refine lv_if_le (tgt := 74) hx hb d_M_found_69 (by decide) (fun c69 => ?_) (fun c69 => ?_)
                · skip
                  exact absurd c69 (nI_nle hf9 (by omega))
                · skip
                  refine lv_iconst (v := nI 0) hx hb d_M_found_72 (by decide) ?_
                  exact hret _ _ _ _ _ _ _ _ d_M_found_73 (Or.inr (Or.inr ⟨hnd, hfr, rfl⟩)) hP hD hS (by decide) (by decide)
            · skip
              rw [nI_leI (by omega) (by omega)] at c31
              refine lv_aload_n hx hb d_M_found_34 rfl (lv_at hl 0 rfl) ?_
              refine va_get (D := D) (ci := ciMo) (v := .ref (b 5)) (C := RM) (T := TM) (N := 9) hx hb hts inM hown hK.1 hP 0 rfl rfl 5 (by decide) (hts _ wd_404) (fun _ h9 => h9) rfl d_M_found_35 ?_
              refine lv_iload_n hx hb d_M_found_38 rfl (lv_at hl 2 rfl) ?_
              refine rw_zald hx hb hK.1 hP 5 1 rfl rfl (j := i) (by omega) (by decide) d_M_found_39 ?_
              refine lv_if_eq (tgt := 49) hx hb d_M_found_40 (by decide) (fun c40 => ?_) (fun c40 => ?_)
              · skip
                have hi9 : i < 256 := by omega
                have hfr : frF sth 256 = nI i := by show fdF _ 256 0 = nI i; rw [hg, fdF_hit hi9 (by rw [← hR.2.2.2.1 i hi9, c40]; rfl)]
                refine lv_aload_n hx hb d_M_found_49 rfl (lv_at hl 0 rfl) ?_
                refine lv_iload_n hx hb d_M_found_50 rfl (lv_at hl 2 rfl) ?_
                refine lv_sipush (v := nI 256) hx hb d_M_found_51 (by decide) ?_
                refine lv_icmp_ne (tgt := 61) hx hb d_M_found_54 (by decide) (fun c54 => ?_) (fun c54 => ?_)
                · skip
                  rw [nI_eq (by omega) (by omega)] at c54
                  refine lv_iconst (v := nI 0) hx hb d_M_found_61 (by decide) ?_
                  refine va_put (D := D) (ci := ciMo) (v := .int (nI 0)) (ty := .int) (C := RM) (T := TM) (N := 9) hx hb hts inM tyM ttM nnM hown hK.1 hP hD hS 0 rfl rfl 0 (by decide) (hts _ wd_399) (fun _ h9 => h9) rfl (by decide +kernel) rfl rfl (Nat.le_of_ble_eq_true rfl) d_M_found_62 (fun H locs hP hD hS => ?_)
                  have hP : va_P D vwCl (mdW k b (nI 0) ki ba ow uu te ma va wa) H := hP
                  have hD : va_D A (mdW k b (nI 0) ki ba ow uu te ma va wa) := hD
                  refine lv_aload_n hx hb d_M_found_65 rfl (lv_at hl 0 rfl) ?_
                  refine va_get (D := D) (ci := ciMo) (v := .int (nI 0)) (C := RM) (T := TM) (N := 9) hx hb hts inM hown hK.1 hP 0 rfl rfl 0 (by decide) (hts _ wd_399) (fun _ h9 => h9) rfl d_M_found_66 ?_
                  refine lv_if_le (tgt := 74) hx hb d_M_found_69 (by decide) (fun c69 => ?_) (fun c69 => ?_)
                  · skip
                    refine lv_aload_n hx hb d_M_found_74 rfl (lv_at hl 0 rfl) ?_
                    refine va_get (D := D) (ci := ciMo) (v := .ref (b 5)) (C := RM) (T := TM) (N := 9) hx hb hts inM hown hK.1 hP 0 rfl rfl 5 (by decide) (hts _ wd_404) (fun _ h9 => h9) rfl d_M_found_75 ?_
                    refine lv_iload_n hx hb d_M_found_78 rfl (lv_at hl 2 rfl) ?_
                    refine lv_iconst (v := nI 1) hx hb d_M_found_79 (by decide) ?_
                    refine rw_zast hx hb hK.1 hP hD hS 5 1 rfl rfl (j := i) bz_1 (by omega) (by decide) d_M_found_80 (wn := mdW k b (nI 0) ki ba ow uu (upd te i (nI 1)) ma va wa) rfl (fun H locs hP hD hS => ?_)
                    refine lv_aload_n hx hb d_M_found_81 rfl (lv_at hl 0 rfl) ?_
                    refine va_get (D := D) (ci := ciMo) (v := .ref (b 6)) (C := RM) (T := TM) (N := 9) hx hb hts inM hown hK.1 hP 0 rfl rfl 6 (by decide) (hts _ wd_405) (fun _ h9 => h9) rfl d_M_found_82 ?_
                    refine lv_iload_n hx hb d_M_found_85 rfl (lv_at hl 2 rfl) ?_
                    refine lv_iconst (v := nI 0) hx hb d_M_found_86 (by decide) ?_
                    refine rw_zast hx hb hK.1 hP hD hS 6 1 rfl rfl (j := i) bz_0 (by omega) (by decide) d_M_found_87 (wn := mdW k b (nI 0) ki ba ow uu (upd te i (nI 1)) (upd ma i (nI 0)) va wa) rfl (fun H locs hP hD hS => ?_)
                    rw [← rwF_0 va i wa] at hP hD
                    refine lv_iconst (v := nI 0) hx hb d_M_found_88 (by decide) ?_
                    refine lv_istore_n (lv' := [(3, .int (nI 0)), (0, .ref (b 0)), (1, .int (nI f9)), (2, .int (nI i))]) hx hb d_M_found_89 rfl hl (by decide) rfl (fun ls hl => ?_)
                    have lp3 : ∀ (n9 : Nat) (q : Nat) (ls : Array Slot) (H : Heap) (locs : List Loc), 24 - q < n9 → (q ≤ 24) → va_P D vwCl (mdW k b (nI 0) ki ba ow uu (upd te i (nI 1)) (upd ma i (nI 0)) (rwF va i wa q) wa) H → va_D A (mdW k b (nI 0) ki ba ow uu (upd te i (nI 1)) (upd ma i (nI 0)) (rwF va i wa q) wa) → va_S A s.heap H locs → lv_has ls 4 [(0, .ref (b 0)), (1, .int (nI f9)), (2, .int (nI i)), (3, .int (nI q))] → W p l e (rm9 3 0 0) s m args below meth c H locs 0 0 Q (F0 m 90 ls []) := by
                      intro n9
                      induction n9 with
                      | zero => intro q ls H locs hm; omega
                      | succ n9 ih =>
                        intro q ls H locs hm hq hP hD hS hl
                        refine lv_iload_n hx hb d_M_found_90 rfl (lv_at hl 3 rfl) ?_
                        refine lv_bipush (v := nI 24) hx hb d_M_found_91 (by decide) ?_
                        refine lv_icmp_ge (tgt := 119) hx hb d_M_found_93 (by decide) (fun c93 => ?_) (fun c93 => ?_)
                        · skip
                          rw [nI_leI (by omega) (by omega)] at c93
                          refine lv_iload_n hx hb d_M_found_119 rfl (lv_at hl 2 rfl) ?_
                          obtain rfl : q = 24 := by omega
                          exact hret _ _ _ _ _ _ _ _ d_M_found_120 (Or.inr (Or.inl ⟨hnd, i, hi9, hfr, rfl, rfl⟩)) hP hD hS (by decide) (by decide)
                        · skip
                          rw [nI_leI (by omega) (by omega)] at c93
                          refine lv_aload_n hx hb d_M_found_96 rfl (lv_at hl 0 rfl) ?_
                          refine va_get (D := D) (ci := ciMo) (v := .ref (b 7)) (C := RM) (T := TM) (N := 9) hx hb hts inM hown hK.1 hP 0 rfl rfl 7 (by decide) (hts _ wd_406) (fun _ h9 => h9) rfl d_M_found_97 ?_
                          refine lv_bipush (v := nI 24) hx hb d_M_found_100 (by decide) ?_
                          refine lv_iload_n hx hb d_M_found_102 rfl (lv_at hl 2 rfl) ?_
                          refine lv_imul hx hb d_M_found_103 ?_
                          rw [pk_mul]
                          refine lv_iload_n hx hb d_M_found_104 rfl (lv_at hl 3 rfl) ?_
                          refine lv_iadd hx hb d_M_found_105 ?_
                          rw [nI_add]
                          refine lv_aload_n hx hb d_M_found_106 rfl (lv_at hl 0 rfl) ?_
                          refine va_get (D := D) (ci := ciMo) (v := .ref (b 8)) (C := RM) (T := TM) (N := 9) hx hb hts inM hown hK.1 hP 0 rfl rfl 8 (by decide) (hts _ wd_407) (fun _ h9 => h9) rfl d_M_found_107 ?_
                          refine lv_iload_n hx hb d_M_found_110 rfl (lv_at hl 3 rfl) ?_
                          refine rw_iald hx hb hK.1 hP 8 0 rfl rfl (j := q) (by omega) (by decide) d_M_found_111 ?_
                          refine rw_iast hx hb hK.1 hP hD hS 7 0 rfl rfl (j := ((24 * i) + q)) (by omega) (by decide) d_M_found_112 (wn := mdW k b (nI 0) ki ba ow uu (upd te i (nI 1)) (upd ma i (nI 0)) (rwF va i wa (q + 1)) wa) (by rw [← rwF_s (f := va) (g := wa) (j := i) (q := q) (x := wa q) rfl]; rfl) (fun H locs hP hD hS => ?_)
                          refine lv_iinc (v := nI (q + 1)) (lv' := [(3, .int (nI (q + 1))), (0, .ref (b 0)), (1, .int (nI f9)), (2, .int (nI i))]) hx hb d_M_found_113 hl (k := 3) rfl (ii_1 _) (by decide) rfl (fun ls hl => ?_)
                          refine lv_goto (tgt := 90) hx hb d_M_found_116 (by decide) ?_
                          exact ih (q + 1) ls H locs (by omega) (by omega) hP hD hS (lv_sub hl [1, 2, 3, 0] rfl)
                    exact lp3 _ (0) ls H locs (Nat.lt_succ_self _) (by decide) hP hD hS (lv_sub hl [1, 2, 3, 0] rfl)
                  · skip
                    exact absurd (by decide) c69
                · skip
                  rw [nI_eq (by omega) (by omega)] at c54
                  omega
              · skip
                refine lv_iinc (v := nI (i + 1)) (lv' := [(2, .int (nI (i + 1))), (0, .ref (b 0)), (1, .int (nI f9))]) hx hb d_M_found_43 hl (k := 2) rfl (ii_1 _) (by decide) rfl (fun ls hl => ?_)
                refine lv_goto (tgt := 27) hx hb d_M_found_46 (by decide) ?_
                exact ih (i + 1) ls (by omega) (by omega) (by rw [hg]; exact fdF_miss (by omega) (by rw [← hR.2.2.2.1 i (by omega)]; exact decide_eq_false c40)) (lv_sub hl [1, 2, 0] rfl)
        exact lp2 _ (0) ls (Nat.lt_succ_self _) (by decide) rfl (lv_sub hl [1, 2, 0] rfl)
      · skip
        rw [nI_leI (by omega) (by omega)] at c6
        refine lv_aload_n hx hb d_M_found_9 rfl (lv_at hl 0 rfl) ?_
        refine lv_iload_n hx hb d_M_found_10 rfl (lv_at hl 2 rfl) ?_
        refine cal_i (wc := mdW k b cd ki ba ow uu te ma va wa) (wr := []) (va_runV (As := [.int (nI i)]) (rest := []) ⟨hx, hb, hml, hown, hts⟩ (c_MisWanted l D k b cd ki ba ow uu te ma va wa (te_01 hR.1.2 hR.2.2) i (by omega) H.size) (cwV9 1 hts wd_520 wd_517 wd_519 ws_31 wd_4 (by decide) ⟨Nat.le_of_ble_eq_true rfl, Nat.le_of_ble_eq_true rfl⟩) (prV (q0 := 0) (ci := ciMo) hK hP hD (pm_nil' _) rfl rfl) rfl rfl hl.1 rfl (lv_room (Nat.le_of_ble_eq_true rfl)) d_M_found_11 ⟨by decide, by decide⟩) (pm_nil' _) hP hD hS hA (fun r w1 H locs hw hpd hS => ?_)
        obtain ⟨rfl, rfl⟩ := hw
        obtain ⟨hP, hD⟩ := hpd (mdW k b cd ki ba ow uu te ma va wa) (pm_nil _)
        refine lv_if_eq (tgt := 19) hx hb d_M_found_14 (by decide) (fun c14 => ?_) (fun c14 => ?_)
        · skip
          have c14 := b_of0 c14
          refine lv_iinc (v := nI (i + 1)) (lv' := [(2, .int (nI (i + 1))), (0, .ref (b 0)), (1, .int (nI f9))]) hx hb d_M_found_19 hl (k := 2) rfl (ii_1 _) (by decide) rfl (fun ls hl => ?_)
          refine lv_goto (tgt := 2) hx hb d_M_found_22 (by decide) ?_
          exact ih (i + 1) ls H locs (by omega) (by omega) (by rw [hf]; exact fdF_miss (by omega) c14) hP hD hS (lv_sub hl [1, 2, 0] rfl)
        · skip
          have c14 := b_of1 c14
          refine lv_iload_n hx hb d_M_found_17 rfl (lv_at hl 2 rfl) ?_
          exact hret _ _ _ _ _ _ _ _ d_M_found_18 (Or.inl ⟨by rw [← nd_same hR.2.2, hf, fdF_hit (by omega) c14]; exact ne_m1 (by omega), by rw [← nd_same hR.2.2, hf, fdF_hit (by omega) c14], rfl⟩) hP hD hS (by decide) (by decide)
  exact lp _ (0) ls s.heap [] (Nat.lt_succ_self _) (by decide) rfl hP hD hS (lv_sub hl [1, 2, 0] rfl)
