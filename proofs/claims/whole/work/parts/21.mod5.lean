/-! the reference's calls that write styles and sets -/
theorem nd_congr {sth dr dr' : Nat → Int32} {sM : Nat → Nat → Int32} (h : ∀ p, p < 24 → dr p = dr' p) : ndF sth dr sM = ndF sth dr' sM := by
  unfold ndF
  apply fdF_congr
  intro i _ _
  rw [eqF_congr 24 (fun _ _ => rfl) h]
/-- what comes of a wanted row g: its number, a new one, or none is left -/
def fdP (k : Nat → ClassId) (b : Nat → Nat) (ki ba ow uu te ma va : Nat → Int32) (sth : Nat → Int32) (sM : Nat → Nat → Int32) (g : Nat → Int32) (f9 : Nat) (v : Int32) (w : va_W) : Prop :=
  ∃ wa : Nat → Int32, (∀ p, p < 24 → wa p = g p) ∧ ((¬ ndF sth g sM = -1 ∧ v = ndF sth g sM ∧ w = mdW k b (nI 0) ki ba ow uu te ma va wa) ∨
    (ndF sth g sM = -1 ∧ ∃ i : Nat, i < 256 ∧ frF sth 256 = nI i ∧ v = nI i ∧ w = mdW k b (nI 0) ki ba ow uu (upd te i (nI 1)) (upd ma i (nI 0)) (rwF va i wa 24) wa) ∨
    (ndF sth g sM = -1 ∧ frF sth 256 = -1 ∧ w = mdW k b (nI f9) ki ba ow uu te ma va wa))
theorem fdP_of {k : Nat → ClassId} {b : Nat → Nat} {ki ba ow uu te ma va wa : Nat → Int32} {sth : Nat → Int32} {sM : Nat → Nat → Int32} {g : Nat → Int32} {f9 : Nat} {v : Int32} {w : va_W} (hg : ∀ p, p < 24 → wa p = g p)
    (h : (¬ ndF sth wa sM = -1 ∧ v = ndF sth wa sM ∧ w = mdW k b (nI 0) ki ba ow uu te ma va wa) ∨ (ndF sth wa sM = -1 ∧ ∃ i : Nat, i < 256 ∧ frF sth 256 = nI i ∧ v = nI i ∧ w = mdW k b (nI 0) ki ba ow uu (upd te i (nI 1)) (upd ma i (nI 0)) (rwF va i wa 24) wa) ∨ (ndF sth wa sM = -1 ∧ frF sth 256 = -1 ∧ w = mdW k b (nI f9) ki ba ow uu te ma va wa)) :
    fdP k b ki ba ow uu te ma va sth sM g f9 v w := by
  rw [nd_congr hg] at h
  exact ⟨wa, hg, h⟩
theorem vi_0 {M : Nat → Nat → Int32} {i : Nat} (h : ∀ p, p < 24 → M i p = -1) : viF M i = 0 := by
  unfold viF
  rw [cnF_congr (g := fun _ => false) 24 (fun p hp => by simp [h p hp])]
  rfl
theorem smF_s (f : Nat → Nat) (i : Nat) : smF f i + f i = smF f (i + 1) := rfl
theorem mxF_s (f : Nat → Nat) (i : Nat) : mxF f (i + 1) = if mxF f i < f i then f i else mxF f i := rfl

set_option maxRecDepth 100000 in
set_option maxHeartbeats 4000000 in
theorem c_Mmake (l : Launch) (D : va_G) (k : Nat → ClassId) (b : Nat → Nat) (cd : Int32) (ki ba ow uu te ma va wa : Nat → Int32) (th kd bs us sth mk : Nat → Int32) (M sM : Nat → Nat → Int32) (hR : RI th kd bs us sth mk M sM ki ba ow uu te ma va) (x y : Int32) (sz : Nat) : bMI l y_M_make (wY y_M_make b_M_make 5 (some .int)) (rm9 4 0 0) D (tsK k) (mdW k b cd ki ba ow uu te ma va wa) sz [.ref (b 0), .int x, .int y] (fun v w => (cdMk th kd x y = 0 ∧ ∃ j : Nat, j < 64 ∧ frF th 64 = nI j ∧ v = nI j ∧ w = mdW k b (nI 0) (upd ki j x) (upd ba j y) (rwF ow j (fun _ => -1) 24) uu te ma va wa) ∨ (¬ cdMk th kd x y = 0 ∧ w = mdW k b (nI (cdMk th kd x y)) ki ba ow uu te ma va wa)) 0 0 := by
  refine ent_i (cc := b_M_make) (maxL := 5) (ty := .int) (by decide) (Nat.le_of_ble_eq_true rfl) (fun _ _ _ => rfl) ?_
  intro p e s m args below meth c A Q ls hx hb hml hown hts hsz hA hP hD hS hK hl hret
  refine lv_aload_n hx hb d_M_make_0 rfl (lv_at hl 0 rfl) ?_
  refine lv_iload_n hx hb d_M_make_1 rfl (lv_at hl 1 rfl) ?_
  refine lv_iconst (v := nI 0) hx hb d_M_make_2 (by decide) ?_
  refine lv_iconst (v := nI 1) hx hb d_M_make_3 (by decide) ?_
  refine cal_i (wc := []) (wr := mdW k b cd ki ba ow uu te ma va wa) (va_runS (As := [.int x, .int (nI 0), .int (nI 1)]) (rest := [.ref (b 0)]) ⟨hx, hb, hml, hown, hts⟩ (c_Min l D k x (nI 0) (nI 1) s.heap.size) (cwS9 3 hts wd_437 wd_435 wd_436 wd_4 (by decide) ⟨Nat.le_of_ble_eq_true rfl, Nat.le_of_ble_eq_true rfl⟩) (prS hK hP hD (List.Perm.refl _)) rfl rfl hl.1 rfl (lv_room (Nat.le_of_ble_eq_true rfl)) d_M_make_4 ⟨by decide, by decide⟩) (List.Perm.refl _) hP hD hS hA (fun r w1 H locs hw hpd hS => ?_)
  obtain ⟨rfl, rfl⟩ := hw
  obtain ⟨hP, hD⟩ := hpd (mdW k b cd ki ba ow uu te ma va wa) (List.Perm.refl _)
  refine lv_if_eq (tgt := 19) hx hb d_M_make_7 (by decide) (fun c7 => ?_) (fun c7 => ?_)
  · skip
    have c7 := (inB_kd x).symm.trans (b_of0 c7)
    refine lv_iconst (v := nI 1) hx hb d_M_make_19 (by decide) ?_
    refine lv_goto (tgt := 24) hx hb d_M_make_20 (by decide) ?_
    refine va_put (D := D) (ci := ciMo) (v := .int (nI 1)) (ty := .int) (C := RM) (T := TM) (N := 9) hx hb hts inM tyM ttM nnM hown hK.1 hP hD hS 0 rfl rfl 0 (by decide) (hts _ wd_399) (fun _ h9 => h9) rfl (by decide +kernel) rfl rfl (Nat.le_of_ble_eq_true rfl) d_M_make_24 (fun H locs hP hD hS => ?_)
    have hP : va_P D vwCl (mdW k b (nI 1) ki ba ow uu te ma va wa) H := hP
    have hD : va_D A (mdW k b (nI 1) ki ba ow uu te ma va wa) := hD
    refine lv_aload_n hx hb d_M_make_27 rfl (lv_at hl 0 rfl) ?_
    refine va_get (D := D) (ci := ciMo) (v := .int (nI 1)) (C := RM) (T := TM) (N := 9) hx hb hts inM hown hK.1 hP 0 rfl rfl 0 (by decide) (hts _ wd_399) (fun _ h9 => h9) rfl d_M_make_28 ?_
    refine lv_if_le (tgt := 36) hx hb d_M_make_31 (by decide) (fun c31 => ?_) (fun c31 => ?_)
    · skip
      exact absurd c31 (by decide)
    · skip
      refine lv_iconst (v := nI 0) hx hb d_M_make_34 (by decide) ?_
      exact hret _ _ _ _ _ _ _ _ d_M_make_35 (Or.inr ⟨by simp [cdMk, c7], by rw [show cdMk th kd x y = 1 by simp [cdMk, c7]]⟩) hP hD hS (by decide) (by decide)
  · skip
    have c7 := (inB_kd x).symm.trans (b_of1 c7)
    refine lv_aload_n hx hb d_M_make_10 rfl (lv_at hl 0 rfl) ?_
    refine lv_iload_n hx hb d_M_make_11 rfl (lv_at hl 2 rfl) ?_
    refine lv_iload_n hx hb d_M_make_12 rfl (lv_at hl 1 rfl) ?_
    refine cal_i (wc := mdW k b cd ki ba ow uu te ma va wa) (wr := []) (va_runV (As := [.int y, .int x]) (rest := [.ref (b 0)]) ⟨hx, hb, hml, hown, hts⟩ (c_MisOf l D k b cd ki ba ow uu te ma va wa th kd hR.2.1.1 hR.2.1.2.1 y x H.size) (cwV9 2 hts wd_441 wd_438 wd_440 ws_21 wd_4 (by decide) ⟨Nat.le_of_ble_eq_true rfl, Nat.le_of_ble_eq_true rfl⟩) (prV (q0 := 0) (ci := ciMo) hK hP hD (pm_nil' _) rfl rfl) rfl rfl hl.1 rfl (lv_room (Nat.le_of_ble_eq_true rfl)) d_M_make_13 ⟨by decide, by decide⟩) (pm_nil' _) hP hD hS hA (fun r w1 H locs hw hpd hS => ?_)
    obtain ⟨rfl, rfl⟩ := hw
    obtain ⟨hP, hD⟩ := hpd (mdW k b cd ki ba ow uu te ma va wa) (pm_nil _)
    refine lv_if_ne (tgt := 23) hx hb d_M_make_16 (by decide) (fun c16 => ?_) (fun c16 => ?_)
    · skip
      have c16 := b_of1 c16
      refine lv_iconst (v := nI 0) hx hb d_M_make_23 (by decide) ?_
      refine va_put (D := D) (ci := ciMo) (v := .int (nI 0)) (ty := .int) (C := RM) (T := TM) (N := 9) hx hb hts inM tyM ttM nnM hown hK.1 hP hD hS 0 rfl rfl 0 (by decide) (hts _ wd_399) (fun _ h9 => h9) rfl (by decide +kernel) rfl rfl (Nat.le_of_ble_eq_true rfl) d_M_make_24 (fun H locs hP hD hS => ?_)
      have hP : va_P D vwCl (mdW k b (nI 0) ki ba ow uu te ma va wa) H := hP
      have hD : va_D A (mdW k b (nI 0) ki ba ow uu te ma va wa) := hD
      refine lv_aload_n hx hb d_M_make_27 rfl (lv_at hl 0 rfl) ?_
      refine va_get (D := D) (ci := ciMo) (v := .int (nI 0)) (C := RM) (T := TM) (N := 9) hx hb hts inM hown hK.1 hP 0 rfl rfl 0 (by decide) (hts _ wd_399) (fun _ h9 => h9) rfl d_M_make_28 ?_
      refine lv_if_le (tgt := 36) hx hb d_M_make_31 (by decide) (fun c31 => ?_) (fun c31 => ?_)
      · skip
        refine lv_iconst (v := nI 0) hx hb d_M_make_36 (by decide) ?_
        refine lv_istore_n (lv' := [(3, .int (nI 0)), (0, .ref (b 0)), (1, .int x), (2, .int y)]) hx hb d_M_make_37 rfl hl (by decide) rfl (fun ls hl => ?_)
        have lp : ∀ (n9 : Nat) (i : Nat) (ls : Array Slot), 64 - i < n9 → (i ≤ 64) → (fdF (fun i => decide (th i = 0)) 64 0 = fdF (fun i => decide (th i = 0)) (64 - i) i) → lv_has ls 5 [(0, .ref (b 0)), (1, .int x), (2, .int y), (3, .int (nI i))] → W p l e (rm9 4 0 0) s m args below meth c H locs 0 0 Q (F0 m 38 ls []) := by
          intro n9
          induction n9 with
          | zero => intro i ls hm; omega
          | succ n9 ih =>
            intro i ls hm hi hg hl
            refine lv_iload_n hx hb d_M_make_38 rfl (lv_at hl 3 rfl) ?_
            refine lv_bipush (v := nI 64) hx hb d_M_make_39 (by decide) ?_
            refine lv_icmp_ge (tgt := 59) hx hb d_M_make_41 (by decide) (fun c41 => ?_) (fun c41 => ?_)
            · skip
              rw [nI_leI (by omega) (by omega)] at c41
              obtain rfl : i = 64 := by omega
              have hfr : frF th 64 = -1 := by show fdF _ 64 0 = -1; rw [hg, fdF_end (Nat.le_refl _)]
              refine lv_aload_n hx hb d_M_make_59 rfl (lv_at hl 0 rfl) ?_
              refine lv_iload_n hx hb d_M_make_60 rfl (lv_at hl 3 rfl) ?_
              refine lv_bipush (v := nI 64) hx hb d_M_make_61 (by decide) ?_
              refine lv_icmp_ne (tgt := 70) hx hb d_M_make_63 (by decide) (fun c63 => ?_) (fun c63 => ?_)
              · skip
                rw [nI_eq (by omega) (by omega)] at c63
                exact absurd rfl c63
              · skip
                rw [nI_eq (by omega) (by omega)] at c63
                refine lv_iconst (v := nI 2) hx hb d_M_make_66 (by decide) ?_
                refine lv_goto (tgt := 71) hx hb d_M_make_67 (by decide) ?_
                refine va_put (D := D) (ci := ciMo) (v := .int (nI 2)) (ty := .int) (C := RM) (T := TM) (N := 9) hx hb hts inM tyM ttM nnM hown hK.1 hP hD hS 0 rfl rfl 0 (by decide) (hts _ wd_399) (fun _ h9 => h9) rfl (by decide +kernel) rfl rfl (Nat.le_of_ble_eq_true rfl) d_M_make_71 (fun H locs hP hD hS => ?_)
                have hP : va_P D vwCl (mdW k b (nI 2) ki ba ow uu te ma va wa) H := hP
                have hD : va_D A (mdW k b (nI 2) ki ba ow uu te ma va wa) := hD
                refine lv_aload_n hx hb d_M_make_74 rfl (lv_at hl 0 rfl) ?_
                refine va_get (D := D) (ci := ciMo) (v := .int (nI 2)) (C := RM) (T := TM) (N := 9) hx hb hts inM hown hK.1 hP 0 rfl rfl 0 (by decide) (hts _ wd_399) (fun _ h9 => h9) rfl d_M_make_75 ?_
                refine lv_if_le (tgt := 83) hx hb d_M_make_78 (by decide) (fun c78 => ?_) (fun c78 => ?_)
                · skip
                  exact absurd c78 (by decide)
                · skip
                  refine lv_iconst (v := nI 0) hx hb d_M_make_81 (by decide) ?_
                  exact hret _ _ _ _ _ _ _ _ d_M_make_82 (Or.inr ⟨by simp [cdMk, c7, c16, hfr], by rw [show cdMk th kd x y = 2 by simp [cdMk, c7, c16, hfr]]⟩) hP hD hS (by decide) (by decide)
            · skip
              rw [nI_leI (by omega) (by omega)] at c41
              refine lv_aload_n hx hb d_M_make_44 rfl (lv_at hl 0 rfl) ?_
              refine va_get (D := D) (ci := ciMo) (v := .ref (b 1)) (C := RM) (T := TM) (N := 9) hx hb hts inM hown hK.1 hP 0 rfl rfl 1 (by decide) (hts _ wd_400) (fun _ h9 => h9) rfl d_M_make_45 ?_
              refine lv_iload_n hx hb d_M_make_48 rfl (lv_at hl 3 rfl) ?_
              refine rw_iald hx hb hK.1 hP 1 0 rfl rfl (j := i) (by omega) (by decide) d_M_make_49 ?_
              refine lv_if_lt (tgt := 59) hx hb d_M_make_50 (by decide) (fun c50 => ?_) (fun c50 => ?_)
              · skip
                have hi9 : i < 64 := by omega
                have hfr : frF th 64 = nI i := by show fdF _ 64 0 = nI i; rw [hg, fdF_hit hi9 ((fr_same hR.2.1.1 hi9).trans (decide_eq_true c50))]
                refine lv_aload_n hx hb d_M_make_59 rfl (lv_at hl 0 rfl) ?_
                refine lv_iload_n hx hb d_M_make_60 rfl (lv_at hl 3 rfl) ?_
                refine lv_bipush (v := nI 64) hx hb d_M_make_61 (by decide) ?_
                refine lv_icmp_ne (tgt := 70) hx hb d_M_make_63 (by decide) (fun c63 => ?_) (fun c63 => ?_)
                · skip
                  rw [nI_eq (by omega) (by omega)] at c63
                  refine lv_iconst (v := nI 0) hx hb d_M_make_70 (by decide) ?_
                  refine va_put (D := D) (ci := ciMo) (v := .int (nI 0)) (ty := .int) (C := RM) (T := TM) (N := 9) hx hb hts inM tyM ttM nnM hown hK.1 hP hD hS 0 rfl rfl 0 (by decide) (hts _ wd_399) (fun _ h9 => h9) rfl (by decide +kernel) rfl rfl (Nat.le_of_ble_eq_true rfl) d_M_make_71 (fun H locs hP hD hS => ?_)
                  have hP : va_P D vwCl (mdW k b (nI 0) ki ba ow uu te ma va wa) H := hP
                  have hD : va_D A (mdW k b (nI 0) ki ba ow uu te ma va wa) := hD
                  refine lv_aload_n hx hb d_M_make_74 rfl (lv_at hl 0 rfl) ?_
                  refine va_get (D := D) (ci := ciMo) (v := .int (nI 0)) (C := RM) (T := TM) (N := 9) hx hb hts inM hown hK.1 hP 0 rfl rfl 0 (by decide) (hts _ wd_399) (fun _ h9 => h9) rfl d_M_make_75 ?_
                  refine lv_if_le (tgt := 83) hx hb d_M_make_78 (by decide) (fun c78 => ?_) (fun c78 => ?_)
                  · skip
                    refine lv_aload_n hx hb d_M_make_83 rfl (lv_at hl 0 rfl) ?_
                    refine va_get (D := D) (ci := ciMo) (v := .ref (b 1)) (C := RM) (T := TM) (N := 9) hx hb hts inM hown hK.1 hP 0 rfl rfl 1 (by decide) (hts _ wd_400) (fun _ h9 => h9) rfl d_M_make_84 ?_
                    refine lv_iload_n hx hb d_M_make_87 rfl (lv_at hl 3 rfl) ?_
                    refine lv_iload_n hx hb d_M_make_88 rfl (lv_at hl 1 rfl) ?_
                    refine rw_iast hx hb hK.1 hP hD hS 1 0 rfl rfl (j := i) (by omega) (by decide) d_M_make_89 (wn := mdW k b (nI 0) (upd ki i x) ba ow uu te ma va wa) rfl (fun H locs hP hD hS => ?_)
                    refine lv_aload_n hx hb d_M_make_90 rfl (lv_at hl 0 rfl) ?_
                    refine va_get (D := D) (ci := ciMo) (v := .ref (b 2)) (C := RM) (T := TM) (N := 9) hx hb hts inM hown hK.1 hP 0 rfl rfl 2 (by decide) (hts _ wd_401) (fun _ h9 => h9) rfl d_M_make_91 ?_
                    refine lv_iload_n hx hb d_M_make_94 rfl (lv_at hl 3 rfl) ?_
                    refine lv_iload_n hx hb d_M_make_95 rfl (lv_at hl 2 rfl) ?_
                    refine rw_iast hx hb hK.1 hP hD hS 2 0 rfl rfl (j := i) (by omega) (by decide) d_M_make_96 (wn := mdW k b (nI 0) (upd ki i x) (upd ba i y) ow uu te ma va wa) rfl (fun H locs hP hD hS => ?_)
                    rw [← rwF_0 ow i (fun _ => -1)] at hP hD
                    refine lv_iconst (v := nI 0) hx hb d_M_make_97 (by decide) ?_
                    refine lv_istore (lv' := [(4, .int (nI 0)), (0, .ref (b 0)), (1, .int x), (2, .int y), (3, .int (nI i))]) hx hb d_M_make_98 hl (by decide) rfl (fun ls hl => ?_)
                    have lp3 : ∀ (n9 : Nat) (q : Nat) (ls : Array Slot) (H : Heap) (locs : List Loc), 24 - q < n9 → (q ≤ 24) → va_P D vwCl (mdW k b (nI 0) (upd ki i x) (upd ba i y) (rwF ow i (fun _ => -1) q) uu te ma va wa) H → va_D A (mdW k b (nI 0) (upd ki i x) (upd ba i y) (rwF ow i (fun _ => -1) q) uu te ma va wa) → va_S A s.heap H locs → lv_has ls 5 [(0, .ref (b 0)), (1, .int x), (2, .int y), (3, .int (nI i)), (4, .int (nI q))] → W p l e (rm9 4 0 0) s m args below meth c H locs 0 0 Q (F0 m 100 ls []) := by
                      intro n9
                      induction n9 with
                      | zero => intro q ls H locs hm; omega
                      | succ n9 ih =>
                        intro q ls H locs hm hq hP hD hS hl
                        refine lv_iload hx hb d_M_make_100 (lv_at hl 4 rfl) ?_
                        refine lv_bipush (v := nI 24) hx hb d_M_make_102 (by decide) ?_
                        refine lv_icmp_ge (tgt := 126) hx hb d_M_make_104 (by decide) (fun c104 => ?_) (fun c104 => ?_)
                        · skip
                          rw [nI_leI (by omega) (by omega)] at c104
                          refine lv_iload_n hx hb d_M_make_126 rfl (lv_at hl 3 rfl) ?_
                          obtain rfl : q = 24 := by omega
                          exact hret _ _ _ _ _ _ _ _ d_M_make_127 (Or.inl ⟨by simp [cdMk, c7, c16, hfr, ne_m1 (show i < 2 ^ 31 by omega)], i, hi9, hfr, rfl, rfl⟩) hP hD hS (by decide) (by decide)
                        · skip
                          rw [nI_leI (by omega) (by omega)] at c104
                          refine lv_aload_n hx hb d_M_make_107 rfl (lv_at hl 0 rfl) ?_
                          refine va_get (D := D) (ci := ciMo) (v := .ref (b 3)) (C := RM) (T := TM) (N := 9) hx hb hts inM hown hK.1 hP 0 rfl rfl 3 (by decide) (hts _ wd_402) (fun _ h9 => h9) rfl d_M_make_108 ?_
                          refine lv_bipush (v := nI 24) hx hb d_M_make_111 (by decide) ?_
                          refine lv_iload_n hx hb d_M_make_113 rfl (lv_at hl 3 rfl) ?_
                          refine lv_imul hx hb d_M_make_114 ?_
                          rw [pk_mul]
                          refine lv_iload hx hb d_M_make_115 (lv_at hl 4 rfl) ?_
                          refine lv_iadd hx hb d_M_make_117 ?_
                          rw [nI_add]
                          refine lv_iconst (v := -1) hx hb d_M_make_118 (by decide) ?_
                          refine rw_iast hx hb hK.1 hP hD hS 3 0 rfl rfl (j := ((24 * i) + q)) (by omega) (by decide) d_M_make_119 (wn := mdW k b (nI 0) (upd ki i x) (upd ba i y) (rwF ow i (fun _ => -1) (q + 1)) uu te ma va wa) (by rw [← rwF_s (f := ow) (g := (fun _ => -1)) (j := i) (q := q) (x := -1) rfl]; rfl) (fun H locs hP hD hS => ?_)
                          refine lv_iinc (v := nI (q + 1)) (lv' := [(4, .int (nI (q + 1))), (0, .ref (b 0)), (1, .int x), (2, .int y), (3, .int (nI i))]) hx hb d_M_make_120 hl (k := 4) rfl (ii_1 _) (by decide) rfl (fun ls hl => ?_)
                          refine lv_goto (tgt := 100) hx hb d_M_make_123 (by decide) ?_
                          exact ih (q + 1) ls H locs (by omega) (by omega) hP hD hS (lv_sub hl [1, 2, 3, 4, 0] rfl)
                    exact lp3 _ (0) ls H locs (Nat.lt_succ_self _) (by decide) hP hD hS (lv_sub hl [1, 2, 3, 4, 0] rfl)
                  · skip
                    exact absurd (by decide) c78
                · skip
                  rw [nI_eq (by omega) (by omega)] at c63
                  omega
              · skip
                refine lv_iinc (v := nI (i + 1)) (lv' := [(3, .int (nI (i + 1))), (0, .ref (b 0)), (1, .int x), (2, .int y)]) hx hb d_M_make_53 hl (k := 3) rfl (ii_1 _) (by decide) rfl (fun ls hl => ?_)
                refine lv_goto (tgt := 38) hx hb d_M_make_56 (by decide) ?_
                exact ih (i + 1) ls (by omega) (by omega) (by rw [hg]; exact fdF_miss (by omega) ((fr_same hR.2.1.1 (by omega)).trans (decide_eq_false c50))) (lv_sub hl [1, 2, 3, 0] rfl)
        exact lp _ (0) ls (Nat.lt_succ_self _) (by decide) rfl (lv_sub hl [1, 2, 3, 0] rfl)
      · skip
        exact absurd (by decide) c31
    · skip
      have c16 := b_of0 c16
      refine lv_iconst (v := nI 1) hx hb d_M_make_19 (by decide) ?_
      refine lv_goto (tgt := 24) hx hb d_M_make_20 (by decide) ?_
      refine va_put (D := D) (ci := ciMo) (v := .int (nI 1)) (ty := .int) (C := RM) (T := TM) (N := 9) hx hb hts inM tyM ttM nnM hown hK.1 hP hD hS 0 rfl rfl 0 (by decide) (hts _ wd_399) (fun _ h9 => h9) rfl (by decide +kernel) rfl rfl (Nat.le_of_ble_eq_true rfl) d_M_make_24 (fun H locs hP hD hS => ?_)
      have hP : va_P D vwCl (mdW k b (nI 1) ki ba ow uu te ma va wa) H := hP
      have hD : va_D A (mdW k b (nI 1) ki ba ow uu te ma va wa) := hD
      refine lv_aload_n hx hb d_M_make_27 rfl (lv_at hl 0 rfl) ?_
      refine va_get (D := D) (ci := ciMo) (v := .int (nI 1)) (C := RM) (T := TM) (N := 9) hx hb hts inM hown hK.1 hP 0 rfl rfl 0 (by decide) (hts _ wd_399) (fun _ h9 => h9) rfl d_M_make_28 ?_
      refine lv_if_le (tgt := 36) hx hb d_M_make_31 (by decide) (fun c31 => ?_) (fun c31 => ?_)
      · skip
        exact absurd c31 (by decide)
      · skip
        refine lv_iconst (v := nI 0) hx hb d_M_make_34 (by decide) ?_
        exact hret _ _ _ _ _ _ _ _ d_M_make_35 (Or.inr ⟨by simp [cdMk, c7, c16], by rw [show cdMk th kd x y = 1 by simp [cdMk, c7, c16]]⟩) hP hD hS (by decide) (by decide)

set_option maxRecDepth 100000 in
set_option maxHeartbeats 4000000 in
theorem c_Mdrop (l : Launch) (D : va_G) (k : Nat → ClassId) (b : Nat → Nat) (cd : Int32) (ki ba ow uu te ma va wa : Nat → Int32) (th kd bs us sth mk : Nat → Int32) (M sM : Nat → Nat → Int32) (hR : RI th kd bs us sth mk M sM ki ba ow uu te ma va) (x : Int32) (sz : Nat) : bMI l y_M_drop (wY y_M_drop b_M_drop 4 (some .int)) (rm9 4 0 0) D (tsK k) (mdW k b cd ki ba ow uu te ma va wa) sz [.ref (b 0), .int x] (fun v w => (cdDr th x = 0 → v = nI (cnF (dnB th x.toNatClampNeg ba) 64) ∧ w = mdW k b (nI 0) (upd ki x.toNatClampNeg (-1)) (dbF th x.toNatClampNeg ba 64) ow uu te ma va wa) ∧ (¬ cdDr th x = 0 → w = mdW k b (nI (cdDr th x)) ki ba ow uu te ma va wa)) 0 0 := by
  refine ent_i (cc := b_M_drop) (maxL := 4) (ty := .int) (by decide) (Nat.le_of_ble_eq_true rfl) (fun _ _ _ => rfl) ?_
  intro p e s m args below meth c A Q ls hx hb hml hown hts hsz hA hP hD hS hK hl hret
  refine lv_aload_n hx hb d_M_drop_0 rfl (lv_at hl 0 rfl) ?_
  refine lv_aload_n hx hb d_M_drop_1 rfl (lv_at hl 0 rfl) ?_
  refine lv_iload_n hx hb d_M_drop_2 rfl (lv_at hl 1 rfl) ?_
  refine cal_i (wc := mdW k b cd ki ba ow uu te ma va wa) (wr := []) (va_runV (As := [.int x]) (rest := [.ref (b 0)]) ⟨hx, hb, hml, hown, hts⟩ (c_MisStyle l D k b cd ki ba ow uu te ma va wa th hR.2.1.1 x s.heap.size) (cwV9 1 hts wd_445 wd_442 wd_444 ws_22 wd_4 (by decide) ⟨Nat.le_of_ble_eq_true rfl, Nat.le_of_ble_eq_true rfl⟩) (prV (q0 := 0) (ci := ciMo) hK hP hD (pm_nil' _) rfl rfl) rfl rfl hl.1 rfl (lv_room (Nat.le_of_ble_eq_true rfl)) d_M_drop_3 ⟨by decide, by decide⟩) (pm_nil' _) hP hD hS hA (fun r w1 H locs hw hpd hS => ?_)
  obtain ⟨rfl, rfl⟩ := hw
  obtain ⟨hP, hD⟩ := hpd (mdW k b cd ki ba ow uu te ma va wa) (pm_nil _)
  refine lv_if_eq (tgt := 13) hx hb d_M_drop_6 (by decide) (fun c6 => ?_) (fun c6 => ?_)
  · skip
    have c6 := b_of0 c6
    refine lv_iconst (v := nI 1) hx hb d_M_drop_13 (by decide) ?_
    refine va_put (D := D) (ci := ciMo) (v := .int (nI 1)) (ty := .int) (C := RM) (T := TM) (N := 9) hx hb hts inM tyM ttM nnM hown hK.1 hP hD hS 0 rfl rfl 0 (by decide) (hts _ wd_399) (fun _ h9 => h9) rfl (by decide +kernel) rfl rfl (Nat.le_of_ble_eq_true rfl) d_M_drop_14 (fun H locs hP hD hS => ?_)
    have hP : va_P D vwCl (mdW k b (nI 1) ki ba ow uu te ma va wa) H := hP
    have hD : va_D A (mdW k b (nI 1) ki ba ow uu te ma va wa) := hD
    refine lv_aload_n hx hb d_M_drop_17 rfl (lv_at hl 0 rfl) ?_
    refine va_get (D := D) (ci := ciMo) (v := .int (nI 1)) (C := RM) (T := TM) (N := 9) hx hb hts inM hown hK.1 hP 0 rfl rfl 0 (by decide) (hts _ wd_399) (fun _ h9 => h9) rfl d_M_drop_18 ?_
    refine lv_if_le (tgt := 26) hx hb d_M_drop_21 (by decide) (fun c21 => ?_) (fun c21 => ?_)
    · skip
      exact absurd c21 (by decide)
    · skip
      refine lv_iconst (v := nI 0) hx hb d_M_drop_24 (by decide) ?_
      exact hret _ _ _ _ _ _ _ _ d_M_drop_25 ⟨fun h => absurd h (by simp [cdDr, c6]), fun _ => by rw [show cdDr th x = 1 by simp [cdDr, c6]]⟩ hP hD hS (by decide) (by decide)
  · skip
    have c6 := b_of1 c6
    refine lv_iconst (v := nI 0) hx hb d_M_drop_9 (by decide) ?_
    refine lv_goto (tgt := 14) hx hb d_M_drop_10 (by decide) ?_
    refine va_put (D := D) (ci := ciMo) (v := .int (nI 0)) (ty := .int) (C := RM) (T := TM) (N := 9) hx hb hts inM tyM ttM nnM hown hK.1 hP hD hS 0 rfl rfl 0 (by decide) (hts _ wd_399) (fun _ h9 => h9) rfl (by decide +kernel) rfl rfl (Nat.le_of_ble_eq_true rfl) d_M_drop_14 (fun H locs hP hD hS => ?_)
    have hP : va_P D vwCl (mdW k b (nI 0) ki ba ow uu te ma va wa) H := hP
    have hD : va_D A (mdW k b (nI 0) ki ba ow uu te ma va wa) := hD
    refine lv_aload_n hx hb d_M_drop_17 rfl (lv_at hl 0 rfl) ?_
    refine va_get (D := D) (ci := ciMo) (v := .int (nI 0)) (C := RM) (T := TM) (N := 9) hx hb hts inM hown hK.1 hP 0 rfl rfl 0 (by decide) (hts _ wd_399) (fun _ h9 => h9) rfl d_M_drop_18 ?_
    refine lv_if_le (tgt := 26) hx hb d_M_drop_21 (by decide) (fun c21 => ?_) (fun c21 => ?_)
    · skip
      obtain ⟨s0, hs0, rfl, hs0t⟩ := hsB_t (by decide) c6
      refine lv_iconst (v := nI 0) hx hb d_M_drop_26 (by decide) ?_
      refine lv_istore_n (lv' := [(2, .int (nI 0)), (0, .ref (b 0)), (1, .int (nI s0))]) hx hb d_M_drop_27 rfl hl (by decide) rfl (fun ls hl => ?_)
      refine lv_iconst (v := nI 0) hx hb d_M_drop_28 (by decide) ?_
      refine lv_istore_n (lv' := [(3, .int (nI 0)), (2, .int (nI 0)), (0, .ref (b 0)), (1, .int (nI s0))]) hx hb d_M_drop_29 rfl hl (by decide) rfl (fun ls hl => ?_)
      have lp : ∀ (n9 : Nat) (i : Nat) (ls : Array Slot) (H : Heap) (locs : List Loc), 64 - i < n9 → (i ≤ 64) → va_P D vwCl (mdW k b (nI 0) ki (dbF th s0 ba i) ow uu te ma va wa) H → va_D A (mdW k b (nI 0) ki (dbF th s0 ba i) ow uu te ma va wa) → va_S A s.heap H locs → lv_has ls 4 [(0, .ref (b 0)), (1, .int (nI s0)), (2, .int (nI (cnF (dnB th s0 ba) i))), (3, .int (nI i))] → W p l e (rm9 4 0 0) s m args below meth c H locs 0 0 Q (F0 m 30 ls []) := by
        intro n9
        induction n9 with
        | zero => intro i ls H locs hm; omega
        | succ n9 ih =>
          intro i ls H locs hm hi hP hD hS hl
          refine lv_iload_n hx hb d_M_drop_30 rfl (lv_at hl 3 rfl) ?_
          refine lv_bipush (v := nI 64) hx hb d_M_drop_31 (by decide) ?_
          refine lv_icmp_ge (tgt := 78) hx hb d_M_drop_33 (by decide) (fun c33 => ?_) (fun c33 => ?_)
          · skip
            rw [nI_leI (by omega) (by omega)] at c33
            obtain rfl : i = 64 := by omega
            refine lv_aload_n hx hb d_M_drop_78 rfl (lv_at hl 0 rfl) ?_
            refine va_get (D := D) (ci := ciMo) (v := .ref (b 1)) (C := RM) (T := TM) (N := 9) hx hb hts inM hown hK.1 hP 0 rfl rfl 1 (by decide) (hts _ wd_400) (fun _ h9 => h9) rfl d_M_drop_79 ?_
            refine lv_iload_n hx hb d_M_drop_82 rfl (lv_at hl 1 rfl) ?_
            refine lv_iconst (v := -1) hx hb d_M_drop_83 (by decide) ?_
            refine rw_iast hx hb hK.1 hP hD hS 1 0 rfl rfl (j := s0) (by omega) (by decide) d_M_drop_84 (wn := mdW k b (nI 0) (upd ki s0 (-1)) (dbF th s0 ba 64) ow uu te ma va wa) rfl (fun H locs hP hD hS => ?_)
            refine lv_iload_n hx hb d_M_drop_85 rfl (lv_at hl 2 rfl) ?_
            exact hret _ _ _ _ _ _ _ _ d_M_drop_86 ⟨fun _ => ⟨by rw [nI_clamp (show s0 < 2 ^ 31 by omega)], by rw [nI_clamp (show s0 < 2 ^ 31 by omega)]⟩, fun h => absurd (by simp [cdDr, c6]) h⟩ hP hD hS (by decide) (by decide)
          · skip
            rw [nI_leI (by omega) (by omega)] at c33
            refine lv_aload_n hx hb d_M_drop_36 rfl (lv_at hl 0 rfl) ?_
            refine lv_iload_n hx hb d_M_drop_37 rfl (lv_at hl 3 rfl) ?_
            refine cal_i (wc := mdW k b (nI 0) ki (dbF th s0 ba i) ow uu te ma va wa) (wr := []) (va_runV (As := [.int (nI i)]) (rest := []) ⟨hx, hb, hml, hown, hts⟩ (c_MisStyle l D k b (nI 0) ki (dbF th s0 ba i) ow uu te ma va wa th hR.2.1.1 (nI i) H.size) (cwV9 1 hts wd_445 wd_442 wd_444 ws_22 wd_4 (by decide) ⟨Nat.le_of_ble_eq_true rfl, Nat.le_of_ble_eq_true rfl⟩) (prV (q0 := 0) (ci := ciMo) hK hP hD (pm_nil' _) rfl rfl) rfl rfl hl.1 rfl (lv_room (Nat.le_of_ble_eq_true rfl)) d_M_drop_38 ⟨by decide, by decide⟩) (pm_nil' _) hP hD hS hA (fun r w1 H locs hw hpd hS => ?_)
            obtain ⟨rfl, rfl⟩ := hw
            obtain ⟨hP, hD⟩ := hpd (mdW k b (nI 0) ki (dbF th s0 ba i) ow uu te ma va wa) (pm_nil _)
            refine lv_if_eq (tgt := 72) hx hb d_M_drop_41 (by decide) (fun c41 => ?_) (fun c41 => ?_)
            · skip
              have c41 := b_of0 c41
              rw [hsB_nI (by omega) (by decide)] at c41
              have c41 := of_decide_eq_false c41
              have hdn : dnB th s0 ba i = false := by simp [dnB, c41]
              rw [dbF_f hdn] at hP hD
              rw [cnF_f hdn] at hl
              refine lv_iinc (v := nI (i + 1)) (lv' := [(3, .int (nI (i + 1))), (0, .ref (b 0)), (1, .int (nI s0)), (2, .int (nI (cnF (dnB th s0 ba) (i + 1))))]) hx hb d_M_drop_72 hl (k := 3) rfl (ii_1 _) (by decide) rfl (fun ls hl => ?_)
              refine lv_goto (tgt := 30) hx hb d_M_drop_75 (by decide) ?_
              exact ih (i + 1) ls H locs (by omega) (by omega) hP hD hS (lv_sub hl [1, 2, 3, 0] rfl)
            · skip
              have c41 := b_of1 c41
              rw [hsB_nI (by omega) (by decide)] at c41
              have c41 := of_decide_eq_true c41
              refine lv_aload_n hx hb d_M_drop_44 rfl (lv_at hl 0 rfl) ?_
              refine va_get (D := D) (ci := ciMo) (v := .ref (b 2)) (C := RM) (T := TM) (N := 9) hx hb hts inM hown hK.1 hP 0 rfl rfl 2 (by decide) (hts _ wd_401) (fun _ h9 => h9) rfl d_M_drop_45 ?_
              refine lv_iload_n hx hb d_M_drop_48 rfl (lv_at hl 3 rfl) ?_
              refine rw_iald hx hb hK.1 hP 2 0 rfl rfl (j := i) (by omega) (by decide) d_M_drop_49 ?_
              refine lv_iload_n hx hb d_M_drop_50 rfl (lv_at hl 1 rfl) ?_
              refine lv_icmp_eq (tgt := 57) hx hb d_M_drop_51 (by decide) (fun c51 => ?_) (fun c51 => ?_)
              · skip
                refine lv_aload_n hx hb d_M_drop_57 rfl (lv_at hl 0 rfl) ?_
                refine va_get (D := D) (ci := ciMo) (v := .ref (b 2)) (C := RM) (T := TM) (N := 9) hx hb hts inM hown hK.1 hP 0 rfl rfl 2 (by decide) (hts _ wd_401) (fun _ h9 => h9) rfl d_M_drop_58 ?_
                refine lv_iload_n hx hb d_M_drop_61 rfl (lv_at hl 3 rfl) ?_
                refine lv_aload_n hx hb d_M_drop_62 rfl (lv_at hl 0 rfl) ?_
                refine va_get (D := D) (ci := ciMo) (v := .ref (b 2)) (C := RM) (T := TM) (N := 9) hx hb hts inM hown hK.1 hP 0 rfl rfl 2 (by decide) (hts _ wd_401) (fun _ h9 => h9) rfl d_M_drop_63 ?_
                refine lv_iload_n hx hb d_M_drop_66 rfl (lv_at hl 1 rfl) ?_
                refine rw_iald hx hb hK.1 hP 2 0 rfl rfl (j := s0) (by omega) (by decide) d_M_drop_67 ?_
                refine rw_iast hx hb hK.1 hP hD hS 2 0 rfl rfl (j := i) (by omega) (by decide) d_M_drop_68 (wn := mdW k b (nI 0) ki (upd (dbF th s0 ba i) i ((dbF th s0 ba i) s0)) ow uu te ma va wa) rfl (fun H locs hP hD hS => ?_)
                refine lv_iinc (v := nI ((cnF (dnB th s0 ba) i) + 1)) (lv' := [(2, .int (nI ((cnF (dnB th s0 ba) i) + 1))), (0, .ref (b 0)), (1, .int (nI s0)), (3, .int (nI i))]) hx hb d_M_drop_69 hl (k := 2) rfl (ii_1 _) (by decide) rfl (fun ls hl => ?_)
                have hdn : dnB th s0 ba i = true := by simp [dnB, c41, c51]
                rw [dbF_t hdn] at hP hD
                rw [cnF_t hdn] at hl
                refine lv_iinc (v := nI (i + 1)) (lv' := [(3, .int (nI (i + 1))), (2, .int (nI (cnF (dnB th s0 ba) (i + 1)))), (0, .ref (b 0)), (1, .int (nI s0))]) hx hb d_M_drop_72 hl (k := 3) rfl (ii_1 _) (by decide) rfl (fun ls hl => ?_)
                refine lv_goto (tgt := 30) hx hb d_M_drop_75 (by decide) ?_
                exact ih (i + 1) ls H locs (by omega) (by omega) hP hD hS (lv_sub hl [2, 3, 1, 0] rfl)
              · skip
                refine lv_goto (tgt := 72) hx hb d_M_drop_54 (by decide) ?_
                have hdn : dnB th s0 ba i = false := by simp [dnB, c51]
                rw [dbF_f hdn] at hP hD
                rw [cnF_f hdn] at hl
                refine lv_iinc (v := nI (i + 1)) (lv' := [(3, .int (nI (i + 1))), (0, .ref (b 0)), (1, .int (nI s0)), (2, .int (nI (cnF (dnB th s0 ba) (i + 1))))]) hx hb d_M_drop_72 hl (k := 3) rfl (ii_1 _) (by decide) rfl (fun ls hl => ?_)
                refine lv_goto (tgt := 30) hx hb d_M_drop_75 (by decide) ?_
                exact ih (i + 1) ls H locs (by omega) (by omega) hP hD hS (lv_sub hl [1, 2, 3, 0] rfl)
      exact lp _ (0) ls H locs (Nat.lt_succ_self _) (by decide) hP hD hS (lv_sub hl [2, 3, 1, 0] rfl)
    · skip
      exact absurd (by decide) c21

set_option maxRecDepth 100000 in
set_option maxHeartbeats 4000000 in
theorem c_Mrebase (l : Launch) (D : va_G) (k : Nat → ClassId) (b : Nat → Nat) (cd : Int32) (ki ba ow uu te ma va wa : Nat → Int32) (th kd bs us sth mk : Nat → Int32) (M sM : Nat → Nat → Int32) (hR : RI th kd bs us sth mk M sM ki ba ow uu te ma va) (x y : Int32) (sz : Nat) : bMI l y_M_rebase (wY y_M_rebase b_M_rebase 3 (some .boolean)) (rm9 4 0 0) D (tsK k) (mdW k b cd ki ba ow uu te ma va wa) sz [.ref (b 0), .int x, .int y] (fun v w => (cdRb th kd x y = 0 ∧ ((ocF th bs x 64 y = true ∧ v = nI 0 ∧ w = mdW k b (nI 0) ki ba ow uu te ma va wa) ∨ (ocF th bs x 64 y = false ∧ v = nI 1 ∧ w = mdW k b (nI 0) ki (upd ba x.toNatClampNeg y) ow uu te ma va wa))) ∨ (¬ cdRb th kd x y = 0 ∧ v = nI 0 ∧ w = mdW k b (nI (cdRb th kd x y)) ki ba ow uu te ma va wa)) 0 0 := by
  refine ent_i (cc := b_M_rebase) (maxL := 3) (ty := .boolean) (by decide) (Nat.le_of_ble_eq_true rfl) (fun v w h => by rcases h with ⟨_, h | h⟩ | h <;> rw [h.2.1] <;> rfl) ?_
  intro p e s m args below meth c A Q ls hx hb hml hown hts hsz hA hP hD hS hK hl hret
  refine lv_aload_n hx hb d_M_rebase_0 rfl (lv_at hl 0 rfl) ?_
  refine lv_aload_n hx hb d_M_rebase_1 rfl (lv_at hl 0 rfl) ?_
  refine lv_iload_n hx hb d_M_rebase_2 rfl (lv_at hl 1 rfl) ?_
  refine cal_i (wc := mdW k b cd ki ba ow uu te ma va wa) (wr := []) (va_runV (As := [.int x]) (rest := [.ref (b 0)]) ⟨hx, hb, hml, hown, hts⟩ (c_MisStyle l D k b cd ki ba ow uu te ma va wa th hR.2.1.1 x s.heap.size) (cwV9 1 hts wd_445 wd_442 wd_444 ws_22 wd_4 (by decide) ⟨Nat.le_of_ble_eq_true rfl, Nat.le_of_ble_eq_true rfl⟩) (prV (q0 := 0) (ci := ciMo) hK hP hD (pm_nil' _) rfl rfl) rfl rfl hl.1 rfl (lv_room (Nat.le_of_ble_eq_true rfl)) d_M_rebase_3 ⟨by decide, by decide⟩) (pm_nil' _) hP hD hS hA (fun r w1 H locs hw hpd hS => ?_)
  obtain ⟨rfl, rfl⟩ := hw
  obtain ⟨hP, hD⟩ := hpd (mdW k b cd ki ba ow uu te ma va wa) (pm_nil _)
  refine lv_if_ne (tgt := 13) hx hb d_M_rebase_6 (by decide) (fun c6 => ?_) (fun c6 => ?_)
  · skip
    have c6 := b_of1 c6
    obtain ⟨s0, hs0, rfl, hs0t⟩ := hsB_t (by decide) c6
    refine lv_aload_n hx hb d_M_rebase_13 rfl (lv_at hl 0 rfl) ?_
    refine lv_iload_n hx hb d_M_rebase_14 rfl (lv_at hl 2 rfl) ?_
    refine lv_aload_n hx hb d_M_rebase_15 rfl (lv_at hl 0 rfl) ?_
    refine va_get (D := D) (ci := ciMo) (v := .ref (b 1)) (C := RM) (T := TM) (N := 9) hx hb hts inM hown hK.1 hP 0 rfl rfl 1 (by decide) (hts _ wd_400) (fun _ h9 => h9) rfl d_M_rebase_16 ?_
    refine lv_iload_n hx hb d_M_rebase_19 rfl (lv_at hl 1 rfl) ?_
    refine rw_iald hx hb hK.1 hP 1 0 rfl rfl (j := s0) (by omega) (by decide) d_M_rebase_20 ?_
    rw [hR.2.1.2.1 s0 hs0 hs0t]
    refine cal_i (wc := mdW k b cd ki ba ow uu te ma va wa) (wr := []) (va_runV (As := [.int y, .int (kd s0)]) (rest := [.ref (b 0)]) ⟨hx, hb, hml, hown, hts⟩ (c_MisOf l D k b cd ki ba ow uu te ma va wa th kd hR.2.1.1 hR.2.1.2.1 y (kd s0) H.size) (cwV9 2 hts wd_441 wd_438 wd_440 ws_21 wd_4 (by decide) ⟨Nat.le_of_ble_eq_true rfl, Nat.le_of_ble_eq_true rfl⟩) (prV (q0 := 0) (ci := ciMo) hK hP hD (pm_nil' _) rfl rfl) rfl rfl hl.1 rfl (lv_room (Nat.le_of_ble_eq_true rfl)) d_M_rebase_21 ⟨by decide, by decide⟩) (pm_nil' _) hP hD hS hA (fun r w1 H locs hw hpd hS => ?_)
    obtain ⟨rfl, rfl⟩ := hw
    obtain ⟨hP, hD⟩ := hpd (mdW k b cd ki ba ow uu te ma va wa) (pm_nil _)
    refine lv_if_ne (tgt := 31) hx hb d_M_rebase_24 (by decide) (fun c24 => ?_) (fun c24 => ?_)
    · skip
      have c24 := b_of1 c24
      refine lv_iconst (v := nI 0) hx hb d_M_rebase_31 (by decide) ?_
      refine va_put (D := D) (ci := ciMo) (v := .int (nI 0)) (ty := .int) (C := RM) (T := TM) (N := 9) hx hb hts inM tyM ttM nnM hown hK.1 hP hD hS 0 rfl rfl 0 (by decide) (hts _ wd_399) (fun _ h9 => h9) rfl (by decide +kernel) rfl rfl (Nat.le_of_ble_eq_true rfl) d_M_rebase_32 (fun H locs hP hD hS => ?_)
      have hP : va_P D vwCl (mdW k b (nI 0) ki ba ow uu te ma va wa) H := hP
      have hD : va_D A (mdW k b (nI 0) ki ba ow uu te ma va wa) := hD
      refine lv_aload_n hx hb d_M_rebase_35 rfl (lv_at hl 0 rfl) ?_
      refine va_get (D := D) (ci := ciMo) (v := .int (nI 0)) (C := RM) (T := TM) (N := 9) hx hb hts inM hown hK.1 hP 0 rfl rfl 0 (by decide) (hts _ wd_399) (fun _ h9 => h9) rfl d_M_rebase_36 ?_
      refine lv_if_gt (tgt := 55) hx hb d_M_rebase_39 (by decide) (fun c39 => ?_) (fun c39 => ?_)
      · skip
        exact absurd c39 (by decide)
      · skip
        refine lv_iload_n hx hb d_M_rebase_42 rfl (lv_at hl 2 rfl) ?_
        refine lv_if_lt (tgt := 57) hx hb d_M_rebase_43 (by decide) (fun c43 => ?_) (fun c43 => ?_)
        · skip
          rcases ok_st c24 with rfl | ⟨i0, hi0, rfl, hi0t⟩
          rotate_left
          · exact absurd c43 (nI_pos (by omega))
          have c52 : ocF th bs (nI s0) 64 (-1) = false := ocF_off hs_m1
          refine lv_aload_n hx hb d_M_rebase_57 rfl (lv_at hl 0 rfl) ?_
          refine va_get (D := D) (ci := ciMo) (v := .ref (b 2)) (C := RM) (T := TM) (N := 9) hx hb hts inM hown hK.1 hP 0 rfl rfl 2 (by decide) (hts _ wd_401) (fun _ h9 => h9) rfl d_M_rebase_58 ?_
          refine lv_iload_n hx hb d_M_rebase_61 rfl (lv_at hl 1 rfl) ?_
          refine lv_iload_n hx hb d_M_rebase_62 rfl (lv_at hl 2 rfl) ?_
          refine rw_iast hx hb hK.1 hP hD hS 2 0 rfl rfl (j := s0) (by omega) (by decide) d_M_rebase_63 (wn := mdW k b (nI 0) ki (upd ba s0 (-1)) ow uu te ma va wa) rfl (fun H locs hP hD hS => ?_)
          refine lv_iconst (v := nI 1) hx hb d_M_rebase_64 (by decide) ?_
          exact hret _ _ _ _ _ _ _ _ d_M_rebase_65 (Or.inl ⟨by simp [cdRb, c6, nI_clamp (show s0 < 2 ^ 31 by omega), c24], Or.inr ⟨c52, rfl, by rw [nI_clamp (show s0 < 2 ^ 31 by omega)]⟩⟩) hP hD hS (by decide) (by decide)
        · skip
          rcases ok_st c24 with rfl | ⟨i0, hi0, rfl, hi0t⟩
          · exact absurd (by decide) c43
          refine lv_aload_n hx hb d_M_rebase_46 rfl (lv_at hl 0 rfl) ?_
          refine lv_iload_n hx hb d_M_rebase_47 rfl (lv_at hl 2 rfl) ?_
          refine lv_iload_n hx hb d_M_rebase_48 rfl (lv_at hl 1 rfl) ?_
          refine cal_i (wc := mdW k b (nI 0) ki ba ow uu te ma va wa) (wr := []) (va_runV (As := [.int (nI i0), .int (nI s0)]) (rest := []) ⟨hx, hb, hml, hown, hts⟩ (c_Mcomes l D k b (nI 0) ki ba ow uu te ma va wa th kd bs us sth mk M sM hR i0 hi0 hi0t s0 hs0 H.size) (cwV9 2 hts wd_457 wd_454 wd_456 ws_23 wd_4 (by decide) ⟨Nat.le_of_ble_eq_true rfl, Nat.le_of_ble_eq_true rfl⟩) (prV (q0 := 0) (ci := ciMo) hK hP hD (pm_nil' _) rfl rfl) rfl rfl hl.1 rfl (lv_room (Nat.le_of_ble_eq_true rfl)) d_M_rebase_49 ⟨by decide, by decide⟩) (pm_nil' _) hP hD hS hA (fun r w1 H locs hw hpd hS => ?_)
          obtain ⟨rfl, rfl⟩ := hw
          obtain ⟨hP, hD⟩ := hpd (mdW k b (nI 0) ki ba ow uu te ma va wa) (pm_nil _)
          refine lv_if_eq (tgt := 57) hx hb d_M_rebase_52 (by decide) (fun c52 => ?_) (fun c52 => ?_)
          · skip
            have c52 := b_of0 c52
            refine lv_aload_n hx hb d_M_rebase_57 rfl (lv_at hl 0 rfl) ?_
            refine va_get (D := D) (ci := ciMo) (v := .ref (b 2)) (C := RM) (T := TM) (N := 9) hx hb hts inM hown hK.1 hP 0 rfl rfl 2 (by decide) (hts _ wd_401) (fun _ h9 => h9) rfl d_M_rebase_58 ?_
            refine lv_iload_n hx hb d_M_rebase_61 rfl (lv_at hl 1 rfl) ?_
            refine lv_iload_n hx hb d_M_rebase_62 rfl (lv_at hl 2 rfl) ?_
            refine rw_iast hx hb hK.1 hP hD hS 2 0 rfl rfl (j := s0) (by omega) (by decide) d_M_rebase_63 (wn := mdW k b (nI 0) ki (upd ba s0 (nI i0)) ow uu te ma va wa) rfl (fun H locs hP hD hS => ?_)
            refine lv_iconst (v := nI 1) hx hb d_M_rebase_64 (by decide) ?_
            exact hret _ _ _ _ _ _ _ _ d_M_rebase_65 (Or.inl ⟨by simp [cdRb, c6, nI_clamp (show s0 < 2 ^ 31 by omega), c24], Or.inr ⟨c52, rfl, by rw [nI_clamp (show s0 < 2 ^ 31 by omega)]⟩⟩) hP hD hS (by decide) (by decide)
          · skip
            have c52 := b_of1 c52
            refine lv_iconst (v := nI 0) hx hb d_M_rebase_55 (by decide) ?_
            exact hret _ _ _ _ _ _ _ _ d_M_rebase_56 (Or.inl ⟨by simp [cdRb, c6, nI_clamp (show s0 < 2 ^ 31 by omega), c24], Or.inl ⟨c52, rfl, rfl⟩⟩) hP hD hS (by decide) (by decide)
    · skip
      have c24 := b_of0 c24
      refine lv_iconst (v := nI 2) hx hb d_M_rebase_27 (by decide) ?_
      refine lv_goto (tgt := 32) hx hb d_M_rebase_28 (by decide) ?_
      refine va_put (D := D) (ci := ciMo) (v := .int (nI 2)) (ty := .int) (C := RM) (T := TM) (N := 9) hx hb hts inM tyM ttM nnM hown hK.1 hP hD hS 0 rfl rfl 0 (by decide) (hts _ wd_399) (fun _ h9 => h9) rfl (by decide +kernel) rfl rfl (Nat.le_of_ble_eq_true rfl) d_M_rebase_32 (fun H locs hP hD hS => ?_)
      have hP : va_P D vwCl (mdW k b (nI 2) ki ba ow uu te ma va wa) H := hP
      have hD : va_D A (mdW k b (nI 2) ki ba ow uu te ma va wa) := hD
      refine lv_aload_n hx hb d_M_rebase_35 rfl (lv_at hl 0 rfl) ?_
      refine va_get (D := D) (ci := ciMo) (v := .int (nI 2)) (C := RM) (T := TM) (N := 9) hx hb hts inM hown hK.1 hP 0 rfl rfl 0 (by decide) (hts _ wd_399) (fun _ h9 => h9) rfl d_M_rebase_36 ?_
      refine lv_if_gt (tgt := 55) hx hb d_M_rebase_39 (by decide) (fun c39 => ?_) (fun c39 => ?_)
      · skip
        refine lv_iconst (v := nI 0) hx hb d_M_rebase_55 (by decide) ?_
        exact hret _ _ _ _ _ _ _ _ d_M_rebase_56 (Or.inr ⟨by simp [cdRb, c6, nI_clamp (show s0 < 2 ^ 31 by omega), c24], rfl, by rw [show cdRb th kd (nI s0) y = 2 by simp [cdRb, c6, nI_clamp (show s0 < 2 ^ 31 by omega), c24]]⟩) hP hD hS (by decide) (by decide)
      · skip
        exact absurd (by decide) c39
  · skip
    have c6 := b_of0 c6
    refine lv_iconst (v := nI 1) hx hb d_M_rebase_9 (by decide) ?_
    refine lv_goto (tgt := 32) hx hb d_M_rebase_10 (by decide) ?_
    refine va_put (D := D) (ci := ciMo) (v := .int (nI 1)) (ty := .int) (C := RM) (T := TM) (N := 9) hx hb hts inM tyM ttM nnM hown hK.1 hP hD hS 0 rfl rfl 0 (by decide) (hts _ wd_399) (fun _ h9 => h9) rfl (by decide +kernel) rfl rfl (Nat.le_of_ble_eq_true rfl) d_M_rebase_32 (fun H locs hP hD hS => ?_)
    have hP : va_P D vwCl (mdW k b (nI 1) ki ba ow uu te ma va wa) H := hP
    have hD : va_D A (mdW k b (nI 1) ki ba ow uu te ma va wa) := hD
    refine lv_aload_n hx hb d_M_rebase_35 rfl (lv_at hl 0 rfl) ?_
    refine va_get (D := D) (ci := ciMo) (v := .int (nI 1)) (C := RM) (T := TM) (N := 9) hx hb hts inM hown hK.1 hP 0 rfl rfl 0 (by decide) (hts _ wd_399) (fun _ h9 => h9) rfl d_M_rebase_36 ?_
    refine lv_if_gt (tgt := 55) hx hb d_M_rebase_39 (by decide) (fun c39 => ?_) (fun c39 => ?_)
    · skip
      refine lv_iconst (v := nI 0) hx hb d_M_rebase_55 (by decide) ?_
      exact hret _ _ _ _ _ _ _ _ d_M_rebase_56 (Or.inr ⟨by simp [cdRb, c6], rfl, by rw [show cdRb th kd x y = 1 by simp [cdRb, c6]]⟩) hP hD hS (by decide) (by decide)
    · skip
      exact absurd (by decide) c39

set_option maxRecDepth 100000 in
set_option maxHeartbeats 4000000 in
theorem c_Mstyle (l : Launch) (D : va_G) (k : Nat → ClassId) (b : Nat → Nat) (cd : Int32) (ki ba ow uu te ma va wa : Nat → Int32) (th kd bs us sth mk : Nat → Int32) (M sM : Nat → Nat → Int32) (hR : RI th kd bs us sth mk M sM ki ba ow uu te ma va) (x y : Int32) (sz : Nat) : bMI l y_M_style (wY y_M_style b_M_style 5 (some .int)) (rm9 4 0 0) D (tsK k) (mdW k b cd ki ba ow uu te ma va wa) sz [.ref (b 0), .int x, .int y] (fun v w => (cdSt th x y = 0 → v = stF th kd bs M x.toNatClampNeg y) ∧ w = mdW k b (nI (cdSt th x y)) ki ba ow uu te ma va wa) 0 0 := by
  refine ent_i (cc := b_M_style) (maxL := 5) (ty := .int) (by decide) (Nat.le_of_ble_eq_true rfl) (fun _ _ _ => rfl) ?_
  intro p e s m args below meth c A Q ls hx hb hml hown hts hsz hA hP hD hS hK hl hret
  refine lv_aload_n hx hb d_M_style_0 rfl (lv_at hl 0 rfl) ?_
  refine lv_aload_n hx hb d_M_style_1 rfl (lv_at hl 0 rfl) ?_
  refine lv_iload_n hx hb d_M_style_2 rfl (lv_at hl 1 rfl) ?_
  refine cal_i (wc := mdW k b cd ki ba ow uu te ma va wa) (wr := []) (va_runV (As := [.int x]) (rest := [.ref (b 0)]) ⟨hx, hb, hml, hown, hts⟩ (c_MisStyle l D k b cd ki ba ow uu te ma va wa th hR.2.1.1 x s.heap.size) (cwV9 1 hts wd_445 wd_442 wd_444 ws_22 wd_4 (by decide) ⟨Nat.le_of_ble_eq_true rfl, Nat.le_of_ble_eq_true rfl⟩) (prV (q0 := 0) (ci := ciMo) hK hP hD (pm_nil' _) rfl rfl) rfl rfl hl.1 rfl (lv_room (Nat.le_of_ble_eq_true rfl)) d_M_style_3 ⟨by decide, by decide⟩) (pm_nil' _) hP hD hS hA (fun r w1 H locs hw hpd hS => ?_)
  obtain ⟨rfl, rfl⟩ := hw
  obtain ⟨hP, hD⟩ := hpd (mdW k b cd ki ba ow uu te ma va wa) (pm_nil _)
  refine lv_if_ne (tgt := 13) hx hb d_M_style_6 (by decide) (fun c6 => ?_) (fun c6 => ?_)
  · skip
    have c6 := b_of1 c6
    refine lv_iload_n hx hb d_M_style_13 rfl (lv_at hl 2 rfl) ?_
    refine lv_iconst (v := nI 0) hx hb d_M_style_14 (by decide) ?_
    refine lv_iconst (v := nI 4) hx hb d_M_style_15 (by decide) ?_
    refine cal_i (wc := []) (wr := mdW k b cd ki ba ow uu te ma va wa) (va_runS (As := [.int y, .int (nI 0), .int (nI 4)]) (rest := [.ref (b 0)]) ⟨hx, hb, hml, hown, hts⟩ (c_Min l D k y (nI 0) (nI 4) H.size) (cwS9 3 hts wd_437 wd_435 wd_436 wd_4 (by decide) ⟨Nat.le_of_ble_eq_true rfl, Nat.le_of_ble_eq_true rfl⟩) (prS hK hP hD (List.Perm.refl _)) rfl rfl hl.1 rfl (lv_room (Nat.le_of_ble_eq_true rfl)) d_M_style_16 ⟨by decide, by decide⟩) (List.Perm.refl _) hP hD hS hA (fun r w1 H locs hw hpd hS => ?_)
    obtain ⟨rfl, rfl⟩ := hw
    obtain ⟨hP, hD⟩ := hpd (mdW k b cd ki ba ow uu te ma va wa) (List.Perm.refl _)
    refine lv_if_ne (tgt := 26) hx hb d_M_style_19 (by decide) (fun c19 => ?_) (fun c19 => ?_)
    · skip
      have c19 := (inB_wh y).symm.trans (b_of1 c19)
      refine lv_iconst (v := nI 0) hx hb d_M_style_26 (by decide) ?_
      refine va_put (D := D) (ci := ciMo) (v := .int (nI 0)) (ty := .int) (C := RM) (T := TM) (N := 9) hx hb hts inM tyM ttM nnM hown hK.1 hP hD hS 0 rfl rfl 0 (by decide) (hts _ wd_399) (fun _ h9 => h9) rfl (by decide +kernel) rfl rfl (Nat.le_of_ble_eq_true rfl) d_M_style_27 (fun H locs hP hD hS => ?_)
      have hP : va_P D vwCl (mdW k b (nI 0) ki ba ow uu te ma va wa) H := hP
      have hD : va_D A (mdW k b (nI 0) ki ba ow uu te ma va wa) := hD
      refine lv_aload_n hx hb d_M_style_30 rfl (lv_at hl 0 rfl) ?_
      refine va_get (D := D) (ci := ciMo) (v := .int (nI 0)) (C := RM) (T := TM) (N := 9) hx hb hts inM hown hK.1 hP 0 rfl rfl 0 (by decide) (hts _ wd_399) (fun _ h9 => h9) rfl d_M_style_31 ?_
      refine lv_if_le (tgt := 39) hx hb d_M_style_34 (by decide) (fun c34 => ?_) (fun c34 => ?_)
      · skip
        obtain ⟨s0, hs0, rfl, hs0t⟩ := hsB_t (by decide) c6
        refine lv_iconst (v := nI 0) hx hb d_M_style_39 (by decide) ?_
        refine lv_istore_n (lv' := [(3, .int (nI 0)), (0, .ref (b 0)), (1, .int (nI s0)), (2, .int y)]) hx hb d_M_style_40 rfl hl (by decide) rfl (fun ls hl => ?_)
        refine lv_iconst (v := nI 0) hx hb d_M_style_41 (by decide) ?_
        refine lv_istore (lv' := [(4, .int (nI 0)), (3, .int (nI 0)), (0, .ref (b 0)), (1, .int (nI s0)), (2, .int y)]) hx hb d_M_style_42 hl (by decide) rfl (fun ls hl => ?_)
        have lp : ∀ (n9 : Nat) (i : Nat) (ls : Array Slot) (H : Heap) (locs : List Loc), 64 - i < n9 → (i ≤ 64) → va_P D vwCl (mdW k b (nI 0) ki ba ow uu te ma va wa) H → va_D A (mdW k b (nI 0) ki ba ow uu te ma va wa) → va_S A s.heap H locs → lv_has ls 5 [(0, .ref (b 0)), (1, .int (nI s0)), (2, .int y), (3, .int (nI (cnF (fun i => decide (¬ nI i = nI s0) && ocF th bs (nI s0) 64 (nI i)) i))), (4, .int (nI i))] → W p l e (rm9 4 0 0) s m args below meth c H locs 0 0 Q (F0 m 44 ls []) := by
          intro n9
          induction n9 with
          | zero => intro i ls H locs hm; omega
          | succ n9 ih =>
            intro i ls H locs hm hi hP hD hS hl
            refine lv_iload hx hb d_M_style_44 (lv_at hl 4 rfl) ?_
            refine lv_bipush (v := nI 64) hx hb d_M_style_46 (by decide) ?_
            refine lv_icmp_ge (tgt := 90) hx hb d_M_style_48 (by decide) (fun c48 => ?_) (fun c48 => ?_)
            · skip
              rw [nI_leI (by omega) (by omega)] at c48
              obtain rfl : i = 64 := by omega
              rcases sw5 y with rfl | rfl | rfl | rfl | rfl | ⟨hsw, hwh⟩
              · skip
                refine lv_iload_n hx hb d_M_style_90 rfl (lv_at hl 2 rfl) ?_
                refine lv_if_ne (tgt := 102) hx hb d_M_style_91 (by decide) (fun c91 => ?_) (fun c91 => ?_)
                · skip
                  exact absurd (by decide) c91
                · skip
                  refine lv_aload_n hx hb d_M_style_94 rfl (lv_at hl 0 rfl) ?_
                  refine lv_iload_n hx hb d_M_style_95 rfl (lv_at hl 1 rfl) ?_
                  refine cal_i (wc := mdW k b (nI 0) ki ba ow uu te ma va wa) (wr := []) (va_runV (As := [.int (nI s0)]) (rest := []) ⟨hx, hb, hml, hown, hts⟩ (c_Mchain l D k b (nI 0) ki ba ow uu te ma va wa th kd bs us sth mk M sM hR s0 hs0 hs0t H.size) (cwV9 1 hts wd_492 wd_489 wd_491 ws_26 wd_4 (by decide) ⟨Nat.le_of_ble_eq_true rfl, Nat.le_of_ble_eq_true rfl⟩) (prV (q0 := 0) (ci := ciMo) hK hP hD (pm_nil' _) rfl rfl) rfl rfl hl.1 rfl (lv_room (Nat.le_of_ble_eq_true rfl)) d_M_style_96 ⟨by decide, by decide⟩) (pm_nil' _) hP hD hS hA (fun r w1 H locs hw hpd hS => ?_)
                  obtain ⟨rfl, rfl⟩ := hw
                  obtain ⟨hP, hD⟩ := hpd (mdW k b (nI 0) ki ba ow uu te ma va wa) (pm_nil _)
                  refine lv_goto (tgt := 144) hx hb d_M_style_99 (by decide) ?_
                  exact hret _ _ _ _ _ _ _ _ d_M_style_144 ⟨fun _ => by rw [nI_clamp (show s0 < 2 ^ 31 by omega)]; rfl, by rw [show cdSt th (nI s0) (nI 0) = 0 by simp [cdSt, c6, c19]]⟩ hP hD hS (by decide) (by decide)
              · skip
                refine lv_iload_n hx hb d_M_style_90 rfl (lv_at hl 2 rfl) ?_
                refine lv_if_ne (tgt := 102) hx hb d_M_style_91 (by decide) (fun c91 => ?_) (fun c91 => ?_)
                · skip
                  refine lv_iload_n hx hb d_M_style_102 rfl (lv_at hl 2 rfl) ?_
                  refine lv_iconst (v := nI 1) hx hb d_M_style_103 (by decide) ?_
                  refine lv_icmp_ne (tgt := 111) hx hb d_M_style_104 (by decide) (fun c104 => ?_) (fun c104 => ?_)
                  · skip
                    exact absurd (by decide) c104
                  · skip
                    refine lv_iload_n hx hb d_M_style_107 rfl (lv_at hl 3 rfl) ?_
                    refine lv_goto (tgt := 144) hx hb d_M_style_108 (by decide) ?_
                    exact hret _ _ _ _ _ _ _ _ d_M_style_144 ⟨fun _ => by rw [nI_clamp (show s0 < 2 ^ 31 by omega)]; rfl, by rw [show cdSt th (nI s0) (nI 1) = 0 by simp [cdSt, c6, c19]]⟩ hP hD hS (by decide) (by decide)
                · skip
                  exact absurd c91 (by decide)
              · skip
                refine lv_iload_n hx hb d_M_style_90 rfl (lv_at hl 2 rfl) ?_
                refine lv_if_ne (tgt := 102) hx hb d_M_style_91 (by decide) (fun c91 => ?_) (fun c91 => ?_)
                · skip
                  refine lv_iload_n hx hb d_M_style_102 rfl (lv_at hl 2 rfl) ?_
                  refine lv_iconst (v := nI 1) hx hb d_M_style_103 (by decide) ?_
                  refine lv_icmp_ne (tgt := 111) hx hb d_M_style_104 (by decide) (fun c104 => ?_) (fun c104 => ?_)
                  · skip
                    refine lv_iload_n hx hb d_M_style_111 rfl (lv_at hl 2 rfl) ?_
                    refine lv_iconst (v := nI 2) hx hb d_M_style_112 (by decide) ?_
                    refine lv_icmp_ne (tgt := 125) hx hb d_M_style_113 (by decide) (fun c113 => ?_) (fun c113 => ?_)
                    · skip
                      exact absurd (by decide) c113
                    · skip
                      refine lv_aload_n hx hb d_M_style_116 rfl (lv_at hl 0 rfl) ?_
                      refine va_get (D := D) (ci := ciMo) (v := .ref (b 2)) (C := RM) (T := TM) (N := 9) hx hb hts inM hown hK.1 hP 0 rfl rfl 2 (by decide) (hts _ wd_401) (fun _ h9 => h9) rfl d_M_style_117 ?_
                      refine lv_iload_n hx hb d_M_style_120 rfl (lv_at hl 1 rfl) ?_
                      refine rw_iald hx hb hK.1 hP 2 0 rfl rfl (j := s0) (by omega) (by decide) d_M_style_121 ?_
                      rw [hR.2.1.2.2.1 s0 hs0 hs0t]
                      refine lv_goto (tgt := 144) hx hb d_M_style_122 (by decide) ?_
                      exact hret _ _ _ _ _ _ _ _ d_M_style_144 ⟨fun _ => by rw [nI_clamp (show s0 < 2 ^ 31 by omega)]; rfl, by rw [show cdSt th (nI s0) (nI 2) = 0 by simp [cdSt, c6, c19]]⟩ hP hD hS (by decide) (by decide)
                  · skip
                    exact absurd c104 (by decide)
                · skip
                  exact absurd c91 (by decide)
              · skip
                refine lv_iload_n hx hb d_M_style_90 rfl (lv_at hl 2 rfl) ?_
                refine lv_if_ne (tgt := 102) hx hb d_M_style_91 (by decide) (fun c91 => ?_) (fun c91 => ?_)
                · skip
                  refine lv_iload_n hx hb d_M_style_102 rfl (lv_at hl 2 rfl) ?_
                  refine lv_iconst (v := nI 1) hx hb d_M_style_103 (by decide) ?_
                  refine lv_icmp_ne (tgt := 111) hx hb d_M_style_104 (by decide) (fun c104 => ?_) (fun c104 => ?_)
                  · skip
                    refine lv_iload_n hx hb d_M_style_111 rfl (lv_at hl 2 rfl) ?_
                    refine lv_iconst (v := nI 2) hx hb d_M_style_112 (by decide) ?_
                    refine lv_icmp_ne (tgt := 125) hx hb d_M_style_113 (by decide) (fun c113 => ?_) (fun c113 => ?_)
                    · skip
                      refine lv_iload_n hx hb d_M_style_125 rfl (lv_at hl 2 rfl) ?_
                      refine lv_iconst (v := nI 3) hx hb d_M_style_126 (by decide) ?_
                      refine lv_icmp_ne (tgt := 139) hx hb d_M_style_127 (by decide) (fun c127 => ?_) (fun c127 => ?_)
                      · skip
                        exact absurd (by decide) c127
                      · skip
                        refine lv_aload_n hx hb d_M_style_130 rfl (lv_at hl 0 rfl) ?_
                        refine va_get (D := D) (ci := ciMo) (v := .ref (b 1)) (C := RM) (T := TM) (N := 9) hx hb hts inM hown hK.1 hP 0 rfl rfl 1 (by decide) (hts _ wd_400) (fun _ h9 => h9) rfl d_M_style_131 ?_
                        refine lv_iload_n hx hb d_M_style_134 rfl (lv_at hl 1 rfl) ?_
                        refine rw_iald hx hb hK.1 hP 1 0 rfl rfl (j := s0) (by omega) (by decide) d_M_style_135 ?_
                        rw [hR.2.1.2.1 s0 hs0 hs0t]
                        refine lv_goto (tgt := 144) hx hb d_M_style_136 (by decide) ?_
                        exact hret _ _ _ _ _ _ _ _ d_M_style_144 ⟨fun _ => by rw [nI_clamp (show s0 < 2 ^ 31 by omega)]; rfl, by rw [show cdSt th (nI s0) (nI 3) = 0 by simp [cdSt, c6, c19]]⟩ hP hD hS (by decide) (by decide)
                    · skip
                      exact absurd c113 (by decide)
                  · skip
                    exact absurd c104 (by decide)
                · skip
                  exact absurd c91 (by decide)
              · skip
                refine lv_iload_n hx hb d_M_style_90 rfl (lv_at hl 2 rfl) ?_
                refine lv_if_ne (tgt := 102) hx hb d_M_style_91 (by decide) (fun c91 => ?_) (fun c91 => ?_)
                · skip
                  refine lv_iload_n hx hb d_M_style_102 rfl (lv_at hl 2 rfl) ?_
                  refine lv_iconst (v := nI 1) hx hb d_M_style_103 (by decide) ?_
                  refine lv_icmp_ne (tgt := 111) hx hb d_M_style_104 (by decide) (fun c104 => ?_) (fun c104 => ?_)
                  · skip
                    refine lv_iload_n hx hb d_M_style_111 rfl (lv_at hl 2 rfl) ?_
                    refine lv_iconst (v := nI 2) hx hb d_M_style_112 (by decide) ?_
                    refine lv_icmp_ne (tgt := 125) hx hb d_M_style_113 (by decide) (fun c113 => ?_) (fun c113 => ?_)
                    · skip
                      refine lv_iload_n hx hb d_M_style_125 rfl (lv_at hl 2 rfl) ?_
                      refine lv_iconst (v := nI 3) hx hb d_M_style_126 (by decide) ?_
                      refine lv_icmp_ne (tgt := 139) hx hb d_M_style_127 (by decide) (fun c127 => ?_) (fun c127 => ?_)
                      · skip
                        refine lv_aload_n hx hb d_M_style_139 rfl (lv_at hl 0 rfl) ?_
                        refine lv_iload_n hx hb d_M_style_140 rfl (lv_at hl 1 rfl) ?_
                        refine cal_i (wc := mdW k b (nI 0) ki ba ow uu te ma va wa) (wr := []) (va_runV (As := [.int (nI s0)]) (rest := []) ⟨hx, hb, hml, hown, hts⟩ (c_Mowned l D k b (nI 0) ki ba ow uu te ma va wa th kd bs us sth mk M sM hR s0 hs0 hs0t H.size) (cwV9 1 hts wd_496 wd_493 wd_495 ws_27 wd_4 (by decide) ⟨Nat.le_of_ble_eq_true rfl, Nat.le_of_ble_eq_true rfl⟩) (prV (q0 := 0) (ci := ciMo) hK hP hD (pm_nil' _) rfl rfl) rfl rfl hl.1 rfl (lv_room (Nat.le_of_ble_eq_true rfl)) d_M_style_141 ⟨by decide, by decide⟩) (pm_nil' _) hP hD hS hA (fun r w1 H locs hw hpd hS => ?_)
                        obtain ⟨rfl, rfl⟩ := hw
                        obtain ⟨hP, hD⟩ := hpd (mdW k b (nI 0) ki ba ow uu te ma va wa) (pm_nil _)
                        exact hret _ _ _ _ _ _ _ _ d_M_style_144 ⟨fun _ => by rw [nI_clamp (show s0 < 2 ^ 31 by omega)]; rfl, by rw [show cdSt th (nI s0) (nI 4) = 0 by simp [cdSt, c6, c19]]⟩ hP hD hS (by decide) (by decide)
                      · skip
                        exact absurd c127 (by decide)
                    · skip
                      exact absurd c113 (by decide)
                  · skip
                    exact absurd c104 (by decide)
                · skip
                  exact absurd c91 (by decide)
              · skip
                rw [hwh] at c19; exact absurd c19 (by decide)
            · skip
              rw [nI_leI (by omega) (by omega)] at c48
              refine lv_iload_n hx hb d_M_style_51 rfl (lv_at hl 3 rfl) ?_
              refine lv_iload hx hb d_M_style_52 (lv_at hl 4 rfl) ?_
              refine lv_iload_n hx hb d_M_style_54 rfl (lv_at hl 1 rfl) ?_
              refine lv_icmp_eq (tgt := 81) hx hb d_M_style_55 (by decide) (fun c55 => ?_) (fun c55 => ?_)
              · skip
                rw [nI_eq (by omega) (by omega)] at c55
                refine lv_iconst (v := nI 0) hx hb d_M_style_81 (by decide) ?_
                refine lv_iadd hx hb d_M_style_82 ?_
                rw [nI_add]
                rw [Nat.add_zero, cnF_f (f := (fun i => decide (¬ nI i = nI s0) && ocF th bs (nI s0) 64 (nI i))) (i := i) (by rw [c55]; simp)]
                refine lv_istore_n (lv' := [(3, .int (nI (cnF (fun i => decide (¬ nI i = nI s0) && ocF th bs (nI s0) 64 (nI i)) (i + 1)))), (0, .ref (b 0)), (1, .int (nI s0)), (2, .int y), (4, .int (nI i))]) hx hb d_M_style_83 rfl hl (by decide) rfl (fun ls hl => ?_)
                refine lv_iinc (v := nI (i + 1)) (lv' := [(4, .int (nI (i + 1))), (3, .int (nI (cnF (fun i => decide (¬ nI i = nI s0) && ocF th bs (nI s0) 64 (nI i)) (i + 1)))), (0, .ref (b 0)), (1, .int (nI s0)), (2, .int y)]) hx hb d_M_style_84 hl (k := 4) rfl (ii_1 _) (by decide) rfl (fun ls hl => ?_)
                refine lv_goto (tgt := 44) hx hb d_M_style_87 (by decide) ?_
                exact ih (i + 1) ls H locs (by omega) (by omega) hP hD hS (lv_sub hl [2, 3, 4, 1, 0] rfl)
              · skip
                rw [nI_eq (by omega) (by omega)] at c55
                refine lv_aload_n hx hb d_M_style_58 rfl (lv_at hl 0 rfl) ?_
                refine lv_iload hx hb d_M_style_59 (lv_at hl 4 rfl) ?_
                refine cal_i (wc := mdW k b (nI 0) ki ba ow uu te ma va wa) (wr := []) (va_runV (As := [.int (nI i)]) (rest := [.int (nI (cnF (fun i => decide (¬ nI i = nI s0) && ocF th bs (nI s0) 64 (nI i)) i))]) ⟨hx, hb, hml, hown, hts⟩ (c_MisStyle l D k b (nI 0) ki ba ow uu te ma va wa th hR.2.1.1 (nI i) H.size) (cwV9 1 hts wd_445 wd_442 wd_444 ws_22 wd_4 (by decide) ⟨Nat.le_of_ble_eq_true rfl, Nat.le_of_ble_eq_true rfl⟩) (prV (q0 := 0) (ci := ciMo) hK hP hD (pm_nil' _) rfl rfl) rfl rfl hl.1 rfl (lv_room (Nat.le_of_ble_eq_true rfl)) d_M_style_61 ⟨by decide, by decide⟩) (pm_nil' _) hP hD hS hA (fun r w1 H locs hw hpd hS => ?_)
                obtain ⟨rfl, rfl⟩ := hw
                obtain ⟨hP, hD⟩ := hpd (mdW k b (nI 0) ki ba ow uu te ma va wa) (pm_nil _)
                refine lv_if_eq (tgt := 81) hx hb d_M_style_64 (by decide) (fun c64 => ?_) (fun c64 => ?_)
                · skip
                  have c64 := b_of0 c64
                  refine lv_iconst (v := nI 0) hx hb d_M_style_81 (by decide) ?_
                  refine lv_iadd hx hb d_M_style_82 ?_
                  rw [nI_add]
                  rw [Nat.add_zero, cnF_f (f := (fun i => decide (¬ nI i = nI s0) && ocF th bs (nI s0) 64 (nI i))) (i := i) (by rw [ocF_off c64]; simp)]
                  refine lv_istore_n (lv' := [(3, .int (nI (cnF (fun i => decide (¬ nI i = nI s0) && ocF th bs (nI s0) 64 (nI i)) (i + 1)))), (0, .ref (b 0)), (1, .int (nI s0)), (2, .int y), (4, .int (nI i))]) hx hb d_M_style_83 rfl hl (by decide) rfl (fun ls hl => ?_)
                  refine lv_iinc (v := nI (i + 1)) (lv' := [(4, .int (nI (i + 1))), (3, .int (nI (cnF (fun i => decide (¬ nI i = nI s0) && ocF th bs (nI s0) 64 (nI i)) (i + 1)))), (0, .ref (b 0)), (1, .int (nI s0)), (2, .int y)]) hx hb d_M_style_84 hl (k := 4) rfl (ii_1 _) (by decide) rfl (fun ls hl => ?_)
                  refine lv_goto (tgt := 44) hx hb d_M_style_87 (by decide) ?_
                  exact ih (i + 1) ls H locs (by omega) (by omega) hP hD hS (lv_sub hl [2, 3, 4, 1, 0] rfl)
                · skip
                  have c64 := b_of1 c64
                  have hi9 : i < 64 := by omega
                  have hi9t : th i ≠ 0 := by rw [hsB_nI hi9 (by decide)] at c64; exact of_decide_eq_true c64
                  refine lv_aload_n hx hb d_M_style_67 rfl (lv_at hl 0 rfl) ?_
                  refine lv_iload hx hb d_M_style_68 (lv_at hl 4 rfl) ?_
                  refine lv_iload_n hx hb d_M_style_70 rfl (lv_at hl 1 rfl) ?_
                  refine cal_i (wc := mdW k b (nI 0) ki ba ow uu te ma va wa) (wr := []) (va_runV (As := [.int (nI i), .int (nI s0)]) (rest := [.int (nI (cnF (fun i => decide (¬ nI i = nI s0) && ocF th bs (nI s0) 64 (nI i)) i))]) ⟨hx, hb, hml, hown, hts⟩ (c_Mcomes l D k b (nI 0) ki ba ow uu te ma va wa th kd bs us sth mk M sM hR i hi9 hi9t s0 hs0 H.size) (cwV9 2 hts wd_457 wd_454 wd_456 ws_23 wd_4 (by decide) ⟨Nat.le_of_ble_eq_true rfl, Nat.le_of_ble_eq_true rfl⟩) (prV (q0 := 0) (ci := ciMo) hK hP hD (pm_nil' _) rfl rfl) rfl rfl hl.1 rfl (lv_room (Nat.le_of_ble_eq_true rfl)) d_M_style_71 ⟨by decide, by decide⟩) (pm_nil' _) hP hD hS hA (fun r w1 H locs hw hpd hS => ?_)
                  obtain ⟨rfl, rfl⟩ := hw
                  obtain ⟨hP, hD⟩ := hpd (mdW k b (nI 0) ki ba ow uu te ma va wa) (pm_nil _)
                  refine lv_if_eq (tgt := 81) hx hb d_M_style_74 (by decide) (fun c74 => ?_) (fun c74 => ?_)
                  · skip
                    have c74 := b_of0 c74
                    refine lv_iconst (v := nI 0) hx hb d_M_style_81 (by decide) ?_
                    refine lv_iadd hx hb d_M_style_82 ?_
                    rw [nI_add]
                    rw [Nat.add_zero, cnF_f (f := (fun i => decide (¬ nI i = nI s0) && ocF th bs (nI s0) 64 (nI i))) (i := i) (by rw [c74]; simp)]
                    refine lv_istore_n (lv' := [(3, .int (nI (cnF (fun i => decide (¬ nI i = nI s0) && ocF th bs (nI s0) 64 (nI i)) (i + 1)))), (0, .ref (b 0)), (1, .int (nI s0)), (2, .int y), (4, .int (nI i))]) hx hb d_M_style_83 rfl hl (by decide) rfl (fun ls hl => ?_)
                    refine lv_iinc (v := nI (i + 1)) (lv' := [(4, .int (nI (i + 1))), (3, .int (nI (cnF (fun i => decide (¬ nI i = nI s0) && ocF th bs (nI s0) 64 (nI i)) (i + 1)))), (0, .ref (b 0)), (1, .int (nI s0)), (2, .int y)]) hx hb d_M_style_84 hl (k := 4) rfl (ii_1 _) (by decide) rfl (fun ls hl => ?_)
                    refine lv_goto (tgt := 44) hx hb d_M_style_87 (by decide) ?_
                    exact ih (i + 1) ls H locs (by omega) (by omega) hP hD hS (lv_sub hl [2, 3, 4, 1, 0] rfl)
                  · skip
                    have c74 := b_of1 c74
                    refine lv_iconst (v := nI 1) hx hb d_M_style_77 (by decide) ?_
                    refine lv_goto (tgt := 82) hx hb d_M_style_78 (by decide) ?_
                    refine lv_iadd hx hb d_M_style_82 ?_
                    rw [nI_add]
                    rw [cnF_t (f := (fun i => decide (¬ nI i = nI s0) && ocF th bs (nI s0) 64 (nI i))) (i := i) (by rw [c74]; simp; exact fun q => c55 ((nI_eq (by omega) (by omega)).mp q))]
                    refine lv_istore_n (lv' := [(3, .int (nI (cnF (fun i => decide (¬ nI i = nI s0) && ocF th bs (nI s0) 64 (nI i)) (i + 1)))), (0, .ref (b 0)), (1, .int (nI s0)), (2, .int y), (4, .int (nI i))]) hx hb d_M_style_83 rfl hl (by decide) rfl (fun ls hl => ?_)
                    refine lv_iinc (v := nI (i + 1)) (lv' := [(4, .int (nI (i + 1))), (3, .int (nI (cnF (fun i => decide (¬ nI i = nI s0) && ocF th bs (nI s0) 64 (nI i)) (i + 1)))), (0, .ref (b 0)), (1, .int (nI s0)), (2, .int y)]) hx hb d_M_style_84 hl (k := 4) rfl (ii_1 _) (by decide) rfl (fun ls hl => ?_)
                    refine lv_goto (tgt := 44) hx hb d_M_style_87 (by decide) ?_
                    exact ih (i + 1) ls H locs (by omega) (by omega) hP hD hS (lv_sub hl [2, 3, 4, 1, 0] rfl)
        exact lp _ (0) ls H locs (Nat.lt_succ_self _) (by decide) hP hD hS (lv_sub hl [2, 3, 4, 1, 0] rfl)
      · skip
        exact absurd (by decide) c34
    · skip
      have c19 := (inB_wh y).symm.trans (b_of0 c19)
      refine lv_iconst (v := nI 2) hx hb d_M_style_22 (by decide) ?_
      refine lv_goto (tgt := 27) hx hb d_M_style_23 (by decide) ?_
      refine va_put (D := D) (ci := ciMo) (v := .int (nI 2)) (ty := .int) (C := RM) (T := TM) (N := 9) hx hb hts inM tyM ttM nnM hown hK.1 hP hD hS 0 rfl rfl 0 (by decide) (hts _ wd_399) (fun _ h9 => h9) rfl (by decide +kernel) rfl rfl (Nat.le_of_ble_eq_true rfl) d_M_style_27 (fun H locs hP hD hS => ?_)
      have hP : va_P D vwCl (mdW k b (nI 2) ki ba ow uu te ma va wa) H := hP
      have hD : va_D A (mdW k b (nI 2) ki ba ow uu te ma va wa) := hD
      refine lv_aload_n hx hb d_M_style_30 rfl (lv_at hl 0 rfl) ?_
      refine va_get (D := D) (ci := ciMo) (v := .int (nI 2)) (C := RM) (T := TM) (N := 9) hx hb hts inM hown hK.1 hP 0 rfl rfl 0 (by decide) (hts _ wd_399) (fun _ h9 => h9) rfl d_M_style_31 ?_
      refine lv_if_le (tgt := 39) hx hb d_M_style_34 (by decide) (fun c34 => ?_) (fun c34 => ?_)
      · skip
        exact absurd c34 (by decide)
      · skip
        refine lv_iconst (v := nI 0) hx hb d_M_style_37 (by decide) ?_
        exact hret _ _ _ _ _ _ _ _ d_M_style_38 ⟨fun h => absurd h (by simp [cdSt, c6, c19]), by rw [show cdSt th x y = 2 by simp [cdSt, c6, c19]]⟩ hP hD hS (by decide) (by decide)
  · skip
    have c6 := b_of0 c6
    refine lv_iconst (v := nI 1) hx hb d_M_style_9 (by decide) ?_
    refine lv_goto (tgt := 27) hx hb d_M_style_10 (by decide) ?_
    refine va_put (D := D) (ci := ciMo) (v := .int (nI 1)) (ty := .int) (C := RM) (T := TM) (N := 9) hx hb hts inM tyM ttM nnM hown hK.1 hP hD hS 0 rfl rfl 0 (by decide) (hts _ wd_399) (fun _ h9 => h9) rfl (by decide +kernel) rfl rfl (Nat.le_of_ble_eq_true rfl) d_M_style_27 (fun H locs hP hD hS => ?_)
    have hP : va_P D vwCl (mdW k b (nI 1) ki ba ow uu te ma va wa) H := hP
    have hD : va_D A (mdW k b (nI 1) ki ba ow uu te ma va wa) := hD
    refine lv_aload_n hx hb d_M_style_30 rfl (lv_at hl 0 rfl) ?_
    refine va_get (D := D) (ci := ciMo) (v := .int (nI 1)) (C := RM) (T := TM) (N := 9) hx hb hts inM hown hK.1 hP 0 rfl rfl 0 (by decide) (hts _ wd_399) (fun _ h9 => h9) rfl d_M_style_31 ?_
    refine lv_if_le (tgt := 39) hx hb d_M_style_34 (by decide) (fun c34 => ?_) (fun c34 => ?_)
    · skip
      exact absurd c34 (by decide)
    · skip
      refine lv_iconst (v := nI 0) hx hb d_M_style_37 (by decide) ?_
      exact hret _ _ _ _ _ _ _ _ d_M_style_38 ⟨fun h => absurd h (by simp [cdSt, c6]), by rw [show cdSt th x y = 1 by simp [cdSt, c6]]⟩ hP hD hS (by decide) (by decide)

set_option maxRecDepth 100000 in
set_option maxHeartbeats 4000000 in
theorem c_Mwith (l : Launch) (D : va_G) (k : Nat → ClassId) (b : Nat → Nat) (cd : Int32) (ki ba ow uu te ma va wa : Nat → Int32) (th kd bs us sth mk : Nat → Int32) (M sM : Nat → Nat → Int32) (hR : RI th kd bs us sth mk M sM ki ba ow uu te ma va) (x y v9 : Int32) (sz : Nat) : bMI l y_M_with (wY y_M_with b_M_with 4 (some .int)) (rm9 4 0 0) D (tsK k) (mdW k b cd ki ba ow uu te ma va wa) sz [.ref (b 0), .int x, .int y, .int v9] (fun v w => (cdWi sth x y v9 false = 0 → fdP k b ki ba ow uu te ma va sth sM (wiG sM x.toNatClampNeg y.toNatClampNeg v9) 3 v w) ∧ (¬ cdWi sth x y v9 false = 0 → w = mdW k b (nI (cdWi sth x y v9 false)) ki ba ow uu te ma va wa)) 0 0 := by
  refine ent_i (cc := b_M_with) (maxL := 4) (ty := .int) (by decide) (Nat.le_of_ble_eq_true rfl) (fun _ _ _ => rfl) ?_
  intro p e s m args below meth c A Q ls hx hb hml hown hts hsz hA hP hD hS hK hl hret
  refine lv_aload_n hx hb d_M_with_0 rfl (lv_at hl 0 rfl) ?_
  refine lv_aload_n hx hb d_M_with_1 rfl (lv_at hl 0 rfl) ?_
  refine lv_iload_n hx hb d_M_with_2 rfl (lv_at hl 1 rfl) ?_
  refine cal_i (wc := mdW k b cd ki ba ow uu te ma va wa) (wr := []) (va_runV (As := [.int x]) (rest := [.ref (b 0)]) ⟨hx, hb, hml, hown, hts⟩ (c_MisSet l D k b cd ki ba ow uu te ma va wa sth hR.2.2.2.1 x s.heap.size) (cwV9 1 hts wd_508 wd_505 wd_507 ws_28 wd_4 (by decide) ⟨Nat.le_of_ble_eq_true rfl, Nat.le_of_ble_eq_true rfl⟩) (prV (q0 := 0) (ci := ciMo) hK hP hD (pm_nil' _) rfl rfl) rfl rfl hl.1 rfl (lv_room (Nat.le_of_ble_eq_true rfl)) d_M_with_3 ⟨by decide, by decide⟩) (pm_nil' _) hP hD hS hA (fun r w1 H locs hw hpd hS => ?_)
  obtain ⟨rfl, rfl⟩ := hw
  obtain ⟨hP, hD⟩ := hpd (mdW k b cd ki ba ow uu te ma va wa) (pm_nil _)
  refine lv_if_ne (tgt := 13) hx hb d_M_with_6 (by decide) (fun c6 => ?_) (fun c6 => ?_)
  · skip
    have c6 := b_of1 c6
    refine lv_iload_n hx hb d_M_with_13 rfl (lv_at hl 2 rfl) ?_
    refine lv_iload_n hx hb d_M_with_14 rfl (lv_at hl 3 rfl) ?_
    refine lv_iconst (v := -1) hx hb d_M_with_15 (by decide) ?_
    refine cal_i (wc := []) (wr := mdW k b cd ki ba ow uu te ma va wa) (va_runS (As := [.int y, .int v9, .int (-1)]) (rest := [.ref (b 0)]) ⟨hx, hb, hml, hown, hts⟩ (c_MisValue l D k y v9 (-1) H.size) (cwS9 3 hts wd_464 wd_462 wd_463 wd_4 (by decide) ⟨Nat.le_of_ble_eq_true rfl, Nat.le_of_ble_eq_true rfl⟩) (prS hK hP hD (List.Perm.refl _)) rfl rfl hl.1 rfl (lv_room (Nat.le_of_ble_eq_true rfl)) d_M_with_16 ⟨by decide, by decide⟩) (List.Perm.refl _) hP hD hS hA (fun r w1 H locs hw hpd hS => ?_)
    obtain ⟨rfl, rfl⟩ := hw
    obtain ⟨hP, hD⟩ := hpd (mdW k b cd ki ba ow uu te ma va wa) (List.Perm.refl _)
    refine lv_if_ne (tgt := 26) hx hb d_M_with_19 (by decide) (fun c19 => ?_) (fun c19 => ?_)
    · skip
      have c19 := b_of1 c19
      refine lv_iconst (v := nI 0) hx hb d_M_with_26 (by decide) ?_
      refine va_put (D := D) (ci := ciMo) (v := .int (nI 0)) (ty := .int) (C := RM) (T := TM) (N := 9) hx hb hts inM tyM ttM nnM hown hK.1 hP hD hS 0 rfl rfl 0 (by decide) (hts _ wd_399) (fun _ h9 => h9) rfl (by decide +kernel) rfl rfl (Nat.le_of_ble_eq_true rfl) d_M_with_27 (fun H locs hP hD hS => ?_)
      have hP : va_P D vwCl (mdW k b (nI 0) ki ba ow uu te ma va wa) H := hP
      have hD : va_D A (mdW k b (nI 0) ki ba ow uu te ma va wa) := hD
      refine lv_aload_n hx hb d_M_with_30 rfl (lv_at hl 0 rfl) ?_
      refine va_get (D := D) (ci := ciMo) (v := .int (nI 0)) (C := RM) (T := TM) (N := 9) hx hb hts inM hown hK.1 hP 0 rfl rfl 0 (by decide) (hts _ wd_399) (fun _ h9 => h9) rfl d_M_with_31 ?_
      refine lv_if_le (tgt := 39) hx hb d_M_with_34 (by decide) (fun c34 => ?_) (fun c34 => ?_)
      · skip
        have hp := pr_nv c19
        obtain ⟨s0, hs0, rfl, hs0t⟩ := hsB_t (by decide) c6
        obtain ⟨p9, hp9, rfl⟩ := prB_t hp.1
        refine lv_aload_n hx hb d_M_with_39 rfl (lv_at hl 0 rfl) ?_
        refine lv_iload_n hx hb d_M_with_40 rfl (lv_at hl 1 rfl) ?_
        refine cal_v (wc := mdW k b (nI 0) ki ba ow uu te ma va wa) (wr := []) (va_runV (As := [.int (nI s0)]) (rest := []) ⟨hx, hb, hml, hown, hts⟩ (c_Mwant l D k b (nI 0) ki ba ow uu te ma va wa s0 hs0 H.size) (cwV9 1 hts wd_512 wd_509 wd_511 ws_29 wd_4 (by decide) ⟨Nat.le_of_ble_eq_true rfl, Nat.le_of_ble_eq_true rfl⟩) (prV (q0 := 0) (ci := ciMo) hK hP hD (pm_nil' _) rfl rfl) rfl rfl hl.1 rfl (lv_room (Nat.le_of_ble_eq_true rfl)) d_M_with_41 ⟨by decide, by decide⟩) (pm_nil' _) hP hD hS hA (fun w1 H locs hw hpd hS => ?_)
        subst hw
        obtain ⟨hP, hD⟩ := hpd (mdW k b (nI 0) ki ba ow uu te ma va (pfF (fun p => va (24 * s0 + p)) wa 24)) (pm_nil _)
        refine lv_aload_n hx hb d_M_with_44 rfl (lv_at hl 0 rfl) ?_
        refine va_get (D := D) (ci := ciMo) (v := .ref (b 8)) (C := RM) (T := TM) (N := 9) hx hb hts inM hown hK.1 hP 0 rfl rfl 8 (by decide) (hts _ wd_407) (fun _ h9 => h9) rfl d_M_with_45 ?_
        refine lv_iload_n hx hb d_M_with_48 rfl (lv_at hl 2 rfl) ?_
        refine lv_iload_n hx hb d_M_with_49 rfl (lv_at hl 3 rfl) ?_
        refine rw_iast hx hb hK.1 hP hD hS 8 0 rfl rfl (j := p9) (by omega) (by decide) d_M_with_50 (wn := mdW k b (nI 0) ki ba ow uu te ma va (upd (pfF (fun p => va (24 * s0 + p)) wa 24) p9 v9)) rfl (fun H locs hP hD hS => ?_)
        refine lv_aload_n hx hb d_M_with_51 rfl (lv_at hl 0 rfl) ?_
        refine lv_iconst (v := nI 3) hx hb d_M_with_52 (by decide) ?_
        refine cal_i (wc := mdW k b (nI 0) ki ba ow uu te ma va (upd (pfF (fun p => va (24 * s0 + p)) wa 24) p9 v9)) (wr := []) (va_runV (As := [.int (nI 3)]) (rest := []) ⟨hx, hb, hml, hown, hts⟩ (c_Mfound l D k b (nI 0) ki ba ow uu te ma va (upd (pfF (fun p => va (24 * s0 + p)) wa 24) p9 v9) th kd bs us sth mk M sM hR 3 (by decide) (by decide) H.size) (cwV9 1 hts wd_516 wd_513 wd_515 ws_30 wd_4 (by decide) ⟨Nat.le_of_ble_eq_true rfl, Nat.le_of_ble_eq_true rfl⟩) (prV (q0 := 0) (ci := ciMo) hK hP hD (pm_nil' _) rfl rfl) rfl rfl hl.1 rfl (lv_room (Nat.le_of_ble_eq_true rfl)) d_M_with_53 ⟨by decide, by decide⟩) (pm_nil' _) hP hD hS hA (fun r w1 H locs hw hpd hS => ?_)
        obtain ⟨hP, hD⟩ := hpd (w1) (pm_nil _)
        exact hret _ _ _ _ _ _ _ _ d_M_with_56 ⟨fun _ => by rw [nI_clamp (show s0 < 2 ^ 31 by omega), nI_clamp (show p9 < 2 ^ 31 by omega)]; exact fdP_of (fun p hp9 => by simp only [upd, pfF, wiG]; by_cases e9 : p = p9 <;> simp [e9, hp9]; exact hR.2.2.2.2.2 s0 p hs0 hp9 hs0t) hw, fun h => absurd (by simp [cdWi, c6, hp.1, hp.2]) h⟩ hP hD hS (by decide) (by decide)
      · skip
        exact absurd (by decide) c34
    · skip
      have c19 := b_of0 c19
      refine lv_iconst (v := nI 2) hx hb d_M_with_22 (by decide) ?_
      refine lv_goto (tgt := 27) hx hb d_M_with_23 (by decide) ?_
      refine va_put (D := D) (ci := ciMo) (v := .int (nI 2)) (ty := .int) (C := RM) (T := TM) (N := 9) hx hb hts inM tyM ttM nnM hown hK.1 hP hD hS 0 rfl rfl 0 (by decide) (hts _ wd_399) (fun _ h9 => h9) rfl (by decide +kernel) rfl rfl (Nat.le_of_ble_eq_true rfl) d_M_with_27 (fun H locs hP hD hS => ?_)
      have hP : va_P D vwCl (mdW k b (nI 2) ki ba ow uu te ma va wa) H := hP
      have hD : va_D A (mdW k b (nI 2) ki ba ow uu te ma va wa) := hD
      refine lv_aload_n hx hb d_M_with_30 rfl (lv_at hl 0 rfl) ?_
      refine va_get (D := D) (ci := ciMo) (v := .int (nI 2)) (C := RM) (T := TM) (N := 9) hx hb hts inM hown hK.1 hP 0 rfl rfl 0 (by decide) (hts _ wd_399) (fun _ h9 => h9) rfl d_M_with_31 ?_
      refine lv_if_le (tgt := 39) hx hb d_M_with_34 (by decide) (fun c34 => ?_) (fun c34 => ?_)
      · skip
        exact absurd c34 (by decide)
      · skip
        refine lv_iconst (v := nI 0) hx hb d_M_with_37 (by decide) ?_
        rcases pr_nvF c19 with q | q
        · exact hret _ _ _ _ _ _ _ _ d_M_with_38 ⟨fun h => absurd h (by simp [cdWi, c6, q]), fun _ => by rw [show cdWi sth x y v9 false = 2 by simp [cdWi, c6, q]]⟩ hP hD hS (by decide) (by decide)
        · by_cases q1 : prB y = true
          · exact hret _ _ _ _ _ _ _ _ d_M_with_38 ⟨fun h => absurd h (by simp [cdWi, c6, q1, q]), fun _ => by rw [show cdWi sth x y v9 false = 2 by simp [cdWi, c6, q1, q]]⟩ hP hD hS (by decide) (by decide)
          · exact hret _ _ _ _ _ _ _ _ d_M_with_38 ⟨fun h => absurd h (by simp [cdWi, c6, q1]), fun _ => by rw [show cdWi sth x y v9 false = 2 by simp [cdWi, c6, q1]]⟩ hP hD hS (by decide) (by decide)
  · skip
    have c6 := b_of0 c6
    refine lv_iconst (v := nI 1) hx hb d_M_with_9 (by decide) ?_
    refine lv_goto (tgt := 27) hx hb d_M_with_10 (by decide) ?_
    refine va_put (D := D) (ci := ciMo) (v := .int (nI 1)) (ty := .int) (C := RM) (T := TM) (N := 9) hx hb hts inM tyM ttM nnM hown hK.1 hP hD hS 0 rfl rfl 0 (by decide) (hts _ wd_399) (fun _ h9 => h9) rfl (by decide +kernel) rfl rfl (Nat.le_of_ble_eq_true rfl) d_M_with_27 (fun H locs hP hD hS => ?_)
    have hP : va_P D vwCl (mdW k b (nI 1) ki ba ow uu te ma va wa) H := hP
    have hD : va_D A (mdW k b (nI 1) ki ba ow uu te ma va wa) := hD
    refine lv_aload_n hx hb d_M_with_30 rfl (lv_at hl 0 rfl) ?_
    refine va_get (D := D) (ci := ciMo) (v := .int (nI 1)) (C := RM) (T := TM) (N := 9) hx hb hts inM hown hK.1 hP 0 rfl rfl 0 (by decide) (hts _ wd_399) (fun _ h9 => h9) rfl d_M_with_31 ?_
    refine lv_if_le (tgt := 39) hx hb d_M_with_34 (by decide) (fun c34 => ?_) (fun c34 => ?_)
    · skip
      exact absurd c34 (by decide)
    · skip
      refine lv_iconst (v := nI 0) hx hb d_M_with_37 (by decide) ?_
      exact hret _ _ _ _ _ _ _ _ d_M_with_38 ⟨fun h => absurd h (by simp [cdWi, c6]), fun _ => by rw [show cdWi sth x y v9 false = 1 by simp [cdWi, c6]]⟩ hP hD hS (by decide) (by decide)

set_option maxRecDepth 100000 in
set_option maxHeartbeats 4000000 in
theorem c_Mover (l : Launch) (D : va_G) (k : Nat → ClassId) (b : Nat → Nat) (cd : Int32) (ki ba ow uu te ma va wa : Nat → Int32) (th kd bs us sth mk : Nat → Int32) (M sM : Nat → Nat → Int32) (hR : RI th kd bs us sth mk M sM ki ba ow uu te ma va) (x y : Int32) (sz : Nat) : bMI l y_M_over (wY y_M_over b_M_over 4 (some .int)) (rm9 4 0 0) D (tsK k) (mdW k b cd ki ba ow uu te ma va wa) sz [.ref (b 0), .int x, .int y] (fun v w => (cdOv sth x y false = 0 → fdP k b ki ba ow uu te ma va sth sM (ovG sM x.toNatClampNeg y.toNatClampNeg) 2 v w) ∧ (¬ cdOv sth x y false = 0 → w = mdW k b (nI (cdOv sth x y false)) ki ba ow uu te ma va wa)) 0 0 := by
  refine ent_i (cc := b_M_over) (maxL := 4) (ty := .int) (by decide) (Nat.le_of_ble_eq_true rfl) (fun _ _ _ => rfl) ?_
  intro p e s m args below meth c A Q ls hx hb hml hown hts hsz hA hP hD hS hK hl hret
  refine lv_aload_n hx hb d_M_over_0 rfl (lv_at hl 0 rfl) ?_
  refine lv_aload_n hx hb d_M_over_1 rfl (lv_at hl 0 rfl) ?_
  refine lv_iload_n hx hb d_M_over_2 rfl (lv_at hl 1 rfl) ?_
  refine cal_i (wc := mdW k b cd ki ba ow uu te ma va wa) (wr := []) (va_runV (As := [.int x]) (rest := [.ref (b 0)]) ⟨hx, hb, hml, hown, hts⟩ (c_MisSet l D k b cd ki ba ow uu te ma va wa sth hR.2.2.2.1 x s.heap.size) (cwV9 1 hts wd_508 wd_505 wd_507 ws_28 wd_4 (by decide) ⟨Nat.le_of_ble_eq_true rfl, Nat.le_of_ble_eq_true rfl⟩) (prV (q0 := 0) (ci := ciMo) hK hP hD (pm_nil' _) rfl rfl) rfl rfl hl.1 rfl (lv_room (Nat.le_of_ble_eq_true rfl)) d_M_over_3 ⟨by decide, by decide⟩) (pm_nil' _) hP hD hS hA (fun r w1 H locs hw hpd hS => ?_)
  obtain ⟨rfl, rfl⟩ := hw
  obtain ⟨hP, hD⟩ := hpd (mdW k b cd ki ba ow uu te ma va wa) (pm_nil _)
  refine lv_if_eq (tgt := 17) hx hb d_M_over_6 (by decide) (fun c6 => ?_) (fun c6 => ?_)
  · skip
    have c6 := b_of0 c6
    refine lv_iconst (v := nI 1) hx hb d_M_over_17 (by decide) ?_
    refine lv_goto (tgt := 22) hx hb d_M_over_18 (by decide) ?_
    refine va_put (D := D) (ci := ciMo) (v := .int (nI 1)) (ty := .int) (C := RM) (T := TM) (N := 9) hx hb hts inM tyM ttM nnM hown hK.1 hP hD hS 0 rfl rfl 0 (by decide) (hts _ wd_399) (fun _ h9 => h9) rfl (by decide +kernel) rfl rfl (Nat.le_of_ble_eq_true rfl) d_M_over_22 (fun H locs hP hD hS => ?_)
    have hP : va_P D vwCl (mdW k b (nI 1) ki ba ow uu te ma va wa) H := hP
    have hD : va_D A (mdW k b (nI 1) ki ba ow uu te ma va wa) := hD
    refine lv_aload_n hx hb d_M_over_25 rfl (lv_at hl 0 rfl) ?_
    refine va_get (D := D) (ci := ciMo) (v := .int (nI 1)) (C := RM) (T := TM) (N := 9) hx hb hts inM hown hK.1 hP 0 rfl rfl 0 (by decide) (hts _ wd_399) (fun _ h9 => h9) rfl d_M_over_26 ?_
    refine lv_if_le (tgt := 34) hx hb d_M_over_29 (by decide) (fun c29 => ?_) (fun c29 => ?_)
    · skip
      exact absurd c29 (by decide)
    · skip
      refine lv_iconst (v := nI 0) hx hb d_M_over_32 (by decide) ?_
      exact hret _ _ _ _ _ _ _ _ d_M_over_33 ⟨fun h => absurd h (by simp [cdOv, c6]), fun _ => by rw [show cdOv sth x y false = 1 by simp [cdOv, c6]]⟩ hP hD hS (by decide) (by decide)
  · skip
    have c6 := b_of1 c6
    refine lv_aload_n hx hb d_M_over_9 rfl (lv_at hl 0 rfl) ?_
    refine lv_iload_n hx hb d_M_over_10 rfl (lv_at hl 2 rfl) ?_
    refine cal_i (wc := mdW k b cd ki ba ow uu te ma va wa) (wr := []) (va_runV (As := [.int y]) (rest := [.ref (b 0)]) ⟨hx, hb, hml, hown, hts⟩ (c_MisSet l D k b cd ki ba ow uu te ma va wa sth hR.2.2.2.1 y H.size) (cwV9 1 hts wd_508 wd_505 wd_507 ws_28 wd_4 (by decide) ⟨Nat.le_of_ble_eq_true rfl, Nat.le_of_ble_eq_true rfl⟩) (prV (q0 := 0) (ci := ciMo) hK hP hD (pm_nil' _) rfl rfl) rfl rfl hl.1 rfl (lv_room (Nat.le_of_ble_eq_true rfl)) d_M_over_11 ⟨by decide, by decide⟩) (pm_nil' _) hP hD hS hA (fun r w1 H locs hw hpd hS => ?_)
    obtain ⟨rfl, rfl⟩ := hw
    obtain ⟨hP, hD⟩ := hpd (mdW k b cd ki ba ow uu te ma va wa) (pm_nil _)
    refine lv_if_ne (tgt := 21) hx hb d_M_over_14 (by decide) (fun c14 => ?_) (fun c14 => ?_)
    · skip
      have c14 := b_of1 c14
      refine lv_iconst (v := nI 0) hx hb d_M_over_21 (by decide) ?_
      refine va_put (D := D) (ci := ciMo) (v := .int (nI 0)) (ty := .int) (C := RM) (T := TM) (N := 9) hx hb hts inM tyM ttM nnM hown hK.1 hP hD hS 0 rfl rfl 0 (by decide) (hts _ wd_399) (fun _ h9 => h9) rfl (by decide +kernel) rfl rfl (Nat.le_of_ble_eq_true rfl) d_M_over_22 (fun H locs hP hD hS => ?_)
      have hP : va_P D vwCl (mdW k b (nI 0) ki ba ow uu te ma va wa) H := hP
      have hD : va_D A (mdW k b (nI 0) ki ba ow uu te ma va wa) := hD
      refine lv_aload_n hx hb d_M_over_25 rfl (lv_at hl 0 rfl) ?_
      refine va_get (D := D) (ci := ciMo) (v := .int (nI 0)) (C := RM) (T := TM) (N := 9) hx hb hts inM hown hK.1 hP 0 rfl rfl 0 (by decide) (hts _ wd_399) (fun _ h9 => h9) rfl d_M_over_26 ?_
      refine lv_if_le (tgt := 34) hx hb d_M_over_29 (by decide) (fun c29 => ?_) (fun c29 => ?_)
      · skip
        obtain ⟨s0, hs0, rfl, hs0t⟩ := hsB_t (by decide) c6
        obtain ⟨s1, hs1, rfl, hs1t⟩ := hsB_t (by decide) c14
        refine lv_aload_n hx hb d_M_over_34 rfl (lv_at hl 0 rfl) ?_
        refine lv_iload_n hx hb d_M_over_35 rfl (lv_at hl 1 rfl) ?_
        refine cal_v (wc := mdW k b (nI 0) ki ba ow uu te ma va wa) (wr := []) (va_runV (As := [.int (nI s0)]) (rest := []) ⟨hx, hb, hml, hown, hts⟩ (c_Mwant l D k b (nI 0) ki ba ow uu te ma va wa s0 hs0 H.size) (cwV9 1 hts wd_512 wd_509 wd_511 ws_29 wd_4 (by decide) ⟨Nat.le_of_ble_eq_true rfl, Nat.le_of_ble_eq_true rfl⟩) (prV (q0 := 0) (ci := ciMo) hK hP hD (pm_nil' _) rfl rfl) rfl rfl hl.1 rfl (lv_room (Nat.le_of_ble_eq_true rfl)) d_M_over_36 ⟨by decide, by decide⟩) (pm_nil' _) hP hD hS hA (fun w1 H locs hw hpd hS => ?_)
        subst hw
        obtain ⟨hP, hD⟩ := hpd (mdW k b (nI 0) ki ba ow uu te ma va (pfF (fun p => va (24 * s0 + p)) wa 24)) (pm_nil _)
        rw [← pfF_0 (ovG sM s0 s1) (pfF (fun p => va (24 * s0 + p)) wa 24)] at hP hD
        refine lv_iconst (v := nI 0) hx hb d_M_over_39 (by decide) ?_
        refine lv_istore_n (lv' := [(3, .int (nI 0)), (0, .ref (b 0)), (1, .int (nI s0)), (2, .int (nI s1))]) hx hb d_M_over_40 rfl hl (by decide) rfl (fun ls hl => ?_)
        have lp : ∀ (n9 : Nat) (i : Nat) (ls : Array Slot) (H : Heap) (locs : List Loc), 24 - i < n9 → (i ≤ 24) → va_P D vwCl (mdW k b (nI 0) ki ba ow uu te ma va (pfF (ovG sM s0 s1) (pfF (fun p => va (24 * s0 + p)) wa 24) i)) H → va_D A (mdW k b (nI 0) ki ba ow uu te ma va (pfF (ovG sM s0 s1) (pfF (fun p => va (24 * s0 + p)) wa 24) i)) → va_S A s.heap H locs → lv_has ls 4 [(0, .ref (b 0)), (1, .int (nI s0)), (2, .int (nI s1)), (3, .int (nI i))] → W p l e (rm9 4 0 0) s m args below meth c H locs 0 0 Q (F0 m 41 ls []) := by
          intro n9
          induction n9 with
          | zero => intro i ls H locs hm; omega
          | succ n9 ih =>
            intro i ls H locs hm hi hP hD hS hl
            refine lv_iload_n hx hb d_M_over_41 rfl (lv_at hl 3 rfl) ?_
            refine lv_bipush (v := nI 24) hx hb d_M_over_42 (by decide) ?_
            refine lv_icmp_ge (tgt := 93) hx hb d_M_over_44 (by decide) (fun c44 => ?_) (fun c44 => ?_)
            · skip
              rw [nI_leI (by omega) (by omega)] at c44
              obtain rfl : i = 24 := by omega
              refine lv_aload_n hx hb d_M_over_93 rfl (lv_at hl 0 rfl) ?_
              refine lv_iconst (v := nI 2) hx hb d_M_over_94 (by decide) ?_
              refine cal_i (wc := mdW k b (nI 0) ki ba ow uu te ma va (pfF (ovG sM s0 s1) (pfF (fun p => va (24 * s0 + p)) wa 24) 24)) (wr := []) (va_runV (As := [.int (nI 2)]) (rest := []) ⟨hx, hb, hml, hown, hts⟩ (c_Mfound l D k b (nI 0) ki ba ow uu te ma va (pfF (ovG sM s0 s1) (pfF (fun p => va (24 * s0 + p)) wa 24) 24) th kd bs us sth mk M sM hR 2 (by decide) (by decide) H.size) (cwV9 1 hts wd_516 wd_513 wd_515 ws_30 wd_4 (by decide) ⟨Nat.le_of_ble_eq_true rfl, Nat.le_of_ble_eq_true rfl⟩) (prV (q0 := 0) (ci := ciMo) hK hP hD (pm_nil' _) rfl rfl) rfl rfl hl.1 rfl (lv_room (Nat.le_of_ble_eq_true rfl)) d_M_over_95 ⟨by decide, by decide⟩) (pm_nil' _) hP hD hS hA (fun r w1 H locs hw hpd hS => ?_)
              obtain ⟨hP, hD⟩ := hpd (w1) (pm_nil _)
              exact hret _ _ _ _ _ _ _ _ d_M_over_98 ⟨fun _ => by rw [nI_clamp (show s0 < 2 ^ 31 by omega), nI_clamp (show s1 < 2 ^ 31 by omega)]; exact fdP_of (fun p hp9 => by simp only [pfF]; rw [if_pos hp9]) hw, fun h => absurd (by simp [cdOv, c6, c14]) h⟩ hP hD hS (by decide) (by decide)
            · skip
              rw [nI_leI (by omega) (by omega)] at c44
              refine lv_aload_n hx hb d_M_over_47 rfl (lv_at hl 0 rfl) ?_
              refine va_get (D := D) (ci := ciMo) (v := .ref (b 8)) (C := RM) (T := TM) (N := 9) hx hb hts inM hown hK.1 hP 0 rfl rfl 8 (by decide) (hts _ wd_407) (fun _ h9 => h9) rfl d_M_over_48 ?_
              refine lv_iload_n hx hb d_M_over_51 rfl (lv_at hl 3 rfl) ?_
              refine lv_aload_n hx hb d_M_over_52 rfl (lv_at hl 0 rfl) ?_
              refine va_get (D := D) (ci := ciMo) (v := .ref (b 7)) (C := RM) (T := TM) (N := 9) hx hb hts inM hown hK.1 hP 0 rfl rfl 7 (by decide) (hts _ wd_406) (fun _ h9 => h9) rfl d_M_over_53 ?_
              refine lv_bipush (v := nI 24) hx hb d_M_over_56 (by decide) ?_
              refine lv_iload_n hx hb d_M_over_58 rfl (lv_at hl 2 rfl) ?_
              refine lv_imul hx hb d_M_over_59 ?_
              rw [pk_mul]
              refine lv_iload_n hx hb d_M_over_60 rfl (lv_at hl 3 rfl) ?_
              refine lv_iadd hx hb d_M_over_61 ?_
              rw [nI_add]
              refine rw_iald hx hb hK.1 hP 7 0 rfl rfl (j := ((24 * s1) + i)) (by omega) (by decide) d_M_over_62 ?_
              rw [hR.2.2.2.2.2 s1 i hs1 (by omega) hs1t]
              refine lv_if_lt (tgt := 80) hx hb d_M_over_63 (by decide) (fun c63 => ?_) (fun c63 => ?_)
              · skip
                refine lv_aload_n hx hb d_M_over_80 rfl (lv_at hl 0 rfl) ?_
                refine va_get (D := D) (ci := ciMo) (v := .ref (b 8)) (C := RM) (T := TM) (N := 9) hx hb hts inM hown hK.1 hP 0 rfl rfl 8 (by decide) (hts _ wd_407) (fun _ h9 => h9) rfl d_M_over_81 ?_
                refine lv_iload_n hx hb d_M_over_84 rfl (lv_at hl 3 rfl) ?_
                refine rw_iald hx hb hK.1 hP 8 0 rfl rfl (j := i) (by omega) (by decide) d_M_over_85 ?_
                refine rw_iast hx hb hK.1 hP hD hS 8 0 rfl rfl (j := i) (by omega) (by decide) d_M_over_86 (wn := mdW k b (nI 0) ki ba ow uu te ma va (pfF (ovG sM s0 s1) (pfF (fun p => va (24 * s0 + p)) wa 24) (i + 1))) (by rw [← pfF_s (g := (ovG sM s0 s1)) (dr := (pfF (fun p => va (24 * s0 + p)) wa 24)) (i := i) (x := (pfF (ovG sM s0 s1) (pfF (fun p => va (24 * s0 + p)) wa 24) i) i) (by have e : sM s1 i = -1 := Classical.not_not.mp (fun z => (ge_m1 (hR.1.2.2.2.1 s1 i hs1 (by omega))).mpr z c63); show (if i < i then _ else (if i < 24 then va (24 * s0 + i) else wa i)) = (if sM s1 i = -1 then sM s0 i else sM s1 i); rw [if_neg (Nat.lt_irrefl i), if_pos (by omega), if_pos e]; exact hR.2.2.2.2.2 s0 i hs0 (by omega) hs0t)]; rfl) (fun H locs hP hD hS => ?_)
                refine lv_iinc (v := nI (i + 1)) (lv' := [(3, .int (nI (i + 1))), (0, .ref (b 0)), (1, .int (nI s0)), (2, .int (nI s1))]) hx hb d_M_over_87 hl (k := 3) rfl (ii_1 _) (by decide) rfl (fun ls hl => ?_)
                refine lv_goto (tgt := 41) hx hb d_M_over_90 (by decide) ?_
                exact ih (i + 1) ls H locs (by omega) (by omega) hP hD hS (lv_sub hl [1, 2, 3, 0] rfl)
              · skip
                refine lv_aload_n hx hb d_M_over_66 rfl (lv_at hl 0 rfl) ?_
                refine va_get (D := D) (ci := ciMo) (v := .ref (b 7)) (C := RM) (T := TM) (N := 9) hx hb hts inM hown hK.1 hP 0 rfl rfl 7 (by decide) (hts _ wd_406) (fun _ h9 => h9) rfl d_M_over_67 ?_
                refine lv_bipush (v := nI 24) hx hb d_M_over_70 (by decide) ?_
                refine lv_iload_n hx hb d_M_over_72 rfl (lv_at hl 2 rfl) ?_
                refine lv_imul hx hb d_M_over_73 ?_
                rw [pk_mul]
                refine lv_iload_n hx hb d_M_over_74 rfl (lv_at hl 3 rfl) ?_
                refine lv_iadd hx hb d_M_over_75 ?_
                rw [nI_add]
                refine rw_iald hx hb hK.1 hP 7 0 rfl rfl (j := ((24 * s1) + i)) (by omega) (by decide) d_M_over_76 ?_
                rw [hR.2.2.2.2.2 s1 i hs1 (by omega) hs1t]
                refine lv_goto (tgt := 86) hx hb d_M_over_77 (by decide) ?_
                refine rw_iast hx hb hK.1 hP hD hS 8 0 rfl rfl (j := i) (by omega) (by decide) d_M_over_86 (wn := mdW k b (nI 0) ki ba ow uu te ma va (pfF (ovG sM s0 s1) (pfF (fun p => va (24 * s0 + p)) wa 24) (i + 1))) (by rw [← pfF_s (g := (ovG sM s0 s1)) (dr := (pfF (fun p => va (24 * s0 + p)) wa 24)) (i := i) (x := sM s1 i) (by show sM s1 i = (if sM s1 i = -1 then sM s0 i else sM s1 i); rw [if_neg (fun z => by rw [z] at c63; exact absurd c63 (by decide))])]; rfl) (fun H locs hP hD hS => ?_)
                refine lv_iinc (v := nI (i + 1)) (lv' := [(3, .int (nI (i + 1))), (0, .ref (b 0)), (1, .int (nI s0)), (2, .int (nI s1))]) hx hb d_M_over_87 hl (k := 3) rfl (ii_1 _) (by decide) rfl (fun ls hl => ?_)
                refine lv_goto (tgt := 41) hx hb d_M_over_90 (by decide) ?_
                exact ih (i + 1) ls H locs (by omega) (by omega) hP hD hS (lv_sub hl [1, 2, 3, 0] rfl)
        exact lp _ (0) ls H locs (Nat.lt_succ_self _) (by decide) hP hD hS (lv_sub hl [1, 2, 3, 0] rfl)
      · skip
        exact absurd (by decide) c29
    · skip
      have c14 := b_of0 c14
      refine lv_iconst (v := nI 1) hx hb d_M_over_17 (by decide) ?_
      refine lv_goto (tgt := 22) hx hb d_M_over_18 (by decide) ?_
      refine va_put (D := D) (ci := ciMo) (v := .int (nI 1)) (ty := .int) (C := RM) (T := TM) (N := 9) hx hb hts inM tyM ttM nnM hown hK.1 hP hD hS 0 rfl rfl 0 (by decide) (hts _ wd_399) (fun _ h9 => h9) rfl (by decide +kernel) rfl rfl (Nat.le_of_ble_eq_true rfl) d_M_over_22 (fun H locs hP hD hS => ?_)
      have hP : va_P D vwCl (mdW k b (nI 1) ki ba ow uu te ma va wa) H := hP
      have hD : va_D A (mdW k b (nI 1) ki ba ow uu te ma va wa) := hD
      refine lv_aload_n hx hb d_M_over_25 rfl (lv_at hl 0 rfl) ?_
      refine va_get (D := D) (ci := ciMo) (v := .int (nI 1)) (C := RM) (T := TM) (N := 9) hx hb hts inM hown hK.1 hP 0 rfl rfl 0 (by decide) (hts _ wd_399) (fun _ h9 => h9) rfl d_M_over_26 ?_
      refine lv_if_le (tgt := 34) hx hb d_M_over_29 (by decide) (fun c29 => ?_) (fun c29 => ?_)
      · skip
        exact absurd c29 (by decide)
      · skip
        refine lv_iconst (v := nI 0) hx hb d_M_over_32 (by decide) ?_
        exact hret _ _ _ _ _ _ _ _ d_M_over_33 ⟨fun h => absurd h (by simp [cdOv, c6, c14]), fun _ => by rw [show cdOv sth x y false = 1 by simp [cdOv, c6, c14]]⟩ hP hD hS (by decide) (by decide)

set_option maxRecDepth 100000 in
set_option maxHeartbeats 4000000 in
theorem c_Mlean (l : Launch) (D : va_G) (k : Nat → ClassId) (b : Nat → Nat) (cd : Int32) (ki ba ow uu te ma va wa : Nat → Int32) (th kd bs us sth mk : Nat → Int32) (M sM : Nat → Nat → Int32) (hR : RI th kd bs us sth mk M sM ki ba ow uu te ma va) (x c9 q9 : Int32) (sz : Nat) : bMI l y_M_lean (wY y_M_lean b_M_lean 5 (some .int)) (rm9 5 0 0) D (tsK k) (mdW k b cd ki ba ow uu te ma va wa) sz [.ref (b 0), .int x, .int c9, .int q9] (fun v w => (cdLe th kd sth x c9 q9 false = 0 → fdP k b ki ba ow uu te ma va sth sM (leG th bs us M sM x.toNatClampNeg c9 q9) 3 v w) ∧ (¬ cdLe th kd sth x c9 q9 false = 0 → w = mdW k b (nI (cdLe th kd sth x c9 q9 false)) ki ba ow uu te ma va wa)) 0 0 := by
  refine ent_i (cc := b_M_lean) (maxL := 5) (ty := .int) (by decide) (Nat.le_of_ble_eq_true rfl) (fun _ _ _ => rfl) ?_
  intro p e s m args below meth c A Q ls hx hb hml hown hts hsz hA hP hD hS hK hl hret
  refine lv_aload_n hx hb d_M_lean_0 rfl (lv_at hl 0 rfl) ?_
  refine lv_aload_n hx hb d_M_lean_1 rfl (lv_at hl 0 rfl) ?_
  refine lv_iload_n hx hb d_M_lean_2 rfl (lv_at hl 1 rfl) ?_
  refine cal_i (wc := mdW k b cd ki ba ow uu te ma va wa) (wr := []) (va_runV (As := [.int x]) (rest := [.ref (b 0)]) ⟨hx, hb, hml, hown, hts⟩ (c_MisSet l D k b cd ki ba ow uu te ma va wa sth hR.2.2.2.1 x s.heap.size) (cwV9 1 hts wd_508 wd_505 wd_507 ws_28 wd_4 (by decide) ⟨Nat.le_of_ble_eq_true rfl, Nat.le_of_ble_eq_true rfl⟩) (prV (q0 := 0) (ci := ciMo) hK hP hD (pm_nil' _) rfl rfl) rfl rfl hl.1 rfl (lv_room (Nat.le_of_ble_eq_true rfl)) d_M_lean_3 ⟨by decide, by decide⟩) (pm_nil' _) hP hD hS hA (fun r w1 H locs hw hpd hS => ?_)
  obtain ⟨rfl, rfl⟩ := hw
  obtain ⟨hP, hD⟩ := hpd (mdW k b cd ki ba ow uu te ma va wa) (pm_nil _)
  refine lv_if_ne (tgt := 13) hx hb d_M_lean_6 (by decide) (fun c6 => ?_) (fun c6 => ?_)
  · skip
    have c6 := b_of1 c6
    refine lv_aload_n hx hb d_M_lean_13 rfl (lv_at hl 0 rfl) ?_
    refine lv_iload_n hx hb d_M_lean_14 rfl (lv_at hl 2 rfl) ?_
    refine lv_iload_n hx hb d_M_lean_15 rfl (lv_at hl 3 rfl) ?_
    refine cal_i (wc := mdW k b cd ki ba ow uu te ma va wa) (wr := []) (va_runV (As := [.int c9, .int q9]) (rest := [.ref (b 0)]) ⟨hx, hb, hml, hown, hts⟩ (c_MareStyles l D k b cd ki ba ow uu te ma va wa th kd bs us sth mk M sM hR c9 q9 H.size) (cwV9 2 hts wd_532 wd_529 wd_531 ws_32 wd_4 (by decide) ⟨Nat.le_of_ble_eq_true rfl, Nat.le_of_ble_eq_true rfl⟩) (prV (q0 := 0) (ci := ciMo) hK hP hD (pm_nil' _) rfl rfl) rfl rfl hl.1 rfl (lv_room (Nat.le_of_ble_eq_true rfl)) d_M_lean_16 ⟨by decide, by decide⟩) (pm_nil' _) hP hD hS hA (fun r w1 H locs hw hpd hS => ?_)
    obtain ⟨rfl, rfl⟩ := hw
    obtain ⟨hP, hD⟩ := hpd (mdW k b cd ki ba ow uu te ma va wa) (pm_nil _)
    refine lv_if_ne (tgt := 26) hx hb d_M_lean_19 (by decide) (fun c19 => ?_) (fun c19 => ?_)
    · skip
      have c19 := b_of1 c19
      refine lv_iconst (v := nI 0) hx hb d_M_lean_26 (by decide) ?_
      refine va_put (D := D) (ci := ciMo) (v := .int (nI 0)) (ty := .int) (C := RM) (T := TM) (N := 9) hx hb hts inM tyM ttM nnM hown hK.1 hP hD hS 0 rfl rfl 0 (by decide) (hts _ wd_399) (fun _ h9 => h9) rfl (by decide +kernel) rfl rfl (Nat.le_of_ble_eq_true rfl) d_M_lean_27 (fun H locs hP hD hS => ?_)
      have hP : va_P D vwCl (mdW k b (nI 0) ki ba ow uu te ma va wa) H := hP
      have hD : va_D A (mdW k b (nI 0) ki ba ow uu te ma va wa) := hD
      refine lv_aload_n hx hb d_M_lean_30 rfl (lv_at hl 0 rfl) ?_
      refine va_get (D := D) (ci := ciMo) (v := .int (nI 0)) (C := RM) (T := TM) (N := 9) hx hb hts inM hown hK.1 hP 0 rfl rfl 0 (by decide) (hts _ wd_399) (fun _ h9 => h9) rfl d_M_lean_31 ?_
      refine lv_if_le (tgt := 39) hx hb d_M_lean_34 (by decide) (fun c34 => ?_) (fun c34 => ?_)
      · skip
        obtain ⟨s0, hs0, rfl, hs0t⟩ := hsB_t (by decide) c6
        refine lv_aload_n hx hb d_M_lean_39 rfl (lv_at hl 0 rfl) ?_
        refine lv_iload_n hx hb d_M_lean_40 rfl (lv_at hl 1 rfl) ?_
        refine cal_v (wc := mdW k b (nI 0) ki ba ow uu te ma va wa) (wr := []) (va_runV (As := [.int (nI s0)]) (rest := []) ⟨hx, hb, hml, hown, hts⟩ (c_Mwant l D k b (nI 0) ki ba ow uu te ma va wa s0 hs0 H.size) (cwV9 1 hts wd_512 wd_509 wd_511 ws_29 wd_4 (by decide) ⟨Nat.le_of_ble_eq_true rfl, Nat.le_of_ble_eq_true rfl⟩) (prV (q0 := 0) (ci := ciMo) hK hP hD (pm_nil' _) rfl rfl) rfl rfl hl.1 rfl (lv_room (Nat.le_of_ble_eq_true rfl)) d_M_lean_41 ⟨by decide, by decide⟩) (pm_nil' _) hP hD hS hA (fun w1 H locs hw hpd hS => ?_)
        subst hw
        obtain ⟨hP, hD⟩ := hpd (mdW k b (nI 0) ki ba ow uu te ma va (pfF (fun p => va (24 * s0 + p)) wa 24)) (pm_nil _)
        rw [← pfF_0 (leG th bs us M sM s0 c9 q9) (pfF (fun p => va (24 * s0 + p)) wa 24)] at hP hD
        refine lv_iconst (v := nI 0) hx hb d_M_lean_44 (by decide) ?_
        refine lv_istore (lv' := [(4, .int (nI 0)), (0, .ref (b 0)), (1, .int (nI s0)), (2, .int c9), (3, .int q9)]) hx hb d_M_lean_45 hl (by decide) rfl (fun ls hl => ?_)
        have lp : ∀ (n9 : Nat) (i : Nat) (ls : Array Slot) (H : Heap) (locs : List Loc), 24 - i < n9 → (i ≤ 24) → va_P D vwCl (mdW k b (nI 0) ki ba ow uu te ma va (pfF (leG th bs us M sM s0 c9 q9) (pfF (fun p => va (24 * s0 + p)) wa 24) i)) H → va_D A (mdW k b (nI 0) ki ba ow uu te ma va (pfF (leG th bs us M sM s0 c9 q9) (pfF (fun p => va (24 * s0 + p)) wa 24) i)) → va_S A s.heap H locs → lv_has ls 5 [(0, .ref (b 0)), (1, .int (nI s0)), (2, .int c9), (3, .int q9), (4, .int (nI i))] → W p l e (rm9 5 0 0) s m args below meth c H locs 0 0 Q (F0 m 47 ls []) := by
          intro n9
          induction n9 with
          | zero => intro i ls H locs hm; omega
          | succ n9 ih =>
            intro i ls H locs hm hi hP hD hS hl
            refine lv_iload hx hb d_M_lean_47 (lv_at hl 4 rfl) ?_
            refine lv_bipush (v := nI 24) hx hb d_M_lean_49 (by decide) ?_
            refine lv_icmp_ge (tgt := 96) hx hb d_M_lean_51 (by decide) (fun c51 => ?_) (fun c51 => ?_)
            · skip
              rw [nI_leI (by omega) (by omega)] at c51
              obtain rfl : i = 24 := by omega
              refine lv_aload_n hx hb d_M_lean_96 rfl (lv_at hl 0 rfl) ?_
              refine lv_iconst (v := nI 3) hx hb d_M_lean_97 (by decide) ?_
              refine cal_i (wc := mdW k b (nI 0) ki ba ow uu te ma va (pfF (leG th bs us M sM s0 c9 q9) (pfF (fun p => va (24 * s0 + p)) wa 24) 24)) (wr := []) (va_runV (As := [.int (nI 3)]) (rest := []) ⟨hx, hb, hml, hown, hts⟩ (c_Mfound l D k b (nI 0) ki ba ow uu te ma va (pfF (leG th bs us M sM s0 c9 q9) (pfF (fun p => va (24 * s0 + p)) wa 24) 24) th kd bs us sth mk M sM hR 3 (by decide) (by decide) H.size) (cwV9 1 hts wd_516 wd_513 wd_515 ws_30 wd_4 (by decide) ⟨Nat.le_of_ble_eq_true rfl, Nat.le_of_ble_eq_true rfl⟩) (prV (q0 := 0) (ci := ciMo) hK hP hD (pm_nil' _) rfl rfl) rfl rfl hl.1 rfl (lv_room (Nat.le_of_ble_eq_true rfl)) d_M_lean_98 ⟨by decide, by decide⟩) (pm_nil' _) hP hD hS hA (fun r w1 H locs hw hpd hS => ?_)
              obtain ⟨hP, hD⟩ := hpd (w1) (pm_nil _)
              exact hret _ _ _ _ _ _ _ _ d_M_lean_101 ⟨fun _ => by rw [nI_clamp (show s0 < 2 ^ 31 by omega)]; exact fdP_of (fun p hp9 => by simp only [pfF]; rw [if_pos hp9]) hw, fun h => absurd (by simp [cdLe, c6, (Bool.and_eq_true_iff.mp c19).1, (Bool.and_eq_true_iff.mp c19).2]) h⟩ hP hD hS (by decide) (by decide)
            · skip
              rw [nI_leI (by omega) (by omega)] at c51
              refine lv_aload_n hx hb d_M_lean_54 rfl (lv_at hl 0 rfl) ?_
              refine va_get (D := D) (ci := ciMo) (v := .ref (b 8)) (C := RM) (T := TM) (N := 9) hx hb hts inM hown hK.1 hP 0 rfl rfl 8 (by decide) (hts _ wd_407) (fun _ h9 => h9) rfl d_M_lean_55 ?_
              refine lv_iload hx hb d_M_lean_58 (lv_at hl 4 rfl) ?_
              refine lv_aload_n hx hb d_M_lean_60 rfl (lv_at hl 0 rfl) ?_
              refine va_get (D := D) (ci := ciMo) (v := .ref (b 8)) (C := RM) (T := TM) (N := 9) hx hb hts inM hown hK.1 hP 0 rfl rfl 8 (by decide) (hts _ wd_407) (fun _ h9 => h9) rfl d_M_lean_61 ?_
              refine lv_iload hx hb d_M_lean_64 (lv_at hl 4 rfl) ?_
              refine rw_iald hx hb hK.1 hP 8 0 rfl rfl (j := i) (by omega) (by decide) d_M_lean_66 ?_
              rw [show pfF (leG th bs us M sM s0 c9 q9) (pfF (fun p => va (24 * s0 + p)) wa 24) i i = sM s0 i from by show (if i < i then _ else (if i < 24 then va (24 * s0 + i) else wa i)) = sM s0 i; rw [if_neg (Nat.lt_irrefl i), if_pos (by omega)]; exact hR.2.2.2.2.2 s0 i hs0 (by omega) hs0t]
              refine lv_aload_n hx hb d_M_lean_67 rfl (lv_at hl 0 rfl) ?_
              refine lv_iload_n hx hb d_M_lean_68 rfl (lv_at hl 2 rfl) ?_
              refine lv_iload_n hx hb d_M_lean_69 rfl (lv_at hl 3 rfl) ?_
              refine lv_iload hx hb d_M_lean_70 (lv_at hl 4 rfl) ?_
              refine cal_i (wc := mdW k b (nI 0) ki ba ow uu te ma va (pfF (leG th bs us M sM s0 c9 q9) (pfF (fun p => va (24 * s0 + p)) wa 24) i)) (wr := []) (va_runV (As := [.int c9, .int q9, .int (nI i)]) (rest := [.int (sM s0 i), .int (nI i), .ref (b 8)]) ⟨hx, hb, hml, hown, hts⟩ (c_Mbeneath l D k b (nI 0) ki ba ow uu te ma va (pfF (leG th bs us M sM s0 c9 q9) (pfF (fun p => va (24 * s0 + p)) wa 24) i) th kd bs us sth mk M sM hR c9 (ok_st (Bool.and_eq_true_iff.mp c19).1) q9 (ok_st (Bool.and_eq_true_iff.mp c19).2) i (by omega) H.size) (cwV9 3 hts wd_536 wd_533 wd_535 ws_33 wd_4 (by decide) ⟨Nat.le_of_ble_eq_true rfl, Nat.le_of_ble_eq_true rfl⟩) (prV (q0 := 0) (ci := ciMo) hK hP hD (pm_nil' _) rfl rfl) rfl rfl hl.1 rfl (lv_room (Nat.le_of_ble_eq_true rfl)) d_M_lean_72 ⟨by decide, by decide⟩) (pm_nil' _) hP hD hS hA (fun r w1 H locs hw hpd hS => ?_)
              obtain ⟨rfl, rfl⟩ := hw
              obtain ⟨hP, hD⟩ := hpd (mdW k b (nI 0) ki ba ow uu te ma va (pfF (leG th bs us M sM s0 c9 q9) (pfF (fun p => va (24 * s0 + p)) wa 24) i)) (pm_nil _)
              refine lv_icmp_ne (tgt := 82) hx hb d_M_lean_75 (by decide) (fun c75 => ?_) (fun c75 => ?_)
              · skip
                refine lv_aload_n hx hb d_M_lean_82 rfl (lv_at hl 0 rfl) ?_
                refine va_get (D := D) (ci := ciMo) (v := .ref (b 8)) (C := RM) (T := TM) (N := 9) hx hb hts inM hown hK.1 hP 0 rfl rfl 8 (by decide) (hts _ wd_407) (fun _ h9 => h9) rfl d_M_lean_83 ?_
                refine lv_iload hx hb d_M_lean_86 (lv_at hl 4 rfl) ?_
                refine rw_iald hx hb hK.1 hP 8 0 rfl rfl (j := i) (by omega) (by decide) d_M_lean_88 ?_
                rw [show pfF (leG th bs us M sM s0 c9 q9) (pfF (fun p => va (24 * s0 + p)) wa 24) i i = sM s0 i from by show (if i < i then _ else (if i < 24 then va (24 * s0 + i) else wa i)) = sM s0 i; rw [if_neg (Nat.lt_irrefl i), if_pos (by omega)]; exact hR.2.2.2.2.2 s0 i hs0 (by omega) hs0t]
                refine rw_iast hx hb hK.1 hP hD hS 8 0 rfl rfl (j := i) (by omega) (by decide) d_M_lean_89 (wn := mdW k b (nI 0) ki ba ow uu te ma va (pfF (leG th bs us M sM s0 c9 q9) (pfF (fun p => va (24 * s0 + p)) wa 24) (i + 1))) (by rw [← pfF_s (g := (leG th bs us M sM s0 c9 q9)) (dr := (pfF (fun p => va (24 * s0 + p)) wa 24)) (i := i) (x := sM s0 i) (by show sM s0 i = (if sM s0 i = rbF th bs us M c9 q9 i then -1 else sM s0 i); rw [if_neg c75])]; rfl) (fun H locs hP hD hS => ?_)
                refine lv_iinc (v := nI (i + 1)) (lv' := [(4, .int (nI (i + 1))), (0, .ref (b 0)), (1, .int (nI s0)), (2, .int c9), (3, .int q9)]) hx hb d_M_lean_90 hl (k := 4) rfl (ii_1 _) (by decide) rfl (fun ls hl => ?_)
                refine lv_goto (tgt := 47) hx hb d_M_lean_93 (by decide) ?_
                exact ih (i + 1) ls H locs (by omega) (by omega) hP hD hS (lv_sub hl [1, 2, 3, 4, 0] rfl)
              · skip
                refine lv_iconst (v := -1) hx hb d_M_lean_78 (by decide) ?_
                refine lv_goto (tgt := 89) hx hb d_M_lean_79 (by decide) ?_
                refine rw_iast hx hb hK.1 hP hD hS 8 0 rfl rfl (j := i) (by omega) (by decide) d_M_lean_89 (wn := mdW k b (nI 0) ki ba ow uu te ma va (pfF (leG th bs us M sM s0 c9 q9) (pfF (fun p => va (24 * s0 + p)) wa 24) (i + 1))) (by rw [← pfF_s (g := (leG th bs us M sM s0 c9 q9)) (dr := (pfF (fun p => va (24 * s0 + p)) wa 24)) (i := i) (x := -1) (by show -1 = (if sM s0 i = rbF th bs us M c9 q9 i then -1 else sM s0 i); rw [if_pos c75])]; rfl) (fun H locs hP hD hS => ?_)
                refine lv_iinc (v := nI (i + 1)) (lv' := [(4, .int (nI (i + 1))), (0, .ref (b 0)), (1, .int (nI s0)), (2, .int c9), (3, .int q9)]) hx hb d_M_lean_90 hl (k := 4) rfl (ii_1 _) (by decide) rfl (fun ls hl => ?_)
                refine lv_goto (tgt := 47) hx hb d_M_lean_93 (by decide) ?_
                exact ih (i + 1) ls H locs (by omega) (by omega) hP hD hS (lv_sub hl [1, 2, 3, 4, 0] rfl)
        exact lp _ (0) ls H locs (Nat.lt_succ_self _) (by decide) hP hD hS (lv_sub hl [1, 2, 3, 4, 0] rfl)
      · skip
        exact absurd (by decide) c34
    · skip
      have c19 := b_of0 c19
      refine lv_iconst (v := nI 2) hx hb d_M_lean_22 (by decide) ?_
      refine lv_goto (tgt := 27) hx hb d_M_lean_23 (by decide) ?_
      refine va_put (D := D) (ci := ciMo) (v := .int (nI 2)) (ty := .int) (C := RM) (T := TM) (N := 9) hx hb hts inM tyM ttM nnM hown hK.1 hP hD hS 0 rfl rfl 0 (by decide) (hts _ wd_399) (fun _ h9 => h9) rfl (by decide +kernel) rfl rfl (Nat.le_of_ble_eq_true rfl) d_M_lean_27 (fun H locs hP hD hS => ?_)
      have hP : va_P D vwCl (mdW k b (nI 2) ki ba ow uu te ma va wa) H := hP
      have hD : va_D A (mdW k b (nI 2) ki ba ow uu te ma va wa) := hD
      refine lv_aload_n hx hb d_M_lean_30 rfl (lv_at hl 0 rfl) ?_
      refine va_get (D := D) (ci := ciMo) (v := .int (nI 2)) (C := RM) (T := TM) (N := 9) hx hb hts inM hown hK.1 hP 0 rfl rfl 0 (by decide) (hts _ wd_399) (fun _ h9 => h9) rfl d_M_lean_31 ?_
      refine lv_if_le (tgt := 39) hx hb d_M_lean_34 (by decide) (fun c34 => ?_) (fun c34 => ?_)
      · skip
        exact absurd c34 (by decide)
      · skip
        refine lv_iconst (v := nI 0) hx hb d_M_lean_37 (by decide) ?_
        rcases Bool.and_eq_false_iff.mp c19 with q | q
        · exact hret _ _ _ _ _ _ _ _ d_M_lean_38 ⟨fun h => absurd h (by simp [cdLe, c6, q]), fun _ => by rw [show cdLe th kd sth x c9 q9 false = 2 by simp [cdLe, c6, q]]⟩ hP hD hS (by decide) (by decide)
        · by_cases q1 : okB th kd c9 (nI 0) = true
          · exact hret _ _ _ _ _ _ _ _ d_M_lean_38 ⟨fun h => absurd h (by simp [cdLe, c6, q1, q]), fun _ => by rw [show cdLe th kd sth x c9 q9 false = 2 by simp [cdLe, c6, q1, q]]⟩ hP hD hS (by decide) (by decide)
          · exact hret _ _ _ _ _ _ _ _ d_M_lean_38 ⟨fun h => absurd h (by simp [cdLe, c6, q1]), fun _ => by rw [show cdLe th kd sth x c9 q9 false = 2 by simp [cdLe, c6, q1]]⟩ hP hD hS (by decide) (by decide)
  · skip
    have c6 := b_of0 c6
    refine lv_iconst (v := nI 1) hx hb d_M_lean_9 (by decide) ?_
    refine lv_goto (tgt := 27) hx hb d_M_lean_10 (by decide) ?_
    refine va_put (D := D) (ci := ciMo) (v := .int (nI 1)) (ty := .int) (C := RM) (T := TM) (N := 9) hx hb hts inM tyM ttM nnM hown hK.1 hP hD hS 0 rfl rfl 0 (by decide) (hts _ wd_399) (fun _ h9 => h9) rfl (by decide +kernel) rfl rfl (Nat.le_of_ble_eq_true rfl) d_M_lean_27 (fun H locs hP hD hS => ?_)
    have hP : va_P D vwCl (mdW k b (nI 1) ki ba ow uu te ma va wa) H := hP
    have hD : va_D A (mdW k b (nI 1) ki ba ow uu te ma va wa) := hD
    refine lv_aload_n hx hb d_M_lean_30 rfl (lv_at hl 0 rfl) ?_
    refine va_get (D := D) (ci := ciMo) (v := .int (nI 1)) (C := RM) (T := TM) (N := 9) hx hb hts inM hown hK.1 hP 0 rfl rfl 0 (by decide) (hts _ wd_399) (fun _ h9 => h9) rfl d_M_lean_31 ?_
    refine lv_if_le (tgt := 39) hx hb d_M_lean_34 (by decide) (fun c34 => ?_) (fun c34 => ?_)
    · skip
      exact absurd c34 (by decide)
    · skip
      refine lv_iconst (v := nI 0) hx hb d_M_lean_37 (by decide) ?_
      exact hret _ _ _ _ _ _ _ _ d_M_lean_38 ⟨fun h => absurd h (by simp [cdLe, c6]), fun _ => by rw [show cdLe th kd sth x c9 q9 false = 1 by simp [cdLe, c6]]⟩ hP hD hS (by decide) (by decide)

set_option maxRecDepth 100000 in
set_option maxHeartbeats 4000000 in
theorem c_Mcount (l : Launch) (D : va_G) (k : Nat → ClassId) (b : Nat → Nat) (cd : Int32) (ki ba ow uu te ma va wa : Nat → Int32) (th kd bs us sth mk : Nat → Int32) (M sM : Nat → Nat → Int32) (hR : RI th kd bs us sth mk M sM ki ba ow uu te ma va) (y : Int32) (sz : Nat) : bMI l y_M_count (wY y_M_count b_M_count 4 (some .int)) (rm9 4 0 0) D (tsK k) (mdW k b cd ki ba ow uu te ma va wa) sz [.ref (b 0), .int y] (fun v w => v = coF th bs sth M sM y ∧ w = mdW k b (nI 0) ki ba ow uu te ma va wa) 0 0 := by
  refine ent_i (cc := b_M_count) (maxL := 4) (ty := .int) (by decide) (Nat.le_of_ble_eq_true rfl) (fun _ _ _ => rfl) ?_
  intro p e s m args below meth c A Q ls hx hb hml hown hts hsz hA hP hD hS hK hl hret
  refine lv_aload_n hx hb d_M_count_0 rfl (lv_at hl 0 rfl) ?_
  refine lv_iconst (v := nI 0) hx hb d_M_count_1 (by decide) ?_
  refine va_put (D := D) (ci := ciMo) (v := .int (nI 0)) (ty := .int) (C := RM) (T := TM) (N := 9) hx hb hts inM tyM ttM nnM hown hK.1 hP hD hS 0 rfl rfl 0 (by decide) (hts _ wd_399) (fun _ h9 => h9) rfl (by decide +kernel) rfl rfl (Nat.le_of_ble_eq_true rfl) d_M_count_2 (fun H locs hP hD hS => ?_)
  have hP : va_P D vwCl (mdW k b (nI 0) ki ba ow uu te ma va wa) H := hP
  have hD : va_D A (mdW k b (nI 0) ki ba ow uu te ma va wa) := hD
  rcases sw5 y with rfl | rfl | rfl | rfl | rfl | ⟨hsw, hwh⟩
  · skip
    refine lv_iconst (v := nI 0) hx hb d_M_count_5 (by decide) ?_
    refine lv_istore_n (lv' := [(2, .int (nI 0)), (0, .ref (b 0)), (1, .int (nI 0))]) hx hb d_M_count_6 rfl hl (by decide) rfl (fun ls hl => ?_)
    refine lv_iconst (v := nI 0) hx hb d_M_count_7 (by decide) ?_
    refine lv_istore_n (lv' := [(3, .int (nI 0)), (2, .int (nI 0)), (0, .ref (b 0)), (1, .int (nI 0))]) hx hb d_M_count_8 rfl hl (by decide) rfl (fun ls hl => ?_)
    have lp : ∀ (n9 : Nat) (i : Nat) (ls : Array Slot) (H : Heap) (locs : List Loc), 64 - i < n9 → (i ≤ 64) → va_P D vwCl (mdW k b (nI 0) ki ba ow uu te ma va wa) H → va_D A (mdW k b (nI 0) ki ba ow uu te ma va wa) → va_S A s.heap H locs → lv_has ls 4 [(0, .ref (b 0)), (1, .int (nI 0)), (2, .int (nI (cnF (fun i => decide (th i ≠ 0)) i))), (3, .int (nI i))] → W p l e (rm9 4 0 0) s m args below meth c H locs 0 0 Q (F0 m 9 ls []) := by
      intro n9
      induction n9 with
      | zero => intro i ls H locs hm; omega
      | succ n9 ih =>
        intro i ls H locs hm hi hP hD hS hl
        refine lv_iload_n hx hb d_M_count_9 rfl (lv_at hl 3 rfl) ?_
        refine lv_bipush (v := nI 64) hx hb d_M_count_10 (by decide) ?_
        refine lv_icmp_ge (tgt := 72) hx hb d_M_count_12 (by decide) (fun c12 => ?_) (fun c12 => ?_)
        · skip
          rw [nI_leI (by omega) (by omega)] at c12
          obtain rfl : i = 64 := by omega
          refine lv_iconst (v := nI 0) hx hb d_M_count_72 (by decide) ?_
          refine lv_istore_n (lv' := [(3, .int (nI 0)), (0, .ref (b 0)), (1, .int (nI 0)), (2, .int (nI (cnF (fun i => decide (th i ≠ 0)) 64)))]) hx hb d_M_count_73 rfl hl (by decide) rfl (fun ls hl => ?_)
          have lp2 : ∀ (n9 : Nat) (i : Nat) (ls : Array Slot) (H : Heap) (locs : List Loc), 256 - i < n9 → (i ≤ 256) → va_P D vwCl (mdW k b (nI 0) ki ba ow uu te ma va wa) H → va_D A (mdW k b (nI 0) ki ba ow uu te ma va wa) → va_S A s.heap H locs → lv_has ls 4 [(0, .ref (b 0)), (1, .int (nI 0)), (2, .int (nI (cnF (fun i => decide (th i ≠ 0)) 64))), (3, .int (nI i))] → W p l e (rm9 4 0 0) s m args below meth c H locs 0 0 Q (F0 m 74 ls []) := by
            intro n9
            induction n9 with
            | zero => intro i ls H locs hm; omega
            | succ n9 ih =>
              intro i ls H locs hm hi hP hD hS hl
              refine lv_iload_n hx hb d_M_count_74 rfl (lv_at hl 3 rfl) ?_
              refine lv_sipush (v := nI 256) hx hb d_M_count_75 (by decide) ?_
              refine lv_icmp_ge (tgt := 120) hx hb d_M_count_78 (by decide) (fun c78 => ?_) (fun c78 => ?_)
              · skip
                rw [nI_leI (by omega) (by omega)] at c78
                refine lv_iload_n hx hb d_M_count_120 rfl (lv_at hl 1 rfl) ?_
                refine lv_iconst (v := nI 0) hx hb d_M_count_121 (by decide) ?_
                refine lv_iconst (v := nI 4) hx hb d_M_count_122 (by decide) ?_
                refine cal_i (wc := []) (wr := mdW k b (nI 0) ki ba ow uu te ma va wa) (va_runS (As := [.int (nI 0), .int (nI 0), .int (nI 4)]) (rest := []) ⟨hx, hb, hml, hown, hts⟩ (c_Min l D k (nI 0) (nI 0) (nI 4) H.size) (cwS9 3 hts wd_437 wd_435 wd_436 wd_4 (by decide) ⟨Nat.le_of_ble_eq_true rfl, Nat.le_of_ble_eq_true rfl⟩) (prS hK hP hD (List.Perm.refl _)) rfl rfl hl.1 rfl (lv_room (Nat.le_of_ble_eq_true rfl)) d_M_count_123 ⟨by decide, by decide⟩) (List.Perm.refl _) hP hD hS hA (fun r w1 H locs hw hpd hS => ?_)
                obtain ⟨rfl, rfl⟩ := hw
                obtain ⟨hP, hD⟩ := hpd (mdW k b (nI 0) ki ba ow uu te ma va wa) (List.Perm.refl _)
                refine lv_if_eq (tgt := 133) hx hb d_M_count_126 (by decide) (fun c126 => ?_) (fun c126 => ?_)
                · skip
                  exact absurd (b_of0 c126) (by decide)
                · skip
                  have c126 := b_of1 c126
                  refine lv_iload_n hx hb d_M_count_129 rfl (lv_at hl 2 rfl) ?_
                  refine lv_goto (tgt := 134) hx hb d_M_count_130 (by decide) ?_
                  obtain rfl : i = 256 := by omega
                  exact hret _ _ _ _ _ _ _ _ d_M_count_134 ⟨rfl, rfl⟩ hP hD hS (by decide) (by decide)
              · skip
                rw [nI_leI (by omega) (by omega)] at c78
                refine lv_aload_n hx hb d_M_count_81 rfl (lv_at hl 0 rfl) ?_
                refine va_get (D := D) (ci := ciMo) (v := .ref (b 5)) (C := RM) (T := TM) (N := 9) hx hb hts inM hown hK.1 hP 0 rfl rfl 5 (by decide) (hts _ wd_404) (fun _ h9 => h9) rfl d_M_count_82 ?_
                refine lv_iload_n hx hb d_M_count_85 rfl (lv_at hl 3 rfl) ?_
                refine rw_zald hx hb hK.1 hP 5 1 rfl rfl (j := i) (by omega) (by decide) d_M_count_86 ?_
                refine lv_if_ne (tgt := 93) hx hb d_M_count_87 (by decide) (fun c87 => ?_) (fun c87 => ?_)
                · skip
                  refine lv_iload_n hx hb d_M_count_93 rfl (lv_at hl 1 rfl) ?_
                  refine lv_iconst (v := nI 1) hx hb d_M_count_94 (by decide) ?_
                  refine lv_icmp_ne (tgt := 101) hx hb d_M_count_95 (by decide) (fun c95 => ?_) (fun c95 => ?_)
                  · skip
                    refine lv_iload_n hx hb d_M_count_101 rfl (lv_at hl 1 rfl) ?_
                    refine lv_iconst (v := nI 3) hx hb d_M_count_102 (by decide) ?_
                    refine lv_icmp_ne (tgt := 114) hx hb d_M_count_103 (by decide) (fun c103 => ?_) (fun c103 => ?_)
                    · skip
                      refine lv_iinc (v := nI (i + 1)) (lv' := [(3, .int (nI (i + 1))), (0, .ref (b 0)), (1, .int (nI 0)), (2, .int (nI (cnF (fun i => decide (th i ≠ 0)) 64)))]) hx hb d_M_count_114 hl (k := 3) rfl (ii_1 _) (by decide) rfl (fun ls hl => ?_)
                      refine lv_goto (tgt := 74) hx hb d_M_count_117 (by decide) ?_
                      exact ih (i + 1) ls H locs (by omega) (by omega) hP hD hS (lv_sub hl [1, 2, 3, 0] rfl)
                    · skip
                      exact absurd c103 (by decide)
                  · skip
                    exact absurd c95 (by decide)
                · skip
                  refine lv_goto (tgt := 114) hx hb d_M_count_90 (by decide) ?_
                  refine lv_iinc (v := nI (i + 1)) (lv' := [(3, .int (nI (i + 1))), (0, .ref (b 0)), (1, .int (nI 0)), (2, .int (nI (cnF (fun i => decide (th i ≠ 0)) 64)))]) hx hb d_M_count_114 hl (k := 3) rfl (ii_1 _) (by decide) rfl (fun ls hl => ?_)
                  refine lv_goto (tgt := 74) hx hb d_M_count_117 (by decide) ?_
                  exact ih (i + 1) ls H locs (by omega) (by omega) hP hD hS (lv_sub hl [1, 2, 3, 0] rfl)
          exact lp2 _ (0) ls H locs (Nat.lt_succ_self _) (by decide) hP hD hS (lv_sub hl [1, 2, 3, 0] rfl)
        · skip
          rw [nI_leI (by omega) (by omega)] at c12
          refine lv_aload_n hx hb d_M_count_15 rfl (lv_at hl 0 rfl) ?_
          refine lv_iload_n hx hb d_M_count_16 rfl (lv_at hl 3 rfl) ?_
          refine cal_i (wc := mdW k b (nI 0) ki ba ow uu te ma va wa) (wr := []) (va_runV (As := [.int (nI i)]) (rest := []) ⟨hx, hb, hml, hown, hts⟩ (c_MisStyle l D k b (nI 0) ki ba ow uu te ma va wa th hR.2.1.1 (nI i) H.size) (cwV9 1 hts wd_445 wd_442 wd_444 ws_22 wd_4 (by decide) ⟨Nat.le_of_ble_eq_true rfl, Nat.le_of_ble_eq_true rfl⟩) (prV (q0 := 0) (ci := ciMo) hK hP hD (pm_nil' _) rfl rfl) rfl rfl hl.1 rfl (lv_room (Nat.le_of_ble_eq_true rfl)) d_M_count_17 ⟨by decide, by decide⟩) (pm_nil' _) hP hD hS hA (fun r w1 H locs hw hpd hS => ?_)
          obtain ⟨rfl, rfl⟩ := hw
          obtain ⟨hP, hD⟩ := hpd (mdW k b (nI 0) ki ba ow uu te ma va wa) (pm_nil _)
          refine lv_if_ne (tgt := 26) hx hb d_M_count_20 (by decide) (fun c20 => ?_) (fun c20 => ?_)
          · skip
            have c20 := b_of1 c20
            rw [hsB_nI (by omega) (by decide)] at c20
            have c20 := of_decide_eq_true c20
            have hi9 : i < 64 := by omega
            refine lv_iload_n hx hb d_M_count_26 rfl (lv_at hl 1 rfl) ?_
            refine lv_if_ne (tgt := 33) hx hb d_M_count_27 (by decide) (fun c27 => ?_) (fun c27 => ?_)
            · skip
              exact absurd (by decide) c27
            · skip
              refine lv_iinc (v := nI ((cnF (fun i => decide (th i ≠ 0)) i) + 1)) (lv' := [(2, .int (nI ((cnF (fun i => decide (th i ≠ 0)) i) + 1))), (0, .ref (b 0)), (1, .int (nI 0)), (3, .int (nI i))]) hx hb d_M_count_30 hl (k := 2) rfl (ii_1 _) (by decide) rfl (fun ls hl => ?_)
              refine lv_iload_n hx hb d_M_count_33 rfl (lv_at hl 2 rfl) ?_
              refine lv_iconst (v := nI 2) hx hb d_M_count_34 (by decide) ?_
              refine lv_icmp_ne (tgt := 46) hx hb d_M_count_35 (by decide) (fun c35 => ?_) (fun c35 => ?_)
              · skip
                refine lv_iload_n hx hb d_M_count_46 rfl (lv_at hl 2 rfl) ?_
                refine lv_iconst (v := nI 4) hx hb d_M_count_47 (by decide) ?_
                refine lv_icmp_ne (tgt := 66) hx hb d_M_count_48 (by decide) (fun c48 => ?_) (fun c48 => ?_)
                · skip
                  rw [cnF_t (f := fun i => decide (th i ≠ 0)) (i := i) (by simp [c20])] at hl
                  refine lv_iinc (v := nI (i + 1)) (lv' := [(3, .int (nI (i + 1))), (2, .int (nI (cnF (fun i => decide (th i ≠ 0)) (i + 1)))), (0, .ref (b 0)), (1, .int (nI 0))]) hx hb d_M_count_66 hl (k := 3) rfl (ii_1 _) (by decide) rfl (fun ls hl => ?_)
                  refine lv_goto (tgt := 9) hx hb d_M_count_69 (by decide) ?_
                  exact ih (i + 1) ls H locs (by omega) (by omega) hP hD hS (lv_sub hl [2, 3, 1, 0] rfl)
                · skip
                  exact absurd c48 (by decide)
              · skip
                exact absurd c35 (by decide)
          · skip
            have c20 := b_of0 c20
            rw [hsB_nI (by omega) (by decide)] at c20
            have c20 := of_decide_eq_false c20
            have c20 := Classical.not_not.mp c20
            refine lv_goto (tgt := 66) hx hb d_M_count_23 (by decide) ?_
            rw [cnF_f (f := fun i => decide (th i ≠ 0)) (i := i) (by simp [c20])] at hl
            refine lv_iinc (v := nI (i + 1)) (lv' := [(3, .int (nI (i + 1))), (0, .ref (b 0)), (1, .int (nI 0)), (2, .int (nI (cnF (fun i => decide (th i ≠ 0)) (i + 1))))]) hx hb d_M_count_66 hl (k := 3) rfl (ii_1 _) (by decide) rfl (fun ls hl => ?_)
            refine lv_goto (tgt := 9) hx hb d_M_count_69 (by decide) ?_
            exact ih (i + 1) ls H locs (by omega) (by omega) hP hD hS (lv_sub hl [1, 2, 3, 0] rfl)
    exact lp _ (0) ls H locs (Nat.lt_succ_self _) (by decide) hP hD hS (lv_sub hl [2, 3, 1, 0] rfl)
  · skip
    refine lv_iconst (v := nI 0) hx hb d_M_count_5 (by decide) ?_
    refine lv_istore_n (lv' := [(2, .int (nI 0)), (0, .ref (b 0)), (1, .int (nI 1))]) hx hb d_M_count_6 rfl hl (by decide) rfl (fun ls hl => ?_)
    refine lv_iconst (v := nI 0) hx hb d_M_count_7 (by decide) ?_
    refine lv_istore_n (lv' := [(3, .int (nI 0)), (2, .int (nI 0)), (0, .ref (b 0)), (1, .int (nI 1))]) hx hb d_M_count_8 rfl hl (by decide) rfl (fun ls hl => ?_)
    have lp : ∀ (n9 : Nat) (i : Nat) (ls : Array Slot) (H : Heap) (locs : List Loc), 64 - i < n9 → (i ≤ 64) → va_P D vwCl (mdW k b (nI 0) ki ba ow uu te ma va wa) H → va_D A (mdW k b (nI 0) ki ba ow uu te ma va wa) → va_S A s.heap H locs → lv_has ls 4 [(0, .ref (b 0)), (1, .int (nI 1)), (2, .int (nI 0)), (3, .int (nI i))] → W p l e (rm9 4 0 0) s m args below meth c H locs 0 0 Q (F0 m 9 ls []) := by
      intro n9
      induction n9 with
      | zero => intro i ls H locs hm; omega
      | succ n9 ih =>
        intro i ls H locs hm hi hP hD hS hl
        refine lv_iload_n hx hb d_M_count_9 rfl (lv_at hl 3 rfl) ?_
        refine lv_bipush (v := nI 64) hx hb d_M_count_10 (by decide) ?_
        refine lv_icmp_ge (tgt := 72) hx hb d_M_count_12 (by decide) (fun c12 => ?_) (fun c12 => ?_)
        · skip
          rw [nI_leI (by omega) (by omega)] at c12
          obtain rfl : i = 64 := by omega
          refine lv_iconst (v := nI 0) hx hb d_M_count_72 (by decide) ?_
          refine lv_istore_n (lv' := [(3, .int (nI 0)), (0, .ref (b 0)), (1, .int (nI 1)), (2, .int (nI 0))]) hx hb d_M_count_73 rfl hl (by decide) rfl (fun ls hl => ?_)
          have lp2 : ∀ (n9 : Nat) (i : Nat) (ls : Array Slot) (H : Heap) (locs : List Loc), 256 - i < n9 → (i ≤ 256) → va_P D vwCl (mdW k b (nI 0) ki ba ow uu te ma va wa) H → va_D A (mdW k b (nI 0) ki ba ow uu te ma va wa) → va_S A s.heap H locs → lv_has ls 4 [(0, .ref (b 0)), (1, .int (nI 1)), (2, .int (nI (cnF (fun i => decide (sth i ≠ 0)) i))), (3, .int (nI i))] → W p l e (rm9 4 0 0) s m args below meth c H locs 0 0 Q (F0 m 74 ls []) := by
            intro n9
            induction n9 with
            | zero => intro i ls H locs hm; omega
            | succ n9 ih =>
              intro i ls H locs hm hi hP hD hS hl
              refine lv_iload_n hx hb d_M_count_74 rfl (lv_at hl 3 rfl) ?_
              refine lv_sipush (v := nI 256) hx hb d_M_count_75 (by decide) ?_
              refine lv_icmp_ge (tgt := 120) hx hb d_M_count_78 (by decide) (fun c78 => ?_) (fun c78 => ?_)
              · skip
                rw [nI_leI (by omega) (by omega)] at c78
                refine lv_iload_n hx hb d_M_count_120 rfl (lv_at hl 1 rfl) ?_
                refine lv_iconst (v := nI 0) hx hb d_M_count_121 (by decide) ?_
                refine lv_iconst (v := nI 4) hx hb d_M_count_122 (by decide) ?_
                refine cal_i (wc := []) (wr := mdW k b (nI 0) ki ba ow uu te ma va wa) (va_runS (As := [.int (nI 1), .int (nI 0), .int (nI 4)]) (rest := []) ⟨hx, hb, hml, hown, hts⟩ (c_Min l D k (nI 1) (nI 0) (nI 4) H.size) (cwS9 3 hts wd_437 wd_435 wd_436 wd_4 (by decide) ⟨Nat.le_of_ble_eq_true rfl, Nat.le_of_ble_eq_true rfl⟩) (prS hK hP hD (List.Perm.refl _)) rfl rfl hl.1 rfl (lv_room (Nat.le_of_ble_eq_true rfl)) d_M_count_123 ⟨by decide, by decide⟩) (List.Perm.refl _) hP hD hS hA (fun r w1 H locs hw hpd hS => ?_)
                obtain ⟨rfl, rfl⟩ := hw
                obtain ⟨hP, hD⟩ := hpd (mdW k b (nI 0) ki ba ow uu te ma va wa) (List.Perm.refl _)
                refine lv_if_eq (tgt := 133) hx hb d_M_count_126 (by decide) (fun c126 => ?_) (fun c126 => ?_)
                · skip
                  exact absurd (b_of0 c126) (by decide)
                · skip
                  have c126 := b_of1 c126
                  refine lv_iload_n hx hb d_M_count_129 rfl (lv_at hl 2 rfl) ?_
                  refine lv_goto (tgt := 134) hx hb d_M_count_130 (by decide) ?_
                  obtain rfl : i = 256 := by omega
                  exact hret _ _ _ _ _ _ _ _ d_M_count_134 ⟨rfl, rfl⟩ hP hD hS (by decide) (by decide)
              · skip
                rw [nI_leI (by omega) (by omega)] at c78
                refine lv_aload_n hx hb d_M_count_81 rfl (lv_at hl 0 rfl) ?_
                refine va_get (D := D) (ci := ciMo) (v := .ref (b 5)) (C := RM) (T := TM) (N := 9) hx hb hts inM hown hK.1 hP 0 rfl rfl 5 (by decide) (hts _ wd_404) (fun _ h9 => h9) rfl d_M_count_82 ?_
                refine lv_iload_n hx hb d_M_count_85 rfl (lv_at hl 3 rfl) ?_
                refine rw_zald hx hb hK.1 hP 5 1 rfl rfl (j := i) (by omega) (by decide) d_M_count_86 ?_
                refine lv_if_ne (tgt := 93) hx hb d_M_count_87 (by decide) (fun c87 => ?_) (fun c87 => ?_)
                · skip
                  refine lv_iload_n hx hb d_M_count_93 rfl (lv_at hl 1 rfl) ?_
                  refine lv_iconst (v := nI 1) hx hb d_M_count_94 (by decide) ?_
                  refine lv_icmp_ne (tgt := 101) hx hb d_M_count_95 (by decide) (fun c95 => ?_) (fun c95 => ?_)
                  · skip
                    exact absurd (by decide) c95
                  · skip
                    refine lv_iinc (v := nI ((cnF (fun i => decide (sth i ≠ 0)) i) + 1)) (lv' := [(2, .int (nI ((cnF (fun i => decide (sth i ≠ 0)) i) + 1))), (0, .ref (b 0)), (1, .int (nI 1)), (3, .int (nI i))]) hx hb d_M_count_98 hl (k := 2) rfl (ii_1 _) (by decide) rfl (fun ls hl => ?_)
                    refine lv_iload_n hx hb d_M_count_101 rfl (lv_at hl 2 rfl) ?_
                    refine lv_iconst (v := nI 3) hx hb d_M_count_102 (by decide) ?_
                    refine lv_icmp_ne (tgt := 114) hx hb d_M_count_103 (by decide) (fun c103 => ?_) (fun c103 => ?_)
                    · skip
                      rw [cnF_t (f := fun i => decide (sth i ≠ 0)) (i := i) (by rw [hR.2.2.2.1 i (by omega)] at c87; simp [c87])] at hl
                      refine lv_iinc (v := nI (i + 1)) (lv' := [(3, .int (nI (i + 1))), (2, .int (nI (cnF (fun i => decide (sth i ≠ 0)) (i + 1)))), (0, .ref (b 0)), (1, .int (nI 1))]) hx hb d_M_count_114 hl (k := 3) rfl (ii_1 _) (by decide) rfl (fun ls hl => ?_)
                      refine lv_goto (tgt := 74) hx hb d_M_count_117 (by decide) ?_
                      exact ih (i + 1) ls H locs (by omega) (by omega) hP hD hS (lv_sub hl [2, 3, 1, 0] rfl)
                    · skip
                      exact absurd c103 (by decide)
                · skip
                  refine lv_goto (tgt := 114) hx hb d_M_count_90 (by decide) ?_
                  rw [cnF_f (f := fun i => decide (sth i ≠ 0)) (i := i) (by rw [hR.2.2.2.1 i (by omega)] at c87; simp [c87])] at hl
                  refine lv_iinc (v := nI (i + 1)) (lv' := [(3, .int (nI (i + 1))), (0, .ref (b 0)), (1, .int (nI 1)), (2, .int (nI (cnF (fun i => decide (sth i ≠ 0)) (i + 1))))]) hx hb d_M_count_114 hl (k := 3) rfl (ii_1 _) (by decide) rfl (fun ls hl => ?_)
                  refine lv_goto (tgt := 74) hx hb d_M_count_117 (by decide) ?_
                  exact ih (i + 1) ls H locs (by omega) (by omega) hP hD hS (lv_sub hl [1, 2, 3, 0] rfl)
          exact lp2 _ (0) ls H locs (Nat.lt_succ_self _) (by decide) hP hD hS (lv_sub hl [1, 2, 3, 0] rfl)
        · skip
          rw [nI_leI (by omega) (by omega)] at c12
          refine lv_aload_n hx hb d_M_count_15 rfl (lv_at hl 0 rfl) ?_
          refine lv_iload_n hx hb d_M_count_16 rfl (lv_at hl 3 rfl) ?_
          refine cal_i (wc := mdW k b (nI 0) ki ba ow uu te ma va wa) (wr := []) (va_runV (As := [.int (nI i)]) (rest := []) ⟨hx, hb, hml, hown, hts⟩ (c_MisStyle l D k b (nI 0) ki ba ow uu te ma va wa th hR.2.1.1 (nI i) H.size) (cwV9 1 hts wd_445 wd_442 wd_444 ws_22 wd_4 (by decide) ⟨Nat.le_of_ble_eq_true rfl, Nat.le_of_ble_eq_true rfl⟩) (prV (q0 := 0) (ci := ciMo) hK hP hD (pm_nil' _) rfl rfl) rfl rfl hl.1 rfl (lv_room (Nat.le_of_ble_eq_true rfl)) d_M_count_17 ⟨by decide, by decide⟩) (pm_nil' _) hP hD hS hA (fun r w1 H locs hw hpd hS => ?_)
          obtain ⟨rfl, rfl⟩ := hw
          obtain ⟨hP, hD⟩ := hpd (mdW k b (nI 0) ki ba ow uu te ma va wa) (pm_nil _)
          refine lv_if_ne (tgt := 26) hx hb d_M_count_20 (by decide) (fun c20 => ?_) (fun c20 => ?_)
          · skip
            have c20 := b_of1 c20
            rw [hsB_nI (by omega) (by decide)] at c20
            have c20 := of_decide_eq_true c20
            have hi9 : i < 64 := by omega
            refine lv_iload_n hx hb d_M_count_26 rfl (lv_at hl 1 rfl) ?_
            refine lv_if_ne (tgt := 33) hx hb d_M_count_27 (by decide) (fun c27 => ?_) (fun c27 => ?_)
            · skip
              refine lv_iload_n hx hb d_M_count_33 rfl (lv_at hl 1 rfl) ?_
              refine lv_iconst (v := nI 2) hx hb d_M_count_34 (by decide) ?_
              refine lv_icmp_ne (tgt := 46) hx hb d_M_count_35 (by decide) (fun c35 => ?_) (fun c35 => ?_)
              · skip
                refine lv_iload_n hx hb d_M_count_46 rfl (lv_at hl 1 rfl) ?_
                refine lv_iconst (v := nI 4) hx hb d_M_count_47 (by decide) ?_
                refine lv_icmp_ne (tgt := 66) hx hb d_M_count_48 (by decide) (fun c48 => ?_) (fun c48 => ?_)
                · skip
                  refine lv_iinc (v := nI (i + 1)) (lv' := [(3, .int (nI (i + 1))), (0, .ref (b 0)), (1, .int (nI 1)), (2, .int (nI 0))]) hx hb d_M_count_66 hl (k := 3) rfl (ii_1 _) (by decide) rfl (fun ls hl => ?_)
                  refine lv_goto (tgt := 9) hx hb d_M_count_69 (by decide) ?_
                  exact ih (i + 1) ls H locs (by omega) (by omega) hP hD hS (lv_sub hl [1, 2, 3, 0] rfl)
                · skip
                  exact absurd c48 (by decide)
              · skip
                exact absurd c35 (by decide)
            · skip
              exact absurd c27 (by decide)
          · skip
            have c20 := b_of0 c20
            rw [hsB_nI (by omega) (by decide)] at c20
            have c20 := of_decide_eq_false c20
            have c20 := Classical.not_not.mp c20
            refine lv_goto (tgt := 66) hx hb d_M_count_23 (by decide) ?_
            refine lv_iinc (v := nI (i + 1)) (lv' := [(3, .int (nI (i + 1))), (0, .ref (b 0)), (1, .int (nI 1)), (2, .int (nI 0))]) hx hb d_M_count_66 hl (k := 3) rfl (ii_1 _) (by decide) rfl (fun ls hl => ?_)
            refine lv_goto (tgt := 9) hx hb d_M_count_69 (by decide) ?_
            exact ih (i + 1) ls H locs (by omega) (by omega) hP hD hS (lv_sub hl [1, 2, 3, 0] rfl)
    exact lp _ (0) ls H locs (Nat.lt_succ_self _) (by decide) hP hD hS (lv_sub hl [2, 3, 1, 0] rfl)
  · skip
    refine lv_iconst (v := nI 0) hx hb d_M_count_5 (by decide) ?_
    refine lv_istore_n (lv' := [(2, .int (nI 0)), (0, .ref (b 0)), (1, .int (nI 2))]) hx hb d_M_count_6 rfl hl (by decide) rfl (fun ls hl => ?_)
    refine lv_iconst (v := nI 0) hx hb d_M_count_7 (by decide) ?_
    refine lv_istore_n (lv' := [(3, .int (nI 0)), (2, .int (nI 0)), (0, .ref (b 0)), (1, .int (nI 2))]) hx hb d_M_count_8 rfl hl (by decide) rfl (fun ls hl => ?_)
    have lp : ∀ (n9 : Nat) (i : Nat) (ls : Array Slot) (H : Heap) (locs : List Loc), 64 - i < n9 → (i ≤ 64) → va_P D vwCl (mdW k b (nI 0) ki ba ow uu te ma va wa) H → va_D A (mdW k b (nI 0) ki ba ow uu te ma va wa) → va_S A s.heap H locs → lv_has ls 4 [(0, .ref (b 0)), (1, .int (nI 2)), (2, .int (nI (smF (fun i => viF M i) i))), (3, .int (nI i))] → W p l e (rm9 4 0 0) s m args below meth c H locs 0 0 Q (F0 m 9 ls []) := by
      intro n9
      induction n9 with
      | zero => intro i ls H locs hm; omega
      | succ n9 ih =>
        intro i ls H locs hm hi hP hD hS hl
        refine lv_iload_n hx hb d_M_count_9 rfl (lv_at hl 3 rfl) ?_
        refine lv_bipush (v := nI 64) hx hb d_M_count_10 (by decide) ?_
        refine lv_icmp_ge (tgt := 72) hx hb d_M_count_12 (by decide) (fun c12 => ?_) (fun c12 => ?_)
        · skip
          rw [nI_leI (by omega) (by omega)] at c12
          obtain rfl : i = 64 := by omega
          refine lv_iconst (v := nI 0) hx hb d_M_count_72 (by decide) ?_
          refine lv_istore_n (lv' := [(3, .int (nI 0)), (0, .ref (b 0)), (1, .int (nI 2)), (2, .int (nI (smF (fun i => viF M i) 64)))]) hx hb d_M_count_73 rfl hl (by decide) rfl (fun ls hl => ?_)
          have lp2 : ∀ (n9 : Nat) (i : Nat) (ls : Array Slot) (H : Heap) (locs : List Loc), 256 - i < n9 → (i ≤ 256) → va_P D vwCl (mdW k b (nI 0) ki ba ow uu te ma va wa) H → va_D A (mdW k b (nI 0) ki ba ow uu te ma va wa) → va_S A s.heap H locs → lv_has ls 4 [(0, .ref (b 0)), (1, .int (nI 2)), (2, .int (nI (smF (fun i => viF M i) 64))), (3, .int (nI i))] → W p l e (rm9 4 0 0) s m args below meth c H locs 0 0 Q (F0 m 74 ls []) := by
            intro n9
            induction n9 with
            | zero => intro i ls H locs hm; omega
            | succ n9 ih =>
              intro i ls H locs hm hi hP hD hS hl
              refine lv_iload_n hx hb d_M_count_74 rfl (lv_at hl 3 rfl) ?_
              refine lv_sipush (v := nI 256) hx hb d_M_count_75 (by decide) ?_
              refine lv_icmp_ge (tgt := 120) hx hb d_M_count_78 (by decide) (fun c78 => ?_) (fun c78 => ?_)
              · skip
                rw [nI_leI (by omega) (by omega)] at c78
                refine lv_iload_n hx hb d_M_count_120 rfl (lv_at hl 1 rfl) ?_
                refine lv_iconst (v := nI 0) hx hb d_M_count_121 (by decide) ?_
                refine lv_iconst (v := nI 4) hx hb d_M_count_122 (by decide) ?_
                refine cal_i (wc := []) (wr := mdW k b (nI 0) ki ba ow uu te ma va wa) (va_runS (As := [.int (nI 2), .int (nI 0), .int (nI 4)]) (rest := []) ⟨hx, hb, hml, hown, hts⟩ (c_Min l D k (nI 2) (nI 0) (nI 4) H.size) (cwS9 3 hts wd_437 wd_435 wd_436 wd_4 (by decide) ⟨Nat.le_of_ble_eq_true rfl, Nat.le_of_ble_eq_true rfl⟩) (prS hK hP hD (List.Perm.refl _)) rfl rfl hl.1 rfl (lv_room (Nat.le_of_ble_eq_true rfl)) d_M_count_123 ⟨by decide, by decide⟩) (List.Perm.refl _) hP hD hS hA (fun r w1 H locs hw hpd hS => ?_)
                obtain ⟨rfl, rfl⟩ := hw
                obtain ⟨hP, hD⟩ := hpd (mdW k b (nI 0) ki ba ow uu te ma va wa) (List.Perm.refl _)
                refine lv_if_eq (tgt := 133) hx hb d_M_count_126 (by decide) (fun c126 => ?_) (fun c126 => ?_)
                · skip
                  exact absurd (b_of0 c126) (by decide)
                · skip
                  have c126 := b_of1 c126
                  refine lv_iload_n hx hb d_M_count_129 rfl (lv_at hl 2 rfl) ?_
                  refine lv_goto (tgt := 134) hx hb d_M_count_130 (by decide) ?_
                  obtain rfl : i = 256 := by omega
                  exact hret _ _ _ _ _ _ _ _ d_M_count_134 ⟨rfl, rfl⟩ hP hD hS (by decide) (by decide)
              · skip
                rw [nI_leI (by omega) (by omega)] at c78
                refine lv_aload_n hx hb d_M_count_81 rfl (lv_at hl 0 rfl) ?_
                refine va_get (D := D) (ci := ciMo) (v := .ref (b 5)) (C := RM) (T := TM) (N := 9) hx hb hts inM hown hK.1 hP 0 rfl rfl 5 (by decide) (hts _ wd_404) (fun _ h9 => h9) rfl d_M_count_82 ?_
                refine lv_iload_n hx hb d_M_count_85 rfl (lv_at hl 3 rfl) ?_
                refine rw_zald hx hb hK.1 hP 5 1 rfl rfl (j := i) (by omega) (by decide) d_M_count_86 ?_
                refine lv_if_ne (tgt := 93) hx hb d_M_count_87 (by decide) (fun c87 => ?_) (fun c87 => ?_)
                · skip
                  refine lv_iload_n hx hb d_M_count_93 rfl (lv_at hl 1 rfl) ?_
                  refine lv_iconst (v := nI 1) hx hb d_M_count_94 (by decide) ?_
                  refine lv_icmp_ne (tgt := 101) hx hb d_M_count_95 (by decide) (fun c95 => ?_) (fun c95 => ?_)
                  · skip
                    refine lv_iload_n hx hb d_M_count_101 rfl (lv_at hl 1 rfl) ?_
                    refine lv_iconst (v := nI 3) hx hb d_M_count_102 (by decide) ?_
                    refine lv_icmp_ne (tgt := 114) hx hb d_M_count_103 (by decide) (fun c103 => ?_) (fun c103 => ?_)
                    · skip
                      refine lv_iinc (v := nI (i + 1)) (lv' := [(3, .int (nI (i + 1))), (0, .ref (b 0)), (1, .int (nI 2)), (2, .int (nI (smF (fun i => viF M i) 64)))]) hx hb d_M_count_114 hl (k := 3) rfl (ii_1 _) (by decide) rfl (fun ls hl => ?_)
                      refine lv_goto (tgt := 74) hx hb d_M_count_117 (by decide) ?_
                      exact ih (i + 1) ls H locs (by omega) (by omega) hP hD hS (lv_sub hl [1, 2, 3, 0] rfl)
                    · skip
                      exact absurd c103 (by decide)
                  · skip
                    exact absurd c95 (by decide)
                · skip
                  refine lv_goto (tgt := 114) hx hb d_M_count_90 (by decide) ?_
                  refine lv_iinc (v := nI (i + 1)) (lv' := [(3, .int (nI (i + 1))), (0, .ref (b 0)), (1, .int (nI 2)), (2, .int (nI (smF (fun i => viF M i) 64)))]) hx hb d_M_count_114 hl (k := 3) rfl (ii_1 _) (by decide) rfl (fun ls hl => ?_)
                  refine lv_goto (tgt := 74) hx hb d_M_count_117 (by decide) ?_
                  exact ih (i + 1) ls H locs (by omega) (by omega) hP hD hS (lv_sub hl [1, 2, 3, 0] rfl)
          exact lp2 _ (0) ls H locs (Nat.lt_succ_self _) (by decide) hP hD hS (lv_sub hl [1, 2, 3, 0] rfl)
        · skip
          rw [nI_leI (by omega) (by omega)] at c12
          refine lv_aload_n hx hb d_M_count_15 rfl (lv_at hl 0 rfl) ?_
          refine lv_iload_n hx hb d_M_count_16 rfl (lv_at hl 3 rfl) ?_
          refine cal_i (wc := mdW k b (nI 0) ki ba ow uu te ma va wa) (wr := []) (va_runV (As := [.int (nI i)]) (rest := []) ⟨hx, hb, hml, hown, hts⟩ (c_MisStyle l D k b (nI 0) ki ba ow uu te ma va wa th hR.2.1.1 (nI i) H.size) (cwV9 1 hts wd_445 wd_442 wd_444 ws_22 wd_4 (by decide) ⟨Nat.le_of_ble_eq_true rfl, Nat.le_of_ble_eq_true rfl⟩) (prV (q0 := 0) (ci := ciMo) hK hP hD (pm_nil' _) rfl rfl) rfl rfl hl.1 rfl (lv_room (Nat.le_of_ble_eq_true rfl)) d_M_count_17 ⟨by decide, by decide⟩) (pm_nil' _) hP hD hS hA (fun r w1 H locs hw hpd hS => ?_)
          obtain ⟨rfl, rfl⟩ := hw
          obtain ⟨hP, hD⟩ := hpd (mdW k b (nI 0) ki ba ow uu te ma va wa) (pm_nil _)
          refine lv_if_ne (tgt := 26) hx hb d_M_count_20 (by decide) (fun c20 => ?_) (fun c20 => ?_)
          · skip
            have c20 := b_of1 c20
            rw [hsB_nI (by omega) (by decide)] at c20
            have c20 := of_decide_eq_true c20
            have hi9 : i < 64 := by omega
            refine lv_iload_n hx hb d_M_count_26 rfl (lv_at hl 1 rfl) ?_
            refine lv_if_ne (tgt := 33) hx hb d_M_count_27 (by decide) (fun c27 => ?_) (fun c27 => ?_)
            · skip
              refine lv_iload_n hx hb d_M_count_33 rfl (lv_at hl 1 rfl) ?_
              refine lv_iconst (v := nI 2) hx hb d_M_count_34 (by decide) ?_
              refine lv_icmp_ne (tgt := 46) hx hb d_M_count_35 (by decide) (fun c35 => ?_) (fun c35 => ?_)
              · skip
                exact absurd (by decide) c35
              · skip
                refine lv_iload_n hx hb d_M_count_38 rfl (lv_at hl 2 rfl) ?_
                refine lv_aload_n hx hb d_M_count_39 rfl (lv_at hl 0 rfl) ?_
                refine lv_iload_n hx hb d_M_count_40 rfl (lv_at hl 3 rfl) ?_
                refine cal_i (wc := mdW k b (nI 0) ki ba ow uu te ma va wa) (wr := []) (va_runV (As := [.int (nI i)]) (rest := [.int (nI (smF (fun i => viF M i) i))]) ⟨hx, hb, hml, hown, hts⟩ (c_Mowned l D k b (nI 0) ki ba ow uu te ma va wa th kd bs us sth mk M sM hR i hi9 c20 H.size) (cwV9 1 hts wd_496 wd_493 wd_495 ws_27 wd_4 (by decide) ⟨Nat.le_of_ble_eq_true rfl, Nat.le_of_ble_eq_true rfl⟩) (prV (q0 := 0) (ci := ciMo) hK hP hD (pm_nil' _) rfl rfl) rfl rfl hl.1 rfl (lv_room (Nat.le_of_ble_eq_true rfl)) d_M_count_41 ⟨by decide, by decide⟩) (pm_nil' _) hP hD hS hA (fun r w1 H locs hw hpd hS => ?_)
                obtain ⟨rfl, rfl⟩ := hw
                obtain ⟨hP, hD⟩ := hpd (mdW k b (nI 0) ki ba ow uu te ma va wa) (pm_nil _)
                refine lv_iadd hx hb d_M_count_44 ?_
                rw [nI_add]
                refine lv_istore_n (lv' := [(2, .int (nI ((smF (fun i => viF M i) i) + (viF M i)))), (0, .ref (b 0)), (1, .int (nI 2)), (3, .int (nI i))]) hx hb d_M_count_45 rfl hl (by decide) rfl (fun ls hl => ?_)
                refine lv_iload_n hx hb d_M_count_46 rfl (lv_at hl 2 rfl) ?_
                refine lv_iconst (v := nI 4) hx hb d_M_count_47 (by decide) ?_
                refine lv_icmp_ne (tgt := 66) hx hb d_M_count_48 (by decide) (fun c48 => ?_) (fun c48 => ?_)
                · skip
                  rw [smF_s (fun i => viF M i) i] at hl
                  refine lv_iinc (v := nI (i + 1)) (lv' := [(3, .int (nI (i + 1))), (2, .int (nI (smF (fun i => viF M i) (i + 1)))), (0, .ref (b 0)), (1, .int (nI 2))]) hx hb d_M_count_66 hl (k := 3) rfl (ii_1 _) (by decide) rfl (fun ls hl => ?_)
                  refine lv_goto (tgt := 9) hx hb d_M_count_69 (by decide) ?_
                  exact ih (i + 1) ls H locs (by omega) (by omega) hP hD hS (lv_sub hl [2, 3, 1, 0] rfl)
                · skip
                  exact absurd c48 (by decide)
            · skip
              exact absurd c27 (by decide)
          · skip
            have c20 := b_of0 c20
            rw [hsB_nI (by omega) (by decide)] at c20
            have c20 := of_decide_eq_false c20
            have c20 := Classical.not_not.mp c20
            refine lv_goto (tgt := 66) hx hb d_M_count_23 (by decide) ?_
            rw [show smF (fun i => viF M i) i = smF (fun i => viF M i) (i + 1) by rw [← smF_s, vi_0 (hR.1.1.2.1 i · (by omega) · c20)]; rfl] at hl
            refine lv_iinc (v := nI (i + 1)) (lv' := [(3, .int (nI (i + 1))), (0, .ref (b 0)), (1, .int (nI 2)), (2, .int (nI (smF (fun i => viF M i) (i + 1))))]) hx hb d_M_count_66 hl (k := 3) rfl (ii_1 _) (by decide) rfl (fun ls hl => ?_)
            refine lv_goto (tgt := 9) hx hb d_M_count_69 (by decide) ?_
            exact ih (i + 1) ls H locs (by omega) (by omega) hP hD hS (lv_sub hl [1, 2, 3, 0] rfl)
    exact lp _ (0) ls H locs (Nat.lt_succ_self _) (by decide) hP hD hS (lv_sub hl [2, 3, 1, 0] rfl)
  · skip
    refine lv_iconst (v := nI 0) hx hb d_M_count_5 (by decide) ?_
    refine lv_istore_n (lv' := [(2, .int (nI 0)), (0, .ref (b 0)), (1, .int (nI 3))]) hx hb d_M_count_6 rfl hl (by decide) rfl (fun ls hl => ?_)
    refine lv_iconst (v := nI 0) hx hb d_M_count_7 (by decide) ?_
    refine lv_istore_n (lv' := [(3, .int (nI 0)), (2, .int (nI 0)), (0, .ref (b 0)), (1, .int (nI 3))]) hx hb d_M_count_8 rfl hl (by decide) rfl (fun ls hl => ?_)
    have lp : ∀ (n9 : Nat) (i : Nat) (ls : Array Slot) (H : Heap) (locs : List Loc), 64 - i < n9 → (i ≤ 64) → va_P D vwCl (mdW k b (nI 0) ki ba ow uu te ma va wa) H → va_D A (mdW k b (nI 0) ki ba ow uu te ma va wa) → va_S A s.heap H locs → lv_has ls 4 [(0, .ref (b 0)), (1, .int (nI 3)), (2, .int (nI 0)), (3, .int (nI i))] → W p l e (rm9 4 0 0) s m args below meth c H locs 0 0 Q (F0 m 9 ls []) := by
      intro n9
      induction n9 with
      | zero => intro i ls H locs hm; omega
      | succ n9 ih =>
        intro i ls H locs hm hi hP hD hS hl
        refine lv_iload_n hx hb d_M_count_9 rfl (lv_at hl 3 rfl) ?_
        refine lv_bipush (v := nI 64) hx hb d_M_count_10 (by decide) ?_
        refine lv_icmp_ge (tgt := 72) hx hb d_M_count_12 (by decide) (fun c12 => ?_) (fun c12 => ?_)
        · skip
          rw [nI_leI (by omega) (by omega)] at c12
          obtain rfl : i = 64 := by omega
          refine lv_iconst (v := nI 0) hx hb d_M_count_72 (by decide) ?_
          refine lv_istore_n (lv' := [(3, .int (nI 0)), (0, .ref (b 0)), (1, .int (nI 3)), (2, .int (nI 0))]) hx hb d_M_count_73 rfl hl (by decide) rfl (fun ls hl => ?_)
          have lp2 : ∀ (n9 : Nat) (i : Nat) (ls : Array Slot) (H : Heap) (locs : List Loc), 256 - i < n9 → (i ≤ 256) → va_P D vwCl (mdW k b (nI 0) ki ba ow uu te ma va wa) H → va_D A (mdW k b (nI 0) ki ba ow uu te ma va wa) → va_S A s.heap H locs → lv_has ls 4 [(0, .ref (b 0)), (1, .int (nI 3)), (2, .int (nI (smF (fun i => viF sM i) i))), (3, .int (nI i))] → W p l e (rm9 4 0 0) s m args below meth c H locs 0 0 Q (F0 m 74 ls []) := by
            intro n9
            induction n9 with
            | zero => intro i ls H locs hm; omega
            | succ n9 ih =>
              intro i ls H locs hm hi hP hD hS hl
              refine lv_iload_n hx hb d_M_count_74 rfl (lv_at hl 3 rfl) ?_
              refine lv_sipush (v := nI 256) hx hb d_M_count_75 (by decide) ?_
              refine lv_icmp_ge (tgt := 120) hx hb d_M_count_78 (by decide) (fun c78 => ?_) (fun c78 => ?_)
              · skip
                rw [nI_leI (by omega) (by omega)] at c78
                refine lv_iload_n hx hb d_M_count_120 rfl (lv_at hl 1 rfl) ?_
                refine lv_iconst (v := nI 0) hx hb d_M_count_121 (by decide) ?_
                refine lv_iconst (v := nI 4) hx hb d_M_count_122 (by decide) ?_
                refine cal_i (wc := []) (wr := mdW k b (nI 0) ki ba ow uu te ma va wa) (va_runS (As := [.int (nI 3), .int (nI 0), .int (nI 4)]) (rest := []) ⟨hx, hb, hml, hown, hts⟩ (c_Min l D k (nI 3) (nI 0) (nI 4) H.size) (cwS9 3 hts wd_437 wd_435 wd_436 wd_4 (by decide) ⟨Nat.le_of_ble_eq_true rfl, Nat.le_of_ble_eq_true rfl⟩) (prS hK hP hD (List.Perm.refl _)) rfl rfl hl.1 rfl (lv_room (Nat.le_of_ble_eq_true rfl)) d_M_count_123 ⟨by decide, by decide⟩) (List.Perm.refl _) hP hD hS hA (fun r w1 H locs hw hpd hS => ?_)
                obtain ⟨rfl, rfl⟩ := hw
                obtain ⟨hP, hD⟩ := hpd (mdW k b (nI 0) ki ba ow uu te ma va wa) (List.Perm.refl _)
                refine lv_if_eq (tgt := 133) hx hb d_M_count_126 (by decide) (fun c126 => ?_) (fun c126 => ?_)
                · skip
                  exact absurd (b_of0 c126) (by decide)
                · skip
                  have c126 := b_of1 c126
                  refine lv_iload_n hx hb d_M_count_129 rfl (lv_at hl 2 rfl) ?_
                  refine lv_goto (tgt := 134) hx hb d_M_count_130 (by decide) ?_
                  obtain rfl : i = 256 := by omega
                  exact hret _ _ _ _ _ _ _ _ d_M_count_134 ⟨rfl, rfl⟩ hP hD hS (by decide) (by decide)
              · skip
                rw [nI_leI (by omega) (by omega)] at c78
                refine lv_aload_n hx hb d_M_count_81 rfl (lv_at hl 0 rfl) ?_
                refine va_get (D := D) (ci := ciMo) (v := .ref (b 5)) (C := RM) (T := TM) (N := 9) hx hb hts inM hown hK.1 hP 0 rfl rfl 5 (by decide) (hts _ wd_404) (fun _ h9 => h9) rfl d_M_count_82 ?_
                refine lv_iload_n hx hb d_M_count_85 rfl (lv_at hl 3 rfl) ?_
                refine rw_zald hx hb hK.1 hP 5 1 rfl rfl (j := i) (by omega) (by decide) d_M_count_86 ?_
                refine lv_if_ne (tgt := 93) hx hb d_M_count_87 (by decide) (fun c87 => ?_) (fun c87 => ?_)
                · skip
                  refine lv_iload_n hx hb d_M_count_93 rfl (lv_at hl 1 rfl) ?_
                  refine lv_iconst (v := nI 1) hx hb d_M_count_94 (by decide) ?_
                  refine lv_icmp_ne (tgt := 101) hx hb d_M_count_95 (by decide) (fun c95 => ?_) (fun c95 => ?_)
                  · skip
                    refine lv_iload_n hx hb d_M_count_101 rfl (lv_at hl 1 rfl) ?_
                    refine lv_iconst (v := nI 3) hx hb d_M_count_102 (by decide) ?_
                    refine lv_icmp_ne (tgt := 114) hx hb d_M_count_103 (by decide) (fun c103 => ?_) (fun c103 => ?_)
                    · skip
                      exact absurd (by decide) c103
                    · skip
                      refine lv_iload_n hx hb d_M_count_106 rfl (lv_at hl 2 rfl) ?_
                      refine lv_aload_n hx hb d_M_count_107 rfl (lv_at hl 0 rfl) ?_
                      refine lv_iload_n hx hb d_M_count_108 rfl (lv_at hl 3 rfl) ?_
                      refine cal_i (wc := mdW k b (nI 0) ki ba ow uu te ma va wa) (wr := []) (va_runV (As := [.int (nI i)]) (rest := [.int (nI (smF (fun i => viF sM i) i))]) ⟨hx, hb, hml, hown, hts⟩ (c_Msized l D k b (nI 0) ki ba ow uu te ma va wa th kd bs us sth mk M sM hR i (by omega) (fun z => c87 ((hR.2.2.2.1 i (by omega)).trans z)) H.size) (cwV9 1 hts wd_548 wd_545 wd_547 ws_34 wd_4 (by decide) ⟨Nat.le_of_ble_eq_true rfl, Nat.le_of_ble_eq_true rfl⟩) (prV (q0 := 0) (ci := ciMo) hK hP hD (pm_nil' _) rfl rfl) rfl rfl hl.1 rfl (lv_room (Nat.le_of_ble_eq_true rfl)) d_M_count_109 ⟨by decide, by decide⟩) (pm_nil' _) hP hD hS hA (fun r w1 H locs hw hpd hS => ?_)
                      obtain ⟨rfl, rfl⟩ := hw
                      obtain ⟨hP, hD⟩ := hpd (mdW k b (nI 0) ki ba ow uu te ma va wa) (pm_nil _)
                      refine lv_iadd hx hb d_M_count_112 ?_
                      rw [nI_add]
                      refine lv_istore_n (lv' := [(2, .int (nI ((smF (fun i => viF sM i) i) + (viF sM i)))), (0, .ref (b 0)), (1, .int (nI 3)), (3, .int (nI i))]) hx hb d_M_count_113 rfl hl (by decide) rfl (fun ls hl => ?_)
                      rw [smF_s (fun i => viF sM i) i] at hl
                      refine lv_iinc (v := nI (i + 1)) (lv' := [(3, .int (nI (i + 1))), (2, .int (nI (smF (fun i => viF sM i) (i + 1)))), (0, .ref (b 0)), (1, .int (nI 3))]) hx hb d_M_count_114 hl (k := 3) rfl (ii_1 _) (by decide) rfl (fun ls hl => ?_)
                      refine lv_goto (tgt := 74) hx hb d_M_count_117 (by decide) ?_
                      exact ih (i + 1) ls H locs (by omega) (by omega) hP hD hS (lv_sub hl [2, 3, 1, 0] rfl)
                  · skip
                    exact absurd c95 (by decide)
                · skip
                  refine lv_goto (tgt := 114) hx hb d_M_count_90 (by decide) ?_
                  rw [show smF (fun i => viF sM i) i = smF (fun i => viF sM i) (i + 1) by rw [← smF_s, vi_0 (hR.1.2.2.2.2.1 i · (by omega) · ((hR.2.2.2.1 i (by omega)).symm.trans c87))]; rfl] at hl
                  refine lv_iinc (v := nI (i + 1)) (lv' := [(3, .int (nI (i + 1))), (0, .ref (b 0)), (1, .int (nI 3)), (2, .int (nI (smF (fun i => viF sM i) (i + 1))))]) hx hb d_M_count_114 hl (k := 3) rfl (ii_1 _) (by decide) rfl (fun ls hl => ?_)
                  refine lv_goto (tgt := 74) hx hb d_M_count_117 (by decide) ?_
                  exact ih (i + 1) ls H locs (by omega) (by omega) hP hD hS (lv_sub hl [1, 2, 3, 0] rfl)
          exact lp2 _ (0) ls H locs (Nat.lt_succ_self _) (by decide) hP hD hS (lv_sub hl [1, 2, 3, 0] rfl)
        · skip
          rw [nI_leI (by omega) (by omega)] at c12
          refine lv_aload_n hx hb d_M_count_15 rfl (lv_at hl 0 rfl) ?_
          refine lv_iload_n hx hb d_M_count_16 rfl (lv_at hl 3 rfl) ?_
          refine cal_i (wc := mdW k b (nI 0) ki ba ow uu te ma va wa) (wr := []) (va_runV (As := [.int (nI i)]) (rest := []) ⟨hx, hb, hml, hown, hts⟩ (c_MisStyle l D k b (nI 0) ki ba ow uu te ma va wa th hR.2.1.1 (nI i) H.size) (cwV9 1 hts wd_445 wd_442 wd_444 ws_22 wd_4 (by decide) ⟨Nat.le_of_ble_eq_true rfl, Nat.le_of_ble_eq_true rfl⟩) (prV (q0 := 0) (ci := ciMo) hK hP hD (pm_nil' _) rfl rfl) rfl rfl hl.1 rfl (lv_room (Nat.le_of_ble_eq_true rfl)) d_M_count_17 ⟨by decide, by decide⟩) (pm_nil' _) hP hD hS hA (fun r w1 H locs hw hpd hS => ?_)
          obtain ⟨rfl, rfl⟩ := hw
          obtain ⟨hP, hD⟩ := hpd (mdW k b (nI 0) ki ba ow uu te ma va wa) (pm_nil _)
          refine lv_if_ne (tgt := 26) hx hb d_M_count_20 (by decide) (fun c20 => ?_) (fun c20 => ?_)
          · skip
            have c20 := b_of1 c20
            rw [hsB_nI (by omega) (by decide)] at c20
            have c20 := of_decide_eq_true c20
            have hi9 : i < 64 := by omega
            refine lv_iload_n hx hb d_M_count_26 rfl (lv_at hl 1 rfl) ?_
            refine lv_if_ne (tgt := 33) hx hb d_M_count_27 (by decide) (fun c27 => ?_) (fun c27 => ?_)
            · skip
              refine lv_iload_n hx hb d_M_count_33 rfl (lv_at hl 1 rfl) ?_
              refine lv_iconst (v := nI 2) hx hb d_M_count_34 (by decide) ?_
              refine lv_icmp_ne (tgt := 46) hx hb d_M_count_35 (by decide) (fun c35 => ?_) (fun c35 => ?_)
              · skip
                refine lv_iload_n hx hb d_M_count_46 rfl (lv_at hl 1 rfl) ?_
                refine lv_iconst (v := nI 4) hx hb d_M_count_47 (by decide) ?_
                refine lv_icmp_ne (tgt := 66) hx hb d_M_count_48 (by decide) (fun c48 => ?_) (fun c48 => ?_)
                · skip
                  refine lv_iinc (v := nI (i + 1)) (lv' := [(3, .int (nI (i + 1))), (0, .ref (b 0)), (1, .int (nI 3)), (2, .int (nI 0))]) hx hb d_M_count_66 hl (k := 3) rfl (ii_1 _) (by decide) rfl (fun ls hl => ?_)
                  refine lv_goto (tgt := 9) hx hb d_M_count_69 (by decide) ?_
                  exact ih (i + 1) ls H locs (by omega) (by omega) hP hD hS (lv_sub hl [1, 2, 3, 0] rfl)
                · skip
                  exact absurd c48 (by decide)
              · skip
                exact absurd c35 (by decide)
            · skip
              exact absurd c27 (by decide)
          · skip
            have c20 := b_of0 c20
            rw [hsB_nI (by omega) (by decide)] at c20
            have c20 := of_decide_eq_false c20
            have c20 := Classical.not_not.mp c20
            refine lv_goto (tgt := 66) hx hb d_M_count_23 (by decide) ?_
            refine lv_iinc (v := nI (i + 1)) (lv' := [(3, .int (nI (i + 1))), (0, .ref (b 0)), (1, .int (nI 3)), (2, .int (nI 0))]) hx hb d_M_count_66 hl (k := 3) rfl (ii_1 _) (by decide) rfl (fun ls hl => ?_)
            refine lv_goto (tgt := 9) hx hb d_M_count_69 (by decide) ?_
            exact ih (i + 1) ls H locs (by omega) (by omega) hP hD hS (lv_sub hl [1, 2, 3, 0] rfl)
    exact lp _ (0) ls H locs (Nat.lt_succ_self _) (by decide) hP hD hS (lv_sub hl [2, 3, 1, 0] rfl)
  · skip
    refine lv_iconst (v := nI 0) hx hb d_M_count_5 (by decide) ?_
    refine lv_istore_n (lv' := [(2, .int (nI 0)), (0, .ref (b 0)), (1, .int (nI 4))]) hx hb d_M_count_6 rfl hl (by decide) rfl (fun ls hl => ?_)
    refine lv_iconst (v := nI 0) hx hb d_M_count_7 (by decide) ?_
    refine lv_istore_n (lv' := [(3, .int (nI 0)), (2, .int (nI 0)), (0, .ref (b 0)), (1, .int (nI 4))]) hx hb d_M_count_8 rfl hl (by decide) rfl (fun ls hl => ?_)
    have lp : ∀ (n9 : Nat) (i : Nat) (ls : Array Slot) (H : Heap) (locs : List Loc), 64 - i < n9 → (i ≤ 64) → va_P D vwCl (mdW k b (nI 0) ki ba ow uu te ma va wa) H → va_D A (mdW k b (nI 0) ki ba ow uu te ma va wa) → va_S A s.heap H locs → lv_has ls 4 [(0, .ref (b 0)), (1, .int (nI 4)), (2, .int (nI (mxF (fun i => chF th bs 64 (nI i)) i))), (3, .int (nI i))] → W p l e (rm9 4 0 0) s m args below meth c H locs 0 0 Q (F0 m 9 ls []) := by
      intro n9
      induction n9 with
      | zero => intro i ls H locs hm; omega
      | succ n9 ih =>
        intro i ls H locs hm hi hP hD hS hl
        refine lv_iload_n hx hb d_M_count_9 rfl (lv_at hl 3 rfl) ?_
        refine lv_bipush (v := nI 64) hx hb d_M_count_10 (by decide) ?_
        refine lv_icmp_ge (tgt := 72) hx hb d_M_count_12 (by decide) (fun c12 => ?_) (fun c12 => ?_)
        · skip
          rw [nI_leI (by omega) (by omega)] at c12
          obtain rfl : i = 64 := by omega
          refine lv_iconst (v := nI 0) hx hb d_M_count_72 (by decide) ?_
          refine lv_istore_n (lv' := [(3, .int (nI 0)), (0, .ref (b 0)), (1, .int (nI 4)), (2, .int (nI (mxF (fun i => chF th bs 64 (nI i)) 64)))]) hx hb d_M_count_73 rfl hl (by decide) rfl (fun ls hl => ?_)
          have lp2 : ∀ (n9 : Nat) (i : Nat) (ls : Array Slot) (H : Heap) (locs : List Loc), 256 - i < n9 → (i ≤ 256) → va_P D vwCl (mdW k b (nI 0) ki ba ow uu te ma va wa) H → va_D A (mdW k b (nI 0) ki ba ow uu te ma va wa) → va_S A s.heap H locs → lv_has ls 4 [(0, .ref (b 0)), (1, .int (nI 4)), (2, .int (nI (mxF (fun i => chF th bs 64 (nI i)) 64))), (3, .int (nI i))] → W p l e (rm9 4 0 0) s m args below meth c H locs 0 0 Q (F0 m 74 ls []) := by
            intro n9
            induction n9 with
            | zero => intro i ls H locs hm; omega
            | succ n9 ih =>
              intro i ls H locs hm hi hP hD hS hl
              refine lv_iload_n hx hb d_M_count_74 rfl (lv_at hl 3 rfl) ?_
              refine lv_sipush (v := nI 256) hx hb d_M_count_75 (by decide) ?_
              refine lv_icmp_ge (tgt := 120) hx hb d_M_count_78 (by decide) (fun c78 => ?_) (fun c78 => ?_)
              · skip
                rw [nI_leI (by omega) (by omega)] at c78
                refine lv_iload_n hx hb d_M_count_120 rfl (lv_at hl 1 rfl) ?_
                refine lv_iconst (v := nI 0) hx hb d_M_count_121 (by decide) ?_
                refine lv_iconst (v := nI 4) hx hb d_M_count_122 (by decide) ?_
                refine cal_i (wc := []) (wr := mdW k b (nI 0) ki ba ow uu te ma va wa) (va_runS (As := [.int (nI 4), .int (nI 0), .int (nI 4)]) (rest := []) ⟨hx, hb, hml, hown, hts⟩ (c_Min l D k (nI 4) (nI 0) (nI 4) H.size) (cwS9 3 hts wd_437 wd_435 wd_436 wd_4 (by decide) ⟨Nat.le_of_ble_eq_true rfl, Nat.le_of_ble_eq_true rfl⟩) (prS hK hP hD (List.Perm.refl _)) rfl rfl hl.1 rfl (lv_room (Nat.le_of_ble_eq_true rfl)) d_M_count_123 ⟨by decide, by decide⟩) (List.Perm.refl _) hP hD hS hA (fun r w1 H locs hw hpd hS => ?_)
                obtain ⟨rfl, rfl⟩ := hw
                obtain ⟨hP, hD⟩ := hpd (mdW k b (nI 0) ki ba ow uu te ma va wa) (List.Perm.refl _)
                refine lv_if_eq (tgt := 133) hx hb d_M_count_126 (by decide) (fun c126 => ?_) (fun c126 => ?_)
                · skip
                  exact absurd (b_of0 c126) (by decide)
                · skip
                  have c126 := b_of1 c126
                  refine lv_iload_n hx hb d_M_count_129 rfl (lv_at hl 2 rfl) ?_
                  refine lv_goto (tgt := 134) hx hb d_M_count_130 (by decide) ?_
                  obtain rfl : i = 256 := by omega
                  exact hret _ _ _ _ _ _ _ _ d_M_count_134 ⟨rfl, rfl⟩ hP hD hS (by decide) (by decide)
              · skip
                rw [nI_leI (by omega) (by omega)] at c78
                refine lv_aload_n hx hb d_M_count_81 rfl (lv_at hl 0 rfl) ?_
                refine va_get (D := D) (ci := ciMo) (v := .ref (b 5)) (C := RM) (T := TM) (N := 9) hx hb hts inM hown hK.1 hP 0 rfl rfl 5 (by decide) (hts _ wd_404) (fun _ h9 => h9) rfl d_M_count_82 ?_
                refine lv_iload_n hx hb d_M_count_85 rfl (lv_at hl 3 rfl) ?_
                refine rw_zald hx hb hK.1 hP 5 1 rfl rfl (j := i) (by omega) (by decide) d_M_count_86 ?_
                refine lv_if_ne (tgt := 93) hx hb d_M_count_87 (by decide) (fun c87 => ?_) (fun c87 => ?_)
                · skip
                  refine lv_iload_n hx hb d_M_count_93 rfl (lv_at hl 1 rfl) ?_
                  refine lv_iconst (v := nI 1) hx hb d_M_count_94 (by decide) ?_
                  refine lv_icmp_ne (tgt := 101) hx hb d_M_count_95 (by decide) (fun c95 => ?_) (fun c95 => ?_)
                  · skip
                    refine lv_iload_n hx hb d_M_count_101 rfl (lv_at hl 1 rfl) ?_
                    refine lv_iconst (v := nI 3) hx hb d_M_count_102 (by decide) ?_
                    refine lv_icmp_ne (tgt := 114) hx hb d_M_count_103 (by decide) (fun c103 => ?_) (fun c103 => ?_)
                    · skip
                      refine lv_iinc (v := nI (i + 1)) (lv' := [(3, .int (nI (i + 1))), (0, .ref (b 0)), (1, .int (nI 4)), (2, .int (nI (mxF (fun i => chF th bs 64 (nI i)) 64)))]) hx hb d_M_count_114 hl (k := 3) rfl (ii_1 _) (by decide) rfl (fun ls hl => ?_)
                      refine lv_goto (tgt := 74) hx hb d_M_count_117 (by decide) ?_
                      exact ih (i + 1) ls H locs (by omega) (by omega) hP hD hS (lv_sub hl [1, 2, 3, 0] rfl)
                    · skip
                      exact absurd c103 (by decide)
                  · skip
                    exact absurd c95 (by decide)
                · skip
                  refine lv_goto (tgt := 114) hx hb d_M_count_90 (by decide) ?_
                  refine lv_iinc (v := nI (i + 1)) (lv' := [(3, .int (nI (i + 1))), (0, .ref (b 0)), (1, .int (nI 4)), (2, .int (nI (mxF (fun i => chF th bs 64 (nI i)) 64)))]) hx hb d_M_count_114 hl (k := 3) rfl (ii_1 _) (by decide) rfl (fun ls hl => ?_)
                  refine lv_goto (tgt := 74) hx hb d_M_count_117 (by decide) ?_
                  exact ih (i + 1) ls H locs (by omega) (by omega) hP hD hS (lv_sub hl [1, 2, 3, 0] rfl)
          exact lp2 _ (0) ls H locs (Nat.lt_succ_self _) (by decide) hP hD hS (lv_sub hl [1, 2, 3, 0] rfl)
        · skip
          rw [nI_leI (by omega) (by omega)] at c12
          refine lv_aload_n hx hb d_M_count_15 rfl (lv_at hl 0 rfl) ?_
          refine lv_iload_n hx hb d_M_count_16 rfl (lv_at hl 3 rfl) ?_
          refine cal_i (wc := mdW k b (nI 0) ki ba ow uu te ma va wa) (wr := []) (va_runV (As := [.int (nI i)]) (rest := []) ⟨hx, hb, hml, hown, hts⟩ (c_MisStyle l D k b (nI 0) ki ba ow uu te ma va wa th hR.2.1.1 (nI i) H.size) (cwV9 1 hts wd_445 wd_442 wd_444 ws_22 wd_4 (by decide) ⟨Nat.le_of_ble_eq_true rfl, Nat.le_of_ble_eq_true rfl⟩) (prV (q0 := 0) (ci := ciMo) hK hP hD (pm_nil' _) rfl rfl) rfl rfl hl.1 rfl (lv_room (Nat.le_of_ble_eq_true rfl)) d_M_count_17 ⟨by decide, by decide⟩) (pm_nil' _) hP hD hS hA (fun r w1 H locs hw hpd hS => ?_)
          obtain ⟨rfl, rfl⟩ := hw
          obtain ⟨hP, hD⟩ := hpd (mdW k b (nI 0) ki ba ow uu te ma va wa) (pm_nil _)
          refine lv_if_ne (tgt := 26) hx hb d_M_count_20 (by decide) (fun c20 => ?_) (fun c20 => ?_)
          · skip
            have c20 := b_of1 c20
            rw [hsB_nI (by omega) (by decide)] at c20
            have c20 := of_decide_eq_true c20
            have hi9 : i < 64 := by omega
            refine lv_iload_n hx hb d_M_count_26 rfl (lv_at hl 1 rfl) ?_
            refine lv_if_ne (tgt := 33) hx hb d_M_count_27 (by decide) (fun c27 => ?_) (fun c27 => ?_)
            · skip
              refine lv_iload_n hx hb d_M_count_33 rfl (lv_at hl 1 rfl) ?_
              refine lv_iconst (v := nI 2) hx hb d_M_count_34 (by decide) ?_
              refine lv_icmp_ne (tgt := 46) hx hb d_M_count_35 (by decide) (fun c35 => ?_) (fun c35 => ?_)
              · skip
                refine lv_iload_n hx hb d_M_count_46 rfl (lv_at hl 1 rfl) ?_
                refine lv_iconst (v := nI 4) hx hb d_M_count_47 (by decide) ?_
                refine lv_icmp_ne (tgt := 66) hx hb d_M_count_48 (by decide) (fun c48 => ?_) (fun c48 => ?_)
                · skip
                  exact absurd (by decide) c48
                · skip
                  refine lv_aload_n hx hb d_M_count_51 rfl (lv_at hl 0 rfl) ?_
                  refine lv_iload_n hx hb d_M_count_52 rfl (lv_at hl 3 rfl) ?_
                  refine cal_i (wc := mdW k b (nI 0) ki ba ow uu te ma va wa) (wr := []) (va_runV (As := [.int (nI i)]) (rest := []) ⟨hx, hb, hml, hown, hts⟩ (c_Mchain l D k b (nI 0) ki ba ow uu te ma va wa th kd bs us sth mk M sM hR i hi9 c20 H.size) (cwV9 1 hts wd_492 wd_489 wd_491 ws_26 wd_4 (by decide) ⟨Nat.le_of_ble_eq_true rfl, Nat.le_of_ble_eq_true rfl⟩) (prV (q0 := 0) (ci := ciMo) hK hP hD (pm_nil' _) rfl rfl) rfl rfl hl.1 rfl (lv_room (Nat.le_of_ble_eq_true rfl)) d_M_count_53 ⟨by decide, by decide⟩) (pm_nil' _) hP hD hS hA (fun r w1 H locs hw hpd hS => ?_)
                  obtain ⟨rfl, rfl⟩ := hw
                  obtain ⟨hP, hD⟩ := hpd (mdW k b (nI 0) ki ba ow uu te ma va wa) (pm_nil _)
                  refine lv_iload_n hx hb d_M_count_56 rfl (lv_at hl 2 rfl) ?_
                  have hb9 := mxF_le (f := fun i => chF th bs 64 (nI i)) (fun i => chF_le 64 _) i
                  have hb8 := chF_le (th := th) (bs := bs) 64 (nI i)
                  refine lv_icmp_le (tgt := 66) hx hb d_M_count_57 (by decide) (fun c57 => ?_) (fun c57 => ?_)
                  · skip
                    rw [nI_leI (by omega) (by omega)] at c57
                    rw [show mxF (fun i => chF th bs 64 (nI i)) i = mxF (fun i => chF th bs 64 (nI i)) (i + 1) by rw [mxF_s, if_neg (by omega)]] at hl
                    refine lv_iinc (v := nI (i + 1)) (lv' := [(3, .int (nI (i + 1))), (0, .ref (b 0)), (1, .int (nI 4)), (2, .int (nI (mxF (fun i => chF th bs 64 (nI i)) (i + 1))))]) hx hb d_M_count_66 hl (k := 3) rfl (ii_1 _) (by decide) rfl (fun ls hl => ?_)
                    refine lv_goto (tgt := 9) hx hb d_M_count_69 (by decide) ?_
                    exact ih (i + 1) ls H locs (by omega) (by omega) hP hD hS (lv_sub hl [1, 2, 3, 0] rfl)
                  · skip
                    rw [nI_leI (by omega) (by omega)] at c57
                    refine lv_aload_n hx hb d_M_count_60 rfl (lv_at hl 0 rfl) ?_
                    refine lv_iload_n hx hb d_M_count_61 rfl (lv_at hl 3 rfl) ?_
                    refine cal_i (wc := mdW k b (nI 0) ki ba ow uu te ma va wa) (wr := []) (va_runV (As := [.int (nI i)]) (rest := []) ⟨hx, hb, hml, hown, hts⟩ (c_Mchain l D k b (nI 0) ki ba ow uu te ma va wa th kd bs us sth mk M sM hR i hi9 c20 H.size) (cwV9 1 hts wd_492 wd_489 wd_491 ws_26 wd_4 (by decide) ⟨Nat.le_of_ble_eq_true rfl, Nat.le_of_ble_eq_true rfl⟩) (prV (q0 := 0) (ci := ciMo) hK hP hD (pm_nil' _) rfl rfl) rfl rfl hl.1 rfl (lv_room (Nat.le_of_ble_eq_true rfl)) d_M_count_62 ⟨by decide, by decide⟩) (pm_nil' _) hP hD hS hA (fun r w1 H locs hw hpd hS => ?_)
                    obtain ⟨rfl, rfl⟩ := hw
                    obtain ⟨hP, hD⟩ := hpd (mdW k b (nI 0) ki ba ow uu te ma va wa) (pm_nil _)
                    refine lv_istore_n (lv' := [(2, .int (nI (chF th bs 64 (nI i)))), (0, .ref (b 0)), (1, .int (nI 4)), (3, .int (nI i))]) hx hb d_M_count_65 rfl hl (by decide) rfl (fun ls hl => ?_)
                    rw [show chF th bs 64 (nI i) = mxF (fun i => chF th bs 64 (nI i)) (i + 1) by rw [mxF_s, if_pos (by omega)]] at hl
                    refine lv_iinc (v := nI (i + 1)) (lv' := [(3, .int (nI (i + 1))), (2, .int (nI (mxF (fun i => chF th bs 64 (nI i)) (i + 1)))), (0, .ref (b 0)), (1, .int (nI 4))]) hx hb d_M_count_66 hl (k := 3) rfl (ii_1 _) (by decide) rfl (fun ls hl => ?_)
                    refine lv_goto (tgt := 9) hx hb d_M_count_69 (by decide) ?_
                    exact ih (i + 1) ls H locs (by omega) (by omega) hP hD hS (lv_sub hl [2, 3, 1, 0] rfl)
              · skip
                exact absurd c35 (by decide)
            · skip
              exact absurd c27 (by decide)
          · skip
            have c20 := b_of0 c20
            rw [hsB_nI (by omega) (by decide)] at c20
            have c20 := of_decide_eq_false c20
            have c20 := Classical.not_not.mp c20
            refine lv_goto (tgt := 66) hx hb d_M_count_23 (by decide) ?_
            rw [show mxF (fun i => chF th bs 64 (nI i)) i = mxF (fun i => chF th bs 64 (nI i)) (i + 1) by rw [mxF_s, chF_off (by rw [hsB_nI (by omega) (by decide)]; exact decide_eq_false (fun z => z c20))]; rfl] at hl
            refine lv_iinc (v := nI (i + 1)) (lv' := [(3, .int (nI (i + 1))), (0, .ref (b 0)), (1, .int (nI 4)), (2, .int (nI (mxF (fun i => chF th bs 64 (nI i)) (i + 1))))]) hx hb d_M_count_66 hl (k := 3) rfl (ii_1 _) (by decide) rfl (fun ls hl => ?_)
            refine lv_goto (tgt := 9) hx hb d_M_count_69 (by decide) ?_
            exact ih (i + 1) ls H locs (by omega) (by omega) hP hD hS (lv_sub hl [1, 2, 3, 0] rfl)
    exact lp _ (0) ls H locs (Nat.lt_succ_self _) (by decide) hP hD hS (lv_sub hl [2, 3, 1, 0] rfl)
  · skip
    have hy : ¬ y = nI 0 ∧ ¬ y = nI 1 ∧ ¬ y = nI 2 ∧ ¬ y = nI 3 ∧ ¬ y = nI 4 := by simpa [whB] using hwh
    refine lv_iconst (v := nI 0) hx hb d_M_count_5 (by decide) ?_
    refine lv_istore_n (lv' := [(2, .int (nI 0)), (0, .ref (b 0)), (1, .int y)]) hx hb d_M_count_6 rfl hl (by decide) rfl (fun ls hl => ?_)
    refine lv_iconst (v := nI 0) hx hb d_M_count_7 (by decide) ?_
    refine lv_istore_n (lv' := [(3, .int (nI 0)), (2, .int (nI 0)), (0, .ref (b 0)), (1, .int y)]) hx hb d_M_count_8 rfl hl (by decide) rfl (fun ls hl => ?_)
    have lp : ∀ (n9 : Nat) (i : Nat) (ls : Array Slot) (H : Heap) (locs : List Loc), 64 - i < n9 → (i ≤ 64) → va_P D vwCl (mdW k b (nI 0) ki ba ow uu te ma va wa) H → va_D A (mdW k b (nI 0) ki ba ow uu te ma va wa) → va_S A s.heap H locs → lv_has ls 4 [(0, .ref (b 0)), (1, .int y), (2, .int (nI 0)), (3, .int (nI i))] → W p l e (rm9 4 0 0) s m args below meth c H locs 0 0 Q (F0 m 9 ls []) := by
      intro n9
      induction n9 with
      | zero => intro i ls H locs hm; omega
      | succ n9 ih =>
        intro i ls H locs hm hi hP hD hS hl
        refine lv_iload_n hx hb d_M_count_9 rfl (lv_at hl 3 rfl) ?_
        refine lv_bipush (v := nI 64) hx hb d_M_count_10 (by decide) ?_
        refine lv_icmp_ge (tgt := 72) hx hb d_M_count_12 (by decide) (fun c12 => ?_) (fun c12 => ?_)
        · skip
          rw [nI_leI (by omega) (by omega)] at c12
          obtain rfl : i = 64 := by omega
          refine lv_iconst (v := nI 0) hx hb d_M_count_72 (by decide) ?_
          refine lv_istore_n (lv' := [(3, .int (nI 0)), (0, .ref (b 0)), (1, .int y), (2, .int (nI 0))]) hx hb d_M_count_73 rfl hl (by decide) rfl (fun ls hl => ?_)
          have lp2 : ∀ (n9 : Nat) (i : Nat) (ls : Array Slot) (H : Heap) (locs : List Loc), 256 - i < n9 → (i ≤ 256) → va_P D vwCl (mdW k b (nI 0) ki ba ow uu te ma va wa) H → va_D A (mdW k b (nI 0) ki ba ow uu te ma va wa) → va_S A s.heap H locs → lv_has ls 4 [(0, .ref (b 0)), (1, .int y), (2, .int (nI 0)), (3, .int (nI i))] → W p l e (rm9 4 0 0) s m args below meth c H locs 0 0 Q (F0 m 74 ls []) := by
            intro n9
            induction n9 with
            | zero => intro i ls H locs hm; omega
            | succ n9 ih =>
              intro i ls H locs hm hi hP hD hS hl
              refine lv_iload_n hx hb d_M_count_74 rfl (lv_at hl 3 rfl) ?_
              refine lv_sipush (v := nI 256) hx hb d_M_count_75 (by decide) ?_
              refine lv_icmp_ge (tgt := 120) hx hb d_M_count_78 (by decide) (fun c78 => ?_) (fun c78 => ?_)
              · skip
                rw [nI_leI (by omega) (by omega)] at c78
                refine lv_iload_n hx hb d_M_count_120 rfl (lv_at hl 1 rfl) ?_
                refine lv_iconst (v := nI 0) hx hb d_M_count_121 (by decide) ?_
                refine lv_iconst (v := nI 4) hx hb d_M_count_122 (by decide) ?_
                refine cal_i (wc := []) (wr := mdW k b (nI 0) ki ba ow uu te ma va wa) (va_runS (As := [.int y, .int (nI 0), .int (nI 4)]) (rest := []) ⟨hx, hb, hml, hown, hts⟩ (c_Min l D k y (nI 0) (nI 4) H.size) (cwS9 3 hts wd_437 wd_435 wd_436 wd_4 (by decide) ⟨Nat.le_of_ble_eq_true rfl, Nat.le_of_ble_eq_true rfl⟩) (prS hK hP hD (List.Perm.refl _)) rfl rfl hl.1 rfl (lv_room (Nat.le_of_ble_eq_true rfl)) d_M_count_123 ⟨by decide, by decide⟩) (List.Perm.refl _) hP hD hS hA (fun r w1 H locs hw hpd hS => ?_)
                obtain ⟨rfl, rfl⟩ := hw
                obtain ⟨hP, hD⟩ := hpd (mdW k b (nI 0) ki ba ow uu te ma va wa) (List.Perm.refl _)
                refine lv_if_eq (tgt := 133) hx hb d_M_count_126 (by decide) (fun c126 => ?_) (fun c126 => ?_)
                · skip
                  have c126 := b_of0 c126
                  refine lv_iconst (v := -1) hx hb d_M_count_133 (by decide) ?_
                  obtain rfl : i = 256 := by omega
                  exact hret _ _ _ _ _ _ _ _ d_M_count_134 ⟨by simp [coF, hy], rfl⟩ hP hD hS (by decide) (by decide)
                · skip
                  rw [inB_wh, hwh] at c126; exact absurd c126 (by decide)
              · skip
                rw [nI_leI (by omega) (by omega)] at c78
                refine lv_aload_n hx hb d_M_count_81 rfl (lv_at hl 0 rfl) ?_
                refine va_get (D := D) (ci := ciMo) (v := .ref (b 5)) (C := RM) (T := TM) (N := 9) hx hb hts inM hown hK.1 hP 0 rfl rfl 5 (by decide) (hts _ wd_404) (fun _ h9 => h9) rfl d_M_count_82 ?_
                refine lv_iload_n hx hb d_M_count_85 rfl (lv_at hl 3 rfl) ?_
                refine rw_zald hx hb hK.1 hP 5 1 rfl rfl (j := i) (by omega) (by decide) d_M_count_86 ?_
                refine lv_if_ne (tgt := 93) hx hb d_M_count_87 (by decide) (fun c87 => ?_) (fun c87 => ?_)
                · skip
                  refine lv_iload_n hx hb d_M_count_93 rfl (lv_at hl 1 rfl) ?_
                  refine lv_iconst (v := nI 1) hx hb d_M_count_94 (by decide) ?_
                  refine lv_icmp_ne (tgt := 101) hx hb d_M_count_95 (by decide) (fun c95 => ?_) (fun c95 => ?_)
                  · skip
                    refine lv_iload_n hx hb d_M_count_101 rfl (lv_at hl 1 rfl) ?_
                    refine lv_iconst (v := nI 3) hx hb d_M_count_102 (by decide) ?_
                    refine lv_icmp_ne (tgt := 114) hx hb d_M_count_103 (by decide) (fun c103 => ?_) (fun c103 => ?_)
                    · skip
                      refine lv_iinc (v := nI (i + 1)) (lv' := [(3, .int (nI (i + 1))), (0, .ref (b 0)), (1, .int y), (2, .int (nI 0))]) hx hb d_M_count_114 hl (k := 3) rfl (ii_1 _) (by decide) rfl (fun ls hl => ?_)
                      refine lv_goto (tgt := 74) hx hb d_M_count_117 (by decide) ?_
                      exact ih (i + 1) ls H locs (by omega) (by omega) hP hD hS (lv_sub hl [1, 2, 3, 0] rfl)
                    · skip
                      exact absurd c103 hy.2.2.2.1
                  · skip
                    exact absurd c95 hy.2.1
                · skip
                  refine lv_goto (tgt := 114) hx hb d_M_count_90 (by decide) ?_
                  refine lv_iinc (v := nI (i + 1)) (lv' := [(3, .int (nI (i + 1))), (0, .ref (b 0)), (1, .int y), (2, .int (nI 0))]) hx hb d_M_count_114 hl (k := 3) rfl (ii_1 _) (by decide) rfl (fun ls hl => ?_)
                  refine lv_goto (tgt := 74) hx hb d_M_count_117 (by decide) ?_
                  exact ih (i + 1) ls H locs (by omega) (by omega) hP hD hS (lv_sub hl [1, 2, 3, 0] rfl)
          exact lp2 _ (0) ls H locs (Nat.lt_succ_self _) (by decide) hP hD hS (lv_sub hl [1, 2, 3, 0] rfl)
        · skip
          rw [nI_leI (by omega) (by omega)] at c12
          refine lv_aload_n hx hb d_M_count_15 rfl (lv_at hl 0 rfl) ?_
          refine lv_iload_n hx hb d_M_count_16 rfl (lv_at hl 3 rfl) ?_
          refine cal_i (wc := mdW k b (nI 0) ki ba ow uu te ma va wa) (wr := []) (va_runV (As := [.int (nI i)]) (rest := []) ⟨hx, hb, hml, hown, hts⟩ (c_MisStyle l D k b (nI 0) ki ba ow uu te ma va wa th hR.2.1.1 (nI i) H.size) (cwV9 1 hts wd_445 wd_442 wd_444 ws_22 wd_4 (by decide) ⟨Nat.le_of_ble_eq_true rfl, Nat.le_of_ble_eq_true rfl⟩) (prV (q0 := 0) (ci := ciMo) hK hP hD (pm_nil' _) rfl rfl) rfl rfl hl.1 rfl (lv_room (Nat.le_of_ble_eq_true rfl)) d_M_count_17 ⟨by decide, by decide⟩) (pm_nil' _) hP hD hS hA (fun r w1 H locs hw hpd hS => ?_)
          obtain ⟨rfl, rfl⟩ := hw
          obtain ⟨hP, hD⟩ := hpd (mdW k b (nI 0) ki ba ow uu te ma va wa) (pm_nil _)
          refine lv_if_ne (tgt := 26) hx hb d_M_count_20 (by decide) (fun c20 => ?_) (fun c20 => ?_)
          · skip
            have c20 := b_of1 c20
            rw [hsB_nI (by omega) (by decide)] at c20
            have c20 := of_decide_eq_true c20
            have hi9 : i < 64 := by omega
            refine lv_iload_n hx hb d_M_count_26 rfl (lv_at hl 1 rfl) ?_
            refine lv_if_ne (tgt := 33) hx hb d_M_count_27 (by decide) (fun c27 => ?_) (fun c27 => ?_)
            · skip
              refine lv_iload_n hx hb d_M_count_33 rfl (lv_at hl 1 rfl) ?_
              refine lv_iconst (v := nI 2) hx hb d_M_count_34 (by decide) ?_
              refine lv_icmp_ne (tgt := 46) hx hb d_M_count_35 (by decide) (fun c35 => ?_) (fun c35 => ?_)
              · skip
                refine lv_iload_n hx hb d_M_count_46 rfl (lv_at hl 1 rfl) ?_
                refine lv_iconst (v := nI 4) hx hb d_M_count_47 (by decide) ?_
                refine lv_icmp_ne (tgt := 66) hx hb d_M_count_48 (by decide) (fun c48 => ?_) (fun c48 => ?_)
                · skip
                  refine lv_iinc (v := nI (i + 1)) (lv' := [(3, .int (nI (i + 1))), (0, .ref (b 0)), (1, .int y), (2, .int (nI 0))]) hx hb d_M_count_66 hl (k := 3) rfl (ii_1 _) (by decide) rfl (fun ls hl => ?_)
                  refine lv_goto (tgt := 9) hx hb d_M_count_69 (by decide) ?_
                  exact ih (i + 1) ls H locs (by omega) (by omega) hP hD hS (lv_sub hl [1, 2, 3, 0] rfl)
                · skip
                  exact absurd c48 hy.2.2.2.2
              · skip
                exact absurd c35 hy.2.2.1
            · skip
              exact absurd c27 hy.1
          · skip
            have c20 := b_of0 c20
            rw [hsB_nI (by omega) (by decide)] at c20
            have c20 := of_decide_eq_false c20
            have c20 := Classical.not_not.mp c20
            refine lv_goto (tgt := 66) hx hb d_M_count_23 (by decide) ?_
            refine lv_iinc (v := nI (i + 1)) (lv' := [(3, .int (nI (i + 1))), (0, .ref (b 0)), (1, .int y), (2, .int (nI 0))]) hx hb d_M_count_66 hl (k := 3) rfl (ii_1 _) (by decide) rfl (fun ls hl => ?_)
            refine lv_goto (tgt := 9) hx hb d_M_count_69 (by decide) ?_
            exact ih (i + 1) ls H locs (by omega) (by omega) hP hD hS (lv_sub hl [1, 2, 3, 0] rfl)
    exact lp _ (0) ls H locs (Nat.lt_succ_self _) (by decide) hP hD hS (lv_sub hl [2, 3, 1, 0] rfl)
