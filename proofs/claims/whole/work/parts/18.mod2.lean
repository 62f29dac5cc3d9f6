/-! more of the reference's words -/
theorem ge_m1 {x : Int32} (h : x = -1 ∨ ¬ x < 0) : (¬ x < 0) ↔ x ≠ -1 := by
  constructor
  · intro q e; rw [e] at q; exact q (by decide)
  · intro q; rcases h with h | h
    · exact absurd h q
    · exact h
theorem ok_st {th kd : Nat → Int32} {x y : Int32} (h : okB th kd x y = true) : x = -1 ∨ ∃ i0 : Nat, i0 < 64 ∧ x = nI i0 ∧ th i0 ≠ 0 := by
  simp only [okB, Bool.or_eq_true, Bool.and_eq_true, decide_eq_true_eq] at h
  rcases h with h | ⟨h, -⟩
  · exact Or.inl h
  · obtain ⟨j, hj, rfl, hjt⟩ := hsB_t (by decide) h
    exact Or.inr ⟨j, hj, rfl, hjt⟩
theorem vb_m1 {th bs : Nat → Int32} {M : Nat → Nat → Int32} {p : Nat} : vbF th bs M (-1) p = -1 := by simp [vbF, gv_m1]
theorem vb_in {th kd bs : Nat → Int32} {M : Nat → Nat → Int32} (h : RS1 th kd bs M) {x : Int32} {p : Nat} (hp : p < 24) : vbF th bs M x p = -1 ∨ ¬ vbF th bs M x p < 0 := by
  rcases gvF_in (th := th) (bs := bs) (M := M) (p := p) 64 x with hg | ⟨j, hj, hg, -, -⟩
  · left; simp [vbF, hg]
  · have e : vbF th bs M x p = M j p := by simp only [vbF]; rw [hg, if_neg (ne_m1 (by omega)), nI_clamp (by omega)]
    rw [e]; exact h.1 j p hj hp
theorem iv_nv {x v : Int32} : (prB x && inB v (-1) (grt x)) = (prB x && nvB x v) := by
  cases e : prB x with
  | false => rfl
  | true =>
    show inB v (-1) (grt x) = nvB x v
    by_cases h : v = -1
    · subst h
      have h2 : (-1 : Int32) ≤ grt x := by
        simp only [grt]; split
        · split <;> decide
        · decide
      simp [inB, nvB, h2]
    · have h3 : (-1 ≤ v) ↔ (0 ≤ v) := by
        have hne : v.toInt ≠ (-1 : Int32).toInt := fun q => h (Int32.toInt_inj.mp q)
        rw [Int32.le_iff_toInt_le, Int32.le_iff_toInt_le]
        rw [show (-1 : Int32).toInt = -1 from rfl] at *
        rw [show (0 : Int32).toInt = 0 from rfl]
        omega
      simp [inB, nvB, vlB, h, h3]
theorem iv_vl {x v : Int32} : (prB x && inB v (nI 0) (grt x)) = (prB x && vlB x v) := by
  simp only [inB, vlB]; rfl
theorem nI_ge0 {i j : Nat} : i + j = j + i := Nat.add_comm i j

set_option maxRecDepth 100000 in
set_option maxHeartbeats 4000000 in
theorem c_MvalueOf (l : Launch) (D : va_G) (k : Nat → ClassId) (b : Nat → Nat) (cd : Int32) (ki ba ow uu te ma va wa : Nat → Int32) (th kd bs us sth mk : Nat → Int32) (M sM : Nat → Nat → Int32) (hR : RI th kd bs us sth mk M sM ki ba ow uu te ma va) (x : Int32) (hx9 : x = -1 ∨ ∃ i0 : Nat, i0 < 64 ∧ x = nI i0 ∧ th i0 ≠ 0) (p9 : Nat) (hp9 : p9 < 24) (sz : Nat) : bMI l y_M_valueOf (wY y_M_valueOf b_M_valueOf 4 (some .int)) (rm9 3 0 0) D (tsK k) (mdW k b cd ki ba ow uu te ma va wa) sz [.ref (b 0), .int x, .int (nI p9)] (fun v w => v = vbF th bs M x p9 ∧ w = mdW k b cd ki ba ow uu te ma va wa) 0 0 := by
  refine ent_i (cc := b_M_valueOf) (maxL := 4) (ty := .int) (by decide) (Nat.le_of_ble_eq_true rfl) (fun _ _ _ => rfl) ?_
  intro p e s m args below meth c A Q ls hx hb hml hown hts hsz hA hP hD hS hK hl hret
  rcases hx9 with rfl | ⟨i0, hi0, rfl, ht0⟩
  · skip
    refine lv_iload_n hx hb d_M_valueOf_0 rfl (lv_at hl 1 rfl) ?_
    refine lv_if_ge (tgt := 8) hx hb d_M_valueOf_1 (by decide) (fun c1 => ?_) (fun c1 => ?_)
    · skip
      exact absurd c1 (by decide)
    · skip
      refine lv_iconst (v := -1) hx hb d_M_valueOf_4 (by decide) ?_
      refine lv_goto (tgt := 14) hx hb d_M_valueOf_5 (by decide) ?_
      refine lv_istore_n (lv' := [(3, .int (-1)), (0, .ref (b 0)), (1, .int (-1)), (2, .int (nI p9))]) hx hb d_M_valueOf_14 rfl hl (by decide) rfl (fun ls hl => ?_)
      refine lv_iload_n hx hb d_M_valueOf_15 rfl (lv_at hl 0 rfl) ?_
      refine lv_if_ge (tgt := 23) hx hb d_M_valueOf_16 (by decide) (fun c16 => ?_) (fun c16 => ?_)
      · skip
        exact absurd c16 (by decide)
      · skip
        refine lv_iconst (v := -1) hx hb d_M_valueOf_19 (by decide) ?_
        refine lv_goto (tgt := 34) hx hb d_M_valueOf_20 (by decide) ?_
        exact hret _ _ _ _ _ _ _ _ d_M_valueOf_34 ⟨by rw [vb_m1], rfl⟩ hP hD hS (by decide) (by decide)
  · skip
    refine lv_iload_n hx hb d_M_valueOf_0 rfl (lv_at hl 1 rfl) ?_
    refine lv_if_ge (tgt := 8) hx hb d_M_valueOf_1 (by decide) (fun c1 => ?_) (fun c1 => ?_)
    · skip
      refine lv_aload_n hx hb d_M_valueOf_8 rfl (lv_at hl 0 rfl) ?_
      refine lv_iload_n hx hb d_M_valueOf_9 rfl (lv_at hl 1 rfl) ?_
      refine lv_iload_n hx hb d_M_valueOf_10 rfl (lv_at hl 2 rfl) ?_
      refine cal_i (wc := mdW k b cd ki ba ow uu te ma va wa) (wr := []) (va_runV (As := [.int (nI i0), .int (nI p9)]) (rest := []) ⟨hx, hb, hml, hown, hts⟩ (c_Mfirst l D k b cd ki ba ow uu te ma va wa th kd bs us sth mk M sM hR i0 hi0 ht0 p9 hp9 s.heap.size) (cwV9 2 hts wd_480 wd_477 wd_479 ws_25 wd_4 (by decide) ⟨Nat.le_of_ble_eq_true rfl, Nat.le_of_ble_eq_true rfl⟩) (prV (q0 := 0) (ci := ciMo) hK hP hD (pm_nil' _) rfl rfl) rfl rfl hl.1 rfl (lv_room (Nat.le_of_ble_eq_true rfl)) d_M_valueOf_11 ⟨by decide, by decide⟩) (pm_nil' _) hP hD hS hA (fun r w1 H locs hw hpd hS => ?_)
      obtain ⟨rfl, rfl⟩ := hw
      obtain ⟨hP, hD⟩ := hpd (mdW k b cd ki ba ow uu te ma va wa) (pm_nil _)
      refine lv_istore_n (lv' := [(3, .int (gvF th bs M p9 64 (nI i0))), (0, .ref (b 0)), (1, .int (nI i0)), (2, .int (nI p9))]) hx hb d_M_valueOf_14 rfl hl (by decide) rfl (fun ls hl => ?_)
      rcases gvF_in (th := th) (bs := bs) (M := M) (p := p9) 64 (nI i0) with hg | ⟨j, hj, hg, hjt, hjm⟩
      · skip
        rw [hg] at hl
        refine lv_iload_n hx hb d_M_valueOf_15 rfl (lv_at hl 0 rfl) ?_
        refine lv_if_ge (tgt := 23) hx hb d_M_valueOf_16 (by decide) (fun c16 => ?_) (fun c16 => ?_)
        · skip
          exact absurd c16 (by decide)
        · skip
          refine lv_iconst (v := -1) hx hb d_M_valueOf_19 (by decide) ?_
          refine lv_goto (tgt := 34) hx hb d_M_valueOf_20 (by decide) ?_
          exact hret _ _ _ _ _ _ _ _ d_M_valueOf_34 ⟨by simp [vbF, hg], rfl⟩ hP hD hS (by decide) (by decide)
      · skip
        rw [hg] at hl
        refine lv_iload_n hx hb d_M_valueOf_15 rfl (lv_at hl 0 rfl) ?_
        refine lv_if_ge (tgt := 23) hx hb d_M_valueOf_16 (by decide) (fun c16 => ?_) (fun c16 => ?_)
        · skip
          refine lv_aload_n hx hb d_M_valueOf_23 rfl (lv_at hl 1 rfl) ?_
          refine va_get (D := D) (ci := ciMo) (v := .ref (b 3)) (C := RM) (T := TM) (N := 9) hx hb hts inM hown hK.1 hP 0 rfl rfl 3 (by decide) (hts _ wd_402) (fun _ h9 => h9) rfl d_M_valueOf_24 ?_
          refine lv_bipush (v := nI 24) hx hb d_M_valueOf_27 (by decide) ?_
          refine lv_iload_n hx hb d_M_valueOf_29 rfl (lv_at hl 0 rfl) ?_
          refine lv_imul hx hb d_M_valueOf_30 ?_
          rw [pk_mul]
          refine lv_iload_n hx hb d_M_valueOf_31 rfl (lv_at hl 3 rfl) ?_
          refine lv_iadd hx hb d_M_valueOf_32 ?_
          rw [nI_add]
          refine rw_iald hx hb hK.1 hP 3 0 rfl rfl (j := ((24 * j) + p9)) (by omega) (by decide) d_M_valueOf_33 ?_
          rw [hR.2.1.2.2.2 j p9 hj hp9 hjt]
          exact hret _ _ _ _ _ _ _ _ d_M_valueOf_34 ⟨by simp only [vbF]; rw [hg, if_neg (ne_m1 (by omega)), nI_clamp (by omega)], rfl⟩ hP hD hS (by decide) (by decide)
        · skip
          exact absurd (nI_pos' (by omega)) c16
    · skip
      exact absurd (nI_pos' (by omega)) c1

set_option maxRecDepth 100000 in
set_option maxHeartbeats 4000000 in
theorem c_Mowned (l : Launch) (D : va_G) (k : Nat → ClassId) (b : Nat → Nat) (cd : Int32) (ki ba ow uu te ma va wa : Nat → Int32) (th kd bs us sth mk : Nat → Int32) (M sM : Nat → Nat → Int32) (hR : RI th kd bs us sth mk M sM ki ba ow uu te ma va) (j : Nat) (hj : j < 64) (hjt : th j ≠ 0) (sz : Nat) : bMI l y_M_owned (wY y_M_owned b_M_owned 4 (some .int)) (rm9 1 0 0) D (tsK k) (mdW k b cd ki ba ow uu te ma va wa) sz [.ref (b 0), .int (nI j)] (fun v w => v = nI (viF M j) ∧ w = mdW k b cd ki ba ow uu te ma va wa) 0 0 := by
  refine ent_i (cc := b_M_owned) (maxL := 4) (ty := .int) (by decide) (Nat.le_of_ble_eq_true rfl) (fun _ _ _ => rfl) ?_
  intro p e s m args below meth c A Q ls hx hb hml hown hts hsz hA hP hD hS hK hl hret
  refine lv_iconst (v := nI 0) hx hb d_M_owned_0 (by decide) ?_
  refine lv_istore_n (lv' := [(2, .int (nI 0)), (0, .ref (b 0)), (1, .int (nI j))]) hx hb d_M_owned_1 rfl hl (by decide) rfl (fun ls hl => ?_)
  refine lv_iconst (v := nI 0) hx hb d_M_owned_2 (by decide) ?_
  refine lv_istore_n (lv' := [(3, .int (nI 0)), (2, .int (nI 0)), (0, .ref (b 0)), (1, .int (nI j))]) hx hb d_M_owned_3 rfl hl (by decide) rfl (fun ls hl => ?_)
  have lp : ∀ (n9 : Nat) (i : Nat) (ls : Array Slot), 24 - i < n9 → (i ≤ 24) → lv_has ls 4 [(0, .ref (b 0)), (1, .int (nI j)), (2, .int (nI (cnF (fun p => decide (M j p ≠ -1)) i))), (3, .int (nI i))] → W p l e (rm9 1 0 0) s m args below meth c s.heap [] 0 0 Q (F0 m 4 ls []) := by
    intro n9
    induction n9 with
    | zero => intro i ls hm; omega
    | succ n9 ih =>
      intro i ls hm hi hl
      refine lv_iload_n hx hb d_M_owned_4 rfl (lv_at hl 3 rfl) ?_
      refine lv_bipush (v := nI 24) hx hb d_M_owned_5 (by decide) ?_
      refine lv_icmp_ge (tgt := 38) hx hb d_M_owned_7 (by decide) (fun c7 => ?_) (fun c7 => ?_)
      · skip
        rw [nI_leI (by omega) (by omega)] at c7
        refine lv_iload_n hx hb d_M_owned_38 rfl (lv_at hl 2 rfl) ?_
        exact hret _ _ _ _ _ _ _ _ d_M_owned_39 ⟨by rw [show i = 24 by omega]; rfl, rfl⟩ hP hD hS (by decide) (by decide)
      · skip
        rw [nI_leI (by omega) (by omega)] at c7
        refine lv_iload_n hx hb d_M_owned_10 rfl (lv_at hl 2 rfl) ?_
        refine lv_aload_n hx hb d_M_owned_11 rfl (lv_at hl 0 rfl) ?_
        refine va_get (D := D) (ci := ciMo) (v := .ref (b 3)) (C := RM) (T := TM) (N := 9) hx hb hts inM hown hK.1 hP 0 rfl rfl 3 (by decide) (hts _ wd_402) (fun _ h9 => h9) rfl d_M_owned_12 ?_
        refine lv_bipush (v := nI 24) hx hb d_M_owned_15 (by decide) ?_
        refine lv_iload_n hx hb d_M_owned_17 rfl (lv_at hl 1 rfl) ?_
        refine lv_imul hx hb d_M_owned_18 ?_
        rw [pk_mul]
        refine lv_iload_n hx hb d_M_owned_19 rfl (lv_at hl 3 rfl) ?_
        refine lv_iadd hx hb d_M_owned_20 ?_
        rw [nI_add]
        refine rw_iald hx hb hK.1 hP 3 0 rfl rfl (j := ((24 * j) + i)) (by omega) (by decide) d_M_owned_21 ?_
        rw [hR.2.1.2.2.2 j i hj (by omega) hjt]
        refine lv_if_lt (tgt := 29) hx hb d_M_owned_22 (by decide) (fun c22 => ?_) (fun c22 => ?_)
        · skip
          refine lv_iconst (v := nI 0) hx hb d_M_owned_29 (by decide) ?_
          refine lv_iadd hx hb d_M_owned_30 ?_
          rw [nI_add]
          rw [Nat.add_zero, cnF_f (f := (fun p => decide (M j p ≠ -1))) (i := i) (by have q := ge_m1 (hR.1.1.1 j i hj (by omega)); simp; exact Classical.not_not.mp (fun z => (q.mpr z) c22))]
          refine lv_istore_n (lv' := [(2, .int (nI (cnF (fun p => decide (M j p ≠ -1)) (i + 1)))), (0, .ref (b 0)), (1, .int (nI j)), (3, .int (nI i))]) hx hb d_M_owned_31 rfl hl (by decide) rfl (fun ls hl => ?_)
          refine lv_iinc (v := nI (i + 1)) (lv' := [(3, .int (nI (i + 1))), (2, .int (nI (cnF (fun p => decide (M j p ≠ -1)) (i + 1)))), (0, .ref (b 0)), (1, .int (nI j))]) hx hb d_M_owned_32 hl (k := 3) rfl (ii_1 _) (by decide) rfl (fun ls hl => ?_)
          refine lv_goto (tgt := 4) hx hb d_M_owned_35 (by decide) ?_
          exact ih (i + 1) ls (by omega) (by omega) (lv_sub hl [2, 3, 1, 0] rfl)
        · skip
          refine lv_iconst (v := nI 1) hx hb d_M_owned_25 (by decide) ?_
          refine lv_goto (tgt := 30) hx hb d_M_owned_26 (by decide) ?_
          refine lv_iadd hx hb d_M_owned_30 ?_
          rw [nI_add]
          rw [cnF_t (f := (fun p => decide (M j p ≠ -1))) (i := i) (by have q := ge_m1 (hR.1.1.1 j i hj (by omega)); simp; exact q.mp c22)]
          refine lv_istore_n (lv' := [(2, .int (nI (cnF (fun p => decide (M j p ≠ -1)) (i + 1)))), (0, .ref (b 0)), (1, .int (nI j)), (3, .int (nI i))]) hx hb d_M_owned_31 rfl hl (by decide) rfl (fun ls hl => ?_)
          refine lv_iinc (v := nI (i + 1)) (lv' := [(3, .int (nI (i + 1))), (2, .int (nI (cnF (fun p => decide (M j p ≠ -1)) (i + 1)))), (0, .ref (b 0)), (1, .int (nI j))]) hx hb d_M_owned_32 hl (k := 3) rfl (ii_1 _) (by decide) rfl (fun ls hl => ?_)
          refine lv_goto (tgt := 4) hx hb d_M_owned_35 (by decide) ?_
          exact ih (i + 1) ls (by omega) (by omega) (lv_sub hl [2, 3, 1, 0] rfl)
  exact lp _ (0) ls (Nat.lt_succ_self _) (by decide) (lv_sub hl [2, 3, 1, 0] rfl)

set_option maxRecDepth 100000 in
set_option maxHeartbeats 4000000 in
theorem c_Msized (l : Launch) (D : va_G) (k : Nat → ClassId) (b : Nat → Nat) (cd : Int32) (ki ba ow uu te ma va wa : Nat → Int32) (th kd bs us sth mk : Nat → Int32) (M sM : Nat → Nat → Int32) (hR : RI th kd bs us sth mk M sM ki ba ow uu te ma va) (j : Nat) (hj : j < 256) (hjt : sth j ≠ 0) (sz : Nat) : bMI l y_M_sized (wY y_M_sized b_M_sized 4 (some .int)) (rm9 1 0 0) D (tsK k) (mdW k b cd ki ba ow uu te ma va wa) sz [.ref (b 0), .int (nI j)] (fun v w => v = nI (viF sM j) ∧ w = mdW k b cd ki ba ow uu te ma va wa) 0 0 := by
  refine ent_i (cc := b_M_sized) (maxL := 4) (ty := .int) (by decide) (Nat.le_of_ble_eq_true rfl) (fun _ _ _ => rfl) ?_
  intro p e s m args below meth c A Q ls hx hb hml hown hts hsz hA hP hD hS hK hl hret
  refine lv_iconst (v := nI 0) hx hb d_M_sized_0 (by decide) ?_
  refine lv_istore_n (lv' := [(2, .int (nI 0)), (0, .ref (b 0)), (1, .int (nI j))]) hx hb d_M_sized_1 rfl hl (by decide) rfl (fun ls hl => ?_)
  refine lv_iconst (v := nI 0) hx hb d_M_sized_2 (by decide) ?_
  refine lv_istore_n (lv' := [(3, .int (nI 0)), (2, .int (nI 0)), (0, .ref (b 0)), (1, .int (nI j))]) hx hb d_M_sized_3 rfl hl (by decide) rfl (fun ls hl => ?_)
  have lp : ∀ (n9 : Nat) (i : Nat) (ls : Array Slot), 24 - i < n9 → (i ≤ 24) → lv_has ls 4 [(0, .ref (b 0)), (1, .int (nI j)), (2, .int (nI (cnF (fun p => decide (sM j p ≠ -1)) i))), (3, .int (nI i))] → W p l e (rm9 1 0 0) s m args below meth c s.heap [] 0 0 Q (F0 m 4 ls []) := by
    intro n9
    induction n9 with
    | zero => intro i ls hm; omega
    | succ n9 ih =>
      intro i ls hm hi hl
      refine lv_iload_n hx hb d_M_sized_4 rfl (lv_at hl 3 rfl) ?_
      refine lv_bipush (v := nI 24) hx hb d_M_sized_5 (by decide) ?_
      refine lv_icmp_ge (tgt := 38) hx hb d_M_sized_7 (by decide) (fun c7 => ?_) (fun c7 => ?_)
      · skip
        rw [nI_leI (by omega) (by omega)] at c7
        refine lv_iload_n hx hb d_M_sized_38 rfl (lv_at hl 2 rfl) ?_
        exact hret _ _ _ _ _ _ _ _ d_M_sized_39 ⟨by rw [show i = 24 by omega]; rfl, rfl⟩ hP hD hS (by decide) (by decide)
      · skip
        rw [nI_leI (by omega) (by omega)] at c7
        refine lv_iload_n hx hb d_M_sized_10 rfl (lv_at hl 2 rfl) ?_
        refine lv_aload_n hx hb d_M_sized_11 rfl (lv_at hl 0 rfl) ?_
        refine va_get (D := D) (ci := ciMo) (v := .ref (b 7)) (C := RM) (T := TM) (N := 9) hx hb hts inM hown hK.1 hP 0 rfl rfl 7 (by decide) (hts _ wd_406) (fun _ h9 => h9) rfl d_M_sized_12 ?_
        refine lv_bipush (v := nI 24) hx hb d_M_sized_15 (by decide) ?_
        refine lv_iload_n hx hb d_M_sized_17 rfl (lv_at hl 1 rfl) ?_
        refine lv_imul hx hb d_M_sized_18 ?_
        rw [pk_mul]
        refine lv_iload_n hx hb d_M_sized_19 rfl (lv_at hl 3 rfl) ?_
        refine lv_iadd hx hb d_M_sized_20 ?_
        rw [nI_add]
        refine rw_iald hx hb hK.1 hP 7 0 rfl rfl (j := ((24 * j) + i)) (by omega) (by decide) d_M_sized_21 ?_
        rw [hR.2.2.2.2.2 j i hj (by omega) hjt]
        refine lv_if_lt (tgt := 29) hx hb d_M_sized_22 (by decide) (fun c22 => ?_) (fun c22 => ?_)
        · skip
          refine lv_iconst (v := nI 0) hx hb d_M_sized_29 (by decide) ?_
          refine lv_iadd hx hb d_M_sized_30 ?_
          rw [nI_add]
          rw [Nat.add_zero, cnF_f (f := (fun p => decide (sM j p ≠ -1))) (i := i) (by have q := ge_m1 (hR.1.2.2.2.1 j i hj (by omega)); simp; exact Classical.not_not.mp (fun z => (q.mpr z) c22))]
          refine lv_istore_n (lv' := [(2, .int (nI (cnF (fun p => decide (sM j p ≠ -1)) (i + 1)))), (0, .ref (b 0)), (1, .int (nI j)), (3, .int (nI i))]) hx hb d_M_sized_31 rfl hl (by decide) rfl (fun ls hl => ?_)
          refine lv_iinc (v := nI (i + 1)) (lv' := [(3, .int (nI (i + 1))), (2, .int (nI (cnF (fun p => decide (sM j p ≠ -1)) (i + 1)))), (0, .ref (b 0)), (1, .int (nI j))]) hx hb d_M_sized_32 hl (k := 3) rfl (ii_1 _) (by decide) rfl (fun ls hl => ?_)
          refine lv_goto (tgt := 4) hx hb d_M_sized_35 (by decide) ?_
          exact ih (i + 1) ls (by omega) (by omega) (lv_sub hl [2, 3, 1, 0] rfl)
        · skip
          refine lv_iconst (v := nI 1) hx hb d_M_sized_25 (by decide) ?_
          refine lv_goto (tgt := 30) hx hb d_M_sized_26 (by decide) ?_
          refine lv_iadd hx hb d_M_sized_30 ?_
          rw [nI_add]
          rw [cnF_t (f := (fun p => decide (sM j p ≠ -1))) (i := i) (by have q := ge_m1 (hR.1.2.2.2.1 j i hj (by omega)); simp; exact q.mp c22)]
          refine lv_istore_n (lv' := [(2, .int (nI (cnF (fun p => decide (sM j p ≠ -1)) (i + 1)))), (0, .ref (b 0)), (1, .int (nI j)), (3, .int (nI i))]) hx hb d_M_sized_31 rfl hl (by decide) rfl (fun ls hl => ?_)
          refine lv_iinc (v := nI (i + 1)) (lv' := [(3, .int (nI (i + 1))), (2, .int (nI (cnF (fun p => decide (sM j p ≠ -1)) (i + 1)))), (0, .ref (b 0)), (1, .int (nI j))]) hx hb d_M_sized_32 hl (k := 3) rfl (ii_1 _) (by decide) rfl (fun ls hl => ?_)
          refine lv_goto (tgt := 4) hx hb d_M_sized_35 (by decide) ?_
          exact ih (i + 1) ls (by omega) (by omega) (lv_sub hl [2, 3, 1, 0] rfl)
  exact lp _ (0) ls (Nat.lt_succ_self _) (by decide) (lv_sub hl [2, 3, 1, 0] rfl)

set_option maxRecDepth 100000 in
set_option maxHeartbeats 4000000 in
theorem c_Mwant (l : Launch) (D : va_G) (k : Nat → ClassId) (b : Nat → Nat) (cd : Int32) (ki ba ow uu te ma va wa : Nat → Int32) (j : Nat) (hj : j < 256) (sz : Nat) : bMV l y_M_want (wY y_M_want b_M_want 3 none) (rm9 1 0 0) D (tsK k) (mdW k b cd ki ba ow uu te ma va wa) sz [.ref (b 0), .int (nI j)] (fun w => w = mdW k b cd ki ba ow uu te ma va (pfF (fun p => va (24 * j + p)) wa 24)) 0 0 := by
  refine ent_v (cc := b_M_want) (maxL := 3) (by decide) (Nat.le_of_ble_eq_true rfl) ?_
  intro p e s m args below meth c A Q ls hx hb hml hown hts hsz hA hP hD hS hK hl hnm hret
  rw [← pfF_0 (fun p => va (24 * j + p)) wa] at hP hD
  refine lv_iconst (v := nI 0) hx hb d_M_want_0 (by decide) ?_
  refine lv_istore_n (lv' := [(2, .int (nI 0)), (0, .ref (b 0)), (1, .int (nI j))]) hx hb d_M_want_1 rfl hl (by decide) rfl (fun ls hl => ?_)
  have lp : ∀ (n9 : Nat) (i : Nat) (ls : Array Slot) (H : Heap) (locs : List Loc), 24 - i < n9 → (i ≤ 24) → va_P D vwCl (mdW k b cd ki ba ow uu te ma va (pfF (fun p => va (24 * j + p)) wa i)) H → va_D A (mdW k b cd ki ba ow uu te ma va (pfF (fun p => va (24 * j + p)) wa i)) → va_S A s.heap H locs → lv_has ls 3 [(0, .ref (b 0)), (1, .int (nI j)), (2, .int (nI i))] → W p l e (rm9 1 0 0) s m args below meth c H locs 0 0 Q (F0 m 2 ls []) := by
    intro n9
    induction n9 with
    | zero => intro i ls H locs hm; omega
    | succ n9 ih =>
      intro i ls H locs hm hi hP hD hS hl
      refine lv_iload_n hx hb d_M_want_2 rfl (lv_at hl 2 rfl) ?_
      refine lv_bipush (v := nI 24) hx hb d_M_want_3 (by decide) ?_
      refine lv_icmp_ge (tgt := 31) hx hb d_M_want_5 (by decide) (fun c5 => ?_) (fun c5 => ?_)
      · skip
        rw [nI_leI (by omega) (by omega)] at c5
        obtain rfl : i = 24 := by omega
        exact hret _ _ _ _ _ _ _ d_M_want_31 rfl hP hD hS (by decide) (by decide)
      · skip
        rw [nI_leI (by omega) (by omega)] at c5
        refine lv_aload_n hx hb d_M_want_8 rfl (lv_at hl 0 rfl) ?_
        refine va_get (D := D) (ci := ciMo) (v := .ref (b 8)) (C := RM) (T := TM) (N := 9) hx hb hts inM hown hK.1 hP 0 rfl rfl 8 (by decide) (hts _ wd_407) (fun _ h9 => h9) rfl d_M_want_9 ?_
        refine lv_iload_n hx hb d_M_want_12 rfl (lv_at hl 2 rfl) ?_
        refine lv_aload_n hx hb d_M_want_13 rfl (lv_at hl 0 rfl) ?_
        refine va_get (D := D) (ci := ciMo) (v := .ref (b 7)) (C := RM) (T := TM) (N := 9) hx hb hts inM hown hK.1 hP 0 rfl rfl 7 (by decide) (hts _ wd_406) (fun _ h9 => h9) rfl d_M_want_14 ?_
        refine lv_bipush (v := nI 24) hx hb d_M_want_17 (by decide) ?_
        refine lv_iload_n hx hb d_M_want_19 rfl (lv_at hl 1 rfl) ?_
        refine lv_imul hx hb d_M_want_20 ?_
        rw [pk_mul]
        refine lv_iload_n hx hb d_M_want_21 rfl (lv_at hl 2 rfl) ?_
        refine lv_iadd hx hb d_M_want_22 ?_
        rw [nI_add]
        refine rw_iald hx hb hK.1 hP 7 0 rfl rfl (j := ((24 * j) + i)) (by omega) (by decide) d_M_want_23 ?_
        refine rw_iast hx hb hK.1 hP hD hS 8 0 rfl rfl (j := i) (by omega) (by decide) d_M_want_24 (wn := mdW k b cd ki ba ow uu te ma va (pfF (fun p => va (24 * j + p)) wa (i + 1))) (by rw [← pfF_s (g := (fun p => va (24 * j + p))) (dr := wa) (i := i) (x := va (((24 * j) + i))) rfl]; rfl) (fun H locs hP hD hS => ?_)
        refine lv_iinc (v := nI (i + 1)) (lv' := [(2, .int (nI (i + 1))), (0, .ref (b 0)), (1, .int (nI j))]) hx hb d_M_want_25 hl (k := 2) rfl (ii_1 _) (by decide) rfl (fun ls hl => ?_)
        refine lv_goto (tgt := 2) hx hb d_M_want_28 (by decide) ?_
        exact ih (i + 1) ls H locs (by omega) (by omega) hP hD hS (lv_sub hl [1, 2, 0] rfl)
  exact lp _ (0) ls s.heap [] (Nat.lt_succ_self _) (by decide) hP hD hS (lv_sub hl [1, 2, 0] rfl)

set_option maxRecDepth 100000 in
set_option maxHeartbeats 4000000 in
theorem c_MisWanted (l : Launch) (D : va_G) (k : Nat → ClassId) (b : Nat → Nat) (cd : Int32) (ki ba ow uu te ma va wa : Nat → Int32) (h8 : ∀ j, j < 256 → te j = nI 0 ∨ te j = nI 1) (j : Nat) (hj : j < 256) (sz : Nat) : bMI l y_M_isWanted (wY y_M_isWanted b_M_isWanted 4 (some .boolean)) (rm9 1 0 0) D (tsK k) (mdW k b cd ki ba ow uu te ma va wa) sz [.ref (b 0), .int (nI j)] (fun v w => v = (if (decide (te j ≠ 0) && eqF (fun p => va (24 * j + p)) wa 24) = true then nI 1 else nI 0) ∧ w = mdW k b cd ki ba ow uu te ma va wa) 0 0 := by
  refine ent_i (cc := b_M_isWanted) (maxL := 4) (ty := .boolean) (by decide) (Nat.le_of_ble_eq_true rfl) (fun v w h => nr_if h.1) ?_
  intro p e s m args below meth c A Q ls hx hb hml hown hts hsz hA hP hD hS hK hl hret
  refine lv_aload_n hx hb d_M_isWanted_0 rfl (lv_at hl 0 rfl) ?_
  refine va_get (D := D) (ci := ciMo) (v := .ref (b 5)) (C := RM) (T := TM) (N := 9) hx hb hts inM hown hK.1 hP 0 rfl rfl 5 (by decide) (hts _ wd_404) (fun _ h9 => h9) rfl d_M_isWanted_1 ?_
  refine lv_iload_n hx hb d_M_isWanted_4 rfl (lv_at hl 1 rfl) ?_
  refine rw_zald hx hb hK.1 hP 5 1 rfl rfl (j := j) (by omega) (by decide) d_M_isWanted_5 ?_
  rw [show te j = if (decide (te j ≠ 0) && eqF (fun p => va (24 * j + p)) wa 0) = true then nI 1 else nI 0 by rcases h8 j hj with q | q <;> rw [q] <;> rfl]
  refine lv_istore_n (lv' := [(2, .int (if (decide (te j ≠ 0) && eqF (fun p => va (24 * j + p)) wa 0) = true then nI 1 else nI 0)), (0, .ref (b 0)), (1, .int (nI j))]) hx hb d_M_isWanted_6 rfl hl (by decide) rfl (fun ls hl => ?_)
  refine lv_iconst (v := nI 0) hx hb d_M_isWanted_7 (by decide) ?_
  refine lv_istore_n (lv' := [(3, .int (nI 0)), (2, .int (if (decide (te j ≠ 0) && eqF (fun p => va (24 * j + p)) wa 0) = true then nI 1 else nI 0)), (0, .ref (b 0)), (1, .int (nI j))]) hx hb d_M_isWanted_8 rfl hl (by decide) rfl (fun ls hl => ?_)
  have lp : ∀ (n9 : Nat) (i : Nat) (ls : Array Slot), 24 - i < n9 → (i ≤ 24) → lv_has ls 4 [(0, .ref (b 0)), (1, .int (nI j)), (2, .int (if (decide (te j ≠ 0) && eqF (fun p => va (24 * j + p)) wa i) = true then nI 1 else nI 0)), (3, .int (nI i))] → W p l e (rm9 1 0 0) s m args below meth c s.heap [] 0 0 Q (F0 m 9 ls []) := by
    intro n9
    induction n9 with
    | zero => intro i ls hm; omega
    | succ n9 ih =>
      intro i ls hm hi hl
      refine lv_iload_n hx hb d_M_isWanted_9 rfl (lv_at hl 3 rfl) ?_
      refine lv_bipush (v := nI 24) hx hb d_M_isWanted_10 (by decide) ?_
      refine lv_icmp_ge (tgt := 51) hx hb d_M_isWanted_12 (by decide) (fun c12 => ?_) (fun c12 => ?_)
      · skip
        rw [nI_leI (by omega) (by omega)] at c12
        refine lv_iload_n hx hb d_M_isWanted_51 rfl (lv_at hl 2 rfl) ?_
        exact hret _ _ _ _ _ _ _ _ d_M_isWanted_52 ⟨by rw [show i = 24 by omega], rfl⟩ hP hD hS (by decide) (by decide)
      · skip
        rw [nI_leI (by omega) (by omega)] at c12
        refine lv_iload_n hx hb d_M_isWanted_15 rfl (lv_at hl 2 rfl) ?_
        refine lv_if_eq (tgt := 43) hx hb d_M_isWanted_16 (by decide) (fun c16 => ?_) (fun c16 => ?_)
        · skip
          refine lv_iconst (v := nI 0) hx hb d_M_isWanted_43 (by decide) ?_
          refine lv_topi (fun y9 e9 => ?_)
          obtain rfl : y9 = (if (decide (te j ≠ 0) && eqF (fun p => va (24 * j + p)) wa (i + 1)) = true then nI 1 else nI 0) := e9.trans (if_f (by rw [show eqF (fun p => va (24 * j + p)) wa (i + 1) = (eqF (fun p => va (24 * j + p)) wa i && decide (va (24 * j + i) = wa i)) from rfl, ← Bool.and_assoc, b_of0 c16]; rfl))
          refine lv_istore_n (lv' := [(2, .int (if (decide (te j ≠ 0) && eqF (fun p => va (24 * j + p)) wa (i + 1)) = true then nI 1 else nI 0)), (0, .ref (b 0)), (1, .int (nI j)), (3, .int (nI i))]) hx hb d_M_isWanted_44 rfl hl (by decide) rfl (fun ls hl => ?_)
          refine lv_iinc (v := nI (i + 1)) (lv' := [(3, .int (nI (i + 1))), (2, .int (if (decide (te j ≠ 0) && eqF (fun p => va (24 * j + p)) wa (i + 1)) = true then nI 1 else nI 0)), (0, .ref (b 0)), (1, .int (nI j))]) hx hb d_M_isWanted_45 hl (k := 3) rfl (ii_1 _) (by decide) rfl (fun ls hl => ?_)
          refine lv_goto (tgt := 9) hx hb d_M_isWanted_48 (by decide) ?_
          exact ih (i + 1) ls (by omega) (by omega) (lv_sub hl [2, 3, 1, 0] rfl)
        · skip
          refine lv_aload_n hx hb d_M_isWanted_19 rfl (lv_at hl 0 rfl) ?_
          refine va_get (D := D) (ci := ciMo) (v := .ref (b 7)) (C := RM) (T := TM) (N := 9) hx hb hts inM hown hK.1 hP 0 rfl rfl 7 (by decide) (hts _ wd_406) (fun _ h9 => h9) rfl d_M_isWanted_20 ?_
          refine lv_bipush (v := nI 24) hx hb d_M_isWanted_23 (by decide) ?_
          refine lv_iload_n hx hb d_M_isWanted_25 rfl (lv_at hl 1 rfl) ?_
          refine lv_imul hx hb d_M_isWanted_26 ?_
          rw [pk_mul]
          refine lv_iload_n hx hb d_M_isWanted_27 rfl (lv_at hl 3 rfl) ?_
          refine lv_iadd hx hb d_M_isWanted_28 ?_
          rw [nI_add]
          refine rw_iald hx hb hK.1 hP 7 0 rfl rfl (j := ((24 * j) + i)) (by omega) (by decide) d_M_isWanted_29 ?_
          refine lv_aload_n hx hb d_M_isWanted_30 rfl (lv_at hl 0 rfl) ?_
          refine va_get (D := D) (ci := ciMo) (v := .ref (b 8)) (C := RM) (T := TM) (N := 9) hx hb hts inM hown hK.1 hP 0 rfl rfl 8 (by decide) (hts _ wd_407) (fun _ h9 => h9) rfl d_M_isWanted_31 ?_
          refine lv_iload_n hx hb d_M_isWanted_34 rfl (lv_at hl 3 rfl) ?_
          refine rw_iald hx hb hK.1 hP 8 0 rfl rfl (j := i) (by omega) (by decide) d_M_isWanted_35 ?_
          refine lv_icmp_ne (tgt := 43) hx hb d_M_isWanted_36 (by decide) (fun c36 => ?_) (fun c36 => ?_)
          · skip
            refine lv_iconst (v := nI 0) hx hb d_M_isWanted_43 (by decide) ?_
            refine lv_topi (fun y9 e9 => ?_)
            obtain rfl : y9 = (if (decide (te j ≠ 0) && eqF (fun p => va (24 * j + p)) wa (i + 1)) = true then nI 1 else nI 0) := e9.trans (if_f (by rw [show eqF (fun p => va (24 * j + p)) wa (i + 1) = (eqF (fun p => va (24 * j + p)) wa i && decide (va (24 * j + i) = wa i)) from rfl]; simp [c36]))
            refine lv_istore_n (lv' := [(2, .int (if (decide (te j ≠ 0) && eqF (fun p => va (24 * j + p)) wa (i + 1)) = true then nI 1 else nI 0)), (0, .ref (b 0)), (1, .int (nI j)), (3, .int (nI i))]) hx hb d_M_isWanted_44 rfl hl (by decide) rfl (fun ls hl => ?_)
            refine lv_iinc (v := nI (i + 1)) (lv' := [(3, .int (nI (i + 1))), (2, .int (if (decide (te j ≠ 0) && eqF (fun p => va (24 * j + p)) wa (i + 1)) = true then nI 1 else nI 0)), (0, .ref (b 0)), (1, .int (nI j))]) hx hb d_M_isWanted_45 hl (k := 3) rfl (ii_1 _) (by decide) rfl (fun ls hl => ?_)
            refine lv_goto (tgt := 9) hx hb d_M_isWanted_48 (by decide) ?_
            exact ih (i + 1) ls (by omega) (by omega) (lv_sub hl [2, 3, 1, 0] rfl)
          · skip
            refine lv_iconst (v := nI 1) hx hb d_M_isWanted_39 (by decide) ?_
            refine lv_goto (tgt := 44) hx hb d_M_isWanted_40 (by decide) ?_
            refine lv_topi (fun y9 e9 => ?_)
            obtain rfl : y9 = (if (decide (te j ≠ 0) && eqF (fun p => va (24 * j + p)) wa (i + 1)) = true then nI 1 else nI 0) := e9.trans (if_t (by rw [show eqF (fun p => va (24 * j + p)) wa (i + 1) = (eqF (fun p => va (24 * j + p)) wa i && decide (va (24 * j + i) = wa i)) from rfl, ← Bool.and_assoc, b_of1 c16]; simp [c36]))
            refine lv_istore_n (lv' := [(2, .int (if (decide (te j ≠ 0) && eqF (fun p => va (24 * j + p)) wa (i + 1)) = true then nI 1 else nI 0)), (0, .ref (b 0)), (1, .int (nI j)), (3, .int (nI i))]) hx hb d_M_isWanted_44 rfl hl (by decide) rfl (fun ls hl => ?_)
            refine lv_iinc (v := nI (i + 1)) (lv' := [(3, .int (nI (i + 1))), (2, .int (if (decide (te j ≠ 0) && eqF (fun p => va (24 * j + p)) wa (i + 1)) = true then nI 1 else nI 0)), (0, .ref (b 0)), (1, .int (nI j))]) hx hb d_M_isWanted_45 hl (k := 3) rfl (ii_1 _) (by decide) rfl (fun ls hl => ?_)
            refine lv_goto (tgt := 9) hx hb d_M_isWanted_48 (by decide) ?_
            exact ih (i + 1) ls (by omega) (by omega) (lv_sub hl [2, 3, 1, 0] rfl)
  exact lp _ (0) ls (Nat.lt_succ_self _) (by decide) (lv_sub hl [2, 3, 1, 0] rfl)

set_option maxRecDepth 100000 in
set_option maxHeartbeats 4000000 in
theorem c_Mbeneath (l : Launch) (D : va_G) (k : Nat → ClassId) (b : Nat → Nat) (cd : Int32) (ki ba ow uu te ma va wa : Nat → Int32) (th kd bs us sth mk : Nat → Int32) (M sM : Nat → Nat → Int32) (hR : RI th kd bs us sth mk M sM ki ba ow uu te ma va) (c9 : Int32) (hc9 : c9 = -1 ∨ ∃ i0 : Nat, i0 < 64 ∧ c9 = nI i0 ∧ th i0 ≠ 0) (q9 : Int32) (hq9 : q9 = -1 ∨ ∃ i0 : Nat, i0 < 64 ∧ q9 = nI i0 ∧ th i0 ≠ 0) (p9 : Nat) (hp9 : p9 < 24) (sz : Nat) : bMI l y_M_beneath (wY y_M_beneath b_M_beneath 5 (some .int)) (rm9 4 0 0) D (tsK k) (mdW k b cd ki ba ow uu te ma va wa) sz [.ref (b 0), .int c9, .int q9, .int (nI p9)] (fun v w => v = rbF th bs us M c9 q9 p9 ∧ w = mdW k b cd ki ba ow uu te ma va wa) 0 0 := by
  refine ent_i (cc := b_M_beneath) (maxL := 5) (ty := .int) (by decide) (Nat.le_of_ble_eq_true rfl) (fun _ _ _ => rfl) ?_
  intro p e s m args below meth c A Q ls hx hb hml hown hts hsz hA hP hD hS hK hl hret
  refine lv_aload_n hx hb d_M_beneath_0 rfl (lv_at hl 0 rfl) ?_
  refine lv_iload_n hx hb d_M_beneath_1 rfl (lv_at hl 1 rfl) ?_
  refine lv_iload_n hx hb d_M_beneath_2 rfl (lv_at hl 3 rfl) ?_
  refine cal_i (wc := mdW k b cd ki ba ow uu te ma va wa) (wr := []) (va_runV (As := [.int c9, .int (nI p9)]) (rest := []) ⟨hx, hb, hml, hown, hts⟩ (c_MvalueOf l D k b cd ki ba ow uu te ma va wa th kd bs us sth mk M sM hR c9 hc9 p9 hp9 s.heap.size) (cwV9 2 hts wd_476 wd_473 wd_475 ws_24 wd_4 (by decide) ⟨Nat.le_of_ble_eq_true rfl, Nat.le_of_ble_eq_true rfl⟩) (prV (q0 := 0) (ci := ciMo) hK hP hD (pm_nil' _) rfl rfl) rfl rfl hl.1 rfl (lv_room (Nat.le_of_ble_eq_true rfl)) d_M_beneath_3 ⟨by decide, by decide⟩) (pm_nil' _) hP hD hS hA (fun r w1 H locs hw hpd hS => ?_)
  obtain ⟨rfl, rfl⟩ := hw
  obtain ⟨hP, hD⟩ := hpd (mdW k b cd ki ba ow uu te ma va wa) (pm_nil _)
  refine lv_istore (lv' := [(4, .int (vbF th bs M c9 p9)), (0, .ref (b 0)), (1, .int c9), (2, .int q9), (3, .int (nI p9))]) hx hb d_M_beneath_6 hl (by decide) rfl (fun ls hl => ?_)
  refine lv_iload hx hb d_M_beneath_8 (lv_at hl 0 rfl) ?_
  refine lv_if_ge (tgt := 22) hx hb d_M_beneath_10 (by decide) (fun c10 => ?_) (fun c10 => ?_)
  · skip
    refine lv_iload hx hb d_M_beneath_22 (lv_at hl 0 rfl) ?_
    refine lv_istore (lv' := [(4, .int (vbF th bs M c9 p9)), (0, .ref (b 0)), (1, .int c9), (2, .int q9), (3, .int (nI p9))]) hx hb d_M_beneath_24 hl (by decide) rfl (fun ls hl => ?_)
    refine lv_iload hx hb d_M_beneath_26 (lv_at hl 0 rfl) ?_
    refine lv_if_ge (tgt := 40) hx hb d_M_beneath_28 (by decide) (fun c28 => ?_) (fun c28 => ?_)
    · skip
      refine lv_iload hx hb d_M_beneath_40 (lv_at hl 0 rfl) ?_
      exact hret _ _ _ _ _ _ _ _ d_M_beneath_42 ⟨by have e1 : ¬ vbF th bs M c9 p9 = -1 := fun z => (by rw [z] at c28; exact absurd c28 (by decide)); simp [rbF, e1], rfl⟩ hP hD hS (by decide) (by decide)
    · skip
      refine lv_aload_n hx hb d_M_beneath_31 rfl (lv_at hl 1 rfl) ?_
      refine va_get (D := D) (ci := ciMo) (v := .ref (b 4)) (C := RM) (T := TM) (N := 9) hx hb hts inM hown hK.1 hP 0 rfl rfl 4 (by decide) (hts _ wd_403) (fun _ h9 => h9) rfl d_M_beneath_32 ?_
      refine lv_iload_n hx hb d_M_beneath_35 rfl (lv_at hl 4 rfl) ?_
      refine rw_iald hx hb hK.1 hP 4 0 rfl rfl (j := p9) (by omega) (by decide) d_M_beneath_36 ?_
      rw [hR.2.2.1 p9 hp9]
      refine lv_goto (tgt := 42) hx hb d_M_beneath_37 (by decide) ?_
      exact absurd c10 c28
  · skip
    refine lv_aload_n hx hb d_M_beneath_13 rfl (lv_at hl 1 rfl) ?_
    refine lv_iload_n hx hb d_M_beneath_14 rfl (lv_at hl 3 rfl) ?_
    refine lv_iload_n hx hb d_M_beneath_15 rfl (lv_at hl 4 rfl) ?_
    refine cal_i (wc := mdW k b cd ki ba ow uu te ma va wa) (wr := []) (va_runV (As := [.int q9, .int (nI p9)]) (rest := []) ⟨hx, hb, hml, hown, hts⟩ (c_MvalueOf l D k b cd ki ba ow uu te ma va wa th kd bs us sth mk M sM hR q9 hq9 p9 hp9 H.size) (cwV9 2 hts wd_476 wd_473 wd_475 ws_24 wd_4 (by decide) ⟨Nat.le_of_ble_eq_true rfl, Nat.le_of_ble_eq_true rfl⟩) (prV (q0 := 0) (ci := ciMo) hK hP hD (pm_nil' _) rfl rfl) rfl rfl hl.1 rfl (lv_room (Nat.le_of_ble_eq_true rfl)) d_M_beneath_16 ⟨by decide, by decide⟩) (pm_nil' _) hP hD hS hA (fun r w1 H locs hw hpd hS => ?_)
    obtain ⟨rfl, rfl⟩ := hw
    obtain ⟨hP, hD⟩ := hpd (mdW k b cd ki ba ow uu te ma va wa) (pm_nil _)
    refine lv_goto (tgt := 24) hx hb d_M_beneath_19 (by decide) ?_
    refine lv_istore (lv' := [(4, .int (vbF th bs M q9 p9)), (0, .ref (b 0)), (1, .int c9), (2, .int q9), (3, .int (nI p9))]) hx hb d_M_beneath_24 hl (by decide) rfl (fun ls hl => ?_)
    refine lv_iload hx hb d_M_beneath_26 (lv_at hl 0 rfl) ?_
    refine lv_if_ge (tgt := 40) hx hb d_M_beneath_28 (by decide) (fun c28 => ?_) (fun c28 => ?_)
    · skip
      refine lv_iload hx hb d_M_beneath_40 (lv_at hl 0 rfl) ?_
      exact hret _ _ _ _ _ _ _ _ d_M_beneath_42 ⟨by have q1 := (ge_m1 (vb_in hR.1.1 (x := c9) hp9)); have e1 : vbF th bs M c9 p9 = -1 := Classical.not_not.mp (fun z => absurd (Int32.not_lt.mp (q1.mpr z)) c10); have e2 : ¬ vbF th bs M q9 p9 = -1 := fun z => (by rw [z] at c28; exact absurd c28 (by decide)); simp [rbF, e1, e2], rfl⟩ hP hD hS (by decide) (by decide)
    · skip
      refine lv_aload_n hx hb d_M_beneath_31 rfl (lv_at hl 1 rfl) ?_
      refine va_get (D := D) (ci := ciMo) (v := .ref (b 4)) (C := RM) (T := TM) (N := 9) hx hb hts inM hown hK.1 hP 0 rfl rfl 4 (by decide) (hts _ wd_403) (fun _ h9 => h9) rfl d_M_beneath_32 ?_
      refine lv_iload_n hx hb d_M_beneath_35 rfl (lv_at hl 4 rfl) ?_
      refine rw_iald hx hb hK.1 hP 4 0 rfl rfl (j := p9) (by omega) (by decide) d_M_beneath_36 ?_
      rw [hR.2.2.1 p9 hp9]
      refine lv_goto (tgt := 42) hx hb d_M_beneath_37 (by decide) ?_
      exact hret _ _ _ _ _ _ _ _ d_M_beneath_42 ⟨by have q1 := (ge_m1 (vb_in hR.1.1 (x := c9) hp9)); have q2 := (ge_m1 (vb_in hR.1.1 (x := q9) hp9)); have e1 : vbF th bs M c9 p9 = -1 := Classical.not_not.mp (fun z => absurd (Int32.not_lt.mp (q1.mpr z)) c10); have e2 : vbF th bs M q9 p9 = -1 := Classical.not_not.mp (fun z => absurd (Int32.not_lt.mp (q2.mpr z)) c28); simp [rbF, e1, e2], rfl⟩ hP hD hS (by decide) (by decide)

set_option maxRecDepth 100000 in
set_option maxHeartbeats 4000000 in
theorem c_MareStyles (l : Launch) (D : va_G) (k : Nat → ClassId) (b : Nat → Nat) (cd : Int32) (ki ba ow uu te ma va wa : Nat → Int32) (th kd bs us sth mk : Nat → Int32) (M sM : Nat → Nat → Int32) (hR : RI th kd bs us sth mk M sM ki ba ow uu te ma va) (c9 q9 : Int32) (sz : Nat) : bMI l y_M_areStyles (wY y_M_areStyles b_M_areStyles 3 (some .boolean)) (rm9 4 0 0) D (tsK k) (mdW k b cd ki ba ow uu te ma va wa) sz [.ref (b 0), .int c9, .int q9] (fun v w => v = (if (okB th kd c9 (nI 0) && okB th kd q9 (nI 1)) = true then nI 1 else nI 0) ∧ w = mdW k b cd ki ba ow uu te ma va wa) 0 0 := by
  refine ent_i (cc := b_M_areStyles) (maxL := 3) (ty := .boolean) (by decide) (Nat.le_of_ble_eq_true rfl) (fun v w h => nr_if h.1) ?_
  intro p e s m args below meth c A Q ls hx hb hml hown hts hsz hA hP hD hS hK hl hret
  refine lv_aload_n hx hb d_M_areStyles_0 rfl (lv_at hl 0 rfl) ?_
  refine lv_iload_n hx hb d_M_areStyles_1 rfl (lv_at hl 1 rfl) ?_
  refine lv_iconst (v := nI 0) hx hb d_M_areStyles_2 (by decide) ?_
  refine cal_i (wc := mdW k b cd ki ba ow uu te ma va wa) (wr := []) (va_runV (As := [.int c9, .int (nI 0)]) (rest := []) ⟨hx, hb, hml, hown, hts⟩ (c_MisOf l D k b cd ki ba ow uu te ma va wa th kd hR.2.1.1 hR.2.1.2.1 c9 (nI 0) s.heap.size) (cwV9 2 hts wd_441 wd_438 wd_440 ws_21 wd_4 (by decide) ⟨Nat.le_of_ble_eq_true rfl, Nat.le_of_ble_eq_true rfl⟩) (prV (q0 := 0) (ci := ciMo) hK hP hD (pm_nil' _) rfl rfl) rfl rfl hl.1 rfl (lv_room (Nat.le_of_ble_eq_true rfl)) d_M_areStyles_3 ⟨by decide, by decide⟩) (pm_nil' _) hP hD hS hA (fun r w1 H locs hw hpd hS => ?_)
  obtain ⟨rfl, rfl⟩ := hw
  obtain ⟨hP, hD⟩ := hpd (mdW k b cd ki ba ow uu te ma va wa) (pm_nil _)
  refine lv_if_eq (tgt := 22) hx hb d_M_areStyles_6 (by decide) (fun c6 => ?_) (fun c6 => ?_)
  · skip
    have c6 := b_of0 c6
    refine lv_iconst (v := nI 0) hx hb d_M_areStyles_22 (by decide) ?_
    exact hret _ _ _ _ _ _ _ _ d_M_areStyles_23 ⟨if_f (by simp [c6]), rfl⟩ hP hD hS (by decide) (by decide)
  · skip
    have c6 := b_of1 c6
    refine lv_aload_n hx hb d_M_areStyles_9 rfl (lv_at hl 0 rfl) ?_
    refine lv_iload_n hx hb d_M_areStyles_10 rfl (lv_at hl 2 rfl) ?_
    refine lv_iconst (v := nI 1) hx hb d_M_areStyles_11 (by decide) ?_
    refine cal_i (wc := mdW k b cd ki ba ow uu te ma va wa) (wr := []) (va_runV (As := [.int q9, .int (nI 1)]) (rest := []) ⟨hx, hb, hml, hown, hts⟩ (c_MisOf l D k b cd ki ba ow uu te ma va wa th kd hR.2.1.1 hR.2.1.2.1 q9 (nI 1) H.size) (cwV9 2 hts wd_441 wd_438 wd_440 ws_21 wd_4 (by decide) ⟨Nat.le_of_ble_eq_true rfl, Nat.le_of_ble_eq_true rfl⟩) (prV (q0 := 0) (ci := ciMo) hK hP hD (pm_nil' _) rfl rfl) rfl rfl hl.1 rfl (lv_room (Nat.le_of_ble_eq_true rfl)) d_M_areStyles_12 ⟨by decide, by decide⟩) (pm_nil' _) hP hD hS hA (fun r w1 H locs hw hpd hS => ?_)
    obtain ⟨rfl, rfl⟩ := hw
    obtain ⟨hP, hD⟩ := hpd (mdW k b cd ki ba ow uu te ma va wa) (pm_nil _)
    refine lv_if_eq (tgt := 22) hx hb d_M_areStyles_15 (by decide) (fun c15 => ?_) (fun c15 => ?_)
    · skip
      have c15 := b_of0 c15
      refine lv_iconst (v := nI 0) hx hb d_M_areStyles_22 (by decide) ?_
      exact hret _ _ _ _ _ _ _ _ d_M_areStyles_23 ⟨if_f (by simp [c15]), rfl⟩ hP hD hS (by decide) (by decide)
    · skip
      have c15 := b_of1 c15
      refine lv_iconst (v := nI 1) hx hb d_M_areStyles_18 (by decide) ?_
      refine lv_goto (tgt := 23) hx hb d_M_areStyles_19 (by decide) ?_
      exact hret _ _ _ _ _ _ _ _ d_M_areStyles_23 ⟨if_t (by simp [c6, c15]), rfl⟩ hP hD hS (by decide) (by decide)

set_option maxRecDepth 100000 in
set_option maxHeartbeats 4000000 in
theorem c_Mresolved (l : Launch) (D : va_G) (k : Nat → ClassId) (b : Nat → Nat) (cd : Int32) (ki ba ow uu te ma va wa : Nat → Int32) (th kd bs us sth mk : Nat → Int32) (M sM : Nat → Nat → Int32) (hR : RI th kd bs us sth mk M sM ki ba ow uu te ma va) (j : Nat) (hj : j < 256) (hjt : sth j ≠ 0) (c9 : Int32) (hc9 : c9 = -1 ∨ ∃ i0 : Nat, i0 < 64 ∧ c9 = nI i0 ∧ th i0 ≠ 0) (q9 : Int32) (hq9 : q9 = -1 ∨ ∃ i0 : Nat, i0 < 64 ∧ q9 = nI i0 ∧ th i0 ≠ 0) (p9 : Nat) (hp9 : p9 < 24) (sz : Nat) : bMI l y_M_resolved (wY y_M_resolved b_M_resolved 6 (some .int)) (rm9 5 0 0) D (tsK k) (mdW k b cd ki ba ow uu te ma va wa) sz [.ref (b 0), .int (nI j), .int c9, .int q9, .int (nI p9)] (fun v w => v = rsF th bs us M sM j c9 q9 p9 ∧ w = mdW k b cd ki ba ow uu te ma va wa) 0 0 := by
  refine ent_i (cc := b_M_resolved) (maxL := 6) (ty := .int) (by decide) (Nat.le_of_ble_eq_true rfl) (fun _ _ _ => rfl) ?_
  intro p e s m args below meth c A Q ls hx hb hml hown hts hsz hA hP hD hS hK hl hret
  refine lv_aload_n hx hb d_M_resolved_0 rfl (lv_at hl 0 rfl) ?_
  refine va_get (D := D) (ci := ciMo) (v := .ref (b 7)) (C := RM) (T := TM) (N := 9) hx hb hts inM hown hK.1 hP 0 rfl rfl 7 (by decide) (hts _ wd_406) (fun _ h9 => h9) rfl d_M_resolved_1 ?_
  refine lv_bipush (v := nI 24) hx hb d_M_resolved_4 (by decide) ?_
  refine lv_iload_n hx hb d_M_resolved_6 rfl (lv_at hl 1 rfl) ?_
  refine lv_imul hx hb d_M_resolved_7 ?_
  rw [pk_mul]
  refine lv_iload hx hb d_M_resolved_8 (lv_at hl 4 rfl) ?_
  refine lv_iadd hx hb d_M_resolved_10 ?_
  rw [nI_add]
  refine rw_iald hx hb hK.1 hP 7 0 rfl rfl (j := ((24 * j) + p9)) (by omega) (by decide) d_M_resolved_11 ?_
  rw [hR.2.2.2.2.2 j p9 hj hp9 hjt]
  refine lv_istore (lv' := [(5, .int (sM j p9)), (0, .ref (b 0)), (1, .int (nI j)), (2, .int c9), (3, .int q9), (4, .int (nI p9))]) hx hb d_M_resolved_12 hl (by decide) rfl (fun ls hl => ?_)
  refine lv_iload hx hb d_M_resolved_14 (lv_at hl 0 rfl) ?_
  refine lv_if_ge (tgt := 30) hx hb d_M_resolved_16 (by decide) (fun c16 => ?_) (fun c16 => ?_)
  · skip
    refine lv_iload hx hb d_M_resolved_30 (lv_at hl 0 rfl) ?_
    exact hret _ _ _ _ _ _ _ _ d_M_resolved_32 ⟨by have e1 : ¬ sM j p9 = -1 := fun z => (by rw [z] at c16; exact absurd c16 (by decide)); simp [rsF, e1], rfl⟩ hP hD hS (by decide) (by decide)
  · skip
    refine lv_aload_n hx hb d_M_resolved_19 rfl (lv_at hl 1 rfl) ?_
    refine lv_iload_n hx hb d_M_resolved_20 rfl (lv_at hl 3 rfl) ?_
    refine lv_iload_n hx hb d_M_resolved_21 rfl (lv_at hl 4 rfl) ?_
    refine lv_iload hx hb d_M_resolved_22 (lv_at hl 5 rfl) ?_
    refine cal_i (wc := mdW k b cd ki ba ow uu te ma va wa) (wr := []) (va_runV (As := [.int c9, .int q9, .int (nI p9)]) (rest := []) ⟨hx, hb, hml, hown, hts⟩ (c_Mbeneath l D k b cd ki ba ow uu te ma va wa th kd bs us sth mk M sM hR c9 hc9 q9 hq9 p9 hp9 s.heap.size) (cwV9 3 hts wd_536 wd_533 wd_535 ws_33 wd_4 (by decide) ⟨Nat.le_of_ble_eq_true rfl, Nat.le_of_ble_eq_true rfl⟩) (prV (q0 := 0) (ci := ciMo) hK hP hD (pm_nil' _) rfl rfl) rfl rfl hl.1 rfl (lv_room (Nat.le_of_ble_eq_true rfl)) d_M_resolved_24 ⟨by decide, by decide⟩) (pm_nil' _) hP hD hS hA (fun r w1 H locs hw hpd hS => ?_)
    obtain ⟨rfl, rfl⟩ := hw
    obtain ⟨hP, hD⟩ := hpd (mdW k b cd ki ba ow uu te ma va wa) (pm_nil _)
    refine lv_goto (tgt := 32) hx hb d_M_resolved_27 (by decide) ?_
    exact hret _ _ _ _ _ _ _ _ d_M_resolved_32 ⟨by have q1 := ge_m1 (hR.1.2.2.2.1 j p9 hj hp9); have e1 : sM j p9 = -1 := Classical.not_not.mp (fun z => absurd (Int32.not_lt.mp (q1.mpr z)) c16); simp [rsF, e1], rfl⟩ hP hD hS (by decide) (by decide)
