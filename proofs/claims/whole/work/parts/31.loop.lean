/-! THE LAW: its loop, its start -/
theorem sw18 (x : Int32) : x = nI 0 ∨ x = nI 1 ∨ x = nI 2 ∨ x = nI 3 ∨ x = nI 4 ∨ x = nI 5 ∨ x = nI 6 ∨ x = nI 7 ∨ x = nI 8 ∨ x = nI 9 ∨ x = nI 10 ∨ x = nI 11 ∨ x = nI 12 ∨ x = nI 13 ∨ x = nI 14 ∨ x = nI 15 ∨ x = nI 16 ∨ x = nI 17 ∨ (x.toInt < 0 ∨ 17 < x.toInt) := by
  by_cases h : x.toInt < 0 ∨ 17 < x.toInt
  · exact Or.inr (Or.inr (Or.inr (Or.inr (Or.inr (Or.inr (Or.inr (Or.inr (Or.inr (Or.inr (Or.inr (Or.inr (Or.inr (Or.inr (Or.inr (Or.inr (Or.inr (Or.inr (h))))))))))))))))))
  · have h0 : ¬ x < 0 := by
      rw [Int32.lt_iff_toInt_lt, show (0 : Int32).toInt = 0 from rfl]
      omega
    obtain ⟨j, hj, rfl⟩ := nI_of h0
    rw [nI_toInt hj] at h
    rcases (show j = 0 ∨ j = 1 ∨ j = 2 ∨ j = 3 ∨ j = 4 ∨ j = 5 ∨ j = 6 ∨ j = 7 ∨ j = 8 ∨ j = 9 ∨ j = 10 ∨ j = 11 ∨ j = 12 ∨ j = 13 ∨ j = 14 ∨ j = 15 ∨ j = 16 ∨ j = 17 by omega) with rfl | rfl | rfl | rfl | rfl | rfl | rfl | rfl | rfl | rfl | rfl | rfl | rfl | rfl | rfl | rfl | rfl | rfl
    · exact Or.inl rfl
    · exact Or.inr (Or.inl rfl)
    · exact Or.inr (Or.inr (Or.inl rfl))
    · exact Or.inr (Or.inr (Or.inr (Or.inl rfl)))
    · exact Or.inr (Or.inr (Or.inr (Or.inr (Or.inl rfl))))
    · exact Or.inr (Or.inr (Or.inr (Or.inr (Or.inr (Or.inl rfl)))))
    · exact Or.inr (Or.inr (Or.inr (Or.inr (Or.inr (Or.inr (Or.inl rfl))))))
    · exact Or.inr (Or.inr (Or.inr (Or.inr (Or.inr (Or.inr (Or.inr (Or.inl rfl)))))))
    · exact Or.inr (Or.inr (Or.inr (Or.inr (Or.inr (Or.inr (Or.inr (Or.inr (Or.inl rfl))))))))
    · exact Or.inr (Or.inr (Or.inr (Or.inr (Or.inr (Or.inr (Or.inr (Or.inr (Or.inr (Or.inl rfl)))))))))
    · exact Or.inr (Or.inr (Or.inr (Or.inr (Or.inr (Or.inr (Or.inr (Or.inr (Or.inr (Or.inr (Or.inl rfl))))))))))
    · exact Or.inr (Or.inr (Or.inr (Or.inr (Or.inr (Or.inr (Or.inr (Or.inr (Or.inr (Or.inr (Or.inr (Or.inl rfl)))))))))))
    · exact Or.inr (Or.inr (Or.inr (Or.inr (Or.inr (Or.inr (Or.inr (Or.inr (Or.inr (Or.inr (Or.inr (Or.inr (Or.inl rfl))))))))))))
    · exact Or.inr (Or.inr (Or.inr (Or.inr (Or.inr (Or.inr (Or.inr (Or.inr (Or.inr (Or.inr (Or.inr (Or.inr (Or.inr (Or.inl rfl)))))))))))))
    · exact Or.inr (Or.inr (Or.inr (Or.inr (Or.inr (Or.inr (Or.inr (Or.inr (Or.inr (Or.inr (Or.inr (Or.inr (Or.inr (Or.inr (Or.inl rfl))))))))))))))
    · exact Or.inr (Or.inr (Or.inr (Or.inr (Or.inr (Or.inr (Or.inr (Or.inr (Or.inr (Or.inr (Or.inr (Or.inr (Or.inr (Or.inr (Or.inr (Or.inl rfl)))))))))))))))
    · exact Or.inr (Or.inr (Or.inr (Or.inr (Or.inr (Or.inr (Or.inr (Or.inr (Or.inr (Or.inr (Or.inr (Or.inr (Or.inr (Or.inr (Or.inr (Or.inr (Or.inl rfl))))))))))))))))
    · exact Or.inr (Or.inr (Or.inr (Or.inr (Or.inr (Or.inr (Or.inr (Or.inr (Or.inr (Or.inr (Or.inr (Or.inr (Or.inr (Or.inr (Or.inr (Or.inr (Or.inr (Or.inl rfl)))))))))))))))))
theorem ii_5 (i : Nat) : nI i + Int32.ofInt 5 = nI (i + 5) := nI_add i 5
theorem law_sub {L i : Nat} (hL : L ≤ 2560) (hi : i ≤ 2560) : (Int32.ofNat L - nI 5 < nI i) ↔ L < i + 5 := by
  have h : Int32.ofNat L - nI 5 = Int32.ofInt ((L : Int) - 5) := by
    rw [Int32.ofInt_sub]; rfl
  rw [Int32.lt_iff_toInt_lt, h, Int32.toInt_ofInt_of_le (by omega) (by omega), nI_toInt (by omega)]
  omega
set_option maxRecDepth 100000 in
set_option maxHeartbeats 4000000 in
theorem law_loop {p : Program} {e : Env} {s : State} {m : MethodId} {args : Array Value} {below : List Frame} {meth : Method} {c : Code} (l : Launch) (D : va_G) (k : Nat → ClassId) (a r t b : Nat → Nat) (ob : Nat) (sa : Nat → Nat) (A : Nat → Prop) (Q : State → Prop) (sb L : Nat) (xs : Nat → Int32) (hl9 : l.stackTraces = false) (hx : p.tables.exec = Jvm.exec) (hb : c.code = code) (hml : c.maxLocals = 7) (hown : s.vm.findClass "StyleSheetLaw" = some m.cls) (hts : ∀ w ∈ wG, w.before args s = true) (hA : ∀ q, s.heap.size ≤ q → A q) (hK : bK D (tsK k) s) (hE : bEV Sts sa A s s.heap) (hN : lNc s) (hX : va_X sb L xs s s.heap) (hbl : sb < s.heap.size) (hbA : ¬ A sb) (hL : L ≤ 2560) (hend : ∀ (H : Heap) (locs : List Loc) (ls : Array Slot) (cells slots : Nat), (∀ z ∈ locs, A z.base) → cells ≤ 601024 → slots ≤ 7293034 → W p l e room_1 s m args below meth c H locs cells slots Q (F0 m 1241 ls [.int (nI 1)])) :
    ∀ (n9 : Nat) (th kd bs us sth mk dr : Nat → Int32) (M sM : Nat → Nat → Int32) (cd : Int32) (ki ba ow uu te ma va wa : Nat → Int32) (of : Nat → Int64) (i cells slots : Nat) (H : Heap) (locs : List Loc) (ls : Array Slot), L - i < n9 → i ≤ L → cells + 4 * (L + 5 - i) ≤ 601024 → slots + 24 * (L + 5 - i) ≤ 7293034 → RI th kd bs us sth mk M sM ki ba ow uu te ma va → va_P D vwCl (((ob, .inl (k 3, 1, .inr (.inl of))) :: cxW k a r t th kd bs us sth mk dr M sM) ++ mdW k b cd ki ba ow uu te ma va wa) H → va_D A (((ob, .inl (k 3, 1, .inr (.inl of))) :: cxW k a r t th kd bs us sth mk dr M sM) ++ mdW k b cd ki ba ow uu te ma va wa) → va_S A s.heap H locs → lv_has ls 7 [(0, .ref sb), (1, .ref (a 0)), (2, .ref (b 0)), (3, .ref ob), (4, .int (nI i))] → W p l e room_1 s m args below meth c H locs cells slots Q (F0 m 23 ls []) := by
  intro n9
  induction n9 with
  | zero =>
    intro th kd bs us sth mk dr M sM cd ki ba ow uu te ma va wa of i cells slots H locs ls hm
    omega
  | succ n9 ih =>
    intro th kd bs us sth mk dr M sM cd ki ba ow uu te ma va wa of i cells slots H locs ls hm hi hcc hss hR hP hD hS hl
    refine lv_iload hx hb d_L_law_23 (lv_at hl 4 rfl) ?_
    refine lv_aload_n hx hb d_L_law_25 rfl (lv_at hl 0 rfl) ?_
    refine va_slen hx hb hX hbl hbA hS d_L_law_26 ?_
    refine lv_iconst (v := nI 5) hx hb d_L_law_27 (by decide) ?_
    refine lv_isub hx hb d_L_law_28 ?_
    refine lv_icmp_gt (tgt := 1240) hx hb d_L_law_29 (by decide) (fun c29 => ?_) (fun c29 => ?_)
    · refine lv_iconst (v := nI 1) hx hb d_L_law_1240 (by decide) ?_
      exact hend H locs ls cells slots hS.2.2 (by omega) (by omega)
    rw [law_sub hL (by omega)] at c29
    have hi4 : i + 4 < L := by omega
    have hgo : ∀ (th kd bs us sth mk dr : Nat → Int32) (M sM : Nat → Nat → Int32) (cd : Int32) (ki ba ow uu te ma va wa : Nat → Int32) (of : Nat → Int64) (H : Heap) (locs : List Loc) (ls : Array Slot), RI th kd bs us sth mk M sM ki ba ow uu te ma va → va_P D vwCl (((ob, .inl (k 3, 1, .inr (.inl of))) :: cxW k a r t th kd bs us sth mk dr M sM) ++ mdW k b cd ki ba ow uu te ma va wa) H → va_D A (((ob, .inl (k 3, 1, .inr (.inl of))) :: cxW k a r t th kd bs us sth mk dr M sM) ++ mdW k b cd ki ba ow uu te ma va wa) → va_S A s.heap H locs → lv_has ls 7 [(0, .ref sb), (1, .ref (a 0)), (2, .ref (b 0)), (3, .ref ob), (4, .int (nI i))] → W p l e room_1 s m args below meth c H locs (cells + 4) (slots + 24) Q (F0 m 1234 ls []) := by
      intro th kd bs us sth mk dr M sM cd ki ba ow uu te ma va wa of H locs ls hR hP hD hS hl
      refine lv_iinc (v := nI (i + 5)) (lv' := [(4, .int (nI (i + 5))), (0, .ref sb), (1, .ref (a 0)), (2, .ref (b 0)), (3, .ref ob)]) hx hb d_L_law_1234 hl (k := 4) rfl (ii_5 _) (by decide) rfl (fun ls hl => ?_)
      refine lv_goto (tgt := 23) hx hb d_L_law_1237 (by decide) ?_
      exact ih th kd bs us sth mk dr M sM cd ki ba ow uu te ma va wa of (i + 5) (cells + 4) (slots + 24) H locs ls (by omega) (by omega) (by omega) (by omega) hR hP hD hS (lv_sub hl [1, 2, 3, 4, 0] rfl)
    refine lv_aload_n hx hb d_L_law_32 rfl (lv_at hl 0 rfl) ?_
    refine lv_iload hx hb d_L_law_33 (lv_at hl 4 rfl) ?_
    refine rw_sld hx hb hX hbl hbA hS (j := i) (by omega) hL rfl d_L_law_35 ?_
    refine lv_bipush (v := nI 31) hx hb d_L_law_36 (by decide) ?_
    refine lv_iand hx hb d_L_law_38 ?_
    refine lv_topi (fun z hz => ?_)
    have hc4 : cells + 4 ≤ room_1.cells := by show cells + 4 ≤ 601024; omega
    have hs4 : slots + 24 ≤ room_1.slots := by show slots + 24 ≤ 7293034; omega
    rcases sw18 z with rfl | rfl | rfl | rfl | rfl | rfl | rfl | rfl | rfl | rfl | rfl | rfl | rfl | rfl | rfl | rfl | rfl | rfl | hsw
    · refine lv_tableIn (off := 85) (tgt := 124) hx hb d_L_law_39 (by decide) (by decide) (by decide) (by decide) ?_
      exact k_make l D k a r t b ob sa A Q sb L xs hl9 hx hb hml hown hts hA hK hE hN hX hbl hbA hL th kd bs us sth mk dr M sM cd ki ba ow uu te ma va wa of hR i hi4 cells slots hc4 hs4 H locs ls hP hD hS hl hgo
    · refine lv_tableIn (off := 153) (tgt := 192) hx hb d_L_law_39 (by decide) (by decide) (by decide) (by decide) ?_
      exact k_drop l D k a r t b ob sa A Q sb L xs hl9 hx hb hml hown hts hA hK hE hN hX hbl hbA hL th kd bs us sth mk dr M sM cd ki ba ow uu te ma va wa of hR i hi4 cells slots hc4 hs4 H locs ls hP hD hS hl hgo
    · refine lv_tableIn (off := 209) (tgt := 248) hx hb d_L_law_39 (by decide) (by decide) (by decide) (by decide) ?_
      exact k_rebase l D k a r t b ob sa A Q sb L xs hl9 hx hb hml hown hts hA hK hE hN hX hbl hbA hL th kd bs us sth mk dr M sM cd ki ba ow uu te ma va wa of hR i hi4 cells slots hc4 hs4 H locs ls hP hD hS hl hgo
    · refine lv_tableIn (off := 284) (tgt := 323) hx hb d_L_law_39 (by decide) (by decide) (by decide) (by decide) ?_
      exact k_own l D k a r t b ob sa A Q sb L xs hl9 hx hb hml hown hts hA hK hE hN hX hbl hbA hL th kd bs us sth mk dr M sM cd ki ba ow uu te ma va wa of hR i hi4 cells slots hc4 hs4 H locs ls hP hD hS hl hgo
    · refine lv_tableIn (off := 344) (tgt := 383) hx hb d_L_law_39 (by decide) (by decide) (by decide) (by decide) ?_
      exact k_value l D k a r t b ob sa A Q sb L xs hl9 hx hb hml hown hts hA hK hE hN hX hbl hbA hL th kd bs us sth mk dr M sM cd ki ba ow uu te ma va wa of hR i hi4 cells slots hc4 hs4 H locs ls hP hD hS hl hgo
    · refine lv_tableIn (off := 412) (tgt := 451) hx hb d_L_law_39 (by decide) (by decide) (by decide) (by decide) ?_
      exact k_giver l D k a r t b ob sa A Q sb L xs hl9 hx hb hml hown hts hA hK hE hN hX hbl hbA hL th kd bs us sth mk dr M sM cd ki ba ow uu te ma va wa of hR i hi4 cells slots hc4 hs4 H locs ls hP hD hS hl hgo
    · refine lv_tableIn (off := 480) (tgt := 519) hx hb d_L_law_39 (by decide) (by decide) (by decide) (by decide) ?_
      exact k_style l D k a r t b ob sa A Q sb L xs hl9 hx hb hml hown hts hA hK hE hN hX hbl hbA hL th kd bs us sth mk dr M sM cd ki ba ow uu te ma va wa of hR i hi4 cells slots hc4 hs4 H locs ls hP hD hS hl hgo
    · refine lv_tableIn (off := 548) (tgt := 587) hx hb d_L_law_39 (by decide) (by decide) (by decide) (by decide) ?_
      exact k_usual l D k a r t b ob sa A Q sb L xs hl9 hx hb hml hown hts hA hK hE hN hX hbl hbA hL th kd bs us sth mk dr M sM cd ki ba ow uu te ma va wa of hR i hi4 cells slots hc4 hs4 H locs ls hP hD hS hl hgo
    · refine lv_tableIn (off := 596) (tgt := 635) hx hb d_L_law_39 (by decide) (by decide) (by decide) (by decide) ?_
      exact k_with l D k a r t b ob sa A Q sb L xs hl9 hx hb hml hown hts hA hK hE hN hX hbl hbA hL th kd bs us sth mk dr M sM cd ki ba ow uu te ma va wa of hR i hi4 cells slots hc4 hs4 H locs ls hP hD hS hl hgo
    · refine lv_tableIn (off := 676) (tgt := 715) hx hb d_L_law_39 (by decide) (by decide) (by decide) (by decide) ?_
      exact k_over l D k a r t b ob sa A Q sb L xs hl9 hx hb hml hown hts hA hK hE hN hX hbl hbA hL th kd bs us sth mk dr M sM cd ki ba ow uu te ma va wa of hR i hi4 cells slots hc4 hs4 H locs ls hP hD hS hl hgo
    · refine lv_tableIn (off := 744) (tgt := 783) hx hb d_L_law_39 (by decide) (by decide) (by decide) (by decide) ?_
      exact k_lean l D k a r t b ob sa A Q sb L xs hl9 hx hb hml hown hts hA hK hE hN hX hbl hbA hL th kd bs us sth mk dr M sM cd ki ba ow uu te ma va wa of hR i hi4 cells slots hc4 hs4 H locs ls hP hD hS hl hgo
    · refine lv_tableIn (off := 824) (tgt := 863) hx hb d_L_law_39 (by decide) (by decide) (by decide) (by decide) ?_
      exact k_get l D k a r t b ob sa A Q sb L xs hl9 hx hb hml hown hts hA hK hE hN hX hbl hbA hL th kd bs us sth mk dr M sM cd ki ba ow uu te ma va wa of hR i hi4 cells slots hc4 hs4 H locs ls hP hD hS hl hgo
    · refine lv_tableIn (off := 892) (tgt := 931) hx hb d_L_law_39 (by decide) (by decide) (by decide) (by decide) ?_
      exact k_size l D k a r t b ob sa A Q sb L xs hl9 hx hb hml hown hts hA hK hE hN hX hbl hbA hL th kd bs us sth mk dr M sM cd ki ba ow uu te ma va wa of hR i hi4 cells slots hc4 hs4 H locs ls hP hD hS hl hgo
    · refine lv_tableIn (off := 917) (tgt := 956) hx hb d_L_law_39 (by decide) (by decide) (by decide) (by decide) ?_
      exact k_resolve l D k a r t b ob sa A Q sb L xs hl9 hx hb hml hown hts hA hK hE hN hX hbl hbA hL th kd bs us sth mk dr M sM cd ki ba ow uu te ma va wa of hR i hi4 cells slots hc4 hs4 H locs ls hP hD hS hl hgo
    · refine lv_tableIn (off := 1009) (tgt := 1048) hx hb d_L_law_39 (by decide) (by decide) (by decide) (by decide) ?_
      exact k_differ l D k a r t b ob sa A Q sb L xs hl9 hx hb hml hown hts hA hK hE hN hX hbl hbA hL th kd bs us sth mk dr M sM cd ki ba ow uu te ma va wa of hR i hi4 cells slots hc4 hs4 H locs ls hP hD hS hl hgo
    · refine lv_tableIn (off := 1101) (tgt := 1140) hx hb d_L_law_39 (by decide) (by decide) (by decide) (by decide) ?_
      exact k_mark l D k a r t b ob sa A Q sb L xs hl9 hx hb hml hown hts hA hK hE hN hX hbl hbA hL th kd bs us sth mk dr M sM cd ki ba ow uu te ma va wa of hR i hi4 cells slots hc4 hs4 H locs ls hP hD hS hl hgo
    · refine lv_tableIn (off := 1157) (tgt := 1196) hx hb d_L_law_39 (by decide) (by decide) (by decide) (by decide) ?_
      exact k_sweep l D k a r t b ob sa A Q sb L xs hl9 hx hb hml hown hts hA hK hE hN hX hbl hbA hL th kd bs us sth mk dr M sM cd ki ba ow uu te ma va wa of hR i hi4 cells slots hc4 hs4 H locs ls hP hD hS hl hgo
    · refine lv_tableIn (off := 1170) (tgt := 1209) hx hb d_L_law_39 (by decide) (by decide) (by decide) (by decide) ?_
      exact k_count l D k a r t b ob sa A Q sb L xs hl9 hx hb hml hown hts hA hK hE hN hX hbl hbA hL th kd bs us sth mk dr M sM cd ki ba ow uu te ma va wa of hR i hi4 cells slots hc4 hs4 H locs ls hP hD hS hl hgo
    · refine lv_tableOut (tgt := 1234) hx hb d_L_law_39 hsw (by decide) ?_
      refine W.widen (k := cells + 4) (n := slots + 24) (by omega) (by omega) ?_
      exact hgo th kd bs us sth mk dr M sM cd ki ba ow uu te ma va wa of H locs ls hR hP hD hS hl
