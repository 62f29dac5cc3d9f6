/-! THE LAW'S CASES -/
theorem lcm_self (x : Int64) : lg_cmp x x = 0 := by
  have h : ¬ x > x := Int64.lt_irrefl
  simp [lg_cmp, h]
theorem prB_nI {p : Nat} (h : p < 24) : prB (nI p) = true := prB_ok (nI_pos (by omega)) (nI_lt h (by decide))
theorem hs_th {n j : Nat} {th : Nat → Int32} (hn : n < 2 ^ 31) (hj : j < n) (h : hsB n th (nI j) = true) : th j ≠ 0 := by
  rw [hsB_nI hj hn] at h; exact of_decide_eq_true h
theorem nz_of {n : Nat} (h : ¬ n = 0) (hb : n < 10) : ¬ nI n = 0 := fun q => h ((nI_eq (b := 0) (by omega) (by decide)).mp q)
theorem nd_pf {sth g dr : Nat → Int32} {sM : Nat → Nat → Int32} : ndF sth (pfF g dr 24) sM = ndF sth g sM := nd_congr (fun p hp => by simp [pfF, hp])
theorem fu_t {sth g dr : Nat → Int32} {sM : Nat → Nat → Int32} (h : fuB sth (pfF g dr 24) sM = true) : ndF sth g sM = -1 ∧ frF sth 256 = -1 := by
  simpa [fuB, nd_pf] using h
theorem cdMk_0 {th kd : Nat → Int32} {x y : Int32} (h : cdMk th kd x y = 0) : kdB x = true ∧ okB th kd y x = true := by
  revert h; unfold cdMk; (repeat' split) <;> simp_all
theorem wi3 {sth : Nat → Int32} {x y v : Int32} {fu : Bool} (h : cdWi sth x y v fu = 3) : fu = true := by
  revert h; unfold cdWi; (repeat' split) <;> simp_all
theorem ov2 {sth : Nat → Int32} {x y : Int32} {fu : Bool} (h : cdOv sth x y fu = 2) : fu = true := by
  revert h; unfold cdOv; (repeat' split) <;> simp_all
theorem le3 {th kd sth : Nat → Int32} {x c q : Int32} {fu : Bool} (h : cdLe th kd sth x c q fu = 3) : fu = true := by
  revert h; unfold cdLe; (repeat' split) <;> simp_all
theorem lt_cdMk {th kd : Nat → Int32} {x y : Int32} : cdMk th kd x y < 10 := by unfold cdMk; (repeat' split) <;> decide
theorem lt_cdDr {th : Nat → Int32} {x : Int32} : cdDr th x < 10 := by unfold cdDr; (repeat' split) <;> decide
theorem lt_cdRb {th kd : Nat → Int32} {x y : Int32} : cdRb th kd x y < 10 := by unfold cdRb; (repeat' split) <;> decide
theorem lt_cdOw {th : Nat → Int32} {x y v : Int32} : cdOw th x y v < 10 := by unfold cdOw; (repeat' split) <;> decide
theorem lt_cdVa {th : Nat → Int32} {x y : Int32} : cdVa th x y < 10 := by unfold cdVa; (repeat' split) <;> decide
theorem lt_cdSt {th : Nat → Int32} {x y : Int32} : cdSt th x y < 10 := by unfold cdSt; (repeat' split) <;> decide
theorem lt_cdUs {y v : Int32} : cdUs y v < 10 := by unfold cdUs; (repeat' split) <;> decide
theorem lt_cdGe {sth : Nat → Int32} {x y : Int32} : cdGe sth x y < 10 := by unfold cdGe; (repeat' split) <;> decide
theorem lt_cdRe {th kd sth : Nat → Int32} {x c q y : Int32} : cdRe th kd sth x c q y < 10 := by unfold cdRe; (repeat' split) <;> decide
theorem lt_cdDi {th kd sth : Nat → Int32} {x y c q : Int32} : cdDi th kd sth x y c q < 10 := by unfold cdDi; (repeat' split) <;> decide
theorem lt_cdMa {sth : Nat → Int32} {x : Int32} : cdMa sth x < 10 := by unfold cdMa; (repeat' split) <;> decide
theorem lt_cdWi {sth : Nat → Int32} {x y v : Int32} {fu : Bool} : cdWi sth x y v fu < 10 := by unfold cdWi; (repeat' split) <;> decide
theorem lt_cdOv {sth : Nat → Int32} {x y : Int32} {fu : Bool} : cdOv sth x y fu < 10 := by unfold cdOv; (repeat' split) <;> decide
theorem lt_cdLe {th kd sth : Nat → Int32} {x c q : Int32} {fu : Bool} : cdLe th kd sth x c q fu < 10 := by unfold cdLe; (repeat' split) <;> decide
theorem wiG_ok {us sth mk : Nat → Int32} {sM : Nat → Nat → Int32} (h : RS2 us sth mk sM) {j p9 : Nat} {v : Int32} (hj : j < 256) (hv : v = -1 ∨ ¬ v < 0) : ∀ p, p < 24 → wiG sM j p9 v p = -1 ∨ ¬ wiG sM j p9 v p < 0 := by
  intro p hp
  simp only [wiG]
  by_cases e : p = p9
  · rw [if_pos e]; exact hv
  · rw [if_neg e]; exact h.2.2.1 j p hj hp
theorem ovG_ok {us sth mk : Nat → Int32} {sM : Nat → Nat → Int32} (h : RS2 us sth mk sM) {j j2 : Nat} (hj : j < 256) (hj2 : j2 < 256) : ∀ p, p < 24 → ovG sM j j2 p = -1 ∨ ¬ ovG sM j j2 p < 0 := by
  intro p hp
  simp only [ovG]
  by_cases e : sM j2 p = -1
  · rw [if_pos e]; exact h.2.2.1 j p hj hp
  · rw [if_neg e]; exact h.2.2.1 j2 p hj2 hp
theorem leG_ok {th bs us sth mk : Nat → Int32} {M sM : Nat → Nat → Int32} (h : RS2 us sth mk sM) {j : Nat} {c q : Int32} (hj : j < 256) : ∀ p, p < 24 → leG th bs us M sM j c q p = -1 ∨ ¬ leG th bs us M sM j c q p < 0 := by
  intro p hp
  simp only [leG]
  by_cases e : sM j p = rbF th bs us M c q p
  · rw [if_pos e]; exact Or.inl rfl
  · rw [if_neg e]; exact h.2.2.1 j p hj hp
theorem pf_24 {g dr : Nat → Int32} : ∀ p, p < 24 → pfF g dr 24 p = g p := fun p hp => by simp [pfF, hp]
theorem vin_n {j L : Nat} (h : j < L) (hL : L ≤ 2560) : vp_in (nI j) L := by
  unfold vp_in
  rw [nI_clamp (by omega)]
  rintro (q | q)
  · exact absurd q (nI_pos (by omega))
  · omega
section SLD
variable {p : Program} {l : Launch} {e : Env} {R : Room} {s : State} {m : MethodId} {args : Array Value} {below : List Frame} {meth : Method} {c : Code} {H0 H : Heap} {locs : List Loc} {cells slots : Nat} {Q : State → Prop} {A : Nat → Prop} {cc : ByteArray} {pc : Nat} {ls : Array Slot} {rest : List Value}
theorem rw_sld (hexec : p.tables.exec = Jvm.exec) (hb : c.code = cc) {b L : Nat} {xs : Nat → Int32} (hX : va_X b L xs s H0) (hbl : b < H0.size) (hbA : ¬ A b) (hS : va_S A H0 H locs) {j : Nat} {v : Int32} (hj : j < L) (hL : L ≤ 2560) (hv : xs j = v) (hdg : decode cc pc = .ok (.iaload, 1))
    (kk : W p l e R s m args below meth c H locs cells slots Q (F0 m (pc + 1) ls (.int v :: rest))) : W p l e R s m args below meth c H locs cells slots Q (F0 m pc ls (.int (nI j) :: .ref b :: rest)) := by
  refine va_sld hexec hb hX hbl hbA hS (vin_n hj hL) hdg ?_
  rw [nI_clamp (by omega), hv]
  exact kk
end SLD

set_option maxRecDepth 100000 in
set_option maxHeartbeats 4000000 in
theorem k_make {p : Program} {e : Env} {s : State} {m : MethodId} {args : Array Value} {below : List Frame} {meth : Method} {c : Code} (l : Launch) (D : va_G) (k : Nat → ClassId) (a r t b : Nat → Nat) (ob : Nat) (sa : Nat → Nat) (A : Nat → Prop) (Q : State → Prop) (sb L : Nat) (xs : Nat → Int32) (hl9 : l.stackTraces = false) (hx : p.tables.exec = Jvm.exec) (hb : c.code = code) (hml : c.maxLocals = 7) (hown : s.vm.findClass "StyleSheetLaw" = some m.cls) (hts : ∀ w ∈ wG, w.before args s = true) (hA : ∀ q, s.heap.size ≤ q → A q) (hK : bK D (tsK k) s) (hE : bEV Sts sa A s s.heap) (hN : lNc s) (hX : va_X sb L xs s s.heap) (hbl : sb < s.heap.size) (hbA : ¬ A sb) (hL : L ≤ 2560) (th kd bs us sth mk dr : Nat → Int32) (M sM : Nat → Nat → Int32) (cd : Int32) (ki ba ow uu te ma va wa : Nat → Int32) (of : Nat → Int64) (hR : RI th kd bs us sth mk M sM ki ba ow uu te ma va) (i : Nat) (hi : i + 4 < L) (cells slots : Nat) (hc : cells + 4 ≤ room_1.cells) (hs : slots + 24 ≤ room_1.slots) (H : Heap) (locs : List Loc) (ls : Array Slot) (hP : va_P D vwCl (((ob, .inl (k 3, 1, .inr (.inl of))) :: cxW k a r t th kd bs us sth mk dr M sM) ++ mdW k b cd ki ba ow uu te ma va wa) H) (hD : va_D A (((ob, .inl (k 3, 1, .inr (.inl of))) :: cxW k a r t th kd bs us sth mk dr M sM) ++ mdW k b cd ki ba ow uu te ma va wa)) (hS : va_S A s.heap H locs) (hl : lv_has ls 7 [(0, .ref sb), (1, .ref (a 0)), (2, .ref (b 0)), (3, .ref ob), (4, .int (nI i))]) (hgo : ∀ (th kd bs us sth mk dr : Nat → Int32) (M sM : Nat → Nat → Int32) (cd : Int32) (ki ba ow uu te ma va wa : Nat → Int32) (of : Nat → Int64) (H : Heap) (locs : List Loc) (ls : Array Slot), RI th kd bs us sth mk M sM ki ba ow uu te ma va → va_P D vwCl (((ob, .inl (k 3, 1, .inr (.inl of))) :: cxW k a r t th kd bs us sth mk dr M sM) ++ mdW k b cd ki ba ow uu te ma va wa) H → va_D A (((ob, .inl (k 3, 1, .inr (.inl of))) :: cxW k a r t th kd bs us sth mk dr M sM) ++ mdW k b cd ki ba ow uu te ma va wa) → va_S A s.heap H locs → lv_has ls 7 [(0, .ref sb), (1, .ref (a 0)), (2, .ref (b 0)), (3, .ref ob), (4, .int (nI i))] → W p l e room_1 s m args below meth c H locs (cells + 4) (slots + 24) Q (F0 m 1234 ls [])) : W p l e room_1 s m args below meth c H locs cells slots Q (F0 m 124 ls []) := by
  obtain ⟨x1, hx1⟩ : ∃ x : Int32, xs (i + 1) = x := ⟨_, rfl⟩
  obtain ⟨x2, hx2⟩ : ∃ x : Int32, xs (i + 2) = x := ⟨_, rfl⟩
  refine lv_aload_n hx hb d_L_law_124 rfl (lv_at hl 1 rfl) ?_
  refine lv_aload_n hx hb d_L_law_125 rfl (lv_at hl 0 rfl) ?_
  refine lv_iload hx hb d_L_law_126 (lv_at hl 4 rfl) ?_
  refine lv_iconst (v := nI 1) hx hb d_L_law_128 (by decide) ?_
  refine lv_iadd hx hb d_L_law_129 ?_
  rw [nI_add]
  refine rw_sld hx hb hX hbl hbA hS (j := (i + 1)) (by omega) hL hx1 d_L_law_130 ?_
  refine lv_aload_n hx hb d_L_law_131 rfl (lv_at hl 0 rfl) ?_
  refine lv_iload hx hb d_L_law_132 (lv_at hl 4 rfl) ?_
  refine lv_iconst (v := nI 2) hx hb d_L_law_134 (by decide) ?_
  refine lv_iadd hx hb d_L_law_135 ?_
  rw [nI_add]
  refine rw_sld hx hb hX hbl hbA hS (j := (i + 2)) (by omega) hL hx2 d_L_law_136 ?_
  refine lv_aload_n hx hb d_L_law_137 rfl (lv_at hl 3 rfl) ?_
  refine cal_i (wc := (ob, .inl (k 3, 1, .inr (.inl of))) :: cxW k a r t th kd bs us sth mk dr M sM) (wr := mdW k b cd ki ba ow uu te ma va wa) (vx_runSW (As := [.ref (a 0), .int x1, .int x2, .ref ob]) (rest := []) ⟨hx, hb, hml, hown, hts⟩ (w_make l D k a r t th kd bs us sth mk dr M sM sa hl9 x1 x2 ob of H.size) (cwH9 4 hts wd_114 wd_112 wd_113 wd_0 (by decide) ⟨Nat.le_of_ble_eq_true rfl, Nat.le_of_ble_eq_true rfl⟩) (prH hE hN hS hA hK hP hD (List.Perm.refl _)) rfl rfl hl.1 rfl (lv_room (Nat.le_of_ble_eq_true rfl)) d_L_law_138 ⟨Nat.le_trans (by omega) hc, Nat.le_trans (by omega) hs⟩) (List.Perm.refl _) hP hD hS hA (fun rv w1 H locs hw hpd hS => ?_)
  rcases hw with ⟨rfl, r9, w9, ⟨hcd, j, hj, hfr, rfl, rfl⟩, rfl⟩ | ⟨hne, rfl, rfl⟩
  · skip
    obtain ⟨hP, hD⟩ := hpd (((ob, .inl (k 3, 1, .inr (.inl (vp_updL of (nI 0).toNatClampNeg ((nI j).toInt64))))) :: cxW k a r t (upd th j (nI 1)) (upd kd j x1) (upd bs j x2) us sth mk dr M sM) ++ mdW k b cd ki ba ow uu te ma va wa) (List.Perm.refl _)
    have hcd0 : cdMk th kd x1 x2 = 0 := hcd
    refine lv_istore (lv' := [(5, .int (nI 0)), (0, .ref sb), (1, .ref (a 0)), (2, .ref (b 0)), (3, .ref ob), (4, .int (nI i))]) hx hb d_L_law_141 hl (by decide) rfl (fun ls hl => ?_)
    refine lv_aload_n hx hb d_L_law_143 rfl (lv_at hl 3 rfl) ?_
    refine lv_aload_n hx hb d_L_law_144 rfl (lv_at hl 1 rfl) ?_
    refine lv_iload hx hb d_L_law_145 (lv_at hl 5 rfl) ?_
    refine lv_iconst (v := nI 1) hx hb d_L_law_147 (by decide) ?_
    refine lv_iadd hx hb d_L_law_148 ?_
    rw [nI_add]
    refine rw_sld hx hb hX hbl hbA hS (j := (i + 1)) (by omega) hL hx1 d_L_law_149 ?_
    refine lv_aload_n hx hb d_L_law_150 rfl (lv_at hl 1 rfl) ?_
    refine lv_iload hx hb d_L_law_151 (lv_at hl 5 rfl) ?_
    refine lv_iconst (v := nI 2) hx hb d_L_law_153 (by decide) ?_
    refine lv_iadd hx hb d_L_law_154 ?_
    rw [nI_add]
    refine rw_sld hx hb hX hbl hbA hS (j := (i + 2)) (by omega) hL hx2 d_L_law_155 ?_
    refine cal_i (wc := mdW k b cd ki ba ow uu te ma va wa) (wr := (ob, .inl (k 3, 1, .inr (.inl (vp_updL of (nI 0).toNatClampNeg ((nI j).toInt64))))) :: cxW k a r t (upd th j (nI 1)) (upd kd j x1) (upd bs j x2) us sth mk dr M sM) (va_runV (As := [.int x1, .int x2]) (rest := []) ⟨hx, hb, hml, hown, hts⟩ (c_Mmake l D k b cd ki ba ow uu te ma va wa th kd bs us sth mk M sM hR x1 x2 H.size) (cwV9 2 hts wd_434 wd_431 wd_432 wd_433 wd_4 (by decide) ⟨Nat.le_of_ble_eq_true rfl, Nat.le_of_ble_eq_true rfl⟩) (prV (q0 := 0) (ci := ciMo) hK hP hD (pm_cm _ _) rfl rfl) rfl rfl hl.1 rfl (lv_room (Nat.le_of_ble_eq_true rfl)) d_L_law_156 ⟨Nat.le_trans (by omega) hc, Nat.le_trans (by omega) hs⟩) (pm_cm _ _) hP hD hS hA (fun rv w1 H locs hw hpd hS => ?_)
    rcases hw with ⟨-, j2, hj2, hfr2, rfl, rfl⟩ | ⟨h, -⟩
    rotate_left
    · exact absurd hcd0 h
    obtain rfl : j = j2 := (nI_eq (by omega) (by omega)).mp (hfr.symm.trans hfr2)
    obtain ⟨hP, hD⟩ := hpd (((ob, .inl (k 3, 1, .inr (.inl (vp_updL of (nI 0).toNatClampNeg ((nI j).toInt64))))) :: cxW k a r t (upd th j (nI 1)) (upd kd j x1) (upd bs j x2) us sth mk dr M sM) ++ mdW k b (nI 0) (upd ki j x1) (upd ba j x2) (rwF ow j (fun _ => -1) 24) uu te ma va wa) (pm_cm _ _)
    refine lv_istore (lv' := [(6, .int (nI j)), (5, .int (nI 0)), (0, .ref sb), (1, .ref (a 0)), (2, .ref (b 0)), (3, .ref ob), (4, .int (nI i))]) hx hb d_L_law_159 hl (by decide) rfl (fun ls hl => ?_)
    refine lv_aload_n hx hb d_L_law_161 rfl (lv_at hl 4 rfl) ?_
    refine cal_i (wc := mdW k b (nI 0) (upd ki j x1) (upd ba j x2) (rwF ow j (fun _ => -1) 24) uu te ma va wa) (wr := (ob, .inl (k 3, 1, .inr (.inl (vp_updL of (nI 0).toNatClampNeg ((nI j).toInt64))))) :: cxW k a r t (upd th j (nI 1)) (upd kd j x1) (upd bs j x2) us sth mk dr M sM) (va_runV (As := []) (rest := []) ⟨hx, hb, hml, hown, hts⟩ (c_Mthrown l D k b (nI 0) (upd ki j x1) (upd ba j x2) (rwF ow j (fun _ => -1) 24) uu te ma va wa H.size) (cwV9 0 hts wd_430 wd_427 wd_428 wd_429 wd_4 (by decide) ⟨Nat.le_of_ble_eq_true rfl, Nat.le_of_ble_eq_true rfl⟩) (prV (q0 := 0) (ci := ciMo) hK hP hD (pm_cm _ _) rfl rfl) rfl rfl hl.1 rfl (lv_room (Nat.le_of_ble_eq_true rfl)) d_L_law_162 ⟨Nat.le_trans (by omega) hc, Nat.le_trans (by omega) hs⟩) (pm_cm _ _) hP hD hS hA (fun rv w1 H locs hw hpd hS => ?_)
    obtain ⟨rfl, rfl⟩ := hw
    obtain ⟨hP, hD⟩ := hpd (((ob, .inl (k 3, 1, .inr (.inl (vp_updL of (nI 0).toNatClampNeg ((nI j).toInt64))))) :: cxW k a r t (upd th j (nI 1)) (upd kd j x1) (upd bs j x2) us sth mk dr M sM) ++ mdW k b (nI 0) (upd ki j x1) (upd ba j x2) (rwF ow j (fun _ => -1) 24) uu te ma va wa) (pm_cm _ _)
    refine lv_iload hx hb d_L_law_165 (lv_at hl 1 rfl) ?_
    refine lv_icmp_eq (tgt := 172) hx hb d_L_law_167 (by decide) (fun c167 => ?_) (fun c167 => ?_)
    · skip
      refine lv_iload hx hb d_L_law_172 (lv_at hl 1 rfl) ?_
      refine lv_if_ne (tgt := 189) hx hb d_L_law_174 (by decide) (fun c174 => ?_) (fun c174 => ?_)
      · skip
        exact absurd (by decide) c174
      · skip
        refine lv_aload_n hx hb d_L_law_177 rfl (lv_at hl 5 rfl) ?_
        refine lv_iconst (v := nI 0) hx hb d_L_law_178 (by decide) ?_
        refine va_lald hx hb hK.1 hP 0 3 rfl rfl vin_0 d_L_law_179 ?_
        rw [show (vp_updL of (nI 0).toNatClampNeg ((nI j).toInt64)) (nI 0).toNatClampNeg = (nI j).toInt64 by simp [vp_updL]]
        refine lv_iload hx hb d_L_law_180 (lv_at hl 0 rfl) ?_
        refine lv_i2l (v := (nI j).toInt64) hx hb d_L_law_182 rfl ?_
        refine W.lcmp hx hb d_L_law_183 ?_
        refine lv_if_eq (tgt := 189) hx hb d_L_law_184 (by decide) (fun c184 => ?_) (fun c184 => ?_)
        · skip
          refine lv_goto (tgt := 1234) hx hb d_L_law_189 (by decide) ?_
          refine W.widen (k := cells + 4) (n := slots + 24) (by omega) (by omega) ?_
          exact hgo (upd th j (nI 1)) (upd kd j x1) (upd bs j x2) us sth mk dr M sM (nI 0) (upd ki j x1) (upd ba j x2) (rwF ow j (fun _ => -1) 24) uu te ma va wa (vp_updL of (nI 0).toNatClampNeg ((nI j).toInt64)) H locs ls (RI_make hR hj hfr (cdMk_0 hcd0).1 (cdMk_0 hcd0).2) hP hD hS (lv_sub hl [2, 3, 4, 5, 6] rfl)
        · skip
          exact absurd (lcm_self _) c184
    · skip
      exact absurd (by decide) c167
  · skip
    obtain ⟨hP, hD⟩ := hpd (((ob, .inl (k 3, 1, .inr (.inl of))) :: cxW k a r t th kd bs us sth mk dr M sM) ++ mdW k b cd ki ba ow uu te ma va wa) (List.Perm.refl _)
    refine lv_istore (lv' := [(5, .int ((nI (cdMk th kd x1 x2)))), (0, .ref sb), (1, .ref (a 0)), (2, .ref (b 0)), (3, .ref ob), (4, .int (nI i))]) hx hb d_L_law_141 hl (by decide) rfl (fun ls hl => ?_)
    refine lv_aload_n hx hb d_L_law_143 rfl (lv_at hl 3 rfl) ?_
    refine lv_aload_n hx hb d_L_law_144 rfl (lv_at hl 1 rfl) ?_
    refine lv_iload hx hb d_L_law_145 (lv_at hl 5 rfl) ?_
    refine lv_iconst (v := nI 1) hx hb d_L_law_147 (by decide) ?_
    refine lv_iadd hx hb d_L_law_148 ?_
    rw [nI_add]
    refine rw_sld hx hb hX hbl hbA hS (j := (i + 1)) (by omega) hL hx1 d_L_law_149 ?_
    refine lv_aload_n hx hb d_L_law_150 rfl (lv_at hl 1 rfl) ?_
    refine lv_iload hx hb d_L_law_151 (lv_at hl 5 rfl) ?_
    refine lv_iconst (v := nI 2) hx hb d_L_law_153 (by decide) ?_
    refine lv_iadd hx hb d_L_law_154 ?_
    rw [nI_add]
    refine rw_sld hx hb hX hbl hbA hS (j := (i + 2)) (by omega) hL hx2 d_L_law_155 ?_
    refine cal_i (wc := mdW k b cd ki ba ow uu te ma va wa) (wr := (ob, .inl (k 3, 1, .inr (.inl of))) :: cxW k a r t th kd bs us sth mk dr M sM) (va_runV (As := [.int x1, .int x2]) (rest := []) ⟨hx, hb, hml, hown, hts⟩ (c_Mmake l D k b cd ki ba ow uu te ma va wa th kd bs us sth mk M sM hR x1 x2 H.size) (cwV9 2 hts wd_434 wd_431 wd_432 wd_433 wd_4 (by decide) ⟨Nat.le_of_ble_eq_true rfl, Nat.le_of_ble_eq_true rfl⟩) (prV (q0 := 0) (ci := ciMo) hK hP hD (pm_cm _ _) rfl rfl) rfl rfl hl.1 rfl (lv_room (Nat.le_of_ble_eq_true rfl)) d_L_law_156 ⟨Nat.le_trans (by omega) hc, Nat.le_trans (by omega) hs⟩) (pm_cm _ _) hP hD hS hA (fun rv w1 H locs hw hpd hS => ?_)
    rcases hw with ⟨h, -⟩ | ⟨-, rfl⟩
    · exact absurd h hne
    obtain ⟨hP, hD⟩ := hpd (((ob, .inl (k 3, 1, .inr (.inl of))) :: cxW k a r t th kd bs us sth mk dr M sM) ++ mdW k b ((nI (cdMk th kd x1 x2))) ki ba ow uu te ma va wa) (pm_cm _ _)
    refine lv_istore (lv' := [(6, .int rv), (5, .int ((nI (cdMk th kd x1 x2)))), (0, .ref sb), (1, .ref (a 0)), (2, .ref (b 0)), (3, .ref ob), (4, .int (nI i))]) hx hb d_L_law_159 hl (by decide) rfl (fun ls hl => ?_)
    refine lv_aload_n hx hb d_L_law_161 rfl (lv_at hl 4 rfl) ?_
    refine cal_i (wc := mdW k b ((nI (cdMk th kd x1 x2))) ki ba ow uu te ma va wa) (wr := (ob, .inl (k 3, 1, .inr (.inl of))) :: cxW k a r t th kd bs us sth mk dr M sM) (va_runV (As := []) (rest := []) ⟨hx, hb, hml, hown, hts⟩ (c_Mthrown l D k b ((nI (cdMk th kd x1 x2))) ki ba ow uu te ma va wa H.size) (cwV9 0 hts wd_430 wd_427 wd_428 wd_429 wd_4 (by decide) ⟨Nat.le_of_ble_eq_true rfl, Nat.le_of_ble_eq_true rfl⟩) (prV (q0 := 0) (ci := ciMo) hK hP hD (pm_cm _ _) rfl rfl) rfl rfl hl.1 rfl (lv_room (Nat.le_of_ble_eq_true rfl)) d_L_law_162 ⟨Nat.le_trans (by omega) hc, Nat.le_trans (by omega) hs⟩) (pm_cm _ _) hP hD hS hA (fun rv w1 H locs hw hpd hS => ?_)
    obtain ⟨rfl, rfl⟩ := hw
    obtain ⟨hP, hD⟩ := hpd (((ob, .inl (k 3, 1, .inr (.inl of))) :: cxW k a r t th kd bs us sth mk dr M sM) ++ mdW k b ((nI (cdMk th kd x1 x2))) ki ba ow uu te ma va wa) (pm_cm _ _)
    refine lv_iload hx hb d_L_law_165 (lv_at hl 1 rfl) ?_
    refine lv_icmp_eq (tgt := 172) hx hb d_L_law_167 (by decide) (fun c167 => ?_) (fun c167 => ?_)
    · skip
      refine lv_iload hx hb d_L_law_172 (lv_at hl 1 rfl) ?_
      refine lv_if_ne (tgt := 189) hx hb d_L_law_174 (by decide) (fun c174 => ?_) (fun c174 => ?_)
      · skip
        refine lv_goto (tgt := 1234) hx hb d_L_law_189 (by decide) ?_
        refine W.widen (k := cells + 4) (n := slots + 24) (by omega) (by omega) ?_
        exact hgo th kd bs us sth mk dr M sM ((nI (cdMk th kd x1 x2))) ki ba ow uu te ma va wa of H locs ls hR hP hD hS (lv_sub hl [2, 3, 4, 5, 6] rfl)
      · skip
        exact absurd c174 (nz_of hne lt_cdMk)
    · skip
      exact absurd rfl c167

set_option maxRecDepth 100000 in
set_option maxHeartbeats 4000000 in
theorem k_drop {p : Program} {e : Env} {s : State} {m : MethodId} {args : Array Value} {below : List Frame} {meth : Method} {c : Code} (l : Launch) (D : va_G) (k : Nat → ClassId) (a r t b : Nat → Nat) (ob : Nat) (sa : Nat → Nat) (A : Nat → Prop) (Q : State → Prop) (sb L : Nat) (xs : Nat → Int32) (hl9 : l.stackTraces = false) (hx : p.tables.exec = Jvm.exec) (hb : c.code = code) (hml : c.maxLocals = 7) (hown : s.vm.findClass "StyleSheetLaw" = some m.cls) (hts : ∀ w ∈ wG, w.before args s = true) (hA : ∀ q, s.heap.size ≤ q → A q) (hK : bK D (tsK k) s) (hE : bEV Sts sa A s s.heap) (hN : lNc s) (hX : va_X sb L xs s s.heap) (hbl : sb < s.heap.size) (hbA : ¬ A sb) (hL : L ≤ 2560) (th kd bs us sth mk dr : Nat → Int32) (M sM : Nat → Nat → Int32) (cd : Int32) (ki ba ow uu te ma va wa : Nat → Int32) (of : Nat → Int64) (hR : RI th kd bs us sth mk M sM ki ba ow uu te ma va) (i : Nat) (hi : i + 4 < L) (cells slots : Nat) (hc : cells + 4 ≤ room_1.cells) (hs : slots + 24 ≤ room_1.slots) (H : Heap) (locs : List Loc) (ls : Array Slot) (hP : va_P D vwCl (((ob, .inl (k 3, 1, .inr (.inl of))) :: cxW k a r t th kd bs us sth mk dr M sM) ++ mdW k b cd ki ba ow uu te ma va wa) H) (hD : va_D A (((ob, .inl (k 3, 1, .inr (.inl of))) :: cxW k a r t th kd bs us sth mk dr M sM) ++ mdW k b cd ki ba ow uu te ma va wa)) (hS : va_S A s.heap H locs) (hl : lv_has ls 7 [(0, .ref sb), (1, .ref (a 0)), (2, .ref (b 0)), (3, .ref ob), (4, .int (nI i))]) (hgo : ∀ (th kd bs us sth mk dr : Nat → Int32) (M sM : Nat → Nat → Int32) (cd : Int32) (ki ba ow uu te ma va wa : Nat → Int32) (of : Nat → Int64) (H : Heap) (locs : List Loc) (ls : Array Slot), RI th kd bs us sth mk M sM ki ba ow uu te ma va → va_P D vwCl (((ob, .inl (k 3, 1, .inr (.inl of))) :: cxW k a r t th kd bs us sth mk dr M sM) ++ mdW k b cd ki ba ow uu te ma va wa) H → va_D A (((ob, .inl (k 3, 1, .inr (.inl of))) :: cxW k a r t th kd bs us sth mk dr M sM) ++ mdW k b cd ki ba ow uu te ma va wa) → va_S A s.heap H locs → lv_has ls 7 [(0, .ref sb), (1, .ref (a 0)), (2, .ref (b 0)), (3, .ref ob), (4, .int (nI i))] → W p l e room_1 s m args below meth c H locs (cells + 4) (slots + 24) Q (F0 m 1234 ls [])) : W p l e room_1 s m args below meth c H locs cells slots Q (F0 m 192 ls []) := by
  obtain ⟨x1, hx1⟩ : ∃ x : Int32, xs (i + 1) = x := ⟨_, rfl⟩
  refine lv_aload_n hx hb d_L_law_192 rfl (lv_at hl 1 rfl) ?_
  refine lv_aload_n hx hb d_L_law_193 rfl (lv_at hl 0 rfl) ?_
  refine lv_iload hx hb d_L_law_194 (lv_at hl 4 rfl) ?_
  refine lv_iconst (v := nI 1) hx hb d_L_law_196 (by decide) ?_
  refine lv_iadd hx hb d_L_law_197 ?_
  rw [nI_add]
  refine rw_sld hx hb hX hbl hbA hS (j := (i + 1)) (by omega) hL hx1 d_L_law_198 ?_
  refine lv_aload_n hx hb d_L_law_199 rfl (lv_at hl 3 rfl) ?_
  refine cal_i (wc := (ob, .inl (k 3, 1, .inr (.inl of))) :: cxW k a r t th kd bs us sth mk dr M sM) (wr := mdW k b cd ki ba ow uu te ma va wa) (vx_runSW (As := [.ref (a 0), .int x1, .ref ob]) (rest := []) ⟨hx, hb, hml, hown, hts⟩ (w_drop l D k a r t th kd bs us sth mk dr M sM sa hl9 x1 ob of H.size) (cwH9 3 hts wd_216 wd_214 wd_215 wd_0 (by decide) ⟨Nat.le_of_ble_eq_true rfl, Nat.le_of_ble_eq_true rfl⟩) (prH hE hN hS hA hK hP hD (List.Perm.refl _)) rfl rfl hl.1 rfl (lv_room (Nat.le_of_ble_eq_true rfl)) d_L_law_200 ⟨Nat.le_trans (by omega) hc, Nat.le_trans (by omega) hs⟩) (List.Perm.refl _) hP hD hS hA (fun rv w1 H locs hw hpd hS => ?_)
  rcases hw with ⟨rfl, r9, w9, ⟨s0, hs0, rfl, hq, rfl, rfl⟩, rfl⟩ | ⟨hne, rfl, rfl⟩
  · skip
    obtain ⟨hP, hD⟩ := hpd (((ob, .inl (k 3, 1, .inr (.inl (vp_updL of (nI 0).toNatClampNeg ((nI (cnF (dnB th s0 bs) 64)).toInt64))))) :: cxW k a r t (upd th s0 (nI 0)) kd (dbF th s0 bs 64) us sth mk dr (va_up M s0 (fun _ => -1)) sM) ++ mdW k b cd ki ba ow uu te ma va wa) (List.Perm.refl _)
    have hcd0 : cdDr th (nI s0) = 0 := by simp [cdDr, hq]
    refine lv_istore (lv' := [(5, .int (nI 0)), (0, .ref sb), (1, .ref (a 0)), (2, .ref (b 0)), (3, .ref ob), (4, .int (nI i))]) hx hb d_L_law_203 hl (by decide) rfl (fun ls hl => ?_)
    refine lv_aload_n hx hb d_L_law_205 rfl (lv_at hl 3 rfl) ?_
    refine lv_aload_n hx hb d_L_law_206 rfl (lv_at hl 1 rfl) ?_
    refine lv_iload hx hb d_L_law_207 (lv_at hl 5 rfl) ?_
    refine lv_iconst (v := nI 1) hx hb d_L_law_209 (by decide) ?_
    refine lv_iadd hx hb d_L_law_210 ?_
    rw [nI_add]
    refine rw_sld hx hb hX hbl hbA hS (j := (i + 1)) (by omega) hL hx1 d_L_law_211 ?_
    refine cal_i (wc := mdW k b cd ki ba ow uu te ma va wa) (wr := (ob, .inl (k 3, 1, .inr (.inl (vp_updL of (nI 0).toNatClampNeg ((nI (cnF (dnB th s0 bs) 64)).toInt64))))) :: cxW k a r t (upd th s0 (nI 0)) kd (dbF th s0 bs 64) us sth mk dr (va_up M s0 (fun _ => -1)) sM) (va_runV (As := [.int (nI s0)]) (rest := []) ⟨hx, hb, hml, hown, hts⟩ (c_Mdrop l D k b cd ki ba ow uu te ma va wa th kd bs us sth mk M sM hR (nI s0) H.size) (cwV9 1 hts wd_449 wd_446 wd_447 wd_448 wd_4 (by decide) ⟨Nat.le_of_ble_eq_true rfl, Nat.le_of_ble_eq_true rfl⟩) (prV (q0 := 0) (ci := ciMo) hK hP hD (pm_cm _ _) rfl rfl) rfl rfl hl.1 rfl (lv_room (Nat.le_of_ble_eq_true rfl)) d_L_law_212 ⟨Nat.le_trans (by omega) hc, Nat.le_trans (by omega) hs⟩) (pm_cm _ _) hP hD hS hA (fun rv w1 H locs hw hpd hS => ?_)
    rw [nI_clamp (show s0 < 2 ^ 31 by omega), drop_cn hR hs0 (hs_th (by decide) hs0 hq)] at hw
    obtain ⟨rfl, rfl⟩ := hw.1 hcd0
    obtain ⟨hP, hD⟩ := hpd (((ob, .inl (k 3, 1, .inr (.inl (vp_updL of (nI 0).toNatClampNeg ((nI (cnF (dnB th s0 bs) 64)).toInt64))))) :: cxW k a r t (upd th s0 (nI 0)) kd (dbF th s0 bs 64) us sth mk dr (va_up M s0 (fun _ => -1)) sM) ++ mdW k b (nI 0) (upd ki s0 (-1)) (dbF th s0 ba 64) ow uu te ma va wa) (pm_cm _ _)
    refine lv_istore (lv' := [(6, .int (nI (cnF (dnB th s0 bs) 64))), (5, .int (nI 0)), (0, .ref sb), (1, .ref (a 0)), (2, .ref (b 0)), (3, .ref ob), (4, .int (nI i))]) hx hb d_L_law_215 hl (by decide) rfl (fun ls hl => ?_)
    refine lv_aload_n hx hb d_L_law_217 rfl (lv_at hl 4 rfl) ?_
    refine cal_i (wc := mdW k b (nI 0) (upd ki s0 (-1)) (dbF th s0 ba 64) ow uu te ma va wa) (wr := (ob, .inl (k 3, 1, .inr (.inl (vp_updL of (nI 0).toNatClampNeg ((nI (cnF (dnB th s0 bs) 64)).toInt64))))) :: cxW k a r t (upd th s0 (nI 0)) kd (dbF th s0 bs 64) us sth mk dr (va_up M s0 (fun _ => -1)) sM) (va_runV (As := []) (rest := []) ⟨hx, hb, hml, hown, hts⟩ (c_Mthrown l D k b (nI 0) (upd ki s0 (-1)) (dbF th s0 ba 64) ow uu te ma va wa H.size) (cwV9 0 hts wd_430 wd_427 wd_428 wd_429 wd_4 (by decide) ⟨Nat.le_of_ble_eq_true rfl, Nat.le_of_ble_eq_true rfl⟩) (prV (q0 := 0) (ci := ciMo) hK hP hD (pm_cm _ _) rfl rfl) rfl rfl hl.1 rfl (lv_room (Nat.le_of_ble_eq_true rfl)) d_L_law_218 ⟨Nat.le_trans (by omega) hc, Nat.le_trans (by omega) hs⟩) (pm_cm _ _) hP hD hS hA (fun rv w1 H locs hw hpd hS => ?_)
    obtain ⟨rfl, rfl⟩ := hw
    obtain ⟨hP, hD⟩ := hpd (((ob, .inl (k 3, 1, .inr (.inl (vp_updL of (nI 0).toNatClampNeg ((nI (cnF (dnB th s0 bs) 64)).toInt64))))) :: cxW k a r t (upd th s0 (nI 0)) kd (dbF th s0 bs 64) us sth mk dr (va_up M s0 (fun _ => -1)) sM) ++ mdW k b (nI 0) (upd ki s0 (-1)) (dbF th s0 ba 64) ow uu te ma va wa) (pm_cm _ _)
    refine lv_iload hx hb d_L_law_221 (lv_at hl 1 rfl) ?_
    refine lv_icmp_eq (tgt := 228) hx hb d_L_law_223 (by decide) (fun c223 => ?_) (fun c223 => ?_)
    · skip
      refine lv_iload hx hb d_L_law_228 (lv_at hl 1 rfl) ?_
      refine lv_if_ne (tgt := 245) hx hb d_L_law_230 (by decide) (fun c230 => ?_) (fun c230 => ?_)
      · skip
        exact absurd (by decide) c230
      · skip
        refine lv_aload_n hx hb d_L_law_233 rfl (lv_at hl 5 rfl) ?_
        refine lv_iconst (v := nI 0) hx hb d_L_law_234 (by decide) ?_
        refine va_lald hx hb hK.1 hP 0 3 rfl rfl vin_0 d_L_law_235 ?_
        rw [show (vp_updL of (nI 0).toNatClampNeg ((nI (cnF (dnB th s0 bs) 64)).toInt64)) (nI 0).toNatClampNeg = (nI (cnF (dnB th s0 bs) 64)).toInt64 by simp [vp_updL]]
        refine lv_iload hx hb d_L_law_236 (lv_at hl 0 rfl) ?_
        refine lv_i2l (v := (nI (cnF (dnB th s0 bs) 64)).toInt64) hx hb d_L_law_238 rfl ?_
        refine W.lcmp hx hb d_L_law_239 ?_
        refine lv_if_eq (tgt := 245) hx hb d_L_law_240 (by decide) (fun c240 => ?_) (fun c240 => ?_)
        · skip
          refine lv_goto (tgt := 1234) hx hb d_L_law_245 (by decide) ?_
          refine W.widen (k := cells + 4) (n := slots + 24) (by omega) (by omega) ?_
          exact hgo (upd th s0 (nI 0)) kd (dbF th s0 bs 64) us sth mk dr (va_up M s0 (fun _ => -1)) sM (nI 0) (upd ki s0 (-1)) (dbF th s0 ba 64) ow uu te ma va wa (vp_updL of (nI 0).toNatClampNeg ((nI (cnF (dnB th s0 bs) 64)).toInt64)) H locs ls (RI_drop hR hs0 (hs_th (by decide) hs0 hq)) hP hD hS (lv_sub hl [2, 3, 4, 5, 6] rfl)
        · skip
          exact absurd (lcm_self _) c240
    · skip
      exact absurd (by decide) c223
  · skip
    obtain ⟨hP, hD⟩ := hpd (((ob, .inl (k 3, 1, .inr (.inl of))) :: cxW k a r t th kd bs us sth mk dr M sM) ++ mdW k b cd ki ba ow uu te ma va wa) (List.Perm.refl _)
    refine lv_istore (lv' := [(5, .int ((nI (cdDr th x1)))), (0, .ref sb), (1, .ref (a 0)), (2, .ref (b 0)), (3, .ref ob), (4, .int (nI i))]) hx hb d_L_law_203 hl (by decide) rfl (fun ls hl => ?_)
    refine lv_aload_n hx hb d_L_law_205 rfl (lv_at hl 3 rfl) ?_
    refine lv_aload_n hx hb d_L_law_206 rfl (lv_at hl 1 rfl) ?_
    refine lv_iload hx hb d_L_law_207 (lv_at hl 5 rfl) ?_
    refine lv_iconst (v := nI 1) hx hb d_L_law_209 (by decide) ?_
    refine lv_iadd hx hb d_L_law_210 ?_
    rw [nI_add]
    refine rw_sld hx hb hX hbl hbA hS (j := (i + 1)) (by omega) hL hx1 d_L_law_211 ?_
    refine cal_i (wc := mdW k b cd ki ba ow uu te ma va wa) (wr := (ob, .inl (k 3, 1, .inr (.inl of))) :: cxW k a r t th kd bs us sth mk dr M sM) (va_runV (As := [.int x1]) (rest := []) ⟨hx, hb, hml, hown, hts⟩ (c_Mdrop l D k b cd ki ba ow uu te ma va wa th kd bs us sth mk M sM hR x1 H.size) (cwV9 1 hts wd_449 wd_446 wd_447 wd_448 wd_4 (by decide) ⟨Nat.le_of_ble_eq_true rfl, Nat.le_of_ble_eq_true rfl⟩) (prV (q0 := 0) (ci := ciMo) hK hP hD (pm_cm _ _) rfl rfl) rfl rfl hl.1 rfl (lv_room (Nat.le_of_ble_eq_true rfl)) d_L_law_212 ⟨Nat.le_trans (by omega) hc, Nat.le_trans (by omega) hs⟩) (pm_cm _ _) hP hD hS hA (fun rv w1 H locs hw hpd hS => ?_)
    obtain rfl := hw.2 hne
    obtain ⟨hP, hD⟩ := hpd (((ob, .inl (k 3, 1, .inr (.inl of))) :: cxW k a r t th kd bs us sth mk dr M sM) ++ mdW k b ((nI (cdDr th x1))) ki ba ow uu te ma va wa) (pm_cm _ _)
    refine lv_istore (lv' := [(6, .int rv), (5, .int ((nI (cdDr th x1)))), (0, .ref sb), (1, .ref (a 0)), (2, .ref (b 0)), (3, .ref ob), (4, .int (nI i))]) hx hb d_L_law_215 hl (by decide) rfl (fun ls hl => ?_)
    refine lv_aload_n hx hb d_L_law_217 rfl (lv_at hl 4 rfl) ?_
    refine cal_i (wc := mdW k b ((nI (cdDr th x1))) ki ba ow uu te ma va wa) (wr := (ob, .inl (k 3, 1, .inr (.inl of))) :: cxW k a r t th kd bs us sth mk dr M sM) (va_runV (As := []) (rest := []) ⟨hx, hb, hml, hown, hts⟩ (c_Mthrown l D k b ((nI (cdDr th x1))) ki ba ow uu te ma va wa H.size) (cwV9 0 hts wd_430 wd_427 wd_428 wd_429 wd_4 (by decide) ⟨Nat.le_of_ble_eq_true rfl, Nat.le_of_ble_eq_true rfl⟩) (prV (q0 := 0) (ci := ciMo) hK hP hD (pm_cm _ _) rfl rfl) rfl rfl hl.1 rfl (lv_room (Nat.le_of_ble_eq_true rfl)) d_L_law_218 ⟨Nat.le_trans (by omega) hc, Nat.le_trans (by omega) hs⟩) (pm_cm _ _) hP hD hS hA (fun rv w1 H locs hw hpd hS => ?_)
    obtain ⟨rfl, rfl⟩ := hw
    obtain ⟨hP, hD⟩ := hpd (((ob, .inl (k 3, 1, .inr (.inl of))) :: cxW k a r t th kd bs us sth mk dr M sM) ++ mdW k b ((nI (cdDr th x1))) ki ba ow uu te ma va wa) (pm_cm _ _)
    refine lv_iload hx hb d_L_law_221 (lv_at hl 1 rfl) ?_
    refine lv_icmp_eq (tgt := 228) hx hb d_L_law_223 (by decide) (fun c223 => ?_) (fun c223 => ?_)
    · skip
      refine lv_iload hx hb d_L_law_228 (lv_at hl 1 rfl) ?_
      refine lv_if_ne (tgt := 245) hx hb d_L_law_230 (by decide) (fun c230 => ?_) (fun c230 => ?_)
      · skip
        refine lv_goto (tgt := 1234) hx hb d_L_law_245 (by decide) ?_
        refine W.widen (k := cells + 4) (n := slots + 24) (by omega) (by omega) ?_
        exact hgo th kd bs us sth mk dr M sM ((nI (cdDr th x1))) ki ba ow uu te ma va wa of H locs ls hR hP hD hS (lv_sub hl [2, 3, 4, 5, 6] rfl)
      · skip
        exact absurd c230 (nz_of hne lt_cdDr)
    · skip
      exact absurd rfl c223

set_option maxRecDepth 100000 in
set_option maxHeartbeats 4000000 in
theorem k_rebase {p : Program} {e : Env} {s : State} {m : MethodId} {args : Array Value} {below : List Frame} {meth : Method} {c : Code} (l : Launch) (D : va_G) (k : Nat → ClassId) (a r t b : Nat → Nat) (ob : Nat) (sa : Nat → Nat) (A : Nat → Prop) (Q : State → Prop) (sb L : Nat) (xs : Nat → Int32) (hl9 : l.stackTraces = false) (hx : p.tables.exec = Jvm.exec) (hb : c.code = code) (hml : c.maxLocals = 7) (hown : s.vm.findClass "StyleSheetLaw" = some m.cls) (hts : ∀ w ∈ wG, w.before args s = true) (hA : ∀ q, s.heap.size ≤ q → A q) (hK : bK D (tsK k) s) (hE : bEV Sts sa A s s.heap) (hN : lNc s) (hX : va_X sb L xs s s.heap) (hbl : sb < s.heap.size) (hbA : ¬ A sb) (hL : L ≤ 2560) (th kd bs us sth mk dr : Nat → Int32) (M sM : Nat → Nat → Int32) (cd : Int32) (ki ba ow uu te ma va wa : Nat → Int32) (of : Nat → Int64) (hR : RI th kd bs us sth mk M sM ki ba ow uu te ma va) (i : Nat) (hi : i + 4 < L) (cells slots : Nat) (hc : cells + 4 ≤ room_1.cells) (hs : slots + 24 ≤ room_1.slots) (H : Heap) (locs : List Loc) (ls : Array Slot) (hP : va_P D vwCl (((ob, .inl (k 3, 1, .inr (.inl of))) :: cxW k a r t th kd bs us sth mk dr M sM) ++ mdW k b cd ki ba ow uu te ma va wa) H) (hD : va_D A (((ob, .inl (k 3, 1, .inr (.inl of))) :: cxW k a r t th kd bs us sth mk dr M sM) ++ mdW k b cd ki ba ow uu te ma va wa)) (hS : va_S A s.heap H locs) (hl : lv_has ls 7 [(0, .ref sb), (1, .ref (a 0)), (2, .ref (b 0)), (3, .ref ob), (4, .int (nI i))]) (hgo : ∀ (th kd bs us sth mk dr : Nat → Int32) (M sM : Nat → Nat → Int32) (cd : Int32) (ki ba ow uu te ma va wa : Nat → Int32) (of : Nat → Int64) (H : Heap) (locs : List Loc) (ls : Array Slot), RI th kd bs us sth mk M sM ki ba ow uu te ma va → va_P D vwCl (((ob, .inl (k 3, 1, .inr (.inl of))) :: cxW k a r t th kd bs us sth mk dr M sM) ++ mdW k b cd ki ba ow uu te ma va wa) H → va_D A (((ob, .inl (k 3, 1, .inr (.inl of))) :: cxW k a r t th kd bs us sth mk dr M sM) ++ mdW k b cd ki ba ow uu te ma va wa) → va_S A s.heap H locs → lv_has ls 7 [(0, .ref sb), (1, .ref (a 0)), (2, .ref (b 0)), (3, .ref ob), (4, .int (nI i))] → W p l e room_1 s m args below meth c H locs (cells + 4) (slots + 24) Q (F0 m 1234 ls [])) : W p l e room_1 s m args below meth c H locs cells slots Q (F0 m 248 ls []) := by
  obtain ⟨x1, hx1⟩ : ∃ x : Int32, xs (i + 1) = x := ⟨_, rfl⟩
  obtain ⟨x2, hx2⟩ : ∃ x : Int32, xs (i + 2) = x := ⟨_, rfl⟩
  refine lv_aload_n hx hb d_L_law_248 rfl (lv_at hl 1 rfl) ?_
  refine lv_aload_n hx hb d_L_law_249 rfl (lv_at hl 0 rfl) ?_
  refine lv_iload hx hb d_L_law_250 (lv_at hl 4 rfl) ?_
  refine lv_iconst (v := nI 1) hx hb d_L_law_252 (by decide) ?_
  refine lv_iadd hx hb d_L_law_253 ?_
  rw [nI_add]
  refine rw_sld hx hb hX hbl hbA hS (j := (i + 1)) (by omega) hL hx1 d_L_law_254 ?_
  refine lv_aload_n hx hb d_L_law_255 rfl (lv_at hl 0 rfl) ?_
  refine lv_iload hx hb d_L_law_256 (lv_at hl 4 rfl) ?_
  refine lv_iconst (v := nI 2) hx hb d_L_law_258 (by decide) ?_
  refine lv_iadd hx hb d_L_law_259 ?_
  rw [nI_add]
  refine rw_sld hx hb hX hbl hbA hS (j := (i + 2)) (by omega) hL hx2 d_L_law_260 ?_
  refine lv_aload_n hx hb d_L_law_261 rfl (lv_at hl 3 rfl) ?_
  refine cal_i (wc := (ob, .inl (k 3, 1, .inr (.inl of))) :: cxW k a r t th kd bs us sth mk dr M sM) (wr := mdW k b cd ki ba ow uu te ma va wa) (vx_runSW (As := [.ref (a 0), .int x1, .int x2, .ref ob]) (rest := []) ⟨hx, hb, hml, hown, hts⟩ (w_rebase l D k a r t th kd bs us sth mk dr M sM sa hl9 x1 x2 ob of H.size) (cwH9 4 hts wd_244 wd_242 wd_243 wd_0 (by decide) ⟨Nat.le_of_ble_eq_true rfl, Nat.le_of_ble_eq_true rfl⟩) (prH hE hN hS hA hK hP hD (List.Perm.refl _)) rfl rfl hl.1 rfl (lv_room (Nat.le_of_ble_eq_true rfl)) d_L_law_262 ⟨Nat.le_trans (by omega) hc, Nat.le_trans (by omega) hs⟩) (List.Perm.refl _) hP hD hS hA (fun rv w1 H locs hw hpd hS => ?_)
  rcases hw with ⟨rfl, r9, w9, ⟨s0, hs0, rfl, hq, ho, ⟨hoc, rfl, rfl⟩ | ⟨hoc, rfl, rfl⟩⟩, rfl⟩ | ⟨hne, rfl, rfl⟩
  · skip
    obtain ⟨hP, hD⟩ := hpd (((ob, .inl (k 3, 1, .inr (.inl (vp_updL of (nI 0).toNatClampNeg (if nI 0 = 0 then 0 else 1))))) :: cxW k a r t th kd bs us sth mk dr M sM) ++ mdW k b cd ki ba ow uu te ma va wa) (List.Perm.refl _)
    have hcd0 : cdRb th kd (nI s0) x2 = 0 := by simp [cdRb, hq, nI_clamp (show s0 < 2 ^ 31 by omega), ho]
    refine lv_istore (lv' := [(5, .int (nI 0)), (0, .ref sb), (1, .ref (a 0)), (2, .ref (b 0)), (3, .ref ob), (4, .int (nI i))]) hx hb d_L_law_265 hl (by decide) rfl (fun ls hl => ?_)
    refine lv_aload_n hx hb d_L_law_267 rfl (lv_at hl 3 rfl) ?_
    refine lv_aload_n hx hb d_L_law_268 rfl (lv_at hl 1 rfl) ?_
    refine lv_iload hx hb d_L_law_269 (lv_at hl 5 rfl) ?_
    refine lv_iconst (v := nI 1) hx hb d_L_law_271 (by decide) ?_
    refine lv_iadd hx hb d_L_law_272 ?_
    rw [nI_add]
    refine rw_sld hx hb hX hbl hbA hS (j := (i + 1)) (by omega) hL hx1 d_L_law_273 ?_
    refine lv_aload_n hx hb d_L_law_274 rfl (lv_at hl 1 rfl) ?_
    refine lv_iload hx hb d_L_law_275 (lv_at hl 5 rfl) ?_
    refine lv_iconst (v := nI 2) hx hb d_L_law_277 (by decide) ?_
    refine lv_iadd hx hb d_L_law_278 ?_
    rw [nI_add]
    refine rw_sld hx hb hX hbl hbA hS (j := (i + 2)) (by omega) hL hx2 d_L_law_279 ?_
    refine cal_i (wc := mdW k b cd ki ba ow uu te ma va wa) (wr := (ob, .inl (k 3, 1, .inr (.inl (vp_updL of (nI 0).toNatClampNeg (if nI 0 = 0 then 0 else 1))))) :: cxW k a r t th kd bs us sth mk dr M sM) (va_runV (As := [.int (nI s0), .int x2]) (rest := []) ⟨hx, hb, hml, hown, hts⟩ (c_Mrebase l D k b cd ki ba ow uu te ma va wa th kd bs us sth mk M sM hR (nI s0) x2 H.size) (cwV9 2 hts wd_453 wd_450 wd_451 wd_452 wd_4 (by decide) ⟨Nat.le_of_ble_eq_true rfl, Nat.le_of_ble_eq_true rfl⟩) (prV (q0 := 0) (ci := ciMo) hK hP hD (pm_cm _ _) rfl rfl) rfl rfl hl.1 rfl (lv_room (Nat.le_of_ble_eq_true rfl)) d_L_law_280 ⟨Nat.le_trans (by omega) hc, Nat.le_trans (by omega) hs⟩) (pm_cm _ _) hP hD hS hA (fun rv w1 H locs hw hpd hS => ?_)
    rw [nI_clamp (show s0 < 2 ^ 31 by omega)] at hw
    rcases hw with ⟨-, ⟨ho2, rfl, rfl⟩ | ⟨ho2, rfl, rfl⟩⟩ | ⟨h, -, -⟩
    rotate_left
    · rw [hoc] at ho2; cases ho2
    · exact absurd hcd0 h
    obtain ⟨hP, hD⟩ := hpd (((ob, .inl (k 3, 1, .inr (.inl (vp_updL of (nI 0).toNatClampNeg (if nI 0 = 0 then 0 else 1))))) :: cxW k a r t th kd bs us sth mk dr M sM) ++ mdW k b (nI 0) ki ba ow uu te ma va wa) (pm_cm _ _)
    refine lv_istore (lv' := [(6, .int (nI 0)), (5, .int (nI 0)), (0, .ref sb), (1, .ref (a 0)), (2, .ref (b 0)), (3, .ref ob), (4, .int (nI i))]) hx hb d_L_law_283 hl (by decide) rfl (fun ls hl => ?_)
    refine lv_aload_n hx hb d_L_law_285 rfl (lv_at hl 4 rfl) ?_
    refine cal_i (wc := mdW k b (nI 0) ki ba ow uu te ma va wa) (wr := (ob, .inl (k 3, 1, .inr (.inl (vp_updL of (nI 0).toNatClampNeg (if nI 0 = 0 then 0 else 1))))) :: cxW k a r t th kd bs us sth mk dr M sM) (va_runV (As := []) (rest := []) ⟨hx, hb, hml, hown, hts⟩ (c_Mthrown l D k b (nI 0) ki ba ow uu te ma va wa H.size) (cwV9 0 hts wd_430 wd_427 wd_428 wd_429 wd_4 (by decide) ⟨Nat.le_of_ble_eq_true rfl, Nat.le_of_ble_eq_true rfl⟩) (prV (q0 := 0) (ci := ciMo) hK hP hD (pm_cm _ _) rfl rfl) rfl rfl hl.1 rfl (lv_room (Nat.le_of_ble_eq_true rfl)) d_L_law_286 ⟨Nat.le_trans (by omega) hc, Nat.le_trans (by omega) hs⟩) (pm_cm _ _) hP hD hS hA (fun rv w1 H locs hw hpd hS => ?_)
    obtain ⟨rfl, rfl⟩ := hw
    obtain ⟨hP, hD⟩ := hpd (((ob, .inl (k 3, 1, .inr (.inl (vp_updL of (nI 0).toNatClampNeg (if nI 0 = 0 then 0 else 1))))) :: cxW k a r t th kd bs us sth mk dr M sM) ++ mdW k b (nI 0) ki ba ow uu te ma va wa) (pm_cm _ _)
    refine lv_iload hx hb d_L_law_289 (lv_at hl 1 rfl) ?_
    refine lv_icmp_eq (tgt := 296) hx hb d_L_law_291 (by decide) (fun c291 => ?_) (fun c291 => ?_)
    · skip
      refine lv_iload hx hb d_L_law_296 (lv_at hl 1 rfl) ?_
      refine lv_if_ne (tgt := 320) hx hb d_L_law_298 (by decide) (fun c298 => ?_) (fun c298 => ?_)
      · skip
        exact absurd (by decide) c298
      · skip
        refine lv_aload_n hx hb d_L_law_301 rfl (lv_at hl 5 rfl) ?_
        refine lv_iconst (v := nI 0) hx hb d_L_law_302 (by decide) ?_
        refine va_lald hx hb hK.1 hP 0 3 rfl rfl vin_0 d_L_law_303 ?_
        rw [show (vp_updL of (nI 0).toNatClampNeg (if nI 0 = 0 then 0 else 1)) (nI 0).toNatClampNeg = 0 from by unfold vp_updL; rw [if_pos rfl]; exact if_pos (by decide)]
        refine lv_iload hx hb d_L_law_304 (lv_at hl 0 rfl) ?_
        refine lv_if_eq (tgt := 313) hx hb d_L_law_306 (by decide) (fun c306 => ?_) (fun c306 => ?_)
        · skip
          refine lv_lconst (v := 0) hx hb d_L_law_313 (by decide) ?_
          refine W.lcmp hx hb d_L_law_314 ?_
          refine lv_if_eq (tgt := 320) hx hb d_L_law_315 (by decide) (fun c315 => ?_) (fun c315 => ?_)
          · skip
            refine lv_goto (tgt := 1234) hx hb d_L_law_320 (by decide) ?_
            refine W.widen (k := cells + 4) (n := slots + 24) (by omega) (by omega) ?_
            exact hgo th kd bs us sth mk dr M sM (nI 0) ki ba ow uu te ma va wa (vp_updL of (nI 0).toNatClampNeg (if nI 0 = 0 then 0 else 1)) H locs ls hR hP hD hS (lv_sub hl [2, 3, 4, 5, 6] rfl)
          · skip
            exact absurd (lcm_self _) c315
        · skip
          exact absurd (by decide) c306
    · skip
      exact absurd (by decide) c291
  · skip
    obtain ⟨hP, hD⟩ := hpd (((ob, .inl (k 3, 1, .inr (.inl (vp_updL of (nI 0).toNatClampNeg (if nI 1 = 0 then 0 else 1))))) :: cxW k a r t th kd (upd bs s0 x2) us sth mk dr M sM) ++ mdW k b cd ki ba ow uu te ma va wa) (List.Perm.refl _)
    have hcd0 : cdRb th kd (nI s0) x2 = 0 := by simp [cdRb, hq, nI_clamp (show s0 < 2 ^ 31 by omega), ho]
    refine lv_istore (lv' := [(5, .int (nI 0)), (0, .ref sb), (1, .ref (a 0)), (2, .ref (b 0)), (3, .ref ob), (4, .int (nI i))]) hx hb d_L_law_265 hl (by decide) rfl (fun ls hl => ?_)
    refine lv_aload_n hx hb d_L_law_267 rfl (lv_at hl 3 rfl) ?_
    refine lv_aload_n hx hb d_L_law_268 rfl (lv_at hl 1 rfl) ?_
    refine lv_iload hx hb d_L_law_269 (lv_at hl 5 rfl) ?_
    refine lv_iconst (v := nI 1) hx hb d_L_law_271 (by decide) ?_
    refine lv_iadd hx hb d_L_law_272 ?_
    rw [nI_add]
    refine rw_sld hx hb hX hbl hbA hS (j := (i + 1)) (by omega) hL hx1 d_L_law_273 ?_
    refine lv_aload_n hx hb d_L_law_274 rfl (lv_at hl 1 rfl) ?_
    refine lv_iload hx hb d_L_law_275 (lv_at hl 5 rfl) ?_
    refine lv_iconst (v := nI 2) hx hb d_L_law_277 (by decide) ?_
    refine lv_iadd hx hb d_L_law_278 ?_
    rw [nI_add]
    refine rw_sld hx hb hX hbl hbA hS (j := (i + 2)) (by omega) hL hx2 d_L_law_279 ?_
    refine cal_i (wc := mdW k b cd ki ba ow uu te ma va wa) (wr := (ob, .inl (k 3, 1, .inr (.inl (vp_updL of (nI 0).toNatClampNeg (if nI 1 = 0 then 0 else 1))))) :: cxW k a r t th kd (upd bs s0 x2) us sth mk dr M sM) (va_runV (As := [.int (nI s0), .int x2]) (rest := []) ⟨hx, hb, hml, hown, hts⟩ (c_Mrebase l D k b cd ki ba ow uu te ma va wa th kd bs us sth mk M sM hR (nI s0) x2 H.size) (cwV9 2 hts wd_453 wd_450 wd_451 wd_452 wd_4 (by decide) ⟨Nat.le_of_ble_eq_true rfl, Nat.le_of_ble_eq_true rfl⟩) (prV (q0 := 0) (ci := ciMo) hK hP hD (pm_cm _ _) rfl rfl) rfl rfl hl.1 rfl (lv_room (Nat.le_of_ble_eq_true rfl)) d_L_law_280 ⟨Nat.le_trans (by omega) hc, Nat.le_trans (by omega) hs⟩) (pm_cm _ _) hP hD hS hA (fun rv w1 H locs hw hpd hS => ?_)
    rw [nI_clamp (show s0 < 2 ^ 31 by omega)] at hw
    rcases hw with ⟨-, ⟨ho2, rfl, rfl⟩ | ⟨ho2, rfl, rfl⟩⟩ | ⟨h, -, -⟩
    · rw [hoc] at ho2; cases ho2
    rotate_left
    · exact absurd hcd0 h
    obtain ⟨hP, hD⟩ := hpd (((ob, .inl (k 3, 1, .inr (.inl (vp_updL of (nI 0).toNatClampNeg (if nI 1 = 0 then 0 else 1))))) :: cxW k a r t th kd (upd bs s0 x2) us sth mk dr M sM) ++ mdW k b (nI 0) ki (upd ba s0 x2) ow uu te ma va wa) (pm_cm _ _)
    refine lv_istore (lv' := [(6, .int (nI 1)), (5, .int (nI 0)), (0, .ref sb), (1, .ref (a 0)), (2, .ref (b 0)), (3, .ref ob), (4, .int (nI i))]) hx hb d_L_law_283 hl (by decide) rfl (fun ls hl => ?_)
    refine lv_aload_n hx hb d_L_law_285 rfl (lv_at hl 4 rfl) ?_
    refine cal_i (wc := mdW k b (nI 0) ki (upd ba s0 x2) ow uu te ma va wa) (wr := (ob, .inl (k 3, 1, .inr (.inl (vp_updL of (nI 0).toNatClampNeg (if nI 1 = 0 then 0 else 1))))) :: cxW k a r t th kd (upd bs s0 x2) us sth mk dr M sM) (va_runV (As := []) (rest := []) ⟨hx, hb, hml, hown, hts⟩ (c_Mthrown l D k b (nI 0) ki (upd ba s0 x2) ow uu te ma va wa H.size) (cwV9 0 hts wd_430 wd_427 wd_428 wd_429 wd_4 (by decide) ⟨Nat.le_of_ble_eq_true rfl, Nat.le_of_ble_eq_true rfl⟩) (prV (q0 := 0) (ci := ciMo) hK hP hD (pm_cm _ _) rfl rfl) rfl rfl hl.1 rfl (lv_room (Nat.le_of_ble_eq_true rfl)) d_L_law_286 ⟨Nat.le_trans (by omega) hc, Nat.le_trans (by omega) hs⟩) (pm_cm _ _) hP hD hS hA (fun rv w1 H locs hw hpd hS => ?_)
    obtain ⟨rfl, rfl⟩ := hw
    obtain ⟨hP, hD⟩ := hpd (((ob, .inl (k 3, 1, .inr (.inl (vp_updL of (nI 0).toNatClampNeg (if nI 1 = 0 then 0 else 1))))) :: cxW k a r t th kd (upd bs s0 x2) us sth mk dr M sM) ++ mdW k b (nI 0) ki (upd ba s0 x2) ow uu te ma va wa) (pm_cm _ _)
    refine lv_iload hx hb d_L_law_289 (lv_at hl 1 rfl) ?_
    refine lv_icmp_eq (tgt := 296) hx hb d_L_law_291 (by decide) (fun c291 => ?_) (fun c291 => ?_)
    · skip
      refine lv_iload hx hb d_L_law_296 (lv_at hl 1 rfl) ?_
      refine lv_if_ne (tgt := 320) hx hb d_L_law_298 (by decide) (fun c298 => ?_) (fun c298 => ?_)
      · skip
        exact absurd (by decide) c298
      · skip
        refine lv_aload_n hx hb d_L_law_301 rfl (lv_at hl 5 rfl) ?_
        refine lv_iconst (v := nI 0) hx hb d_L_law_302 (by decide) ?_
        refine va_lald hx hb hK.1 hP 0 3 rfl rfl vin_0 d_L_law_303 ?_
        rw [show (vp_updL of (nI 0).toNatClampNeg (if nI 1 = 0 then 0 else 1)) (nI 0).toNatClampNeg = 1 from by unfold vp_updL; rw [if_pos rfl]; exact if_neg (by decide)]
        refine lv_iload hx hb d_L_law_304 (lv_at hl 0 rfl) ?_
        refine lv_if_eq (tgt := 313) hx hb d_L_law_306 (by decide) (fun c306 => ?_) (fun c306 => ?_)
        · skip
          exact absurd c306 (by decide)
        · skip
          refine lv_lconst (v := 1) hx hb d_L_law_309 (by decide) ?_
          refine lv_goto (tgt := 314) hx hb d_L_law_310 (by decide) ?_
          refine W.lcmp hx hb d_L_law_314 ?_
          refine lv_if_eq (tgt := 320) hx hb d_L_law_315 (by decide) (fun c315 => ?_) (fun c315 => ?_)
          · skip
            refine lv_goto (tgt := 1234) hx hb d_L_law_320 (by decide) ?_
            refine W.widen (k := cells + 4) (n := slots + 24) (by omega) (by omega) ?_
            exact hgo th kd (upd bs s0 x2) us sth mk dr M sM (nI 0) ki (upd ba s0 x2) ow uu te ma va wa (vp_updL of (nI 0).toNatClampNeg (if nI 1 = 0 then 0 else 1)) H locs ls (RI_rebase hR hs0 (hs_th (by decide) hs0 hq) ho hoc) hP hD hS (lv_sub hl [2, 3, 4, 5, 6] rfl)
          · skip
            exact absurd (lcm_self _) c315
    · skip
      exact absurd (by decide) c291
  · skip
    obtain ⟨hP, hD⟩ := hpd (((ob, .inl (k 3, 1, .inr (.inl of))) :: cxW k a r t th kd bs us sth mk dr M sM) ++ mdW k b cd ki ba ow uu te ma va wa) (List.Perm.refl _)
    refine lv_istore (lv' := [(5, .int ((nI (cdRb th kd x1 x2)))), (0, .ref sb), (1, .ref (a 0)), (2, .ref (b 0)), (3, .ref ob), (4, .int (nI i))]) hx hb d_L_law_265 hl (by decide) rfl (fun ls hl => ?_)
    refine lv_aload_n hx hb d_L_law_267 rfl (lv_at hl 3 rfl) ?_
    refine lv_aload_n hx hb d_L_law_268 rfl (lv_at hl 1 rfl) ?_
    refine lv_iload hx hb d_L_law_269 (lv_at hl 5 rfl) ?_
    refine lv_iconst (v := nI 1) hx hb d_L_law_271 (by decide) ?_
    refine lv_iadd hx hb d_L_law_272 ?_
    rw [nI_add]
    refine rw_sld hx hb hX hbl hbA hS (j := (i + 1)) (by omega) hL hx1 d_L_law_273 ?_
    refine lv_aload_n hx hb d_L_law_274 rfl (lv_at hl 1 rfl) ?_
    refine lv_iload hx hb d_L_law_275 (lv_at hl 5 rfl) ?_
    refine lv_iconst (v := nI 2) hx hb d_L_law_277 (by decide) ?_
    refine lv_iadd hx hb d_L_law_278 ?_
    rw [nI_add]
    refine rw_sld hx hb hX hbl hbA hS (j := (i + 2)) (by omega) hL hx2 d_L_law_279 ?_
    refine cal_i (wc := mdW k b cd ki ba ow uu te ma va wa) (wr := (ob, .inl (k 3, 1, .inr (.inl of))) :: cxW k a r t th kd bs us sth mk dr M sM) (va_runV (As := [.int x1, .int x2]) (rest := []) ⟨hx, hb, hml, hown, hts⟩ (c_Mrebase l D k b cd ki ba ow uu te ma va wa th kd bs us sth mk M sM hR x1 x2 H.size) (cwV9 2 hts wd_453 wd_450 wd_451 wd_452 wd_4 (by decide) ⟨Nat.le_of_ble_eq_true rfl, Nat.le_of_ble_eq_true rfl⟩) (prV (q0 := 0) (ci := ciMo) hK hP hD (pm_cm _ _) rfl rfl) rfl rfl hl.1 rfl (lv_room (Nat.le_of_ble_eq_true rfl)) d_L_law_280 ⟨Nat.le_trans (by omega) hc, Nat.le_trans (by omega) hs⟩) (pm_cm _ _) hP hD hS hA (fun rv w1 H locs hw hpd hS => ?_)
    rcases hw with ⟨h, -⟩ | ⟨-, -, rfl⟩
    · exact absurd h hne
    obtain ⟨hP, hD⟩ := hpd (((ob, .inl (k 3, 1, .inr (.inl of))) :: cxW k a r t th kd bs us sth mk dr M sM) ++ mdW k b ((nI (cdRb th kd x1 x2))) ki ba ow uu te ma va wa) (pm_cm _ _)
    refine lv_istore (lv' := [(6, .int rv), (5, .int ((nI (cdRb th kd x1 x2)))), (0, .ref sb), (1, .ref (a 0)), (2, .ref (b 0)), (3, .ref ob), (4, .int (nI i))]) hx hb d_L_law_283 hl (by decide) rfl (fun ls hl => ?_)
    refine lv_aload_n hx hb d_L_law_285 rfl (lv_at hl 4 rfl) ?_
    refine cal_i (wc := mdW k b ((nI (cdRb th kd x1 x2))) ki ba ow uu te ma va wa) (wr := (ob, .inl (k 3, 1, .inr (.inl of))) :: cxW k a r t th kd bs us sth mk dr M sM) (va_runV (As := []) (rest := []) ⟨hx, hb, hml, hown, hts⟩ (c_Mthrown l D k b ((nI (cdRb th kd x1 x2))) ki ba ow uu te ma va wa H.size) (cwV9 0 hts wd_430 wd_427 wd_428 wd_429 wd_4 (by decide) ⟨Nat.le_of_ble_eq_true rfl, Nat.le_of_ble_eq_true rfl⟩) (prV (q0 := 0) (ci := ciMo) hK hP hD (pm_cm _ _) rfl rfl) rfl rfl hl.1 rfl (lv_room (Nat.le_of_ble_eq_true rfl)) d_L_law_286 ⟨Nat.le_trans (by omega) hc, Nat.le_trans (by omega) hs⟩) (pm_cm _ _) hP hD hS hA (fun rv w1 H locs hw hpd hS => ?_)
    obtain ⟨rfl, rfl⟩ := hw
    obtain ⟨hP, hD⟩ := hpd (((ob, .inl (k 3, 1, .inr (.inl of))) :: cxW k a r t th kd bs us sth mk dr M sM) ++ mdW k b ((nI (cdRb th kd x1 x2))) ki ba ow uu te ma va wa) (pm_cm _ _)
    refine lv_iload hx hb d_L_law_289 (lv_at hl 1 rfl) ?_
    refine lv_icmp_eq (tgt := 296) hx hb d_L_law_291 (by decide) (fun c291 => ?_) (fun c291 => ?_)
    · skip
      refine lv_iload hx hb d_L_law_296 (lv_at hl 1 rfl) ?_
      refine lv_if_ne (tgt := 320) hx hb d_L_law_298 (by decide) (fun c298 => ?_) (fun c298 => ?_)
      · skip
        refine lv_goto (tgt := 1234) hx hb d_L_law_320 (by decide) ?_
        refine W.widen (k := cells + 4) (n := slots + 24) (by omega) (by omega) ?_
        exact hgo th kd bs us sth mk dr M sM ((nI (cdRb th kd x1 x2))) ki ba ow uu te ma va wa of H locs ls hR hP hD hS (lv_sub hl [2, 3, 4, 5, 6] rfl)
      · skip
        exact absurd c298 (nz_of hne lt_cdRb)
    · skip
      exact absurd rfl c291

set_option maxRecDepth 100000 in
set_option maxHeartbeats 4000000 in
theorem k_own {p : Program} {e : Env} {s : State} {m : MethodId} {args : Array Value} {below : List Frame} {meth : Method} {c : Code} (l : Launch) (D : va_G) (k : Nat → ClassId) (a r t b : Nat → Nat) (ob : Nat) (sa : Nat → Nat) (A : Nat → Prop) (Q : State → Prop) (sb L : Nat) (xs : Nat → Int32) (hl9 : l.stackTraces = false) (hx : p.tables.exec = Jvm.exec) (hb : c.code = code) (hml : c.maxLocals = 7) (hown : s.vm.findClass "StyleSheetLaw" = some m.cls) (hts : ∀ w ∈ wG, w.before args s = true) (hA : ∀ q, s.heap.size ≤ q → A q) (hK : bK D (tsK k) s) (hE : bEV Sts sa A s s.heap) (hN : lNc s) (hX : va_X sb L xs s s.heap) (hbl : sb < s.heap.size) (hbA : ¬ A sb) (hL : L ≤ 2560) (th kd bs us sth mk dr : Nat → Int32) (M sM : Nat → Nat → Int32) (cd : Int32) (ki ba ow uu te ma va wa : Nat → Int32) (of : Nat → Int64) (hR : RI th kd bs us sth mk M sM ki ba ow uu te ma va) (i : Nat) (hi : i + 4 < L) (cells slots : Nat) (hc : cells + 4 ≤ room_1.cells) (hs : slots + 24 ≤ room_1.slots) (H : Heap) (locs : List Loc) (ls : Array Slot) (hP : va_P D vwCl (((ob, .inl (k 3, 1, .inr (.inl of))) :: cxW k a r t th kd bs us sth mk dr M sM) ++ mdW k b cd ki ba ow uu te ma va wa) H) (hD : va_D A (((ob, .inl (k 3, 1, .inr (.inl of))) :: cxW k a r t th kd bs us sth mk dr M sM) ++ mdW k b cd ki ba ow uu te ma va wa)) (hS : va_S A s.heap H locs) (hl : lv_has ls 7 [(0, .ref sb), (1, .ref (a 0)), (2, .ref (b 0)), (3, .ref ob), (4, .int (nI i))]) (hgo : ∀ (th kd bs us sth mk dr : Nat → Int32) (M sM : Nat → Nat → Int32) (cd : Int32) (ki ba ow uu te ma va wa : Nat → Int32) (of : Nat → Int64) (H : Heap) (locs : List Loc) (ls : Array Slot), RI th kd bs us sth mk M sM ki ba ow uu te ma va → va_P D vwCl (((ob, .inl (k 3, 1, .inr (.inl of))) :: cxW k a r t th kd bs us sth mk dr M sM) ++ mdW k b cd ki ba ow uu te ma va wa) H → va_D A (((ob, .inl (k 3, 1, .inr (.inl of))) :: cxW k a r t th kd bs us sth mk dr M sM) ++ mdW k b cd ki ba ow uu te ma va wa) → va_S A s.heap H locs → lv_has ls 7 [(0, .ref sb), (1, .ref (a 0)), (2, .ref (b 0)), (3, .ref ob), (4, .int (nI i))] → W p l e room_1 s m args below meth c H locs (cells + 4) (slots + 24) Q (F0 m 1234 ls [])) : W p l e room_1 s m args below meth c H locs cells slots Q (F0 m 323 ls []) := by
  obtain ⟨x1, hx1⟩ : ∃ x : Int32, xs (i + 1) = x := ⟨_, rfl⟩
  obtain ⟨x2, hx2⟩ : ∃ x : Int32, xs (i + 2) = x := ⟨_, rfl⟩
  obtain ⟨x3, hx3⟩ : ∃ x : Int32, xs (i + 3) = x := ⟨_, rfl⟩
  refine lv_aload_n hx hb d_L_law_323 rfl (lv_at hl 1 rfl) ?_
  refine lv_aload_n hx hb d_L_law_324 rfl (lv_at hl 0 rfl) ?_
  refine lv_iload hx hb d_L_law_325 (lv_at hl 4 rfl) ?_
  refine lv_iconst (v := nI 1) hx hb d_L_law_327 (by decide) ?_
  refine lv_iadd hx hb d_L_law_328 ?_
  rw [nI_add]
  refine rw_sld hx hb hX hbl hbA hS (j := (i + 1)) (by omega) hL hx1 d_L_law_329 ?_
  refine lv_aload_n hx hb d_L_law_330 rfl (lv_at hl 0 rfl) ?_
  refine lv_iload hx hb d_L_law_331 (lv_at hl 4 rfl) ?_
  refine lv_iconst (v := nI 2) hx hb d_L_law_333 (by decide) ?_
  refine lv_iadd hx hb d_L_law_334 ?_
  rw [nI_add]
  refine rw_sld hx hb hX hbl hbA hS (j := (i + 2)) (by omega) hL hx2 d_L_law_335 ?_
  refine lv_aload_n hx hb d_L_law_336 rfl (lv_at hl 0 rfl) ?_
  refine lv_iload hx hb d_L_law_337 (lv_at hl 4 rfl) ?_
  refine lv_iconst (v := nI 3) hx hb d_L_law_339 (by decide) ?_
  refine lv_iadd hx hb d_L_law_340 ?_
  rw [nI_add]
  refine rw_sld hx hb hX hbl hbA hS (j := (i + 3)) (by omega) hL hx3 d_L_law_341 ?_
  refine cal_i (wc := cxW k a r t th kd bs us sth mk dr M sM) (wr := (ob, .inl (k 3, 1, .inr (.inl of))) :: mdW k b cd ki ba ow uu te ma va wa) (vx_runSW (As := [.ref (a 0), .int x1, .int x2, .int x3]) (rest := []) ⟨hx, hb, hml, hown, hts⟩ (w_own l D k a r t th kd bs us sth mk dr M sM sa hl9 x1 x2 x3 H.size) (cwH9 4 hts wd_255 wd_253 wd_254 wd_0 (by decide) ⟨Nat.le_of_ble_eq_true rfl, Nat.le_of_ble_eq_true rfl⟩) (prH hE hN hS hA hK hP hD (List.perm_middle.symm)) rfl rfl hl.1 rfl (lv_room (Nat.le_of_ble_eq_true rfl)) d_L_law_342 ⟨Nat.le_trans (by omega) hc, Nat.le_trans (by omega) hs⟩) (List.perm_middle.symm) hP hD hS hA (fun rv w1 H locs hw hpd hS => ?_)
  rcases hw with ⟨rfl, ⟨s0, hs0, rfl, hq, p9, hp9, rfl, hnv, rfl⟩⟩ | ⟨hne, rfl, rfl⟩
  · skip
    obtain ⟨hP, hD⟩ := hpd (((ob, .inl (k 3, 1, .inr (.inl of))) :: cxW k a r t th kd bs us sth mk dr (va_up M s0 (upd (M s0) p9 x3)) sM) ++ mdW k b cd ki ba ow uu te ma va wa) (List.perm_middle)
    have hcd0 : cdOw th (nI s0) (nI p9) x3 = 0 := by simp [cdOw, hq, prB_nI hp9, hnv]
    refine lv_istore (lv' := [(5, .int (nI 0)), (0, .ref sb), (1, .ref (a 0)), (2, .ref (b 0)), (3, .ref ob), (4, .int (nI i))]) hx hb d_L_law_345 hl (by decide) rfl (fun ls hl => ?_)
    refine lv_aload_n hx hb d_L_law_347 rfl (lv_at hl 3 rfl) ?_
    refine lv_aload_n hx hb d_L_law_348 rfl (lv_at hl 1 rfl) ?_
    refine lv_iload hx hb d_L_law_349 (lv_at hl 5 rfl) ?_
    refine lv_iconst (v := nI 1) hx hb d_L_law_351 (by decide) ?_
    refine lv_iadd hx hb d_L_law_352 ?_
    rw [nI_add]
    refine rw_sld hx hb hX hbl hbA hS (j := (i + 1)) (by omega) hL hx1 d_L_law_353 ?_
    refine lv_aload_n hx hb d_L_law_354 rfl (lv_at hl 1 rfl) ?_
    refine lv_iload hx hb d_L_law_355 (lv_at hl 5 rfl) ?_
    refine lv_iconst (v := nI 2) hx hb d_L_law_357 (by decide) ?_
    refine lv_iadd hx hb d_L_law_358 ?_
    rw [nI_add]
    refine rw_sld hx hb hX hbl hbA hS (j := (i + 2)) (by omega) hL hx2 d_L_law_359 ?_
    refine lv_aload_n hx hb d_L_law_360 rfl (lv_at hl 1 rfl) ?_
    refine lv_iload hx hb d_L_law_361 (lv_at hl 5 rfl) ?_
    refine lv_iconst (v := nI 3) hx hb d_L_law_363 (by decide) ?_
    refine lv_iadd hx hb d_L_law_364 ?_
    rw [nI_add]
    refine rw_sld hx hb hX hbl hbA hS (j := (i + 3)) (by omega) hL hx3 d_L_law_365 ?_
    refine cal_v (wc := mdW k b cd ki ba ow uu te ma va wa) (wr := (ob, .inl (k 3, 1, .inr (.inl of))) :: cxW k a r t th kd bs us sth mk dr (va_up M s0 (upd (M s0) p9 x3)) sM) (va_runV (As := [.int (nI s0), .int (nI p9), .int x3]) (rest := []) ⟨hx, hb, hml, hown, hts⟩ (c_Mown l D k b cd ki ba ow uu te ma va wa th kd bs us sth mk M sM hR (nI s0) (nI p9) x3 H.size) (cwV9 3 hts wd_461 wd_458 wd_459 wd_460 wd_4 (by decide) ⟨Nat.le_of_ble_eq_true rfl, Nat.le_of_ble_eq_true rfl⟩) (prV (q0 := 0) (ci := ciMo) hK hP hD (pm_cm _ _) rfl rfl) rfl rfl hl.1 rfl (lv_room (Nat.le_of_ble_eq_true rfl)) d_L_law_366 ⟨Nat.le_trans (by omega) hc, Nat.le_trans (by omega) hs⟩) (pm_cm _ _) hP hD hS hA (fun w1 H locs hw hpd hS => ?_)
    rw [nI_clamp (show s0 < 2 ^ 31 by omega), nI_clamp (show p9 < 2 ^ 31 by omega)] at hw
    obtain rfl := hw.1 hcd0
    obtain ⟨hP, hD⟩ := hpd (((ob, .inl (k 3, 1, .inr (.inl of))) :: cxW k a r t th kd bs us sth mk dr (va_up M s0 (upd (M s0) p9 x3)) sM) ++ mdW k b (nI 0) ki ba (upd ow (24 * s0 + p9) x3) uu te ma va wa) (pm_cm _ _)
    refine lv_aload_n hx hb d_L_law_369 rfl (lv_at hl 3 rfl) ?_
    refine cal_i (wc := mdW k b (nI 0) ki ba (upd ow (24 * s0 + p9) x3) uu te ma va wa) (wr := (ob, .inl (k 3, 1, .inr (.inl of))) :: cxW k a r t th kd bs us sth mk dr (va_up M s0 (upd (M s0) p9 x3)) sM) (va_runV (As := []) (rest := []) ⟨hx, hb, hml, hown, hts⟩ (c_Mthrown l D k b (nI 0) ki ba (upd ow (24 * s0 + p9) x3) uu te ma va wa H.size) (cwV9 0 hts wd_430 wd_427 wd_428 wd_429 wd_4 (by decide) ⟨Nat.le_of_ble_eq_true rfl, Nat.le_of_ble_eq_true rfl⟩) (prV (q0 := 0) (ci := ciMo) hK hP hD (pm_cm _ _) rfl rfl) rfl rfl hl.1 rfl (lv_room (Nat.le_of_ble_eq_true rfl)) d_L_law_370 ⟨Nat.le_trans (by omega) hc, Nat.le_trans (by omega) hs⟩) (pm_cm _ _) hP hD hS hA (fun rv w1 H locs hw hpd hS => ?_)
    obtain ⟨rfl, rfl⟩ := hw
    obtain ⟨hP, hD⟩ := hpd (((ob, .inl (k 3, 1, .inr (.inl of))) :: cxW k a r t th kd bs us sth mk dr (va_up M s0 (upd (M s0) p9 x3)) sM) ++ mdW k b (nI 0) ki ba (upd ow (24 * s0 + p9) x3) uu te ma va wa) (pm_cm _ _)
    refine lv_iload hx hb d_L_law_373 (lv_at hl 0 rfl) ?_
    refine lv_icmp_eq (tgt := 380) hx hb d_L_law_375 (by decide) (fun c375 => ?_) (fun c375 => ?_)
    · skip
      refine lv_goto (tgt := 1234) hx hb d_L_law_380 (by decide) ?_
      refine W.widen (k := cells + 4) (n := slots + 24) (by omega) (by omega) ?_
      exact hgo th kd bs us sth mk dr (va_up M s0 (upd (M s0) p9 x3)) sM (nI 0) ki ba (upd ow (24 * s0 + p9) x3) uu te ma va wa of H locs ls (RI_own hR hs0 (hs_th (by decide) hs0 hq) hp9 (nv_pos hnv)) hP hD hS (lv_sub hl [1, 2, 3, 4, 5] rfl)
    · skip
      exact absurd (by decide) c375
  · skip
    obtain ⟨hP, hD⟩ := hpd (((ob, .inl (k 3, 1, .inr (.inl of))) :: cxW k a r t th kd bs us sth mk dr M sM) ++ mdW k b cd ki ba ow uu te ma va wa) (List.perm_middle)
    refine lv_istore (lv' := [(5, .int ((nI (cdOw th x1 x2 x3)))), (0, .ref sb), (1, .ref (a 0)), (2, .ref (b 0)), (3, .ref ob), (4, .int (nI i))]) hx hb d_L_law_345 hl (by decide) rfl (fun ls hl => ?_)
    refine lv_aload_n hx hb d_L_law_347 rfl (lv_at hl 3 rfl) ?_
    refine lv_aload_n hx hb d_L_law_348 rfl (lv_at hl 1 rfl) ?_
    refine lv_iload hx hb d_L_law_349 (lv_at hl 5 rfl) ?_
    refine lv_iconst (v := nI 1) hx hb d_L_law_351 (by decide) ?_
    refine lv_iadd hx hb d_L_law_352 ?_
    rw [nI_add]
    refine rw_sld hx hb hX hbl hbA hS (j := (i + 1)) (by omega) hL hx1 d_L_law_353 ?_
    refine lv_aload_n hx hb d_L_law_354 rfl (lv_at hl 1 rfl) ?_
    refine lv_iload hx hb d_L_law_355 (lv_at hl 5 rfl) ?_
    refine lv_iconst (v := nI 2) hx hb d_L_law_357 (by decide) ?_
    refine lv_iadd hx hb d_L_law_358 ?_
    rw [nI_add]
    refine rw_sld hx hb hX hbl hbA hS (j := (i + 2)) (by omega) hL hx2 d_L_law_359 ?_
    refine lv_aload_n hx hb d_L_law_360 rfl (lv_at hl 1 rfl) ?_
    refine lv_iload hx hb d_L_law_361 (lv_at hl 5 rfl) ?_
    refine lv_iconst (v := nI 3) hx hb d_L_law_363 (by decide) ?_
    refine lv_iadd hx hb d_L_law_364 ?_
    rw [nI_add]
    refine rw_sld hx hb hX hbl hbA hS (j := (i + 3)) (by omega) hL hx3 d_L_law_365 ?_
    refine cal_v (wc := mdW k b cd ki ba ow uu te ma va wa) (wr := (ob, .inl (k 3, 1, .inr (.inl of))) :: cxW k a r t th kd bs us sth mk dr M sM) (va_runV (As := [.int x1, .int x2, .int x3]) (rest := []) ⟨hx, hb, hml, hown, hts⟩ (c_Mown l D k b cd ki ba ow uu te ma va wa th kd bs us sth mk M sM hR x1 x2 x3 H.size) (cwV9 3 hts wd_461 wd_458 wd_459 wd_460 wd_4 (by decide) ⟨Nat.le_of_ble_eq_true rfl, Nat.le_of_ble_eq_true rfl⟩) (prV (q0 := 0) (ci := ciMo) hK hP hD (pm_cm _ _) rfl rfl) rfl rfl hl.1 rfl (lv_room (Nat.le_of_ble_eq_true rfl)) d_L_law_366 ⟨Nat.le_trans (by omega) hc, Nat.le_trans (by omega) hs⟩) (pm_cm _ _) hP hD hS hA (fun w1 H locs hw hpd hS => ?_)
    obtain rfl := hw.2 hne
    obtain ⟨hP, hD⟩ := hpd (((ob, .inl (k 3, 1, .inr (.inl of))) :: cxW k a r t th kd bs us sth mk dr M sM) ++ mdW k b ((nI (cdOw th x1 x2 x3))) ki ba ow uu te ma va wa) (pm_cm _ _)
    refine lv_aload_n hx hb d_L_law_369 rfl (lv_at hl 3 rfl) ?_
    refine cal_i (wc := mdW k b ((nI (cdOw th x1 x2 x3))) ki ba ow uu te ma va wa) (wr := (ob, .inl (k 3, 1, .inr (.inl of))) :: cxW k a r t th kd bs us sth mk dr M sM) (va_runV (As := []) (rest := []) ⟨hx, hb, hml, hown, hts⟩ (c_Mthrown l D k b ((nI (cdOw th x1 x2 x3))) ki ba ow uu te ma va wa H.size) (cwV9 0 hts wd_430 wd_427 wd_428 wd_429 wd_4 (by decide) ⟨Nat.le_of_ble_eq_true rfl, Nat.le_of_ble_eq_true rfl⟩) (prV (q0 := 0) (ci := ciMo) hK hP hD (pm_cm _ _) rfl rfl) rfl rfl hl.1 rfl (lv_room (Nat.le_of_ble_eq_true rfl)) d_L_law_370 ⟨Nat.le_trans (by omega) hc, Nat.le_trans (by omega) hs⟩) (pm_cm _ _) hP hD hS hA (fun rv w1 H locs hw hpd hS => ?_)
    obtain ⟨rfl, rfl⟩ := hw
    obtain ⟨hP, hD⟩ := hpd (((ob, .inl (k 3, 1, .inr (.inl of))) :: cxW k a r t th kd bs us sth mk dr M sM) ++ mdW k b ((nI (cdOw th x1 x2 x3))) ki ba ow uu te ma va wa) (pm_cm _ _)
    refine lv_iload hx hb d_L_law_373 (lv_at hl 0 rfl) ?_
    refine lv_icmp_eq (tgt := 380) hx hb d_L_law_375 (by decide) (fun c375 => ?_) (fun c375 => ?_)
    · skip
      refine lv_goto (tgt := 1234) hx hb d_L_law_380 (by decide) ?_
      refine W.widen (k := cells + 4) (n := slots + 24) (by omega) (by omega) ?_
      exact hgo th kd bs us sth mk dr M sM ((nI (cdOw th x1 x2 x3))) ki ba ow uu te ma va wa of H locs ls hR hP hD hS (lv_sub hl [1, 2, 3, 4, 5] rfl)
    · skip
      exact absurd rfl c375

set_option maxRecDepth 100000 in
set_option maxHeartbeats 4000000 in
theorem k_value {p : Program} {e : Env} {s : State} {m : MethodId} {args : Array Value} {below : List Frame} {meth : Method} {c : Code} (l : Launch) (D : va_G) (k : Nat → ClassId) (a r t b : Nat → Nat) (ob : Nat) (sa : Nat → Nat) (A : Nat → Prop) (Q : State → Prop) (sb L : Nat) (xs : Nat → Int32) (hl9 : l.stackTraces = false) (hx : p.tables.exec = Jvm.exec) (hb : c.code = code) (hml : c.maxLocals = 7) (hown : s.vm.findClass "StyleSheetLaw" = some m.cls) (hts : ∀ w ∈ wG, w.before args s = true) (hA : ∀ q, s.heap.size ≤ q → A q) (hK : bK D (tsK k) s) (hE : bEV Sts sa A s s.heap) (hN : lNc s) (hX : va_X sb L xs s s.heap) (hbl : sb < s.heap.size) (hbA : ¬ A sb) (hL : L ≤ 2560) (th kd bs us sth mk dr : Nat → Int32) (M sM : Nat → Nat → Int32) (cd : Int32) (ki ba ow uu te ma va wa : Nat → Int32) (of : Nat → Int64) (hR : RI th kd bs us sth mk M sM ki ba ow uu te ma va) (i : Nat) (hi : i + 4 < L) (cells slots : Nat) (hc : cells + 4 ≤ room_1.cells) (hs : slots + 24 ≤ room_1.slots) (H : Heap) (locs : List Loc) (ls : Array Slot) (hP : va_P D vwCl (((ob, .inl (k 3, 1, .inr (.inl of))) :: cxW k a r t th kd bs us sth mk dr M sM) ++ mdW k b cd ki ba ow uu te ma va wa) H) (hD : va_D A (((ob, .inl (k 3, 1, .inr (.inl of))) :: cxW k a r t th kd bs us sth mk dr M sM) ++ mdW k b cd ki ba ow uu te ma va wa)) (hS : va_S A s.heap H locs) (hl : lv_has ls 7 [(0, .ref sb), (1, .ref (a 0)), (2, .ref (b 0)), (3, .ref ob), (4, .int (nI i))]) (hgo : ∀ (th kd bs us sth mk dr : Nat → Int32) (M sM : Nat → Nat → Int32) (cd : Int32) (ki ba ow uu te ma va wa : Nat → Int32) (of : Nat → Int64) (H : Heap) (locs : List Loc) (ls : Array Slot), RI th kd bs us sth mk M sM ki ba ow uu te ma va → va_P D vwCl (((ob, .inl (k 3, 1, .inr (.inl of))) :: cxW k a r t th kd bs us sth mk dr M sM) ++ mdW k b cd ki ba ow uu te ma va wa) H → va_D A (((ob, .inl (k 3, 1, .inr (.inl of))) :: cxW k a r t th kd bs us sth mk dr M sM) ++ mdW k b cd ki ba ow uu te ma va wa) → va_S A s.heap H locs → lv_has ls 7 [(0, .ref sb), (1, .ref (a 0)), (2, .ref (b 0)), (3, .ref ob), (4, .int (nI i))] → W p l e room_1 s m args below meth c H locs (cells + 4) (slots + 24) Q (F0 m 1234 ls [])) : W p l e room_1 s m args below meth c H locs cells slots Q (F0 m 383 ls []) := by
  obtain ⟨x1, hx1⟩ : ∃ x : Int32, xs (i + 1) = x := ⟨_, rfl⟩
  obtain ⟨x2, hx2⟩ : ∃ x : Int32, xs (i + 2) = x := ⟨_, rfl⟩
  refine lv_aload_n hx hb d_L_law_383 rfl (lv_at hl 1 rfl) ?_
  refine lv_aload_n hx hb d_L_law_384 rfl (lv_at hl 0 rfl) ?_
  refine lv_iload hx hb d_L_law_385 (lv_at hl 4 rfl) ?_
  refine lv_iconst (v := nI 1) hx hb d_L_law_387 (by decide) ?_
  refine lv_iadd hx hb d_L_law_388 ?_
  rw [nI_add]
  refine rw_sld hx hb hX hbl hbA hS (j := (i + 1)) (by omega) hL hx1 d_L_law_389 ?_
  refine lv_aload_n hx hb d_L_law_390 rfl (lv_at hl 0 rfl) ?_
  refine lv_iload hx hb d_L_law_391 (lv_at hl 4 rfl) ?_
  refine lv_iconst (v := nI 2) hx hb d_L_law_393 (by decide) ?_
  refine lv_iadd hx hb d_L_law_394 ?_
  rw [nI_add]
  refine rw_sld hx hb hX hbl hbA hS (j := (i + 2)) (by omega) hL hx2 d_L_law_395 ?_
  refine lv_aload_n hx hb d_L_law_396 rfl (lv_at hl 3 rfl) ?_
  refine cal_i (wc := (ob, .inl (k 3, 1, .inr (.inl of))) :: cxW k a r t th kd bs us sth mk dr M sM) (wr := mdW k b cd ki ba ow uu te ma va wa) (vx_runSW (As := [.ref (a 0), .int x1, .int x2, .ref ob]) (rest := []) ⟨hx, hb, hml, hown, hts⟩ (w_value l D k a r t th kd bs us sth mk dr M sM sa hl9 x1 x2 ob of H.size) (cwH9 4 hts wd_277 wd_275 wd_276 wd_0 (by decide) ⟨Nat.le_of_ble_eq_true rfl, Nat.le_of_ble_eq_true rfl⟩) (prH hE hN hS hA hK hP hD (List.Perm.refl _)) rfl rfl hl.1 rfl (lv_room (Nat.le_of_ble_eq_true rfl)) d_L_law_397 ⟨Nat.le_trans (by omega) hc, Nat.le_trans (by omega) hs⟩) (List.Perm.refl _) hP hD hS hA (fun rv w1 H locs hw hpd hS => ?_)
  rcases hw with ⟨rfl, r9, w9, ⟨s0, hs0, rfl, hq, p9, hp9, rfl, rfl, rfl⟩, rfl⟩ | ⟨hne, rfl, rfl⟩
  · skip
    obtain ⟨hP, hD⟩ := hpd (((ob, .inl (k 3, 1, .inr (.inl (vp_updL of (nI 0).toNatClampNeg ((vbF th bs M (nI s0) p9).toInt64))))) :: cxW k a r t th kd bs us sth mk dr M sM) ++ mdW k b cd ki ba ow uu te ma va wa) (List.Perm.refl _)
    have hcd0 : cdVa th (nI s0) (nI p9) = 0 := by simp [cdVa, hq, prB_nI hp9]
    refine lv_istore (lv' := [(5, .int (nI 0)), (0, .ref sb), (1, .ref (a 0)), (2, .ref (b 0)), (3, .ref ob), (4, .int (nI i))]) hx hb d_L_law_400 hl (by decide) rfl (fun ls hl => ?_)
    refine lv_aload_n hx hb d_L_law_402 rfl (lv_at hl 3 rfl) ?_
    refine lv_aload_n hx hb d_L_law_403 rfl (lv_at hl 1 rfl) ?_
    refine lv_iload hx hb d_L_law_404 (lv_at hl 5 rfl) ?_
    refine lv_iconst (v := nI 1) hx hb d_L_law_406 (by decide) ?_
    refine lv_iadd hx hb d_L_law_407 ?_
    rw [nI_add]
    refine rw_sld hx hb hX hbl hbA hS (j := (i + 1)) (by omega) hL hx1 d_L_law_408 ?_
    refine lv_aload_n hx hb d_L_law_409 rfl (lv_at hl 1 rfl) ?_
    refine lv_iload hx hb d_L_law_410 (lv_at hl 5 rfl) ?_
    refine lv_iconst (v := nI 2) hx hb d_L_law_412 (by decide) ?_
    refine lv_iadd hx hb d_L_law_413 ?_
    rw [nI_add]
    refine rw_sld hx hb hX hbl hbA hS (j := (i + 2)) (by omega) hL hx2 d_L_law_414 ?_
    refine cal_i (wc := mdW k b cd ki ba ow uu te ma va wa) (wr := (ob, .inl (k 3, 1, .inr (.inl (vp_updL of (nI 0).toNatClampNeg ((vbF th bs M (nI s0) p9).toInt64))))) :: cxW k a r t th kd bs us sth mk dr M sM) (va_runV (As := [.int (nI s0), .int (nI p9)]) (rest := []) ⟨hx, hb, hml, hown, hts⟩ (c_Mvalue l D k b cd ki ba ow uu te ma va wa th kd bs us sth mk M sM hR (nI s0) (nI p9) H.size) (cwV9 2 hts wd_472 wd_469 wd_470 wd_471 wd_4 (by decide) ⟨Nat.le_of_ble_eq_true rfl, Nat.le_of_ble_eq_true rfl⟩) (prV (q0 := 0) (ci := ciMo) hK hP hD (pm_cm _ _) rfl rfl) rfl rfl hl.1 rfl (lv_room (Nat.le_of_ble_eq_true rfl)) d_L_law_415 ⟨Nat.le_trans (by omega) hc, Nat.le_trans (by omega) hs⟩) (pm_cm _ _) hP hD hS hA (fun rv w1 H locs hw hpd hS => ?_)
    rw [nI_clamp (show p9 < 2 ^ 31 by omega)] at hw
    rw [hcd0] at hw
    obtain ⟨hv, rfl⟩ := hw
    obtain rfl := hv rfl
    obtain ⟨hP, hD⟩ := hpd (((ob, .inl (k 3, 1, .inr (.inl (vp_updL of (nI 0).toNatClampNeg ((vbF th bs M (nI s0) p9).toInt64))))) :: cxW k a r t th kd bs us sth mk dr M sM) ++ mdW k b (nI 0) ki ba ow uu te ma va wa) (pm_cm _ _)
    refine lv_istore (lv' := [(6, .int (vbF th bs M (nI s0) p9)), (5, .int (nI 0)), (0, .ref sb), (1, .ref (a 0)), (2, .ref (b 0)), (3, .ref ob), (4, .int (nI i))]) hx hb d_L_law_418 hl (by decide) rfl (fun ls hl => ?_)
    refine lv_aload_n hx hb d_L_law_420 rfl (lv_at hl 4 rfl) ?_
    refine cal_i (wc := mdW k b (nI 0) ki ba ow uu te ma va wa) (wr := (ob, .inl (k 3, 1, .inr (.inl (vp_updL of (nI 0).toNatClampNeg ((vbF th bs M (nI s0) p9).toInt64))))) :: cxW k a r t th kd bs us sth mk dr M sM) (va_runV (As := []) (rest := []) ⟨hx, hb, hml, hown, hts⟩ (c_Mthrown l D k b (nI 0) ki ba ow uu te ma va wa H.size) (cwV9 0 hts wd_430 wd_427 wd_428 wd_429 wd_4 (by decide) ⟨Nat.le_of_ble_eq_true rfl, Nat.le_of_ble_eq_true rfl⟩) (prV (q0 := 0) (ci := ciMo) hK hP hD (pm_cm _ _) rfl rfl) rfl rfl hl.1 rfl (lv_room (Nat.le_of_ble_eq_true rfl)) d_L_law_421 ⟨Nat.le_trans (by omega) hc, Nat.le_trans (by omega) hs⟩) (pm_cm _ _) hP hD hS hA (fun rv w1 H locs hw hpd hS => ?_)
    obtain ⟨rfl, rfl⟩ := hw
    obtain ⟨hP, hD⟩ := hpd (((ob, .inl (k 3, 1, .inr (.inl (vp_updL of (nI 0).toNatClampNeg ((vbF th bs M (nI s0) p9).toInt64))))) :: cxW k a r t th kd bs us sth mk dr M sM) ++ mdW k b (nI 0) ki ba ow uu te ma va wa) (pm_cm _ _)
    refine lv_iload hx hb d_L_law_424 (lv_at hl 1 rfl) ?_
    refine lv_icmp_eq (tgt := 431) hx hb d_L_law_426 (by decide) (fun c426 => ?_) (fun c426 => ?_)
    · skip
      refine lv_iload hx hb d_L_law_431 (lv_at hl 1 rfl) ?_
      refine lv_if_ne (tgt := 448) hx hb d_L_law_433 (by decide) (fun c433 => ?_) (fun c433 => ?_)
      · skip
        exact absurd (by decide) c433
      · skip
        refine lv_aload_n hx hb d_L_law_436 rfl (lv_at hl 5 rfl) ?_
        refine lv_iconst (v := nI 0) hx hb d_L_law_437 (by decide) ?_
        refine va_lald hx hb hK.1 hP 0 3 rfl rfl vin_0 d_L_law_438 ?_
        rw [show (vp_updL of (nI 0).toNatClampNeg ((vbF th bs M (nI s0) p9).toInt64)) (nI 0).toNatClampNeg = (vbF th bs M (nI s0) p9).toInt64 by simp [vp_updL]]
        refine lv_iload hx hb d_L_law_439 (lv_at hl 0 rfl) ?_
        refine lv_i2l (v := (vbF th bs M (nI s0) p9).toInt64) hx hb d_L_law_441 rfl ?_
        refine W.lcmp hx hb d_L_law_442 ?_
        refine lv_if_eq (tgt := 448) hx hb d_L_law_443 (by decide) (fun c443 => ?_) (fun c443 => ?_)
        · skip
          refine lv_goto (tgt := 1234) hx hb d_L_law_448 (by decide) ?_
          refine W.widen (k := cells + 4) (n := slots + 24) (by omega) (by omega) ?_
          exact hgo th kd bs us sth mk dr M sM (nI 0) ki ba ow uu te ma va wa (vp_updL of (nI 0).toNatClampNeg ((vbF th bs M (nI s0) p9).toInt64)) H locs ls hR hP hD hS (lv_sub hl [2, 3, 4, 5, 6] rfl)
        · skip
          exact absurd (lcm_self _) c443
    · skip
      exact absurd (by decide) c426
  · skip
    obtain ⟨hP, hD⟩ := hpd (((ob, .inl (k 3, 1, .inr (.inl of))) :: cxW k a r t th kd bs us sth mk dr M sM) ++ mdW k b cd ki ba ow uu te ma va wa) (List.Perm.refl _)
    refine lv_istore (lv' := [(5, .int ((nI (cdVa th x1 x2)))), (0, .ref sb), (1, .ref (a 0)), (2, .ref (b 0)), (3, .ref ob), (4, .int (nI i))]) hx hb d_L_law_400 hl (by decide) rfl (fun ls hl => ?_)
    refine lv_aload_n hx hb d_L_law_402 rfl (lv_at hl 3 rfl) ?_
    refine lv_aload_n hx hb d_L_law_403 rfl (lv_at hl 1 rfl) ?_
    refine lv_iload hx hb d_L_law_404 (lv_at hl 5 rfl) ?_
    refine lv_iconst (v := nI 1) hx hb d_L_law_406 (by decide) ?_
    refine lv_iadd hx hb d_L_law_407 ?_
    rw [nI_add]
    refine rw_sld hx hb hX hbl hbA hS (j := (i + 1)) (by omega) hL hx1 d_L_law_408 ?_
    refine lv_aload_n hx hb d_L_law_409 rfl (lv_at hl 1 rfl) ?_
    refine lv_iload hx hb d_L_law_410 (lv_at hl 5 rfl) ?_
    refine lv_iconst (v := nI 2) hx hb d_L_law_412 (by decide) ?_
    refine lv_iadd hx hb d_L_law_413 ?_
    rw [nI_add]
    refine rw_sld hx hb hX hbl hbA hS (j := (i + 2)) (by omega) hL hx2 d_L_law_414 ?_
    refine cal_i (wc := mdW k b cd ki ba ow uu te ma va wa) (wr := (ob, .inl (k 3, 1, .inr (.inl of))) :: cxW k a r t th kd bs us sth mk dr M sM) (va_runV (As := [.int x1, .int x2]) (rest := []) ⟨hx, hb, hml, hown, hts⟩ (c_Mvalue l D k b cd ki ba ow uu te ma va wa th kd bs us sth mk M sM hR x1 x2 H.size) (cwV9 2 hts wd_472 wd_469 wd_470 wd_471 wd_4 (by decide) ⟨Nat.le_of_ble_eq_true rfl, Nat.le_of_ble_eq_true rfl⟩) (prV (q0 := 0) (ci := ciMo) hK hP hD (pm_cm _ _) rfl rfl) rfl rfl hl.1 rfl (lv_room (Nat.le_of_ble_eq_true rfl)) d_L_law_415 ⟨Nat.le_trans (by omega) hc, Nat.le_trans (by omega) hs⟩) (pm_cm _ _) hP hD hS hA (fun rv w1 H locs hw hpd hS => ?_)
    obtain ⟨-, rfl⟩ := hw
    obtain ⟨hP, hD⟩ := hpd (((ob, .inl (k 3, 1, .inr (.inl of))) :: cxW k a r t th kd bs us sth mk dr M sM) ++ mdW k b ((nI (cdVa th x1 x2))) ki ba ow uu te ma va wa) (pm_cm _ _)
    refine lv_istore (lv' := [(6, .int rv), (5, .int ((nI (cdVa th x1 x2)))), (0, .ref sb), (1, .ref (a 0)), (2, .ref (b 0)), (3, .ref ob), (4, .int (nI i))]) hx hb d_L_law_418 hl (by decide) rfl (fun ls hl => ?_)
    refine lv_aload_n hx hb d_L_law_420 rfl (lv_at hl 4 rfl) ?_
    refine cal_i (wc := mdW k b ((nI (cdVa th x1 x2))) ki ba ow uu te ma va wa) (wr := (ob, .inl (k 3, 1, .inr (.inl of))) :: cxW k a r t th kd bs us sth mk dr M sM) (va_runV (As := []) (rest := []) ⟨hx, hb, hml, hown, hts⟩ (c_Mthrown l D k b ((nI (cdVa th x1 x2))) ki ba ow uu te ma va wa H.size) (cwV9 0 hts wd_430 wd_427 wd_428 wd_429 wd_4 (by decide) ⟨Nat.le_of_ble_eq_true rfl, Nat.le_of_ble_eq_true rfl⟩) (prV (q0 := 0) (ci := ciMo) hK hP hD (pm_cm _ _) rfl rfl) rfl rfl hl.1 rfl (lv_room (Nat.le_of_ble_eq_true rfl)) d_L_law_421 ⟨Nat.le_trans (by omega) hc, Nat.le_trans (by omega) hs⟩) (pm_cm _ _) hP hD hS hA (fun rv w1 H locs hw hpd hS => ?_)
    obtain ⟨rfl, rfl⟩ := hw
    obtain ⟨hP, hD⟩ := hpd (((ob, .inl (k 3, 1, .inr (.inl of))) :: cxW k a r t th kd bs us sth mk dr M sM) ++ mdW k b ((nI (cdVa th x1 x2))) ki ba ow uu te ma va wa) (pm_cm _ _)
    refine lv_iload hx hb d_L_law_424 (lv_at hl 1 rfl) ?_
    refine lv_icmp_eq (tgt := 431) hx hb d_L_law_426 (by decide) (fun c426 => ?_) (fun c426 => ?_)
    · skip
      refine lv_iload hx hb d_L_law_431 (lv_at hl 1 rfl) ?_
      refine lv_if_ne (tgt := 448) hx hb d_L_law_433 (by decide) (fun c433 => ?_) (fun c433 => ?_)
      · skip
        refine lv_goto (tgt := 1234) hx hb d_L_law_448 (by decide) ?_
        refine W.widen (k := cells + 4) (n := slots + 24) (by omega) (by omega) ?_
        exact hgo th kd bs us sth mk dr M sM ((nI (cdVa th x1 x2))) ki ba ow uu te ma va wa of H locs ls hR hP hD hS (lv_sub hl [2, 3, 4, 5, 6] rfl)
      · skip
        exact absurd c433 (nz_of hne lt_cdVa)
    · skip
      exact absurd rfl c426

set_option maxRecDepth 100000 in
set_option maxHeartbeats 4000000 in
theorem k_giver {p : Program} {e : Env} {s : State} {m : MethodId} {args : Array Value} {below : List Frame} {meth : Method} {c : Code} (l : Launch) (D : va_G) (k : Nat → ClassId) (a r t b : Nat → Nat) (ob : Nat) (sa : Nat → Nat) (A : Nat → Prop) (Q : State → Prop) (sb L : Nat) (xs : Nat → Int32) (hl9 : l.stackTraces = false) (hx : p.tables.exec = Jvm.exec) (hb : c.code = code) (hml : c.maxLocals = 7) (hown : s.vm.findClass "StyleSheetLaw" = some m.cls) (hts : ∀ w ∈ wG, w.before args s = true) (hA : ∀ q, s.heap.size ≤ q → A q) (hK : bK D (tsK k) s) (hE : bEV Sts sa A s s.heap) (hN : lNc s) (hX : va_X sb L xs s s.heap) (hbl : sb < s.heap.size) (hbA : ¬ A sb) (hL : L ≤ 2560) (th kd bs us sth mk dr : Nat → Int32) (M sM : Nat → Nat → Int32) (cd : Int32) (ki ba ow uu te ma va wa : Nat → Int32) (of : Nat → Int64) (hR : RI th kd bs us sth mk M sM ki ba ow uu te ma va) (i : Nat) (hi : i + 4 < L) (cells slots : Nat) (hc : cells + 4 ≤ room_1.cells) (hs : slots + 24 ≤ room_1.slots) (H : Heap) (locs : List Loc) (ls : Array Slot) (hP : va_P D vwCl (((ob, .inl (k 3, 1, .inr (.inl of))) :: cxW k a r t th kd bs us sth mk dr M sM) ++ mdW k b cd ki ba ow uu te ma va wa) H) (hD : va_D A (((ob, .inl (k 3, 1, .inr (.inl of))) :: cxW k a r t th kd bs us sth mk dr M sM) ++ mdW k b cd ki ba ow uu te ma va wa)) (hS : va_S A s.heap H locs) (hl : lv_has ls 7 [(0, .ref sb), (1, .ref (a 0)), (2, .ref (b 0)), (3, .ref ob), (4, .int (nI i))]) (hgo : ∀ (th kd bs us sth mk dr : Nat → Int32) (M sM : Nat → Nat → Int32) (cd : Int32) (ki ba ow uu te ma va wa : Nat → Int32) (of : Nat → Int64) (H : Heap) (locs : List Loc) (ls : Array Slot), RI th kd bs us sth mk M sM ki ba ow uu te ma va → va_P D vwCl (((ob, .inl (k 3, 1, .inr (.inl of))) :: cxW k a r t th kd bs us sth mk dr M sM) ++ mdW k b cd ki ba ow uu te ma va wa) H → va_D A (((ob, .inl (k 3, 1, .inr (.inl of))) :: cxW k a r t th kd bs us sth mk dr M sM) ++ mdW k b cd ki ba ow uu te ma va wa) → va_S A s.heap H locs → lv_has ls 7 [(0, .ref sb), (1, .ref (a 0)), (2, .ref (b 0)), (3, .ref ob), (4, .int (nI i))] → W p l e room_1 s m args below meth c H locs (cells + 4) (slots + 24) Q (F0 m 1234 ls [])) : W p l e room_1 s m args below meth c H locs cells slots Q (F0 m 451 ls []) := by
  obtain ⟨x1, hx1⟩ : ∃ x : Int32, xs (i + 1) = x := ⟨_, rfl⟩
  obtain ⟨x2, hx2⟩ : ∃ x : Int32, xs (i + 2) = x := ⟨_, rfl⟩
  refine lv_aload_n hx hb d_L_law_451 rfl (lv_at hl 1 rfl) ?_
  refine lv_aload_n hx hb d_L_law_452 rfl (lv_at hl 0 rfl) ?_
  refine lv_iload hx hb d_L_law_453 (lv_at hl 4 rfl) ?_
  refine lv_iconst (v := nI 1) hx hb d_L_law_455 (by decide) ?_
  refine lv_iadd hx hb d_L_law_456 ?_
  rw [nI_add]
  refine rw_sld hx hb hX hbl hbA hS (j := (i + 1)) (by omega) hL hx1 d_L_law_457 ?_
  refine lv_aload_n hx hb d_L_law_458 rfl (lv_at hl 0 rfl) ?_
  refine lv_iload hx hb d_L_law_459 (lv_at hl 4 rfl) ?_
  refine lv_iconst (v := nI 2) hx hb d_L_law_461 (by decide) ?_
  refine lv_iadd hx hb d_L_law_462 ?_
  rw [nI_add]
  refine rw_sld hx hb hX hbl hbA hS (j := (i + 2)) (by omega) hL hx2 d_L_law_463 ?_
  refine lv_aload_n hx hb d_L_law_464 rfl (lv_at hl 3 rfl) ?_
  refine cal_i (wc := (ob, .inl (k 3, 1, .inr (.inl of))) :: cxW k a r t th kd bs us sth mk dr M sM) (wr := mdW k b cd ki ba ow uu te ma va wa) (vx_runSW (As := [.ref (a 0), .int x1, .int x2, .ref ob]) (rest := []) ⟨hx, hb, hml, hown, hts⟩ (w_giver l D k a r t th kd bs us sth mk dr M sM sa hl9 x1 x2 ob of H.size) (cwH9 4 hts wd_292 wd_290 wd_291 wd_0 (by decide) ⟨Nat.le_of_ble_eq_true rfl, Nat.le_of_ble_eq_true rfl⟩) (prH hE hN hS hA hK hP hD (List.Perm.refl _)) rfl rfl hl.1 rfl (lv_room (Nat.le_of_ble_eq_true rfl)) d_L_law_465 ⟨Nat.le_trans (by omega) hc, Nat.le_trans (by omega) hs⟩) (List.Perm.refl _) hP hD hS hA (fun rv w1 H locs hw hpd hS => ?_)
  rcases hw with ⟨rfl, r9, w9, ⟨s0, hs0, rfl, hq, p9, hp9, rfl, rfl, rfl⟩, rfl⟩ | ⟨hne, rfl, rfl⟩
  · skip
    obtain ⟨hP, hD⟩ := hpd (((ob, .inl (k 3, 1, .inr (.inl (vp_updL of (nI 0).toNatClampNeg ((gvF th bs M p9 64 (nI s0)).toInt64))))) :: cxW k a r t th kd bs us sth mk dr M sM) ++ mdW k b cd ki ba ow uu te ma va wa) (List.Perm.refl _)
    have hcd0 : cdVa th (nI s0) (nI p9) = 0 := by simp [cdVa, hq, prB_nI hp9]
    refine lv_istore (lv' := [(5, .int (nI 0)), (0, .ref sb), (1, .ref (a 0)), (2, .ref (b 0)), (3, .ref ob), (4, .int (nI i))]) hx hb d_L_law_468 hl (by decide) rfl (fun ls hl => ?_)
    refine lv_aload_n hx hb d_L_law_470 rfl (lv_at hl 3 rfl) ?_
    refine lv_aload_n hx hb d_L_law_471 rfl (lv_at hl 1 rfl) ?_
    refine lv_iload hx hb d_L_law_472 (lv_at hl 5 rfl) ?_
    refine lv_iconst (v := nI 1) hx hb d_L_law_474 (by decide) ?_
    refine lv_iadd hx hb d_L_law_475 ?_
    rw [nI_add]
    refine rw_sld hx hb hX hbl hbA hS (j := (i + 1)) (by omega) hL hx1 d_L_law_476 ?_
    refine lv_aload_n hx hb d_L_law_477 rfl (lv_at hl 1 rfl) ?_
    refine lv_iload hx hb d_L_law_478 (lv_at hl 5 rfl) ?_
    refine lv_iconst (v := nI 2) hx hb d_L_law_480 (by decide) ?_
    refine lv_iadd hx hb d_L_law_481 ?_
    rw [nI_add]
    refine rw_sld hx hb hX hbl hbA hS (j := (i + 2)) (by omega) hL hx2 d_L_law_482 ?_
    refine cal_i (wc := mdW k b cd ki ba ow uu te ma va wa) (wr := (ob, .inl (k 3, 1, .inr (.inl (vp_updL of (nI 0).toNatClampNeg ((gvF th bs M p9 64 (nI s0)).toInt64))))) :: cxW k a r t th kd bs us sth mk dr M sM) (va_runV (As := [.int (nI s0), .int (nI p9)]) (rest := []) ⟨hx, hb, hml, hown, hts⟩ (c_Mgiver l D k b cd ki ba ow uu te ma va wa th kd bs us sth mk M sM hR (nI s0) (nI p9) H.size) (cwV9 2 hts wd_484 wd_481 wd_482 wd_483 wd_4 (by decide) ⟨Nat.le_of_ble_eq_true rfl, Nat.le_of_ble_eq_true rfl⟩) (prV (q0 := 0) (ci := ciMo) hK hP hD (pm_cm _ _) rfl rfl) rfl rfl hl.1 rfl (lv_room (Nat.le_of_ble_eq_true rfl)) d_L_law_483 ⟨Nat.le_trans (by omega) hc, Nat.le_trans (by omega) hs⟩) (pm_cm _ _) hP hD hS hA (fun rv w1 H locs hw hpd hS => ?_)
    rw [nI_clamp (show p9 < 2 ^ 31 by omega)] at hw
    rw [hcd0] at hw
    obtain ⟨hv, rfl⟩ := hw
    obtain rfl := hv rfl
    obtain ⟨hP, hD⟩ := hpd (((ob, .inl (k 3, 1, .inr (.inl (vp_updL of (nI 0).toNatClampNeg ((gvF th bs M p9 64 (nI s0)).toInt64))))) :: cxW k a r t th kd bs us sth mk dr M sM) ++ mdW k b (nI 0) ki ba ow uu te ma va wa) (pm_cm _ _)
    refine lv_istore (lv' := [(6, .int (gvF th bs M p9 64 (nI s0))), (5, .int (nI 0)), (0, .ref sb), (1, .ref (a 0)), (2, .ref (b 0)), (3, .ref ob), (4, .int (nI i))]) hx hb d_L_law_486 hl (by decide) rfl (fun ls hl => ?_)
    refine lv_aload_n hx hb d_L_law_488 rfl (lv_at hl 4 rfl) ?_
    refine cal_i (wc := mdW k b (nI 0) ki ba ow uu te ma va wa) (wr := (ob, .inl (k 3, 1, .inr (.inl (vp_updL of (nI 0).toNatClampNeg ((gvF th bs M p9 64 (nI s0)).toInt64))))) :: cxW k a r t th kd bs us sth mk dr M sM) (va_runV (As := []) (rest := []) ⟨hx, hb, hml, hown, hts⟩ (c_Mthrown l D k b (nI 0) ki ba ow uu te ma va wa H.size) (cwV9 0 hts wd_430 wd_427 wd_428 wd_429 wd_4 (by decide) ⟨Nat.le_of_ble_eq_true rfl, Nat.le_of_ble_eq_true rfl⟩) (prV (q0 := 0) (ci := ciMo) hK hP hD (pm_cm _ _) rfl rfl) rfl rfl hl.1 rfl (lv_room (Nat.le_of_ble_eq_true rfl)) d_L_law_489 ⟨Nat.le_trans (by omega) hc, Nat.le_trans (by omega) hs⟩) (pm_cm _ _) hP hD hS hA (fun rv w1 H locs hw hpd hS => ?_)
    obtain ⟨rfl, rfl⟩ := hw
    obtain ⟨hP, hD⟩ := hpd (((ob, .inl (k 3, 1, .inr (.inl (vp_updL of (nI 0).toNatClampNeg ((gvF th bs M p9 64 (nI s0)).toInt64))))) :: cxW k a r t th kd bs us sth mk dr M sM) ++ mdW k b (nI 0) ki ba ow uu te ma va wa) (pm_cm _ _)
    refine lv_iload hx hb d_L_law_492 (lv_at hl 1 rfl) ?_
    refine lv_icmp_eq (tgt := 499) hx hb d_L_law_494 (by decide) (fun c494 => ?_) (fun c494 => ?_)
    · skip
      refine lv_iload hx hb d_L_law_499 (lv_at hl 1 rfl) ?_
      refine lv_if_ne (tgt := 516) hx hb d_L_law_501 (by decide) (fun c501 => ?_) (fun c501 => ?_)
      · skip
        exact absurd (by decide) c501
      · skip
        refine lv_aload_n hx hb d_L_law_504 rfl (lv_at hl 5 rfl) ?_
        refine lv_iconst (v := nI 0) hx hb d_L_law_505 (by decide) ?_
        refine va_lald hx hb hK.1 hP 0 3 rfl rfl vin_0 d_L_law_506 ?_
        rw [show (vp_updL of (nI 0).toNatClampNeg ((gvF th bs M p9 64 (nI s0)).toInt64)) (nI 0).toNatClampNeg = (gvF th bs M p9 64 (nI s0)).toInt64 by simp [vp_updL]]
        refine lv_iload hx hb d_L_law_507 (lv_at hl 0 rfl) ?_
        refine lv_i2l (v := (gvF th bs M p9 64 (nI s0)).toInt64) hx hb d_L_law_509 rfl ?_
        refine W.lcmp hx hb d_L_law_510 ?_
        refine lv_if_eq (tgt := 516) hx hb d_L_law_511 (by decide) (fun c511 => ?_) (fun c511 => ?_)
        · skip
          refine lv_goto (tgt := 1234) hx hb d_L_law_516 (by decide) ?_
          refine W.widen (k := cells + 4) (n := slots + 24) (by omega) (by omega) ?_
          exact hgo th kd bs us sth mk dr M sM (nI 0) ki ba ow uu te ma va wa (vp_updL of (nI 0).toNatClampNeg ((gvF th bs M p9 64 (nI s0)).toInt64)) H locs ls hR hP hD hS (lv_sub hl [2, 3, 4, 5, 6] rfl)
        · skip
          exact absurd (lcm_self _) c511
    · skip
      exact absurd (by decide) c494
  · skip
    obtain ⟨hP, hD⟩ := hpd (((ob, .inl (k 3, 1, .inr (.inl of))) :: cxW k a r t th kd bs us sth mk dr M sM) ++ mdW k b cd ki ba ow uu te ma va wa) (List.Perm.refl _)
    refine lv_istore (lv' := [(5, .int ((nI (cdVa th x1 x2)))), (0, .ref sb), (1, .ref (a 0)), (2, .ref (b 0)), (3, .ref ob), (4, .int (nI i))]) hx hb d_L_law_468 hl (by decide) rfl (fun ls hl => ?_)
    refine lv_aload_n hx hb d_L_law_470 rfl (lv_at hl 3 rfl) ?_
    refine lv_aload_n hx hb d_L_law_471 rfl (lv_at hl 1 rfl) ?_
    refine lv_iload hx hb d_L_law_472 (lv_at hl 5 rfl) ?_
    refine lv_iconst (v := nI 1) hx hb d_L_law_474 (by decide) ?_
    refine lv_iadd hx hb d_L_law_475 ?_
    rw [nI_add]
    refine rw_sld hx hb hX hbl hbA hS (j := (i + 1)) (by omega) hL hx1 d_L_law_476 ?_
    refine lv_aload_n hx hb d_L_law_477 rfl (lv_at hl 1 rfl) ?_
    refine lv_iload hx hb d_L_law_478 (lv_at hl 5 rfl) ?_
    refine lv_iconst (v := nI 2) hx hb d_L_law_480 (by decide) ?_
    refine lv_iadd hx hb d_L_law_481 ?_
    rw [nI_add]
    refine rw_sld hx hb hX hbl hbA hS (j := (i + 2)) (by omega) hL hx2 d_L_law_482 ?_
    refine cal_i (wc := mdW k b cd ki ba ow uu te ma va wa) (wr := (ob, .inl (k 3, 1, .inr (.inl of))) :: cxW k a r t th kd bs us sth mk dr M sM) (va_runV (As := [.int x1, .int x2]) (rest := []) ⟨hx, hb, hml, hown, hts⟩ (c_Mgiver l D k b cd ki ba ow uu te ma va wa th kd bs us sth mk M sM hR x1 x2 H.size) (cwV9 2 hts wd_484 wd_481 wd_482 wd_483 wd_4 (by decide) ⟨Nat.le_of_ble_eq_true rfl, Nat.le_of_ble_eq_true rfl⟩) (prV (q0 := 0) (ci := ciMo) hK hP hD (pm_cm _ _) rfl rfl) rfl rfl hl.1 rfl (lv_room (Nat.le_of_ble_eq_true rfl)) d_L_law_483 ⟨Nat.le_trans (by omega) hc, Nat.le_trans (by omega) hs⟩) (pm_cm _ _) hP hD hS hA (fun rv w1 H locs hw hpd hS => ?_)
    obtain ⟨-, rfl⟩ := hw
    obtain ⟨hP, hD⟩ := hpd (((ob, .inl (k 3, 1, .inr (.inl of))) :: cxW k a r t th kd bs us sth mk dr M sM) ++ mdW k b ((nI (cdVa th x1 x2))) ki ba ow uu te ma va wa) (pm_cm _ _)
    refine lv_istore (lv' := [(6, .int rv), (5, .int ((nI (cdVa th x1 x2)))), (0, .ref sb), (1, .ref (a 0)), (2, .ref (b 0)), (3, .ref ob), (4, .int (nI i))]) hx hb d_L_law_486 hl (by decide) rfl (fun ls hl => ?_)
    refine lv_aload_n hx hb d_L_law_488 rfl (lv_at hl 4 rfl) ?_
    refine cal_i (wc := mdW k b ((nI (cdVa th x1 x2))) ki ba ow uu te ma va wa) (wr := (ob, .inl (k 3, 1, .inr (.inl of))) :: cxW k a r t th kd bs us sth mk dr M sM) (va_runV (As := []) (rest := []) ⟨hx, hb, hml, hown, hts⟩ (c_Mthrown l D k b ((nI (cdVa th x1 x2))) ki ba ow uu te ma va wa H.size) (cwV9 0 hts wd_430 wd_427 wd_428 wd_429 wd_4 (by decide) ⟨Nat.le_of_ble_eq_true rfl, Nat.le_of_ble_eq_true rfl⟩) (prV (q0 := 0) (ci := ciMo) hK hP hD (pm_cm _ _) rfl rfl) rfl rfl hl.1 rfl (lv_room (Nat.le_of_ble_eq_true rfl)) d_L_law_489 ⟨Nat.le_trans (by omega) hc, Nat.le_trans (by omega) hs⟩) (pm_cm _ _) hP hD hS hA (fun rv w1 H locs hw hpd hS => ?_)
    obtain ⟨rfl, rfl⟩ := hw
    obtain ⟨hP, hD⟩ := hpd (((ob, .inl (k 3, 1, .inr (.inl of))) :: cxW k a r t th kd bs us sth mk dr M sM) ++ mdW k b ((nI (cdVa th x1 x2))) ki ba ow uu te ma va wa) (pm_cm _ _)
    refine lv_iload hx hb d_L_law_492 (lv_at hl 1 rfl) ?_
    refine lv_icmp_eq (tgt := 499) hx hb d_L_law_494 (by decide) (fun c494 => ?_) (fun c494 => ?_)
    · skip
      refine lv_iload hx hb d_L_law_499 (lv_at hl 1 rfl) ?_
      refine lv_if_ne (tgt := 516) hx hb d_L_law_501 (by decide) (fun c501 => ?_) (fun c501 => ?_)
      · skip
        refine lv_goto (tgt := 1234) hx hb d_L_law_516 (by decide) ?_
        refine W.widen (k := cells + 4) (n := slots + 24) (by omega) (by omega) ?_
        exact hgo th kd bs us sth mk dr M sM ((nI (cdVa th x1 x2))) ki ba ow uu te ma va wa of H locs ls hR hP hD hS (lv_sub hl [2, 3, 4, 5, 6] rfl)
      · skip
        exact absurd c501 (nz_of hne lt_cdVa)
    · skip
      exact absurd rfl c494

set_option maxRecDepth 100000 in
set_option maxHeartbeats 4000000 in
theorem k_style {p : Program} {e : Env} {s : State} {m : MethodId} {args : Array Value} {below : List Frame} {meth : Method} {c : Code} (l : Launch) (D : va_G) (k : Nat → ClassId) (a r t b : Nat → Nat) (ob : Nat) (sa : Nat → Nat) (A : Nat → Prop) (Q : State → Prop) (sb L : Nat) (xs : Nat → Int32) (hl9 : l.stackTraces = false) (hx : p.tables.exec = Jvm.exec) (hb : c.code = code) (hml : c.maxLocals = 7) (hown : s.vm.findClass "StyleSheetLaw" = some m.cls) (hts : ∀ w ∈ wG, w.before args s = true) (hA : ∀ q, s.heap.size ≤ q → A q) (hK : bK D (tsK k) s) (hE : bEV Sts sa A s s.heap) (hN : lNc s) (hX : va_X sb L xs s s.heap) (hbl : sb < s.heap.size) (hbA : ¬ A sb) (hL : L ≤ 2560) (th kd bs us sth mk dr : Nat → Int32) (M sM : Nat → Nat → Int32) (cd : Int32) (ki ba ow uu te ma va wa : Nat → Int32) (of : Nat → Int64) (hR : RI th kd bs us sth mk M sM ki ba ow uu te ma va) (i : Nat) (hi : i + 4 < L) (cells slots : Nat) (hc : cells + 4 ≤ room_1.cells) (hs : slots + 24 ≤ room_1.slots) (H : Heap) (locs : List Loc) (ls : Array Slot) (hP : va_P D vwCl (((ob, .inl (k 3, 1, .inr (.inl of))) :: cxW k a r t th kd bs us sth mk dr M sM) ++ mdW k b cd ki ba ow uu te ma va wa) H) (hD : va_D A (((ob, .inl (k 3, 1, .inr (.inl of))) :: cxW k a r t th kd bs us sth mk dr M sM) ++ mdW k b cd ki ba ow uu te ma va wa)) (hS : va_S A s.heap H locs) (hl : lv_has ls 7 [(0, .ref sb), (1, .ref (a 0)), (2, .ref (b 0)), (3, .ref ob), (4, .int (nI i))]) (hgo : ∀ (th kd bs us sth mk dr : Nat → Int32) (M sM : Nat → Nat → Int32) (cd : Int32) (ki ba ow uu te ma va wa : Nat → Int32) (of : Nat → Int64) (H : Heap) (locs : List Loc) (ls : Array Slot), RI th kd bs us sth mk M sM ki ba ow uu te ma va → va_P D vwCl (((ob, .inl (k 3, 1, .inr (.inl of))) :: cxW k a r t th kd bs us sth mk dr M sM) ++ mdW k b cd ki ba ow uu te ma va wa) H → va_D A (((ob, .inl (k 3, 1, .inr (.inl of))) :: cxW k a r t th kd bs us sth mk dr M sM) ++ mdW k b cd ki ba ow uu te ma va wa) → va_S A s.heap H locs → lv_has ls 7 [(0, .ref sb), (1, .ref (a 0)), (2, .ref (b 0)), (3, .ref ob), (4, .int (nI i))] → W p l e room_1 s m args below meth c H locs (cells + 4) (slots + 24) Q (F0 m 1234 ls [])) : W p l e room_1 s m args below meth c H locs cells slots Q (F0 m 519 ls []) := by
  obtain ⟨x1, hx1⟩ : ∃ x : Int32, xs (i + 1) = x := ⟨_, rfl⟩
  obtain ⟨x2, hx2⟩ : ∃ x : Int32, xs (i + 2) = x := ⟨_, rfl⟩
  refine lv_aload_n hx hb d_L_law_519 rfl (lv_at hl 1 rfl) ?_
  refine lv_aload_n hx hb d_L_law_520 rfl (lv_at hl 0 rfl) ?_
  refine lv_iload hx hb d_L_law_521 (lv_at hl 4 rfl) ?_
  refine lv_iconst (v := nI 1) hx hb d_L_law_523 (by decide) ?_
  refine lv_iadd hx hb d_L_law_524 ?_
  rw [nI_add]
  refine rw_sld hx hb hX hbl hbA hS (j := (i + 1)) (by omega) hL hx1 d_L_law_525 ?_
  refine lv_aload_n hx hb d_L_law_526 rfl (lv_at hl 0 rfl) ?_
  refine lv_iload hx hb d_L_law_527 (lv_at hl 4 rfl) ?_
  refine lv_iconst (v := nI 2) hx hb d_L_law_529 (by decide) ?_
  refine lv_iadd hx hb d_L_law_530 ?_
  rw [nI_add]
  refine rw_sld hx hb hX hbl hbA hS (j := (i + 2)) (by omega) hL hx2 d_L_law_531 ?_
  refine lv_aload_n hx hb d_L_law_532 rfl (lv_at hl 3 rfl) ?_
  refine cal_i (wc := (ob, .inl (k 3, 1, .inr (.inl of))) :: cxW k a r t th kd bs us sth mk dr M sM) (wr := mdW k b cd ki ba ow uu te ma va wa) (vx_runSW (As := [.ref (a 0), .int x1, .int x2, .ref ob]) (rest := []) ⟨hx, hb, hml, hown, hts⟩ (w_style l D k a r t th kd bs us sth mk dr M sM sa hl9 x1 x2 ob of H.size) (cwH9 4 hts wd_299 wd_297 wd_298 wd_0 (by decide) ⟨Nat.le_of_ble_eq_true rfl, Nat.le_of_ble_eq_true rfl⟩) (prH hE hN hS hA hK hP hD (List.Perm.refl _)) rfl rfl hl.1 rfl (lv_room (Nat.le_of_ble_eq_true rfl)) d_L_law_533 ⟨Nat.le_trans (by omega) hc, Nat.le_trans (by omega) hs⟩) (List.Perm.refl _) hP hD hS hA (fun rv w1 H locs hw hpd hS => ?_)
  rcases hw with ⟨rfl, r9, w9, ⟨s0, hs0, rfl, hq, hwh, rfl, rfl⟩, rfl⟩ | ⟨hne, rfl, rfl⟩
  · skip
    obtain ⟨hP, hD⟩ := hpd (((ob, .inl (k 3, 1, .inr (.inl (vp_updL of (nI 0).toNatClampNeg ((stF th kd bs M s0 x2).toInt64))))) :: cxW k a r t th kd bs us sth mk dr M sM) ++ mdW k b cd ki ba ow uu te ma va wa) (List.Perm.refl _)
    have hcd0 : cdSt th (nI s0) x2 = 0 := by simp [cdSt, hq, hwh]
    refine lv_istore (lv' := [(5, .int (nI 0)), (0, .ref sb), (1, .ref (a 0)), (2, .ref (b 0)), (3, .ref ob), (4, .int (nI i))]) hx hb d_L_law_536 hl (by decide) rfl (fun ls hl => ?_)
    refine lv_aload_n hx hb d_L_law_538 rfl (lv_at hl 3 rfl) ?_
    refine lv_aload_n hx hb d_L_law_539 rfl (lv_at hl 1 rfl) ?_
    refine lv_iload hx hb d_L_law_540 (lv_at hl 5 rfl) ?_
    refine lv_iconst (v := nI 1) hx hb d_L_law_542 (by decide) ?_
    refine lv_iadd hx hb d_L_law_543 ?_
    rw [nI_add]
    refine rw_sld hx hb hX hbl hbA hS (j := (i + 1)) (by omega) hL hx1 d_L_law_544 ?_
    refine lv_aload_n hx hb d_L_law_545 rfl (lv_at hl 1 rfl) ?_
    refine lv_iload hx hb d_L_law_546 (lv_at hl 5 rfl) ?_
    refine lv_iconst (v := nI 2) hx hb d_L_law_548 (by decide) ?_
    refine lv_iadd hx hb d_L_law_549 ?_
    rw [nI_add]
    refine rw_sld hx hb hX hbl hbA hS (j := (i + 2)) (by omega) hL hx2 d_L_law_550 ?_
    refine cal_i (wc := mdW k b cd ki ba ow uu te ma va wa) (wr := (ob, .inl (k 3, 1, .inr (.inl (vp_updL of (nI 0).toNatClampNeg ((stF th kd bs M s0 x2).toInt64))))) :: cxW k a r t th kd bs us sth mk dr M sM) (va_runV (As := [.int (nI s0), .int x2]) (rest := []) ⟨hx, hb, hml, hown, hts⟩ (c_Mstyle l D k b cd ki ba ow uu te ma va wa th kd bs us sth mk M sM hR (nI s0) x2 H.size) (cwV9 2 hts wd_488 wd_485 wd_486 wd_487 wd_4 (by decide) ⟨Nat.le_of_ble_eq_true rfl, Nat.le_of_ble_eq_true rfl⟩) (prV (q0 := 0) (ci := ciMo) hK hP hD (pm_cm _ _) rfl rfl) rfl rfl hl.1 rfl (lv_room (Nat.le_of_ble_eq_true rfl)) d_L_law_551 ⟨Nat.le_trans (by omega) hc, Nat.le_trans (by omega) hs⟩) (pm_cm _ _) hP hD hS hA (fun rv w1 H locs hw hpd hS => ?_)
    rw [nI_clamp (show s0 < 2 ^ 31 by omega)] at hw
    rw [hcd0] at hw
    obtain ⟨hv, rfl⟩ := hw
    obtain rfl := hv rfl
    obtain ⟨hP, hD⟩ := hpd (((ob, .inl (k 3, 1, .inr (.inl (vp_updL of (nI 0).toNatClampNeg ((stF th kd bs M s0 x2).toInt64))))) :: cxW k a r t th kd bs us sth mk dr M sM) ++ mdW k b (nI 0) ki ba ow uu te ma va wa) (pm_cm _ _)
    refine lv_istore (lv' := [(6, .int (stF th kd bs M s0 x2)), (5, .int (nI 0)), (0, .ref sb), (1, .ref (a 0)), (2, .ref (b 0)), (3, .ref ob), (4, .int (nI i))]) hx hb d_L_law_554 hl (by decide) rfl (fun ls hl => ?_)
    refine lv_aload_n hx hb d_L_law_556 rfl (lv_at hl 4 rfl) ?_
    refine cal_i (wc := mdW k b (nI 0) ki ba ow uu te ma va wa) (wr := (ob, .inl (k 3, 1, .inr (.inl (vp_updL of (nI 0).toNatClampNeg ((stF th kd bs M s0 x2).toInt64))))) :: cxW k a r t th kd bs us sth mk dr M sM) (va_runV (As := []) (rest := []) ⟨hx, hb, hml, hown, hts⟩ (c_Mthrown l D k b (nI 0) ki ba ow uu te ma va wa H.size) (cwV9 0 hts wd_430 wd_427 wd_428 wd_429 wd_4 (by decide) ⟨Nat.le_of_ble_eq_true rfl, Nat.le_of_ble_eq_true rfl⟩) (prV (q0 := 0) (ci := ciMo) hK hP hD (pm_cm _ _) rfl rfl) rfl rfl hl.1 rfl (lv_room (Nat.le_of_ble_eq_true rfl)) d_L_law_557 ⟨Nat.le_trans (by omega) hc, Nat.le_trans (by omega) hs⟩) (pm_cm _ _) hP hD hS hA (fun rv w1 H locs hw hpd hS => ?_)
    obtain ⟨rfl, rfl⟩ := hw
    obtain ⟨hP, hD⟩ := hpd (((ob, .inl (k 3, 1, .inr (.inl (vp_updL of (nI 0).toNatClampNeg ((stF th kd bs M s0 x2).toInt64))))) :: cxW k a r t th kd bs us sth mk dr M sM) ++ mdW k b (nI 0) ki ba ow uu te ma va wa) (pm_cm _ _)
    refine lv_iload hx hb d_L_law_560 (lv_at hl 1 rfl) ?_
    refine lv_icmp_eq (tgt := 567) hx hb d_L_law_562 (by decide) (fun c562 => ?_) (fun c562 => ?_)
    · skip
      refine lv_iload hx hb d_L_law_567 (lv_at hl 1 rfl) ?_
      refine lv_if_ne (tgt := 584) hx hb d_L_law_569 (by decide) (fun c569 => ?_) (fun c569 => ?_)
      · skip
        exact absurd (by decide) c569
      · skip
        refine lv_aload_n hx hb d_L_law_572 rfl (lv_at hl 5 rfl) ?_
        refine lv_iconst (v := nI 0) hx hb d_L_law_573 (by decide) ?_
        refine va_lald hx hb hK.1 hP 0 3 rfl rfl vin_0 d_L_law_574 ?_
        rw [show (vp_updL of (nI 0).toNatClampNeg ((stF th kd bs M s0 x2).toInt64)) (nI 0).toNatClampNeg = (stF th kd bs M s0 x2).toInt64 by simp [vp_updL]]
        refine lv_iload hx hb d_L_law_575 (lv_at hl 0 rfl) ?_
        refine lv_i2l (v := (stF th kd bs M s0 x2).toInt64) hx hb d_L_law_577 rfl ?_
        refine W.lcmp hx hb d_L_law_578 ?_
        refine lv_if_eq (tgt := 584) hx hb d_L_law_579 (by decide) (fun c579 => ?_) (fun c579 => ?_)
        · skip
          refine lv_goto (tgt := 1234) hx hb d_L_law_584 (by decide) ?_
          refine W.widen (k := cells + 4) (n := slots + 24) (by omega) (by omega) ?_
          exact hgo th kd bs us sth mk dr M sM (nI 0) ki ba ow uu te ma va wa (vp_updL of (nI 0).toNatClampNeg ((stF th kd bs M s0 x2).toInt64)) H locs ls hR hP hD hS (lv_sub hl [2, 3, 4, 5, 6] rfl)
        · skip
          exact absurd (lcm_self _) c579
    · skip
      exact absurd (by decide) c562
  · skip
    obtain ⟨hP, hD⟩ := hpd (((ob, .inl (k 3, 1, .inr (.inl of))) :: cxW k a r t th kd bs us sth mk dr M sM) ++ mdW k b cd ki ba ow uu te ma va wa) (List.Perm.refl _)
    refine lv_istore (lv' := [(5, .int ((nI (cdSt th x1 x2)))), (0, .ref sb), (1, .ref (a 0)), (2, .ref (b 0)), (3, .ref ob), (4, .int (nI i))]) hx hb d_L_law_536 hl (by decide) rfl (fun ls hl => ?_)
    refine lv_aload_n hx hb d_L_law_538 rfl (lv_at hl 3 rfl) ?_
    refine lv_aload_n hx hb d_L_law_539 rfl (lv_at hl 1 rfl) ?_
    refine lv_iload hx hb d_L_law_540 (lv_at hl 5 rfl) ?_
    refine lv_iconst (v := nI 1) hx hb d_L_law_542 (by decide) ?_
    refine lv_iadd hx hb d_L_law_543 ?_
    rw [nI_add]
    refine rw_sld hx hb hX hbl hbA hS (j := (i + 1)) (by omega) hL hx1 d_L_law_544 ?_
    refine lv_aload_n hx hb d_L_law_545 rfl (lv_at hl 1 rfl) ?_
    refine lv_iload hx hb d_L_law_546 (lv_at hl 5 rfl) ?_
    refine lv_iconst (v := nI 2) hx hb d_L_law_548 (by decide) ?_
    refine lv_iadd hx hb d_L_law_549 ?_
    rw [nI_add]
    refine rw_sld hx hb hX hbl hbA hS (j := (i + 2)) (by omega) hL hx2 d_L_law_550 ?_
    refine cal_i (wc := mdW k b cd ki ba ow uu te ma va wa) (wr := (ob, .inl (k 3, 1, .inr (.inl of))) :: cxW k a r t th kd bs us sth mk dr M sM) (va_runV (As := [.int x1, .int x2]) (rest := []) ⟨hx, hb, hml, hown, hts⟩ (c_Mstyle l D k b cd ki ba ow uu te ma va wa th kd bs us sth mk M sM hR x1 x2 H.size) (cwV9 2 hts wd_488 wd_485 wd_486 wd_487 wd_4 (by decide) ⟨Nat.le_of_ble_eq_true rfl, Nat.le_of_ble_eq_true rfl⟩) (prV (q0 := 0) (ci := ciMo) hK hP hD (pm_cm _ _) rfl rfl) rfl rfl hl.1 rfl (lv_room (Nat.le_of_ble_eq_true rfl)) d_L_law_551 ⟨Nat.le_trans (by omega) hc, Nat.le_trans (by omega) hs⟩) (pm_cm _ _) hP hD hS hA (fun rv w1 H locs hw hpd hS => ?_)
    obtain ⟨-, rfl⟩ := hw
    obtain ⟨hP, hD⟩ := hpd (((ob, .inl (k 3, 1, .inr (.inl of))) :: cxW k a r t th kd bs us sth mk dr M sM) ++ mdW k b ((nI (cdSt th x1 x2))) ki ba ow uu te ma va wa) (pm_cm _ _)
    refine lv_istore (lv' := [(6, .int rv), (5, .int ((nI (cdSt th x1 x2)))), (0, .ref sb), (1, .ref (a 0)), (2, .ref (b 0)), (3, .ref ob), (4, .int (nI i))]) hx hb d_L_law_554 hl (by decide) rfl (fun ls hl => ?_)
    refine lv_aload_n hx hb d_L_law_556 rfl (lv_at hl 4 rfl) ?_
    refine cal_i (wc := mdW k b ((nI (cdSt th x1 x2))) ki ba ow uu te ma va wa) (wr := (ob, .inl (k 3, 1, .inr (.inl of))) :: cxW k a r t th kd bs us sth mk dr M sM) (va_runV (As := []) (rest := []) ⟨hx, hb, hml, hown, hts⟩ (c_Mthrown l D k b ((nI (cdSt th x1 x2))) ki ba ow uu te ma va wa H.size) (cwV9 0 hts wd_430 wd_427 wd_428 wd_429 wd_4 (by decide) ⟨Nat.le_of_ble_eq_true rfl, Nat.le_of_ble_eq_true rfl⟩) (prV (q0 := 0) (ci := ciMo) hK hP hD (pm_cm _ _) rfl rfl) rfl rfl hl.1 rfl (lv_room (Nat.le_of_ble_eq_true rfl)) d_L_law_557 ⟨Nat.le_trans (by omega) hc, Nat.le_trans (by omega) hs⟩) (pm_cm _ _) hP hD hS hA (fun rv w1 H locs hw hpd hS => ?_)
    obtain ⟨rfl, rfl⟩ := hw
    obtain ⟨hP, hD⟩ := hpd (((ob, .inl (k 3, 1, .inr (.inl of))) :: cxW k a r t th kd bs us sth mk dr M sM) ++ mdW k b ((nI (cdSt th x1 x2))) ki ba ow uu te ma va wa) (pm_cm _ _)
    refine lv_iload hx hb d_L_law_560 (lv_at hl 1 rfl) ?_
    refine lv_icmp_eq (tgt := 567) hx hb d_L_law_562 (by decide) (fun c562 => ?_) (fun c562 => ?_)
    · skip
      refine lv_iload hx hb d_L_law_567 (lv_at hl 1 rfl) ?_
      refine lv_if_ne (tgt := 584) hx hb d_L_law_569 (by decide) (fun c569 => ?_) (fun c569 => ?_)
      · skip
        refine lv_goto (tgt := 1234) hx hb d_L_law_584 (by decide) ?_
        refine W.widen (k := cells + 4) (n := slots + 24) (by omega) (by omega) ?_
        exact hgo th kd bs us sth mk dr M sM ((nI (cdSt th x1 x2))) ki ba ow uu te ma va wa of H locs ls hR hP hD hS (lv_sub hl [2, 3, 4, 5, 6] rfl)
      · skip
        exact absurd c569 (nz_of hne lt_cdSt)
    · skip
      exact absurd rfl c562

set_option maxRecDepth 100000 in
set_option maxHeartbeats 4000000 in
theorem k_usual {p : Program} {e : Env} {s : State} {m : MethodId} {args : Array Value} {below : List Frame} {meth : Method} {c : Code} (l : Launch) (D : va_G) (k : Nat → ClassId) (a r t b : Nat → Nat) (ob : Nat) (sa : Nat → Nat) (A : Nat → Prop) (Q : State → Prop) (sb L : Nat) (xs : Nat → Int32) (hl9 : l.stackTraces = false) (hx : p.tables.exec = Jvm.exec) (hb : c.code = code) (hml : c.maxLocals = 7) (hown : s.vm.findClass "StyleSheetLaw" = some m.cls) (hts : ∀ w ∈ wG, w.before args s = true) (hA : ∀ q, s.heap.size ≤ q → A q) (hK : bK D (tsK k) s) (hE : bEV Sts sa A s s.heap) (hN : lNc s) (hX : va_X sb L xs s s.heap) (hbl : sb < s.heap.size) (hbA : ¬ A sb) (hL : L ≤ 2560) (th kd bs us sth mk dr : Nat → Int32) (M sM : Nat → Nat → Int32) (cd : Int32) (ki ba ow uu te ma va wa : Nat → Int32) (of : Nat → Int64) (hR : RI th kd bs us sth mk M sM ki ba ow uu te ma va) (i : Nat) (hi : i + 4 < L) (cells slots : Nat) (hc : cells + 4 ≤ room_1.cells) (hs : slots + 24 ≤ room_1.slots) (H : Heap) (locs : List Loc) (ls : Array Slot) (hP : va_P D vwCl (((ob, .inl (k 3, 1, .inr (.inl of))) :: cxW k a r t th kd bs us sth mk dr M sM) ++ mdW k b cd ki ba ow uu te ma va wa) H) (hD : va_D A (((ob, .inl (k 3, 1, .inr (.inl of))) :: cxW k a r t th kd bs us sth mk dr M sM) ++ mdW k b cd ki ba ow uu te ma va wa)) (hS : va_S A s.heap H locs) (hl : lv_has ls 7 [(0, .ref sb), (1, .ref (a 0)), (2, .ref (b 0)), (3, .ref ob), (4, .int (nI i))]) (hgo : ∀ (th kd bs us sth mk dr : Nat → Int32) (M sM : Nat → Nat → Int32) (cd : Int32) (ki ba ow uu te ma va wa : Nat → Int32) (of : Nat → Int64) (H : Heap) (locs : List Loc) (ls : Array Slot), RI th kd bs us sth mk M sM ki ba ow uu te ma va → va_P D vwCl (((ob, .inl (k 3, 1, .inr (.inl of))) :: cxW k a r t th kd bs us sth mk dr M sM) ++ mdW k b cd ki ba ow uu te ma va wa) H → va_D A (((ob, .inl (k 3, 1, .inr (.inl of))) :: cxW k a r t th kd bs us sth mk dr M sM) ++ mdW k b cd ki ba ow uu te ma va wa) → va_S A s.heap H locs → lv_has ls 7 [(0, .ref sb), (1, .ref (a 0)), (2, .ref (b 0)), (3, .ref ob), (4, .int (nI i))] → W p l e room_1 s m args below meth c H locs (cells + 4) (slots + 24) Q (F0 m 1234 ls [])) : W p l e room_1 s m args below meth c H locs cells slots Q (F0 m 587 ls []) := by
  obtain ⟨x1, hx1⟩ : ∃ x : Int32, xs (i + 1) = x := ⟨_, rfl⟩
  obtain ⟨x2, hx2⟩ : ∃ x : Int32, xs (i + 2) = x := ⟨_, rfl⟩
  refine lv_aload_n hx hb d_L_law_587 rfl (lv_at hl 1 rfl) ?_
  refine lv_aload_n hx hb d_L_law_588 rfl (lv_at hl 0 rfl) ?_
  refine lv_iload hx hb d_L_law_589 (lv_at hl 4 rfl) ?_
  refine lv_iconst (v := nI 1) hx hb d_L_law_591 (by decide) ?_
  refine lv_iadd hx hb d_L_law_592 ?_
  rw [nI_add]
  refine rw_sld hx hb hX hbl hbA hS (j := (i + 1)) (by omega) hL hx1 d_L_law_593 ?_
  refine lv_aload_n hx hb d_L_law_594 rfl (lv_at hl 0 rfl) ?_
  refine lv_iload hx hb d_L_law_595 (lv_at hl 4 rfl) ?_
  refine lv_iconst (v := nI 2) hx hb d_L_law_597 (by decide) ?_
  refine lv_iadd hx hb d_L_law_598 ?_
  rw [nI_add]
  refine rw_sld hx hb hX hbl hbA hS (j := (i + 2)) (by omega) hL hx2 d_L_law_599 ?_
  refine cal_i (wc := cxW k a r t th kd bs us sth mk dr M sM) (wr := (ob, .inl (k 3, 1, .inr (.inl of))) :: mdW k b cd ki ba ow uu te ma va wa) (vx_runSW (As := [.ref (a 0), .int x1, .int x2]) (rest := []) ⟨hx, hb, hml, hown, hts⟩ (w_usual l D k a r t th kd bs us sth mk dr M sM sa hl9 x1 x2 H.size) (cwH9 3 hts wd_311 wd_309 wd_310 wd_0 (by decide) ⟨Nat.le_of_ble_eq_true rfl, Nat.le_of_ble_eq_true rfl⟩) (prH hE hN hS hA hK hP hD (List.perm_middle.symm)) rfl rfl hl.1 rfl (lv_room (Nat.le_of_ble_eq_true rfl)) d_L_law_600 ⟨Nat.le_trans (by omega) hc, Nat.le_trans (by omega) hs⟩) (List.perm_middle.symm) hP hD hS hA (fun rv w1 H locs hw hpd hS => ?_)
  rcases hw with ⟨rfl, ⟨p9, hp9, rfl, hvl, rfl⟩⟩ | ⟨hne, rfl, rfl⟩
  · skip
    obtain ⟨hP, hD⟩ := hpd (((ob, .inl (k 3, 1, .inr (.inl of))) :: cxW k a r t th kd bs (upd us p9 x2) sth mk dr M sM) ++ mdW k b cd ki ba ow uu te ma va wa) (List.perm_middle)
    have hcd0 : cdUs (nI p9) x2 = 0 := by simp [cdUs, prB_nI hp9, hvl]
    refine lv_istore (lv' := [(5, .int (nI 0)), (0, .ref sb), (1, .ref (a 0)), (2, .ref (b 0)), (3, .ref ob), (4, .int (nI i))]) hx hb d_L_law_603 hl (by decide) rfl (fun ls hl => ?_)
    refine lv_aload_n hx hb d_L_law_605 rfl (lv_at hl 3 rfl) ?_
    refine lv_aload_n hx hb d_L_law_606 rfl (lv_at hl 1 rfl) ?_
    refine lv_iload hx hb d_L_law_607 (lv_at hl 5 rfl) ?_
    refine lv_iconst (v := nI 1) hx hb d_L_law_609 (by decide) ?_
    refine lv_iadd hx hb d_L_law_610 ?_
    rw [nI_add]
    refine rw_sld hx hb hX hbl hbA hS (j := (i + 1)) (by omega) hL hx1 d_L_law_611 ?_
    refine lv_aload_n hx hb d_L_law_612 rfl (lv_at hl 1 rfl) ?_
    refine lv_iload hx hb d_L_law_613 (lv_at hl 5 rfl) ?_
    refine lv_iconst (v := nI 2) hx hb d_L_law_615 (by decide) ?_
    refine lv_iadd hx hb d_L_law_616 ?_
    rw [nI_add]
    refine rw_sld hx hb hX hbl hbA hS (j := (i + 2)) (by omega) hL hx2 d_L_law_617 ?_
    refine cal_v (wc := mdW k b cd ki ba ow uu te ma va wa) (wr := (ob, .inl (k 3, 1, .inr (.inl of))) :: cxW k a r t th kd bs (upd us p9 x2) sth mk dr M sM) (va_runV (As := [.int (nI p9), .int x2]) (rest := []) ⟨hx, hb, hml, hown, hts⟩ (c_Musual l D k b cd ki ba ow uu te ma va wa th kd bs us sth mk M sM hR (nI p9) x2 H.size) (cwV9 2 hts wd_500 wd_497 wd_498 wd_499 wd_4 (by decide) ⟨Nat.le_of_ble_eq_true rfl, Nat.le_of_ble_eq_true rfl⟩) (prV (q0 := 0) (ci := ciMo) hK hP hD (pm_cm _ _) rfl rfl) rfl rfl hl.1 rfl (lv_room (Nat.le_of_ble_eq_true rfl)) d_L_law_618 ⟨Nat.le_trans (by omega) hc, Nat.le_trans (by omega) hs⟩) (pm_cm _ _) hP hD hS hA (fun w1 H locs hw hpd hS => ?_)
    rw [nI_clamp (show p9 < 2 ^ 31 by omega)] at hw
    obtain rfl := hw.1 hcd0
    obtain ⟨hP, hD⟩ := hpd (((ob, .inl (k 3, 1, .inr (.inl of))) :: cxW k a r t th kd bs (upd us p9 x2) sth mk dr M sM) ++ mdW k b (nI 0) ki ba ow (upd uu p9 x2) te ma va wa) (pm_cm _ _)
    refine lv_aload_n hx hb d_L_law_621 rfl (lv_at hl 3 rfl) ?_
    refine cal_i (wc := mdW k b (nI 0) ki ba ow (upd uu p9 x2) te ma va wa) (wr := (ob, .inl (k 3, 1, .inr (.inl of))) :: cxW k a r t th kd bs (upd us p9 x2) sth mk dr M sM) (va_runV (As := []) (rest := []) ⟨hx, hb, hml, hown, hts⟩ (c_Mthrown l D k b (nI 0) ki ba ow (upd uu p9 x2) te ma va wa H.size) (cwV9 0 hts wd_430 wd_427 wd_428 wd_429 wd_4 (by decide) ⟨Nat.le_of_ble_eq_true rfl, Nat.le_of_ble_eq_true rfl⟩) (prV (q0 := 0) (ci := ciMo) hK hP hD (pm_cm _ _) rfl rfl) rfl rfl hl.1 rfl (lv_room (Nat.le_of_ble_eq_true rfl)) d_L_law_622 ⟨Nat.le_trans (by omega) hc, Nat.le_trans (by omega) hs⟩) (pm_cm _ _) hP hD hS hA (fun rv w1 H locs hw hpd hS => ?_)
    obtain ⟨rfl, rfl⟩ := hw
    obtain ⟨hP, hD⟩ := hpd (((ob, .inl (k 3, 1, .inr (.inl of))) :: cxW k a r t th kd bs (upd us p9 x2) sth mk dr M sM) ++ mdW k b (nI 0) ki ba ow (upd uu p9 x2) te ma va wa) (pm_cm _ _)
    refine lv_iload hx hb d_L_law_625 (lv_at hl 0 rfl) ?_
    refine lv_icmp_eq (tgt := 632) hx hb d_L_law_627 (by decide) (fun c627 => ?_) (fun c627 => ?_)
    · skip
      refine lv_goto (tgt := 1234) hx hb d_L_law_632 (by decide) ?_
      refine W.widen (k := cells + 4) (n := slots + 24) (by omega) (by omega) ?_
      exact hgo th kd bs (upd us p9 x2) sth mk dr M sM (nI 0) ki ba ow (upd uu p9 x2) te ma va wa of H locs ls (RI_usual hR hp9 (vl_pos hvl)) hP hD hS (lv_sub hl [1, 2, 3, 4, 5] rfl)
    · skip
      exact absurd (by decide) c627
  · skip
    obtain ⟨hP, hD⟩ := hpd (((ob, .inl (k 3, 1, .inr (.inl of))) :: cxW k a r t th kd bs us sth mk dr M sM) ++ mdW k b cd ki ba ow uu te ma va wa) (List.perm_middle)
    refine lv_istore (lv' := [(5, .int ((nI (cdUs x1 x2)))), (0, .ref sb), (1, .ref (a 0)), (2, .ref (b 0)), (3, .ref ob), (4, .int (nI i))]) hx hb d_L_law_603 hl (by decide) rfl (fun ls hl => ?_)
    refine lv_aload_n hx hb d_L_law_605 rfl (lv_at hl 3 rfl) ?_
    refine lv_aload_n hx hb d_L_law_606 rfl (lv_at hl 1 rfl) ?_
    refine lv_iload hx hb d_L_law_607 (lv_at hl 5 rfl) ?_
    refine lv_iconst (v := nI 1) hx hb d_L_law_609 (by decide) ?_
    refine lv_iadd hx hb d_L_law_610 ?_
    rw [nI_add]
    refine rw_sld hx hb hX hbl hbA hS (j := (i + 1)) (by omega) hL hx1 d_L_law_611 ?_
    refine lv_aload_n hx hb d_L_law_612 rfl (lv_at hl 1 rfl) ?_
    refine lv_iload hx hb d_L_law_613 (lv_at hl 5 rfl) ?_
    refine lv_iconst (v := nI 2) hx hb d_L_law_615 (by decide) ?_
    refine lv_iadd hx hb d_L_law_616 ?_
    rw [nI_add]
    refine rw_sld hx hb hX hbl hbA hS (j := (i + 2)) (by omega) hL hx2 d_L_law_617 ?_
    refine cal_v (wc := mdW k b cd ki ba ow uu te ma va wa) (wr := (ob, .inl (k 3, 1, .inr (.inl of))) :: cxW k a r t th kd bs us sth mk dr M sM) (va_runV (As := [.int x1, .int x2]) (rest := []) ⟨hx, hb, hml, hown, hts⟩ (c_Musual l D k b cd ki ba ow uu te ma va wa th kd bs us sth mk M sM hR x1 x2 H.size) (cwV9 2 hts wd_500 wd_497 wd_498 wd_499 wd_4 (by decide) ⟨Nat.le_of_ble_eq_true rfl, Nat.le_of_ble_eq_true rfl⟩) (prV (q0 := 0) (ci := ciMo) hK hP hD (pm_cm _ _) rfl rfl) rfl rfl hl.1 rfl (lv_room (Nat.le_of_ble_eq_true rfl)) d_L_law_618 ⟨Nat.le_trans (by omega) hc, Nat.le_trans (by omega) hs⟩) (pm_cm _ _) hP hD hS hA (fun w1 H locs hw hpd hS => ?_)
    obtain rfl := hw.2 hne
    obtain ⟨hP, hD⟩ := hpd (((ob, .inl (k 3, 1, .inr (.inl of))) :: cxW k a r t th kd bs us sth mk dr M sM) ++ mdW k b ((nI (cdUs x1 x2))) ki ba ow uu te ma va wa) (pm_cm _ _)
    refine lv_aload_n hx hb d_L_law_621 rfl (lv_at hl 3 rfl) ?_
    refine cal_i (wc := mdW k b ((nI (cdUs x1 x2))) ki ba ow uu te ma va wa) (wr := (ob, .inl (k 3, 1, .inr (.inl of))) :: cxW k a r t th kd bs us sth mk dr M sM) (va_runV (As := []) (rest := []) ⟨hx, hb, hml, hown, hts⟩ (c_Mthrown l D k b ((nI (cdUs x1 x2))) ki ba ow uu te ma va wa H.size) (cwV9 0 hts wd_430 wd_427 wd_428 wd_429 wd_4 (by decide) ⟨Nat.le_of_ble_eq_true rfl, Nat.le_of_ble_eq_true rfl⟩) (prV (q0 := 0) (ci := ciMo) hK hP hD (pm_cm _ _) rfl rfl) rfl rfl hl.1 rfl (lv_room (Nat.le_of_ble_eq_true rfl)) d_L_law_622 ⟨Nat.le_trans (by omega) hc, Nat.le_trans (by omega) hs⟩) (pm_cm _ _) hP hD hS hA (fun rv w1 H locs hw hpd hS => ?_)
    obtain ⟨rfl, rfl⟩ := hw
    obtain ⟨hP, hD⟩ := hpd (((ob, .inl (k 3, 1, .inr (.inl of))) :: cxW k a r t th kd bs us sth mk dr M sM) ++ mdW k b ((nI (cdUs x1 x2))) ki ba ow uu te ma va wa) (pm_cm _ _)
    refine lv_iload hx hb d_L_law_625 (lv_at hl 0 rfl) ?_
    refine lv_icmp_eq (tgt := 632) hx hb d_L_law_627 (by decide) (fun c627 => ?_) (fun c627 => ?_)
    · skip
      refine lv_goto (tgt := 1234) hx hb d_L_law_632 (by decide) ?_
      refine W.widen (k := cells + 4) (n := slots + 24) (by omega) (by omega) ?_
      exact hgo th kd bs us sth mk dr M sM ((nI (cdUs x1 x2))) ki ba ow uu te ma va wa of H locs ls hR hP hD hS (lv_sub hl [1, 2, 3, 4, 5] rfl)
    · skip
      exact absurd rfl c627

set_option maxRecDepth 100000 in
set_option maxHeartbeats 4000000 in
theorem k_with {p : Program} {e : Env} {s : State} {m : MethodId} {args : Array Value} {below : List Frame} {meth : Method} {c : Code} (l : Launch) (D : va_G) (k : Nat → ClassId) (a r t b : Nat → Nat) (ob : Nat) (sa : Nat → Nat) (A : Nat → Prop) (Q : State → Prop) (sb L : Nat) (xs : Nat → Int32) (hl9 : l.stackTraces = false) (hx : p.tables.exec = Jvm.exec) (hb : c.code = code) (hml : c.maxLocals = 7) (hown : s.vm.findClass "StyleSheetLaw" = some m.cls) (hts : ∀ w ∈ wG, w.before args s = true) (hA : ∀ q, s.heap.size ≤ q → A q) (hK : bK D (tsK k) s) (hE : bEV Sts sa A s s.heap) (hN : lNc s) (hX : va_X sb L xs s s.heap) (hbl : sb < s.heap.size) (hbA : ¬ A sb) (hL : L ≤ 2560) (th kd bs us sth mk dr : Nat → Int32) (M sM : Nat → Nat → Int32) (cd : Int32) (ki ba ow uu te ma va wa : Nat → Int32) (of : Nat → Int64) (hR : RI th kd bs us sth mk M sM ki ba ow uu te ma va) (i : Nat) (hi : i + 4 < L) (cells slots : Nat) (hc : cells + 4 ≤ room_1.cells) (hs : slots + 24 ≤ room_1.slots) (H : Heap) (locs : List Loc) (ls : Array Slot) (hP : va_P D vwCl (((ob, .inl (k 3, 1, .inr (.inl of))) :: cxW k a r t th kd bs us sth mk dr M sM) ++ mdW k b cd ki ba ow uu te ma va wa) H) (hD : va_D A (((ob, .inl (k 3, 1, .inr (.inl of))) :: cxW k a r t th kd bs us sth mk dr M sM) ++ mdW k b cd ki ba ow uu te ma va wa)) (hS : va_S A s.heap H locs) (hl : lv_has ls 7 [(0, .ref sb), (1, .ref (a 0)), (2, .ref (b 0)), (3, .ref ob), (4, .int (nI i))]) (hgo : ∀ (th kd bs us sth mk dr : Nat → Int32) (M sM : Nat → Nat → Int32) (cd : Int32) (ki ba ow uu te ma va wa : Nat → Int32) (of : Nat → Int64) (H : Heap) (locs : List Loc) (ls : Array Slot), RI th kd bs us sth mk M sM ki ba ow uu te ma va → va_P D vwCl (((ob, .inl (k 3, 1, .inr (.inl of))) :: cxW k a r t th kd bs us sth mk dr M sM) ++ mdW k b cd ki ba ow uu te ma va wa) H → va_D A (((ob, .inl (k 3, 1, .inr (.inl of))) :: cxW k a r t th kd bs us sth mk dr M sM) ++ mdW k b cd ki ba ow uu te ma va wa) → va_S A s.heap H locs → lv_has ls 7 [(0, .ref sb), (1, .ref (a 0)), (2, .ref (b 0)), (3, .ref ob), (4, .int (nI i))] → W p l e room_1 s m args below meth c H locs (cells + 4) (slots + 24) Q (F0 m 1234 ls [])) : W p l e room_1 s m args below meth c H locs cells slots Q (F0 m 635 ls []) := by
  obtain ⟨x1, hx1⟩ : ∃ x : Int32, xs (i + 1) = x := ⟨_, rfl⟩
  obtain ⟨x2, hx2⟩ : ∃ x : Int32, xs (i + 2) = x := ⟨_, rfl⟩
  obtain ⟨x3, hx3⟩ : ∃ x : Int32, xs (i + 3) = x := ⟨_, rfl⟩
  refine lv_aload_n hx hb d_L_law_635 rfl (lv_at hl 1 rfl) ?_
  refine lv_aload_n hx hb d_L_law_636 rfl (lv_at hl 0 rfl) ?_
  refine lv_iload hx hb d_L_law_637 (lv_at hl 4 rfl) ?_
  refine lv_iconst (v := nI 1) hx hb d_L_law_639 (by decide) ?_
  refine lv_iadd hx hb d_L_law_640 ?_
  rw [nI_add]
  refine rw_sld hx hb hX hbl hbA hS (j := (i + 1)) (by omega) hL hx1 d_L_law_641 ?_
  refine lv_aload_n hx hb d_L_law_642 rfl (lv_at hl 0 rfl) ?_
  refine lv_iload hx hb d_L_law_643 (lv_at hl 4 rfl) ?_
  refine lv_iconst (v := nI 2) hx hb d_L_law_645 (by decide) ?_
  refine lv_iadd hx hb d_L_law_646 ?_
  rw [nI_add]
  refine rw_sld hx hb hX hbl hbA hS (j := (i + 2)) (by omega) hL hx2 d_L_law_647 ?_
  refine lv_aload_n hx hb d_L_law_648 rfl (lv_at hl 0 rfl) ?_
  refine lv_iload hx hb d_L_law_649 (lv_at hl 4 rfl) ?_
  refine lv_iconst (v := nI 3) hx hb d_L_law_651 (by decide) ?_
  refine lv_iadd hx hb d_L_law_652 ?_
  rw [nI_add]
  refine rw_sld hx hb hX hbl hbA hS (j := (i + 3)) (by omega) hL hx3 d_L_law_653 ?_
  refine lv_aload_n hx hb d_L_law_654 rfl (lv_at hl 3 rfl) ?_
  refine cal_i (wc := (ob, .inl (k 3, 1, .inr (.inl of))) :: cxW k a r t th kd bs us sth mk dr M sM) (wr := mdW k b cd ki ba ow uu te ma va wa) (vx_runSW (As := [.ref (a 0), .int x1, .int x2, .int x3, .ref ob]) (rest := []) ⟨hx, hb, hml, hown, hts⟩ (w_with l D k a r t th kd bs us sth mk dr M sM sa hl9 x1 x2 x3 ob of H.size) (cwH9 5 hts wd_318 wd_316 wd_317 wd_0 (by decide) ⟨Nat.le_of_ble_eq_true rfl, Nat.le_of_ble_eq_true rfl⟩) (prH hE hN hS hA hK hP hD (List.Perm.refl _)) rfl rfl hl.1 rfl (lv_room (Nat.le_of_ble_eq_true rfl)) d_L_law_655 ⟨Nat.le_trans (by omega) hc, Nat.le_trans (by omega) hs⟩) (List.Perm.refl _) hP hD hS hA (fun rv w1 H locs hw hpd hS => ?_)
  simp only [nd_pf] at hw
  rcases hw with ⟨rfl, r9, w9, ⟨j, hj, rfl, hq, p9, hp9, rfl, hnv, hcd, ⟨hnd, rfl, rfl⟩ | ⟨hnd, j9, hj9, hfr, rfl, rfl⟩⟩, rfl⟩ | ⟨hne, rfl, rfl⟩ | ⟨rfl, w9, ⟨j, hj, rfl, hq, p9, hp9, rfl, hnv, hcd3, rfl⟩, rfl⟩
  · skip
    obtain ⟨hP, hD⟩ := hpd (((ob, .inl (k 3, 1, .inr (.inl (vp_updL of (nI 0).toNatClampNeg ((ndF sth (wiG sM j p9 x3) sM).toInt64))))) :: cxW k a r t th kd bs us sth mk (pfF (wiG sM j p9 x3) dr 24) M sM) ++ mdW k b cd ki ba ow uu te ma va wa) (List.Perm.refl _)
    have hcd0 : cdWi sth (nI j) (nI p9) x3 false = 0 := by simp [cdWi, hq, prB_nI hp9, hnv]
    refine lv_istore (lv' := [(5, .int (nI 0)), (0, .ref sb), (1, .ref (a 0)), (2, .ref (b 0)), (3, .ref ob), (4, .int (nI i))]) hx hb d_L_law_658 hl (by decide) rfl (fun ls hl => ?_)
    refine lv_aload_n hx hb d_L_law_660 rfl (lv_at hl 3 rfl) ?_
    refine lv_aload_n hx hb d_L_law_661 rfl (lv_at hl 1 rfl) ?_
    refine lv_iload hx hb d_L_law_662 (lv_at hl 5 rfl) ?_
    refine lv_iconst (v := nI 1) hx hb d_L_law_664 (by decide) ?_
    refine lv_iadd hx hb d_L_law_665 ?_
    rw [nI_add]
    refine rw_sld hx hb hX hbl hbA hS (j := (i + 1)) (by omega) hL hx1 d_L_law_666 ?_
    refine lv_aload_n hx hb d_L_law_667 rfl (lv_at hl 1 rfl) ?_
    refine lv_iload hx hb d_L_law_668 (lv_at hl 5 rfl) ?_
    refine lv_iconst (v := nI 2) hx hb d_L_law_670 (by decide) ?_
    refine lv_iadd hx hb d_L_law_671 ?_
    rw [nI_add]
    refine rw_sld hx hb hX hbl hbA hS (j := (i + 2)) (by omega) hL hx2 d_L_law_672 ?_
    refine lv_aload_n hx hb d_L_law_673 rfl (lv_at hl 1 rfl) ?_
    refine lv_iload hx hb d_L_law_674 (lv_at hl 5 rfl) ?_
    refine lv_iconst (v := nI 3) hx hb d_L_law_676 (by decide) ?_
    refine lv_iadd hx hb d_L_law_677 ?_
    rw [nI_add]
    refine rw_sld hx hb hX hbl hbA hS (j := (i + 3)) (by omega) hL hx3 d_L_law_678 ?_
    refine cal_i (wc := mdW k b cd ki ba ow uu te ma va wa) (wr := (ob, .inl (k 3, 1, .inr (.inl (vp_updL of (nI 0).toNatClampNeg ((ndF sth (wiG sM j p9 x3) sM).toInt64))))) :: cxW k a r t th kd bs us sth mk (pfF (wiG sM j p9 x3) dr 24) M sM) (va_runV (As := [.int (nI j), .int (nI p9), .int x3]) (rest := []) ⟨hx, hb, hml, hown, hts⟩ (c_Mwith l D k b cd ki ba ow uu te ma va wa th kd bs us sth mk M sM hR (nI j) (nI p9) x3 H.size) (cwV9 3 hts wd_504 wd_501 wd_502 wd_503 wd_4 (by decide) ⟨Nat.le_of_ble_eq_true rfl, Nat.le_of_ble_eq_true rfl⟩) (prV (q0 := 0) (ci := ciMo) hK hP hD (pm_cm _ _) rfl rfl) rfl rfl hl.1 rfl (lv_room (Nat.le_of_ble_eq_true rfl)) d_L_law_679 ⟨Nat.le_trans (by omega) hc, Nat.le_trans (by omega) hs⟩) (pm_cm _ _) hP hD hS hA (fun rv w1 H locs hw hpd hS => ?_)
    rw [nI_clamp (show j < 2 ^ 31 by omega), nI_clamp (show p9 < 2 ^ 31 by omega)] at hw
    obtain ⟨wa2, hwa, ⟨hn2, rfl, rfl⟩ | ⟨hn2, i9, hi9, hf2, rfl, rfl⟩ | ⟨hn2, hf2, rfl⟩⟩ := hw.1 hcd0
    rotate_left
    · exact absurd hn2 hnd
    · exact absurd hn2 hnd
    obtain ⟨hP, hD⟩ := hpd (((ob, .inl (k 3, 1, .inr (.inl (vp_updL of (nI 0).toNatClampNeg ((ndF sth (wiG sM j p9 x3) sM).toInt64))))) :: cxW k a r t th kd bs us sth mk (pfF (wiG sM j p9 x3) dr 24) M sM) ++ mdW k b (nI 0) ki ba ow uu te ma va wa2) (pm_cm _ _)
    refine lv_istore (lv' := [(6, .int (ndF sth (wiG sM j p9 x3) sM)), (5, .int (nI 0)), (0, .ref sb), (1, .ref (a 0)), (2, .ref (b 0)), (3, .ref ob), (4, .int (nI i))]) hx hb d_L_law_682 hl (by decide) rfl (fun ls hl => ?_)
    refine lv_aload_n hx hb d_L_law_684 rfl (lv_at hl 4 rfl) ?_
    refine cal_i (wc := mdW k b (nI 0) ki ba ow uu te ma va wa2) (wr := (ob, .inl (k 3, 1, .inr (.inl (vp_updL of (nI 0).toNatClampNeg ((ndF sth (wiG sM j p9 x3) sM).toInt64))))) :: cxW k a r t th kd bs us sth mk (pfF (wiG sM j p9 x3) dr 24) M sM) (va_runV (As := []) (rest := []) ⟨hx, hb, hml, hown, hts⟩ (c_Mthrown l D k b (nI 0) ki ba ow uu te ma va wa2 H.size) (cwV9 0 hts wd_430 wd_427 wd_428 wd_429 wd_4 (by decide) ⟨Nat.le_of_ble_eq_true rfl, Nat.le_of_ble_eq_true rfl⟩) (prV (q0 := 0) (ci := ciMo) hK hP hD (pm_cm _ _) rfl rfl) rfl rfl hl.1 rfl (lv_room (Nat.le_of_ble_eq_true rfl)) d_L_law_685 ⟨Nat.le_trans (by omega) hc, Nat.le_trans (by omega) hs⟩) (pm_cm _ _) hP hD hS hA (fun rv w1 H locs hw hpd hS => ?_)
    obtain ⟨rfl, rfl⟩ := hw
    obtain ⟨hP, hD⟩ := hpd (((ob, .inl (k 3, 1, .inr (.inl (vp_updL of (nI 0).toNatClampNeg ((ndF sth (wiG sM j p9 x3) sM).toInt64))))) :: cxW k a r t th kd bs us sth mk (pfF (wiG sM j p9 x3) dr 24) M sM) ++ mdW k b (nI 0) ki ba ow uu te ma va wa2) (pm_cm _ _)
    refine lv_iload hx hb d_L_law_688 (lv_at hl 1 rfl) ?_
    refine lv_icmp_eq (tgt := 695) hx hb d_L_law_690 (by decide) (fun c690 => ?_) (fun c690 => ?_)
    · skip
      refine lv_iload hx hb d_L_law_695 (lv_at hl 1 rfl) ?_
      refine lv_if_ne (tgt := 712) hx hb d_L_law_697 (by decide) (fun c697 => ?_) (fun c697 => ?_)
      · skip
        exact absurd (by decide) c697
      · skip
        refine lv_aload_n hx hb d_L_law_700 rfl (lv_at hl 5 rfl) ?_
        refine lv_iconst (v := nI 0) hx hb d_L_law_701 (by decide) ?_
        refine va_lald hx hb hK.1 hP 0 3 rfl rfl vin_0 d_L_law_702 ?_
        rw [show (vp_updL of (nI 0).toNatClampNeg ((ndF sth (wiG sM j p9 x3) sM).toInt64)) (nI 0).toNatClampNeg = (ndF sth (wiG sM j p9 x3) sM).toInt64 by simp [vp_updL]]
        refine lv_iload hx hb d_L_law_703 (lv_at hl 0 rfl) ?_
        refine lv_i2l (v := (ndF sth (wiG sM j p9 x3) sM).toInt64) hx hb d_L_law_705 rfl ?_
        refine W.lcmp hx hb d_L_law_706 ?_
        refine lv_if_eq (tgt := 712) hx hb d_L_law_707 (by decide) (fun c707 => ?_) (fun c707 => ?_)
        · skip
          refine lv_goto (tgt := 1234) hx hb d_L_law_712 (by decide) ?_
          refine W.widen (k := cells + 4) (n := slots + 24) (by omega) (by omega) ?_
          exact hgo th kd bs us sth mk (pfF (wiG sM j p9 x3) dr 24) M sM (nI 0) ki ba ow uu te ma va wa2 (vp_updL of (nI 0).toNatClampNeg ((ndF sth (wiG sM j p9 x3) sM).toInt64)) H locs ls hR hP hD hS (lv_sub hl [2, 3, 4, 5, 6] rfl)
        · skip
          exact absurd (lcm_self _) c707
    · skip
      exact absurd (by decide) c690
  · skip
    obtain ⟨hP, hD⟩ := hpd (((ob, .inl (k 3, 1, .inr (.inl (vp_updL of (nI 0).toNatClampNeg ((nI j9).toInt64))))) :: cxW k a r t th kd bs us (upd sth j9 (nI 1)) mk (pfF (wiG sM j p9 x3) dr 24) M (va_up sM j9 (pfF (wiG sM j p9 x3) dr 24))) ++ mdW k b cd ki ba ow uu te ma va wa) (List.Perm.refl _)
    have hcd0 : cdWi sth (nI j) (nI p9) x3 false = 0 := by simp [cdWi, hq, prB_nI hp9, hnv]
    refine lv_istore (lv' := [(5, .int (nI 0)), (0, .ref sb), (1, .ref (a 0)), (2, .ref (b 0)), (3, .ref ob), (4, .int (nI i))]) hx hb d_L_law_658 hl (by decide) rfl (fun ls hl => ?_)
    refine lv_aload_n hx hb d_L_law_660 rfl (lv_at hl 3 rfl) ?_
    refine lv_aload_n hx hb d_L_law_661 rfl (lv_at hl 1 rfl) ?_
    refine lv_iload hx hb d_L_law_662 (lv_at hl 5 rfl) ?_
    refine lv_iconst (v := nI 1) hx hb d_L_law_664 (by decide) ?_
    refine lv_iadd hx hb d_L_law_665 ?_
    rw [nI_add]
    refine rw_sld hx hb hX hbl hbA hS (j := (i + 1)) (by omega) hL hx1 d_L_law_666 ?_
    refine lv_aload_n hx hb d_L_law_667 rfl (lv_at hl 1 rfl) ?_
    refine lv_iload hx hb d_L_law_668 (lv_at hl 5 rfl) ?_
    refine lv_iconst (v := nI 2) hx hb d_L_law_670 (by decide) ?_
    refine lv_iadd hx hb d_L_law_671 ?_
    rw [nI_add]
    refine rw_sld hx hb hX hbl hbA hS (j := (i + 2)) (by omega) hL hx2 d_L_law_672 ?_
    refine lv_aload_n hx hb d_L_law_673 rfl (lv_at hl 1 rfl) ?_
    refine lv_iload hx hb d_L_law_674 (lv_at hl 5 rfl) ?_
    refine lv_iconst (v := nI 3) hx hb d_L_law_676 (by decide) ?_
    refine lv_iadd hx hb d_L_law_677 ?_
    rw [nI_add]
    refine rw_sld hx hb hX hbl hbA hS (j := (i + 3)) (by omega) hL hx3 d_L_law_678 ?_
    refine cal_i (wc := mdW k b cd ki ba ow uu te ma va wa) (wr := (ob, .inl (k 3, 1, .inr (.inl (vp_updL of (nI 0).toNatClampNeg ((nI j9).toInt64))))) :: cxW k a r t th kd bs us (upd sth j9 (nI 1)) mk (pfF (wiG sM j p9 x3) dr 24) M (va_up sM j9 (pfF (wiG sM j p9 x3) dr 24))) (va_runV (As := [.int (nI j), .int (nI p9), .int x3]) (rest := []) ⟨hx, hb, hml, hown, hts⟩ (c_Mwith l D k b cd ki ba ow uu te ma va wa th kd bs us sth mk M sM hR (nI j) (nI p9) x3 H.size) (cwV9 3 hts wd_504 wd_501 wd_502 wd_503 wd_4 (by decide) ⟨Nat.le_of_ble_eq_true rfl, Nat.le_of_ble_eq_true rfl⟩) (prV (q0 := 0) (ci := ciMo) hK hP hD (pm_cm _ _) rfl rfl) rfl rfl hl.1 rfl (lv_room (Nat.le_of_ble_eq_true rfl)) d_L_law_679 ⟨Nat.le_trans (by omega) hc, Nat.le_trans (by omega) hs⟩) (pm_cm _ _) hP hD hS hA (fun rv w1 H locs hw hpd hS => ?_)
    rw [nI_clamp (show j < 2 ^ 31 by omega), nI_clamp (show p9 < 2 ^ 31 by omega)] at hw
    obtain ⟨wa2, hwa, ⟨hn2, rfl, rfl⟩ | ⟨hn2, i9, hi9, hf2, rfl, rfl⟩ | ⟨hn2, hf2, rfl⟩⟩ := hw.1 hcd0
    · exact absurd hnd hn2
    rotate_left
    · rw [hfr] at hf2; exact absurd hf2 (ne_m1 (by omega))
    obtain rfl : j9 = i9 := (nI_eq (by omega) (by omega)).mp (hfr.symm.trans hf2)
    obtain ⟨hP, hD⟩ := hpd (((ob, .inl (k 3, 1, .inr (.inl (vp_updL of (nI 0).toNatClampNeg ((nI j9).toInt64))))) :: cxW k a r t th kd bs us (upd sth j9 (nI 1)) mk (pfF (wiG sM j p9 x3) dr 24) M (va_up sM j9 (pfF (wiG sM j p9 x3) dr 24))) ++ mdW k b (nI 0) ki ba ow uu (upd te j9 (nI 1)) (upd ma j9 (nI 0)) (rwF va j9 wa2 24) wa2) (pm_cm _ _)
    refine lv_istore (lv' := [(6, .int (nI j9)), (5, .int (nI 0)), (0, .ref sb), (1, .ref (a 0)), (2, .ref (b 0)), (3, .ref ob), (4, .int (nI i))]) hx hb d_L_law_682 hl (by decide) rfl (fun ls hl => ?_)
    refine lv_aload_n hx hb d_L_law_684 rfl (lv_at hl 4 rfl) ?_
    refine cal_i (wc := mdW k b (nI 0) ki ba ow uu (upd te j9 (nI 1)) (upd ma j9 (nI 0)) (rwF va j9 wa2 24) wa2) (wr := (ob, .inl (k 3, 1, .inr (.inl (vp_updL of (nI 0).toNatClampNeg ((nI j9).toInt64))))) :: cxW k a r t th kd bs us (upd sth j9 (nI 1)) mk (pfF (wiG sM j p9 x3) dr 24) M (va_up sM j9 (pfF (wiG sM j p9 x3) dr 24))) (va_runV (As := []) (rest := []) ⟨hx, hb, hml, hown, hts⟩ (c_Mthrown l D k b (nI 0) ki ba ow uu (upd te j9 (nI 1)) (upd ma j9 (nI 0)) (rwF va j9 wa2 24) wa2 H.size) (cwV9 0 hts wd_430 wd_427 wd_428 wd_429 wd_4 (by decide) ⟨Nat.le_of_ble_eq_true rfl, Nat.le_of_ble_eq_true rfl⟩) (prV (q0 := 0) (ci := ciMo) hK hP hD (pm_cm _ _) rfl rfl) rfl rfl hl.1 rfl (lv_room (Nat.le_of_ble_eq_true rfl)) d_L_law_685 ⟨Nat.le_trans (by omega) hc, Nat.le_trans (by omega) hs⟩) (pm_cm _ _) hP hD hS hA (fun rv w1 H locs hw hpd hS => ?_)
    obtain ⟨rfl, rfl⟩ := hw
    obtain ⟨hP, hD⟩ := hpd (((ob, .inl (k 3, 1, .inr (.inl (vp_updL of (nI 0).toNatClampNeg ((nI j9).toInt64))))) :: cxW k a r t th kd bs us (upd sth j9 (nI 1)) mk (pfF (wiG sM j p9 x3) dr 24) M (va_up sM j9 (pfF (wiG sM j p9 x3) dr 24))) ++ mdW k b (nI 0) ki ba ow uu (upd te j9 (nI 1)) (upd ma j9 (nI 0)) (rwF va j9 wa2 24) wa2) (pm_cm _ _)
    refine lv_iload hx hb d_L_law_688 (lv_at hl 1 rfl) ?_
    refine lv_icmp_eq (tgt := 695) hx hb d_L_law_690 (by decide) (fun c690 => ?_) (fun c690 => ?_)
    · skip
      refine lv_iload hx hb d_L_law_695 (lv_at hl 1 rfl) ?_
      refine lv_if_ne (tgt := 712) hx hb d_L_law_697 (by decide) (fun c697 => ?_) (fun c697 => ?_)
      · skip
        exact absurd (by decide) c697
      · skip
        refine lv_aload_n hx hb d_L_law_700 rfl (lv_at hl 5 rfl) ?_
        refine lv_iconst (v := nI 0) hx hb d_L_law_701 (by decide) ?_
        refine va_lald hx hb hK.1 hP 0 3 rfl rfl vin_0 d_L_law_702 ?_
        rw [show (vp_updL of (nI 0).toNatClampNeg ((nI j9).toInt64)) (nI 0).toNatClampNeg = (nI j9).toInt64 by simp [vp_updL]]
        refine lv_iload hx hb d_L_law_703 (lv_at hl 0 rfl) ?_
        refine lv_i2l (v := (nI j9).toInt64) hx hb d_L_law_705 rfl ?_
        refine W.lcmp hx hb d_L_law_706 ?_
        refine lv_if_eq (tgt := 712) hx hb d_L_law_707 (by decide) (fun c707 => ?_) (fun c707 => ?_)
        · skip
          refine lv_goto (tgt := 1234) hx hb d_L_law_712 (by decide) ?_
          refine W.widen (k := cells + 4) (n := slots + 24) (by omega) (by omega) ?_
          exact hgo th kd bs us (upd sth j9 (nI 1)) mk (pfF (wiG sM j p9 x3) dr 24) M (va_up sM j9 (pfF (wiG sM j p9 x3) dr 24)) (nI 0) ki ba ow uu (upd te j9 (nI 1)) (upd ma j9 (nI 0)) (rwF va j9 wa2 24) wa2 (vp_updL of (nI 0).toNatClampNeg ((nI j9).toInt64)) H locs ls (RI_found hR hj9 hfr pf_24 hwa (wiG_ok hR.1.2 hj (nv_pos hnv))) hP hD hS (lv_sub hl [2, 3, 4, 5, 6] rfl)
        · skip
          exact absurd (lcm_self _) c707
    · skip
      exact absurd (by decide) c690
  · skip
    obtain ⟨hP, hD⟩ := hpd (((ob, .inl (k 3, 1, .inr (.inl of))) :: cxW k a r t th kd bs us sth mk dr M sM) ++ mdW k b cd ki ba ow uu te ma va wa) (List.Perm.refl _)
    refine lv_istore (lv' := [(5, .int ((nI (cdWi sth x1 x2 x3 false)))), (0, .ref sb), (1, .ref (a 0)), (2, .ref (b 0)), (3, .ref ob), (4, .int (nI i))]) hx hb d_L_law_658 hl (by decide) rfl (fun ls hl => ?_)
    refine lv_aload_n hx hb d_L_law_660 rfl (lv_at hl 3 rfl) ?_
    refine lv_aload_n hx hb d_L_law_661 rfl (lv_at hl 1 rfl) ?_
    refine lv_iload hx hb d_L_law_662 (lv_at hl 5 rfl) ?_
    refine lv_iconst (v := nI 1) hx hb d_L_law_664 (by decide) ?_
    refine lv_iadd hx hb d_L_law_665 ?_
    rw [nI_add]
    refine rw_sld hx hb hX hbl hbA hS (j := (i + 1)) (by omega) hL hx1 d_L_law_666 ?_
    refine lv_aload_n hx hb d_L_law_667 rfl (lv_at hl 1 rfl) ?_
    refine lv_iload hx hb d_L_law_668 (lv_at hl 5 rfl) ?_
    refine lv_iconst (v := nI 2) hx hb d_L_law_670 (by decide) ?_
    refine lv_iadd hx hb d_L_law_671 ?_
    rw [nI_add]
    refine rw_sld hx hb hX hbl hbA hS (j := (i + 2)) (by omega) hL hx2 d_L_law_672 ?_
    refine lv_aload_n hx hb d_L_law_673 rfl (lv_at hl 1 rfl) ?_
    refine lv_iload hx hb d_L_law_674 (lv_at hl 5 rfl) ?_
    refine lv_iconst (v := nI 3) hx hb d_L_law_676 (by decide) ?_
    refine lv_iadd hx hb d_L_law_677 ?_
    rw [nI_add]
    refine rw_sld hx hb hX hbl hbA hS (j := (i + 3)) (by omega) hL hx3 d_L_law_678 ?_
    refine cal_i (wc := mdW k b cd ki ba ow uu te ma va wa) (wr := (ob, .inl (k 3, 1, .inr (.inl of))) :: cxW k a r t th kd bs us sth mk dr M sM) (va_runV (As := [.int x1, .int x2, .int x3]) (rest := []) ⟨hx, hb, hml, hown, hts⟩ (c_Mwith l D k b cd ki ba ow uu te ma va wa th kd bs us sth mk M sM hR x1 x2 x3 H.size) (cwV9 3 hts wd_504 wd_501 wd_502 wd_503 wd_4 (by decide) ⟨Nat.le_of_ble_eq_true rfl, Nat.le_of_ble_eq_true rfl⟩) (prV (q0 := 0) (ci := ciMo) hK hP hD (pm_cm _ _) rfl rfl) rfl rfl hl.1 rfl (lv_room (Nat.le_of_ble_eq_true rfl)) d_L_law_679 ⟨Nat.le_trans (by omega) hc, Nat.le_trans (by omega) hs⟩) (pm_cm _ _) hP hD hS hA (fun rv w1 H locs hw hpd hS => ?_)
    obtain rfl := hw.2 hne
    obtain ⟨hP, hD⟩ := hpd (((ob, .inl (k 3, 1, .inr (.inl of))) :: cxW k a r t th kd bs us sth mk dr M sM) ++ mdW k b ((nI (cdWi sth x1 x2 x3 false))) ki ba ow uu te ma va wa) (pm_cm _ _)
    refine lv_istore (lv' := [(6, .int rv), (5, .int ((nI (cdWi sth x1 x2 x3 false)))), (0, .ref sb), (1, .ref (a 0)), (2, .ref (b 0)), (3, .ref ob), (4, .int (nI i))]) hx hb d_L_law_682 hl (by decide) rfl (fun ls hl => ?_)
    refine lv_aload_n hx hb d_L_law_684 rfl (lv_at hl 4 rfl) ?_
    refine cal_i (wc := mdW k b ((nI (cdWi sth x1 x2 x3 false))) ki ba ow uu te ma va wa) (wr := (ob, .inl (k 3, 1, .inr (.inl of))) :: cxW k a r t th kd bs us sth mk dr M sM) (va_runV (As := []) (rest := []) ⟨hx, hb, hml, hown, hts⟩ (c_Mthrown l D k b ((nI (cdWi sth x1 x2 x3 false))) ki ba ow uu te ma va wa H.size) (cwV9 0 hts wd_430 wd_427 wd_428 wd_429 wd_4 (by decide) ⟨Nat.le_of_ble_eq_true rfl, Nat.le_of_ble_eq_true rfl⟩) (prV (q0 := 0) (ci := ciMo) hK hP hD (pm_cm _ _) rfl rfl) rfl rfl hl.1 rfl (lv_room (Nat.le_of_ble_eq_true rfl)) d_L_law_685 ⟨Nat.le_trans (by omega) hc, Nat.le_trans (by omega) hs⟩) (pm_cm _ _) hP hD hS hA (fun rv w1 H locs hw hpd hS => ?_)
    obtain ⟨rfl, rfl⟩ := hw
    obtain ⟨hP, hD⟩ := hpd (((ob, .inl (k 3, 1, .inr (.inl of))) :: cxW k a r t th kd bs us sth mk dr M sM) ++ mdW k b ((nI (cdWi sth x1 x2 x3 false))) ki ba ow uu te ma va wa) (pm_cm _ _)
    refine lv_iload hx hb d_L_law_688 (lv_at hl 1 rfl) ?_
    refine lv_icmp_eq (tgt := 695) hx hb d_L_law_690 (by decide) (fun c690 => ?_) (fun c690 => ?_)
    · skip
      refine lv_iload hx hb d_L_law_695 (lv_at hl 1 rfl) ?_
      refine lv_if_ne (tgt := 712) hx hb d_L_law_697 (by decide) (fun c697 => ?_) (fun c697 => ?_)
      · skip
        refine lv_goto (tgt := 1234) hx hb d_L_law_712 (by decide) ?_
        refine W.widen (k := cells + 4) (n := slots + 24) (by omega) (by omega) ?_
        exact hgo th kd bs us sth mk dr M sM ((nI (cdWi sth x1 x2 x3 false))) ki ba ow uu te ma va wa of H locs ls hR hP hD hS (lv_sub hl [2, 3, 4, 5, 6] rfl)
      · skip
        exact absurd c697 (nz_of hne lt_cdWi)
    · skip
      exact absurd rfl c690
  · skip
    obtain ⟨hP, hD⟩ := hpd (((ob, .inl (k 3, 1, .inr (.inl of))) :: cxW k a r t th kd bs us sth mk (pfF (wiG sM j p9 x3) dr 24) M sM) ++ mdW k b cd ki ba ow uu te ma va wa) (List.Perm.refl _)
    refine lv_istore (lv' := [(5, .int (nI 3)), (0, .ref sb), (1, .ref (a 0)), (2, .ref (b 0)), (3, .ref ob), (4, .int (nI i))]) hx hb d_L_law_658 hl (by decide) rfl (fun ls hl => ?_)
    refine lv_aload_n hx hb d_L_law_660 rfl (lv_at hl 3 rfl) ?_
    refine lv_aload_n hx hb d_L_law_661 rfl (lv_at hl 1 rfl) ?_
    refine lv_iload hx hb d_L_law_662 (lv_at hl 5 rfl) ?_
    refine lv_iconst (v := nI 1) hx hb d_L_law_664 (by decide) ?_
    refine lv_iadd hx hb d_L_law_665 ?_
    rw [nI_add]
    refine rw_sld hx hb hX hbl hbA hS (j := (i + 1)) (by omega) hL hx1 d_L_law_666 ?_
    refine lv_aload_n hx hb d_L_law_667 rfl (lv_at hl 1 rfl) ?_
    refine lv_iload hx hb d_L_law_668 (lv_at hl 5 rfl) ?_
    refine lv_iconst (v := nI 2) hx hb d_L_law_670 (by decide) ?_
    refine lv_iadd hx hb d_L_law_671 ?_
    rw [nI_add]
    refine rw_sld hx hb hX hbl hbA hS (j := (i + 2)) (by omega) hL hx2 d_L_law_672 ?_
    refine lv_aload_n hx hb d_L_law_673 rfl (lv_at hl 1 rfl) ?_
    refine lv_iload hx hb d_L_law_674 (lv_at hl 5 rfl) ?_
    refine lv_iconst (v := nI 3) hx hb d_L_law_676 (by decide) ?_
    refine lv_iadd hx hb d_L_law_677 ?_
    rw [nI_add]
    refine rw_sld hx hb hX hbl hbA hS (j := (i + 3)) (by omega) hL hx3 d_L_law_678 ?_
    refine cal_i (wc := mdW k b cd ki ba ow uu te ma va wa) (wr := (ob, .inl (k 3, 1, .inr (.inl of))) :: cxW k a r t th kd bs us sth mk (pfF (wiG sM j p9 x3) dr 24) M sM) (va_runV (As := [.int (nI j), .int (nI p9), .int x3]) (rest := []) ⟨hx, hb, hml, hown, hts⟩ (c_Mwith l D k b cd ki ba ow uu te ma va wa th kd bs us sth mk M sM hR (nI j) (nI p9) x3 H.size) (cwV9 3 hts wd_504 wd_501 wd_502 wd_503 wd_4 (by decide) ⟨Nat.le_of_ble_eq_true rfl, Nat.le_of_ble_eq_true rfl⟩) (prV (q0 := 0) (ci := ciMo) hK hP hD (pm_cm _ _) rfl rfl) rfl rfl hl.1 rfl (lv_room (Nat.le_of_ble_eq_true rfl)) d_L_law_679 ⟨Nat.le_trans (by omega) hc, Nat.le_trans (by omega) hs⟩) (pm_cm _ _) hP hD hS hA (fun rv w1 H locs hw hpd hS => ?_)
    rw [nI_clamp (show j < 2 ^ 31 by omega), nI_clamp (show p9 < 2 ^ 31 by omega)] at hw
    obtain ⟨hnd, hfr⟩ := fu_t (wi3 hcd3)
    obtain ⟨wa2, hwa, ⟨hn2, rfl, rfl⟩ | ⟨hn2, i9, hi9, hf2, rfl, rfl⟩ | ⟨hn2, hf2, rfl⟩⟩ := hw.1 (by simp [cdWi, hq, prB_nI hp9, hnv])
    · exact absurd hnd hn2
    · rw [hfr] at hf2; exact absurd hf2.symm (ne_m1 (by omega))
    obtain ⟨hP, hD⟩ := hpd (((ob, .inl (k 3, 1, .inr (.inl of))) :: cxW k a r t th kd bs us sth mk (pfF (wiG sM j p9 x3) dr 24) M sM) ++ mdW k b (nI 3) ki ba ow uu te ma va wa2) (pm_cm _ _)
    refine lv_istore (lv' := [(6, .int rv), (5, .int (nI 3)), (0, .ref sb), (1, .ref (a 0)), (2, .ref (b 0)), (3, .ref ob), (4, .int (nI i))]) hx hb d_L_law_682 hl (by decide) rfl (fun ls hl => ?_)
    refine lv_aload_n hx hb d_L_law_684 rfl (lv_at hl 4 rfl) ?_
    refine cal_i (wc := mdW k b (nI 3) ki ba ow uu te ma va wa2) (wr := (ob, .inl (k 3, 1, .inr (.inl of))) :: cxW k a r t th kd bs us sth mk (pfF (wiG sM j p9 x3) dr 24) M sM) (va_runV (As := []) (rest := []) ⟨hx, hb, hml, hown, hts⟩ (c_Mthrown l D k b (nI 3) ki ba ow uu te ma va wa2 H.size) (cwV9 0 hts wd_430 wd_427 wd_428 wd_429 wd_4 (by decide) ⟨Nat.le_of_ble_eq_true rfl, Nat.le_of_ble_eq_true rfl⟩) (prV (q0 := 0) (ci := ciMo) hK hP hD (pm_cm _ _) rfl rfl) rfl rfl hl.1 rfl (lv_room (Nat.le_of_ble_eq_true rfl)) d_L_law_685 ⟨Nat.le_trans (by omega) hc, Nat.le_trans (by omega) hs⟩) (pm_cm _ _) hP hD hS hA (fun rv w1 H locs hw hpd hS => ?_)
    obtain ⟨rfl, rfl⟩ := hw
    obtain ⟨hP, hD⟩ := hpd (((ob, .inl (k 3, 1, .inr (.inl of))) :: cxW k a r t th kd bs us sth mk (pfF (wiG sM j p9 x3) dr 24) M sM) ++ mdW k b (nI 3) ki ba ow uu te ma va wa2) (pm_cm _ _)
    refine lv_iload hx hb d_L_law_688 (lv_at hl 1 rfl) ?_
    refine lv_icmp_eq (tgt := 695) hx hb d_L_law_690 (by decide) (fun c690 => ?_) (fun c690 => ?_)
    · skip
      refine lv_iload hx hb d_L_law_695 (lv_at hl 1 rfl) ?_
      refine lv_if_ne (tgt := 712) hx hb d_L_law_697 (by decide) (fun c697 => ?_) (fun c697 => ?_)
      · skip
        refine lv_goto (tgt := 1234) hx hb d_L_law_712 (by decide) ?_
        refine W.widen (k := cells + 4) (n := slots + 24) (by omega) (by omega) ?_
        exact hgo th kd bs us sth mk (pfF (wiG sM j p9 x3) dr 24) M sM (nI 3) ki ba ow uu te ma va wa2 of H locs ls hR hP hD hS (lv_sub hl [2, 3, 4, 5, 6] rfl)
      · skip
        exact absurd c697 (by decide)
    · skip
      exact absurd (by decide) c690

set_option maxRecDepth 100000 in
set_option maxHeartbeats 4000000 in
theorem k_over {p : Program} {e : Env} {s : State} {m : MethodId} {args : Array Value} {below : List Frame} {meth : Method} {c : Code} (l : Launch) (D : va_G) (k : Nat → ClassId) (a r t b : Nat → Nat) (ob : Nat) (sa : Nat → Nat) (A : Nat → Prop) (Q : State → Prop) (sb L : Nat) (xs : Nat → Int32) (hl9 : l.stackTraces = false) (hx : p.tables.exec = Jvm.exec) (hb : c.code = code) (hml : c.maxLocals = 7) (hown : s.vm.findClass "StyleSheetLaw" = some m.cls) (hts : ∀ w ∈ wG, w.before args s = true) (hA : ∀ q, s.heap.size ≤ q → A q) (hK : bK D (tsK k) s) (hE : bEV Sts sa A s s.heap) (hN : lNc s) (hX : va_X sb L xs s s.heap) (hbl : sb < s.heap.size) (hbA : ¬ A sb) (hL : L ≤ 2560) (th kd bs us sth mk dr : Nat → Int32) (M sM : Nat → Nat → Int32) (cd : Int32) (ki ba ow uu te ma va wa : Nat → Int32) (of : Nat → Int64) (hR : RI th kd bs us sth mk M sM ki ba ow uu te ma va) (i : Nat) (hi : i + 4 < L) (cells slots : Nat) (hc : cells + 4 ≤ room_1.cells) (hs : slots + 24 ≤ room_1.slots) (H : Heap) (locs : List Loc) (ls : Array Slot) (hP : va_P D vwCl (((ob, .inl (k 3, 1, .inr (.inl of))) :: cxW k a r t th kd bs us sth mk dr M sM) ++ mdW k b cd ki ba ow uu te ma va wa) H) (hD : va_D A (((ob, .inl (k 3, 1, .inr (.inl of))) :: cxW k a r t th kd bs us sth mk dr M sM) ++ mdW k b cd ki ba ow uu te ma va wa)) (hS : va_S A s.heap H locs) (hl : lv_has ls 7 [(0, .ref sb), (1, .ref (a 0)), (2, .ref (b 0)), (3, .ref ob), (4, .int (nI i))]) (hgo : ∀ (th kd bs us sth mk dr : Nat → Int32) (M sM : Nat → Nat → Int32) (cd : Int32) (ki ba ow uu te ma va wa : Nat → Int32) (of : Nat → Int64) (H : Heap) (locs : List Loc) (ls : Array Slot), RI th kd bs us sth mk M sM ki ba ow uu te ma va → va_P D vwCl (((ob, .inl (k 3, 1, .inr (.inl of))) :: cxW k a r t th kd bs us sth mk dr M sM) ++ mdW k b cd ki ba ow uu te ma va wa) H → va_D A (((ob, .inl (k 3, 1, .inr (.inl of))) :: cxW k a r t th kd bs us sth mk dr M sM) ++ mdW k b cd ki ba ow uu te ma va wa) → va_S A s.heap H locs → lv_has ls 7 [(0, .ref sb), (1, .ref (a 0)), (2, .ref (b 0)), (3, .ref ob), (4, .int (nI i))] → W p l e room_1 s m args below meth c H locs (cells + 4) (slots + 24) Q (F0 m 1234 ls [])) : W p l e room_1 s m args below meth c H locs cells slots Q (F0 m 715 ls []) := by
  obtain ⟨x1, hx1⟩ : ∃ x : Int32, xs (i + 1) = x := ⟨_, rfl⟩
  obtain ⟨x2, hx2⟩ : ∃ x : Int32, xs (i + 2) = x := ⟨_, rfl⟩
  refine lv_aload_n hx hb d_L_law_715 rfl (lv_at hl 1 rfl) ?_
  refine lv_aload_n hx hb d_L_law_716 rfl (lv_at hl 0 rfl) ?_
  refine lv_iload hx hb d_L_law_717 (lv_at hl 4 rfl) ?_
  refine lv_iconst (v := nI 1) hx hb d_L_law_719 (by decide) ?_
  refine lv_iadd hx hb d_L_law_720 ?_
  rw [nI_add]
  refine rw_sld hx hb hX hbl hbA hS (j := (i + 1)) (by omega) hL hx1 d_L_law_721 ?_
  refine lv_aload_n hx hb d_L_law_722 rfl (lv_at hl 0 rfl) ?_
  refine lv_iload hx hb d_L_law_723 (lv_at hl 4 rfl) ?_
  refine lv_iconst (v := nI 2) hx hb d_L_law_725 (by decide) ?_
  refine lv_iadd hx hb d_L_law_726 ?_
  rw [nI_add]
  refine rw_sld hx hb hX hbl hbA hS (j := (i + 2)) (by omega) hL hx2 d_L_law_727 ?_
  refine lv_aload_n hx hb d_L_law_728 rfl (lv_at hl 3 rfl) ?_
  refine cal_i (wc := (ob, .inl (k 3, 1, .inr (.inl of))) :: cxW k a r t th kd bs us sth mk dr M sM) (wr := mdW k b cd ki ba ow uu te ma va wa) (vx_runSW (As := [.ref (a 0), .int x1, .int x2, .ref ob]) (rest := []) ⟨hx, hb, hml, hown, hts⟩ (w_over l D k a r t th kd bs us sth mk dr M sM sa hl9 x1 x2 ob of H.size) (cwH9 4 hts wd_345 wd_343 wd_344 wd_0 (by decide) ⟨Nat.le_of_ble_eq_true rfl, Nat.le_of_ble_eq_true rfl⟩) (prH hE hN hS hA hK hP hD (List.Perm.refl _)) rfl rfl hl.1 rfl (lv_room (Nat.le_of_ble_eq_true rfl)) d_L_law_729 ⟨Nat.le_trans (by omega) hc, Nat.le_trans (by omega) hs⟩) (List.Perm.refl _) hP hD hS hA (fun rv w1 H locs hw hpd hS => ?_)
  simp only [nd_pf] at hw
  rcases hw with ⟨rfl, r9, w9, ⟨j, hj, rfl, hq, j2, hj2, rfl, hq2, hcd, ⟨hnd, rfl, rfl⟩ | ⟨hnd, j9, hj9, hfr, rfl, rfl⟩⟩, rfl⟩ | ⟨hne, rfl, rfl⟩ | ⟨rfl, w9, ⟨j, hj, rfl, hq, j2, hj2, rfl, hq2, hcd3, rfl⟩, rfl⟩
  · skip
    obtain ⟨hP, hD⟩ := hpd (((ob, .inl (k 3, 1, .inr (.inl (vp_updL of (nI 0).toNatClampNeg ((ndF sth (ovG sM j j2) sM).toInt64))))) :: cxW k a r t th kd bs us sth mk (pfF (ovG sM j j2) dr 24) M sM) ++ mdW k b cd ki ba ow uu te ma va wa) (List.Perm.refl _)
    have hcd0 : cdOv sth (nI j) (nI j2) false = 0 := by simp [cdOv, hq, hq2]
    refine lv_istore (lv' := [(5, .int (nI 0)), (0, .ref sb), (1, .ref (a 0)), (2, .ref (b 0)), (3, .ref ob), (4, .int (nI i))]) hx hb d_L_law_732 hl (by decide) rfl (fun ls hl => ?_)
    refine lv_aload_n hx hb d_L_law_734 rfl (lv_at hl 3 rfl) ?_
    refine lv_aload_n hx hb d_L_law_735 rfl (lv_at hl 1 rfl) ?_
    refine lv_iload hx hb d_L_law_736 (lv_at hl 5 rfl) ?_
    refine lv_iconst (v := nI 1) hx hb d_L_law_738 (by decide) ?_
    refine lv_iadd hx hb d_L_law_739 ?_
    rw [nI_add]
    refine rw_sld hx hb hX hbl hbA hS (j := (i + 1)) (by omega) hL hx1 d_L_law_740 ?_
    refine lv_aload_n hx hb d_L_law_741 rfl (lv_at hl 1 rfl) ?_
    refine lv_iload hx hb d_L_law_742 (lv_at hl 5 rfl) ?_
    refine lv_iconst (v := nI 2) hx hb d_L_law_744 (by decide) ?_
    refine lv_iadd hx hb d_L_law_745 ?_
    rw [nI_add]
    refine rw_sld hx hb hX hbl hbA hS (j := (i + 2)) (by omega) hL hx2 d_L_law_746 ?_
    refine cal_i (wc := mdW k b cd ki ba ow uu te ma va wa) (wr := (ob, .inl (k 3, 1, .inr (.inl (vp_updL of (nI 0).toNatClampNeg ((ndF sth (ovG sM j j2) sM).toInt64))))) :: cxW k a r t th kd bs us sth mk (pfF (ovG sM j j2) dr 24) M sM) (va_runV (As := [.int (nI j), .int (nI j2)]) (rest := []) ⟨hx, hb, hml, hown, hts⟩ (c_Mover l D k b cd ki ba ow uu te ma va wa th kd bs us sth mk M sM hR (nI j) (nI j2) H.size) (cwV9 2 hts wd_524 wd_521 wd_522 wd_523 wd_4 (by decide) ⟨Nat.le_of_ble_eq_true rfl, Nat.le_of_ble_eq_true rfl⟩) (prV (q0 := 0) (ci := ciMo) hK hP hD (pm_cm _ _) rfl rfl) rfl rfl hl.1 rfl (lv_room (Nat.le_of_ble_eq_true rfl)) d_L_law_747 ⟨Nat.le_trans (by omega) hc, Nat.le_trans (by omega) hs⟩) (pm_cm _ _) hP hD hS hA (fun rv w1 H locs hw hpd hS => ?_)
    rw [nI_clamp (show j < 2 ^ 31 by omega), nI_clamp (show j2 < 2 ^ 31 by omega)] at hw
    obtain ⟨wa2, hwa, ⟨hn2, rfl, rfl⟩ | ⟨hn2, i9, hi9, hf2, rfl, rfl⟩ | ⟨hn2, hf2, rfl⟩⟩ := hw.1 hcd0
    rotate_left
    · exact absurd hn2 hnd
    · exact absurd hn2 hnd
    obtain ⟨hP, hD⟩ := hpd (((ob, .inl (k 3, 1, .inr (.inl (vp_updL of (nI 0).toNatClampNeg ((ndF sth (ovG sM j j2) sM).toInt64))))) :: cxW k a r t th kd bs us sth mk (pfF (ovG sM j j2) dr 24) M sM) ++ mdW k b (nI 0) ki ba ow uu te ma va wa2) (pm_cm _ _)
    refine lv_istore (lv' := [(6, .int (ndF sth (ovG sM j j2) sM)), (5, .int (nI 0)), (0, .ref sb), (1, .ref (a 0)), (2, .ref (b 0)), (3, .ref ob), (4, .int (nI i))]) hx hb d_L_law_750 hl (by decide) rfl (fun ls hl => ?_)
    refine lv_aload_n hx hb d_L_law_752 rfl (lv_at hl 4 rfl) ?_
    refine cal_i (wc := mdW k b (nI 0) ki ba ow uu te ma va wa2) (wr := (ob, .inl (k 3, 1, .inr (.inl (vp_updL of (nI 0).toNatClampNeg ((ndF sth (ovG sM j j2) sM).toInt64))))) :: cxW k a r t th kd bs us sth mk (pfF (ovG sM j j2) dr 24) M sM) (va_runV (As := []) (rest := []) ⟨hx, hb, hml, hown, hts⟩ (c_Mthrown l D k b (nI 0) ki ba ow uu te ma va wa2 H.size) (cwV9 0 hts wd_430 wd_427 wd_428 wd_429 wd_4 (by decide) ⟨Nat.le_of_ble_eq_true rfl, Nat.le_of_ble_eq_true rfl⟩) (prV (q0 := 0) (ci := ciMo) hK hP hD (pm_cm _ _) rfl rfl) rfl rfl hl.1 rfl (lv_room (Nat.le_of_ble_eq_true rfl)) d_L_law_753 ⟨Nat.le_trans (by omega) hc, Nat.le_trans (by omega) hs⟩) (pm_cm _ _) hP hD hS hA (fun rv w1 H locs hw hpd hS => ?_)
    obtain ⟨rfl, rfl⟩ := hw
    obtain ⟨hP, hD⟩ := hpd (((ob, .inl (k 3, 1, .inr (.inl (vp_updL of (nI 0).toNatClampNeg ((ndF sth (ovG sM j j2) sM).toInt64))))) :: cxW k a r t th kd bs us sth mk (pfF (ovG sM j j2) dr 24) M sM) ++ mdW k b (nI 0) ki ba ow uu te ma va wa2) (pm_cm _ _)
    refine lv_iload hx hb d_L_law_756 (lv_at hl 1 rfl) ?_
    refine lv_icmp_eq (tgt := 763) hx hb d_L_law_758 (by decide) (fun c758 => ?_) (fun c758 => ?_)
    · skip
      refine lv_iload hx hb d_L_law_763 (lv_at hl 1 rfl) ?_
      refine lv_if_ne (tgt := 780) hx hb d_L_law_765 (by decide) (fun c765 => ?_) (fun c765 => ?_)
      · skip
        exact absurd (by decide) c765
      · skip
        refine lv_aload_n hx hb d_L_law_768 rfl (lv_at hl 5 rfl) ?_
        refine lv_iconst (v := nI 0) hx hb d_L_law_769 (by decide) ?_
        refine va_lald hx hb hK.1 hP 0 3 rfl rfl vin_0 d_L_law_770 ?_
        rw [show (vp_updL of (nI 0).toNatClampNeg ((ndF sth (ovG sM j j2) sM).toInt64)) (nI 0).toNatClampNeg = (ndF sth (ovG sM j j2) sM).toInt64 by simp [vp_updL]]
        refine lv_iload hx hb d_L_law_771 (lv_at hl 0 rfl) ?_
        refine lv_i2l (v := (ndF sth (ovG sM j j2) sM).toInt64) hx hb d_L_law_773 rfl ?_
        refine W.lcmp hx hb d_L_law_774 ?_
        refine lv_if_eq (tgt := 780) hx hb d_L_law_775 (by decide) (fun c775 => ?_) (fun c775 => ?_)
        · skip
          refine lv_goto (tgt := 1234) hx hb d_L_law_780 (by decide) ?_
          refine W.widen (k := cells + 4) (n := slots + 24) (by omega) (by omega) ?_
          exact hgo th kd bs us sth mk (pfF (ovG sM j j2) dr 24) M sM (nI 0) ki ba ow uu te ma va wa2 (vp_updL of (nI 0).toNatClampNeg ((ndF sth (ovG sM j j2) sM).toInt64)) H locs ls hR hP hD hS (lv_sub hl [2, 3, 4, 5, 6] rfl)
        · skip
          exact absurd (lcm_self _) c775
    · skip
      exact absurd (by decide) c758
  · skip
    obtain ⟨hP, hD⟩ := hpd (((ob, .inl (k 3, 1, .inr (.inl (vp_updL of (nI 0).toNatClampNeg ((nI j9).toInt64))))) :: cxW k a r t th kd bs us (upd sth j9 (nI 1)) mk (pfF (ovG sM j j2) dr 24) M (va_up sM j9 (pfF (ovG sM j j2) dr 24))) ++ mdW k b cd ki ba ow uu te ma va wa) (List.Perm.refl _)
    have hcd0 : cdOv sth (nI j) (nI j2) false = 0 := by simp [cdOv, hq, hq2]
    refine lv_istore (lv' := [(5, .int (nI 0)), (0, .ref sb), (1, .ref (a 0)), (2, .ref (b 0)), (3, .ref ob), (4, .int (nI i))]) hx hb d_L_law_732 hl (by decide) rfl (fun ls hl => ?_)
    refine lv_aload_n hx hb d_L_law_734 rfl (lv_at hl 3 rfl) ?_
    refine lv_aload_n hx hb d_L_law_735 rfl (lv_at hl 1 rfl) ?_
    refine lv_iload hx hb d_L_law_736 (lv_at hl 5 rfl) ?_
    refine lv_iconst (v := nI 1) hx hb d_L_law_738 (by decide) ?_
    refine lv_iadd hx hb d_L_law_739 ?_
    rw [nI_add]
    refine rw_sld hx hb hX hbl hbA hS (j := (i + 1)) (by omega) hL hx1 d_L_law_740 ?_
    refine lv_aload_n hx hb d_L_law_741 rfl (lv_at hl 1 rfl) ?_
    refine lv_iload hx hb d_L_law_742 (lv_at hl 5 rfl) ?_
    refine lv_iconst (v := nI 2) hx hb d_L_law_744 (by decide) ?_
    refine lv_iadd hx hb d_L_law_745 ?_
    rw [nI_add]
    refine rw_sld hx hb hX hbl hbA hS (j := (i + 2)) (by omega) hL hx2 d_L_law_746 ?_
    refine cal_i (wc := mdW k b cd ki ba ow uu te ma va wa) (wr := (ob, .inl (k 3, 1, .inr (.inl (vp_updL of (nI 0).toNatClampNeg ((nI j9).toInt64))))) :: cxW k a r t th kd bs us (upd sth j9 (nI 1)) mk (pfF (ovG sM j j2) dr 24) M (va_up sM j9 (pfF (ovG sM j j2) dr 24))) (va_runV (As := [.int (nI j), .int (nI j2)]) (rest := []) ⟨hx, hb, hml, hown, hts⟩ (c_Mover l D k b cd ki ba ow uu te ma va wa th kd bs us sth mk M sM hR (nI j) (nI j2) H.size) (cwV9 2 hts wd_524 wd_521 wd_522 wd_523 wd_4 (by decide) ⟨Nat.le_of_ble_eq_true rfl, Nat.le_of_ble_eq_true rfl⟩) (prV (q0 := 0) (ci := ciMo) hK hP hD (pm_cm _ _) rfl rfl) rfl rfl hl.1 rfl (lv_room (Nat.le_of_ble_eq_true rfl)) d_L_law_747 ⟨Nat.le_trans (by omega) hc, Nat.le_trans (by omega) hs⟩) (pm_cm _ _) hP hD hS hA (fun rv w1 H locs hw hpd hS => ?_)
    rw [nI_clamp (show j < 2 ^ 31 by omega), nI_clamp (show j2 < 2 ^ 31 by omega)] at hw
    obtain ⟨wa2, hwa, ⟨hn2, rfl, rfl⟩ | ⟨hn2, i9, hi9, hf2, rfl, rfl⟩ | ⟨hn2, hf2, rfl⟩⟩ := hw.1 hcd0
    · exact absurd hnd hn2
    rotate_left
    · rw [hfr] at hf2; exact absurd hf2 (ne_m1 (by omega))
    obtain rfl : j9 = i9 := (nI_eq (by omega) (by omega)).mp (hfr.symm.trans hf2)
    obtain ⟨hP, hD⟩ := hpd (((ob, .inl (k 3, 1, .inr (.inl (vp_updL of (nI 0).toNatClampNeg ((nI j9).toInt64))))) :: cxW k a r t th kd bs us (upd sth j9 (nI 1)) mk (pfF (ovG sM j j2) dr 24) M (va_up sM j9 (pfF (ovG sM j j2) dr 24))) ++ mdW k b (nI 0) ki ba ow uu (upd te j9 (nI 1)) (upd ma j9 (nI 0)) (rwF va j9 wa2 24) wa2) (pm_cm _ _)
    refine lv_istore (lv' := [(6, .int (nI j9)), (5, .int (nI 0)), (0, .ref sb), (1, .ref (a 0)), (2, .ref (b 0)), (3, .ref ob), (4, .int (nI i))]) hx hb d_L_law_750 hl (by decide) rfl (fun ls hl => ?_)
    refine lv_aload_n hx hb d_L_law_752 rfl (lv_at hl 4 rfl) ?_
    refine cal_i (wc := mdW k b (nI 0) ki ba ow uu (upd te j9 (nI 1)) (upd ma j9 (nI 0)) (rwF va j9 wa2 24) wa2) (wr := (ob, .inl (k 3, 1, .inr (.inl (vp_updL of (nI 0).toNatClampNeg ((nI j9).toInt64))))) :: cxW k a r t th kd bs us (upd sth j9 (nI 1)) mk (pfF (ovG sM j j2) dr 24) M (va_up sM j9 (pfF (ovG sM j j2) dr 24))) (va_runV (As := []) (rest := []) ⟨hx, hb, hml, hown, hts⟩ (c_Mthrown l D k b (nI 0) ki ba ow uu (upd te j9 (nI 1)) (upd ma j9 (nI 0)) (rwF va j9 wa2 24) wa2 H.size) (cwV9 0 hts wd_430 wd_427 wd_428 wd_429 wd_4 (by decide) ⟨Nat.le_of_ble_eq_true rfl, Nat.le_of_ble_eq_true rfl⟩) (prV (q0 := 0) (ci := ciMo) hK hP hD (pm_cm _ _) rfl rfl) rfl rfl hl.1 rfl (lv_room (Nat.le_of_ble_eq_true rfl)) d_L_law_753 ⟨Nat.le_trans (by omega) hc, Nat.le_trans (by omega) hs⟩) (pm_cm _ _) hP hD hS hA (fun rv w1 H locs hw hpd hS => ?_)
    obtain ⟨rfl, rfl⟩ := hw
    obtain ⟨hP, hD⟩ := hpd (((ob, .inl (k 3, 1, .inr (.inl (vp_updL of (nI 0).toNatClampNeg ((nI j9).toInt64))))) :: cxW k a r t th kd bs us (upd sth j9 (nI 1)) mk (pfF (ovG sM j j2) dr 24) M (va_up sM j9 (pfF (ovG sM j j2) dr 24))) ++ mdW k b (nI 0) ki ba ow uu (upd te j9 (nI 1)) (upd ma j9 (nI 0)) (rwF va j9 wa2 24) wa2) (pm_cm _ _)
    refine lv_iload hx hb d_L_law_756 (lv_at hl 1 rfl) ?_
    refine lv_icmp_eq (tgt := 763) hx hb d_L_law_758 (by decide) (fun c758 => ?_) (fun c758 => ?_)
    · skip
      refine lv_iload hx hb d_L_law_763 (lv_at hl 1 rfl) ?_
      refine lv_if_ne (tgt := 780) hx hb d_L_law_765 (by decide) (fun c765 => ?_) (fun c765 => ?_)
      · skip
        exact absurd (by decide) c765
      · skip
        refine lv_aload_n hx hb d_L_law_768 rfl (lv_at hl 5 rfl) ?_
        refine lv_iconst (v := nI 0) hx hb d_L_law_769 (by decide) ?_
        refine va_lald hx hb hK.1 hP 0 3 rfl rfl vin_0 d_L_law_770 ?_
        rw [show (vp_updL of (nI 0).toNatClampNeg ((nI j9).toInt64)) (nI 0).toNatClampNeg = (nI j9).toInt64 by simp [vp_updL]]
        refine lv_iload hx hb d_L_law_771 (lv_at hl 0 rfl) ?_
        refine lv_i2l (v := (nI j9).toInt64) hx hb d_L_law_773 rfl ?_
        refine W.lcmp hx hb d_L_law_774 ?_
        refine lv_if_eq (tgt := 780) hx hb d_L_law_775 (by decide) (fun c775 => ?_) (fun c775 => ?_)
        · skip
          refine lv_goto (tgt := 1234) hx hb d_L_law_780 (by decide) ?_
          refine W.widen (k := cells + 4) (n := slots + 24) (by omega) (by omega) ?_
          exact hgo th kd bs us (upd sth j9 (nI 1)) mk (pfF (ovG sM j j2) dr 24) M (va_up sM j9 (pfF (ovG sM j j2) dr 24)) (nI 0) ki ba ow uu (upd te j9 (nI 1)) (upd ma j9 (nI 0)) (rwF va j9 wa2 24) wa2 (vp_updL of (nI 0).toNatClampNeg ((nI j9).toInt64)) H locs ls (RI_found hR hj9 hfr pf_24 hwa (ovG_ok hR.1.2 hj hj2)) hP hD hS (lv_sub hl [2, 3, 4, 5, 6] rfl)
        · skip
          exact absurd (lcm_self _) c775
    · skip
      exact absurd (by decide) c758
  · skip
    obtain ⟨hP, hD⟩ := hpd (((ob, .inl (k 3, 1, .inr (.inl of))) :: cxW k a r t th kd bs us sth mk dr M sM) ++ mdW k b cd ki ba ow uu te ma va wa) (List.Perm.refl _)
    refine lv_istore (lv' := [(5, .int ((nI (cdOv sth x1 x2 false)))), (0, .ref sb), (1, .ref (a 0)), (2, .ref (b 0)), (3, .ref ob), (4, .int (nI i))]) hx hb d_L_law_732 hl (by decide) rfl (fun ls hl => ?_)
    refine lv_aload_n hx hb d_L_law_734 rfl (lv_at hl 3 rfl) ?_
    refine lv_aload_n hx hb d_L_law_735 rfl (lv_at hl 1 rfl) ?_
    refine lv_iload hx hb d_L_law_736 (lv_at hl 5 rfl) ?_
    refine lv_iconst (v := nI 1) hx hb d_L_law_738 (by decide) ?_
    refine lv_iadd hx hb d_L_law_739 ?_
    rw [nI_add]
    refine rw_sld hx hb hX hbl hbA hS (j := (i + 1)) (by omega) hL hx1 d_L_law_740 ?_
    refine lv_aload_n hx hb d_L_law_741 rfl (lv_at hl 1 rfl) ?_
    refine lv_iload hx hb d_L_law_742 (lv_at hl 5 rfl) ?_
    refine lv_iconst (v := nI 2) hx hb d_L_law_744 (by decide) ?_
    refine lv_iadd hx hb d_L_law_745 ?_
    rw [nI_add]
    refine rw_sld hx hb hX hbl hbA hS (j := (i + 2)) (by omega) hL hx2 d_L_law_746 ?_
    refine cal_i (wc := mdW k b cd ki ba ow uu te ma va wa) (wr := (ob, .inl (k 3, 1, .inr (.inl of))) :: cxW k a r t th kd bs us sth mk dr M sM) (va_runV (As := [.int x1, .int x2]) (rest := []) ⟨hx, hb, hml, hown, hts⟩ (c_Mover l D k b cd ki ba ow uu te ma va wa th kd bs us sth mk M sM hR x1 x2 H.size) (cwV9 2 hts wd_524 wd_521 wd_522 wd_523 wd_4 (by decide) ⟨Nat.le_of_ble_eq_true rfl, Nat.le_of_ble_eq_true rfl⟩) (prV (q0 := 0) (ci := ciMo) hK hP hD (pm_cm _ _) rfl rfl) rfl rfl hl.1 rfl (lv_room (Nat.le_of_ble_eq_true rfl)) d_L_law_747 ⟨Nat.le_trans (by omega) hc, Nat.le_trans (by omega) hs⟩) (pm_cm _ _) hP hD hS hA (fun rv w1 H locs hw hpd hS => ?_)
    obtain rfl := hw.2 hne
    obtain ⟨hP, hD⟩ := hpd (((ob, .inl (k 3, 1, .inr (.inl of))) :: cxW k a r t th kd bs us sth mk dr M sM) ++ mdW k b ((nI (cdOv sth x1 x2 false))) ki ba ow uu te ma va wa) (pm_cm _ _)
    refine lv_istore (lv' := [(6, .int rv), (5, .int ((nI (cdOv sth x1 x2 false)))), (0, .ref sb), (1, .ref (a 0)), (2, .ref (b 0)), (3, .ref ob), (4, .int (nI i))]) hx hb d_L_law_750 hl (by decide) rfl (fun ls hl => ?_)
    refine lv_aload_n hx hb d_L_law_752 rfl (lv_at hl 4 rfl) ?_
    refine cal_i (wc := mdW k b ((nI (cdOv sth x1 x2 false))) ki ba ow uu te ma va wa) (wr := (ob, .inl (k 3, 1, .inr (.inl of))) :: cxW k a r t th kd bs us sth mk dr M sM) (va_runV (As := []) (rest := []) ⟨hx, hb, hml, hown, hts⟩ (c_Mthrown l D k b ((nI (cdOv sth x1 x2 false))) ki ba ow uu te ma va wa H.size) (cwV9 0 hts wd_430 wd_427 wd_428 wd_429 wd_4 (by decide) ⟨Nat.le_of_ble_eq_true rfl, Nat.le_of_ble_eq_true rfl⟩) (prV (q0 := 0) (ci := ciMo) hK hP hD (pm_cm _ _) rfl rfl) rfl rfl hl.1 rfl (lv_room (Nat.le_of_ble_eq_true rfl)) d_L_law_753 ⟨Nat.le_trans (by omega) hc, Nat.le_trans (by omega) hs⟩) (pm_cm _ _) hP hD hS hA (fun rv w1 H locs hw hpd hS => ?_)
    obtain ⟨rfl, rfl⟩ := hw
    obtain ⟨hP, hD⟩ := hpd (((ob, .inl (k 3, 1, .inr (.inl of))) :: cxW k a r t th kd bs us sth mk dr M sM) ++ mdW k b ((nI (cdOv sth x1 x2 false))) ki ba ow uu te ma va wa) (pm_cm _ _)
    refine lv_iload hx hb d_L_law_756 (lv_at hl 1 rfl) ?_
    refine lv_icmp_eq (tgt := 763) hx hb d_L_law_758 (by decide) (fun c758 => ?_) (fun c758 => ?_)
    · skip
      refine lv_iload hx hb d_L_law_763 (lv_at hl 1 rfl) ?_
      refine lv_if_ne (tgt := 780) hx hb d_L_law_765 (by decide) (fun c765 => ?_) (fun c765 => ?_)
      · skip
        refine lv_goto (tgt := 1234) hx hb d_L_law_780 (by decide) ?_
        refine W.widen (k := cells + 4) (n := slots + 24) (by omega) (by omega) ?_
        exact hgo th kd bs us sth mk dr M sM ((nI (cdOv sth x1 x2 false))) ki ba ow uu te ma va wa of H locs ls hR hP hD hS (lv_sub hl [2, 3, 4, 5, 6] rfl)
      · skip
        exact absurd c765 (nz_of hne lt_cdOv)
    · skip
      exact absurd rfl c758
  · skip
    obtain ⟨hP, hD⟩ := hpd (((ob, .inl (k 3, 1, .inr (.inl of))) :: cxW k a r t th kd bs us sth mk (pfF (ovG sM j j2) dr 24) M sM) ++ mdW k b cd ki ba ow uu te ma va wa) (List.Perm.refl _)
    refine lv_istore (lv' := [(5, .int (nI 2)), (0, .ref sb), (1, .ref (a 0)), (2, .ref (b 0)), (3, .ref ob), (4, .int (nI i))]) hx hb d_L_law_732 hl (by decide) rfl (fun ls hl => ?_)
    refine lv_aload_n hx hb d_L_law_734 rfl (lv_at hl 3 rfl) ?_
    refine lv_aload_n hx hb d_L_law_735 rfl (lv_at hl 1 rfl) ?_
    refine lv_iload hx hb d_L_law_736 (lv_at hl 5 rfl) ?_
    refine lv_iconst (v := nI 1) hx hb d_L_law_738 (by decide) ?_
    refine lv_iadd hx hb d_L_law_739 ?_
    rw [nI_add]
    refine rw_sld hx hb hX hbl hbA hS (j := (i + 1)) (by omega) hL hx1 d_L_law_740 ?_
    refine lv_aload_n hx hb d_L_law_741 rfl (lv_at hl 1 rfl) ?_
    refine lv_iload hx hb d_L_law_742 (lv_at hl 5 rfl) ?_
    refine lv_iconst (v := nI 2) hx hb d_L_law_744 (by decide) ?_
    refine lv_iadd hx hb d_L_law_745 ?_
    rw [nI_add]
    refine rw_sld hx hb hX hbl hbA hS (j := (i + 2)) (by omega) hL hx2 d_L_law_746 ?_
    refine cal_i (wc := mdW k b cd ki ba ow uu te ma va wa) (wr := (ob, .inl (k 3, 1, .inr (.inl of))) :: cxW k a r t th kd bs us sth mk (pfF (ovG sM j j2) dr 24) M sM) (va_runV (As := [.int (nI j), .int (nI j2)]) (rest := []) ⟨hx, hb, hml, hown, hts⟩ (c_Mover l D k b cd ki ba ow uu te ma va wa th kd bs us sth mk M sM hR (nI j) (nI j2) H.size) (cwV9 2 hts wd_524 wd_521 wd_522 wd_523 wd_4 (by decide) ⟨Nat.le_of_ble_eq_true rfl, Nat.le_of_ble_eq_true rfl⟩) (prV (q0 := 0) (ci := ciMo) hK hP hD (pm_cm _ _) rfl rfl) rfl rfl hl.1 rfl (lv_room (Nat.le_of_ble_eq_true rfl)) d_L_law_747 ⟨Nat.le_trans (by omega) hc, Nat.le_trans (by omega) hs⟩) (pm_cm _ _) hP hD hS hA (fun rv w1 H locs hw hpd hS => ?_)
    rw [nI_clamp (show j < 2 ^ 31 by omega), nI_clamp (show j2 < 2 ^ 31 by omega)] at hw
    obtain ⟨hnd, hfr⟩ := fu_t (ov2 hcd3)
    obtain ⟨wa2, hwa, ⟨hn2, rfl, rfl⟩ | ⟨hn2, i9, hi9, hf2, rfl, rfl⟩ | ⟨hn2, hf2, rfl⟩⟩ := hw.1 (by simp [cdOv, hq, hq2])
    · exact absurd hnd hn2
    · rw [hfr] at hf2; exact absurd hf2.symm (ne_m1 (by omega))
    obtain ⟨hP, hD⟩ := hpd (((ob, .inl (k 3, 1, .inr (.inl of))) :: cxW k a r t th kd bs us sth mk (pfF (ovG sM j j2) dr 24) M sM) ++ mdW k b (nI 2) ki ba ow uu te ma va wa2) (pm_cm _ _)
    refine lv_istore (lv' := [(6, .int rv), (5, .int (nI 2)), (0, .ref sb), (1, .ref (a 0)), (2, .ref (b 0)), (3, .ref ob), (4, .int (nI i))]) hx hb d_L_law_750 hl (by decide) rfl (fun ls hl => ?_)
    refine lv_aload_n hx hb d_L_law_752 rfl (lv_at hl 4 rfl) ?_
    refine cal_i (wc := mdW k b (nI 2) ki ba ow uu te ma va wa2) (wr := (ob, .inl (k 3, 1, .inr (.inl of))) :: cxW k a r t th kd bs us sth mk (pfF (ovG sM j j2) dr 24) M sM) (va_runV (As := []) (rest := []) ⟨hx, hb, hml, hown, hts⟩ (c_Mthrown l D k b (nI 2) ki ba ow uu te ma va wa2 H.size) (cwV9 0 hts wd_430 wd_427 wd_428 wd_429 wd_4 (by decide) ⟨Nat.le_of_ble_eq_true rfl, Nat.le_of_ble_eq_true rfl⟩) (prV (q0 := 0) (ci := ciMo) hK hP hD (pm_cm _ _) rfl rfl) rfl rfl hl.1 rfl (lv_room (Nat.le_of_ble_eq_true rfl)) d_L_law_753 ⟨Nat.le_trans (by omega) hc, Nat.le_trans (by omega) hs⟩) (pm_cm _ _) hP hD hS hA (fun rv w1 H locs hw hpd hS => ?_)
    obtain ⟨rfl, rfl⟩ := hw
    obtain ⟨hP, hD⟩ := hpd (((ob, .inl (k 3, 1, .inr (.inl of))) :: cxW k a r t th kd bs us sth mk (pfF (ovG sM j j2) dr 24) M sM) ++ mdW k b (nI 2) ki ba ow uu te ma va wa2) (pm_cm _ _)
    refine lv_iload hx hb d_L_law_756 (lv_at hl 1 rfl) ?_
    refine lv_icmp_eq (tgt := 763) hx hb d_L_law_758 (by decide) (fun c758 => ?_) (fun c758 => ?_)
    · skip
      refine lv_iload hx hb d_L_law_763 (lv_at hl 1 rfl) ?_
      refine lv_if_ne (tgt := 780) hx hb d_L_law_765 (by decide) (fun c765 => ?_) (fun c765 => ?_)
      · skip
        refine lv_goto (tgt := 1234) hx hb d_L_law_780 (by decide) ?_
        refine W.widen (k := cells + 4) (n := slots + 24) (by omega) (by omega) ?_
        exact hgo th kd bs us sth mk (pfF (ovG sM j j2) dr 24) M sM (nI 2) ki ba ow uu te ma va wa2 of H locs ls hR hP hD hS (lv_sub hl [2, 3, 4, 5, 6] rfl)
      · skip
        exact absurd c765 (by decide)
    · skip
      exact absurd (by decide) c758

set_option maxRecDepth 100000 in
set_option maxHeartbeats 4000000 in
theorem k_lean {p : Program} {e : Env} {s : State} {m : MethodId} {args : Array Value} {below : List Frame} {meth : Method} {c : Code} (l : Launch) (D : va_G) (k : Nat → ClassId) (a r t b : Nat → Nat) (ob : Nat) (sa : Nat → Nat) (A : Nat → Prop) (Q : State → Prop) (sb L : Nat) (xs : Nat → Int32) (hl9 : l.stackTraces = false) (hx : p.tables.exec = Jvm.exec) (hb : c.code = code) (hml : c.maxLocals = 7) (hown : s.vm.findClass "StyleSheetLaw" = some m.cls) (hts : ∀ w ∈ wG, w.before args s = true) (hA : ∀ q, s.heap.size ≤ q → A q) (hK : bK D (tsK k) s) (hE : bEV Sts sa A s s.heap) (hN : lNc s) (hX : va_X sb L xs s s.heap) (hbl : sb < s.heap.size) (hbA : ¬ A sb) (hL : L ≤ 2560) (th kd bs us sth mk dr : Nat → Int32) (M sM : Nat → Nat → Int32) (cd : Int32) (ki ba ow uu te ma va wa : Nat → Int32) (of : Nat → Int64) (hR : RI th kd bs us sth mk M sM ki ba ow uu te ma va) (i : Nat) (hi : i + 4 < L) (cells slots : Nat) (hc : cells + 4 ≤ room_1.cells) (hs : slots + 24 ≤ room_1.slots) (H : Heap) (locs : List Loc) (ls : Array Slot) (hP : va_P D vwCl (((ob, .inl (k 3, 1, .inr (.inl of))) :: cxW k a r t th kd bs us sth mk dr M sM) ++ mdW k b cd ki ba ow uu te ma va wa) H) (hD : va_D A (((ob, .inl (k 3, 1, .inr (.inl of))) :: cxW k a r t th kd bs us sth mk dr M sM) ++ mdW k b cd ki ba ow uu te ma va wa)) (hS : va_S A s.heap H locs) (hl : lv_has ls 7 [(0, .ref sb), (1, .ref (a 0)), (2, .ref (b 0)), (3, .ref ob), (4, .int (nI i))]) (hgo : ∀ (th kd bs us sth mk dr : Nat → Int32) (M sM : Nat → Nat → Int32) (cd : Int32) (ki ba ow uu te ma va wa : Nat → Int32) (of : Nat → Int64) (H : Heap) (locs : List Loc) (ls : Array Slot), RI th kd bs us sth mk M sM ki ba ow uu te ma va → va_P D vwCl (((ob, .inl (k 3, 1, .inr (.inl of))) :: cxW k a r t th kd bs us sth mk dr M sM) ++ mdW k b cd ki ba ow uu te ma va wa) H → va_D A (((ob, .inl (k 3, 1, .inr (.inl of))) :: cxW k a r t th kd bs us sth mk dr M sM) ++ mdW k b cd ki ba ow uu te ma va wa) → va_S A s.heap H locs → lv_has ls 7 [(0, .ref sb), (1, .ref (a 0)), (2, .ref (b 0)), (3, .ref ob), (4, .int (nI i))] → W p l e room_1 s m args below meth c H locs (cells + 4) (slots + 24) Q (F0 m 1234 ls [])) : W p l e room_1 s m args below meth c H locs cells slots Q (F0 m 783 ls []) := by
  obtain ⟨x1, hx1⟩ : ∃ x : Int32, xs (i + 1) = x := ⟨_, rfl⟩
  obtain ⟨x2, hx2⟩ : ∃ x : Int32, xs (i + 2) = x := ⟨_, rfl⟩
  obtain ⟨x3, hx3⟩ : ∃ x : Int32, xs (i + 3) = x := ⟨_, rfl⟩
  refine lv_aload_n hx hb d_L_law_783 rfl (lv_at hl 1 rfl) ?_
  refine lv_aload_n hx hb d_L_law_784 rfl (lv_at hl 0 rfl) ?_
  refine lv_iload hx hb d_L_law_785 (lv_at hl 4 rfl) ?_
  refine lv_iconst (v := nI 1) hx hb d_L_law_787 (by decide) ?_
  refine lv_iadd hx hb d_L_law_788 ?_
  rw [nI_add]
  refine rw_sld hx hb hX hbl hbA hS (j := (i + 1)) (by omega) hL hx1 d_L_law_789 ?_
  refine lv_aload_n hx hb d_L_law_790 rfl (lv_at hl 0 rfl) ?_
  refine lv_iload hx hb d_L_law_791 (lv_at hl 4 rfl) ?_
  refine lv_iconst (v := nI 2) hx hb d_L_law_793 (by decide) ?_
  refine lv_iadd hx hb d_L_law_794 ?_
  rw [nI_add]
  refine rw_sld hx hb hX hbl hbA hS (j := (i + 2)) (by omega) hL hx2 d_L_law_795 ?_
  refine lv_aload_n hx hb d_L_law_796 rfl (lv_at hl 0 rfl) ?_
  refine lv_iload hx hb d_L_law_797 (lv_at hl 4 rfl) ?_
  refine lv_iconst (v := nI 3) hx hb d_L_law_799 (by decide) ?_
  refine lv_iadd hx hb d_L_law_800 ?_
  rw [nI_add]
  refine rw_sld hx hb hX hbl hbA hS (j := (i + 3)) (by omega) hL hx3 d_L_law_801 ?_
  refine lv_aload_n hx hb d_L_law_802 rfl (lv_at hl 3 rfl) ?_
  refine cal_i (wc := (ob, .inl (k 3, 1, .inr (.inl of))) :: cxW k a r t th kd bs us sth mk dr M sM) (wr := mdW k b cd ki ba ow uu te ma va wa) (vx_runSW (As := [.ref (a 0), .int x1, .int x2, .int x3, .ref ob]) (rest := []) ⟨hx, hb, hml, hown, hts⟩ (w_lean l D k a r t th kd bs us sth mk dr M sM sa hl9 x1 x2 x3 ob of H.size) (cwH9 5 hts wd_352 wd_350 wd_351 wd_0 (by decide) ⟨Nat.le_of_ble_eq_true rfl, Nat.le_of_ble_eq_true rfl⟩) (prH hE hN hS hA hK hP hD (List.Perm.refl _)) rfl rfl hl.1 rfl (lv_room (Nat.le_of_ble_eq_true rfl)) d_L_law_803 ⟨Nat.le_trans (by omega) hc, Nat.le_trans (by omega) hs⟩) (List.Perm.refl _) hP hD hS hA (fun rv w1 H locs hw hpd hS => ?_)
  simp only [nd_pf] at hw
  rcases hw with ⟨rfl, r9, w9, ⟨j, hj, rfl, hq, hc9, hk9, hcd, ⟨hnd, rfl, rfl⟩ | ⟨hnd, j9, hj9, hfr, rfl, rfl⟩⟩, rfl⟩ | ⟨hne, rfl, rfl⟩ | ⟨rfl, w9, ⟨j, hj, rfl, hq, hc9, hk9, hcd3, rfl⟩, rfl⟩
  · skip
    obtain ⟨hP, hD⟩ := hpd (((ob, .inl (k 3, 1, .inr (.inl (vp_updL of (nI 0).toNatClampNeg ((ndF sth (leG th bs us M sM j x2 x3) sM).toInt64))))) :: cxW k a r t th kd bs us sth mk (pfF (leG th bs us M sM j x2 x3) dr 24) M sM) ++ mdW k b cd ki ba ow uu te ma va wa) (List.Perm.refl _)
    have hcd0 : cdLe th kd sth (nI j) x2 x3 false = 0 := by simp [cdLe, hq, hc9, hk9]
    refine lv_istore (lv' := [(5, .int (nI 0)), (0, .ref sb), (1, .ref (a 0)), (2, .ref (b 0)), (3, .ref ob), (4, .int (nI i))]) hx hb d_L_law_806 hl (by decide) rfl (fun ls hl => ?_)
    refine lv_aload_n hx hb d_L_law_808 rfl (lv_at hl 3 rfl) ?_
    refine lv_aload_n hx hb d_L_law_809 rfl (lv_at hl 1 rfl) ?_
    refine lv_iload hx hb d_L_law_810 (lv_at hl 5 rfl) ?_
    refine lv_iconst (v := nI 1) hx hb d_L_law_812 (by decide) ?_
    refine lv_iadd hx hb d_L_law_813 ?_
    rw [nI_add]
    refine rw_sld hx hb hX hbl hbA hS (j := (i + 1)) (by omega) hL hx1 d_L_law_814 ?_
    refine lv_aload_n hx hb d_L_law_815 rfl (lv_at hl 1 rfl) ?_
    refine lv_iload hx hb d_L_law_816 (lv_at hl 5 rfl) ?_
    refine lv_iconst (v := nI 2) hx hb d_L_law_818 (by decide) ?_
    refine lv_iadd hx hb d_L_law_819 ?_
    rw [nI_add]
    refine rw_sld hx hb hX hbl hbA hS (j := (i + 2)) (by omega) hL hx2 d_L_law_820 ?_
    refine lv_aload_n hx hb d_L_law_821 rfl (lv_at hl 1 rfl) ?_
    refine lv_iload hx hb d_L_law_822 (lv_at hl 5 rfl) ?_
    refine lv_iconst (v := nI 3) hx hb d_L_law_824 (by decide) ?_
    refine lv_iadd hx hb d_L_law_825 ?_
    rw [nI_add]
    refine rw_sld hx hb hX hbl hbA hS (j := (i + 3)) (by omega) hL hx3 d_L_law_826 ?_
    refine cal_i (wc := mdW k b cd ki ba ow uu te ma va wa) (wr := (ob, .inl (k 3, 1, .inr (.inl (vp_updL of (nI 0).toNatClampNeg ((ndF sth (leG th bs us M sM j x2 x3) sM).toInt64))))) :: cxW k a r t th kd bs us sth mk (pfF (leG th bs us M sM j x2 x3) dr 24) M sM) (va_runV (As := [.int (nI j), .int x2, .int x3]) (rest := []) ⟨hx, hb, hml, hown, hts⟩ (c_Mlean l D k b cd ki ba ow uu te ma va wa th kd bs us sth mk M sM hR (nI j) x2 x3 H.size) (cwV9 3 hts wd_528 wd_525 wd_526 wd_527 wd_4 (by decide) ⟨Nat.le_of_ble_eq_true rfl, Nat.le_of_ble_eq_true rfl⟩) (prV (q0 := 0) (ci := ciMo) hK hP hD (pm_cm _ _) rfl rfl) rfl rfl hl.1 rfl (lv_room (Nat.le_of_ble_eq_true rfl)) d_L_law_827 ⟨Nat.le_trans (by omega) hc, Nat.le_trans (by omega) hs⟩) (pm_cm _ _) hP hD hS hA (fun rv w1 H locs hw hpd hS => ?_)
    rw [nI_clamp (show j < 2 ^ 31 by omega)] at hw
    obtain ⟨wa2, hwa, ⟨hn2, rfl, rfl⟩ | ⟨hn2, i9, hi9, hf2, rfl, rfl⟩ | ⟨hn2, hf2, rfl⟩⟩ := hw.1 hcd0
    rotate_left
    · exact absurd hn2 hnd
    · exact absurd hn2 hnd
    obtain ⟨hP, hD⟩ := hpd (((ob, .inl (k 3, 1, .inr (.inl (vp_updL of (nI 0).toNatClampNeg ((ndF sth (leG th bs us M sM j x2 x3) sM).toInt64))))) :: cxW k a r t th kd bs us sth mk (pfF (leG th bs us M sM j x2 x3) dr 24) M sM) ++ mdW k b (nI 0) ki ba ow uu te ma va wa2) (pm_cm _ _)
    refine lv_istore (lv' := [(6, .int (ndF sth (leG th bs us M sM j x2 x3) sM)), (5, .int (nI 0)), (0, .ref sb), (1, .ref (a 0)), (2, .ref (b 0)), (3, .ref ob), (4, .int (nI i))]) hx hb d_L_law_830 hl (by decide) rfl (fun ls hl => ?_)
    refine lv_aload_n hx hb d_L_law_832 rfl (lv_at hl 4 rfl) ?_
    refine cal_i (wc := mdW k b (nI 0) ki ba ow uu te ma va wa2) (wr := (ob, .inl (k 3, 1, .inr (.inl (vp_updL of (nI 0).toNatClampNeg ((ndF sth (leG th bs us M sM j x2 x3) sM).toInt64))))) :: cxW k a r t th kd bs us sth mk (pfF (leG th bs us M sM j x2 x3) dr 24) M sM) (va_runV (As := []) (rest := []) ⟨hx, hb, hml, hown, hts⟩ (c_Mthrown l D k b (nI 0) ki ba ow uu te ma va wa2 H.size) (cwV9 0 hts wd_430 wd_427 wd_428 wd_429 wd_4 (by decide) ⟨Nat.le_of_ble_eq_true rfl, Nat.le_of_ble_eq_true rfl⟩) (prV (q0 := 0) (ci := ciMo) hK hP hD (pm_cm _ _) rfl rfl) rfl rfl hl.1 rfl (lv_room (Nat.le_of_ble_eq_true rfl)) d_L_law_833 ⟨Nat.le_trans (by omega) hc, Nat.le_trans (by omega) hs⟩) (pm_cm _ _) hP hD hS hA (fun rv w1 H locs hw hpd hS => ?_)
    obtain ⟨rfl, rfl⟩ := hw
    obtain ⟨hP, hD⟩ := hpd (((ob, .inl (k 3, 1, .inr (.inl (vp_updL of (nI 0).toNatClampNeg ((ndF sth (leG th bs us M sM j x2 x3) sM).toInt64))))) :: cxW k a r t th kd bs us sth mk (pfF (leG th bs us M sM j x2 x3) dr 24) M sM) ++ mdW k b (nI 0) ki ba ow uu te ma va wa2) (pm_cm _ _)
    refine lv_iload hx hb d_L_law_836 (lv_at hl 1 rfl) ?_
    refine lv_icmp_eq (tgt := 843) hx hb d_L_law_838 (by decide) (fun c838 => ?_) (fun c838 => ?_)
    · skip
      refine lv_iload hx hb d_L_law_843 (lv_at hl 1 rfl) ?_
      refine lv_if_ne (tgt := 860) hx hb d_L_law_845 (by decide) (fun c845 => ?_) (fun c845 => ?_)
      · skip
        exact absurd (by decide) c845
      · skip
        refine lv_aload_n hx hb d_L_law_848 rfl (lv_at hl 5 rfl) ?_
        refine lv_iconst (v := nI 0) hx hb d_L_law_849 (by decide) ?_
        refine va_lald hx hb hK.1 hP 0 3 rfl rfl vin_0 d_L_law_850 ?_
        rw [show (vp_updL of (nI 0).toNatClampNeg ((ndF sth (leG th bs us M sM j x2 x3) sM).toInt64)) (nI 0).toNatClampNeg = (ndF sth (leG th bs us M sM j x2 x3) sM).toInt64 by simp [vp_updL]]
        refine lv_iload hx hb d_L_law_851 (lv_at hl 0 rfl) ?_
        refine lv_i2l (v := (ndF sth (leG th bs us M sM j x2 x3) sM).toInt64) hx hb d_L_law_853 rfl ?_
        refine W.lcmp hx hb d_L_law_854 ?_
        refine lv_if_eq (tgt := 860) hx hb d_L_law_855 (by decide) (fun c855 => ?_) (fun c855 => ?_)
        · skip
          refine lv_goto (tgt := 1234) hx hb d_L_law_860 (by decide) ?_
          refine W.widen (k := cells + 4) (n := slots + 24) (by omega) (by omega) ?_
          exact hgo th kd bs us sth mk (pfF (leG th bs us M sM j x2 x3) dr 24) M sM (nI 0) ki ba ow uu te ma va wa2 (vp_updL of (nI 0).toNatClampNeg ((ndF sth (leG th bs us M sM j x2 x3) sM).toInt64)) H locs ls hR hP hD hS (lv_sub hl [2, 3, 4, 5, 6] rfl)
        · skip
          exact absurd (lcm_self _) c855
    · skip
      exact absurd (by decide) c838
  · skip
    obtain ⟨hP, hD⟩ := hpd (((ob, .inl (k 3, 1, .inr (.inl (vp_updL of (nI 0).toNatClampNeg ((nI j9).toInt64))))) :: cxW k a r t th kd bs us (upd sth j9 (nI 1)) mk (pfF (leG th bs us M sM j x2 x3) dr 24) M (va_up sM j9 (pfF (leG th bs us M sM j x2 x3) dr 24))) ++ mdW k b cd ki ba ow uu te ma va wa) (List.Perm.refl _)
    have hcd0 : cdLe th kd sth (nI j) x2 x3 false = 0 := by simp [cdLe, hq, hc9, hk9]
    refine lv_istore (lv' := [(5, .int (nI 0)), (0, .ref sb), (1, .ref (a 0)), (2, .ref (b 0)), (3, .ref ob), (4, .int (nI i))]) hx hb d_L_law_806 hl (by decide) rfl (fun ls hl => ?_)
    refine lv_aload_n hx hb d_L_law_808 rfl (lv_at hl 3 rfl) ?_
    refine lv_aload_n hx hb d_L_law_809 rfl (lv_at hl 1 rfl) ?_
    refine lv_iload hx hb d_L_law_810 (lv_at hl 5 rfl) ?_
    refine lv_iconst (v := nI 1) hx hb d_L_law_812 (by decide) ?_
    refine lv_iadd hx hb d_L_law_813 ?_
    rw [nI_add]
    refine rw_sld hx hb hX hbl hbA hS (j := (i + 1)) (by omega) hL hx1 d_L_law_814 ?_
    refine lv_aload_n hx hb d_L_law_815 rfl (lv_at hl 1 rfl) ?_
    refine lv_iload hx hb d_L_law_816 (lv_at hl 5 rfl) ?_
    refine lv_iconst (v := nI 2) hx hb d_L_law_818 (by decide) ?_
    refine lv_iadd hx hb d_L_law_819 ?_
    rw [nI_add]
    refine rw_sld hx hb hX hbl hbA hS (j := (i + 2)) (by omega) hL hx2 d_L_law_820 ?_
    refine lv_aload_n hx hb d_L_law_821 rfl (lv_at hl 1 rfl) ?_
    refine lv_iload hx hb d_L_law_822 (lv_at hl 5 rfl) ?_
    refine lv_iconst (v := nI 3) hx hb d_L_law_824 (by decide) ?_
    refine lv_iadd hx hb d_L_law_825 ?_
    rw [nI_add]
    refine rw_sld hx hb hX hbl hbA hS (j := (i + 3)) (by omega) hL hx3 d_L_law_826 ?_
    refine cal_i (wc := mdW k b cd ki ba ow uu te ma va wa) (wr := (ob, .inl (k 3, 1, .inr (.inl (vp_updL of (nI 0).toNatClampNeg ((nI j9).toInt64))))) :: cxW k a r t th kd bs us (upd sth j9 (nI 1)) mk (pfF (leG th bs us M sM j x2 x3) dr 24) M (va_up sM j9 (pfF (leG th bs us M sM j x2 x3) dr 24))) (va_runV (As := [.int (nI j), .int x2, .int x3]) (rest := []) ⟨hx, hb, hml, hown, hts⟩ (c_Mlean l D k b cd ki ba ow uu te ma va wa th kd bs us sth mk M sM hR (nI j) x2 x3 H.size) (cwV9 3 hts wd_528 wd_525 wd_526 wd_527 wd_4 (by decide) ⟨Nat.le_of_ble_eq_true rfl, Nat.le_of_ble_eq_true rfl⟩) (prV (q0 := 0) (ci := ciMo) hK hP hD (pm_cm _ _) rfl rfl) rfl rfl hl.1 rfl (lv_room (Nat.le_of_ble_eq_true rfl)) d_L_law_827 ⟨Nat.le_trans (by omega) hc, Nat.le_trans (by omega) hs⟩) (pm_cm _ _) hP hD hS hA (fun rv w1 H locs hw hpd hS => ?_)
    rw [nI_clamp (show j < 2 ^ 31 by omega)] at hw
    obtain ⟨wa2, hwa, ⟨hn2, rfl, rfl⟩ | ⟨hn2, i9, hi9, hf2, rfl, rfl⟩ | ⟨hn2, hf2, rfl⟩⟩ := hw.1 hcd0
    · exact absurd hnd hn2
    rotate_left
    · rw [hfr] at hf2; exact absurd hf2 (ne_m1 (by omega))
    obtain rfl : j9 = i9 := (nI_eq (by omega) (by omega)).mp (hfr.symm.trans hf2)
    obtain ⟨hP, hD⟩ := hpd (((ob, .inl (k 3, 1, .inr (.inl (vp_updL of (nI 0).toNatClampNeg ((nI j9).toInt64))))) :: cxW k a r t th kd bs us (upd sth j9 (nI 1)) mk (pfF (leG th bs us M sM j x2 x3) dr 24) M (va_up sM j9 (pfF (leG th bs us M sM j x2 x3) dr 24))) ++ mdW k b (nI 0) ki ba ow uu (upd te j9 (nI 1)) (upd ma j9 (nI 0)) (rwF va j9 wa2 24) wa2) (pm_cm _ _)
    refine lv_istore (lv' := [(6, .int (nI j9)), (5, .int (nI 0)), (0, .ref sb), (1, .ref (a 0)), (2, .ref (b 0)), (3, .ref ob), (4, .int (nI i))]) hx hb d_L_law_830 hl (by decide) rfl (fun ls hl => ?_)
    refine lv_aload_n hx hb d_L_law_832 rfl (lv_at hl 4 rfl) ?_
    refine cal_i (wc := mdW k b (nI 0) ki ba ow uu (upd te j9 (nI 1)) (upd ma j9 (nI 0)) (rwF va j9 wa2 24) wa2) (wr := (ob, .inl (k 3, 1, .inr (.inl (vp_updL of (nI 0).toNatClampNeg ((nI j9).toInt64))))) :: cxW k a r t th kd bs us (upd sth j9 (nI 1)) mk (pfF (leG th bs us M sM j x2 x3) dr 24) M (va_up sM j9 (pfF (leG th bs us M sM j x2 x3) dr 24))) (va_runV (As := []) (rest := []) ⟨hx, hb, hml, hown, hts⟩ (c_Mthrown l D k b (nI 0) ki ba ow uu (upd te j9 (nI 1)) (upd ma j9 (nI 0)) (rwF va j9 wa2 24) wa2 H.size) (cwV9 0 hts wd_430 wd_427 wd_428 wd_429 wd_4 (by decide) ⟨Nat.le_of_ble_eq_true rfl, Nat.le_of_ble_eq_true rfl⟩) (prV (q0 := 0) (ci := ciMo) hK hP hD (pm_cm _ _) rfl rfl) rfl rfl hl.1 rfl (lv_room (Nat.le_of_ble_eq_true rfl)) d_L_law_833 ⟨Nat.le_trans (by omega) hc, Nat.le_trans (by omega) hs⟩) (pm_cm _ _) hP hD hS hA (fun rv w1 H locs hw hpd hS => ?_)
    obtain ⟨rfl, rfl⟩ := hw
    obtain ⟨hP, hD⟩ := hpd (((ob, .inl (k 3, 1, .inr (.inl (vp_updL of (nI 0).toNatClampNeg ((nI j9).toInt64))))) :: cxW k a r t th kd bs us (upd sth j9 (nI 1)) mk (pfF (leG th bs us M sM j x2 x3) dr 24) M (va_up sM j9 (pfF (leG th bs us M sM j x2 x3) dr 24))) ++ mdW k b (nI 0) ki ba ow uu (upd te j9 (nI 1)) (upd ma j9 (nI 0)) (rwF va j9 wa2 24) wa2) (pm_cm _ _)
    refine lv_iload hx hb d_L_law_836 (lv_at hl 1 rfl) ?_
    refine lv_icmp_eq (tgt := 843) hx hb d_L_law_838 (by decide) (fun c838 => ?_) (fun c838 => ?_)
    · skip
      refine lv_iload hx hb d_L_law_843 (lv_at hl 1 rfl) ?_
      refine lv_if_ne (tgt := 860) hx hb d_L_law_845 (by decide) (fun c845 => ?_) (fun c845 => ?_)
      · skip
        exact absurd (by decide) c845
      · skip
        refine lv_aload_n hx hb d_L_law_848 rfl (lv_at hl 5 rfl) ?_
        refine lv_iconst (v := nI 0) hx hb d_L_law_849 (by decide) ?_
        refine va_lald hx hb hK.1 hP 0 3 rfl rfl vin_0 d_L_law_850 ?_
        rw [show (vp_updL of (nI 0).toNatClampNeg ((nI j9).toInt64)) (nI 0).toNatClampNeg = (nI j9).toInt64 by simp [vp_updL]]
        refine lv_iload hx hb d_L_law_851 (lv_at hl 0 rfl) ?_
        refine lv_i2l (v := (nI j9).toInt64) hx hb d_L_law_853 rfl ?_
        refine W.lcmp hx hb d_L_law_854 ?_
        refine lv_if_eq (tgt := 860) hx hb d_L_law_855 (by decide) (fun c855 => ?_) (fun c855 => ?_)
        · skip
          refine lv_goto (tgt := 1234) hx hb d_L_law_860 (by decide) ?_
          refine W.widen (k := cells + 4) (n := slots + 24) (by omega) (by omega) ?_
          exact hgo th kd bs us (upd sth j9 (nI 1)) mk (pfF (leG th bs us M sM j x2 x3) dr 24) M (va_up sM j9 (pfF (leG th bs us M sM j x2 x3) dr 24)) (nI 0) ki ba ow uu (upd te j9 (nI 1)) (upd ma j9 (nI 0)) (rwF va j9 wa2 24) wa2 (vp_updL of (nI 0).toNatClampNeg ((nI j9).toInt64)) H locs ls (RI_found hR hj9 hfr pf_24 hwa (leG_ok hR.1.2 hj)) hP hD hS (lv_sub hl [2, 3, 4, 5, 6] rfl)
        · skip
          exact absurd (lcm_self _) c855
    · skip
      exact absurd (by decide) c838
  · skip
    obtain ⟨hP, hD⟩ := hpd (((ob, .inl (k 3, 1, .inr (.inl of))) :: cxW k a r t th kd bs us sth mk dr M sM) ++ mdW k b cd ki ba ow uu te ma va wa) (List.Perm.refl _)
    refine lv_istore (lv' := [(5, .int ((nI (cdLe th kd sth x1 x2 x3 false)))), (0, .ref sb), (1, .ref (a 0)), (2, .ref (b 0)), (3, .ref ob), (4, .int (nI i))]) hx hb d_L_law_806 hl (by decide) rfl (fun ls hl => ?_)
    refine lv_aload_n hx hb d_L_law_808 rfl (lv_at hl 3 rfl) ?_
    refine lv_aload_n hx hb d_L_law_809 rfl (lv_at hl 1 rfl) ?_
    refine lv_iload hx hb d_L_law_810 (lv_at hl 5 rfl) ?_
    refine lv_iconst (v := nI 1) hx hb d_L_law_812 (by decide) ?_
    refine lv_iadd hx hb d_L_law_813 ?_
    rw [nI_add]
    refine rw_sld hx hb hX hbl hbA hS (j := (i + 1)) (by omega) hL hx1 d_L_law_814 ?_
    refine lv_aload_n hx hb d_L_law_815 rfl (lv_at hl 1 rfl) ?_
    refine lv_iload hx hb d_L_law_816 (lv_at hl 5 rfl) ?_
    refine lv_iconst (v := nI 2) hx hb d_L_law_818 (by decide) ?_
    refine lv_iadd hx hb d_L_law_819 ?_
    rw [nI_add]
    refine rw_sld hx hb hX hbl hbA hS (j := (i + 2)) (by omega) hL hx2 d_L_law_820 ?_
    refine lv_aload_n hx hb d_L_law_821 rfl (lv_at hl 1 rfl) ?_
    refine lv_iload hx hb d_L_law_822 (lv_at hl 5 rfl) ?_
    refine lv_iconst (v := nI 3) hx hb d_L_law_824 (by decide) ?_
    refine lv_iadd hx hb d_L_law_825 ?_
    rw [nI_add]
    refine rw_sld hx hb hX hbl hbA hS (j := (i + 3)) (by omega) hL hx3 d_L_law_826 ?_
    refine cal_i (wc := mdW k b cd ki ba ow uu te ma va wa) (wr := (ob, .inl (k 3, 1, .inr (.inl of))) :: cxW k a r t th kd bs us sth mk dr M sM) (va_runV (As := [.int x1, .int x2, .int x3]) (rest := []) ⟨hx, hb, hml, hown, hts⟩ (c_Mlean l D k b cd ki ba ow uu te ma va wa th kd bs us sth mk M sM hR x1 x2 x3 H.size) (cwV9 3 hts wd_528 wd_525 wd_526 wd_527 wd_4 (by decide) ⟨Nat.le_of_ble_eq_true rfl, Nat.le_of_ble_eq_true rfl⟩) (prV (q0 := 0) (ci := ciMo) hK hP hD (pm_cm _ _) rfl rfl) rfl rfl hl.1 rfl (lv_room (Nat.le_of_ble_eq_true rfl)) d_L_law_827 ⟨Nat.le_trans (by omega) hc, Nat.le_trans (by omega) hs⟩) (pm_cm _ _) hP hD hS hA (fun rv w1 H locs hw hpd hS => ?_)
    obtain rfl := hw.2 hne
    obtain ⟨hP, hD⟩ := hpd (((ob, .inl (k 3, 1, .inr (.inl of))) :: cxW k a r t th kd bs us sth mk dr M sM) ++ mdW k b ((nI (cdLe th kd sth x1 x2 x3 false))) ki ba ow uu te ma va wa) (pm_cm _ _)
    refine lv_istore (lv' := [(6, .int rv), (5, .int ((nI (cdLe th kd sth x1 x2 x3 false)))), (0, .ref sb), (1, .ref (a 0)), (2, .ref (b 0)), (3, .ref ob), (4, .int (nI i))]) hx hb d_L_law_830 hl (by decide) rfl (fun ls hl => ?_)
    refine lv_aload_n hx hb d_L_law_832 rfl (lv_at hl 4 rfl) ?_
    refine cal_i (wc := mdW k b ((nI (cdLe th kd sth x1 x2 x3 false))) ki ba ow uu te ma va wa) (wr := (ob, .inl (k 3, 1, .inr (.inl of))) :: cxW k a r t th kd bs us sth mk dr M sM) (va_runV (As := []) (rest := []) ⟨hx, hb, hml, hown, hts⟩ (c_Mthrown l D k b ((nI (cdLe th kd sth x1 x2 x3 false))) ki ba ow uu te ma va wa H.size) (cwV9 0 hts wd_430 wd_427 wd_428 wd_429 wd_4 (by decide) ⟨Nat.le_of_ble_eq_true rfl, Nat.le_of_ble_eq_true rfl⟩) (prV (q0 := 0) (ci := ciMo) hK hP hD (pm_cm _ _) rfl rfl) rfl rfl hl.1 rfl (lv_room (Nat.le_of_ble_eq_true rfl)) d_L_law_833 ⟨Nat.le_trans (by omega) hc, Nat.le_trans (by omega) hs⟩) (pm_cm _ _) hP hD hS hA (fun rv w1 H locs hw hpd hS => ?_)
    obtain ⟨rfl, rfl⟩ := hw
    obtain ⟨hP, hD⟩ := hpd (((ob, .inl (k 3, 1, .inr (.inl of))) :: cxW k a r t th kd bs us sth mk dr M sM) ++ mdW k b ((nI (cdLe th kd sth x1 x2 x3 false))) ki ba ow uu te ma va wa) (pm_cm _ _)
    refine lv_iload hx hb d_L_law_836 (lv_at hl 1 rfl) ?_
    refine lv_icmp_eq (tgt := 843) hx hb d_L_law_838 (by decide) (fun c838 => ?_) (fun c838 => ?_)
    · skip
      refine lv_iload hx hb d_L_law_843 (lv_at hl 1 rfl) ?_
      refine lv_if_ne (tgt := 860) hx hb d_L_law_845 (by decide) (fun c845 => ?_) (fun c845 => ?_)
      · skip
        refine lv_goto (tgt := 1234) hx hb d_L_law_860 (by decide) ?_
        refine W.widen (k := cells + 4) (n := slots + 24) (by omega) (by omega) ?_
        exact hgo th kd bs us sth mk dr M sM ((nI (cdLe th kd sth x1 x2 x3 false))) ki ba ow uu te ma va wa of H locs ls hR hP hD hS (lv_sub hl [2, 3, 4, 5, 6] rfl)
      · skip
        exact absurd c845 (nz_of hne lt_cdLe)
    · skip
      exact absurd rfl c838
  · skip
    obtain ⟨hP, hD⟩ := hpd (((ob, .inl (k 3, 1, .inr (.inl of))) :: cxW k a r t th kd bs us sth mk (pfF (leG th bs us M sM j x2 x3) dr 24) M sM) ++ mdW k b cd ki ba ow uu te ma va wa) (List.Perm.refl _)
    refine lv_istore (lv' := [(5, .int (nI 3)), (0, .ref sb), (1, .ref (a 0)), (2, .ref (b 0)), (3, .ref ob), (4, .int (nI i))]) hx hb d_L_law_806 hl (by decide) rfl (fun ls hl => ?_)
    refine lv_aload_n hx hb d_L_law_808 rfl (lv_at hl 3 rfl) ?_
    refine lv_aload_n hx hb d_L_law_809 rfl (lv_at hl 1 rfl) ?_
    refine lv_iload hx hb d_L_law_810 (lv_at hl 5 rfl) ?_
    refine lv_iconst (v := nI 1) hx hb d_L_law_812 (by decide) ?_
    refine lv_iadd hx hb d_L_law_813 ?_
    rw [nI_add]
    refine rw_sld hx hb hX hbl hbA hS (j := (i + 1)) (by omega) hL hx1 d_L_law_814 ?_
    refine lv_aload_n hx hb d_L_law_815 rfl (lv_at hl 1 rfl) ?_
    refine lv_iload hx hb d_L_law_816 (lv_at hl 5 rfl) ?_
    refine lv_iconst (v := nI 2) hx hb d_L_law_818 (by decide) ?_
    refine lv_iadd hx hb d_L_law_819 ?_
    rw [nI_add]
    refine rw_sld hx hb hX hbl hbA hS (j := (i + 2)) (by omega) hL hx2 d_L_law_820 ?_
    refine lv_aload_n hx hb d_L_law_821 rfl (lv_at hl 1 rfl) ?_
    refine lv_iload hx hb d_L_law_822 (lv_at hl 5 rfl) ?_
    refine lv_iconst (v := nI 3) hx hb d_L_law_824 (by decide) ?_
    refine lv_iadd hx hb d_L_law_825 ?_
    rw [nI_add]
    refine rw_sld hx hb hX hbl hbA hS (j := (i + 3)) (by omega) hL hx3 d_L_law_826 ?_
    refine cal_i (wc := mdW k b cd ki ba ow uu te ma va wa) (wr := (ob, .inl (k 3, 1, .inr (.inl of))) :: cxW k a r t th kd bs us sth mk (pfF (leG th bs us M sM j x2 x3) dr 24) M sM) (va_runV (As := [.int (nI j), .int x2, .int x3]) (rest := []) ⟨hx, hb, hml, hown, hts⟩ (c_Mlean l D k b cd ki ba ow uu te ma va wa th kd bs us sth mk M sM hR (nI j) x2 x3 H.size) (cwV9 3 hts wd_528 wd_525 wd_526 wd_527 wd_4 (by decide) ⟨Nat.le_of_ble_eq_true rfl, Nat.le_of_ble_eq_true rfl⟩) (prV (q0 := 0) (ci := ciMo) hK hP hD (pm_cm _ _) rfl rfl) rfl rfl hl.1 rfl (lv_room (Nat.le_of_ble_eq_true rfl)) d_L_law_827 ⟨Nat.le_trans (by omega) hc, Nat.le_trans (by omega) hs⟩) (pm_cm _ _) hP hD hS hA (fun rv w1 H locs hw hpd hS => ?_)
    rw [nI_clamp (show j < 2 ^ 31 by omega)] at hw
    obtain ⟨hnd, hfr⟩ := fu_t (le3 hcd3)
    obtain ⟨wa2, hwa, ⟨hn2, rfl, rfl⟩ | ⟨hn2, i9, hi9, hf2, rfl, rfl⟩ | ⟨hn2, hf2, rfl⟩⟩ := hw.1 (by simp [cdLe, hq, hc9, hk9])
    · exact absurd hnd hn2
    · rw [hfr] at hf2; exact absurd hf2.symm (ne_m1 (by omega))
    obtain ⟨hP, hD⟩ := hpd (((ob, .inl (k 3, 1, .inr (.inl of))) :: cxW k a r t th kd bs us sth mk (pfF (leG th bs us M sM j x2 x3) dr 24) M sM) ++ mdW k b (nI 3) ki ba ow uu te ma va wa2) (pm_cm _ _)
    refine lv_istore (lv' := [(6, .int rv), (5, .int (nI 3)), (0, .ref sb), (1, .ref (a 0)), (2, .ref (b 0)), (3, .ref ob), (4, .int (nI i))]) hx hb d_L_law_830 hl (by decide) rfl (fun ls hl => ?_)
    refine lv_aload_n hx hb d_L_law_832 rfl (lv_at hl 4 rfl) ?_
    refine cal_i (wc := mdW k b (nI 3) ki ba ow uu te ma va wa2) (wr := (ob, .inl (k 3, 1, .inr (.inl of))) :: cxW k a r t th kd bs us sth mk (pfF (leG th bs us M sM j x2 x3) dr 24) M sM) (va_runV (As := []) (rest := []) ⟨hx, hb, hml, hown, hts⟩ (c_Mthrown l D k b (nI 3) ki ba ow uu te ma va wa2 H.size) (cwV9 0 hts wd_430 wd_427 wd_428 wd_429 wd_4 (by decide) ⟨Nat.le_of_ble_eq_true rfl, Nat.le_of_ble_eq_true rfl⟩) (prV (q0 := 0) (ci := ciMo) hK hP hD (pm_cm _ _) rfl rfl) rfl rfl hl.1 rfl (lv_room (Nat.le_of_ble_eq_true rfl)) d_L_law_833 ⟨Nat.le_trans (by omega) hc, Nat.le_trans (by omega) hs⟩) (pm_cm _ _) hP hD hS hA (fun rv w1 H locs hw hpd hS => ?_)
    obtain ⟨rfl, rfl⟩ := hw
    obtain ⟨hP, hD⟩ := hpd (((ob, .inl (k 3, 1, .inr (.inl of))) :: cxW k a r t th kd bs us sth mk (pfF (leG th bs us M sM j x2 x3) dr 24) M sM) ++ mdW k b (nI 3) ki ba ow uu te ma va wa2) (pm_cm _ _)
    refine lv_iload hx hb d_L_law_836 (lv_at hl 1 rfl) ?_
    refine lv_icmp_eq (tgt := 843) hx hb d_L_law_838 (by decide) (fun c838 => ?_) (fun c838 => ?_)
    · skip
      refine lv_iload hx hb d_L_law_843 (lv_at hl 1 rfl) ?_
      refine lv_if_ne (tgt := 860) hx hb d_L_law_845 (by decide) (fun c845 => ?_) (fun c845 => ?_)
      · skip
        refine lv_goto (tgt := 1234) hx hb d_L_law_860 (by decide) ?_
        refine W.widen (k := cells + 4) (n := slots + 24) (by omega) (by omega) ?_
        exact hgo th kd bs us sth mk (pfF (leG th bs us M sM j x2 x3) dr 24) M sM (nI 3) ki ba ow uu te ma va wa2 of H locs ls hR hP hD hS (lv_sub hl [2, 3, 4, 5, 6] rfl)
      · skip
        exact absurd c845 (by decide)
    · skip
      exact absurd (by decide) c838

set_option maxRecDepth 100000 in
set_option maxHeartbeats 4000000 in
theorem k_get {p : Program} {e : Env} {s : State} {m : MethodId} {args : Array Value} {below : List Frame} {meth : Method} {c : Code} (l : Launch) (D : va_G) (k : Nat → ClassId) (a r t b : Nat → Nat) (ob : Nat) (sa : Nat → Nat) (A : Nat → Prop) (Q : State → Prop) (sb L : Nat) (xs : Nat → Int32) (hl9 : l.stackTraces = false) (hx : p.tables.exec = Jvm.exec) (hb : c.code = code) (hml : c.maxLocals = 7) (hown : s.vm.findClass "StyleSheetLaw" = some m.cls) (hts : ∀ w ∈ wG, w.before args s = true) (hA : ∀ q, s.heap.size ≤ q → A q) (hK : bK D (tsK k) s) (hE : bEV Sts sa A s s.heap) (hN : lNc s) (hX : va_X sb L xs s s.heap) (hbl : sb < s.heap.size) (hbA : ¬ A sb) (hL : L ≤ 2560) (th kd bs us sth mk dr : Nat → Int32) (M sM : Nat → Nat → Int32) (cd : Int32) (ki ba ow uu te ma va wa : Nat → Int32) (of : Nat → Int64) (hR : RI th kd bs us sth mk M sM ki ba ow uu te ma va) (i : Nat) (hi : i + 4 < L) (cells slots : Nat) (hc : cells + 4 ≤ room_1.cells) (hs : slots + 24 ≤ room_1.slots) (H : Heap) (locs : List Loc) (ls : Array Slot) (hP : va_P D vwCl (((ob, .inl (k 3, 1, .inr (.inl of))) :: cxW k a r t th kd bs us sth mk dr M sM) ++ mdW k b cd ki ba ow uu te ma va wa) H) (hD : va_D A (((ob, .inl (k 3, 1, .inr (.inl of))) :: cxW k a r t th kd bs us sth mk dr M sM) ++ mdW k b cd ki ba ow uu te ma va wa)) (hS : va_S A s.heap H locs) (hl : lv_has ls 7 [(0, .ref sb), (1, .ref (a 0)), (2, .ref (b 0)), (3, .ref ob), (4, .int (nI i))]) (hgo : ∀ (th kd bs us sth mk dr : Nat → Int32) (M sM : Nat → Nat → Int32) (cd : Int32) (ki ba ow uu te ma va wa : Nat → Int32) (of : Nat → Int64) (H : Heap) (locs : List Loc) (ls : Array Slot), RI th kd bs us sth mk M sM ki ba ow uu te ma va → va_P D vwCl (((ob, .inl (k 3, 1, .inr (.inl of))) :: cxW k a r t th kd bs us sth mk dr M sM) ++ mdW k b cd ki ba ow uu te ma va wa) H → va_D A (((ob, .inl (k 3, 1, .inr (.inl of))) :: cxW k a r t th kd bs us sth mk dr M sM) ++ mdW k b cd ki ba ow uu te ma va wa) → va_S A s.heap H locs → lv_has ls 7 [(0, .ref sb), (1, .ref (a 0)), (2, .ref (b 0)), (3, .ref ob), (4, .int (nI i))] → W p l e room_1 s m args below meth c H locs (cells + 4) (slots + 24) Q (F0 m 1234 ls [])) : W p l e room_1 s m args below meth c H locs cells slots Q (F0 m 863 ls []) := by
  obtain ⟨x1, hx1⟩ : ∃ x : Int32, xs (i + 1) = x := ⟨_, rfl⟩
  obtain ⟨x2, hx2⟩ : ∃ x : Int32, xs (i + 2) = x := ⟨_, rfl⟩
  refine lv_aload_n hx hb d_L_law_863 rfl (lv_at hl 1 rfl) ?_
  refine lv_aload_n hx hb d_L_law_864 rfl (lv_at hl 0 rfl) ?_
  refine lv_iload hx hb d_L_law_865 (lv_at hl 4 rfl) ?_
  refine lv_iconst (v := nI 1) hx hb d_L_law_867 (by decide) ?_
  refine lv_iadd hx hb d_L_law_868 ?_
  rw [nI_add]
  refine rw_sld hx hb hX hbl hbA hS (j := (i + 1)) (by omega) hL hx1 d_L_law_869 ?_
  refine lv_aload_n hx hb d_L_law_870 rfl (lv_at hl 0 rfl) ?_
  refine lv_iload hx hb d_L_law_871 (lv_at hl 4 rfl) ?_
  refine lv_iconst (v := nI 2) hx hb d_L_law_873 (by decide) ?_
  refine lv_iadd hx hb d_L_law_874 ?_
  rw [nI_add]
  refine rw_sld hx hb hX hbl hbA hS (j := (i + 2)) (by omega) hL hx2 d_L_law_875 ?_
  refine lv_aload_n hx hb d_L_law_876 rfl (lv_at hl 3 rfl) ?_
  refine cal_i (wc := (ob, .inl (k 3, 1, .inr (.inl of))) :: cxW k a r t th kd bs us sth mk dr M sM) (wr := mdW k b cd ki ba ow uu te ma va wa) (vx_runSW (As := [.ref (a 0), .int x1, .int x2, .ref ob]) (rest := []) ⟨hx, hb, hml, hown, hts⟩ (w_get l D k a r t th kd bs us sth mk dr M sM sa hl9 x1 x2 ob of H.size) (cwH9 4 hts wd_363 wd_361 wd_362 wd_0 (by decide) ⟨Nat.le_of_ble_eq_true rfl, Nat.le_of_ble_eq_true rfl⟩) (prH hE hN hS hA hK hP hD (List.Perm.refl _)) rfl rfl hl.1 rfl (lv_room (Nat.le_of_ble_eq_true rfl)) d_L_law_877 ⟨Nat.le_trans (by omega) hc, Nat.le_trans (by omega) hs⟩) (List.Perm.refl _) hP hD hS hA (fun rv w1 H locs hw hpd hS => ?_)
  rcases hw with ⟨rfl, r9, w9, ⟨j, hj, rfl, hq, p9, hp9, rfl, rfl, rfl⟩, rfl⟩ | ⟨hne, rfl, rfl⟩
  · skip
    obtain ⟨hP, hD⟩ := hpd (((ob, .inl (k 3, 1, .inr (.inl (vp_updL of (nI 0).toNatClampNeg ((sM j p9).toInt64))))) :: cxW k a r t th kd bs us sth mk dr M sM) ++ mdW k b cd ki ba ow uu te ma va wa) (List.Perm.refl _)
    have hcd0 : cdGe sth (nI j) (nI p9) = 0 := by simp [cdGe, hq, prB_nI hp9]
    refine lv_istore (lv' := [(5, .int (nI 0)), (0, .ref sb), (1, .ref (a 0)), (2, .ref (b 0)), (3, .ref ob), (4, .int (nI i))]) hx hb d_L_law_880 hl (by decide) rfl (fun ls hl => ?_)
    refine lv_aload_n hx hb d_L_law_882 rfl (lv_at hl 3 rfl) ?_
    refine lv_aload_n hx hb d_L_law_883 rfl (lv_at hl 1 rfl) ?_
    refine lv_iload hx hb d_L_law_884 (lv_at hl 5 rfl) ?_
    refine lv_iconst (v := nI 1) hx hb d_L_law_886 (by decide) ?_
    refine lv_iadd hx hb d_L_law_887 ?_
    rw [nI_add]
    refine rw_sld hx hb hX hbl hbA hS (j := (i + 1)) (by omega) hL hx1 d_L_law_888 ?_
    refine lv_aload_n hx hb d_L_law_889 rfl (lv_at hl 1 rfl) ?_
    refine lv_iload hx hb d_L_law_890 (lv_at hl 5 rfl) ?_
    refine lv_iconst (v := nI 2) hx hb d_L_law_892 (by decide) ?_
    refine lv_iadd hx hb d_L_law_893 ?_
    rw [nI_add]
    refine rw_sld hx hb hX hbl hbA hS (j := (i + 2)) (by omega) hL hx2 d_L_law_894 ?_
    refine cal_i (wc := mdW k b cd ki ba ow uu te ma va wa) (wr := (ob, .inl (k 3, 1, .inr (.inl (vp_updL of (nI 0).toNatClampNeg ((sM j p9).toInt64))))) :: cxW k a r t th kd bs us sth mk dr M sM) (va_runV (As := [.int (nI j), .int (nI p9)]) (rest := []) ⟨hx, hb, hml, hown, hts⟩ (c_Mget l D k b cd ki ba ow uu te ma va wa th kd bs us sth mk M sM hR (nI j) (nI p9) H.size) (cwV9 2 hts wd_540 wd_537 wd_538 wd_539 wd_4 (by decide) ⟨Nat.le_of_ble_eq_true rfl, Nat.le_of_ble_eq_true rfl⟩) (prV (q0 := 0) (ci := ciMo) hK hP hD (pm_cm _ _) rfl rfl) rfl rfl hl.1 rfl (lv_room (Nat.le_of_ble_eq_true rfl)) d_L_law_895 ⟨Nat.le_trans (by omega) hc, Nat.le_trans (by omega) hs⟩) (pm_cm _ _) hP hD hS hA (fun rv w1 H locs hw hpd hS => ?_)
    rw [nI_clamp (show j < 2 ^ 31 by omega), nI_clamp (show p9 < 2 ^ 31 by omega)] at hw
    rw [hcd0] at hw
    obtain ⟨hv, rfl⟩ := hw
    obtain rfl := hv rfl
    obtain ⟨hP, hD⟩ := hpd (((ob, .inl (k 3, 1, .inr (.inl (vp_updL of (nI 0).toNatClampNeg ((sM j p9).toInt64))))) :: cxW k a r t th kd bs us sth mk dr M sM) ++ mdW k b (nI 0) ki ba ow uu te ma va wa) (pm_cm _ _)
    refine lv_istore (lv' := [(6, .int (sM j p9)), (5, .int (nI 0)), (0, .ref sb), (1, .ref (a 0)), (2, .ref (b 0)), (3, .ref ob), (4, .int (nI i))]) hx hb d_L_law_898 hl (by decide) rfl (fun ls hl => ?_)
    refine lv_aload_n hx hb d_L_law_900 rfl (lv_at hl 4 rfl) ?_
    refine cal_i (wc := mdW k b (nI 0) ki ba ow uu te ma va wa) (wr := (ob, .inl (k 3, 1, .inr (.inl (vp_updL of (nI 0).toNatClampNeg ((sM j p9).toInt64))))) :: cxW k a r t th kd bs us sth mk dr M sM) (va_runV (As := []) (rest := []) ⟨hx, hb, hml, hown, hts⟩ (c_Mthrown l D k b (nI 0) ki ba ow uu te ma va wa H.size) (cwV9 0 hts wd_430 wd_427 wd_428 wd_429 wd_4 (by decide) ⟨Nat.le_of_ble_eq_true rfl, Nat.le_of_ble_eq_true rfl⟩) (prV (q0 := 0) (ci := ciMo) hK hP hD (pm_cm _ _) rfl rfl) rfl rfl hl.1 rfl (lv_room (Nat.le_of_ble_eq_true rfl)) d_L_law_901 ⟨Nat.le_trans (by omega) hc, Nat.le_trans (by omega) hs⟩) (pm_cm _ _) hP hD hS hA (fun rv w1 H locs hw hpd hS => ?_)
    obtain ⟨rfl, rfl⟩ := hw
    obtain ⟨hP, hD⟩ := hpd (((ob, .inl (k 3, 1, .inr (.inl (vp_updL of (nI 0).toNatClampNeg ((sM j p9).toInt64))))) :: cxW k a r t th kd bs us sth mk dr M sM) ++ mdW k b (nI 0) ki ba ow uu te ma va wa) (pm_cm _ _)
    refine lv_iload hx hb d_L_law_904 (lv_at hl 1 rfl) ?_
    refine lv_icmp_eq (tgt := 911) hx hb d_L_law_906 (by decide) (fun c906 => ?_) (fun c906 => ?_)
    · skip
      refine lv_iload hx hb d_L_law_911 (lv_at hl 1 rfl) ?_
      refine lv_if_ne (tgt := 928) hx hb d_L_law_913 (by decide) (fun c913 => ?_) (fun c913 => ?_)
      · skip
        exact absurd (by decide) c913
      · skip
        refine lv_aload_n hx hb d_L_law_916 rfl (lv_at hl 5 rfl) ?_
        refine lv_iconst (v := nI 0) hx hb d_L_law_917 (by decide) ?_
        refine va_lald hx hb hK.1 hP 0 3 rfl rfl vin_0 d_L_law_918 ?_
        rw [show (vp_updL of (nI 0).toNatClampNeg ((sM j p9).toInt64)) (nI 0).toNatClampNeg = (sM j p9).toInt64 by simp [vp_updL]]
        refine lv_iload hx hb d_L_law_919 (lv_at hl 0 rfl) ?_
        refine lv_i2l (v := (sM j p9).toInt64) hx hb d_L_law_921 rfl ?_
        refine W.lcmp hx hb d_L_law_922 ?_
        refine lv_if_eq (tgt := 928) hx hb d_L_law_923 (by decide) (fun c923 => ?_) (fun c923 => ?_)
        · skip
          refine lv_goto (tgt := 1234) hx hb d_L_law_928 (by decide) ?_
          refine W.widen (k := cells + 4) (n := slots + 24) (by omega) (by omega) ?_
          exact hgo th kd bs us sth mk dr M sM (nI 0) ki ba ow uu te ma va wa (vp_updL of (nI 0).toNatClampNeg ((sM j p9).toInt64)) H locs ls hR hP hD hS (lv_sub hl [2, 3, 4, 5, 6] rfl)
        · skip
          exact absurd (lcm_self _) c923
    · skip
      exact absurd (by decide) c906
  · skip
    obtain ⟨hP, hD⟩ := hpd (((ob, .inl (k 3, 1, .inr (.inl of))) :: cxW k a r t th kd bs us sth mk dr M sM) ++ mdW k b cd ki ba ow uu te ma va wa) (List.Perm.refl _)
    refine lv_istore (lv' := [(5, .int ((nI (cdGe sth x1 x2)))), (0, .ref sb), (1, .ref (a 0)), (2, .ref (b 0)), (3, .ref ob), (4, .int (nI i))]) hx hb d_L_law_880 hl (by decide) rfl (fun ls hl => ?_)
    refine lv_aload_n hx hb d_L_law_882 rfl (lv_at hl 3 rfl) ?_
    refine lv_aload_n hx hb d_L_law_883 rfl (lv_at hl 1 rfl) ?_
    refine lv_iload hx hb d_L_law_884 (lv_at hl 5 rfl) ?_
    refine lv_iconst (v := nI 1) hx hb d_L_law_886 (by decide) ?_
    refine lv_iadd hx hb d_L_law_887 ?_
    rw [nI_add]
    refine rw_sld hx hb hX hbl hbA hS (j := (i + 1)) (by omega) hL hx1 d_L_law_888 ?_
    refine lv_aload_n hx hb d_L_law_889 rfl (lv_at hl 1 rfl) ?_
    refine lv_iload hx hb d_L_law_890 (lv_at hl 5 rfl) ?_
    refine lv_iconst (v := nI 2) hx hb d_L_law_892 (by decide) ?_
    refine lv_iadd hx hb d_L_law_893 ?_
    rw [nI_add]
    refine rw_sld hx hb hX hbl hbA hS (j := (i + 2)) (by omega) hL hx2 d_L_law_894 ?_
    refine cal_i (wc := mdW k b cd ki ba ow uu te ma va wa) (wr := (ob, .inl (k 3, 1, .inr (.inl of))) :: cxW k a r t th kd bs us sth mk dr M sM) (va_runV (As := [.int x1, .int x2]) (rest := []) ⟨hx, hb, hml, hown, hts⟩ (c_Mget l D k b cd ki ba ow uu te ma va wa th kd bs us sth mk M sM hR x1 x2 H.size) (cwV9 2 hts wd_540 wd_537 wd_538 wd_539 wd_4 (by decide) ⟨Nat.le_of_ble_eq_true rfl, Nat.le_of_ble_eq_true rfl⟩) (prV (q0 := 0) (ci := ciMo) hK hP hD (pm_cm _ _) rfl rfl) rfl rfl hl.1 rfl (lv_room (Nat.le_of_ble_eq_true rfl)) d_L_law_895 ⟨Nat.le_trans (by omega) hc, Nat.le_trans (by omega) hs⟩) (pm_cm _ _) hP hD hS hA (fun rv w1 H locs hw hpd hS => ?_)
    obtain ⟨-, rfl⟩ := hw
    obtain ⟨hP, hD⟩ := hpd (((ob, .inl (k 3, 1, .inr (.inl of))) :: cxW k a r t th kd bs us sth mk dr M sM) ++ mdW k b ((nI (cdGe sth x1 x2))) ki ba ow uu te ma va wa) (pm_cm _ _)
    refine lv_istore (lv' := [(6, .int rv), (5, .int ((nI (cdGe sth x1 x2)))), (0, .ref sb), (1, .ref (a 0)), (2, .ref (b 0)), (3, .ref ob), (4, .int (nI i))]) hx hb d_L_law_898 hl (by decide) rfl (fun ls hl => ?_)
    refine lv_aload_n hx hb d_L_law_900 rfl (lv_at hl 4 rfl) ?_
    refine cal_i (wc := mdW k b ((nI (cdGe sth x1 x2))) ki ba ow uu te ma va wa) (wr := (ob, .inl (k 3, 1, .inr (.inl of))) :: cxW k a r t th kd bs us sth mk dr M sM) (va_runV (As := []) (rest := []) ⟨hx, hb, hml, hown, hts⟩ (c_Mthrown l D k b ((nI (cdGe sth x1 x2))) ki ba ow uu te ma va wa H.size) (cwV9 0 hts wd_430 wd_427 wd_428 wd_429 wd_4 (by decide) ⟨Nat.le_of_ble_eq_true rfl, Nat.le_of_ble_eq_true rfl⟩) (prV (q0 := 0) (ci := ciMo) hK hP hD (pm_cm _ _) rfl rfl) rfl rfl hl.1 rfl (lv_room (Nat.le_of_ble_eq_true rfl)) d_L_law_901 ⟨Nat.le_trans (by omega) hc, Nat.le_trans (by omega) hs⟩) (pm_cm _ _) hP hD hS hA (fun rv w1 H locs hw hpd hS => ?_)
    obtain ⟨rfl, rfl⟩ := hw
    obtain ⟨hP, hD⟩ := hpd (((ob, .inl (k 3, 1, .inr (.inl of))) :: cxW k a r t th kd bs us sth mk dr M sM) ++ mdW k b ((nI (cdGe sth x1 x2))) ki ba ow uu te ma va wa) (pm_cm _ _)
    refine lv_iload hx hb d_L_law_904 (lv_at hl 1 rfl) ?_
    refine lv_icmp_eq (tgt := 911) hx hb d_L_law_906 (by decide) (fun c906 => ?_) (fun c906 => ?_)
    · skip
      refine lv_iload hx hb d_L_law_911 (lv_at hl 1 rfl) ?_
      refine lv_if_ne (tgt := 928) hx hb d_L_law_913 (by decide) (fun c913 => ?_) (fun c913 => ?_)
      · skip
        refine lv_goto (tgt := 1234) hx hb d_L_law_928 (by decide) ?_
        refine W.widen (k := cells + 4) (n := slots + 24) (by omega) (by omega) ?_
        exact hgo th kd bs us sth mk dr M sM ((nI (cdGe sth x1 x2))) ki ba ow uu te ma va wa of H locs ls hR hP hD hS (lv_sub hl [2, 3, 4, 5, 6] rfl)
      · skip
        exact absurd c913 (nz_of hne lt_cdGe)
    · skip
      exact absurd rfl c906

set_option maxRecDepth 100000 in
set_option maxHeartbeats 4000000 in
theorem k_resolve {p : Program} {e : Env} {s : State} {m : MethodId} {args : Array Value} {below : List Frame} {meth : Method} {c : Code} (l : Launch) (D : va_G) (k : Nat → ClassId) (a r t b : Nat → Nat) (ob : Nat) (sa : Nat → Nat) (A : Nat → Prop) (Q : State → Prop) (sb L : Nat) (xs : Nat → Int32) (hl9 : l.stackTraces = false) (hx : p.tables.exec = Jvm.exec) (hb : c.code = code) (hml : c.maxLocals = 7) (hown : s.vm.findClass "StyleSheetLaw" = some m.cls) (hts : ∀ w ∈ wG, w.before args s = true) (hA : ∀ q, s.heap.size ≤ q → A q) (hK : bK D (tsK k) s) (hE : bEV Sts sa A s s.heap) (hN : lNc s) (hX : va_X sb L xs s s.heap) (hbl : sb < s.heap.size) (hbA : ¬ A sb) (hL : L ≤ 2560) (th kd bs us sth mk dr : Nat → Int32) (M sM : Nat → Nat → Int32) (cd : Int32) (ki ba ow uu te ma va wa : Nat → Int32) (of : Nat → Int64) (hR : RI th kd bs us sth mk M sM ki ba ow uu te ma va) (i : Nat) (hi : i + 4 < L) (cells slots : Nat) (hc : cells + 4 ≤ room_1.cells) (hs : slots + 24 ≤ room_1.slots) (H : Heap) (locs : List Loc) (ls : Array Slot) (hP : va_P D vwCl (((ob, .inl (k 3, 1, .inr (.inl of))) :: cxW k a r t th kd bs us sth mk dr M sM) ++ mdW k b cd ki ba ow uu te ma va wa) H) (hD : va_D A (((ob, .inl (k 3, 1, .inr (.inl of))) :: cxW k a r t th kd bs us sth mk dr M sM) ++ mdW k b cd ki ba ow uu te ma va wa)) (hS : va_S A s.heap H locs) (hl : lv_has ls 7 [(0, .ref sb), (1, .ref (a 0)), (2, .ref (b 0)), (3, .ref ob), (4, .int (nI i))]) (hgo : ∀ (th kd bs us sth mk dr : Nat → Int32) (M sM : Nat → Nat → Int32) (cd : Int32) (ki ba ow uu te ma va wa : Nat → Int32) (of : Nat → Int64) (H : Heap) (locs : List Loc) (ls : Array Slot), RI th kd bs us sth mk M sM ki ba ow uu te ma va → va_P D vwCl (((ob, .inl (k 3, 1, .inr (.inl of))) :: cxW k a r t th kd bs us sth mk dr M sM) ++ mdW k b cd ki ba ow uu te ma va wa) H → va_D A (((ob, .inl (k 3, 1, .inr (.inl of))) :: cxW k a r t th kd bs us sth mk dr M sM) ++ mdW k b cd ki ba ow uu te ma va wa) → va_S A s.heap H locs → lv_has ls 7 [(0, .ref sb), (1, .ref (a 0)), (2, .ref (b 0)), (3, .ref ob), (4, .int (nI i))] → W p l e room_1 s m args below meth c H locs (cells + 4) (slots + 24) Q (F0 m 1234 ls [])) : W p l e room_1 s m args below meth c H locs cells slots Q (F0 m 956 ls []) := by
  obtain ⟨x1, hx1⟩ : ∃ x : Int32, xs (i + 1) = x := ⟨_, rfl⟩
  obtain ⟨x2, hx2⟩ : ∃ x : Int32, xs (i + 2) = x := ⟨_, rfl⟩
  obtain ⟨x3, hx3⟩ : ∃ x : Int32, xs (i + 3) = x := ⟨_, rfl⟩
  obtain ⟨x4, hx4⟩ : ∃ x : Int32, xs (i + 4) = x := ⟨_, rfl⟩
  refine lv_aload_n hx hb d_L_law_956 rfl (lv_at hl 1 rfl) ?_
  refine lv_aload_n hx hb d_L_law_957 rfl (lv_at hl 0 rfl) ?_
  refine lv_iload hx hb d_L_law_958 (lv_at hl 4 rfl) ?_
  refine lv_iconst (v := nI 1) hx hb d_L_law_960 (by decide) ?_
  refine lv_iadd hx hb d_L_law_961 ?_
  rw [nI_add]
  refine rw_sld hx hb hX hbl hbA hS (j := (i + 1)) (by omega) hL hx1 d_L_law_962 ?_
  refine lv_aload_n hx hb d_L_law_963 rfl (lv_at hl 0 rfl) ?_
  refine lv_iload hx hb d_L_law_964 (lv_at hl 4 rfl) ?_
  refine lv_iconst (v := nI 2) hx hb d_L_law_966 (by decide) ?_
  refine lv_iadd hx hb d_L_law_967 ?_
  rw [nI_add]
  refine rw_sld hx hb hX hbl hbA hS (j := (i + 2)) (by omega) hL hx2 d_L_law_968 ?_
  refine lv_aload_n hx hb d_L_law_969 rfl (lv_at hl 0 rfl) ?_
  refine lv_iload hx hb d_L_law_970 (lv_at hl 4 rfl) ?_
  refine lv_iconst (v := nI 3) hx hb d_L_law_972 (by decide) ?_
  refine lv_iadd hx hb d_L_law_973 ?_
  rw [nI_add]
  refine rw_sld hx hb hX hbl hbA hS (j := (i + 3)) (by omega) hL hx3 d_L_law_974 ?_
  refine lv_aload_n hx hb d_L_law_975 rfl (lv_at hl 0 rfl) ?_
  refine lv_iload hx hb d_L_law_976 (lv_at hl 4 rfl) ?_
  refine lv_iconst (v := nI 4) hx hb d_L_law_978 (by decide) ?_
  refine lv_iadd hx hb d_L_law_979 ?_
  rw [nI_add]
  refine rw_sld hx hb hX hbl hbA hS (j := (i + 4)) (by omega) hL hx4 d_L_law_980 ?_
  refine lv_aload_n hx hb d_L_law_981 rfl (lv_at hl 3 rfl) ?_
  refine cal_i (wc := (ob, .inl (k 3, 1, .inr (.inl of))) :: cxW k a r t th kd bs us sth mk dr M sM) (wr := mdW k b cd ki ba ow uu te ma va wa) (vx_runSW (As := [.ref (a 0), .int x1, .int x2, .int x3, .int x4, .ref ob]) (rest := []) ⟨hx, hb, hml, hown, hts⟩ (w_resolve l D k a r t th kd bs us sth mk dr M sM sa hl9 x1 x2 x3 x4 ob of H.size) (cwH9 6 hts wd_370 wd_368 wd_369 wd_0 (by decide) ⟨Nat.le_of_ble_eq_true rfl, Nat.le_of_ble_eq_true rfl⟩) (prH hE hN hS hA hK hP hD (List.Perm.refl _)) rfl rfl hl.1 rfl (lv_room (Nat.le_of_ble_eq_true rfl)) d_L_law_982 ⟨Nat.le_trans (by omega) hc, Nat.le_trans (by omega) hs⟩) (List.Perm.refl _) hP hD hS hA (fun rv w1 H locs hw hpd hS => ?_)
  rcases hw with ⟨rfl, r9, w9, ⟨j, hj, rfl, hq, hc9, hk9, p9, hp9, rfl, rfl, rfl⟩, rfl⟩ | ⟨hne, rfl, rfl⟩
  · skip
    obtain ⟨hP, hD⟩ := hpd (((ob, .inl (k 3, 1, .inr (.inl (vp_updL of (nI 0).toNatClampNeg ((rsF th bs us M sM j x2 x3 p9).toInt64))))) :: cxW k a r t th kd bs us sth mk dr M sM) ++ mdW k b cd ki ba ow uu te ma va wa) (List.Perm.refl _)
    have hcd0 : cdRe th kd sth (nI j) x2 x3 (nI p9) = 0 := by simp [cdRe, hq, hc9, hk9, prB_nI hp9]
    refine lv_istore (lv' := [(5, .int (nI 0)), (0, .ref sb), (1, .ref (a 0)), (2, .ref (b 0)), (3, .ref ob), (4, .int (nI i))]) hx hb d_L_law_985 hl (by decide) rfl (fun ls hl => ?_)
    refine lv_aload_n hx hb d_L_law_987 rfl (lv_at hl 3 rfl) ?_
    refine lv_aload_n hx hb d_L_law_988 rfl (lv_at hl 1 rfl) ?_
    refine lv_iload hx hb d_L_law_989 (lv_at hl 5 rfl) ?_
    refine lv_iconst (v := nI 1) hx hb d_L_law_991 (by decide) ?_
    refine lv_iadd hx hb d_L_law_992 ?_
    rw [nI_add]
    refine rw_sld hx hb hX hbl hbA hS (j := (i + 1)) (by omega) hL hx1 d_L_law_993 ?_
    refine lv_aload_n hx hb d_L_law_994 rfl (lv_at hl 1 rfl) ?_
    refine lv_iload hx hb d_L_law_995 (lv_at hl 5 rfl) ?_
    refine lv_iconst (v := nI 2) hx hb d_L_law_997 (by decide) ?_
    refine lv_iadd hx hb d_L_law_998 ?_
    rw [nI_add]
    refine rw_sld hx hb hX hbl hbA hS (j := (i + 2)) (by omega) hL hx2 d_L_law_999 ?_
    refine lv_aload_n hx hb d_L_law_1000 rfl (lv_at hl 1 rfl) ?_
    refine lv_iload hx hb d_L_law_1001 (lv_at hl 5 rfl) ?_
    refine lv_iconst (v := nI 3) hx hb d_L_law_1003 (by decide) ?_
    refine lv_iadd hx hb d_L_law_1004 ?_
    rw [nI_add]
    refine rw_sld hx hb hX hbl hbA hS (j := (i + 3)) (by omega) hL hx3 d_L_law_1005 ?_
    refine lv_aload_n hx hb d_L_law_1006 rfl (lv_at hl 1 rfl) ?_
    refine lv_iload hx hb d_L_law_1007 (lv_at hl 5 rfl) ?_
    refine lv_iconst (v := nI 4) hx hb d_L_law_1009 (by decide) ?_
    refine lv_iadd hx hb d_L_law_1010 ?_
    rw [nI_add]
    refine rw_sld hx hb hX hbl hbA hS (j := (i + 4)) (by omega) hL hx4 d_L_law_1011 ?_
    refine cal_i (wc := mdW k b cd ki ba ow uu te ma va wa) (wr := (ob, .inl (k 3, 1, .inr (.inl (vp_updL of (nI 0).toNatClampNeg ((rsF th bs us M sM j x2 x3 p9).toInt64))))) :: cxW k a r t th kd bs us sth mk dr M sM) (va_runV (As := [.int (nI j), .int x2, .int x3, .int (nI p9)]) (rest := []) ⟨hx, hb, hml, hown, hts⟩ (c_Mresolve l D k b cd ki ba ow uu te ma va wa th kd bs us sth mk M sM hR (nI j) x2 x3 (nI p9) H.size) (cwV9 4 hts wd_552 wd_549 wd_550 wd_551 wd_4 (by decide) ⟨Nat.le_of_ble_eq_true rfl, Nat.le_of_ble_eq_true rfl⟩) (prV (q0 := 0) (ci := ciMo) hK hP hD (pm_cm _ _) rfl rfl) rfl rfl hl.1 rfl (lv_room (Nat.le_of_ble_eq_true rfl)) d_L_law_1012 ⟨Nat.le_trans (by omega) hc, Nat.le_trans (by omega) hs⟩) (pm_cm _ _) hP hD hS hA (fun rv w1 H locs hw hpd hS => ?_)
    rw [nI_clamp (show j < 2 ^ 31 by omega), nI_clamp (show p9 < 2 ^ 31 by omega)] at hw
    rw [hcd0] at hw
    obtain ⟨hv, rfl⟩ := hw
    obtain rfl := hv rfl
    obtain ⟨hP, hD⟩ := hpd (((ob, .inl (k 3, 1, .inr (.inl (vp_updL of (nI 0).toNatClampNeg ((rsF th bs us M sM j x2 x3 p9).toInt64))))) :: cxW k a r t th kd bs us sth mk dr M sM) ++ mdW k b (nI 0) ki ba ow uu te ma va wa) (pm_cm _ _)
    refine lv_istore (lv' := [(6, .int (rsF th bs us M sM j x2 x3 p9)), (5, .int (nI 0)), (0, .ref sb), (1, .ref (a 0)), (2, .ref (b 0)), (3, .ref ob), (4, .int (nI i))]) hx hb d_L_law_1015 hl (by decide) rfl (fun ls hl => ?_)
    refine lv_aload_n hx hb d_L_law_1017 rfl (lv_at hl 4 rfl) ?_
    refine cal_i (wc := mdW k b (nI 0) ki ba ow uu te ma va wa) (wr := (ob, .inl (k 3, 1, .inr (.inl (vp_updL of (nI 0).toNatClampNeg ((rsF th bs us M sM j x2 x3 p9).toInt64))))) :: cxW k a r t th kd bs us sth mk dr M sM) (va_runV (As := []) (rest := []) ⟨hx, hb, hml, hown, hts⟩ (c_Mthrown l D k b (nI 0) ki ba ow uu te ma va wa H.size) (cwV9 0 hts wd_430 wd_427 wd_428 wd_429 wd_4 (by decide) ⟨Nat.le_of_ble_eq_true rfl, Nat.le_of_ble_eq_true rfl⟩) (prV (q0 := 0) (ci := ciMo) hK hP hD (pm_cm _ _) rfl rfl) rfl rfl hl.1 rfl (lv_room (Nat.le_of_ble_eq_true rfl)) d_L_law_1018 ⟨Nat.le_trans (by omega) hc, Nat.le_trans (by omega) hs⟩) (pm_cm _ _) hP hD hS hA (fun rv w1 H locs hw hpd hS => ?_)
    obtain ⟨rfl, rfl⟩ := hw
    obtain ⟨hP, hD⟩ := hpd (((ob, .inl (k 3, 1, .inr (.inl (vp_updL of (nI 0).toNatClampNeg ((rsF th bs us M sM j x2 x3 p9).toInt64))))) :: cxW k a r t th kd bs us sth mk dr M sM) ++ mdW k b (nI 0) ki ba ow uu te ma va wa) (pm_cm _ _)
    refine lv_iload hx hb d_L_law_1021 (lv_at hl 1 rfl) ?_
    refine lv_icmp_eq (tgt := 1028) hx hb d_L_law_1023 (by decide) (fun c1023 => ?_) (fun c1023 => ?_)
    · skip
      refine lv_iload hx hb d_L_law_1028 (lv_at hl 1 rfl) ?_
      refine lv_if_ne (tgt := 1045) hx hb d_L_law_1030 (by decide) (fun c1030 => ?_) (fun c1030 => ?_)
      · skip
        exact absurd (by decide) c1030
      · skip
        refine lv_aload_n hx hb d_L_law_1033 rfl (lv_at hl 5 rfl) ?_
        refine lv_iconst (v := nI 0) hx hb d_L_law_1034 (by decide) ?_
        refine va_lald hx hb hK.1 hP 0 3 rfl rfl vin_0 d_L_law_1035 ?_
        rw [show (vp_updL of (nI 0).toNatClampNeg ((rsF th bs us M sM j x2 x3 p9).toInt64)) (nI 0).toNatClampNeg = (rsF th bs us M sM j x2 x3 p9).toInt64 by simp [vp_updL]]
        refine lv_iload hx hb d_L_law_1036 (lv_at hl 0 rfl) ?_
        refine lv_i2l (v := (rsF th bs us M sM j x2 x3 p9).toInt64) hx hb d_L_law_1038 rfl ?_
        refine W.lcmp hx hb d_L_law_1039 ?_
        refine lv_if_eq (tgt := 1045) hx hb d_L_law_1040 (by decide) (fun c1040 => ?_) (fun c1040 => ?_)
        · skip
          refine lv_goto (tgt := 1234) hx hb d_L_law_1045 (by decide) ?_
          refine W.widen (k := cells + 4) (n := slots + 24) (by omega) (by omega) ?_
          exact hgo th kd bs us sth mk dr M sM (nI 0) ki ba ow uu te ma va wa (vp_updL of (nI 0).toNatClampNeg ((rsF th bs us M sM j x2 x3 p9).toInt64)) H locs ls hR hP hD hS (lv_sub hl [2, 3, 4, 5, 6] rfl)
        · skip
          exact absurd (lcm_self _) c1040
    · skip
      exact absurd (by decide) c1023
  · skip
    obtain ⟨hP, hD⟩ := hpd (((ob, .inl (k 3, 1, .inr (.inl of))) :: cxW k a r t th kd bs us sth mk dr M sM) ++ mdW k b cd ki ba ow uu te ma va wa) (List.Perm.refl _)
    refine lv_istore (lv' := [(5, .int ((nI (cdRe th kd sth x1 x2 x3 x4)))), (0, .ref sb), (1, .ref (a 0)), (2, .ref (b 0)), (3, .ref ob), (4, .int (nI i))]) hx hb d_L_law_985 hl (by decide) rfl (fun ls hl => ?_)
    refine lv_aload_n hx hb d_L_law_987 rfl (lv_at hl 3 rfl) ?_
    refine lv_aload_n hx hb d_L_law_988 rfl (lv_at hl 1 rfl) ?_
    refine lv_iload hx hb d_L_law_989 (lv_at hl 5 rfl) ?_
    refine lv_iconst (v := nI 1) hx hb d_L_law_991 (by decide) ?_
    refine lv_iadd hx hb d_L_law_992 ?_
    rw [nI_add]
    refine rw_sld hx hb hX hbl hbA hS (j := (i + 1)) (by omega) hL hx1 d_L_law_993 ?_
    refine lv_aload_n hx hb d_L_law_994 rfl (lv_at hl 1 rfl) ?_
    refine lv_iload hx hb d_L_law_995 (lv_at hl 5 rfl) ?_
    refine lv_iconst (v := nI 2) hx hb d_L_law_997 (by decide) ?_
    refine lv_iadd hx hb d_L_law_998 ?_
    rw [nI_add]
    refine rw_sld hx hb hX hbl hbA hS (j := (i + 2)) (by omega) hL hx2 d_L_law_999 ?_
    refine lv_aload_n hx hb d_L_law_1000 rfl (lv_at hl 1 rfl) ?_
    refine lv_iload hx hb d_L_law_1001 (lv_at hl 5 rfl) ?_
    refine lv_iconst (v := nI 3) hx hb d_L_law_1003 (by decide) ?_
    refine lv_iadd hx hb d_L_law_1004 ?_
    rw [nI_add]
    refine rw_sld hx hb hX hbl hbA hS (j := (i + 3)) (by omega) hL hx3 d_L_law_1005 ?_
    refine lv_aload_n hx hb d_L_law_1006 rfl (lv_at hl 1 rfl) ?_
    refine lv_iload hx hb d_L_law_1007 (lv_at hl 5 rfl) ?_
    refine lv_iconst (v := nI 4) hx hb d_L_law_1009 (by decide) ?_
    refine lv_iadd hx hb d_L_law_1010 ?_
    rw [nI_add]
    refine rw_sld hx hb hX hbl hbA hS (j := (i + 4)) (by omega) hL hx4 d_L_law_1011 ?_
    refine cal_i (wc := mdW k b cd ki ba ow uu te ma va wa) (wr := (ob, .inl (k 3, 1, .inr (.inl of))) :: cxW k a r t th kd bs us sth mk dr M sM) (va_runV (As := [.int x1, .int x2, .int x3, .int x4]) (rest := []) ⟨hx, hb, hml, hown, hts⟩ (c_Mresolve l D k b cd ki ba ow uu te ma va wa th kd bs us sth mk M sM hR x1 x2 x3 x4 H.size) (cwV9 4 hts wd_552 wd_549 wd_550 wd_551 wd_4 (by decide) ⟨Nat.le_of_ble_eq_true rfl, Nat.le_of_ble_eq_true rfl⟩) (prV (q0 := 0) (ci := ciMo) hK hP hD (pm_cm _ _) rfl rfl) rfl rfl hl.1 rfl (lv_room (Nat.le_of_ble_eq_true rfl)) d_L_law_1012 ⟨Nat.le_trans (by omega) hc, Nat.le_trans (by omega) hs⟩) (pm_cm _ _) hP hD hS hA (fun rv w1 H locs hw hpd hS => ?_)
    obtain ⟨-, rfl⟩ := hw
    obtain ⟨hP, hD⟩ := hpd (((ob, .inl (k 3, 1, .inr (.inl of))) :: cxW k a r t th kd bs us sth mk dr M sM) ++ mdW k b ((nI (cdRe th kd sth x1 x2 x3 x4))) ki ba ow uu te ma va wa) (pm_cm _ _)
    refine lv_istore (lv' := [(6, .int rv), (5, .int ((nI (cdRe th kd sth x1 x2 x3 x4)))), (0, .ref sb), (1, .ref (a 0)), (2, .ref (b 0)), (3, .ref ob), (4, .int (nI i))]) hx hb d_L_law_1015 hl (by decide) rfl (fun ls hl => ?_)
    refine lv_aload_n hx hb d_L_law_1017 rfl (lv_at hl 4 rfl) ?_
    refine cal_i (wc := mdW k b ((nI (cdRe th kd sth x1 x2 x3 x4))) ki ba ow uu te ma va wa) (wr := (ob, .inl (k 3, 1, .inr (.inl of))) :: cxW k a r t th kd bs us sth mk dr M sM) (va_runV (As := []) (rest := []) ⟨hx, hb, hml, hown, hts⟩ (c_Mthrown l D k b ((nI (cdRe th kd sth x1 x2 x3 x4))) ki ba ow uu te ma va wa H.size) (cwV9 0 hts wd_430 wd_427 wd_428 wd_429 wd_4 (by decide) ⟨Nat.le_of_ble_eq_true rfl, Nat.le_of_ble_eq_true rfl⟩) (prV (q0 := 0) (ci := ciMo) hK hP hD (pm_cm _ _) rfl rfl) rfl rfl hl.1 rfl (lv_room (Nat.le_of_ble_eq_true rfl)) d_L_law_1018 ⟨Nat.le_trans (by omega) hc, Nat.le_trans (by omega) hs⟩) (pm_cm _ _) hP hD hS hA (fun rv w1 H locs hw hpd hS => ?_)
    obtain ⟨rfl, rfl⟩ := hw
    obtain ⟨hP, hD⟩ := hpd (((ob, .inl (k 3, 1, .inr (.inl of))) :: cxW k a r t th kd bs us sth mk dr M sM) ++ mdW k b ((nI (cdRe th kd sth x1 x2 x3 x4))) ki ba ow uu te ma va wa) (pm_cm _ _)
    refine lv_iload hx hb d_L_law_1021 (lv_at hl 1 rfl) ?_
    refine lv_icmp_eq (tgt := 1028) hx hb d_L_law_1023 (by decide) (fun c1023 => ?_) (fun c1023 => ?_)
    · skip
      refine lv_iload hx hb d_L_law_1028 (lv_at hl 1 rfl) ?_
      refine lv_if_ne (tgt := 1045) hx hb d_L_law_1030 (by decide) (fun c1030 => ?_) (fun c1030 => ?_)
      · skip
        refine lv_goto (tgt := 1234) hx hb d_L_law_1045 (by decide) ?_
        refine W.widen (k := cells + 4) (n := slots + 24) (by omega) (by omega) ?_
        exact hgo th kd bs us sth mk dr M sM ((nI (cdRe th kd sth x1 x2 x3 x4))) ki ba ow uu te ma va wa of H locs ls hR hP hD hS (lv_sub hl [2, 3, 4, 5, 6] rfl)
      · skip
        exact absurd c1030 (nz_of hne lt_cdRe)
    · skip
      exact absurd rfl c1023

set_option maxRecDepth 100000 in
set_option maxHeartbeats 4000000 in
theorem k_differ {p : Program} {e : Env} {s : State} {m : MethodId} {args : Array Value} {below : List Frame} {meth : Method} {c : Code} (l : Launch) (D : va_G) (k : Nat → ClassId) (a r t b : Nat → Nat) (ob : Nat) (sa : Nat → Nat) (A : Nat → Prop) (Q : State → Prop) (sb L : Nat) (xs : Nat → Int32) (hl9 : l.stackTraces = false) (hx : p.tables.exec = Jvm.exec) (hb : c.code = code) (hml : c.maxLocals = 7) (hown : s.vm.findClass "StyleSheetLaw" = some m.cls) (hts : ∀ w ∈ wG, w.before args s = true) (hA : ∀ q, s.heap.size ≤ q → A q) (hK : bK D (tsK k) s) (hE : bEV Sts sa A s s.heap) (hN : lNc s) (hX : va_X sb L xs s s.heap) (hbl : sb < s.heap.size) (hbA : ¬ A sb) (hL : L ≤ 2560) (th kd bs us sth mk dr : Nat → Int32) (M sM : Nat → Nat → Int32) (cd : Int32) (ki ba ow uu te ma va wa : Nat → Int32) (of : Nat → Int64) (hR : RI th kd bs us sth mk M sM ki ba ow uu te ma va) (i : Nat) (hi : i + 4 < L) (cells slots : Nat) (hc : cells + 4 ≤ room_1.cells) (hs : slots + 24 ≤ room_1.slots) (H : Heap) (locs : List Loc) (ls : Array Slot) (hP : va_P D vwCl (((ob, .inl (k 3, 1, .inr (.inl of))) :: cxW k a r t th kd bs us sth mk dr M sM) ++ mdW k b cd ki ba ow uu te ma va wa) H) (hD : va_D A (((ob, .inl (k 3, 1, .inr (.inl of))) :: cxW k a r t th kd bs us sth mk dr M sM) ++ mdW k b cd ki ba ow uu te ma va wa)) (hS : va_S A s.heap H locs) (hl : lv_has ls 7 [(0, .ref sb), (1, .ref (a 0)), (2, .ref (b 0)), (3, .ref ob), (4, .int (nI i))]) (hgo : ∀ (th kd bs us sth mk dr : Nat → Int32) (M sM : Nat → Nat → Int32) (cd : Int32) (ki ba ow uu te ma va wa : Nat → Int32) (of : Nat → Int64) (H : Heap) (locs : List Loc) (ls : Array Slot), RI th kd bs us sth mk M sM ki ba ow uu te ma va → va_P D vwCl (((ob, .inl (k 3, 1, .inr (.inl of))) :: cxW k a r t th kd bs us sth mk dr M sM) ++ mdW k b cd ki ba ow uu te ma va wa) H → va_D A (((ob, .inl (k 3, 1, .inr (.inl of))) :: cxW k a r t th kd bs us sth mk dr M sM) ++ mdW k b cd ki ba ow uu te ma va wa) → va_S A s.heap H locs → lv_has ls 7 [(0, .ref sb), (1, .ref (a 0)), (2, .ref (b 0)), (3, .ref ob), (4, .int (nI i))] → W p l e room_1 s m args below meth c H locs (cells + 4) (slots + 24) Q (F0 m 1234 ls [])) : W p l e room_1 s m args below meth c H locs cells slots Q (F0 m 1048 ls []) := by
  obtain ⟨x1, hx1⟩ : ∃ x : Int32, xs (i + 1) = x := ⟨_, rfl⟩
  obtain ⟨x2, hx2⟩ : ∃ x : Int32, xs (i + 2) = x := ⟨_, rfl⟩
  obtain ⟨x3, hx3⟩ : ∃ x : Int32, xs (i + 3) = x := ⟨_, rfl⟩
  obtain ⟨x4, hx4⟩ : ∃ x : Int32, xs (i + 4) = x := ⟨_, rfl⟩
  refine lv_aload_n hx hb d_L_law_1048 rfl (lv_at hl 1 rfl) ?_
  refine lv_aload_n hx hb d_L_law_1049 rfl (lv_at hl 0 rfl) ?_
  refine lv_iload hx hb d_L_law_1050 (lv_at hl 4 rfl) ?_
  refine lv_iconst (v := nI 1) hx hb d_L_law_1052 (by decide) ?_
  refine lv_iadd hx hb d_L_law_1053 ?_
  rw [nI_add]
  refine rw_sld hx hb hX hbl hbA hS (j := (i + 1)) (by omega) hL hx1 d_L_law_1054 ?_
  refine lv_aload_n hx hb d_L_law_1055 rfl (lv_at hl 0 rfl) ?_
  refine lv_iload hx hb d_L_law_1056 (lv_at hl 4 rfl) ?_
  refine lv_iconst (v := nI 2) hx hb d_L_law_1058 (by decide) ?_
  refine lv_iadd hx hb d_L_law_1059 ?_
  rw [nI_add]
  refine rw_sld hx hb hX hbl hbA hS (j := (i + 2)) (by omega) hL hx2 d_L_law_1060 ?_
  refine lv_aload_n hx hb d_L_law_1061 rfl (lv_at hl 0 rfl) ?_
  refine lv_iload hx hb d_L_law_1062 (lv_at hl 4 rfl) ?_
  refine lv_iconst (v := nI 3) hx hb d_L_law_1064 (by decide) ?_
  refine lv_iadd hx hb d_L_law_1065 ?_
  rw [nI_add]
  refine rw_sld hx hb hX hbl hbA hS (j := (i + 3)) (by omega) hL hx3 d_L_law_1066 ?_
  refine lv_aload_n hx hb d_L_law_1067 rfl (lv_at hl 0 rfl) ?_
  refine lv_iload hx hb d_L_law_1068 (lv_at hl 4 rfl) ?_
  refine lv_iconst (v := nI 4) hx hb d_L_law_1070 (by decide) ?_
  refine lv_iadd hx hb d_L_law_1071 ?_
  rw [nI_add]
  refine rw_sld hx hb hX hbl hbA hS (j := (i + 4)) (by omega) hL hx4 d_L_law_1072 ?_
  refine lv_aload_n hx hb d_L_law_1073 rfl (lv_at hl 3 rfl) ?_
  refine cal_i (wc := (ob, .inl (k 3, 1, .inr (.inl of))) :: cxW k a r t th kd bs us sth mk dr M sM) (wr := mdW k b cd ki ba ow uu te ma va wa) (vx_runSW (As := [.ref (a 0), .int x1, .int x2, .int x3, .int x4, .ref ob]) (rest := []) ⟨hx, hb, hml, hown, hts⟩ (w_differ l D k a r t th kd bs us sth mk dr M sM sa hl9 x1 x2 x3 x4 ob of H.size) (cwH9 6 hts wd_381 wd_379 wd_380 wd_0 (by decide) ⟨Nat.le_of_ble_eq_true rfl, Nat.le_of_ble_eq_true rfl⟩) (prH hE hN hS hA hK hP hD (List.Perm.refl _)) rfl rfl hl.1 rfl (lv_room (Nat.le_of_ble_eq_true rfl)) d_L_law_1074 ⟨Nat.le_trans (by omega) hc, Nat.le_trans (by omega) hs⟩) (List.Perm.refl _) hP hD hS hA (fun rv w1 H locs hw hpd hS => ?_)
  rcases hw with ⟨rfl, r9, w9, ⟨j, hj, rfl, hq, j2, hj2, rfl, hq2, hc9, hk9, rfl, rfl⟩, rfl⟩ | ⟨hne, rfl, rfl⟩
  · skip
    obtain ⟨hP, hD⟩ := hpd (((ob, .inl (k 3, 1, .inr (.inl (vp_updL of (nI 0).toNatClampNeg ((fdF (fun i => decide (¬ rsF th bs us M sM j x3 x4 i = rsF th bs us M sM j2 x3 x4 i)) 24 0).toInt64))))) :: cxW k a r t th kd bs us sth mk dr M sM) ++ mdW k b cd ki ba ow uu te ma va wa) (List.Perm.refl _)
    have hcd0 : cdDi th kd sth (nI j) (nI j2) x3 x4 = 0 := by simp [cdDi, hq, hq2, hc9, hk9]
    refine lv_istore (lv' := [(5, .int (nI 0)), (0, .ref sb), (1, .ref (a 0)), (2, .ref (b 0)), (3, .ref ob), (4, .int (nI i))]) hx hb d_L_law_1077 hl (by decide) rfl (fun ls hl => ?_)
    refine lv_aload_n hx hb d_L_law_1079 rfl (lv_at hl 3 rfl) ?_
    refine lv_aload_n hx hb d_L_law_1080 rfl (lv_at hl 1 rfl) ?_
    refine lv_iload hx hb d_L_law_1081 (lv_at hl 5 rfl) ?_
    refine lv_iconst (v := nI 1) hx hb d_L_law_1083 (by decide) ?_
    refine lv_iadd hx hb d_L_law_1084 ?_
    rw [nI_add]
    refine rw_sld hx hb hX hbl hbA hS (j := (i + 1)) (by omega) hL hx1 d_L_law_1085 ?_
    refine lv_aload_n hx hb d_L_law_1086 rfl (lv_at hl 1 rfl) ?_
    refine lv_iload hx hb d_L_law_1087 (lv_at hl 5 rfl) ?_
    refine lv_iconst (v := nI 2) hx hb d_L_law_1089 (by decide) ?_
    refine lv_iadd hx hb d_L_law_1090 ?_
    rw [nI_add]
    refine rw_sld hx hb hX hbl hbA hS (j := (i + 2)) (by omega) hL hx2 d_L_law_1091 ?_
    refine lv_aload_n hx hb d_L_law_1092 rfl (lv_at hl 1 rfl) ?_
    refine lv_iload hx hb d_L_law_1093 (lv_at hl 5 rfl) ?_
    refine lv_iconst (v := nI 3) hx hb d_L_law_1095 (by decide) ?_
    refine lv_iadd hx hb d_L_law_1096 ?_
    rw [nI_add]
    refine rw_sld hx hb hX hbl hbA hS (j := (i + 3)) (by omega) hL hx3 d_L_law_1097 ?_
    refine lv_aload_n hx hb d_L_law_1098 rfl (lv_at hl 1 rfl) ?_
    refine lv_iload hx hb d_L_law_1099 (lv_at hl 5 rfl) ?_
    refine lv_iconst (v := nI 4) hx hb d_L_law_1101 (by decide) ?_
    refine lv_iadd hx hb d_L_law_1102 ?_
    rw [nI_add]
    refine rw_sld hx hb hX hbl hbA hS (j := (i + 4)) (by omega) hL hx4 d_L_law_1103 ?_
    refine cal_i (wc := mdW k b cd ki ba ow uu te ma va wa) (wr := (ob, .inl (k 3, 1, .inr (.inl (vp_updL of (nI 0).toNatClampNeg ((fdF (fun i => decide (¬ rsF th bs us M sM j x3 x4 i = rsF th bs us M sM j2 x3 x4 i)) 24 0).toInt64))))) :: cxW k a r t th kd bs us sth mk dr M sM) (va_runV (As := [.int (nI j), .int (nI j2), .int x3, .int x4]) (rest := []) ⟨hx, hb, hml, hown, hts⟩ (c_Mdiffer l D k b cd ki ba ow uu te ma va wa th kd bs us sth mk M sM hR (nI j) (nI j2) x3 x4 H.size) (cwV9 4 hts wd_560 wd_557 wd_558 wd_559 wd_4 (by decide) ⟨Nat.le_of_ble_eq_true rfl, Nat.le_of_ble_eq_true rfl⟩) (prV (q0 := 0) (ci := ciMo) hK hP hD (pm_cm _ _) rfl rfl) rfl rfl hl.1 rfl (lv_room (Nat.le_of_ble_eq_true rfl)) d_L_law_1104 ⟨Nat.le_trans (by omega) hc, Nat.le_trans (by omega) hs⟩) (pm_cm _ _) hP hD hS hA (fun rv w1 H locs hw hpd hS => ?_)
    rw [nI_clamp (show j < 2 ^ 31 by omega), nI_clamp (show j2 < 2 ^ 31 by omega)] at hw
    rw [hcd0] at hw
    obtain ⟨hv, rfl⟩ := hw
    obtain rfl := hv rfl
    obtain ⟨hP, hD⟩ := hpd (((ob, .inl (k 3, 1, .inr (.inl (vp_updL of (nI 0).toNatClampNeg ((fdF (fun i => decide (¬ rsF th bs us M sM j x3 x4 i = rsF th bs us M sM j2 x3 x4 i)) 24 0).toInt64))))) :: cxW k a r t th kd bs us sth mk dr M sM) ++ mdW k b (nI 0) ki ba ow uu te ma va wa) (pm_cm _ _)
    refine lv_istore (lv' := [(6, .int (fdF (fun i => decide (¬ rsF th bs us M sM j x3 x4 i = rsF th bs us M sM j2 x3 x4 i)) 24 0)), (5, .int (nI 0)), (0, .ref sb), (1, .ref (a 0)), (2, .ref (b 0)), (3, .ref ob), (4, .int (nI i))]) hx hb d_L_law_1107 hl (by decide) rfl (fun ls hl => ?_)
    refine lv_aload_n hx hb d_L_law_1109 rfl (lv_at hl 4 rfl) ?_
    refine cal_i (wc := mdW k b (nI 0) ki ba ow uu te ma va wa) (wr := (ob, .inl (k 3, 1, .inr (.inl (vp_updL of (nI 0).toNatClampNeg ((fdF (fun i => decide (¬ rsF th bs us M sM j x3 x4 i = rsF th bs us M sM j2 x3 x4 i)) 24 0).toInt64))))) :: cxW k a r t th kd bs us sth mk dr M sM) (va_runV (As := []) (rest := []) ⟨hx, hb, hml, hown, hts⟩ (c_Mthrown l D k b (nI 0) ki ba ow uu te ma va wa H.size) (cwV9 0 hts wd_430 wd_427 wd_428 wd_429 wd_4 (by decide) ⟨Nat.le_of_ble_eq_true rfl, Nat.le_of_ble_eq_true rfl⟩) (prV (q0 := 0) (ci := ciMo) hK hP hD (pm_cm _ _) rfl rfl) rfl rfl hl.1 rfl (lv_room (Nat.le_of_ble_eq_true rfl)) d_L_law_1110 ⟨Nat.le_trans (by omega) hc, Nat.le_trans (by omega) hs⟩) (pm_cm _ _) hP hD hS hA (fun rv w1 H locs hw hpd hS => ?_)
    obtain ⟨rfl, rfl⟩ := hw
    obtain ⟨hP, hD⟩ := hpd (((ob, .inl (k 3, 1, .inr (.inl (vp_updL of (nI 0).toNatClampNeg ((fdF (fun i => decide (¬ rsF th bs us M sM j x3 x4 i = rsF th bs us M sM j2 x3 x4 i)) 24 0).toInt64))))) :: cxW k a r t th kd bs us sth mk dr M sM) ++ mdW k b (nI 0) ki ba ow uu te ma va wa) (pm_cm _ _)
    refine lv_iload hx hb d_L_law_1113 (lv_at hl 1 rfl) ?_
    refine lv_icmp_eq (tgt := 1120) hx hb d_L_law_1115 (by decide) (fun c1115 => ?_) (fun c1115 => ?_)
    · skip
      refine lv_iload hx hb d_L_law_1120 (lv_at hl 1 rfl) ?_
      refine lv_if_ne (tgt := 1137) hx hb d_L_law_1122 (by decide) (fun c1122 => ?_) (fun c1122 => ?_)
      · skip
        exact absurd (by decide) c1122
      · skip
        refine lv_aload_n hx hb d_L_law_1125 rfl (lv_at hl 5 rfl) ?_
        refine lv_iconst (v := nI 0) hx hb d_L_law_1126 (by decide) ?_
        refine va_lald hx hb hK.1 hP 0 3 rfl rfl vin_0 d_L_law_1127 ?_
        rw [show (vp_updL of (nI 0).toNatClampNeg ((fdF (fun i => decide (¬ rsF th bs us M sM j x3 x4 i = rsF th bs us M sM j2 x3 x4 i)) 24 0).toInt64)) (nI 0).toNatClampNeg = (fdF (fun i => decide (¬ rsF th bs us M sM j x3 x4 i = rsF th bs us M sM j2 x3 x4 i)) 24 0).toInt64 by simp [vp_updL]]
        refine lv_iload hx hb d_L_law_1128 (lv_at hl 0 rfl) ?_
        refine lv_i2l (v := (fdF (fun i => decide (¬ rsF th bs us M sM j x3 x4 i = rsF th bs us M sM j2 x3 x4 i)) 24 0).toInt64) hx hb d_L_law_1130 rfl ?_
        refine W.lcmp hx hb d_L_law_1131 ?_
        refine lv_if_eq (tgt := 1137) hx hb d_L_law_1132 (by decide) (fun c1132 => ?_) (fun c1132 => ?_)
        · skip
          refine lv_goto (tgt := 1234) hx hb d_L_law_1137 (by decide) ?_
          refine W.widen (k := cells + 4) (n := slots + 24) (by omega) (by omega) ?_
          exact hgo th kd bs us sth mk dr M sM (nI 0) ki ba ow uu te ma va wa (vp_updL of (nI 0).toNatClampNeg ((fdF (fun i => decide (¬ rsF th bs us M sM j x3 x4 i = rsF th bs us M sM j2 x3 x4 i)) 24 0).toInt64)) H locs ls hR hP hD hS (lv_sub hl [2, 3, 4, 5, 6] rfl)
        · skip
          exact absurd (lcm_self _) c1132
    · skip
      exact absurd (by decide) c1115
  · skip
    obtain ⟨hP, hD⟩ := hpd (((ob, .inl (k 3, 1, .inr (.inl of))) :: cxW k a r t th kd bs us sth mk dr M sM) ++ mdW k b cd ki ba ow uu te ma va wa) (List.Perm.refl _)
    refine lv_istore (lv' := [(5, .int ((nI (cdDi th kd sth x1 x2 x3 x4)))), (0, .ref sb), (1, .ref (a 0)), (2, .ref (b 0)), (3, .ref ob), (4, .int (nI i))]) hx hb d_L_law_1077 hl (by decide) rfl (fun ls hl => ?_)
    refine lv_aload_n hx hb d_L_law_1079 rfl (lv_at hl 3 rfl) ?_
    refine lv_aload_n hx hb d_L_law_1080 rfl (lv_at hl 1 rfl) ?_
    refine lv_iload hx hb d_L_law_1081 (lv_at hl 5 rfl) ?_
    refine lv_iconst (v := nI 1) hx hb d_L_law_1083 (by decide) ?_
    refine lv_iadd hx hb d_L_law_1084 ?_
    rw [nI_add]
    refine rw_sld hx hb hX hbl hbA hS (j := (i + 1)) (by omega) hL hx1 d_L_law_1085 ?_
    refine lv_aload_n hx hb d_L_law_1086 rfl (lv_at hl 1 rfl) ?_
    refine lv_iload hx hb d_L_law_1087 (lv_at hl 5 rfl) ?_
    refine lv_iconst (v := nI 2) hx hb d_L_law_1089 (by decide) ?_
    refine lv_iadd hx hb d_L_law_1090 ?_
    rw [nI_add]
    refine rw_sld hx hb hX hbl hbA hS (j := (i + 2)) (by omega) hL hx2 d_L_law_1091 ?_
    refine lv_aload_n hx hb d_L_law_1092 rfl (lv_at hl 1 rfl) ?_
    refine lv_iload hx hb d_L_law_1093 (lv_at hl 5 rfl) ?_
    refine lv_iconst (v := nI 3) hx hb d_L_law_1095 (by decide) ?_
    refine lv_iadd hx hb d_L_law_1096 ?_
    rw [nI_add]
    refine rw_sld hx hb hX hbl hbA hS (j := (i + 3)) (by omega) hL hx3 d_L_law_1097 ?_
    refine lv_aload_n hx hb d_L_law_1098 rfl (lv_at hl 1 rfl) ?_
    refine lv_iload hx hb d_L_law_1099 (lv_at hl 5 rfl) ?_
    refine lv_iconst (v := nI 4) hx hb d_L_law_1101 (by decide) ?_
    refine lv_iadd hx hb d_L_law_1102 ?_
    rw [nI_add]
    refine rw_sld hx hb hX hbl hbA hS (j := (i + 4)) (by omega) hL hx4 d_L_law_1103 ?_
    refine cal_i (wc := mdW k b cd ki ba ow uu te ma va wa) (wr := (ob, .inl (k 3, 1, .inr (.inl of))) :: cxW k a r t th kd bs us sth mk dr M sM) (va_runV (As := [.int x1, .int x2, .int x3, .int x4]) (rest := []) ⟨hx, hb, hml, hown, hts⟩ (c_Mdiffer l D k b cd ki ba ow uu te ma va wa th kd bs us sth mk M sM hR x1 x2 x3 x4 H.size) (cwV9 4 hts wd_560 wd_557 wd_558 wd_559 wd_4 (by decide) ⟨Nat.le_of_ble_eq_true rfl, Nat.le_of_ble_eq_true rfl⟩) (prV (q0 := 0) (ci := ciMo) hK hP hD (pm_cm _ _) rfl rfl) rfl rfl hl.1 rfl (lv_room (Nat.le_of_ble_eq_true rfl)) d_L_law_1104 ⟨Nat.le_trans (by omega) hc, Nat.le_trans (by omega) hs⟩) (pm_cm _ _) hP hD hS hA (fun rv w1 H locs hw hpd hS => ?_)
    obtain ⟨-, rfl⟩ := hw
    obtain ⟨hP, hD⟩ := hpd (((ob, .inl (k 3, 1, .inr (.inl of))) :: cxW k a r t th kd bs us sth mk dr M sM) ++ mdW k b ((nI (cdDi th kd sth x1 x2 x3 x4))) ki ba ow uu te ma va wa) (pm_cm _ _)
    refine lv_istore (lv' := [(6, .int rv), (5, .int ((nI (cdDi th kd sth x1 x2 x3 x4)))), (0, .ref sb), (1, .ref (a 0)), (2, .ref (b 0)), (3, .ref ob), (4, .int (nI i))]) hx hb d_L_law_1107 hl (by decide) rfl (fun ls hl => ?_)
    refine lv_aload_n hx hb d_L_law_1109 rfl (lv_at hl 4 rfl) ?_
    refine cal_i (wc := mdW k b ((nI (cdDi th kd sth x1 x2 x3 x4))) ki ba ow uu te ma va wa) (wr := (ob, .inl (k 3, 1, .inr (.inl of))) :: cxW k a r t th kd bs us sth mk dr M sM) (va_runV (As := []) (rest := []) ⟨hx, hb, hml, hown, hts⟩ (c_Mthrown l D k b ((nI (cdDi th kd sth x1 x2 x3 x4))) ki ba ow uu te ma va wa H.size) (cwV9 0 hts wd_430 wd_427 wd_428 wd_429 wd_4 (by decide) ⟨Nat.le_of_ble_eq_true rfl, Nat.le_of_ble_eq_true rfl⟩) (prV (q0 := 0) (ci := ciMo) hK hP hD (pm_cm _ _) rfl rfl) rfl rfl hl.1 rfl (lv_room (Nat.le_of_ble_eq_true rfl)) d_L_law_1110 ⟨Nat.le_trans (by omega) hc, Nat.le_trans (by omega) hs⟩) (pm_cm _ _) hP hD hS hA (fun rv w1 H locs hw hpd hS => ?_)
    obtain ⟨rfl, rfl⟩ := hw
    obtain ⟨hP, hD⟩ := hpd (((ob, .inl (k 3, 1, .inr (.inl of))) :: cxW k a r t th kd bs us sth mk dr M sM) ++ mdW k b ((nI (cdDi th kd sth x1 x2 x3 x4))) ki ba ow uu te ma va wa) (pm_cm _ _)
    refine lv_iload hx hb d_L_law_1113 (lv_at hl 1 rfl) ?_
    refine lv_icmp_eq (tgt := 1120) hx hb d_L_law_1115 (by decide) (fun c1115 => ?_) (fun c1115 => ?_)
    · skip
      refine lv_iload hx hb d_L_law_1120 (lv_at hl 1 rfl) ?_
      refine lv_if_ne (tgt := 1137) hx hb d_L_law_1122 (by decide) (fun c1122 => ?_) (fun c1122 => ?_)
      · skip
        refine lv_goto (tgt := 1234) hx hb d_L_law_1137 (by decide) ?_
        refine W.widen (k := cells + 4) (n := slots + 24) (by omega) (by omega) ?_
        exact hgo th kd bs us sth mk dr M sM ((nI (cdDi th kd sth x1 x2 x3 x4))) ki ba ow uu te ma va wa of H locs ls hR hP hD hS (lv_sub hl [2, 3, 4, 5, 6] rfl)
      · skip
        exact absurd c1122 (nz_of hne lt_cdDi)
    · skip
      exact absurd rfl c1115

set_option maxRecDepth 100000 in
set_option maxHeartbeats 4000000 in
theorem k_mark {p : Program} {e : Env} {s : State} {m : MethodId} {args : Array Value} {below : List Frame} {meth : Method} {c : Code} (l : Launch) (D : va_G) (k : Nat → ClassId) (a r t b : Nat → Nat) (ob : Nat) (sa : Nat → Nat) (A : Nat → Prop) (Q : State → Prop) (sb L : Nat) (xs : Nat → Int32) (hl9 : l.stackTraces = false) (hx : p.tables.exec = Jvm.exec) (hb : c.code = code) (hml : c.maxLocals = 7) (hown : s.vm.findClass "StyleSheetLaw" = some m.cls) (hts : ∀ w ∈ wG, w.before args s = true) (hA : ∀ q, s.heap.size ≤ q → A q) (hK : bK D (tsK k) s) (hE : bEV Sts sa A s s.heap) (hN : lNc s) (hX : va_X sb L xs s s.heap) (hbl : sb < s.heap.size) (hbA : ¬ A sb) (hL : L ≤ 2560) (th kd bs us sth mk dr : Nat → Int32) (M sM : Nat → Nat → Int32) (cd : Int32) (ki ba ow uu te ma va wa : Nat → Int32) (of : Nat → Int64) (hR : RI th kd bs us sth mk M sM ki ba ow uu te ma va) (i : Nat) (hi : i + 4 < L) (cells slots : Nat) (hc : cells + 4 ≤ room_1.cells) (hs : slots + 24 ≤ room_1.slots) (H : Heap) (locs : List Loc) (ls : Array Slot) (hP : va_P D vwCl (((ob, .inl (k 3, 1, .inr (.inl of))) :: cxW k a r t th kd bs us sth mk dr M sM) ++ mdW k b cd ki ba ow uu te ma va wa) H) (hD : va_D A (((ob, .inl (k 3, 1, .inr (.inl of))) :: cxW k a r t th kd bs us sth mk dr M sM) ++ mdW k b cd ki ba ow uu te ma va wa)) (hS : va_S A s.heap H locs) (hl : lv_has ls 7 [(0, .ref sb), (1, .ref (a 0)), (2, .ref (b 0)), (3, .ref ob), (4, .int (nI i))]) (hgo : ∀ (th kd bs us sth mk dr : Nat → Int32) (M sM : Nat → Nat → Int32) (cd : Int32) (ki ba ow uu te ma va wa : Nat → Int32) (of : Nat → Int64) (H : Heap) (locs : List Loc) (ls : Array Slot), RI th kd bs us sth mk M sM ki ba ow uu te ma va → va_P D vwCl (((ob, .inl (k 3, 1, .inr (.inl of))) :: cxW k a r t th kd bs us sth mk dr M sM) ++ mdW k b cd ki ba ow uu te ma va wa) H → va_D A (((ob, .inl (k 3, 1, .inr (.inl of))) :: cxW k a r t th kd bs us sth mk dr M sM) ++ mdW k b cd ki ba ow uu te ma va wa) → va_S A s.heap H locs → lv_has ls 7 [(0, .ref sb), (1, .ref (a 0)), (2, .ref (b 0)), (3, .ref ob), (4, .int (nI i))] → W p l e room_1 s m args below meth c H locs (cells + 4) (slots + 24) Q (F0 m 1234 ls [])) : W p l e room_1 s m args below meth c H locs cells slots Q (F0 m 1140 ls []) := by
  obtain ⟨x1, hx1⟩ : ∃ x : Int32, xs (i + 1) = x := ⟨_, rfl⟩
  refine lv_aload_n hx hb d_L_law_1140 rfl (lv_at hl 1 rfl) ?_
  refine lv_aload_n hx hb d_L_law_1141 rfl (lv_at hl 0 rfl) ?_
  refine lv_iload hx hb d_L_law_1142 (lv_at hl 4 rfl) ?_
  refine lv_iconst (v := nI 1) hx hb d_L_law_1144 (by decide) ?_
  refine lv_iadd hx hb d_L_law_1145 ?_
  rw [nI_add]
  refine rw_sld hx hb hX hbl hbA hS (j := (i + 1)) (by omega) hL hx1 d_L_law_1146 ?_
  refine lv_aload_n hx hb d_L_law_1147 rfl (lv_at hl 3 rfl) ?_
  refine cal_i (wc := (ob, .inl (k 3, 1, .inr (.inl of))) :: cxW k a r t th kd bs us sth mk dr M sM) (wr := mdW k b cd ki ba ow uu te ma va wa) (vx_runSW (As := [.ref (a 0), .int x1, .ref ob]) (rest := []) ⟨hx, hb, hml, hown, hts⟩ (w_mark l D k a r t th kd bs us sth mk dr M sM sa hl9 x1 ob of H.size) (cwH9 3 hts wd_388 wd_386 wd_387 wd_0 (by decide) ⟨Nat.le_of_ble_eq_true rfl, Nat.le_of_ble_eq_true rfl⟩) (prH hE hN hS hA hK hP hD (List.Perm.refl _)) rfl rfl hl.1 rfl (lv_room (Nat.le_of_ble_eq_true rfl)) d_L_law_1148 ⟨Nat.le_trans (by omega) hc, Nat.le_trans (by omega) hs⟩) (List.Perm.refl _) hP hD hS hA (fun rv w1 H locs hw hpd hS => ?_)
  rcases hw with ⟨rfl, r9, w9, ⟨j, hj, rfl, hq, rfl, rfl⟩, rfl⟩ | ⟨hne, rfl, rfl⟩
  · skip
    obtain ⟨hP, hD⟩ := hpd (((ob, .inl (k 3, 1, .inr (.inl (vp_updL of (nI 0).toNatClampNeg ((nI (cnF (fun i => decide (upd mk j (nI 1) i ≠ 0)) 256)).toInt64))))) :: cxW k a r t th kd bs us sth (upd mk j (nI 1)) dr M sM) ++ mdW k b cd ki ba ow uu te ma va wa) (List.Perm.refl _)
    have hcd0 : cdMa sth (nI j) = 0 := by simp [cdMa, hq]
    refine lv_istore (lv' := [(5, .int (nI 0)), (0, .ref sb), (1, .ref (a 0)), (2, .ref (b 0)), (3, .ref ob), (4, .int (nI i))]) hx hb d_L_law_1151 hl (by decide) rfl (fun ls hl => ?_)
    refine lv_aload_n hx hb d_L_law_1153 rfl (lv_at hl 3 rfl) ?_
    refine lv_aload_n hx hb d_L_law_1154 rfl (lv_at hl 1 rfl) ?_
    refine lv_iload hx hb d_L_law_1155 (lv_at hl 5 rfl) ?_
    refine lv_iconst (v := nI 1) hx hb d_L_law_1157 (by decide) ?_
    refine lv_iadd hx hb d_L_law_1158 ?_
    rw [nI_add]
    refine rw_sld hx hb hX hbl hbA hS (j := (i + 1)) (by omega) hL hx1 d_L_law_1159 ?_
    refine cal_i (wc := mdW k b cd ki ba ow uu te ma va wa) (wr := (ob, .inl (k 3, 1, .inr (.inl (vp_updL of (nI 0).toNatClampNeg ((nI (cnF (fun i => decide (upd mk j (nI 1) i ≠ 0)) 256)).toInt64))))) :: cxW k a r t th kd bs us sth (upd mk j (nI 1)) dr M sM) (va_runV (As := [.int (nI j)]) (rest := []) ⟨hx, hb, hml, hown, hts⟩ (c_Mmark l D k b cd ki ba ow uu te ma va wa th kd bs us sth mk M sM hR (nI j) H.size) (cwV9 1 hts wd_564 wd_561 wd_562 wd_563 wd_4 (by decide) ⟨Nat.le_of_ble_eq_true rfl, Nat.le_of_ble_eq_true rfl⟩) (prV (q0 := 0) (ci := ciMo) hK hP hD (pm_cm _ _) rfl rfl) rfl rfl hl.1 rfl (lv_room (Nat.le_of_ble_eq_true rfl)) d_L_law_1160 ⟨Nat.le_trans (by omega) hc, Nat.le_trans (by omega) hs⟩) (pm_cm _ _) hP hD hS hA (fun rv w1 H locs hw hpd hS => ?_)
    rw [nI_clamp (show j < 2 ^ 31 by omega)] at hw
    obtain ⟨rfl, rfl⟩ := hw.1 hcd0
    obtain ⟨hP, hD⟩ := hpd (((ob, .inl (k 3, 1, .inr (.inl (vp_updL of (nI 0).toNatClampNeg ((nI (cnF (fun i => decide (upd mk j (nI 1) i ≠ 0)) 256)).toInt64))))) :: cxW k a r t th kd bs us sth (upd mk j (nI 1)) dr M sM) ++ mdW k b (nI 0) ki ba ow uu te (upd ma j (nI 1)) va wa) (pm_cm _ _)
    refine lv_istore (lv' := [(6, .int (nI (cnF (fun i => decide (upd mk j (nI 1) i ≠ 0)) 256))), (5, .int (nI 0)), (0, .ref sb), (1, .ref (a 0)), (2, .ref (b 0)), (3, .ref ob), (4, .int (nI i))]) hx hb d_L_law_1163 hl (by decide) rfl (fun ls hl => ?_)
    refine lv_aload_n hx hb d_L_law_1165 rfl (lv_at hl 4 rfl) ?_
    refine cal_i (wc := mdW k b (nI 0) ki ba ow uu te (upd ma j (nI 1)) va wa) (wr := (ob, .inl (k 3, 1, .inr (.inl (vp_updL of (nI 0).toNatClampNeg ((nI (cnF (fun i => decide (upd mk j (nI 1) i ≠ 0)) 256)).toInt64))))) :: cxW k a r t th kd bs us sth (upd mk j (nI 1)) dr M sM) (va_runV (As := []) (rest := []) ⟨hx, hb, hml, hown, hts⟩ (c_Mthrown l D k b (nI 0) ki ba ow uu te (upd ma j (nI 1)) va wa H.size) (cwV9 0 hts wd_430 wd_427 wd_428 wd_429 wd_4 (by decide) ⟨Nat.le_of_ble_eq_true rfl, Nat.le_of_ble_eq_true rfl⟩) (prV (q0 := 0) (ci := ciMo) hK hP hD (pm_cm _ _) rfl rfl) rfl rfl hl.1 rfl (lv_room (Nat.le_of_ble_eq_true rfl)) d_L_law_1166 ⟨Nat.le_trans (by omega) hc, Nat.le_trans (by omega) hs⟩) (pm_cm _ _) hP hD hS hA (fun rv w1 H locs hw hpd hS => ?_)
    obtain ⟨rfl, rfl⟩ := hw
    obtain ⟨hP, hD⟩ := hpd (((ob, .inl (k 3, 1, .inr (.inl (vp_updL of (nI 0).toNatClampNeg ((nI (cnF (fun i => decide (upd mk j (nI 1) i ≠ 0)) 256)).toInt64))))) :: cxW k a r t th kd bs us sth (upd mk j (nI 1)) dr M sM) ++ mdW k b (nI 0) ki ba ow uu te (upd ma j (nI 1)) va wa) (pm_cm _ _)
    refine lv_iload hx hb d_L_law_1169 (lv_at hl 1 rfl) ?_
    refine lv_icmp_eq (tgt := 1176) hx hb d_L_law_1171 (by decide) (fun c1171 => ?_) (fun c1171 => ?_)
    · skip
      refine lv_iload hx hb d_L_law_1176 (lv_at hl 1 rfl) ?_
      refine lv_if_ne (tgt := 1193) hx hb d_L_law_1178 (by decide) (fun c1178 => ?_) (fun c1178 => ?_)
      · skip
        exact absurd (by decide) c1178
      · skip
        refine lv_aload_n hx hb d_L_law_1181 rfl (lv_at hl 5 rfl) ?_
        refine lv_iconst (v := nI 0) hx hb d_L_law_1182 (by decide) ?_
        refine va_lald hx hb hK.1 hP 0 3 rfl rfl vin_0 d_L_law_1183 ?_
        rw [show (vp_updL of (nI 0).toNatClampNeg ((nI (cnF (fun i => decide (upd mk j (nI 1) i ≠ 0)) 256)).toInt64)) (nI 0).toNatClampNeg = (nI (cnF (fun i => decide (upd mk j (nI 1) i ≠ 0)) 256)).toInt64 by simp [vp_updL]]
        refine lv_iload hx hb d_L_law_1184 (lv_at hl 0 rfl) ?_
        refine lv_i2l (v := (nI (cnF (fun i => decide (upd mk j (nI 1) i ≠ 0)) 256)).toInt64) hx hb d_L_law_1186 rfl ?_
        refine W.lcmp hx hb d_L_law_1187 ?_
        refine lv_if_eq (tgt := 1193) hx hb d_L_law_1188 (by decide) (fun c1188 => ?_) (fun c1188 => ?_)
        · skip
          refine lv_goto (tgt := 1234) hx hb d_L_law_1193 (by decide) ?_
          refine W.widen (k := cells + 4) (n := slots + 24) (by omega) (by omega) ?_
          exact hgo th kd bs us sth (upd mk j (nI 1)) dr M sM (nI 0) ki ba ow uu te (upd ma j (nI 1)) va wa (vp_updL of (nI 0).toNatClampNeg ((nI (cnF (fun i => decide (upd mk j (nI 1) i ≠ 0)) 256)).toInt64)) H locs ls (RI_mark hR (hs_th (by decide) hj hq)) hP hD hS (lv_sub hl [2, 3, 4, 5, 6] rfl)
        · skip
          exact absurd (lcm_self _) c1188
    · skip
      exact absurd (by decide) c1171
  · skip
    obtain ⟨hP, hD⟩ := hpd (((ob, .inl (k 3, 1, .inr (.inl of))) :: cxW k a r t th kd bs us sth mk dr M sM) ++ mdW k b cd ki ba ow uu te ma va wa) (List.Perm.refl _)
    refine lv_istore (lv' := [(5, .int ((nI (cdMa sth x1)))), (0, .ref sb), (1, .ref (a 0)), (2, .ref (b 0)), (3, .ref ob), (4, .int (nI i))]) hx hb d_L_law_1151 hl (by decide) rfl (fun ls hl => ?_)
    refine lv_aload_n hx hb d_L_law_1153 rfl (lv_at hl 3 rfl) ?_
    refine lv_aload_n hx hb d_L_law_1154 rfl (lv_at hl 1 rfl) ?_
    refine lv_iload hx hb d_L_law_1155 (lv_at hl 5 rfl) ?_
    refine lv_iconst (v := nI 1) hx hb d_L_law_1157 (by decide) ?_
    refine lv_iadd hx hb d_L_law_1158 ?_
    rw [nI_add]
    refine rw_sld hx hb hX hbl hbA hS (j := (i + 1)) (by omega) hL hx1 d_L_law_1159 ?_
    refine cal_i (wc := mdW k b cd ki ba ow uu te ma va wa) (wr := (ob, .inl (k 3, 1, .inr (.inl of))) :: cxW k a r t th kd bs us sth mk dr M sM) (va_runV (As := [.int x1]) (rest := []) ⟨hx, hb, hml, hown, hts⟩ (c_Mmark l D k b cd ki ba ow uu te ma va wa th kd bs us sth mk M sM hR x1 H.size) (cwV9 1 hts wd_564 wd_561 wd_562 wd_563 wd_4 (by decide) ⟨Nat.le_of_ble_eq_true rfl, Nat.le_of_ble_eq_true rfl⟩) (prV (q0 := 0) (ci := ciMo) hK hP hD (pm_cm _ _) rfl rfl) rfl rfl hl.1 rfl (lv_room (Nat.le_of_ble_eq_true rfl)) d_L_law_1160 ⟨Nat.le_trans (by omega) hc, Nat.le_trans (by omega) hs⟩) (pm_cm _ _) hP hD hS hA (fun rv w1 H locs hw hpd hS => ?_)
    obtain rfl := hw.2 hne
    obtain ⟨hP, hD⟩ := hpd (((ob, .inl (k 3, 1, .inr (.inl of))) :: cxW k a r t th kd bs us sth mk dr M sM) ++ mdW k b ((nI (cdMa sth x1))) ki ba ow uu te ma va wa) (pm_cm _ _)
    refine lv_istore (lv' := [(6, .int rv), (5, .int ((nI (cdMa sth x1)))), (0, .ref sb), (1, .ref (a 0)), (2, .ref (b 0)), (3, .ref ob), (4, .int (nI i))]) hx hb d_L_law_1163 hl (by decide) rfl (fun ls hl => ?_)
    refine lv_aload_n hx hb d_L_law_1165 rfl (lv_at hl 4 rfl) ?_
    refine cal_i (wc := mdW k b ((nI (cdMa sth x1))) ki ba ow uu te ma va wa) (wr := (ob, .inl (k 3, 1, .inr (.inl of))) :: cxW k a r t th kd bs us sth mk dr M sM) (va_runV (As := []) (rest := []) ⟨hx, hb, hml, hown, hts⟩ (c_Mthrown l D k b ((nI (cdMa sth x1))) ki ba ow uu te ma va wa H.size) (cwV9 0 hts wd_430 wd_427 wd_428 wd_429 wd_4 (by decide) ⟨Nat.le_of_ble_eq_true rfl, Nat.le_of_ble_eq_true rfl⟩) (prV (q0 := 0) (ci := ciMo) hK hP hD (pm_cm _ _) rfl rfl) rfl rfl hl.1 rfl (lv_room (Nat.le_of_ble_eq_true rfl)) d_L_law_1166 ⟨Nat.le_trans (by omega) hc, Nat.le_trans (by omega) hs⟩) (pm_cm _ _) hP hD hS hA (fun rv w1 H locs hw hpd hS => ?_)
    obtain ⟨rfl, rfl⟩ := hw
    obtain ⟨hP, hD⟩ := hpd (((ob, .inl (k 3, 1, .inr (.inl of))) :: cxW k a r t th kd bs us sth mk dr M sM) ++ mdW k b ((nI (cdMa sth x1))) ki ba ow uu te ma va wa) (pm_cm _ _)
    refine lv_iload hx hb d_L_law_1169 (lv_at hl 1 rfl) ?_
    refine lv_icmp_eq (tgt := 1176) hx hb d_L_law_1171 (by decide) (fun c1171 => ?_) (fun c1171 => ?_)
    · skip
      refine lv_iload hx hb d_L_law_1176 (lv_at hl 1 rfl) ?_
      refine lv_if_ne (tgt := 1193) hx hb d_L_law_1178 (by decide) (fun c1178 => ?_) (fun c1178 => ?_)
      · skip
        refine lv_goto (tgt := 1234) hx hb d_L_law_1193 (by decide) ?_
        refine W.widen (k := cells + 4) (n := slots + 24) (by omega) (by omega) ?_
        exact hgo th kd bs us sth mk dr M sM ((nI (cdMa sth x1))) ki ba ow uu te ma va wa of H locs ls hR hP hD hS (lv_sub hl [2, 3, 4, 5, 6] rfl)
      · skip
        exact absurd c1178 (nz_of hne lt_cdMa)
    · skip
      exact absurd rfl c1171

set_option maxRecDepth 100000 in
set_option maxHeartbeats 4000000 in
theorem k_size {p : Program} {e : Env} {s : State} {m : MethodId} {args : Array Value} {below : List Frame} {meth : Method} {c : Code} (l : Launch) (D : va_G) (k : Nat → ClassId) (a r t b : Nat → Nat) (ob : Nat) (sa : Nat → Nat) (A : Nat → Prop) (Q : State → Prop) (sb L : Nat) (xs : Nat → Int32) (hl9 : l.stackTraces = false) (hx : p.tables.exec = Jvm.exec) (hb : c.code = code) (hml : c.maxLocals = 7) (hown : s.vm.findClass "StyleSheetLaw" = some m.cls) (hts : ∀ w ∈ wG, w.before args s = true) (hA : ∀ q, s.heap.size ≤ q → A q) (hK : bK D (tsK k) s) (hE : bEV Sts sa A s s.heap) (hN : lNc s) (hX : va_X sb L xs s s.heap) (hbl : sb < s.heap.size) (hbA : ¬ A sb) (hL : L ≤ 2560) (th kd bs us sth mk dr : Nat → Int32) (M sM : Nat → Nat → Int32) (cd : Int32) (ki ba ow uu te ma va wa : Nat → Int32) (of : Nat → Int64) (hR : RI th kd bs us sth mk M sM ki ba ow uu te ma va) (i : Nat) (hi : i + 4 < L) (cells slots : Nat) (hc : cells + 4 ≤ room_1.cells) (hs : slots + 24 ≤ room_1.slots) (H : Heap) (locs : List Loc) (ls : Array Slot) (hP : va_P D vwCl (((ob, .inl (k 3, 1, .inr (.inl of))) :: cxW k a r t th kd bs us sth mk dr M sM) ++ mdW k b cd ki ba ow uu te ma va wa) H) (hD : va_D A (((ob, .inl (k 3, 1, .inr (.inl of))) :: cxW k a r t th kd bs us sth mk dr M sM) ++ mdW k b cd ki ba ow uu te ma va wa)) (hS : va_S A s.heap H locs) (hl : lv_has ls 7 [(0, .ref sb), (1, .ref (a 0)), (2, .ref (b 0)), (3, .ref ob), (4, .int (nI i))]) (hgo : ∀ (th kd bs us sth mk dr : Nat → Int32) (M sM : Nat → Nat → Int32) (cd : Int32) (ki ba ow uu te ma va wa : Nat → Int32) (of : Nat → Int64) (H : Heap) (locs : List Loc) (ls : Array Slot), RI th kd bs us sth mk M sM ki ba ow uu te ma va → va_P D vwCl (((ob, .inl (k 3, 1, .inr (.inl of))) :: cxW k a r t th kd bs us sth mk dr M sM) ++ mdW k b cd ki ba ow uu te ma va wa) H → va_D A (((ob, .inl (k 3, 1, .inr (.inl of))) :: cxW k a r t th kd bs us sth mk dr M sM) ++ mdW k b cd ki ba ow uu te ma va wa) → va_S A s.heap H locs → lv_has ls 7 [(0, .ref sb), (1, .ref (a 0)), (2, .ref (b 0)), (3, .ref ob), (4, .int (nI i))] → W p l e room_1 s m args below meth c H locs (cells + 4) (slots + 24) Q (F0 m 1234 ls [])) : W p l e room_1 s m args below meth c H locs cells slots Q (F0 m 931 ls []) := by
  obtain ⟨x1, hx1⟩ : ∃ x : Int32, xs (i + 1) = x := ⟨_, rfl⟩
  refine lv_aload_n hx hb d_L_law_931 rfl (lv_at hl 1 rfl) ?_
  refine lv_aload_n hx hb d_L_law_932 rfl (lv_at hl 0 rfl) ?_
  refine lv_iload hx hb d_L_law_933 (lv_at hl 4 rfl) ?_
  refine lv_iconst (v := nI 1) hx hb d_L_law_935 (by decide) ?_
  refine lv_iadd hx hb d_L_law_936 ?_
  rw [nI_add]
  refine rw_sld hx hb hX hbl hbA hS (j := (i + 1)) (by omega) hL hx1 d_L_law_937 ?_
  refine cal_i (wc := cxW k a r t th kd bs us sth mk dr M sM) (wr := (ob, .inl (k 3, 1, .inr (.inl of))) :: mdW k b cd ki ba ow uu te ma va wa) (va_runV (As := [.int x1]) (rest := []) ⟨hx, hb, hml, hown, hts⟩ (c_size l D k a r t th kd bs us sth mk dr M sM x1 H.size) (cwV9 1 hts wd_71 wd_68 wd_69 wd_70 wd_1 (by decide) ⟨Nat.le_of_ble_eq_true rfl, Nat.le_of_ble_eq_true rfl⟩) (prV (q0 := 0) (ci := ciSS) hK hP hD (List.perm_middle.symm) rfl rfl) rfl rfl hl.1 rfl (lv_room (Nat.le_of_ble_eq_true rfl)) d_L_law_938 ⟨Nat.le_trans (by omega) hc, Nat.le_trans (by omega) hs⟩) (List.perm_middle.symm) hP hD hS hA (fun rv w1 H locs hw hpd hS => ?_)
  obtain ⟨rfl, rfl⟩ := hw
  obtain ⟨hP, hD⟩ := hpd (((ob, .inl (k 3, 1, .inr (.inl of))) :: cxW k a r t th kd bs us sth mk dr M sM) ++ mdW k b cd ki ba ow uu te ma va wa) (List.perm_middle)
  refine lv_aload_n hx hb d_L_law_941 rfl (lv_at hl 2 rfl) ?_
  refine lv_aload_n hx hb d_L_law_942 rfl (lv_at hl 0 rfl) ?_
  refine lv_iload hx hb d_L_law_943 (lv_at hl 4 rfl) ?_
  refine lv_iconst (v := nI 1) hx hb d_L_law_945 (by decide) ?_
  refine lv_iadd hx hb d_L_law_946 ?_
  rw [nI_add]
  refine rw_sld hx hb hX hbl hbA hS (j := (i + 1)) (by omega) hL hx1 d_L_law_947 ?_
  refine cal_i (wc := mdW k b cd ki ba ow uu te ma va wa) (wr := (ob, .inl (k 3, 1, .inr (.inl of))) :: cxW k a r t th kd bs us sth mk dr M sM) (va_runV (As := [.int x1]) (rest := [.int ((if hsB 256 sth x1 = true then nI (viF sM x1.toNatClampNeg) else -1))]) ⟨hx, hb, hml, hown, hts⟩ (c_Msize l D k b cd ki ba ow uu te ma va wa th kd bs us sth mk M sM hR x1 H.size) (cwV9 1 hts wd_544 wd_541 wd_542 wd_543 wd_4 (by decide) ⟨Nat.le_of_ble_eq_true rfl, Nat.le_of_ble_eq_true rfl⟩) (prV (q0 := 0) (ci := ciMo) hK hP hD (pm_cm _ _) rfl rfl) rfl rfl hl.1 rfl (lv_room (Nat.le_of_ble_eq_true rfl)) d_L_law_948 ⟨Nat.le_trans (by omega) hc, Nat.le_trans (by omega) hs⟩) (pm_cm _ _) hP hD hS hA (fun rv w1 H locs hw hpd hS => ?_)
  obtain ⟨rfl, rfl⟩ := hw
  obtain ⟨hP, hD⟩ := hpd (((ob, .inl (k 3, 1, .inr (.inl of))) :: cxW k a r t th kd bs us sth mk dr M sM) ++ mdW k b (nI 0) ki ba ow uu te ma va wa) (pm_cm _ _)
  refine lv_icmp_eq (tgt := 1234) hx hb d_L_law_951 (by decide) (fun c951 => ?_) (fun c951 => ?_)
  · skip
    refine W.widen (k := cells + 4) (n := slots + 24) (by omega) (by omega) ?_
    exact hgo th kd bs us sth mk dr M sM (nI 0) ki ba ow uu te ma va wa of H locs ls hR hP hD hS (lv_sub hl [0, 1, 2, 3, 4] rfl)
  · skip
    exact absurd rfl c951

set_option maxRecDepth 100000 in
set_option maxHeartbeats 4000000 in
theorem k_sweep {p : Program} {e : Env} {s : State} {m : MethodId} {args : Array Value} {below : List Frame} {meth : Method} {c : Code} (l : Launch) (D : va_G) (k : Nat → ClassId) (a r t b : Nat → Nat) (ob : Nat) (sa : Nat → Nat) (A : Nat → Prop) (Q : State → Prop) (sb L : Nat) (xs : Nat → Int32) (hl9 : l.stackTraces = false) (hx : p.tables.exec = Jvm.exec) (hb : c.code = code) (hml : c.maxLocals = 7) (hown : s.vm.findClass "StyleSheetLaw" = some m.cls) (hts : ∀ w ∈ wG, w.before args s = true) (hA : ∀ q, s.heap.size ≤ q → A q) (hK : bK D (tsK k) s) (hE : bEV Sts sa A s s.heap) (hN : lNc s) (hX : va_X sb L xs s s.heap) (hbl : sb < s.heap.size) (hbA : ¬ A sb) (hL : L ≤ 2560) (th kd bs us sth mk dr : Nat → Int32) (M sM : Nat → Nat → Int32) (cd : Int32) (ki ba ow uu te ma va wa : Nat → Int32) (of : Nat → Int64) (hR : RI th kd bs us sth mk M sM ki ba ow uu te ma va) (i : Nat) (hi : i + 4 < L) (cells slots : Nat) (hc : cells + 4 ≤ room_1.cells) (hs : slots + 24 ≤ room_1.slots) (H : Heap) (locs : List Loc) (ls : Array Slot) (hP : va_P D vwCl (((ob, .inl (k 3, 1, .inr (.inl of))) :: cxW k a r t th kd bs us sth mk dr M sM) ++ mdW k b cd ki ba ow uu te ma va wa) H) (hD : va_D A (((ob, .inl (k 3, 1, .inr (.inl of))) :: cxW k a r t th kd bs us sth mk dr M sM) ++ mdW k b cd ki ba ow uu te ma va wa)) (hS : va_S A s.heap H locs) (hl : lv_has ls 7 [(0, .ref sb), (1, .ref (a 0)), (2, .ref (b 0)), (3, .ref ob), (4, .int (nI i))]) (hgo : ∀ (th kd bs us sth mk dr : Nat → Int32) (M sM : Nat → Nat → Int32) (cd : Int32) (ki ba ow uu te ma va wa : Nat → Int32) (of : Nat → Int64) (H : Heap) (locs : List Loc) (ls : Array Slot), RI th kd bs us sth mk M sM ki ba ow uu te ma va → va_P D vwCl (((ob, .inl (k 3, 1, .inr (.inl of))) :: cxW k a r t th kd bs us sth mk dr M sM) ++ mdW k b cd ki ba ow uu te ma va wa) H → va_D A (((ob, .inl (k 3, 1, .inr (.inl of))) :: cxW k a r t th kd bs us sth mk dr M sM) ++ mdW k b cd ki ba ow uu te ma va wa) → va_S A s.heap H locs → lv_has ls 7 [(0, .ref sb), (1, .ref (a 0)), (2, .ref (b 0)), (3, .ref ob), (4, .int (nI i))] → W p l e room_1 s m args below meth c H locs (cells + 4) (slots + 24) Q (F0 m 1234 ls [])) : W p l e room_1 s m args below meth c H locs cells slots Q (F0 m 1196 ls []) := by
  refine lv_aload_n hx hb d_L_law_1196 rfl (lv_at hl 1 rfl) ?_
  refine cal_i (wc := cxW k a r t th kd bs us sth mk dr M sM) (wr := (ob, .inl (k 3, 1, .inr (.inl of))) :: mdW k b cd ki ba ow uu te ma va wa) (va_runV (As := []) (rest := []) ⟨hx, hb, hml, hown, hts⟩ (c_sweep l D k a r t th kd bs us sth mk dr M sM H.size) (cwV9 0 hts wd_83 wd_80 wd_81 wd_82 wd_1 (by decide) ⟨Nat.le_of_ble_eq_true rfl, Nat.le_of_ble_eq_true rfl⟩) (prV (q0 := 0) (ci := ciSS) hK hP hD (List.perm_middle.symm) rfl rfl) rfl rfl hl.1 rfl (lv_room (Nat.le_of_ble_eq_true rfl)) d_L_law_1197 ⟨Nat.le_trans (by omega) hc, Nat.le_trans (by omega) hs⟩) (List.perm_middle.symm) hP hD hS hA (fun rv w1 H locs hw hpd hS => ?_)
  obtain ⟨rfl, rfl⟩ := hw
  obtain ⟨hP, hD⟩ := hpd (((ob, .inl (k 3, 1, .inr (.inl of))) :: cxW k a r t th kd bs us (swT sth mk 256) (swK mk 256) dr M (swM sth mk sM 256)) ++ mdW k b cd ki ba ow uu te ma va wa) (List.perm_middle)
  refine lv_aload_n hx hb d_L_law_1200 rfl (lv_at hl 2 rfl) ?_
  refine cal_i (wc := mdW k b cd ki ba ow uu te ma va wa) (wr := (ob, .inl (k 3, 1, .inr (.inl of))) :: cxW k a r t th kd bs us (swT sth mk 256) (swK mk 256) dr M (swM sth mk sM 256)) (va_runV (As := []) (rest := [.int ((nI (cnF (swB sth mk) 256)))]) ⟨hx, hb, hml, hown, hts⟩ (c_Msweep l D k b cd ki ba ow uu te ma va wa th kd bs us sth mk M sM hR H.size) (cwV9 0 hts wd_568 wd_565 wd_566 wd_567 wd_4 (by decide) ⟨Nat.le_of_ble_eq_true rfl, Nat.le_of_ble_eq_true rfl⟩) (prV (q0 := 0) (ci := ciMo) hK hP hD (pm_cm _ _) rfl rfl) rfl rfl hl.1 rfl (lv_room (Nat.le_of_ble_eq_true rfl)) d_L_law_1201 ⟨Nat.le_trans (by omega) hc, Nat.le_trans (by omega) hs⟩) (pm_cm _ _) hP hD hS hA (fun rv w1 H locs hw hpd hS => ?_)
  obtain ⟨rfl, rfl⟩ := hw
  obtain ⟨hP, hD⟩ := hpd (((ob, .inl (k 3, 1, .inr (.inl of))) :: cxW k a r t th kd bs us (swT sth mk 256) (swK mk 256) dr M (swM sth mk sM 256)) ++ mdW k b (nI 0) ki ba ow uu (swT te ma 256) (swK ma 256) va wa) (pm_cm _ _)
  refine lv_icmp_eq (tgt := 1234) hx hb d_L_law_1204 (by decide) (fun c1204 => ?_) (fun c1204 => ?_)
  · skip
    refine W.widen (k := cells + 4) (n := slots + 24) (by omega) (by omega) ?_
    exact hgo th kd bs us (swT sth mk 256) (swK mk 256) dr M (swM sth mk sM 256) (nI 0) ki ba ow uu (swT te ma 256) (swK ma 256) va wa of H locs ls (RI_sweep hR) hP hD hS (lv_sub hl [0, 1, 2, 3, 4] rfl)
  · skip
    exact absurd rfl c1204

set_option maxRecDepth 100000 in
set_option maxHeartbeats 4000000 in
theorem k_count {p : Program} {e : Env} {s : State} {m : MethodId} {args : Array Value} {below : List Frame} {meth : Method} {c : Code} (l : Launch) (D : va_G) (k : Nat → ClassId) (a r t b : Nat → Nat) (ob : Nat) (sa : Nat → Nat) (A : Nat → Prop) (Q : State → Prop) (sb L : Nat) (xs : Nat → Int32) (hl9 : l.stackTraces = false) (hx : p.tables.exec = Jvm.exec) (hb : c.code = code) (hml : c.maxLocals = 7) (hown : s.vm.findClass "StyleSheetLaw" = some m.cls) (hts : ∀ w ∈ wG, w.before args s = true) (hA : ∀ q, s.heap.size ≤ q → A q) (hK : bK D (tsK k) s) (hE : bEV Sts sa A s s.heap) (hN : lNc s) (hX : va_X sb L xs s s.heap) (hbl : sb < s.heap.size) (hbA : ¬ A sb) (hL : L ≤ 2560) (th kd bs us sth mk dr : Nat → Int32) (M sM : Nat → Nat → Int32) (cd : Int32) (ki ba ow uu te ma va wa : Nat → Int32) (of : Nat → Int64) (hR : RI th kd bs us sth mk M sM ki ba ow uu te ma va) (i : Nat) (hi : i + 4 < L) (cells slots : Nat) (hc : cells + 4 ≤ room_1.cells) (hs : slots + 24 ≤ room_1.slots) (H : Heap) (locs : List Loc) (ls : Array Slot) (hP : va_P D vwCl (((ob, .inl (k 3, 1, .inr (.inl of))) :: cxW k a r t th kd bs us sth mk dr M sM) ++ mdW k b cd ki ba ow uu te ma va wa) H) (hD : va_D A (((ob, .inl (k 3, 1, .inr (.inl of))) :: cxW k a r t th kd bs us sth mk dr M sM) ++ mdW k b cd ki ba ow uu te ma va wa)) (hS : va_S A s.heap H locs) (hl : lv_has ls 7 [(0, .ref sb), (1, .ref (a 0)), (2, .ref (b 0)), (3, .ref ob), (4, .int (nI i))]) (hgo : ∀ (th kd bs us sth mk dr : Nat → Int32) (M sM : Nat → Nat → Int32) (cd : Int32) (ki ba ow uu te ma va wa : Nat → Int32) (of : Nat → Int64) (H : Heap) (locs : List Loc) (ls : Array Slot), RI th kd bs us sth mk M sM ki ba ow uu te ma va → va_P D vwCl (((ob, .inl (k 3, 1, .inr (.inl of))) :: cxW k a r t th kd bs us sth mk dr M sM) ++ mdW k b cd ki ba ow uu te ma va wa) H → va_D A (((ob, .inl (k 3, 1, .inr (.inl of))) :: cxW k a r t th kd bs us sth mk dr M sM) ++ mdW k b cd ki ba ow uu te ma va wa) → va_S A s.heap H locs → lv_has ls 7 [(0, .ref sb), (1, .ref (a 0)), (2, .ref (b 0)), (3, .ref ob), (4, .int (nI i))] → W p l e room_1 s m args below meth c H locs (cells + 4) (slots + 24) Q (F0 m 1234 ls [])) : W p l e room_1 s m args below meth c H locs cells slots Q (F0 m 1209 ls []) := by
  obtain ⟨x1, hx1⟩ : ∃ x : Int32, xs (i + 1) = x := ⟨_, rfl⟩
  refine lv_aload_n hx hb d_L_law_1209 rfl (lv_at hl 1 rfl) ?_
  refine lv_aload_n hx hb d_L_law_1210 rfl (lv_at hl 0 rfl) ?_
  refine lv_iload hx hb d_L_law_1211 (lv_at hl 4 rfl) ?_
  refine lv_iconst (v := nI 1) hx hb d_L_law_1213 (by decide) ?_
  refine lv_iadd hx hb d_L_law_1214 ?_
  rw [nI_add]
  refine rw_sld hx hb hX hbl hbA hS (j := (i + 1)) (by omega) hL hx1 d_L_law_1215 ?_
  refine cal_i (wc := cxW k a r t th kd bs us sth mk dr M sM) (wr := (ob, .inl (k 3, 1, .inr (.inl of))) :: mdW k b cd ki ba ow uu te ma va wa) (va_runV (As := [.int x1]) (rest := []) ⟨hx, hb, hml, hown, hts⟩ (c_count l D k a r t th kd bs us sth mk dr M sM x1 H.size) (cwV9 1 hts wd_91 wd_88 wd_89 wd_90 wd_1 (by decide) ⟨Nat.le_of_ble_eq_true rfl, Nat.le_of_ble_eq_true rfl⟩) (prV (q0 := 0) (ci := ciSS) hK hP hD (List.perm_middle.symm) rfl rfl) rfl rfl hl.1 rfl (lv_room (Nat.le_of_ble_eq_true rfl)) d_L_law_1216 ⟨Nat.le_trans (by omega) hc, Nat.le_trans (by omega) hs⟩) (List.perm_middle.symm) hP hD hS hA (fun rv w1 H locs hw hpd hS => ?_)
  obtain ⟨rfl, rfl⟩ := hw
  obtain ⟨hP, hD⟩ := hpd (((ob, .inl (k 3, 1, .inr (.inl of))) :: cxW k a r t th kd bs us sth mk dr M sM) ++ mdW k b cd ki ba ow uu te ma va wa) (List.perm_middle)
  refine lv_aload_n hx hb d_L_law_1219 rfl (lv_at hl 2 rfl) ?_
  refine lv_aload_n hx hb d_L_law_1220 rfl (lv_at hl 0 rfl) ?_
  refine lv_iload hx hb d_L_law_1221 (lv_at hl 4 rfl) ?_
  refine lv_iconst (v := nI 1) hx hb d_L_law_1223 (by decide) ?_
  refine lv_iadd hx hb d_L_law_1224 ?_
  rw [nI_add]
  refine rw_sld hx hb hX hbl hbA hS (j := (i + 1)) (by omega) hL hx1 d_L_law_1225 ?_
  refine cal_i (wc := mdW k b cd ki ba ow uu te ma va wa) (wr := (ob, .inl (k 3, 1, .inr (.inl of))) :: cxW k a r t th kd bs us sth mk dr M sM) (va_runV (As := [.int x1]) (rest := [.int ((coF th bs sth M sM x1))]) ⟨hx, hb, hml, hown, hts⟩ (c_Mcount l D k b cd ki ba ow uu te ma va wa th kd bs us sth mk M sM hR x1 H.size) (cwV9 1 hts wd_572 wd_569 wd_570 wd_571 wd_4 (by decide) ⟨Nat.le_of_ble_eq_true rfl, Nat.le_of_ble_eq_true rfl⟩) (prV (q0 := 0) (ci := ciMo) hK hP hD (pm_cm _ _) rfl rfl) rfl rfl hl.1 rfl (lv_room (Nat.le_of_ble_eq_true rfl)) d_L_law_1226 ⟨Nat.le_trans (by omega) hc, Nat.le_trans (by omega) hs⟩) (pm_cm _ _) hP hD hS hA (fun rv w1 H locs hw hpd hS => ?_)
  obtain ⟨rfl, rfl⟩ := hw
  obtain ⟨hP, hD⟩ := hpd (((ob, .inl (k 3, 1, .inr (.inl of))) :: cxW k a r t th kd bs us sth mk dr M sM) ++ mdW k b (nI 0) ki ba ow uu te ma va wa) (pm_cm _ _)
  refine lv_icmp_eq (tgt := 1234) hx hb d_L_law_1229 (by decide) (fun c1229 => ?_) (fun c1229 => ?_)
  · skip
    refine W.widen (k := cells + 4) (n := slots + 24) (by omega) (by omega) ?_
    exact hgo th kd bs us sth mk dr M sM (nI 0) ki ba ow uu te ma va wa of H locs ls hR hP hD hS (lv_sub hl [0, 1, 2, 3, 4] rfl)
  · skip
    exact absurd rfl c1229
