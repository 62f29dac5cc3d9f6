/-! what the calls answer -/
def kdB (x : Int32) : Bool := decide (x = 0) || decide (x = nI 1)
def cdMk (th kd : Nat → Int32) (x y : Int32) : Nat := if kdB x = true then (if okB th kd y x = true then (if frF th 64 = -1 then 2 else 0) else 1) else 1
def cdDr (th : Nat → Int32) (x : Int32) : Nat := if hsB 64 th x = true then 0 else 1
def cdRb (th kd : Nat → Int32) (x y : Int32) : Nat := if hsB 64 th x = true then (if okB th kd y (kd x.toNatClampNeg) = true then 0 else 2) else 1
def cdOw (th : Nat → Int32) (x y v : Int32) : Nat := if hsB 64 th x = true then (if prB y = true then (if nvB y v = true then 0 else 2) else 2) else 1
def cdVa (th : Nat → Int32) (x y : Int32) : Nat := if hsB 64 th x = true then (if prB y = true then 0 else 2) else 1
def whB (x : Int32) : Bool := decide (x = nI 0) || (decide (x = nI 1) || (decide (x = nI 2) || (decide (x = nI 3) || decide (x = nI 4))))
def cdSt (th : Nat → Int32) (x y : Int32) : Nat := if hsB 64 th x = true then (if whB y = true then 0 else 2) else 1
def cdUs (y v : Int32) : Nat := if prB y = true then (if vlB y v = true then 0 else 1) else 1
def fuB (sth dr : Nat → Int32) (sM : Nat → Nat → Int32) : Bool := decide (ndF sth dr sM = -1) && decide (frF sth 256 = -1)
def cdGe (sth : Nat → Int32) (x y : Int32) : Nat := if hsB 256 sth x = true then (if prB y = true then 0 else 2) else 1
def cdRe (th kd sth : Nat → Int32) (x c q y : Int32) : Nat := if hsB 256 sth x = true then (if okB th kd c (nI 0) = true then (if okB th kd q (nI 1) = true then (if prB y = true then 0 else 2) else 2) else 2) else 1
def cdDi (th kd sth : Nat → Int32) (x y c q : Int32) : Nat := if hsB 256 sth x = true then (if hsB 256 sth y = true then (if okB th kd c (nI 0) = true then (if okB th kd q (nI 1) = true then 0 else 2) else 2) else 1) else 1
def cdMa (sth : Nat → Int32) (x : Int32) : Nat := if hsB 256 sth x = true then 0 else 1
def cdWi (sth : Nat → Int32) (x y v : Int32) (fu : Bool) : Nat := if hsB 256 sth x = true then (if prB y = true then (if nvB y v = true then (if fu = true then 3 else 0) else 2) else 2) else 1
def cdOv (sth : Nat → Int32) (x y : Int32) (fu : Bool) : Nat := if hsB 256 sth x = true then (if hsB 256 sth y = true then (if fu = true then 2 else 0) else 1) else 1
def cdLe (th kd sth : Nat → Int32) (x c q : Int32) (fu : Bool) : Nat := if hsB 256 sth x = true then (if okB th kd c (nI 0) = true then (if okB th kd q (nI 1) = true then (if fu = true then 3 else 0) else 2) else 2) else 1
/-- bases and count of a drop, i styles seen -/
def dbF (th : Nat → Int32) (s0 : Nat) (bs : Nat → Int32) : Nat → (Nat → Int32)
  | 0 => bs
  | i + 1 => if (decide (th i ≠ 0) && decide (dbF th s0 bs i i = nI s0)) = true then upd (dbF th s0 bs i) i (dbF th s0 bs i s0) else dbF th s0 bs i
def dnB (th : Nat → Int32) (s0 : Nat) (bs : Nat → Int32) : Nat → Bool := fun i => decide (th i ≠ 0) && decide (dbF th s0 bs i i = nI s0)
theorem dbF_t {th : Nat → Int32} {s0 : Nat} {bs : Nat → Int32} {i : Nat} (h : dnB th s0 bs i = true) : upd (dbF th s0 bs i) i (dbF th s0 bs i s0) = dbF th s0 bs (i + 1) := by
  simp only [dbF]; rw [if_pos (show (decide (th i ≠ 0) && decide (dbF th s0 bs i i = nI s0)) = true from h)]
theorem dbF_f {th : Nat → Int32} {s0 : Nat} {bs : Nat → Int32} {i : Nat} (h : dnB th s0 bs i = false) : dbF th s0 bs i = dbF th s0 bs (i + 1) := by
  simp only [dbF]; rw [if_neg (by rw [show (decide (th i ≠ 0) && decide (dbF th s0 bs i i = nI s0)) = false from h]; decide)]
/-- the first i of dr are g's -/
def pfF (g dr : Nat → Int32) (i : Nat) : Nat → Int32 := fun p => if p < i then g p else dr p
theorem pfF_0 (g dr : Nat → Int32) : pfF g dr 0 = dr := by funext p; simp [pfF]
theorem pfF_s {g dr : Nat → Int32} {i : Nat} {x : Int32} (h : x = g i) : upd (pfF g dr i) i x = pfF g dr (i + 1) := by
  subst h
  funext p
  by_cases h : p = i
  · simp [upd, pfF, h]
  · by_cases h2 : p < i
    · simp [upd, pfF, h, h2, Nat.lt_succ_of_lt h2]
    · simp [upd, pfF, h, h2, show ¬ p < i + 1 by omega]
def wiG (sM : Nat → Nat → Int32) (j p9 : Nat) (v : Int32) : Nat → Int32 := fun q => if q = p9 then v else sM j q
def ovG (sM : Nat → Nat → Int32) (j j2 : Nat) : Nat → Int32 := fun q => if sM j2 q = -1 then sM j q else sM j2 q
def leG (th bs us : Nat → Int32) (M sM : Nat → Nat → Int32) (j : Nat) (c q9 : Int32) : Nat → Int32 := fun q => if sM j q = rbF th bs us M c q9 q then -1 else sM j q
def swB (sth mk : Nat → Int32) : Nat → Bool := fun a => decide (a ≠ 0) && (decide (sth a ≠ 0) && decide (mk a = 0))
def swT (sth mk : Nat → Int32) (i : Nat) : Nat → Int32 := fun a => if a < i ∧ swB sth mk a = true then nI 0 else sth a
def swM (sth mk : Nat → Int32) (sM : Nat → Nat → Int32) (i : Nat) : Nat → Nat → Int32 := fun a => if a < i ∧ swB sth mk a = true then (fun _ => -1) else sM a
def swK (mk : Nat → Int32) (i : Nat) : Nat → Int32 := fun a => if a < i then nI 0 else mk a
theorem swT_0 (sth mk : Nat → Int32) : swT sth mk 0 = sth := by funext a; simp [swT]
theorem swM_0 (sth mk : Nat → Int32) (sM : Nat → Nat → Int32) : swM sth mk sM 0 = sM := by funext a; simp [swM]
theorem swK_0 (mk : Nat → Int32) : swK mk 0 = mk := by funext a; simp [swK]
theorem sw_lt {P : Prop} {a i : Nat} (h : a ≠ i) : (a < i + 1 ∧ P) ↔ (a < i ∧ P) := ⟨fun q => ⟨by omega, q.2⟩, fun q => ⟨by omega, q.2⟩⟩
theorem swT_t {sth mk : Nat → Int32} {i : Nat} (h : swB sth mk i = true) : upd (swT sth mk i) i (nI 0) = swT sth mk (i + 1) := by
  funext a
  by_cases e : a = i
  · subst e; simp [upd, swT, h]
  · simp only [upd, swT, if_neg e, sw_lt e]
theorem swM_t {sth mk : Nat → Int32} {sM : Nat → Nat → Int32} {i : Nat} (h : swB sth mk i = true) : va_up (swM sth mk sM i) i (fun _ => -1) = swM sth mk sM (i + 1) := by
  funext a
  by_cases e : a = i
  · subst e; simp [va_up, swM, h]
  · simp only [va_up, swM, if_neg e, sw_lt e]
theorem swT_f {sth mk : Nat → Int32} {i : Nat} (h : swB sth mk i = false) : swT sth mk i = swT sth mk (i + 1) := by
  funext a
  by_cases e : a = i
  · subst e; simp [swT, h]
  · simp only [swT, sw_lt e]
theorem swM_f {sth mk : Nat → Int32} {sM : Nat → Nat → Int32} {i : Nat} (h : swB sth mk i = false) : swM sth mk sM i = swM sth mk sM (i + 1) := by
  funext a
  by_cases e : a = i
  · subst e; simp [swM, h]
  · simp only [swM, sw_lt e]
theorem swK_s (mk : Nat → Int32) (i : Nat) : upd (swK mk i) i (nI 0) = swK mk (i + 1) := by
  funext a
  by_cases e : a = i
  · subst e; simp [upd, swK]
  · by_cases h2 : a < i
    · simp [upd, swK, e, h2, Nat.lt_succ_of_lt h2]
    · simp [upd, swK, e, h2, show ¬ a < i + 1 by omega]
theorem swT_at (sth mk : Nat → Int32) (i : Nat) : swT sth mk i i = sth i := by simp [swT]
theorem swK_at (mk : Nat → Int32) (i : Nat) : swK mk i i = mk i := by simp [swK]
theorem sw5 (x : Int32) : x = nI 0 ∨ x = nI 1 ∨ x = nI 2 ∨ x = nI 3 ∨ x = nI 4 ∨ ((x.toInt < 0 ∨ 4 < x.toInt) ∧ whB x = false) := by
  by_cases h0 : x = nI 0
  · exact Or.inl h0
  by_cases h1 : x = nI 1
  · exact Or.inr (Or.inl h1)
  by_cases h2 : x = nI 2
  · exact Or.inr (Or.inr (Or.inl h2))
  by_cases h3 : x = nI 3
  · exact Or.inr (Or.inr (Or.inr (Or.inl h3)))
  by_cases h4 : x = nI 4
  · exact Or.inr (Or.inr (Or.inr (Or.inr (Or.inl h4))))
  refine Or.inr (Or.inr (Or.inr (Or.inr (Or.inr ⟨?_, by simp [whB, h0, h1, h2, h3, h4]⟩))))
  by_cases hn : x < 0
  · left; rw [Int32.lt_iff_toInt_lt] at hn; exact hn
  · right
    obtain ⟨j, hj, rfl⟩ := nI_of hn
    rw [nI_toInt hj]
    have e : ∀ m, nI j ≠ nI m → j ≠ m := fun m h q => h (by rw [q])
    have := e 0 h0; have := e 1 h1; have := e 2 h2; have := e 3 h3; have := e 4 h4
    omega
def obF (th bs : Nat → Int32) (x : Int32) : Nat := cnF (fun i => decide (¬ nI i = x) && ocF th bs x 64 (nI i)) 64
def viF (M : Nat → Nat → Int32) (j : Nat) : Nat := cnF (fun p => decide (M j p ≠ -1)) 24
def stF (th kd bs : Nat → Int32) (M : Nat → Nat → Int32) (j : Nat) (y : Int32) : Int32 :=
  if y = nI 0 then nI (chF th bs 64 (nI j)) else if y = nI 1 then nI (obF th bs (nI j)) else if y = nI 2 then bs j else if y = nI 3 then kd j else nI (viF M j)
def coF (th bs sth : Nat → Int32) (M sM : Nat → Nat → Int32) (y : Int32) : Int32 :=
  if y = nI 0 then nI (cnF (fun i => decide (th i ≠ 0)) 64) else if y = nI 1 then nI (cnF (fun i => decide (sth i ≠ 0)) 256) else if y = nI 2 then nI (smF (fun i => cnF (fun p => decide (M i p ≠ -1)) 24) 64) else if y = nI 3 then nI (smF (fun i => cnF (fun p => decide (sM i p ≠ -1)) 24) 256) else if y = nI 4 then nI (mxF (fun i => chF th bs 64 (nI i)) 64) else -1

set_option maxRecDepth 100000 in
set_option maxHeartbeats 4000000 in
theorem c_make (l : Launch) (D : va_G) (k : Nat → ClassId) (a r t : Nat → Nat) (th kd bs us sth mk dr : Nat → Int32) (M sM : Nat → Nat → Int32) (sa : Nat → Nat) (hl9 : l.stackTraces = false) (x y : Int32) (sz : Nat) : bXI l y_S_make (wY y_S_make b_S_make 4 (some .int)) (rm9 8 2 12) Sts sa D (tsK k) (cxW k a r t th kd bs us sth mk dr M sM) sz [.ref (a 0), .int x, .int y] (fun v w => cdMk th kd x y = 0 ∧ ∃ j : Nat, j < 64 ∧ frF th 64 = nI j ∧ v = nI j ∧ w = cxW k a r t (upd th j (nI 1)) (upd kd j x) (upd bs j y) us sth mk dr M sM) (fun E w => ((E = "java/lang/IllegalArgumentException" ∧ cdMk th kd x y = 1) ∨ (E = "java/lang/IllegalStateException" ∧ cdMk th kd x y = 2)) ∧ w = cxW k a r t th kd bs us sth mk dr M sM) 2 12 := by
  refine ent_xi (cc := b_S_make) (maxL := 4) (ty := .int) (by decide) (Nat.le_of_ble_eq_true rfl) (fun _ _ _ => rfl) ?_
  intro p e s m args below meth c A Q ls hx hb hml hown hts hsz hA hP hD hS hK hl hlk htb hE hQ hret
  refine lv_iload_n hx hb d_S_make_0 rfl (lv_at hl 1 rfl) ?_
  refine lv_if_eq (tgt := 19) hx hb d_S_make_1 (by decide) (fun c1 => ?_) (fun c1 => ?_)
  · skip
    have hkd : kdB x = true := by simp [kdB, c1]
    refine lv_aload_n hx hb d_S_make_19 rfl (lv_at hl 0 rfl) ?_
    refine lv_iload_n hx hb d_S_make_20 rfl (lv_at hl 2 rfl) ?_
    refine lv_iload_n hx hb d_S_make_21 rfl (lv_at hl 1 rfl) ?_
    refine cax_v (wc := cxW k a r t th kd bs us sth mk dr M sM) (wr := []) (vx_runV (As := [.int y, .int x]) (rest := []) ⟨hx, hb, hml, hown, hts⟩ (c_requireNoneOrOfKind l D k a r t th kd bs us sth mk dr M sM sa hl9 y x s.heap.size) (cwV9 2 hts wd_192 wd_189 wd_191 ws_9 wd_1 (by decide) ⟨Nat.le_of_ble_eq_true rfl, Nat.le_of_ble_eq_true rfl⟩) (prVx (q0 := 0) (ci := ciSS) hE hS hA hK hP hD (pm_nil' _) rfl rfl) rfl rfl hl.1 rfl (lv_room (Nat.le_of_ble_eq_true rfl)) d_S_make_22 ⟨by decide, by decide⟩) (pm_nil' _) hP hD hS hA (fun E9 ce9 ad9 w1 H locs hpx hpd hS hce hcv hcl => ?_) (fun w1 H locs hw hpd hS => ?_)
    · skip
      obtain ⟨rfl, h9, rfl⟩ := hpx
      obtain ⟨hP, hD⟩ := hpd (cxW k a r t th kd bs us sth mk dr M sM) (pm_nil _)
      exact ps_x hQ hlk htb ⟨Or.inl ⟨rfl, by simp [cdMk, hkd, h9]⟩, rfl⟩ hP hD hS hce hcv hcl (by decide) (by decide)
    obtain ⟨rfl, ho⟩ := hw
    obtain ⟨hP, hD⟩ := hpd (cxW k a r t th kd bs us sth mk dr M sM) (pm_nil _)
    refine W.widen (k := 1) (n := 6) (by decide) (by decide) ?_
    refine lv_aload_n hx hb d_S_make_25 rfl (lv_at hl 0 rfl) ?_
    refine va_get (D := D) (ci := ciSS) (v := .ref (a 1)) (C := RS) (T := TS) (N := 7) hx hb hts inS hown hK.1 hP 0 rfl rfl 0 (by decide) (hts _ wd_46) (fun _ h9 => h9) rfl d_S_make_26 ?_
    obtain ⟨wr, hwr⟩ := cx_S (k := k) (a := a) (r := r) (t := t) (kd := kd) (bs := bs) (us := us) (sth := sth) (mk := mk) (dr := dr) (M := M) (sM := sM)
    refine cal_i (wc := tbF k (a 1) (a 8) (a 9) r 64 th) (wr := wr) (va_runVN (As := []) (rest := []) ⟨hx, hb, hml, hown, hts⟩ (c_leastFree l D k (a 1) (a 8) (a 9) r 64 (by decide) th  H.size) (cwN9 0 hts wd_197 (hK.2.1 (.methodLinkNest "StyleSheet" 52 ⟨"StyleSheet$Table", "leastFree", "()I"⟩ "StyleSheet") (by decide)) wd_196 ws_10 wd_2 (by decide) ⟨Nat.le_of_ble_eq_true rfl, Nat.le_of_ble_eq_true rfl⟩) (prV (q0 := 0) (ci := ciTb) hK hP hD (hwr _) rfl rfl) rfl rfl hl.1 rfl (lv_room (Nat.le_of_ble_eq_true rfl)) d_S_make_29 ⟨by decide, by decide⟩) (hwr _) hP hD hS hA (fun r w1 H locs hw hpd hS => ?_)
    obtain ⟨rfl, rfl⟩ := hw
    rw [show fdF (fun i => decide (th i = 0)) 64 0 = frF th 64 from rfl]
    obtain ⟨hP, hD⟩ := hpd (cxW k a r t th kd bs us sth mk dr M sM) (hwr _).symm
    refine lv_istore_n (lv' := [(3, .int (frF th 64)), (0, .ref (a 0)), (1, .int x), (2, .int y)]) hx hb d_S_make_32 rfl hl (by decide) rfl (fun ls hl => ?_)
    refine lv_iload_n hx hb d_S_make_33 rfl (lv_at hl 0 rfl) ?_
    refine lv_iconst (v := -1) hx hb d_S_make_34 (by decide) ?_
    refine lv_icmp_ne (tgt := 48) hx hb d_S_make_35 (by decide) (fun c35 => ?_) (fun c35 => ?_)
    · skip
      rcases fdF_in (f := fun i => decide (th i = 0)) 64 0 with hg | ⟨j, -, hj, hg, hj0⟩
      · exact absurd hg c35
      have hj : j < 64 := by omega
      rw [show frF th 64 = nI j from hg] at hl
      refine lv_aload_n hx hb d_S_make_48 rfl (lv_at hl 1 rfl) ?_
      refine va_get (D := D) (ci := ciSS) (v := .ref (a 1)) (C := RS) (T := TS) (N := 7) hx hb hts inS hown hK.1 hP 0 rfl rfl 0 (by decide) (hts _ wd_46) (fun _ h9 => h9) rfl d_S_make_49 ?_
      refine lv_iload_n hx hb d_S_make_52 rfl (lv_at hl 0 rfl) ?_
      obtain ⟨wr, hwr⟩ := cx_S (k := k) (a := a) (r := r) (t := t) (kd := kd) (bs := bs) (us := us) (sth := sth) (mk := mk) (dr := dr) (M := M) (sM := sM)
      refine cal_v (wc := tbF k (a 1) (a 8) (a 9) r 64 th) (wr := wr) (va_runVN (As := [.int (nI j)]) (rest := []) ⟨hx, hb, hml, hown, hts⟩ (c_add l D k (a 1) (a 8) (a 9) r 64 (by decide) th j hj H.size) (cwN9 1 hts wd_45 (hK.2.1 (.methodLinkNest "StyleSheet" 31 ⟨"StyleSheet$Table", "add", "(I)V"⟩ "StyleSheet") (by decide)) wd_44 ws_0 wd_2 (by decide) ⟨Nat.le_of_ble_eq_true rfl, Nat.le_of_ble_eq_true rfl⟩) (prV (q0 := 0) (ci := ciTb) hK hP hD (hwr _) rfl rfl) rfl rfl hl.1 rfl (lv_room (Nat.le_of_ble_eq_true rfl)) d_S_make_53 ⟨by decide, by decide⟩) (hwr _) hP hD hS hA (fun w1 H locs hw hpd hS => ?_)
      subst hw
      obtain ⟨hP, hD⟩ := hpd (cxW k a r t (upd th j (nI 1)) kd bs us sth mk dr M sM) (hwr _).symm
      refine lv_aload_n hx hb d_S_make_56 rfl (lv_at hl 1 rfl) ?_
      refine va_get (D := D) (ci := ciSS) (v := .ref (a 2)) (C := RS) (T := TS) (N := 7) hx hb hts inS hown hK.1 hP 0 rfl rfl 1 (by decide) (hts _ wd_47) (fun _ h9 => h9) rfl d_S_make_57 ?_
      refine lv_iload_n hx hb d_S_make_60 rfl (lv_at hl 0 rfl) ?_
      refine lv_iload_n hx hb d_S_make_61 rfl (lv_at hl 2 rfl) ?_
      refine rw_iast hx hb hK.1 hP hD hS 2 0 rfl rfl (j := j) (by omega) (by decide) d_S_make_62 (wn := cxW k a r t (upd th j (nI 1)) (upd kd j x) bs us sth mk dr M sM) rfl (fun H locs hP hD hS => ?_)
      refine lv_aload_n hx hb d_S_make_63 rfl (lv_at hl 1 rfl) ?_
      refine va_get (D := D) (ci := ciSS) (v := .ref (a 3)) (C := RS) (T := TS) (N := 7) hx hb hts inS hown hK.1 hP 0 rfl rfl 2 (by decide) (hts _ wd_48) (fun _ h9 => h9) rfl d_S_make_64 ?_
      refine lv_iload_n hx hb d_S_make_67 rfl (lv_at hl 0 rfl) ?_
      refine lv_iload_n hx hb d_S_make_68 rfl (lv_at hl 3 rfl) ?_
      refine rw_iast hx hb hK.1 hP hD hS 3 0 rfl rfl (j := j) (by omega) (by decide) d_S_make_69 (wn := cxW k a r t (upd th j (nI 1)) (upd kd j x) (upd bs j y) us sth mk dr M sM) rfl (fun H locs hP hD hS => ?_)
      refine lv_iload_n hx hb d_S_make_70 rfl (lv_at hl 0 rfl) ?_
      exact hret _ _ _ _ _ _ _ _ d_S_make_71 ⟨by simp [cdMk, hkd, ho, c35], j, hj, hg, rfl, rfl⟩ hP hD hS (by decide) (by decide)
    · skip
      exact th_S hQ hx hb hl9 hlk htb hown (by decide) xn_fit (hts _ wd_198) (hts _ wd_9) (xa_S hts hK.2.1) (xg_S 56) hE 2 rfl ⟨Or.inr (⟨rfl, by simp [cdMk, hkd, ho, c35]⟩), rfl⟩ hP hD hS (hl.1.trans hml.symm) d_S_make_38 d_S_make_41 d_S_make_42 d_S_make_44 d_S_make_47 (by decide) (by decide) (by decide) (by decide) (by decide) (by decide)
  · skip
    refine lv_iload_n hx hb d_S_make_4 rfl (lv_at hl 1 rfl) ?_
    refine lv_iconst (v := nI 1) hx hb d_S_make_5 (by decide) ?_
    refine lv_icmp_eq (tgt := 19) hx hb d_S_make_6 (by decide) (fun c6 => ?_) (fun c6 => ?_)
    · skip
      have hkd : kdB x = true := by simp [kdB, c6]
      refine lv_aload_n hx hb d_S_make_19 rfl (lv_at hl 0 rfl) ?_
      refine lv_iload_n hx hb d_S_make_20 rfl (lv_at hl 2 rfl) ?_
      refine lv_iload_n hx hb d_S_make_21 rfl (lv_at hl 1 rfl) ?_
      refine cax_v (wc := cxW k a r t th kd bs us sth mk dr M sM) (wr := []) (vx_runV (As := [.int y, .int x]) (rest := []) ⟨hx, hb, hml, hown, hts⟩ (c_requireNoneOrOfKind l D k a r t th kd bs us sth mk dr M sM sa hl9 y x s.heap.size) (cwV9 2 hts wd_192 wd_189 wd_191 ws_9 wd_1 (by decide) ⟨Nat.le_of_ble_eq_true rfl, Nat.le_of_ble_eq_true rfl⟩) (prVx (q0 := 0) (ci := ciSS) hE hS hA hK hP hD (pm_nil' _) rfl rfl) rfl rfl hl.1 rfl (lv_room (Nat.le_of_ble_eq_true rfl)) d_S_make_22 ⟨by decide, by decide⟩) (pm_nil' _) hP hD hS hA (fun E9 ce9 ad9 w1 H locs hpx hpd hS hce hcv hcl => ?_) (fun w1 H locs hw hpd hS => ?_)
      · skip
        obtain ⟨rfl, h9, rfl⟩ := hpx
        obtain ⟨hP, hD⟩ := hpd (cxW k a r t th kd bs us sth mk dr M sM) (pm_nil _)
        exact ps_x hQ hlk htb ⟨Or.inl ⟨rfl, by simp [cdMk, hkd, h9]⟩, rfl⟩ hP hD hS hce hcv hcl (by decide) (by decide)
      obtain ⟨rfl, ho⟩ := hw
      obtain ⟨hP, hD⟩ := hpd (cxW k a r t th kd bs us sth mk dr M sM) (pm_nil _)
      refine W.widen (k := 1) (n := 6) (by decide) (by decide) ?_
      refine lv_aload_n hx hb d_S_make_25 rfl (lv_at hl 0 rfl) ?_
      refine va_get (D := D) (ci := ciSS) (v := .ref (a 1)) (C := RS) (T := TS) (N := 7) hx hb hts inS hown hK.1 hP 0 rfl rfl 0 (by decide) (hts _ wd_46) (fun _ h9 => h9) rfl d_S_make_26 ?_
      obtain ⟨wr, hwr⟩ := cx_S (k := k) (a := a) (r := r) (t := t) (kd := kd) (bs := bs) (us := us) (sth := sth) (mk := mk) (dr := dr) (M := M) (sM := sM)
      refine cal_i (wc := tbF k (a 1) (a 8) (a 9) r 64 th) (wr := wr) (va_runVN (As := []) (rest := []) ⟨hx, hb, hml, hown, hts⟩ (c_leastFree l D k (a 1) (a 8) (a 9) r 64 (by decide) th  H.size) (cwN9 0 hts wd_197 (hK.2.1 (.methodLinkNest "StyleSheet" 52 ⟨"StyleSheet$Table", "leastFree", "()I"⟩ "StyleSheet") (by decide)) wd_196 ws_10 wd_2 (by decide) ⟨Nat.le_of_ble_eq_true rfl, Nat.le_of_ble_eq_true rfl⟩) (prV (q0 := 0) (ci := ciTb) hK hP hD (hwr _) rfl rfl) rfl rfl hl.1 rfl (lv_room (Nat.le_of_ble_eq_true rfl)) d_S_make_29 ⟨by decide, by decide⟩) (hwr _) hP hD hS hA (fun r w1 H locs hw hpd hS => ?_)
      obtain ⟨rfl, rfl⟩ := hw
      rw [show fdF (fun i => decide (th i = 0)) 64 0 = frF th 64 from rfl]
      obtain ⟨hP, hD⟩ := hpd (cxW k a r t th kd bs us sth mk dr M sM) (hwr _).symm
      refine lv_istore_n (lv' := [(3, .int (frF th 64)), (0, .ref (a 0)), (1, .int x), (2, .int y)]) hx hb d_S_make_32 rfl hl (by decide) rfl (fun ls hl => ?_)
      refine lv_iload_n hx hb d_S_make_33 rfl (lv_at hl 0 rfl) ?_
      refine lv_iconst (v := -1) hx hb d_S_make_34 (by decide) ?_
      refine lv_icmp_ne (tgt := 48) hx hb d_S_make_35 (by decide) (fun c35 => ?_) (fun c35 => ?_)
      · skip
        rcases fdF_in (f := fun i => decide (th i = 0)) 64 0 with hg | ⟨j, -, hj, hg, hj0⟩
        · exact absurd hg c35
        have hj : j < 64 := by omega
        rw [show frF th 64 = nI j from hg] at hl
        refine lv_aload_n hx hb d_S_make_48 rfl (lv_at hl 1 rfl) ?_
        refine va_get (D := D) (ci := ciSS) (v := .ref (a 1)) (C := RS) (T := TS) (N := 7) hx hb hts inS hown hK.1 hP 0 rfl rfl 0 (by decide) (hts _ wd_46) (fun _ h9 => h9) rfl d_S_make_49 ?_
        refine lv_iload_n hx hb d_S_make_52 rfl (lv_at hl 0 rfl) ?_
        obtain ⟨wr, hwr⟩ := cx_S (k := k) (a := a) (r := r) (t := t) (kd := kd) (bs := bs) (us := us) (sth := sth) (mk := mk) (dr := dr) (M := M) (sM := sM)
        refine cal_v (wc := tbF k (a 1) (a 8) (a 9) r 64 th) (wr := wr) (va_runVN (As := [.int (nI j)]) (rest := []) ⟨hx, hb, hml, hown, hts⟩ (c_add l D k (a 1) (a 8) (a 9) r 64 (by decide) th j hj H.size) (cwN9 1 hts wd_45 (hK.2.1 (.methodLinkNest "StyleSheet" 31 ⟨"StyleSheet$Table", "add", "(I)V"⟩ "StyleSheet") (by decide)) wd_44 ws_0 wd_2 (by decide) ⟨Nat.le_of_ble_eq_true rfl, Nat.le_of_ble_eq_true rfl⟩) (prV (q0 := 0) (ci := ciTb) hK hP hD (hwr _) rfl rfl) rfl rfl hl.1 rfl (lv_room (Nat.le_of_ble_eq_true rfl)) d_S_make_53 ⟨by decide, by decide⟩) (hwr _) hP hD hS hA (fun w1 H locs hw hpd hS => ?_)
        subst hw
        obtain ⟨hP, hD⟩ := hpd (cxW k a r t (upd th j (nI 1)) kd bs us sth mk dr M sM) (hwr _).symm
        refine lv_aload_n hx hb d_S_make_56 rfl (lv_at hl 1 rfl) ?_
        refine va_get (D := D) (ci := ciSS) (v := .ref (a 2)) (C := RS) (T := TS) (N := 7) hx hb hts inS hown hK.1 hP 0 rfl rfl 1 (by decide) (hts _ wd_47) (fun _ h9 => h9) rfl d_S_make_57 ?_
        refine lv_iload_n hx hb d_S_make_60 rfl (lv_at hl 0 rfl) ?_
        refine lv_iload_n hx hb d_S_make_61 rfl (lv_at hl 2 rfl) ?_
        refine rw_iast hx hb hK.1 hP hD hS 2 0 rfl rfl (j := j) (by omega) (by decide) d_S_make_62 (wn := cxW k a r t (upd th j (nI 1)) (upd kd j x) bs us sth mk dr M sM) rfl (fun H locs hP hD hS => ?_)
        refine lv_aload_n hx hb d_S_make_63 rfl (lv_at hl 1 rfl) ?_
        refine va_get (D := D) (ci := ciSS) (v := .ref (a 3)) (C := RS) (T := TS) (N := 7) hx hb hts inS hown hK.1 hP 0 rfl rfl 2 (by decide) (hts _ wd_48) (fun _ h9 => h9) rfl d_S_make_64 ?_
        refine lv_iload_n hx hb d_S_make_67 rfl (lv_at hl 0 rfl) ?_
        refine lv_iload_n hx hb d_S_make_68 rfl (lv_at hl 3 rfl) ?_
        refine rw_iast hx hb hK.1 hP hD hS 3 0 rfl rfl (j := j) (by omega) (by decide) d_S_make_69 (wn := cxW k a r t (upd th j (nI 1)) (upd kd j x) (upd bs j y) us sth mk dr M sM) rfl (fun H locs hP hD hS => ?_)
        refine lv_iload_n hx hb d_S_make_70 rfl (lv_at hl 0 rfl) ?_
        exact hret _ _ _ _ _ _ _ _ d_S_make_71 ⟨by simp [cdMk, hkd, ho, c35], j, hj, hg, rfl, rfl⟩ hP hD hS (by decide) (by decide)
      · skip
        exact th_S hQ hx hb hl9 hlk htb hown (by decide) xn_fit (hts _ wd_198) (hts _ wd_9) (xa_S hts hK.2.1) (xg_S 56) hE 2 rfl ⟨Or.inr (⟨rfl, by simp [cdMk, hkd, ho, c35]⟩), rfl⟩ hP hD hS (hl.1.trans hml.symm) d_S_make_38 d_S_make_41 d_S_make_42 d_S_make_44 d_S_make_47 (by decide) (by decide) (by decide) (by decide) (by decide) (by decide)
    · skip
      exact th_S hQ hx hb hl9 hlk htb hown (by decide) xn_fit (hts _ wd_121) (hts _ wd_8) (xa_I hts hK.2.1) (xg_I 41) hE 0 rfl ⟨Or.inl ⟨rfl, by simp [cdMk, kdB, c1, c6]⟩, rfl⟩ hP hD hS (hl.1.trans hml.symm) d_S_make_9 d_S_make_12 d_S_make_13 d_S_make_15 d_S_make_18 (by decide) (by decide) (by decide) (by decide) (by decide) (by decide)

set_option maxRecDepth 100000 in
set_option maxHeartbeats 4000000 in
theorem c_drop (l : Launch) (D : va_G) (k : Nat → ClassId) (a r t : Nat → Nat) (th kd bs us sth mk dr : Nat → Int32) (M sM : Nat → Nat → Int32) (sa : Nat → Nat) (hl9 : l.stackTraces = false) (x : Int32) (sz : Nat) : bXI l y_S_drop (wY y_S_drop b_S_drop 4 (some .int)) (rm9 8 1 6) Sts sa D (tsK k) (cxW k a r t th kd bs us sth mk dr M sM) sz [.ref (a 0), .int x] (fun v w => ∃ s0 : Nat, s0 < 64 ∧ x = nI s0 ∧ hsB 64 th (nI s0) = true ∧ v = nI (cnF (dnB th s0 bs) 64) ∧ w = cxW k a r t (upd th s0 (nI 0)) kd (dbF th s0 bs 64) us sth mk dr (va_up M s0 (fun _ => -1)) sM) (fun E w => ((E = "java/util/NoSuchElementException" ∧ cdDr th x = 1)) ∧ w = cxW k a r t th kd bs us sth mk dr M sM) 1 6 := by
  refine ent_xi (cc := b_S_drop) (maxL := 4) (ty := .int) (by decide) (Nat.le_of_ble_eq_true rfl) (fun _ _ _ => rfl) ?_
  intro p e s m args below meth c A Q ls hx hb hml hown hts hsz hA hP hD hS hK hl hlk htb hE hQ hret
  refine lv_aload_n hx hb d_S_drop_0 rfl (lv_at hl 0 rfl) ?_
  refine lv_iload_n hx hb d_S_drop_1 rfl (lv_at hl 1 rfl) ?_
  refine cax_v (wc := cxW k a r t th kd bs us sth mk dr M sM) (wr := []) (vx_runV (As := [.int x]) (rest := []) ⟨hx, hb, hml, hown, hts⟩ (c_requireStyle l D k a r t th kd bs us sth mk dr M sM sa hl9 x s.heap.size) (cwV9 1 hts wd_225 wd_222 wd_224 ws_11 wd_1 (by decide) ⟨Nat.le_of_ble_eq_true rfl, Nat.le_of_ble_eq_true rfl⟩) (prVx (q0 := 0) (ci := ciSS) hE hS hA hK hP hD (pm_nil' _) rfl rfl) rfl rfl hl.1 rfl (lv_room (Nat.le_of_ble_eq_true rfl)) d_S_drop_2 ⟨by decide, by decide⟩) (pm_nil' _) hP hD hS hA (fun E9 ce9 ad9 w1 H locs hpx hpd hS hce hcv hcl => ?_) (fun w1 H locs hw hpd hS => ?_)
  · skip
    obtain ⟨rfl, h9, rfl⟩ := hpx
    obtain ⟨hP, hD⟩ := hpd (cxW k a r t th kd bs us sth mk dr M sM) (pm_nil _)
    exact ps_x hQ hlk htb ⟨⟨rfl, by simp [cdDr, h9]⟩, rfl⟩ hP hD hS hce hcv hcl (by decide) (by decide)
  obtain ⟨rfl, hq⟩ := hw
  obtain ⟨hP, hD⟩ := hpd (cxW k a r t th kd bs us sth mk dr M sM) (pm_nil _)
  refine W.widen (k := 1) (n := 6) (by decide) (by decide) ?_
  obtain ⟨s0, hs0, rfl, hqt⟩ := hsB_t (by decide) hq
  refine lv_iconst (v := nI 0) hx hb d_S_drop_5 (by decide) ?_
  refine lv_istore_n (lv' := [(2, .int (nI 0)), (0, .ref (a 0)), (1, .int (nI s0))]) hx hb d_S_drop_6 rfl hl (by decide) rfl (fun ls hl => ?_)
  refine lv_iconst (v := nI 0) hx hb d_S_drop_7 (by decide) ?_
  refine lv_istore_n (lv' := [(3, .int (nI 0)), (2, .int (nI 0)), (0, .ref (a 0)), (1, .int (nI s0))]) hx hb d_S_drop_8 rfl hl (by decide) rfl (fun ls hl => ?_)
  have lp : ∀ (n9 : Nat) (i : Nat) (ls : Array Slot) (H : Heap) (locs : List Loc), 64 - i < n9 → (i ≤ 64) → va_P D vwCl (cxW k a r t th kd (dbF th s0 bs i) us sth mk dr M sM) H → va_D A (cxW k a r t th kd (dbF th s0 bs i) us sth mk dr M sM) → va_S A s.heap H locs → lv_has ls 4 [(0, .ref (a 0)), (1, .int (nI s0)), (2, .int (nI (cnF (dnB th s0 bs) i))), (3, .int (nI i))] → W p l e (rm9 8 1 6) s m args below meth c H locs 1 6 Q (F0 m 9 ls []) := by
    intro n9
    induction n9 with
    | zero => intro i ls H locs hm; omega
    | succ n9 ih =>
      intro i ls H locs hm hi hP hD hS hl
      refine lv_iload_n hx hb d_S_drop_9 rfl (lv_at hl 3 rfl) ?_
      refine lv_bipush (v := nI 64) hx hb d_S_drop_10 (by decide) ?_
      refine lv_icmp_ge (tgt := 57) hx hb d_S_drop_12 (by decide) (fun c12 => ?_) (fun c12 => ?_)
      · skip
        rw [nI_leI (by omega) (by omega)] at c12
        obtain rfl : i = 64 := by omega
        refine lv_aload_n hx hb d_S_drop_57 rfl (lv_at hl 0 rfl) ?_
        refine va_get (D := D) (ci := ciSS) (v := .ref (a 1)) (C := RS) (T := TS) (N := 7) hx hb hts inS hown hK.1 hP 0 rfl rfl 0 (by decide) (hts _ wd_46) (fun _ h9 => h9) rfl d_S_drop_58 ?_
        refine lv_iload_n hx hb d_S_drop_61 rfl (lv_at hl 1 rfl) ?_
        obtain ⟨wr, hwr⟩ := cx_SW (k := k) (a := a) (r := r) (t := t) (kd := kd) (bs := dbF th s0 bs 64) (us := us) (sth := sth) (mk := mk) (dr := dr) (sM := sM)
        refine cal_v (wc := tbW k (a 1) (a 8) (a 9) r 64 th M) (wr := wr) (va_runVN (As := [.int (nI s0)]) (rest := []) ⟨hx, hb, hml, hown, hts⟩ (c_remove l D k (a 1) (a 8) (a 9) r 64 (by decide) th M s0 hs0 H.size) (cwN9 1 hts wd_87 (hK.2.1 (.methodLinkNest "StyleSheet" 68 ⟨"StyleSheet$Table", "remove", "(I)V"⟩ "StyleSheet") (by decide)) wd_86 ws_3 wd_2 (by decide) ⟨Nat.le_of_ble_eq_true rfl, Nat.le_of_ble_eq_true rfl⟩) (prV (q0 := 0) (ci := ciTb) hK hP hD (hwr _ _) rfl rfl) rfl rfl hl.1 rfl (lv_room (Nat.le_of_ble_eq_true rfl)) d_S_drop_62 ⟨by decide, by decide⟩) (hwr _ _) hP hD hS hA (fun w1 H locs hw hpd hS => ?_)
        subst hw
        obtain ⟨hP, hD⟩ := hpd (cxW k a r t (upd th s0 (nI 0)) kd (dbF th s0 bs 64) us sth mk dr (va_up M s0 (fun _ => -1)) sM) (hwr _ _).symm
        refine lv_iload_n hx hb d_S_drop_65 rfl (lv_at hl 2 rfl) ?_
        exact hret _ _ _ _ _ _ _ _ d_S_drop_66 ⟨s0, hs0, rfl, hq, rfl, rfl⟩ hP hD hS (by decide) (by decide)
      · skip
        rw [nI_leI (by omega) (by omega)] at c12
        refine lv_aload_n hx hb d_S_drop_15 rfl (lv_at hl 0 rfl) ?_
        refine va_get (D := D) (ci := ciSS) (v := .ref (a 1)) (C := RS) (T := TS) (N := 7) hx hb hts inS hown hK.1 hP 0 rfl rfl 0 (by decide) (hts _ wd_46) (fun _ h9 => h9) rfl d_S_drop_16 ?_
        refine lv_iload_n hx hb d_S_drop_19 rfl (lv_at hl 3 rfl) ?_
        obtain ⟨wr, hwr⟩ := cx_S (k := k) (a := a) (r := r) (t := t) (kd := kd) (bs := dbF th s0 bs i) (us := us) (sth := sth) (mk := mk) (dr := dr) (M := M) (sM := sM)
        refine cal_i (wc := tbF k (a 1) (a 8) (a 9) r 64 th) (wr := wr) (va_runVN (As := [.int (nI i)]) (rest := []) ⟨hx, hb, hml, hown, hts⟩ (c_has l D k (a 1) (a 8) (a 9) r 64 (by decide) th (nI i) H.size) (cwN9 1 hts wd_75 (hK.2.1 (.methodLinkNest "StyleSheet" 64 ⟨"StyleSheet$Table", "has", "(I)Z"⟩ "StyleSheet") (by decide)) wd_74 ws_1 wd_2 (by decide) ⟨Nat.le_of_ble_eq_true rfl, Nat.le_of_ble_eq_true rfl⟩) (prV (q0 := 0) (ci := ciTb) hK hP hD (hwr _) rfl rfl) rfl rfl hl.1 rfl (lv_room (Nat.le_of_ble_eq_true rfl)) d_S_drop_20 ⟨by decide, by decide⟩) (hwr _) hP hD hS hA (fun r w1 H locs hw hpd hS => ?_)
        obtain ⟨rfl, rfl⟩ := hw
        obtain ⟨hP, hD⟩ := hpd (cxW k a r t th kd (dbF th s0 bs i) us sth mk dr M sM) (hwr _).symm
        refine lv_if_eq (tgt := 51) hx hb d_S_drop_23 (by decide) (fun c23 => ?_) (fun c23 => ?_)
        · skip
          have c23 := b_of0 c23
          rw [hsB_nI (by omega) (by decide)] at c23
          have c23 := of_decide_eq_false c23
          have hdn : dnB th s0 bs i = false := by simp [dnB, c23]
          rw [dbF_f hdn] at hP hD
          rw [cnF_f hdn] at hl
          refine lv_iinc (v := nI (i + 1)) (lv' := [(3, .int (nI (i + 1))), (0, .ref (a 0)), (1, .int (nI s0)), (2, .int (nI (cnF (dnB th s0 bs) (i + 1))))]) hx hb d_S_drop_51 hl (k := 3) rfl (ii_1 _) (by decide) rfl (fun ls hl => ?_)
          refine lv_goto (tgt := 9) hx hb d_S_drop_54 (by decide) ?_
          exact ih (i + 1) ls H locs (by omega) (by omega) hP hD hS (lv_sub hl [1, 2, 3, 0] rfl)
        · skip
          have c23 := b_of1 c23
          rw [hsB_nI (by omega) (by decide)] at c23
          have c23 := of_decide_eq_true c23
          refine lv_aload_n hx hb d_S_drop_26 rfl (lv_at hl 0 rfl) ?_
          refine va_get (D := D) (ci := ciSS) (v := .ref (a 3)) (C := RS) (T := TS) (N := 7) hx hb hts inS hown hK.1 hP 0 rfl rfl 2 (by decide) (hts _ wd_48) (fun _ h9 => h9) rfl d_S_drop_27 ?_
          refine lv_iload_n hx hb d_S_drop_30 rfl (lv_at hl 3 rfl) ?_
          refine rw_iald hx hb hK.1 hP 3 0 rfl rfl (j := i) (by omega) (by decide) d_S_drop_31 ?_
          refine lv_iload_n hx hb d_S_drop_32 rfl (lv_at hl 1 rfl) ?_
          refine lv_icmp_ne (tgt := 51) hx hb d_S_drop_33 (by decide) (fun c33 => ?_) (fun c33 => ?_)
          · skip
            have hdn : dnB th s0 bs i = false := by simp [dnB, c33]
            rw [dbF_f hdn] at hP hD
            rw [cnF_f hdn] at hl
            refine lv_iinc (v := nI (i + 1)) (lv' := [(3, .int (nI (i + 1))), (0, .ref (a 0)), (1, .int (nI s0)), (2, .int (nI (cnF (dnB th s0 bs) (i + 1))))]) hx hb d_S_drop_51 hl (k := 3) rfl (ii_1 _) (by decide) rfl (fun ls hl => ?_)
            refine lv_goto (tgt := 9) hx hb d_S_drop_54 (by decide) ?_
            exact ih (i + 1) ls H locs (by omega) (by omega) hP hD hS (lv_sub hl [1, 2, 3, 0] rfl)
          · skip
            refine lv_aload_n hx hb d_S_drop_36 rfl (lv_at hl 0 rfl) ?_
            refine va_get (D := D) (ci := ciSS) (v := .ref (a 3)) (C := RS) (T := TS) (N := 7) hx hb hts inS hown hK.1 hP 0 rfl rfl 2 (by decide) (hts _ wd_48) (fun _ h9 => h9) rfl d_S_drop_37 ?_
            refine lv_iload_n hx hb d_S_drop_40 rfl (lv_at hl 3 rfl) ?_
            refine lv_aload_n hx hb d_S_drop_41 rfl (lv_at hl 0 rfl) ?_
            refine va_get (D := D) (ci := ciSS) (v := .ref (a 3)) (C := RS) (T := TS) (N := 7) hx hb hts inS hown hK.1 hP 0 rfl rfl 2 (by decide) (hts _ wd_48) (fun _ h9 => h9) rfl d_S_drop_42 ?_
            refine lv_iload_n hx hb d_S_drop_45 rfl (lv_at hl 1 rfl) ?_
            refine rw_iald hx hb hK.1 hP 3 0 rfl rfl (j := s0) (by omega) (by decide) d_S_drop_46 ?_
            refine rw_iast hx hb hK.1 hP hD hS 3 0 rfl rfl (j := i) (by omega) (by decide) d_S_drop_47 (wn := cxW k a r t th kd (upd (dbF th s0 bs i) i ((dbF th s0 bs i) s0)) us sth mk dr M sM) rfl (fun H locs hP hD hS => ?_)
            refine lv_iinc (v := nI ((cnF (dnB th s0 bs) i) + 1)) (lv' := [(2, .int (nI ((cnF (dnB th s0 bs) i) + 1))), (0, .ref (a 0)), (1, .int (nI s0)), (3, .int (nI i))]) hx hb d_S_drop_48 hl (k := 2) rfl (ii_1 _) (by decide) rfl (fun ls hl => ?_)
            have hdn : dnB th s0 bs i = true := by simp [dnB, c23, c33]
            rw [dbF_t hdn] at hP hD
            rw [cnF_t hdn] at hl
            refine lv_iinc (v := nI (i + 1)) (lv' := [(3, .int (nI (i + 1))), (2, .int (nI (cnF (dnB th s0 bs) (i + 1)))), (0, .ref (a 0)), (1, .int (nI s0))]) hx hb d_S_drop_51 hl (k := 3) rfl (ii_1 _) (by decide) rfl (fun ls hl => ?_)
            refine lv_goto (tgt := 9) hx hb d_S_drop_54 (by decide) ?_
            exact ih (i + 1) ls H locs (by omega) (by omega) hP hD hS (lv_sub hl [2, 3, 1, 0] rfl)
  exact lp _ (0) ls H locs (Nat.lt_succ_self _) (by decide) hP hD hS (lv_sub hl [2, 3, 1, 0] rfl)

set_option maxRecDepth 100000 in
set_option maxHeartbeats 4000000 in
theorem c_rebase (l : Launch) (D : va_G) (k : Nat → ClassId) (a r t : Nat → Nat) (th kd bs us sth mk dr : Nat → Int32) (M sM : Nat → Nat → Int32) (sa : Nat → Nat) (hl9 : l.stackTraces = false) (x y : Int32) (sz : Nat) : bXI l y_S_rebase (wY y_S_rebase b_S_rebase 3 (some .boolean)) (rm9 8 2 12) Sts sa D (tsK k) (cxW k a r t th kd bs us sth mk dr M sM) sz [.ref (a 0), .int x, .int y] (fun v w => ∃ s0 : Nat, s0 < 64 ∧ x = nI s0 ∧ hsB 64 th (nI s0) = true ∧ okB th kd y (kd s0) = true ∧ ((ocF th bs (nI s0) 64 y = true ∧ v = nI 0 ∧ w = cxW k a r t th kd bs us sth mk dr M sM) ∨ (ocF th bs (nI s0) 64 y = false ∧ v = nI 1 ∧ w = cxW k a r t th kd (upd bs s0 y) us sth mk dr M sM))) (fun E w => ((E = "java/util/NoSuchElementException" ∧ cdRb th kd x y = 1) ∨ (E = "java/lang/IllegalArgumentException" ∧ cdRb th kd x y = 2)) ∧ w = cxW k a r t th kd bs us sth mk dr M sM) 2 12 := by
  refine ent_xi (cc := b_S_rebase) (maxL := 3) (ty := .boolean) (by decide) (Nat.le_of_ble_eq_true rfl) (fun v w h => by obtain ⟨_, _, _, _, _, h | h⟩ := h <;> rw [h.2.1] <;> rfl) ?_
  intro p e s m args below meth c A Q ls hx hb hml hown hts hsz hA hP hD hS hK hl hlk htb hE hQ hret
  refine lv_aload_n hx hb d_S_rebase_0 rfl (lv_at hl 0 rfl) ?_
  refine lv_iload_n hx hb d_S_rebase_1 rfl (lv_at hl 1 rfl) ?_
  refine cax_v (wc := cxW k a r t th kd bs us sth mk dr M sM) (wr := []) (vx_runV (As := [.int x]) (rest := []) ⟨hx, hb, hml, hown, hts⟩ (c_requireStyle l D k a r t th kd bs us sth mk dr M sM sa hl9 x s.heap.size) (cwV9 1 hts wd_225 wd_222 wd_224 ws_11 wd_1 (by decide) ⟨Nat.le_of_ble_eq_true rfl, Nat.le_of_ble_eq_true rfl⟩) (prVx (q0 := 0) (ci := ciSS) hE hS hA hK hP hD (pm_nil' _) rfl rfl) rfl rfl hl.1 rfl (lv_room (Nat.le_of_ble_eq_true rfl)) d_S_rebase_2 ⟨by decide, by decide⟩) (pm_nil' _) hP hD hS hA (fun E9 ce9 ad9 w1 H locs hpx hpd hS hce hcv hcl => ?_) (fun w1 H locs hw hpd hS => ?_)
  · skip
    obtain ⟨rfl, h9, rfl⟩ := hpx
    obtain ⟨hP, hD⟩ := hpd (cxW k a r t th kd bs us sth mk dr M sM) (pm_nil _)
    exact ps_x hQ hlk htb ⟨Or.inl ⟨rfl, by simp [cdRb, h9]⟩, rfl⟩ hP hD hS hce hcv hcl (by decide) (by decide)
  obtain ⟨rfl, hq⟩ := hw
  obtain ⟨hP, hD⟩ := hpd (cxW k a r t th kd bs us sth mk dr M sM) (pm_nil _)
  refine W.widen (k := 1) (n := 6) (by decide) (by decide) ?_
  obtain ⟨s0, hs0, rfl, hqt⟩ := hsB_t (by decide) hq
  refine lv_aload_n hx hb d_S_rebase_5 rfl (lv_at hl 0 rfl) ?_
  refine lv_iload_n hx hb d_S_rebase_6 rfl (lv_at hl 2 rfl) ?_
  refine lv_aload_n hx hb d_S_rebase_7 rfl (lv_at hl 0 rfl) ?_
  refine va_get (D := D) (ci := ciSS) (v := .ref (a 2)) (C := RS) (T := TS) (N := 7) hx hb hts inS hown hK.1 hP 0 rfl rfl 1 (by decide) (hts _ wd_47) (fun _ h9 => h9) rfl d_S_rebase_8 ?_
  refine lv_iload_n hx hb d_S_rebase_11 rfl (lv_at hl 1 rfl) ?_
  refine rw_iald hx hb hK.1 hP 2 0 rfl rfl (j := s0) (by omega) (by decide) d_S_rebase_12 ?_
  refine cax_v (wc := cxW k a r t th kd bs us sth mk dr M sM) (wr := []) (vx_runV (As := [.int y, .int (kd s0)]) (rest := []) ⟨hx, hb, hml, hown, hts⟩ (c_requireNoneOrOfKind l D k a r t th kd bs us sth mk dr M sM sa hl9 y (kd s0) H.size) (cwV9 2 hts wd_192 wd_189 wd_191 ws_9 wd_1 (by decide) ⟨Nat.le_of_ble_eq_true rfl, Nat.le_of_ble_eq_true rfl⟩) (prVx (q0 := 0) (ci := ciSS) hE hS hA hK hP hD (pm_nil' _) rfl rfl) rfl rfl hl.1 rfl (lv_room (Nat.le_of_ble_eq_true rfl)) d_S_rebase_13 ⟨by decide, by decide⟩) (pm_nil' _) hP hD hS hA (fun E9 ce9 ad9 w1 H locs hpx hpd hS hce hcv hcl => ?_) (fun w1 H locs hw hpd hS => ?_)
  · skip
    obtain ⟨rfl, h9, rfl⟩ := hpx
    obtain ⟨hP, hD⟩ := hpd (cxW k a r t th kd bs us sth mk dr M sM) (pm_nil _)
    exact ps_x hQ hlk htb ⟨Or.inr (⟨rfl, by simp [cdRb, hq, nI_clamp (show s0 < 2 ^ 31 by omega), h9]⟩), rfl⟩ hP hD hS hce hcv hcl (by decide) (by decide)
  obtain ⟨rfl, ho⟩ := hw
  obtain ⟨hP, hD⟩ := hpd (cxW k a r t th kd bs us sth mk dr M sM) (pm_nil _)
  refine W.widen (k := 2) (n := 12) (by decide) (by decide) ?_
  refine lv_aload_n hx hb d_S_rebase_16 rfl (lv_at hl 0 rfl) ?_
  refine lv_iload_n hx hb d_S_rebase_17 rfl (lv_at hl 1 rfl) ?_
  refine lv_iload_n hx hb d_S_rebase_18 rfl (lv_at hl 2 rfl) ?_
  refine cal_i (wc := cxW k a r t th kd bs us sth mk dr M sM) (wr := []) (va_runV (As := [.int (nI s0), .int y]) (rest := []) ⟨hx, hb, hml, hown, hts⟩ (c_isOnChain l D k a r t th kd bs us sth mk dr M sM (nI s0) y H.size) (cwV9 2 hts wd_252 wd_249 wd_251 ws_12 wd_1 (by decide) ⟨Nat.le_of_ble_eq_true rfl, Nat.le_of_ble_eq_true rfl⟩) (prV (q0 := 0) (ci := ciSS) hK hP hD (pm_nil' _) rfl rfl) rfl rfl hl.1 rfl (lv_room (Nat.le_of_ble_eq_true rfl)) d_S_rebase_19 ⟨by decide, by decide⟩) (pm_nil' _) hP hD hS hA (fun r w1 H locs hw hpd hS => ?_)
  obtain ⟨rfl, rfl⟩ := hw
  obtain ⟨hP, hD⟩ := hpd (cxW k a r t th kd bs us sth mk dr M sM) (pm_nil _)
  refine lv_if_eq (tgt := 27) hx hb d_S_rebase_22 (by decide) (fun c22 => ?_) (fun c22 => ?_)
  · skip
    have c22 := b_of0 c22
    refine lv_aload_n hx hb d_S_rebase_27 rfl (lv_at hl 0 rfl) ?_
    refine va_get (D := D) (ci := ciSS) (v := .ref (a 3)) (C := RS) (T := TS) (N := 7) hx hb hts inS hown hK.1 hP 0 rfl rfl 2 (by decide) (hts _ wd_48) (fun _ h9 => h9) rfl d_S_rebase_28 ?_
    refine lv_iload_n hx hb d_S_rebase_31 rfl (lv_at hl 1 rfl) ?_
    refine lv_iload_n hx hb d_S_rebase_32 rfl (lv_at hl 2 rfl) ?_
    refine rw_iast hx hb hK.1 hP hD hS 3 0 rfl rfl (j := s0) (by omega) (by decide) d_S_rebase_33 (wn := cxW k a r t th kd (upd bs s0 y) us sth mk dr M sM) rfl (fun H locs hP hD hS => ?_)
    refine lv_iconst (v := nI 1) hx hb d_S_rebase_34 (by decide) ?_
    exact hret _ _ _ _ _ _ _ _ d_S_rebase_35 ⟨s0, hs0, rfl, hq, ho, Or.inr ⟨c22, rfl, rfl⟩⟩ hP hD hS (by decide) (by decide)
  · skip
    have c22 := b_of1 c22
    refine lv_iconst (v := nI 0) hx hb d_S_rebase_25 (by decide) ?_
    exact hret _ _ _ _ _ _ _ _ d_S_rebase_26 ⟨s0, hs0, rfl, hq, ho, Or.inl ⟨c22, rfl, rfl⟩⟩ hP hD hS (by decide) (by decide)

set_option maxRecDepth 100000 in
set_option maxHeartbeats 4000000 in
theorem c_own (l : Launch) (D : va_G) (k : Nat → ClassId) (a r t : Nat → Nat) (th kd bs us sth mk dr : Nat → Int32) (M sM : Nat → Nat → Int32) (sa : Nat → Nat) (hl9 : l.stackTraces = false) (x y v : Int32) (sz : Nat) : bXV l y_S_own (wY y_S_own b_S_own 4 none) (rm9 8 3 18) Sts sa D (tsK k) (cxW k a r t th kd bs us sth mk dr M sM) sz [.ref (a 0), .int x, .int y, .int v] (fun w => ∃ s0 : Nat, s0 < 64 ∧ x = nI s0 ∧ hsB 64 th (nI s0) = true ∧ ∃ p9 : Nat, p9 < 24 ∧ y = nI p9 ∧ nvB (nI p9) v = true ∧ w = cxW k a r t th kd bs us sth mk dr (va_up M s0 (upd (M s0) p9 v)) sM) (fun E w => ((E = "java/util/NoSuchElementException" ∧ cdOw th x y v = 1) ∨ (E = "java/lang/IllegalArgumentException" ∧ cdOw th x y v = 2)) ∧ w = cxW k a r t th kd bs us sth mk dr M sM) 3 18 := by
  refine ent_xv (cc := b_S_own) (maxL := 4) (by decide) (Nat.le_of_ble_eq_true rfl) ?_
  intro p e s m args below meth c A Q ls hx hb hml hown hts hsz hA hP hD hS hK hl hlk htb hE hQ hret
  refine lv_aload_n hx hb d_S_own_0 rfl (lv_at hl 0 rfl) ?_
  refine lv_iload_n hx hb d_S_own_1 rfl (lv_at hl 1 rfl) ?_
  refine cax_v (wc := cxW k a r t th kd bs us sth mk dr M sM) (wr := []) (vx_runV (As := [.int x]) (rest := []) ⟨hx, hb, hml, hown, hts⟩ (c_requireStyle l D k a r t th kd bs us sth mk dr M sM sa hl9 x s.heap.size) (cwV9 1 hts wd_225 wd_222 wd_224 ws_11 wd_1 (by decide) ⟨Nat.le_of_ble_eq_true rfl, Nat.le_of_ble_eq_true rfl⟩) (prVx (q0 := 0) (ci := ciSS) hE hS hA hK hP hD (pm_nil' _) rfl rfl) rfl rfl hl.1 rfl (lv_room (Nat.le_of_ble_eq_true rfl)) d_S_own_2 ⟨by decide, by decide⟩) (pm_nil' _) hP hD hS hA (fun E9 ce9 ad9 w1 H locs hpx hpd hS hce hcv hcl => ?_) (fun w1 H locs hw hpd hS => ?_)
  · skip
    obtain ⟨rfl, h9, rfl⟩ := hpx
    obtain ⟨hP, hD⟩ := hpd (cxW k a r t th kd bs us sth mk dr M sM) (pm_nil _)
    exact ps_x hQ hlk htb ⟨Or.inl ⟨rfl, by simp [cdOw, h9]⟩, rfl⟩ hP hD hS hce hcv hcl (by decide) (by decide)
  obtain ⟨rfl, hq⟩ := hw
  obtain ⟨hP, hD⟩ := hpd (cxW k a r t th kd bs us sth mk dr M sM) (pm_nil _)
  refine W.widen (k := 1) (n := 6) (by decide) (by decide) ?_
  obtain ⟨s0, hs0, rfl, hqt⟩ := hsB_t (by decide) hq
  refine lv_iload_n hx hb d_S_own_5 rfl (lv_at hl 2 rfl) ?_
  refine cax_v (wc := []) (wr := cxW k a r t th kd bs us sth mk dr M sM) (vx_runS (As := [.int y]) (rest := []) ⟨hx, hb, hml, hown, hts⟩ (c_requireProperty l D k sa hl9 y H.size) (cwS9 1 hts wd_262 wd_260 wd_261 wd_1 (by decide) ⟨Nat.le_of_ble_eq_true rfl, Nat.le_of_ble_eq_true rfl⟩) (prSx hE hS hA hK hP hD (List.Perm.refl _)) rfl rfl hl.1 rfl (lv_room (Nat.le_of_ble_eq_true rfl)) d_S_own_6 ⟨by decide, by decide⟩) (List.Perm.refl _) hP hD hS hA (fun E9 ce9 ad9 w1 H locs hpx hpd hS hce hcv hcl => ?_) (fun w1 H locs hw hpd hS => ?_)
  · skip
    obtain ⟨rfl, h9, rfl⟩ := hpx
    obtain ⟨hP, hD⟩ := hpd (cxW k a r t th kd bs us sth mk dr M sM) (List.Perm.refl _)
    exact ps_x hQ hlk htb ⟨Or.inr (⟨rfl, by simp [cdOw, hq, h9]⟩), rfl⟩ hP hD hS hce hcv hcl (by decide) (by decide)
  obtain ⟨rfl, hp⟩ := hw
  obtain ⟨hP, hD⟩ := hpd (cxW k a r t th kd bs us sth mk dr M sM) (List.Perm.refl _)
  refine W.widen (k := 2) (n := 12) (by decide) (by decide) ?_
  refine lv_iload_n hx hb d_S_own_9 rfl (lv_at hl 2 rfl) ?_
  refine lv_iload_n hx hb d_S_own_10 rfl (lv_at hl 3 rfl) ?_
  refine cax_v (wc := []) (wr := cxW k a r t th kd bs us sth mk dr M sM) (vx_runS (As := [.int y, .int v]) (rest := []) ⟨hx, hb, hml, hown, hts⟩ (c_requireNoneOrValue l D k sa hl9 y v H.size) (cwS9 2 hts wd_266 wd_264 wd_265 wd_1 (by decide) ⟨Nat.le_of_ble_eq_true rfl, Nat.le_of_ble_eq_true rfl⟩) (prSx hE hS hA hK hP hD (List.Perm.refl _)) rfl rfl hl.1 rfl (lv_room (Nat.le_of_ble_eq_true rfl)) d_S_own_11 ⟨by decide, by decide⟩) (List.Perm.refl _) hP hD hS hA (fun E9 ce9 ad9 w1 H locs hpx hpd hS hce hcv hcl => ?_) (fun w1 H locs hw hpd hS => ?_)
  · skip
    obtain ⟨rfl, h9, rfl⟩ := hpx
    obtain ⟨hP, hD⟩ := hpd (cxW k a r t th kd bs us sth mk dr M sM) (List.Perm.refl _)
    exact ps_x hQ hlk htb ⟨Or.inr (⟨rfl, by simp [cdOw, hq, hp, h9]⟩), rfl⟩ hP hD hS hce hcv hcl (by decide) (by decide)
  obtain ⟨rfl, hv⟩ := hw
  obtain ⟨hP, hD⟩ := hpd (cxW k a r t th kd bs us sth mk dr M sM) (List.Perm.refl _)
  refine W.widen (k := 3) (n := 18) (by decide) (by decide) ?_
  obtain ⟨p9, hp9, rfl⟩ := prB_t hp
  refine lv_aload_n hx hb d_S_own_14 rfl (lv_at hl 0 rfl) ?_
  refine va_get (D := D) (ci := ciSS) (v := .ref (a 1)) (C := RS) (T := TS) (N := 7) hx hb hts inS hown hK.1 hP 0 rfl rfl 0 (by decide) (hts _ wd_46) (fun _ h9 => h9) rfl d_S_own_15 ?_
  refine va_getN (D := D) (ci := ciTb) (v := .ref (a 9)) (C := RT) (T := TT) (N := 2) hx hb hts inT hown hK.1 hP 1 rfl rfl 1 (by decide) (va_Nw.use rfl (hK.2.1 (.fieldLinkNest "StyleSheet" 81 "StyleSheet$Table" "values" "[[I" "StyleSheet") (by decide))) (fun _ h9 => h9) rfl d_S_own_18 ?_
  refine lv_iload_n hx hb d_S_own_21 rfl (lv_at hl 1 rfl) ?_
  refine rw_aald hx hb hK.1 hP 9 2 rfl rfl (j := s0) (y := r s0) (by omega) (by decide) (gOut_at (by omega)) d_S_own_22 ?_
  refine lv_iload_n hx hb d_S_own_23 rfl (lv_at hl 2 rfl) ?_
  refine lv_iload_n hx hb d_S_own_24 rfl (lv_at hl 3 rfl) ?_
  refine rw_iast hx hb hK.1 hP hD hS (12 + s0) 0 (cx_rowS (by omega)) rfl (j := p9) (by omega) (by decide) d_S_own_25 (wn := cxW k a r t th kd bs us sth mk dr (va_up M s0 (upd (M s0) p9 v)) sM) (cx_setS (by omega)) (fun H locs hP hD hS => ?_)
  exact hret _ _ _ _ _ _ _ d_S_own_26 ⟨s0, hs0, rfl, hq, p9, hp9, rfl, hv, rfl⟩ hP hD hS (by decide) (by decide)

set_option maxRecDepth 100000 in
set_option maxHeartbeats 4000000 in
theorem c_value (l : Launch) (D : va_G) (k : Nat → ClassId) (a r t : Nat → Nat) (th kd bs us sth mk dr : Nat → Int32) (M sM : Nat → Nat → Int32) (sa : Nat → Nat) (hl9 : l.stackTraces = false) (x y : Int32) (sz : Nat) : bXI l y_S_value (wY y_S_value b_S_value 3 (some .int)) (rm9 8 2 12) Sts sa D (tsK k) (cxW k a r t th kd bs us sth mk dr M sM) sz [.ref (a 0), .int x, .int y] (fun v w => ∃ s0 : Nat, s0 < 64 ∧ x = nI s0 ∧ hsB 64 th (nI s0) = true ∧ ∃ p9 : Nat, p9 < 24 ∧ y = nI p9 ∧ v = vbF th bs M (nI s0) p9 ∧ w = cxW k a r t th kd bs us sth mk dr M sM) (fun E w => ((E = "java/util/NoSuchElementException" ∧ cdVa th x y = 1) ∨ (E = "java/lang/IllegalArgumentException" ∧ cdVa th x y = 2)) ∧ w = cxW k a r t th kd bs us sth mk dr M sM) 2 12 := by
  refine ent_xi (cc := b_S_value) (maxL := 3) (ty := .int) (by decide) (Nat.le_of_ble_eq_true rfl) (fun _ _ _ => rfl) ?_
  intro p e s m args below meth c A Q ls hx hb hml hown hts hsz hA hP hD hS hK hl hlk htb hE hQ hret
  refine lv_aload_n hx hb d_S_value_0 rfl (lv_at hl 0 rfl) ?_
  refine lv_iload_n hx hb d_S_value_1 rfl (lv_at hl 1 rfl) ?_
  refine cax_v (wc := cxW k a r t th kd bs us sth mk dr M sM) (wr := []) (vx_runV (As := [.int x]) (rest := []) ⟨hx, hb, hml, hown, hts⟩ (c_requireStyle l D k a r t th kd bs us sth mk dr M sM sa hl9 x s.heap.size) (cwV9 1 hts wd_225 wd_222 wd_224 ws_11 wd_1 (by decide) ⟨Nat.le_of_ble_eq_true rfl, Nat.le_of_ble_eq_true rfl⟩) (prVx (q0 := 0) (ci := ciSS) hE hS hA hK hP hD (pm_nil' _) rfl rfl) rfl rfl hl.1 rfl (lv_room (Nat.le_of_ble_eq_true rfl)) d_S_value_2 ⟨by decide, by decide⟩) (pm_nil' _) hP hD hS hA (fun E9 ce9 ad9 w1 H locs hpx hpd hS hce hcv hcl => ?_) (fun w1 H locs hw hpd hS => ?_)
  · skip
    obtain ⟨rfl, h9, rfl⟩ := hpx
    obtain ⟨hP, hD⟩ := hpd (cxW k a r t th kd bs us sth mk dr M sM) (pm_nil _)
    exact ps_x hQ hlk htb ⟨Or.inl ⟨rfl, by simp [cdVa, h9]⟩, rfl⟩ hP hD hS hce hcv hcl (by decide) (by decide)
  obtain ⟨rfl, hq⟩ := hw
  obtain ⟨hP, hD⟩ := hpd (cxW k a r t th kd bs us sth mk dr M sM) (pm_nil _)
  refine W.widen (k := 1) (n := 6) (by decide) (by decide) ?_
  obtain ⟨s0, hs0, rfl, hqt⟩ := hsB_t (by decide) hq
  refine lv_iload_n hx hb d_S_value_5 rfl (lv_at hl 2 rfl) ?_
  refine cax_v (wc := []) (wr := cxW k a r t th kd bs us sth mk dr M sM) (vx_runS (As := [.int y]) (rest := []) ⟨hx, hb, hml, hown, hts⟩ (c_requireProperty l D k sa hl9 y H.size) (cwS9 1 hts wd_262 wd_260 wd_261 wd_1 (by decide) ⟨Nat.le_of_ble_eq_true rfl, Nat.le_of_ble_eq_true rfl⟩) (prSx hE hS hA hK hP hD (List.Perm.refl _)) rfl rfl hl.1 rfl (lv_room (Nat.le_of_ble_eq_true rfl)) d_S_value_6 ⟨by decide, by decide⟩) (List.Perm.refl _) hP hD hS hA (fun E9 ce9 ad9 w1 H locs hpx hpd hS hce hcv hcl => ?_) (fun w1 H locs hw hpd hS => ?_)
  · skip
    obtain ⟨rfl, h9, rfl⟩ := hpx
    obtain ⟨hP, hD⟩ := hpd (cxW k a r t th kd bs us sth mk dr M sM) (List.Perm.refl _)
    exact ps_x hQ hlk htb ⟨Or.inr (⟨rfl, by simp [cdVa, hq, h9]⟩), rfl⟩ hP hD hS hce hcv hcl (by decide) (by decide)
  obtain ⟨rfl, hp⟩ := hw
  obtain ⟨hP, hD⟩ := hpd (cxW k a r t th kd bs us sth mk dr M sM) (List.Perm.refl _)
  refine W.widen (k := 2) (n := 12) (by decide) (by decide) ?_
  obtain ⟨p9, hp9, rfl⟩ := prB_t hp
  refine lv_aload_n hx hb d_S_value_9 rfl (lv_at hl 0 rfl) ?_
  refine lv_iload_n hx hb d_S_value_10 rfl (lv_at hl 1 rfl) ?_
  refine lv_iload_n hx hb d_S_value_11 rfl (lv_at hl 2 rfl) ?_
  refine cal_i (wc := cxW k a r t th kd bs us sth mk dr M sM) (wr := []) (va_runV (As := [.int (nI s0), .int (nI p9)]) (rest := []) ⟨hx, hb, hml, hown, hts⟩ (c_valueByChain l D k a r t th kd bs us sth mk dr M sM (nI s0) p9 hp9 H.size) (cwV9 2 hts wd_285 wd_282 wd_284 ws_13 wd_1 (by decide) ⟨Nat.le_of_ble_eq_true rfl, Nat.le_of_ble_eq_true rfl⟩) (prV (q0 := 0) (ci := ciSS) hK hP hD (pm_nil' _) rfl rfl) rfl rfl hl.1 rfl (lv_room (Nat.le_of_ble_eq_true rfl)) d_S_value_12 ⟨by decide, by decide⟩) (pm_nil' _) hP hD hS hA (fun r w1 H locs hw hpd hS => ?_)
  obtain ⟨rfl, rfl⟩ := hw
  obtain ⟨hP, hD⟩ := hpd (cxW k a r t th kd bs us sth mk dr M sM) (pm_nil _)
  exact hret _ _ _ _ _ _ _ _ d_S_value_15 ⟨s0, hs0, rfl, hq, p9, hp9, rfl, rfl, rfl⟩ hP hD hS (by decide) (by decide)

set_option maxRecDepth 100000 in
set_option maxHeartbeats 4000000 in
theorem c_giver (l : Launch) (D : va_G) (k : Nat → ClassId) (a r t : Nat → Nat) (th kd bs us sth mk dr : Nat → Int32) (M sM : Nat → Nat → Int32) (sa : Nat → Nat) (hl9 : l.stackTraces = false) (x y : Int32) (sz : Nat) : bXI l y_S_giver (wY y_S_giver b_S_giver 3 (some .int)) (rm9 8 2 12) Sts sa D (tsK k) (cxW k a r t th kd bs us sth mk dr M sM) sz [.ref (a 0), .int x, .int y] (fun v w => ∃ s0 : Nat, s0 < 64 ∧ x = nI s0 ∧ hsB 64 th (nI s0) = true ∧ ∃ p9 : Nat, p9 < 24 ∧ y = nI p9 ∧ v = gvF th bs M p9 64 (nI s0) ∧ w = cxW k a r t th kd bs us sth mk dr M sM) (fun E w => ((E = "java/util/NoSuchElementException" ∧ cdVa th x y = 1) ∨ (E = "java/lang/IllegalArgumentException" ∧ cdVa th x y = 2)) ∧ w = cxW k a r t th kd bs us sth mk dr M sM) 2 12 := by
  refine ent_xi (cc := b_S_giver) (maxL := 3) (ty := .int) (by decide) (Nat.le_of_ble_eq_true rfl) (fun _ _ _ => rfl) ?_
  intro p e s m args below meth c A Q ls hx hb hml hown hts hsz hA hP hD hS hK hl hlk htb hE hQ hret
  refine lv_aload_n hx hb d_S_giver_0 rfl (lv_at hl 0 rfl) ?_
  refine lv_iload_n hx hb d_S_giver_1 rfl (lv_at hl 1 rfl) ?_
  refine cax_v (wc := cxW k a r t th kd bs us sth mk dr M sM) (wr := []) (vx_runV (As := [.int x]) (rest := []) ⟨hx, hb, hml, hown, hts⟩ (c_requireStyle l D k a r t th kd bs us sth mk dr M sM sa hl9 x s.heap.size) (cwV9 1 hts wd_225 wd_222 wd_224 ws_11 wd_1 (by decide) ⟨Nat.le_of_ble_eq_true rfl, Nat.le_of_ble_eq_true rfl⟩) (prVx (q0 := 0) (ci := ciSS) hE hS hA hK hP hD (pm_nil' _) rfl rfl) rfl rfl hl.1 rfl (lv_room (Nat.le_of_ble_eq_true rfl)) d_S_giver_2 ⟨by decide, by decide⟩) (pm_nil' _) hP hD hS hA (fun E9 ce9 ad9 w1 H locs hpx hpd hS hce hcv hcl => ?_) (fun w1 H locs hw hpd hS => ?_)
  · skip
    obtain ⟨rfl, h9, rfl⟩ := hpx
    obtain ⟨hP, hD⟩ := hpd (cxW k a r t th kd bs us sth mk dr M sM) (pm_nil _)
    exact ps_x hQ hlk htb ⟨Or.inl ⟨rfl, by simp [cdVa, h9]⟩, rfl⟩ hP hD hS hce hcv hcl (by decide) (by decide)
  obtain ⟨rfl, hq⟩ := hw
  obtain ⟨hP, hD⟩ := hpd (cxW k a r t th kd bs us sth mk dr M sM) (pm_nil _)
  refine W.widen (k := 1) (n := 6) (by decide) (by decide) ?_
  obtain ⟨s0, hs0, rfl, hqt⟩ := hsB_t (by decide) hq
  refine lv_iload_n hx hb d_S_giver_5 rfl (lv_at hl 2 rfl) ?_
  refine cax_v (wc := []) (wr := cxW k a r t th kd bs us sth mk dr M sM) (vx_runS (As := [.int y]) (rest := []) ⟨hx, hb, hml, hown, hts⟩ (c_requireProperty l D k sa hl9 y H.size) (cwS9 1 hts wd_262 wd_260 wd_261 wd_1 (by decide) ⟨Nat.le_of_ble_eq_true rfl, Nat.le_of_ble_eq_true rfl⟩) (prSx hE hS hA hK hP hD (List.Perm.refl _)) rfl rfl hl.1 rfl (lv_room (Nat.le_of_ble_eq_true rfl)) d_S_giver_6 ⟨by decide, by decide⟩) (List.Perm.refl _) hP hD hS hA (fun E9 ce9 ad9 w1 H locs hpx hpd hS hce hcv hcl => ?_) (fun w1 H locs hw hpd hS => ?_)
  · skip
    obtain ⟨rfl, h9, rfl⟩ := hpx
    obtain ⟨hP, hD⟩ := hpd (cxW k a r t th kd bs us sth mk dr M sM) (List.Perm.refl _)
    exact ps_x hQ hlk htb ⟨Or.inr (⟨rfl, by simp [cdVa, hq, h9]⟩), rfl⟩ hP hD hS hce hcv hcl (by decide) (by decide)
  obtain ⟨rfl, hp⟩ := hw
  obtain ⟨hP, hD⟩ := hpd (cxW k a r t th kd bs us sth mk dr M sM) (List.Perm.refl _)
  refine W.widen (k := 2) (n := 12) (by decide) (by decide) ?_
  obtain ⟨p9, hp9, rfl⟩ := prB_t hp
  refine lv_aload_n hx hb d_S_giver_9 rfl (lv_at hl 0 rfl) ?_
  refine lv_iload_n hx hb d_S_giver_10 rfl (lv_at hl 1 rfl) ?_
  refine lv_iload_n hx hb d_S_giver_11 rfl (lv_at hl 2 rfl) ?_
  refine cal_i (wc := cxW k a r t th kd bs us sth mk dr M sM) (wr := []) (va_runV (As := [.int (nI s0), .int (nI p9)]) (rest := []) ⟨hx, hb, hml, hown, hts⟩ (c_giverOnChain l D k a r t th kd bs us sth mk dr M sM (nI s0) p9 hp9 H.size) (cwV9 2 hts wd_289 wd_286 wd_288 ws_14 wd_1 (by decide) ⟨Nat.le_of_ble_eq_true rfl, Nat.le_of_ble_eq_true rfl⟩) (prV (q0 := 0) (ci := ciSS) hK hP hD (pm_nil' _) rfl rfl) rfl rfl hl.1 rfl (lv_room (Nat.le_of_ble_eq_true rfl)) d_S_giver_12 ⟨by decide, by decide⟩) (pm_nil' _) hP hD hS hA (fun r w1 H locs hw hpd hS => ?_)
  obtain ⟨rfl, rfl⟩ := hw
  obtain ⟨hP, hD⟩ := hpd (cxW k a r t th kd bs us sth mk dr M sM) (pm_nil _)
  exact hret _ _ _ _ _ _ _ _ d_S_giver_15 ⟨s0, hs0, rfl, hq, p9, hp9, rfl, rfl, rfl⟩ hP hD hS (by decide) (by decide)

set_option maxRecDepth 100000 in
set_option maxHeartbeats 4000000 in
theorem c_style (l : Launch) (D : va_G) (k : Nat → ClassId) (a r t : Nat → Nat) (th kd bs us sth mk dr : Nat → Int32) (M sM : Nat → Nat → Int32) (sa : Nat → Nat) (hl9 : l.stackTraces = false) (x y : Int32) (sz : Nat) : bXI l y_S_style (wY y_S_style b_S_style 3 (some .int)) (rm9 8 2 12) Sts sa D (tsK k) (cxW k a r t th kd bs us sth mk dr M sM) sz [.ref (a 0), .int x, .int y] (fun v w => ∃ s0 : Nat, s0 < 64 ∧ x = nI s0 ∧ hsB 64 th (nI s0) = true ∧ whB y = true ∧ v = stF th kd bs M s0 y ∧ w = cxW k a r t th kd bs us sth mk dr M sM) (fun E w => ((E = "java/util/NoSuchElementException" ∧ cdSt th x y = 1) ∨ (E = "java/lang/IllegalArgumentException" ∧ cdSt th x y = 2)) ∧ w = cxW k a r t th kd bs us sth mk dr M sM) 2 12 := by
  refine ent_xi (cc := b_S_style) (maxL := 3) (ty := .int) (by decide) (Nat.le_of_ble_eq_true rfl) (fun _ _ _ => rfl) ?_
  intro p e s m args below meth c A Q ls hx hb hml hown hts hsz hA hP hD hS hK hl hlk htb hE hQ hret
  refine lv_aload_n hx hb d_S_style_0 rfl (lv_at hl 0 rfl) ?_
  refine lv_iload_n hx hb d_S_style_1 rfl (lv_at hl 1 rfl) ?_
  refine cax_v (wc := cxW k a r t th kd bs us sth mk dr M sM) (wr := []) (vx_runV (As := [.int x]) (rest := []) ⟨hx, hb, hml, hown, hts⟩ (c_requireStyle l D k a r t th kd bs us sth mk dr M sM sa hl9 x s.heap.size) (cwV9 1 hts wd_225 wd_222 wd_224 ws_11 wd_1 (by decide) ⟨Nat.le_of_ble_eq_true rfl, Nat.le_of_ble_eq_true rfl⟩) (prVx (q0 := 0) (ci := ciSS) hE hS hA hK hP hD (pm_nil' _) rfl rfl) rfl rfl hl.1 rfl (lv_room (Nat.le_of_ble_eq_true rfl)) d_S_style_2 ⟨by decide, by decide⟩) (pm_nil' _) hP hD hS hA (fun E9 ce9 ad9 w1 H locs hpx hpd hS hce hcv hcl => ?_) (fun w1 H locs hw hpd hS => ?_)
  · skip
    obtain ⟨rfl, h9, rfl⟩ := hpx
    obtain ⟨hP, hD⟩ := hpd (cxW k a r t th kd bs us sth mk dr M sM) (pm_nil _)
    exact ps_x hQ hlk htb ⟨Or.inl ⟨rfl, by simp [cdSt, h9]⟩, rfl⟩ hP hD hS hce hcv hcl (by decide) (by decide)
  obtain ⟨rfl, hq⟩ := hw
  obtain ⟨hP, hD⟩ := hpd (cxW k a r t th kd bs us sth mk dr M sM) (pm_nil _)
  refine W.widen (k := 1) (n := 6) (by decide) (by decide) ?_
  obtain ⟨s0, hs0, rfl, hqt⟩ := hsB_t (by decide) hq
  refine lv_iload_n hx hb d_S_style_5 rfl (lv_at hl 2 rfl) ?_
  rcases sw5 y with rfl | rfl | rfl | rfl | rfl | ⟨hsw, hwh⟩
  · skip
    refine lv_tableIn (off := 34) (tgt := 40) hx hb d_S_style_6 (by decide) (by decide) (by decide) (by decide) ?_
    refine lv_aload_n hx hb d_S_style_40 rfl (lv_at hl 0 rfl) ?_
    refine lv_iload_n hx hb d_S_style_41 rfl (lv_at hl 1 rfl) ?_
    refine cal_i (wc := cxW k a r t th kd bs us sth mk dr M sM) (wr := []) (va_runV (As := [.int (nI s0)]) (rest := []) ⟨hx, hb, hml, hown, hts⟩ (c_chainLength l D k a r t th kd bs us sth mk dr M sM (nI s0) H.size) (cwV9 1 hts wd_108 wd_105 wd_107 ws_7 wd_1 (by decide) ⟨Nat.le_of_ble_eq_true rfl, Nat.le_of_ble_eq_true rfl⟩) (prV (q0 := 0) (ci := ciSS) hK hP hD (pm_nil' _) rfl rfl) rfl rfl hl.1 rfl (lv_room (Nat.le_of_ble_eq_true rfl)) d_S_style_42 ⟨by decide, by decide⟩) (pm_nil' _) hP hD hS hA (fun r w1 H locs hw hpd hS => ?_)
    obtain ⟨rfl, rfl⟩ := hw
    obtain ⟨hP, hD⟩ := hpd (cxW k a r t th kd bs us sth mk dr M sM) (pm_nil _)
    exact hret _ _ _ _ _ _ _ _ d_S_style_45 ⟨s0, hs0, rfl, hq, rfl, rfl, rfl⟩ hP hD hS (by decide) (by decide)
  · skip
    refine lv_tableIn (off := 40) (tgt := 46) hx hb d_S_style_6 (by decide) (by decide) (by decide) (by decide) ?_
    refine lv_aload_n hx hb d_S_style_46 rfl (lv_at hl 0 rfl) ?_
    refine lv_iload_n hx hb d_S_style_47 rfl (lv_at hl 1 rfl) ?_
    refine cal_i (wc := cxW k a r t th kd bs us sth mk dr M sM) (wr := []) (va_runV (As := [.int (nI s0)]) (rest := []) ⟨hx, hb, hml, hown, hts⟩ (c_othersBuiltOn l D k a r t th kd bs us sth mk dr M sM (nI s0) H.size) (cwV9 1 hts wd_307 wd_304 wd_306 ws_15 wd_1 (by decide) ⟨Nat.le_of_ble_eq_true rfl, Nat.le_of_ble_eq_true rfl⟩) (prV (q0 := 0) (ci := ciSS) hK hP hD (pm_nil' _) rfl rfl) rfl rfl hl.1 rfl (lv_room (Nat.le_of_ble_eq_true rfl)) d_S_style_48 ⟨by decide, by decide⟩) (pm_nil' _) hP hD hS hA (fun r w1 H locs hw hpd hS => ?_)
    obtain ⟨rfl, rfl⟩ := hw
    obtain ⟨hP, hD⟩ := hpd (cxW k a r t th kd bs us sth mk dr M sM) (pm_nil _)
    exact hret _ _ _ _ _ _ _ _ d_S_style_51 ⟨s0, hs0, rfl, hq, rfl, rfl, rfl⟩ hP hD hS (by decide) (by decide)
  · skip
    refine lv_tableIn (off := 46) (tgt := 52) hx hb d_S_style_6 (by decide) (by decide) (by decide) (by decide) ?_
    refine lv_aload_n hx hb d_S_style_52 rfl (lv_at hl 0 rfl) ?_
    refine va_get (D := D) (ci := ciSS) (v := .ref (a 3)) (C := RS) (T := TS) (N := 7) hx hb hts inS hown hK.1 hP 0 rfl rfl 2 (by decide) (hts _ wd_48) (fun _ h9 => h9) rfl d_S_style_53 ?_
    refine lv_iload_n hx hb d_S_style_56 rfl (lv_at hl 1 rfl) ?_
    refine rw_iald hx hb hK.1 hP 3 0 rfl rfl (j := s0) (by omega) (by decide) d_S_style_57 ?_
    exact hret _ _ _ _ _ _ _ _ d_S_style_58 ⟨s0, hs0, rfl, hq, rfl, rfl, rfl⟩ hP hD hS (by decide) (by decide)
  · skip
    refine lv_tableIn (off := 53) (tgt := 59) hx hb d_S_style_6 (by decide) (by decide) (by decide) (by decide) ?_
    refine lv_aload_n hx hb d_S_style_59 rfl (lv_at hl 0 rfl) ?_
    refine va_get (D := D) (ci := ciSS) (v := .ref (a 2)) (C := RS) (T := TS) (N := 7) hx hb hts inS hown hK.1 hP 0 rfl rfl 1 (by decide) (hts _ wd_47) (fun _ h9 => h9) rfl d_S_style_60 ?_
    refine lv_iload_n hx hb d_S_style_63 rfl (lv_at hl 1 rfl) ?_
    refine rw_iald hx hb hK.1 hP 2 0 rfl rfl (j := s0) (by omega) (by decide) d_S_style_64 ?_
    exact hret _ _ _ _ _ _ _ _ d_S_style_65 ⟨s0, hs0, rfl, hq, rfl, rfl, rfl⟩ hP hD hS (by decide) (by decide)
  · skip
    refine lv_tableIn (off := 60) (tgt := 66) hx hb d_S_style_6 (by decide) (by decide) (by decide) (by decide) ?_
    refine lv_aload_n hx hb d_S_style_66 rfl (lv_at hl 0 rfl) ?_
    refine va_get (D := D) (ci := ciSS) (v := .ref (a 1)) (C := RS) (T := TS) (N := 7) hx hb hts inS hown hK.1 hP 0 rfl rfl 0 (by decide) (hts _ wd_46) (fun _ h9 => h9) rfl d_S_style_67 ?_
    refine lv_iload_n hx hb d_S_style_70 rfl (lv_at hl 1 rfl) ?_
    obtain ⟨wr, hwr⟩ := cx_SW (k := k) (a := a) (r := r) (t := t) (kd := kd) (bs := bs) (us := us) (sth := sth) (mk := mk) (dr := dr) (sM := sM)
    refine cal_i (wc := tbW k (a 1) (a 8) (a 9) r 64 th M) (wr := wr) (va_runVN (As := [.int (nI s0)]) (rest := []) ⟨hx, hb, hml, hown, hts⟩ (c_valuesIn l D k (a 1) (a 8) (a 9) r 64 (by decide) th M s0 hs0 H.size) (cwN9 1 hts wd_79 (hK.2.1 (.methodLinkNest "StyleSheet" 99 ⟨"StyleSheet$Table", "valuesIn", "(I)I"⟩ "StyleSheet") (by decide)) wd_78 ws_2 wd_2 (by decide) ⟨Nat.le_of_ble_eq_true rfl, Nat.le_of_ble_eq_true rfl⟩) (prV (q0 := 0) (ci := ciTb) hK hP hD (hwr _ _) rfl rfl) rfl rfl hl.1 rfl (lv_room (Nat.le_of_ble_eq_true rfl)) d_S_style_71 ⟨by decide, by decide⟩) (hwr _ _) hP hD hS hA (fun r w1 H locs hw hpd hS => ?_)
    obtain ⟨rfl, rfl⟩ := hw
    obtain ⟨hP, hD⟩ := hpd (cxW k a r t th kd bs us sth mk dr M sM) (hwr _ _).symm
    exact hret _ _ _ _ _ _ _ _ d_S_style_74 ⟨s0, hs0, rfl, hq, rfl, rfl, rfl⟩ hP hD hS (by decide) (by decide)
  · skip
    refine lv_tableOut (tgt := 75) hx hb d_S_style_6 hsw (by decide) ?_
    exact th_S hQ hx hb hl9 hlk htb hown (by decide) xn_fit (hts _ wd_121) (hts _ wd_8) (xa_I hts hK.2.1) (xg_I 41) hE 6 rfl ⟨Or.inr (⟨rfl, by simp [cdSt, hq, hwh]⟩), rfl⟩ hP hD hS (hl.1.trans hml.symm) d_S_style_75 d_S_style_78 d_S_style_79 d_S_style_81 d_S_style_84 (by decide) (by decide) (by decide) (by decide) (by decide) (by decide)

set_option maxRecDepth 100000 in
set_option maxHeartbeats 4000000 in
theorem c_usual (l : Launch) (D : va_G) (k : Nat → ClassId) (a r t : Nat → Nat) (th kd bs us sth mk dr : Nat → Int32) (M sM : Nat → Nat → Int32) (sa : Nat → Nat) (hl9 : l.stackTraces = false) (y v : Int32) (sz : Nat) : bXV l y_S_usual (wY y_S_usual b_S_usual 3 none) (rm9 8 2 12) Sts sa D (tsK k) (cxW k a r t th kd bs us sth mk dr M sM) sz [.ref (a 0), .int y, .int v] (fun w => ∃ p9 : Nat, p9 < 24 ∧ y = nI p9 ∧ vlB (nI p9) v = true ∧ w = cxW k a r t th kd bs (upd us p9 v) sth mk dr M sM) (fun E w => ((E = "java/lang/IllegalArgumentException" ∧ cdUs y v = 1)) ∧ w = cxW k a r t th kd bs us sth mk dr M sM) 2 12 := by
  refine ent_xv (cc := b_S_usual) (maxL := 3) (by decide) (Nat.le_of_ble_eq_true rfl) ?_
  intro p e s m args below meth c A Q ls hx hb hml hown hts hsz hA hP hD hS hK hl hlk htb hE hQ hret
  refine lv_iload_n hx hb d_S_usual_0 rfl (lv_at hl 1 rfl) ?_
  refine cax_v (wc := []) (wr := cxW k a r t th kd bs us sth mk dr M sM) (vx_runS (As := [.int y]) (rest := []) ⟨hx, hb, hml, hown, hts⟩ (c_requireProperty l D k sa hl9 y s.heap.size) (cwS9 1 hts wd_262 wd_260 wd_261 wd_1 (by decide) ⟨Nat.le_of_ble_eq_true rfl, Nat.le_of_ble_eq_true rfl⟩) (prSx hE hS hA hK hP hD (List.Perm.refl _)) rfl rfl hl.1 rfl (lv_room (Nat.le_of_ble_eq_true rfl)) d_S_usual_1 ⟨by decide, by decide⟩) (List.Perm.refl _) hP hD hS hA (fun E9 ce9 ad9 w1 H locs hpx hpd hS hce hcv hcl => ?_) (fun w1 H locs hw hpd hS => ?_)
  · skip
    obtain ⟨rfl, h9, rfl⟩ := hpx
    obtain ⟨hP, hD⟩ := hpd (cxW k a r t th kd bs us sth mk dr M sM) (List.Perm.refl _)
    exact ps_x hQ hlk htb ⟨⟨rfl, by simp [cdUs, h9]⟩, rfl⟩ hP hD hS hce hcv hcl (by decide) (by decide)
  obtain ⟨rfl, hp⟩ := hw
  obtain ⟨hP, hD⟩ := hpd (cxW k a r t th kd bs us sth mk dr M sM) (List.Perm.refl _)
  refine W.widen (k := 1) (n := 6) (by decide) (by decide) ?_
  refine lv_iload_n hx hb d_S_usual_4 rfl (lv_at hl 1 rfl) ?_
  refine lv_iload_n hx hb d_S_usual_5 rfl (lv_at hl 2 rfl) ?_
  refine cax_v (wc := []) (wr := cxW k a r t th kd bs us sth mk dr M sM) (vx_runS (As := [.int y, .int v]) (rest := []) ⟨hx, hb, hml, hown, hts⟩ (c_requireValue l D k sa hl9 y v H.size) (cwS9 2 hts wd_269 wd_267 wd_268 wd_1 (by decide) ⟨Nat.le_of_ble_eq_true rfl, Nat.le_of_ble_eq_true rfl⟩) (prSx hE hS hA hK hP hD (List.Perm.refl _)) rfl rfl hl.1 rfl (lv_room (Nat.le_of_ble_eq_true rfl)) d_S_usual_6 ⟨by decide, by decide⟩) (List.Perm.refl _) hP hD hS hA (fun E9 ce9 ad9 w1 H locs hpx hpd hS hce hcv hcl => ?_) (fun w1 H locs hw hpd hS => ?_)
  · skip
    obtain ⟨rfl, h9, rfl⟩ := hpx
    obtain ⟨hP, hD⟩ := hpd (cxW k a r t th kd bs us sth mk dr M sM) (List.Perm.refl _)
    exact ps_x hQ hlk htb ⟨⟨rfl, by simp [cdUs, hp, h9]⟩, rfl⟩ hP hD hS hce hcv hcl (by decide) (by decide)
  obtain ⟨rfl, hv⟩ := hw
  obtain ⟨hP, hD⟩ := hpd (cxW k a r t th kd bs us sth mk dr M sM) (List.Perm.refl _)
  refine W.widen (k := 2) (n := 12) (by decide) (by decide) ?_
  obtain ⟨p9, hp9, rfl⟩ := prB_t hp
  refine lv_aload_n hx hb d_S_usual_9 rfl (lv_at hl 0 rfl) ?_
  refine va_get (D := D) (ci := ciSS) (v := .ref (a 4)) (C := RS) (T := TS) (N := 7) hx hb hts inS hown hK.1 hP 0 rfl rfl 3 (by decide) (hts _ wd_49) (fun _ h9 => h9) rfl d_S_usual_10 ?_
  refine lv_iload_n hx hb d_S_usual_13 rfl (lv_at hl 1 rfl) ?_
  refine lv_iload_n hx hb d_S_usual_14 rfl (lv_at hl 2 rfl) ?_
  refine rw_iast hx hb hK.1 hP hD hS 4 0 rfl rfl (j := p9) (by omega) (by decide) d_S_usual_15 (wn := cxW k a r t th kd bs (upd us p9 v) sth mk dr M sM) rfl (fun H locs hP hD hS => ?_)
  exact hret _ _ _ _ _ _ _ d_S_usual_16 ⟨p9, hp9, rfl, hv, rfl⟩ hP hD hS (by decide) (by decide)

set_option maxRecDepth 100000 in
set_option maxHeartbeats 4000000 in
theorem c_get (l : Launch) (D : va_G) (k : Nat → ClassId) (a r t : Nat → Nat) (th kd bs us sth mk dr : Nat → Int32) (M sM : Nat → Nat → Int32) (sa : Nat → Nat) (hl9 : l.stackTraces = false) (x y : Int32) (sz : Nat) : bXI l y_S_get (wY y_S_get b_S_get 3 (some .int)) (rm9 8 2 12) Sts sa D (tsK k) (cxW k a r t th kd bs us sth mk dr M sM) sz [.ref (a 0), .int x, .int y] (fun v w => ∃ j : Nat, j < 256 ∧ x = nI j ∧ hsB 256 sth (nI j) = true ∧ ∃ p9 : Nat, p9 < 24 ∧ y = nI p9 ∧ v = sM j p9 ∧ w = cxW k a r t th kd bs us sth mk dr M sM) (fun E w => ((E = "java/util/NoSuchElementException" ∧ cdGe sth x y = 1) ∨ (E = "java/lang/IllegalArgumentException" ∧ cdGe sth x y = 2)) ∧ w = cxW k a r t th kd bs us sth mk dr M sM) 2 12 := by
  refine ent_xi (cc := b_S_get) (maxL := 3) (ty := .int) (by decide) (Nat.le_of_ble_eq_true rfl) (fun _ _ _ => rfl) ?_
  intro p e s m args below meth c A Q ls hx hb hml hown hts hsz hA hP hD hS hK hl hlk htb hE hQ hret
  refine lv_aload_n hx hb d_S_get_0 rfl (lv_at hl 0 rfl) ?_
  refine lv_iload_n hx hb d_S_get_1 rfl (lv_at hl 1 rfl) ?_
  refine cax_v (wc := cxW k a r t th kd bs us sth mk dr M sM) (wr := []) (vx_runV (As := [.int x]) (rest := []) ⟨hx, hb, hml, hown, hts⟩ (c_requireSet l D k a r t th kd bs us sth mk dr M sM sa hl9 x s.heap.size) (cwV9 1 hts wd_326 wd_323 wd_325 ws_16 wd_1 (by decide) ⟨Nat.le_of_ble_eq_true rfl, Nat.le_of_ble_eq_true rfl⟩) (prVx (q0 := 0) (ci := ciSS) hE hS hA hK hP hD (pm_nil' _) rfl rfl) rfl rfl hl.1 rfl (lv_room (Nat.le_of_ble_eq_true rfl)) d_S_get_2 ⟨by decide, by decide⟩) (pm_nil' _) hP hD hS hA (fun E9 ce9 ad9 w1 H locs hpx hpd hS hce hcv hcl => ?_) (fun w1 H locs hw hpd hS => ?_)
  · skip
    obtain ⟨rfl, h9, rfl⟩ := hpx
    obtain ⟨hP, hD⟩ := hpd (cxW k a r t th kd bs us sth mk dr M sM) (pm_nil _)
    exact ps_x hQ hlk htb ⟨Or.inl ⟨rfl, by simp [cdGe, h9]⟩, rfl⟩ hP hD hS hce hcv hcl (by decide) (by decide)
  obtain ⟨rfl, hq⟩ := hw
  obtain ⟨hP, hD⟩ := hpd (cxW k a r t th kd bs us sth mk dr M sM) (pm_nil _)
  refine W.widen (k := 1) (n := 6) (by decide) (by decide) ?_
  obtain ⟨j, hj, rfl, hqt⟩ := hsB_t (by decide) hq
  refine lv_iload_n hx hb d_S_get_5 rfl (lv_at hl 2 rfl) ?_
  refine cax_v (wc := []) (wr := cxW k a r t th kd bs us sth mk dr M sM) (vx_runS (As := [.int y]) (rest := []) ⟨hx, hb, hml, hown, hts⟩ (c_requireProperty l D k sa hl9 y H.size) (cwS9 1 hts wd_262 wd_260 wd_261 wd_1 (by decide) ⟨Nat.le_of_ble_eq_true rfl, Nat.le_of_ble_eq_true rfl⟩) (prSx hE hS hA hK hP hD (List.Perm.refl _)) rfl rfl hl.1 rfl (lv_room (Nat.le_of_ble_eq_true rfl)) d_S_get_6 ⟨by decide, by decide⟩) (List.Perm.refl _) hP hD hS hA (fun E9 ce9 ad9 w1 H locs hpx hpd hS hce hcv hcl => ?_) (fun w1 H locs hw hpd hS => ?_)
  · skip
    obtain ⟨rfl, h9, rfl⟩ := hpx
    obtain ⟨hP, hD⟩ := hpd (cxW k a r t th kd bs us sth mk dr M sM) (List.Perm.refl _)
    exact ps_x hQ hlk htb ⟨Or.inr (⟨rfl, by simp [cdGe, hq, h9]⟩), rfl⟩ hP hD hS hce hcv hcl (by decide) (by decide)
  obtain ⟨rfl, hp⟩ := hw
  obtain ⟨hP, hD⟩ := hpd (cxW k a r t th kd bs us sth mk dr M sM) (List.Perm.refl _)
  refine W.widen (k := 2) (n := 12) (by decide) (by decide) ?_
  obtain ⟨p9, hp9, rfl⟩ := prB_t hp
  refine lv_aload_n hx hb d_S_get_9 rfl (lv_at hl 0 rfl) ?_
  refine va_get (D := D) (ci := ciSS) (v := .ref (a 5)) (C := RS) (T := TS) (N := 7) hx hb hts inS hown hK.1 hP 0 rfl rfl 4 (by decide) (hts _ wd_50) (fun _ h9 => h9) rfl d_S_get_10 ?_
  refine va_getN (D := D) (ci := ciTb) (v := .ref (a 11)) (C := RT) (T := TT) (N := 2) hx hb hts inT hown hK.1 hP 5 rfl rfl 1 (by decide) (va_Nw.use rfl (hK.2.1 (.fieldLinkNest "StyleSheet" 81 "StyleSheet$Table" "values" "[[I" "StyleSheet") (by decide))) (fun _ h9 => h9) rfl d_S_get_13 ?_
  refine lv_iload_n hx hb d_S_get_16 rfl (lv_at hl 1 rfl) ?_
  refine rw_aald hx hb hK.1 hP 11 2 rfl rfl (j := j) (y := t j) (by omega) (by decide) (gOut_at (by omega)) d_S_get_17 ?_
  refine lv_iload_n hx hb d_S_get_18 rfl (lv_at hl 2 rfl) ?_
  refine rw_iald hx hb hK.1 hP (76 + j) 0 (cx_rowT (by omega)) rfl (j := p9) (by omega) (by decide) d_S_get_19 ?_
  exact hret _ _ _ _ _ _ _ _ d_S_get_20 ⟨j, hj, rfl, hq, p9, hp9, rfl, rfl, rfl⟩ hP hD hS (by decide) (by decide)

set_option maxRecDepth 100000 in
set_option maxHeartbeats 4000000 in
theorem c_resolve (l : Launch) (D : va_G) (k : Nat → ClassId) (a r t : Nat → Nat) (th kd bs us sth mk dr : Nat → Int32) (M sM : Nat → Nat → Int32) (sa : Nat → Nat) (hl9 : l.stackTraces = false) (x c9 q9 y : Int32) (sz : Nat) : bXI l y_S_resolve (wY y_S_resolve b_S_resolve 5 (some .int)) (rm9 8 4 24) Sts sa D (tsK k) (cxW k a r t th kd bs us sth mk dr M sM) sz [.ref (a 0), .int x, .int c9, .int q9, .int y] (fun v w => ∃ j : Nat, j < 256 ∧ x = nI j ∧ hsB 256 sth (nI j) = true ∧ okB th kd c9 (nI 0) = true ∧ okB th kd q9 (nI 1) = true ∧ ∃ p9 : Nat, p9 < 24 ∧ y = nI p9 ∧ v = rsF th bs us M sM j c9 q9 p9 ∧ w = cxW k a r t th kd bs us sth mk dr M sM) (fun E w => ((E = "java/util/NoSuchElementException" ∧ cdRe th kd sth x c9 q9 y = 1) ∨ (E = "java/lang/IllegalArgumentException" ∧ cdRe th kd sth x c9 q9 y = 2)) ∧ w = cxW k a r t th kd bs us sth mk dr M sM) 4 24 := by
  refine ent_xi (cc := b_S_resolve) (maxL := 5) (ty := .int) (by decide) (Nat.le_of_ble_eq_true rfl) (fun _ _ _ => rfl) ?_
  intro p e s m args below meth c A Q ls hx hb hml hown hts hsz hA hP hD hS hK hl hlk htb hE hQ hret
  refine lv_aload_n hx hb d_S_resolve_0 rfl (lv_at hl 0 rfl) ?_
  refine lv_iload_n hx hb d_S_resolve_1 rfl (lv_at hl 1 rfl) ?_
  refine cax_v (wc := cxW k a r t th kd bs us sth mk dr M sM) (wr := []) (vx_runV (As := [.int x]) (rest := []) ⟨hx, hb, hml, hown, hts⟩ (c_requireSet l D k a r t th kd bs us sth mk dr M sM sa hl9 x s.heap.size) (cwV9 1 hts wd_326 wd_323 wd_325 ws_16 wd_1 (by decide) ⟨Nat.le_of_ble_eq_true rfl, Nat.le_of_ble_eq_true rfl⟩) (prVx (q0 := 0) (ci := ciSS) hE hS hA hK hP hD (pm_nil' _) rfl rfl) rfl rfl hl.1 rfl (lv_room (Nat.le_of_ble_eq_true rfl)) d_S_resolve_2 ⟨by decide, by decide⟩) (pm_nil' _) hP hD hS hA (fun E9 ce9 ad9 w1 H locs hpx hpd hS hce hcv hcl => ?_) (fun w1 H locs hw hpd hS => ?_)
  · skip
    obtain ⟨rfl, h9, rfl⟩ := hpx
    obtain ⟨hP, hD⟩ := hpd (cxW k a r t th kd bs us sth mk dr M sM) (pm_nil _)
    exact ps_x hQ hlk htb ⟨Or.inl ⟨rfl, by simp [cdRe, h9]⟩, rfl⟩ hP hD hS hce hcv hcl (by decide) (by decide)
  obtain ⟨rfl, hq⟩ := hw
  obtain ⟨hP, hD⟩ := hpd (cxW k a r t th kd bs us sth mk dr M sM) (pm_nil _)
  refine W.widen (k := 1) (n := 6) (by decide) (by decide) ?_
  obtain ⟨j, hj, rfl, hqt⟩ := hsB_t (by decide) hq
  refine lv_aload_n hx hb d_S_resolve_5 rfl (lv_at hl 0 rfl) ?_
  refine lv_iload_n hx hb d_S_resolve_6 rfl (lv_at hl 2 rfl) ?_
  refine lv_iconst (v := nI 0) hx hb d_S_resolve_7 (by decide) ?_
  refine cax_v (wc := cxW k a r t th kd bs us sth mk dr M sM) (wr := []) (vx_runV (As := [.int c9, .int (nI 0)]) (rest := []) ⟨hx, hb, hml, hown, hts⟩ (c_requireNoneOrOfKind l D k a r t th kd bs us sth mk dr M sM sa hl9 c9 (nI 0) H.size) (cwV9 2 hts wd_192 wd_189 wd_191 ws_9 wd_1 (by decide) ⟨Nat.le_of_ble_eq_true rfl, Nat.le_of_ble_eq_true rfl⟩) (prVx (q0 := 0) (ci := ciSS) hE hS hA hK hP hD (pm_nil' _) rfl rfl) rfl rfl hl.1 rfl (lv_room (Nat.le_of_ble_eq_true rfl)) d_S_resolve_8 ⟨by decide, by decide⟩) (pm_nil' _) hP hD hS hA (fun E9 ce9 ad9 w1 H locs hpx hpd hS hce hcv hcl => ?_) (fun w1 H locs hw hpd hS => ?_)
  · skip
    obtain ⟨rfl, h9, rfl⟩ := hpx
    obtain ⟨hP, hD⟩ := hpd (cxW k a r t th kd bs us sth mk dr M sM) (pm_nil _)
    exact ps_x hQ hlk htb ⟨Or.inr (⟨rfl, by simp [cdRe, hq, h9]⟩), rfl⟩ hP hD hS hce hcv hcl (by decide) (by decide)
  obtain ⟨rfl, hc⟩ := hw
  obtain ⟨hP, hD⟩ := hpd (cxW k a r t th kd bs us sth mk dr M sM) (pm_nil _)
  refine W.widen (k := 2) (n := 12) (by decide) (by decide) ?_
  refine lv_aload_n hx hb d_S_resolve_11 rfl (lv_at hl 0 rfl) ?_
  refine lv_iload_n hx hb d_S_resolve_12 rfl (lv_at hl 3 rfl) ?_
  refine lv_iconst (v := nI 1) hx hb d_S_resolve_13 (by decide) ?_
  refine cax_v (wc := cxW k a r t th kd bs us sth mk dr M sM) (wr := []) (vx_runV (As := [.int q9, .int (nI 1)]) (rest := []) ⟨hx, hb, hml, hown, hts⟩ (c_requireNoneOrOfKind l D k a r t th kd bs us sth mk dr M sM sa hl9 q9 (nI 1) H.size) (cwV9 2 hts wd_192 wd_189 wd_191 ws_9 wd_1 (by decide) ⟨Nat.le_of_ble_eq_true rfl, Nat.le_of_ble_eq_true rfl⟩) (prVx (q0 := 0) (ci := ciSS) hE hS hA hK hP hD (pm_nil' _) rfl rfl) rfl rfl hl.1 rfl (lv_room (Nat.le_of_ble_eq_true rfl)) d_S_resolve_14 ⟨by decide, by decide⟩) (pm_nil' _) hP hD hS hA (fun E9 ce9 ad9 w1 H locs hpx hpd hS hce hcv hcl => ?_) (fun w1 H locs hw hpd hS => ?_)
  · skip
    obtain ⟨rfl, h9, rfl⟩ := hpx
    obtain ⟨hP, hD⟩ := hpd (cxW k a r t th kd bs us sth mk dr M sM) (pm_nil _)
    exact ps_x hQ hlk htb ⟨Or.inr (⟨rfl, by simp [cdRe, hq, hc, h9]⟩), rfl⟩ hP hD hS hce hcv hcl (by decide) (by decide)
  obtain ⟨rfl, hk⟩ := hw
  obtain ⟨hP, hD⟩ := hpd (cxW k a r t th kd bs us sth mk dr M sM) (pm_nil _)
  refine W.widen (k := 3) (n := 18) (by decide) (by decide) ?_
  refine lv_iload hx hb d_S_resolve_17 (lv_at hl 4 rfl) ?_
  refine cax_v (wc := []) (wr := cxW k a r t th kd bs us sth mk dr M sM) (vx_runS (As := [.int y]) (rest := []) ⟨hx, hb, hml, hown, hts⟩ (c_requireProperty l D k sa hl9 y H.size) (cwS9 1 hts wd_262 wd_260 wd_261 wd_1 (by decide) ⟨Nat.le_of_ble_eq_true rfl, Nat.le_of_ble_eq_true rfl⟩) (prSx hE hS hA hK hP hD (List.Perm.refl _)) rfl rfl hl.1 rfl (lv_room (Nat.le_of_ble_eq_true rfl)) d_S_resolve_19 ⟨by decide, by decide⟩) (List.Perm.refl _) hP hD hS hA (fun E9 ce9 ad9 w1 H locs hpx hpd hS hce hcv hcl => ?_) (fun w1 H locs hw hpd hS => ?_)
  · skip
    obtain ⟨rfl, h9, rfl⟩ := hpx
    obtain ⟨hP, hD⟩ := hpd (cxW k a r t th kd bs us sth mk dr M sM) (List.Perm.refl _)
    exact ps_x hQ hlk htb ⟨Or.inr (⟨rfl, by simp [cdRe, hq, hc, hk, h9]⟩), rfl⟩ hP hD hS hce hcv hcl (by decide) (by decide)
  obtain ⟨rfl, hp⟩ := hw
  obtain ⟨hP, hD⟩ := hpd (cxW k a r t th kd bs us sth mk dr M sM) (List.Perm.refl _)
  refine W.widen (k := 4) (n := 24) (by decide) (by decide) ?_
  obtain ⟨p9, hp9, rfl⟩ := prB_t hp
  refine lv_aload_n hx hb d_S_resolve_22 rfl (lv_at hl 0 rfl) ?_
  refine lv_iload_n hx hb d_S_resolve_23 rfl (lv_at hl 1 rfl) ?_
  refine lv_iload_n hx hb d_S_resolve_24 rfl (lv_at hl 2 rfl) ?_
  refine lv_iload_n hx hb d_S_resolve_25 rfl (lv_at hl 3 rfl) ?_
  refine lv_iload hx hb d_S_resolve_26 (lv_at hl 4 rfl) ?_
  refine cal_i (wc := cxW k a r t th kd bs us sth mk dr M sM) (wr := []) (va_runV (As := [.int (nI j), .int c9, .int q9, .int (nI p9)]) (rest := []) ⟨hx, hb, hml, hown, hts⟩ (c_resolved l D k a r t th kd bs us sth mk dr M sM j hj c9 q9 p9 hp9 H.size) (cwV9 4 hts wd_378 wd_375 wd_377 ws_20 wd_1 (by decide) ⟨Nat.le_of_ble_eq_true rfl, Nat.le_of_ble_eq_true rfl⟩) (prV (q0 := 0) (ci := ciSS) hK hP hD (pm_nil' _) rfl rfl) rfl rfl hl.1 rfl (lv_room (Nat.le_of_ble_eq_true rfl)) d_S_resolve_28 ⟨by decide, by decide⟩) (pm_nil' _) hP hD hS hA (fun r w1 H locs hw hpd hS => ?_)
  obtain ⟨rfl, rfl⟩ := hw
  obtain ⟨hP, hD⟩ := hpd (cxW k a r t th kd bs us sth mk dr M sM) (pm_nil _)
  exact hret _ _ _ _ _ _ _ _ d_S_resolve_31 ⟨j, hj, rfl, hq, hc, hk, p9, hp9, rfl, rfl, rfl⟩ hP hD hS (by decide) (by decide)

set_option maxRecDepth 100000 in
set_option maxHeartbeats 4000000 in
theorem c_differ (l : Launch) (D : va_G) (k : Nat → ClassId) (a r t : Nat → Nat) (th kd bs us sth mk dr : Nat → Int32) (M sM : Nat → Nat → Int32) (sa : Nat → Nat) (hl9 : l.stackTraces = false) (x y c9 q9 : Int32) (sz : Nat) : bXI l y_S_differ (wY y_S_differ b_S_differ 6 (some .int)) (rm9 8 4 24) Sts sa D (tsK k) (cxW k a r t th kd bs us sth mk dr M sM) sz [.ref (a 0), .int x, .int y, .int c9, .int q9] (fun v w => ∃ j : Nat, j < 256 ∧ x = nI j ∧ hsB 256 sth (nI j) = true ∧ ∃ j2 : Nat, j2 < 256 ∧ y = nI j2 ∧ hsB 256 sth (nI j2) = true ∧ okB th kd c9 (nI 0) = true ∧ okB th kd q9 (nI 1) = true ∧ v = fdF (fun i => decide (¬ rsF th bs us M sM j c9 q9 i = rsF th bs us M sM j2 c9 q9 i)) 24 0 ∧ w = cxW k a r t th kd bs us sth mk dr M sM) (fun E w => ((E = "java/util/NoSuchElementException" ∧ cdDi th kd sth x y c9 q9 = 1) ∨ (E = "java/lang/IllegalArgumentException" ∧ cdDi th kd sth x y c9 q9 = 2)) ∧ w = cxW k a r t th kd bs us sth mk dr M sM) 4 24 := by
  refine ent_xi (cc := b_S_differ) (maxL := 6) (ty := .int) (by decide) (Nat.le_of_ble_eq_true rfl) (fun _ _ _ => rfl) ?_
  intro p e s m args below meth c A Q ls hx hb hml hown hts hsz hA hP hD hS hK hl hlk htb hE hQ hret
  refine lv_aload_n hx hb d_S_differ_0 rfl (lv_at hl 0 rfl) ?_
  refine lv_iload_n hx hb d_S_differ_1 rfl (lv_at hl 1 rfl) ?_
  refine cax_v (wc := cxW k a r t th kd bs us sth mk dr M sM) (wr := []) (vx_runV (As := [.int x]) (rest := []) ⟨hx, hb, hml, hown, hts⟩ (c_requireSet l D k a r t th kd bs us sth mk dr M sM sa hl9 x s.heap.size) (cwV9 1 hts wd_326 wd_323 wd_325 ws_16 wd_1 (by decide) ⟨Nat.le_of_ble_eq_true rfl, Nat.le_of_ble_eq_true rfl⟩) (prVx (q0 := 0) (ci := ciSS) hE hS hA hK hP hD (pm_nil' _) rfl rfl) rfl rfl hl.1 rfl (lv_room (Nat.le_of_ble_eq_true rfl)) d_S_differ_2 ⟨by decide, by decide⟩) (pm_nil' _) hP hD hS hA (fun E9 ce9 ad9 w1 H locs hpx hpd hS hce hcv hcl => ?_) (fun w1 H locs hw hpd hS => ?_)
  · skip
    obtain ⟨rfl, h9, rfl⟩ := hpx
    obtain ⟨hP, hD⟩ := hpd (cxW k a r t th kd bs us sth mk dr M sM) (pm_nil _)
    exact ps_x hQ hlk htb ⟨Or.inl ⟨rfl, by simp [cdDi, h9]⟩, rfl⟩ hP hD hS hce hcv hcl (by decide) (by decide)
  obtain ⟨rfl, hq⟩ := hw
  obtain ⟨hP, hD⟩ := hpd (cxW k a r t th kd bs us sth mk dr M sM) (pm_nil _)
  refine W.widen (k := 1) (n := 6) (by decide) (by decide) ?_
  obtain ⟨j, hj, rfl, hqt⟩ := hsB_t (by decide) hq
  refine lv_aload_n hx hb d_S_differ_5 rfl (lv_at hl 0 rfl) ?_
  refine lv_iload_n hx hb d_S_differ_6 rfl (lv_at hl 2 rfl) ?_
  refine cax_v (wc := cxW k a r t th kd bs us sth mk dr M sM) (wr := []) (vx_runV (As := [.int y]) (rest := []) ⟨hx, hb, hml, hown, hts⟩ (c_requireSet l D k a r t th kd bs us sth mk dr M sM sa hl9 y H.size) (cwV9 1 hts wd_326 wd_323 wd_325 ws_16 wd_1 (by decide) ⟨Nat.le_of_ble_eq_true rfl, Nat.le_of_ble_eq_true rfl⟩) (prVx (q0 := 0) (ci := ciSS) hE hS hA hK hP hD (pm_nil' _) rfl rfl) rfl rfl hl.1 rfl (lv_room (Nat.le_of_ble_eq_true rfl)) d_S_differ_7 ⟨by decide, by decide⟩) (pm_nil' _) hP hD hS hA (fun E9 ce9 ad9 w1 H locs hpx hpd hS hce hcv hcl => ?_) (fun w1 H locs hw hpd hS => ?_)
  · skip
    obtain ⟨rfl, h9, rfl⟩ := hpx
    obtain ⟨hP, hD⟩ := hpd (cxW k a r t th kd bs us sth mk dr M sM) (pm_nil _)
    exact ps_x hQ hlk htb ⟨Or.inl ⟨rfl, by simp [cdDi, hq, h9]⟩, rfl⟩ hP hD hS hce hcv hcl (by decide) (by decide)
  obtain ⟨rfl, hq2⟩ := hw
  obtain ⟨hP, hD⟩ := hpd (cxW k a r t th kd bs us sth mk dr M sM) (pm_nil _)
  refine W.widen (k := 2) (n := 12) (by decide) (by decide) ?_
  obtain ⟨j2, hj2, rfl, hq2t⟩ := hsB_t (by decide) hq2
  refine lv_aload_n hx hb d_S_differ_10 rfl (lv_at hl 0 rfl) ?_
  refine lv_iload_n hx hb d_S_differ_11 rfl (lv_at hl 3 rfl) ?_
  refine lv_iconst (v := nI 0) hx hb d_S_differ_12 (by decide) ?_
  refine cax_v (wc := cxW k a r t th kd bs us sth mk dr M sM) (wr := []) (vx_runV (As := [.int c9, .int (nI 0)]) (rest := []) ⟨hx, hb, hml, hown, hts⟩ (c_requireNoneOrOfKind l D k a r t th kd bs us sth mk dr M sM sa hl9 c9 (nI 0) H.size) (cwV9 2 hts wd_192 wd_189 wd_191 ws_9 wd_1 (by decide) ⟨Nat.le_of_ble_eq_true rfl, Nat.le_of_ble_eq_true rfl⟩) (prVx (q0 := 0) (ci := ciSS) hE hS hA hK hP hD (pm_nil' _) rfl rfl) rfl rfl hl.1 rfl (lv_room (Nat.le_of_ble_eq_true rfl)) d_S_differ_13 ⟨by decide, by decide⟩) (pm_nil' _) hP hD hS hA (fun E9 ce9 ad9 w1 H locs hpx hpd hS hce hcv hcl => ?_) (fun w1 H locs hw hpd hS => ?_)
  · skip
    obtain ⟨rfl, h9, rfl⟩ := hpx
    obtain ⟨hP, hD⟩ := hpd (cxW k a r t th kd bs us sth mk dr M sM) (pm_nil _)
    exact ps_x hQ hlk htb ⟨Or.inr (⟨rfl, by simp [cdDi, hq, hq2, h9]⟩), rfl⟩ hP hD hS hce hcv hcl (by decide) (by decide)
  obtain ⟨rfl, hc⟩ := hw
  obtain ⟨hP, hD⟩ := hpd (cxW k a r t th kd bs us sth mk dr M sM) (pm_nil _)
  refine W.widen (k := 3) (n := 18) (by decide) (by decide) ?_
  refine lv_aload_n hx hb d_S_differ_16 rfl (lv_at hl 0 rfl) ?_
  refine lv_iload hx hb d_S_differ_17 (lv_at hl 4 rfl) ?_
  refine lv_iconst (v := nI 1) hx hb d_S_differ_19 (by decide) ?_
  refine cax_v (wc := cxW k a r t th kd bs us sth mk dr M sM) (wr := []) (vx_runV (As := [.int q9, .int (nI 1)]) (rest := []) ⟨hx, hb, hml, hown, hts⟩ (c_requireNoneOrOfKind l D k a r t th kd bs us sth mk dr M sM sa hl9 q9 (nI 1) H.size) (cwV9 2 hts wd_192 wd_189 wd_191 ws_9 wd_1 (by decide) ⟨Nat.le_of_ble_eq_true rfl, Nat.le_of_ble_eq_true rfl⟩) (prVx (q0 := 0) (ci := ciSS) hE hS hA hK hP hD (pm_nil' _) rfl rfl) rfl rfl hl.1 rfl (lv_room (Nat.le_of_ble_eq_true rfl)) d_S_differ_20 ⟨by decide, by decide⟩) (pm_nil' _) hP hD hS hA (fun E9 ce9 ad9 w1 H locs hpx hpd hS hce hcv hcl => ?_) (fun w1 H locs hw hpd hS => ?_)
  · skip
    obtain ⟨rfl, h9, rfl⟩ := hpx
    obtain ⟨hP, hD⟩ := hpd (cxW k a r t th kd bs us sth mk dr M sM) (pm_nil _)
    exact ps_x hQ hlk htb ⟨Or.inr (⟨rfl, by simp [cdDi, hq, hq2, hc, h9]⟩), rfl⟩ hP hD hS hce hcv hcl (by decide) (by decide)
  obtain ⟨rfl, hk⟩ := hw
  obtain ⟨hP, hD⟩ := hpd (cxW k a r t th kd bs us sth mk dr M sM) (pm_nil _)
  refine W.widen (k := 4) (n := 24) (by decide) (by decide) ?_
  refine lv_iconst (v := nI 0) hx hb d_S_differ_23 (by decide) ?_
  refine lv_istore (lv' := [(5, .int (nI 0)), (0, .ref (a 0)), (1, .int (nI j)), (2, .int (nI j2)), (3, .int c9), (4, .int q9)]) hx hb d_S_differ_24 hl (by decide) rfl (fun ls hl => ?_)
  have lp : ∀ (n9 : Nat) (i : Nat) (ls : Array Slot) (H : Heap) (locs : List Loc), 24 - i < n9 → (i ≤ 24) → (fdF (fun i => decide (¬ rsF th bs us M sM j c9 q9 i = rsF th bs us M sM j2 c9 q9 i)) 24 0 = fdF (fun i => decide (¬ rsF th bs us M sM j c9 q9 i = rsF th bs us M sM j2 c9 q9 i)) (24 - i) i) → va_P D vwCl (cxW k a r t th kd bs us sth mk dr M sM) H → va_D A (cxW k a r t th kd bs us sth mk dr M sM) → va_S A s.heap H locs → lv_has ls 6 [(0, .ref (a 0)), (1, .int (nI j)), (2, .int (nI j2)), (3, .int c9), (4, .int q9), (5, .int (nI i))] → W p l e (rm9 8 4 24) s m args below meth c H locs 4 24 Q (F0 m 26 ls []) := by
    intro n9
    induction n9 with
    | zero => intro i ls H locs hm; omega
    | succ n9 ih =>
      intro i ls H locs hm hi hf hP hD hS hl
      refine lv_iload hx hb d_S_differ_26 (lv_at hl 5 rfl) ?_
      refine lv_bipush (v := nI 24) hx hb d_S_differ_28 (by decide) ?_
      refine lv_icmp_ge (tgt := 65) hx hb d_S_differ_30 (by decide) (fun c30 => ?_) (fun c30 => ?_)
      · skip
        rw [nI_leI (by omega) (by omega)] at c30
        refine lv_iconst (v := -1) hx hb d_S_differ_65 (by decide) ?_
        exact hret _ _ _ _ _ _ _ _ d_S_differ_66 ⟨j, hj, rfl, hq, j2, hj2, rfl, hq2, hc, hk, by rw [hf, fdF_end (by omega)], rfl⟩ hP hD hS (by decide) (by decide)
      · skip
        rw [nI_leI (by omega) (by omega)] at c30
        refine lv_aload_n hx hb d_S_differ_33 rfl (lv_at hl 0 rfl) ?_
        refine lv_iload_n hx hb d_S_differ_34 rfl (lv_at hl 1 rfl) ?_
        refine lv_iload_n hx hb d_S_differ_35 rfl (lv_at hl 3 rfl) ?_
        refine lv_iload hx hb d_S_differ_36 (lv_at hl 4 rfl) ?_
        refine lv_iload hx hb d_S_differ_38 (lv_at hl 5 rfl) ?_
        refine cal_i (wc := cxW k a r t th kd bs us sth mk dr M sM) (wr := []) (va_runV (As := [.int (nI j), .int c9, .int q9, .int (nI i)]) (rest := []) ⟨hx, hb, hml, hown, hts⟩ (c_resolved l D k a r t th kd bs us sth mk dr M sM j hj c9 q9 i (by omega) H.size) (cwV9 4 hts wd_378 wd_375 wd_377 ws_20 wd_1 (by decide) ⟨Nat.le_of_ble_eq_true rfl, Nat.le_of_ble_eq_true rfl⟩) (prV (q0 := 0) (ci := ciSS) hK hP hD (pm_nil' _) rfl rfl) rfl rfl hl.1 rfl (lv_room (Nat.le_of_ble_eq_true rfl)) d_S_differ_40 ⟨by decide, by decide⟩) (pm_nil' _) hP hD hS hA (fun r w1 H locs hw hpd hS => ?_)
        obtain ⟨rfl, rfl⟩ := hw
        obtain ⟨hP, hD⟩ := hpd (cxW k a r t th kd bs us sth mk dr M sM) (pm_nil _)
        refine lv_aload_n hx hb d_S_differ_43 rfl (lv_at hl 0 rfl) ?_
        refine lv_iload_n hx hb d_S_differ_44 rfl (lv_at hl 2 rfl) ?_
        refine lv_iload_n hx hb d_S_differ_45 rfl (lv_at hl 3 rfl) ?_
        refine lv_iload hx hb d_S_differ_46 (lv_at hl 4 rfl) ?_
        refine lv_iload hx hb d_S_differ_48 (lv_at hl 5 rfl) ?_
        refine cal_i (wc := cxW k a r t th kd bs us sth mk dr M sM) (wr := []) (va_runV (As := [.int (nI j2), .int c9, .int q9, .int (nI i)]) (rest := [.int (rsF th bs us M sM j c9 q9 i)]) ⟨hx, hb, hml, hown, hts⟩ (c_resolved l D k a r t th kd bs us sth mk dr M sM j2 hj2 c9 q9 i (by omega) H.size) (cwV9 4 hts wd_378 wd_375 wd_377 ws_20 wd_1 (by decide) ⟨Nat.le_of_ble_eq_true rfl, Nat.le_of_ble_eq_true rfl⟩) (prV (q0 := 0) (ci := ciSS) hK hP hD (pm_nil' _) rfl rfl) rfl rfl hl.1 rfl (lv_room (Nat.le_of_ble_eq_true rfl)) d_S_differ_50 ⟨by decide, by decide⟩) (pm_nil' _) hP hD hS hA (fun r w1 H locs hw hpd hS => ?_)
        obtain ⟨rfl, rfl⟩ := hw
        obtain ⟨hP, hD⟩ := hpd (cxW k a r t th kd bs us sth mk dr M sM) (pm_nil _)
        refine lv_icmp_eq (tgt := 59) hx hb d_S_differ_53 (by decide) (fun c53 => ?_) (fun c53 => ?_)
        · skip
          refine lv_iinc (v := nI (i + 1)) (lv' := [(5, .int (nI (i + 1))), (0, .ref (a 0)), (1, .int (nI j)), (2, .int (nI j2)), (3, .int c9), (4, .int q9)]) hx hb d_S_differ_59 hl (k := 5) rfl (ii_1 _) (by decide) rfl (fun ls hl => ?_)
          refine lv_goto (tgt := 26) hx hb d_S_differ_62 (by decide) ?_
          exact ih (i + 1) ls H locs (by omega) (by omega) (by rw [hf]; exact fdF_miss (by omega) (by simp [c53])) hP hD hS (lv_sub hl [1, 2, 3, 4, 5, 0] rfl)
        · skip
          refine lv_iload hx hb d_S_differ_56 (lv_at hl 5 rfl) ?_
          exact hret _ _ _ _ _ _ _ _ d_S_differ_58 ⟨j, hj, rfl, hq, j2, hj2, rfl, hq2, hc, hk, by rw [hf, fdF_hit (by omega) (by simp [c53])], rfl⟩ hP hD hS (by decide) (by decide)
  exact lp _ (0) ls H locs (Nat.lt_succ_self _) (by decide) rfl hP hD hS (lv_sub hl [1, 2, 3, 4, 5, 0] rfl)

set_option maxRecDepth 100000 in
set_option maxHeartbeats 4000000 in
theorem c_mark (l : Launch) (D : va_G) (k : Nat → ClassId) (a r t : Nat → Nat) (th kd bs us sth mk dr : Nat → Int32) (M sM : Nat → Nat → Int32) (sa : Nat → Nat) (hl9 : l.stackTraces = false) (x : Int32) (sz : Nat) : bXI l y_S_mark (wY y_S_mark b_S_mark 4 (some .int)) (rm9 8 1 6) Sts sa D (tsK k) (cxW k a r t th kd bs us sth mk dr M sM) sz [.ref (a 0), .int x] (fun v w => ∃ j : Nat, j < 256 ∧ x = nI j ∧ hsB 256 sth (nI j) = true ∧ v = nI (cnF (fun i => decide (upd mk j (nI 1) i ≠ 0)) 256) ∧ w = cxW k a r t th kd bs us sth (upd mk j (nI 1)) dr M sM) (fun E w => ((E = "java/util/NoSuchElementException" ∧ cdMa sth x = 1)) ∧ w = cxW k a r t th kd bs us sth mk dr M sM) 1 6 := by
  refine ent_xi (cc := b_S_mark) (maxL := 4) (ty := .int) (by decide) (Nat.le_of_ble_eq_true rfl) (fun _ _ _ => rfl) ?_
  intro p e s m args below meth c A Q ls hx hb hml hown hts hsz hA hP hD hS hK hl hlk htb hE hQ hret
  refine lv_aload_n hx hb d_S_mark_0 rfl (lv_at hl 0 rfl) ?_
  refine lv_iload_n hx hb d_S_mark_1 rfl (lv_at hl 1 rfl) ?_
  refine cax_v (wc := cxW k a r t th kd bs us sth mk dr M sM) (wr := []) (vx_runV (As := [.int x]) (rest := []) ⟨hx, hb, hml, hown, hts⟩ (c_requireSet l D k a r t th kd bs us sth mk dr M sM sa hl9 x s.heap.size) (cwV9 1 hts wd_326 wd_323 wd_325 ws_16 wd_1 (by decide) ⟨Nat.le_of_ble_eq_true rfl, Nat.le_of_ble_eq_true rfl⟩) (prVx (q0 := 0) (ci := ciSS) hE hS hA hK hP hD (pm_nil' _) rfl rfl) rfl rfl hl.1 rfl (lv_room (Nat.le_of_ble_eq_true rfl)) d_S_mark_2 ⟨by decide, by decide⟩) (pm_nil' _) hP hD hS hA (fun E9 ce9 ad9 w1 H locs hpx hpd hS hce hcv hcl => ?_) (fun w1 H locs hw hpd hS => ?_)
  · skip
    obtain ⟨rfl, h9, rfl⟩ := hpx
    obtain ⟨hP, hD⟩ := hpd (cxW k a r t th kd bs us sth mk dr M sM) (pm_nil _)
    exact ps_x hQ hlk htb ⟨⟨rfl, by simp [cdMa, h9]⟩, rfl⟩ hP hD hS hce hcv hcl (by decide) (by decide)
  obtain ⟨rfl, hq⟩ := hw
  obtain ⟨hP, hD⟩ := hpd (cxW k a r t th kd bs us sth mk dr M sM) (pm_nil _)
  refine W.widen (k := 1) (n := 6) (by decide) (by decide) ?_
  obtain ⟨j, hj, rfl, hqt⟩ := hsB_t (by decide) hq
  refine lv_aload_n hx hb d_S_mark_5 rfl (lv_at hl 0 rfl) ?_
  refine va_get (D := D) (ci := ciSS) (v := .ref (a 6)) (C := RS) (T := TS) (N := 7) hx hb hts inS hown hK.1 hP 0 rfl rfl 5 (by decide) (hts _ wd_51) (fun _ h9 => h9) rfl d_S_mark_6 ?_
  refine lv_iload_n hx hb d_S_mark_9 rfl (lv_at hl 1 rfl) ?_
  refine lv_iconst (v := nI 1) hx hb d_S_mark_10 (by decide) ?_
  refine rw_zast hx hb hK.1 hP hD hS 6 1 rfl rfl (j := j) bz_1 (by omega) (by decide) d_S_mark_11 (wn := cxW k a r t th kd bs us sth (upd mk j (nI 1)) dr M sM) rfl (fun H locs hP hD hS => ?_)
  refine lv_iconst (v := nI 0) hx hb d_S_mark_12 (by decide) ?_
  refine lv_istore_n (lv' := [(2, .int (nI 0)), (0, .ref (a 0)), (1, .int (nI j))]) hx hb d_S_mark_13 rfl hl (by decide) rfl (fun ls hl => ?_)
  refine lv_iconst (v := nI 0) hx hb d_S_mark_14 (by decide) ?_
  refine lv_istore_n (lv' := [(3, .int (nI 0)), (2, .int (nI 0)), (0, .ref (a 0)), (1, .int (nI j))]) hx hb d_S_mark_15 rfl hl (by decide) rfl (fun ls hl => ?_)
  have lp : ∀ (n9 : Nat) (i : Nat) (ls : Array Slot) (H : Heap) (locs : List Loc), 256 - i < n9 → (i ≤ 256) → va_P D vwCl (cxW k a r t th kd bs us sth (upd mk j (nI 1)) dr M sM) H → va_D A (cxW k a r t th kd bs us sth (upd mk j (nI 1)) dr M sM) → va_S A s.heap H locs → lv_has ls 4 [(0, .ref (a 0)), (1, .int (nI j)), (2, .int (nI (cnF (fun i => decide (upd mk j (nI 1) i ≠ 0)) i))), (3, .int (nI i))] → W p l e (rm9 8 1 6) s m args below meth c H locs 1 6 Q (F0 m 16 ls []) := by
    intro n9
    induction n9 with
    | zero => intro i ls H locs hm; omega
    | succ n9 ih =>
      intro i ls H locs hm hi hP hD hS hl
      refine lv_iload_n hx hb d_S_mark_16 rfl (lv_at hl 3 rfl) ?_
      refine lv_sipush (v := nI 256) hx hb d_S_mark_17 (by decide) ?_
      refine lv_icmp_ge (tgt := 41) hx hb d_S_mark_20 (by decide) (fun c20 => ?_) (fun c20 => ?_)
      · skip
        rw [nI_leI (by omega) (by omega)] at c20
        refine lv_iload_n hx hb d_S_mark_41 rfl (lv_at hl 2 rfl) ?_
        exact hret _ _ _ _ _ _ _ _ d_S_mark_42 ⟨j, hj, rfl, hq, by rw [show i = 256 by omega], rfl⟩ hP hD hS (by decide) (by decide)
      · skip
        rw [nI_leI (by omega) (by omega)] at c20
        refine lv_aload_n hx hb d_S_mark_23 rfl (lv_at hl 0 rfl) ?_
        refine va_get (D := D) (ci := ciSS) (v := .ref (a 6)) (C := RS) (T := TS) (N := 7) hx hb hts inS hown hK.1 hP 0 rfl rfl 5 (by decide) (hts _ wd_51) (fun _ h9 => h9) rfl d_S_mark_24 ?_
        refine lv_iload_n hx hb d_S_mark_27 rfl (lv_at hl 3 rfl) ?_
        refine rw_zald hx hb hK.1 hP 6 1 rfl rfl (j := i) (by omega) (by decide) d_S_mark_28 ?_
        refine lv_if_eq (tgt := 35) hx hb d_S_mark_29 (by decide) (fun c29 => ?_) (fun c29 => ?_)
        · skip
          rw [cnF_f (f := (fun i => decide (upd mk j (nI 1) i ≠ 0))) (by simp [c29])] at hl
          refine lv_iinc (v := nI (i + 1)) (lv' := [(3, .int (nI (i + 1))), (0, .ref (a 0)), (1, .int (nI j)), (2, .int (nI (cnF (fun i => decide (upd mk j (nI 1) i ≠ 0)) (i + 1))))]) hx hb d_S_mark_35 hl (k := 3) rfl (ii_1 _) (by decide) rfl (fun ls hl => ?_)
          refine lv_goto (tgt := 16) hx hb d_S_mark_38 (by decide) ?_
          exact ih (i + 1) ls H locs (by omega) (by omega) hP hD hS (lv_sub hl [1, 2, 3, 0] rfl)
        · skip
          refine lv_iinc (v := nI ((cnF (fun i => decide (upd mk j (nI 1) i ≠ 0)) i) + 1)) (lv' := [(2, .int (nI ((cnF (fun i => decide (upd mk j (nI 1) i ≠ 0)) i) + 1))), (0, .ref (a 0)), (1, .int (nI j)), (3, .int (nI i))]) hx hb d_S_mark_32 hl (k := 2) rfl (ii_1 _) (by decide) rfl (fun ls hl => ?_)
          rw [cnF_t (f := (fun i => decide (upd mk j (nI 1) i ≠ 0))) (by simp [c29])] at hl
          refine lv_iinc (v := nI (i + 1)) (lv' := [(3, .int (nI (i + 1))), (2, .int (nI (cnF (fun i => decide (upd mk j (nI 1) i ≠ 0)) (i + 1)))), (0, .ref (a 0)), (1, .int (nI j))]) hx hb d_S_mark_35 hl (k := 3) rfl (ii_1 _) (by decide) rfl (fun ls hl => ?_)
          refine lv_goto (tgt := 16) hx hb d_S_mark_38 (by decide) ?_
          exact ih (i + 1) ls H locs (by omega) (by omega) hP hD hS (lv_sub hl [2, 3, 1, 0] rfl)
  exact lp _ (0) ls H locs (Nat.lt_succ_self _) (by decide) hP hD hS (lv_sub hl [2, 3, 1, 0] rfl)
