/-! THE LAW from its entry, and the claim -/
theorem nW_lw : ∀ w ∈ nW, w ∈ lw_tbl := by decide +kernel
def R_law : String := "StyleSheetLaw"
def lw_P (b : Addr) (xs : List Int32) (args : Array Value) (s : State) : Prop := args = #[.ref b] ∧ s.IntsAt b xs ∧ xs.length ≤ 2560 ∧ (Jvm.Cond.and given_1 narrow_1).before args s = true
def lw_Q (_ : Array Value) (s : State) (o : Outcome) (t : State) : Prop := o = .returned (some (.int 1)) ∧ Framed s o t [] 601024 7293034
def lw_Z (below : List Frame) (a : Array Value) (s : State) : State → Prop := fun t => ∃ o, t.status = .running ∧ Ended t below o ∧ lw_Q a s o t
/-- the law's own end, with 1 on the stack, nothing written that was there before, its room as the claim has it -/
theorem lw_ret {p : Program} {l : Launch} {e : Env} {s : State} {m : MethodId} {below : List Frame} {meth : Method} {c : Code} {b : Nat} (hx : p.tables.exec = Jvm.exec) (hb : c.code = code) (hr : meth.sig.returnType = ret) (hlocks : meth.locks = false) {pc : Nat} {H : Heap} {ls : Array Slot} (hdg : decode code pc = .ok (.ireturn, 1)) : W p l e room_1 s m #[Value.ref b] below meth c H [] 601024 7293034 (lw_Z below #[Value.ref b] s) (F0 m pc ls [.int 1]) := by
  intro T hT X
  obtain ⟨fs, hret, hrun, hended, hW, hframe⟩ := X.leave (v := some (.int 1)) (hlocks := hlocks) (fun h => by rw [hr] at h; cases h)
  have hmeth' : T.vm.method? m = some meth := X.method'
  refine ⟨T.setFrames fs, ?_, .returned (some (.int 1)), hrun, hended, rfl, ⟨_, rfl⟩, hW, hframe⟩
  jvm_step X.here [X.here.top, hx, hb, hdg, hmeth', hr, ret, narrow_b1]
  (try refine ⟨rfl, ?_⟩); (try refine ⟨rfl, ?_⟩)
  first | (intro acts; rw [hret _ acts rfl rfl rfl]) | rw [hret _ _ rfl rfl rfl]
  exact Steps.refl _
/-- what holds at the law's entry: the machine, the code, the tables' words (any of lw_tbl by 'hts w (by decide +kernel)'), the script of L ints xs at the cell b, what the Statement gives of the start (any of its parts by flat_of_before) -/
def lw_At (p : Program) (s : State) (m : MethodId) (meth : Method) (c : Code) (b L : Nat) (xs : Nat → Int32) : Prop :=
  p.tables.exec = Jvm.exec ∧ c.code = code ∧ meth.sig.returnType = ret ∧ c.maxLocals = 7 ∧ s.vm.findClass R_law = some m.cls ∧ (∀ w ∈ lw_tbl, w.before #[Value.ref b] s = true) ∧ va_X b L xs s s.heap ∧ b < s.heap.size ∧ meth.locks = false ∧ (Jvm.Cond.and given_1 narrow_1).before #[Value.ref b] s = true
theorem st_R {args : Array Value} {s : State} {own tx : String} {k : Nat} (h1 : (Cond.stringRef own k tx).before args s = true) (h2 : (Cond.exactly (.string own k) "java/lang/String").before args s = true) : ∃ a : Nat, vk_R own k tx a s := by
  obtain ⟨a, c, cA, kA, q1, -⟩ := Cond.exactly_spec (args := args) (first := s) (o := none) (s := s) (idx := []) (t := .string own k) (cls := "java/lang/String") h2
  exact ⟨a, vk_R.of h1 q1⟩
set_option maxRecDepth 100000 in
set_option maxHeartbeats 4000000 in
theorem whole_start {p : Program} {e : Env} {s : State} {m : MethodId} {below : List Frame} {meth : Method} {c : Code} (l : Launch) (hl9 : l.stackTraces = false) {b L : Nat} {xs : Nat → Int32} (hL : L ≤ 2560) (C0 : lw_At p s m meth c b L xs) : W p l e room_1 s m #[Value.ref b] below meth c s.heap [] 0 0 (lw_Z below #[Value.ref b] s) (entryFrame m ([Value.ref b] : List Value).toArray 7) := by
  obtain ⟨hx, hb, hr, hml, hown, hts0, hX, hbl, hlocks, hgv⟩ := id C0
  have hts : ∀ w ∈ wG, w.before #[Value.ref b] s = true := fun w hw => hts0 w (List.mem_filter.mp hw).1
  have hfl := flat_of_before _ hgv
  obtain ⟨A, hAe⟩ : ∃ A : Nat → Prop, A = fun q => s.heap.size ≤ q := ⟨_, rfl⟩
  have hA : ∀ q : Nat, s.heap.size ≤ q → A q := fun q h => by rw [hAe]; exact h
  have hA2 : ∀ q : Nat, A q → s.heap.size ≤ q := fun q h => by rw [hAe] at h; exact h
  have hbA : ¬ A b := fun h => Nat.not_le.mpr hbl (hA2 b h)
  have hA3 : ∀ q : Nat, q < s.heap.size → ¬ A q := fun q hq h => Nat.not_le.mpr hq (hA2 q h)
  obtain ⟨cC0, iS0, hKn0⟩ := u_known (C := RT) (T := TT) (N := 2) (n := 2) hts inT (hts _ wd_22)
  obtain ⟨cC1, iS1, hKn1⟩ := u_known (C := RS) (T := TS) (N := 7) (n := 7) hts inS (hts _ wd_14)
  obtain ⟨cC2, iS2, hKn2⟩ := u_known (C := RM) (T := TM) (N := 9) (n := 9) hts inM (hts _ wd_394)
  obtain ⟨D, hKc⟩ : ∃ D : va_G, ∀ (k : Nat) (q : vw_C), vwCl[k]? = some q → u_Kn s q.1 q.2.1 q.2.2 (D.1 k) (D.2 k) := by
    refine ⟨(fun k => if k = 0 then cC0 else if k = 1 then cC1 else cC2, fun k => if k = 0 then iS0 else if k = 1 then iS1 else iS2), ?_⟩
    intro k q hq
    match k, hq with
    | 0, hq => cases hq; exact hKn0
    | 1, hq => cases hq; exact hKn1
    | 2, hq => cases hq; exact hKn2
    | k + 3, hq => simp [vwCl] at hq
  obtain ⟨y0, z0, o0, f0, g0, h0⟩ := Cond.arrayClass_spec (type := .int) (hts _ wd_41)
  obtain ⟨y1, z1, o1, f1, g1, h1⟩ := Cond.arrayClass_spec (type := .boolean) (hts _ wd_40)
  obtain ⟨y3, z3, o3, f3, g3, h3⟩ := Cond.arrayClass_spec (type := .long) (hts _ wd_573)
  have hAO : va_AOA .int s := hts0 _ wn_28
  obtain ⟨o2, y2, z2, -, -, g2, h2, f2⟩ := ao_spec hAO
  obtain ⟨k, hk0, hk1, hk2, hk3⟩ : ∃ k : Nat → ClassId, k 0 = y0 ∧ k 1 = y1 ∧ k 2 = y2 ∧ k 3 = y3 := ⟨fun i => match i with | 0 => y0 | 1 => y1 | 2 => y2 | _ => y3, rfl, rfl, rfl, rfl⟩
  subst hk0; subst hk1; subst hk2; subst hk3
  have hK : bK D (tsK k) s := by
    refine ⟨⟨hKc, ?_⟩, fun w hw => va_Nw.of (nW_tab w hw) (hts0 w (nW_lw w hw)), hAO⟩
    intro j q hq
    match j, hq with
    | 0, hq => cases hq; exact ⟨fun N z => ⟨(fun k h => by cases h), z0, g0, o0, h0⟩, f0⟩
    | 1, hq => cases hq; exact ⟨fun N z => ⟨(fun k h => by cases h), z1, g1, o1, h1⟩, f1⟩
    | 2, hq => cases hq; exact ⟨fun N z => ⟨(fun k h => by cases h), z2, g2, o2, h2⟩, f2⟩
    | 3, hq => cases hq; exact ⟨fun N z => ⟨(fun k h => by cases h), z3, g3, o3, h3⟩, f3⟩
    | j + 4, hq => simp [tsK] at hq
  obtain ⟨s0, hs0⟩ := st_R (hts0 _ wn_162) (hfl (Cond.exactly (.string "StyleSheet" 43) "java/lang/String") (by decide +kernel))
  obtain ⟨s1, hs1⟩ := st_R (hts0 _ wn_193) (hfl (Cond.exactly (.string "StyleSheet" 137) "java/lang/String") (by decide +kernel))
  obtain ⟨s2, hs2⟩ := st_R (hts0 _ wn_207) (hfl (Cond.exactly (.string "StyleSheet" 58) "java/lang/String") (by decide +kernel))
  obtain ⟨s3, hs3⟩ := st_R (hts0 _ wn_235) (hfl (Cond.exactly (.string "StyleSheet" 132) "java/lang/String") (by decide +kernel))
  obtain ⟨s4, hs4⟩ := st_R (hts0 _ wn_263) (hfl (Cond.exactly (.string "StyleSheet" 139) "java/lang/String") (by decide +kernel))
  obtain ⟨s5, hs5⟩ := st_R (hts0 _ wn_274) (hfl (Cond.exactly (.string "StyleSheet" 144) "java/lang/String") (by decide +kernel))
  obtain ⟨s6, hs6⟩ := st_R (hts0 _ wn_308) (hfl (Cond.exactly (.string "StyleSheet" 102) "java/lang/String") (by decide +kernel))
  obtain ⟨s7, hs7⟩ := st_R (hts0 _ wn_327) (hfl (Cond.exactly (.string "StyleSheet" 135) "java/lang/String") (by decide +kernel))
  obtain ⟨s8, hs8⟩ := st_R (hts0 _ wn_339) (hfl (Cond.exactly (.string "StyleSheet" 156) "java/lang/String") (by decide +kernel))
  obtain ⟨sa, hsa⟩ : ∃ sa : Nat → Nat, ∀ (i : Nat) (q : String × Nat × String), Sts[i]? = some q → vk_R q.1 q.2.1 q.2.2 (sa i) s := by
    refine ⟨fun i => match i with | 0 => s0 | 1 => s1 | 2 => s2 | 3 => s3 | 4 => s4 | 5 => s5 | 6 => s6 | 7 => s7 | _ => s8, ?_⟩
    intro i q hq
    match i, hq with
    | 0, hq => cases hq; exact hs0
    | 1, hq => cases hq; exact hs1
    | 2, hq => cases hq; exact hs2
    | 3, hq => cases hq; exact hs3
    | 4, hq => cases hq; exact hs4
    | 5, hq => cases hq; exact hs5
    | 6, hq => cases hq; exact hs6
    | 7, hq => cases hq; exact hs7
    | 8, hq => cases hq; exact hs8
    | i + 9, hq => simp [Sts] at hq
  have hE : bEV Sts sa A s s.heap := ⟨vx_Zqof (hts0 _ wn_148) (hts _ wd_5) (hfl _ (by decide +kernel)) hA3, vx_Zqof (hts0 _ wn_150) (hts _ wd_5) (hfl _ (by decide +kernel)) hA3, hsa⟩
  have hN : lNc s := ⟨va_Nc.of (hfl _ (by decide +kernel)), va_Nc.of (hfl _ (by decide +kernel)), va_Nc.of (hfl _ (by decide +kernel))⟩
  have hS : va_S A s.heap s.heap [] := va_S.rf
  have hP : va_P D vwCl [] s.heap := fun k q h => by simp at h
  have hD : va_D A [] := ⟨fun i j p q h => by simp at h, fun k q h => by simp at h⟩
  have hl := lv_entry ([.ref b]) (n := 7) (Nat.le_of_ble_eq_true rfl)
  rw [lg_entry_eq]
  generalize (lg_sl ([.ref b]) ++ List.replicate (7 - (lg_sl ([.ref b])).length) Slot.unset).toArray = ls at hl ⊢
  have hl : lv_has ls 7 [(0, .ref b)] := hl
  refine va_new (ci := ciSS) (fs := [.null, .null, .null, .null, .null, .null, .null]) (C := RS) (T := TS) (N := 7) hx hb hts inS tyS ttS hown (hts _ wd_13) (hts _ wd_14) (hts _ wd_1) hK.1 hP hD hS hA rfl (fun j hj => by rcases (show j = 0 ∨ j = 1 ∨ j = 2 ∨ j = 3 ∨ j = 4 ∨ j = 5 ∨ j = 6 by omega) with rfl | rfl | rfl | rfl | rfl | rfl | rfl <;> rfl) (by decide) (by decide) d_L_law_0 (fun q0 H hP hD hS => ?_)
  have hP : va_P D vwCl ([(q0, .inr (ciSS, [.null, .null, .null, .null, .null, .null, .null]))]) H := hP
  have hD : va_D A ([(q0, .inr (ciSS, [.null, .null, .null, .null, .null, .null, .null]))]) := hD
  refine W.widen (k := 1) (n := 7) (by decide) (by decide) ?_
  refine lv_dup hx hb d_L_law_3 rfl ?_
  refine cal_v (wc := [(q0, .inr (ciSS, [.null, .null, .null, .null, .null, .null, .null]))]) (wr := []) (va_runI (As := []) (rest := [.ref q0]) ⟨hx, hb, hml, hown, hts⟩ (c_Sinit l D k q0 H.size) (cwI9 0 hts wd_17 wd_15 wd_16 wd_1 rfl (by decide) ⟨Nat.le_of_ble_eq_true rfl, Nat.le_of_ble_eq_true rfl⟩) (prS (As := [.ref q0]) hK hP hD (pm_nil' _)) rfl rfl hl.1 rfl (lv_room (Nat.le_of_ble_eq_true rfl)) d_L_law_4 ⟨by decide, by decide⟩) (pm_nil' _) hP hD hS hA (fun w1 H locs hw hpd hS => ?_)
  obtain ⟨a, r, t, ha0, rfl⟩ := hw
  subst ha0
  obtain ⟨hP, hD⟩ := hpd (cxW k a r t (fun _ => 0) (fun _ => 0) (fun _ => 0) (fun _ => 0) (upd (fun _ => 0) 0 (nI 1)) (fun _ => 0) (fun _ => 0) (fun _ _ => -1) (fun _ _ => -1)) (pm_nil _)
  refine W.widen (k := 332) (n := 8763) (by decide) (by decide) ?_
  refine lv_astore_n (lv' := [(1, .ref (a 0)), (0, .ref b)]) hx hb d_L_law_7 rfl hl (by decide) rfl (fun ls hl => ?_)
  refine va_new (ci := ciMo) (fs := [.int 0, .null, .null, .null, .null, .null, .null, .null, .null]) (C := RM) (T := TM) (N := 9) hx hb hts inM tyM ttM hown (hts _ wd_393) (hts _ wd_394) (hts _ wd_4) hK.1 hP hD hS hA rfl (fun j hj => by rcases (show j = 0 ∨ j = 1 ∨ j = 2 ∨ j = 3 ∨ j = 4 ∨ j = 5 ∨ j = 6 ∨ j = 7 ∨ j = 8 by omega) with rfl | rfl | rfl | rfl | rfl | rfl | rfl | rfl | rfl <;> rfl) (by decide) (by decide) d_L_law_8 (fun q8 H hP hD hS => ?_)
  have hP : va_P D vwCl (cxW k a r t (fun _ => 0) (fun _ => 0) (fun _ => 0) (fun _ => 0) (upd (fun _ => 0) 0 (nI 1)) (fun _ => 0) (fun _ => 0) (fun _ _ => -1) (fun _ _ => -1) ++ [(q8, .inr (ciMo, [.int 0, .null, .null, .null, .null, .null, .null, .null, .null]))]) H := hP
  have hD : va_D A (cxW k a r t (fun _ => 0) (fun _ => 0) (fun _ => 0) (fun _ => 0) (upd (fun _ => 0) 0 (nI 1)) (fun _ => 0) (fun _ => 0) (fun _ _ => -1) (fun _ _ => -1) ++ [(q8, .inr (ciMo, [.int 0, .null, .null, .null, .null, .null, .null, .null, .null]))]) := hD
  refine W.widen (k := 333) (n := 8772) (by decide) (by decide) ?_
  refine lv_dup hx hb d_L_law_11 rfl ?_
  refine cal_v (wc := [(q8, .inr (ciMo, [.int 0, .null, .null, .null, .null, .null, .null, .null, .null]))]) (wr := cxW k a r t (fun _ => 0) (fun _ => 0) (fun _ => 0) (fun _ => 0) (upd (fun _ => 0) 0 (nI 1)) (fun _ => 0) (fun _ => 0) (fun _ _ => -1) (fun _ _ => -1)) (va_runI (As := []) (rest := [.ref q8]) ⟨hx, hb, hml, hown, hts⟩ (c_Minit l D k q8 H.size) (cwI9 0 hts wd_397 wd_395 wd_396 wd_4 rfl (by decide) ⟨Nat.le_of_ble_eq_true rfl, Nat.le_of_ble_eq_true rfl⟩) (prS (As := [.ref q8]) hK hP hD (pm_cm _ _)) rfl rfl hl.1 rfl (lv_room (Nat.le_of_ble_eq_true rfl)) d_L_law_12 ⟨by decide, by decide⟩) (pm_cm _ _) hP hD hS hA (fun w1 H locs hw hpd hS => ?_)
  obtain ⟨bb, hb0, rfl⟩ := hw
  subst hb0
  obtain ⟨hP, hD⟩ := hpd (cxW k a r t (fun _ => 0) (fun _ => 0) (fun _ => 0) (fun _ => 0) (upd (fun _ => 0) 0 (nI 1)) (fun _ => 0) (fun _ => 0) (fun _ _ => -1) (fun _ _ => -1) ++ mdW k bb 0 (pfF (fun _ => -1) (fun _ => 0) 64) ((fun _ => 0)) ((fun _ => 0)) ((fun _ => 0)) (upd (fun _ => 0) 0 (nI 1)) ((fun _ => 0)) (pfF (fun _ => -1) (fun _ => 0) 24) ((fun _ => 0))) (pm_cm _ _)
  refine W.widen (k := 341) (n := 17140) (by decide) (by decide) ?_
  refine lv_astore_n (lv' := [(2, .ref (bb 0)), (1, .ref (a 0)), (0, .ref b)]) hx hb d_L_law_15 rfl hl (by decide) rfl (fun ls hl => ?_)
  refine lv_iconst (v := nI 1) hx hb d_L_law_16 (by decide) ?_
  refine va_newa (atype := .long) (ty := .long) (N' := 1) (a0 := (1, .inr (.inl (fun _ => 0)))) hx hb (hts _ wd_573) rfl hK.1 hP hD hS hA (fun cA => rfl) (by decide) (by decide) (by decide) (by decide) (by decide) d_L_law_17 (fun ob cA H hKn hP hD hS => ?_)
  obtain rfl : cA = k 3 := ka_eq (hKn.2 4 _ rfl).2 (hK.1.2 3 _ rfl).2
  have hP : va_P D vwCl (((ob, .inl (k 3, 1, .inr (.inl (fun _ => 0)))) :: cxW k a r t (fun _ => 0) (fun _ => 0) (fun _ => 0) (fun _ => 0) (upd (fun _ => 0) 0 (nI 1)) (fun _ => 0) (fun _ => 0) (fun _ _ => -1) (fun _ _ => -1)) ++ mdW k bb 0 (pfF (fun _ => -1) (fun _ => 0) 64) ((fun _ => 0)) ((fun _ => 0)) ((fun _ => 0)) (upd (fun _ => 0) 0 (nI 1)) ((fun _ => 0)) (pfF (fun _ => -1) (fun _ => 0) 24) ((fun _ => 0))) H := bs_pmP (pm_cm2 _ _) hP
  have hD : va_D A (((ob, .inl (k 3, 1, .inr (.inl (fun _ => 0)))) :: cxW k a r t (fun _ => 0) (fun _ => 0) (fun _ => 0) (fun _ => 0) (upd (fun _ => 0) 0 (nI 1)) (fun _ => 0) (fun _ => 0) (fun _ _ => -1) (fun _ _ => -1)) ++ mdW k bb 0 (pfF (fun _ => -1) (fun _ => 0) 64) ((fun _ => 0)) ((fun _ => 0)) ((fun _ => 0)) (upd (fun _ => 0) 0 (nI 1)) ((fun _ => 0)) (pfF (fun _ => -1) (fun _ => 0) 24) ((fun _ => 0))) := bs_pmD (pm_cm2 _ _) hD
  refine W.widen (k := 342) (n := 17141) (by decide) (by decide) ?_
  refine lv_astore_n (lv' := [(3, .ref ob), (2, .ref (bb 0)), (1, .ref (a 0)), (0, .ref b)]) hx hb d_L_law_19 rfl hl (by decide) rfl (fun ls hl => ?_)
  refine lv_iconst (v := nI 0) hx hb d_L_law_20 (by decide) ?_
  refine lv_istore (lv' := [(4, .int (nI 0)), (3, .ref ob), (2, .ref (bb 0)), (1, .ref (a 0)), (0, .ref b)]) hx hb d_L_law_21 hl (by decide) rfl (fun ls hl => ?_)
  refine law_loop l D k a r t bb ob sa A _ b L xs hl9 hx hb hml hown hts hA hK hE hN hX hbl hbA hL ?_ (L + 1) (fun _ => 0) (fun _ => 0) (fun _ => 0) (fun _ => 0) (upd (fun _ => 0) 0 (nI 1)) (fun _ => 0) (fun _ => 0) (fun _ _ => -1) (fun _ _ => -1) 0 (pfF (fun _ => -1) (fun _ => 0) 64) (fun _ => 0) (fun _ => 0) (fun _ => 0) (upd (fun _ => 0) 0 (nI 1)) (fun _ => 0) (pfF (fun _ => -1) (fun _ => 0) 24) (fun _ => 0) (fun _ => 0) 0 342 17141 H _ ls (by omega) (Nat.zero_le L) (by omega) (by omega) RI_init hP hD hS (lv_sub hl [4, 3, 2, 1, 0] rfl)
  intro H locs ls cells slots hz hc hs
  refine va_forget (fun q hq => hA2 _ (hz q hq)) ?_
  refine W.widen hc hs ?_
  exact lw_ret hx hb hr hlocks d_L_law_1241
set_option maxHeartbeats 4000000 in
theorem lw_walk (l : Launch) (hl9 : l.stackTraces = false) (b : Addr) (xs : List Int32) : MetFree l x (headSpec (Jvm.Cond.code x code maxLocals ret :: tables_1) room_1) (lw_P b xs) (fun _ _ _ _ _ => True) lw_Q := by
  refine MetFree.of_bodyS (code := code) (maxLocals := maxLocals) (ret := ret) (by decide) ?_ ?_
  · intro args s m h hn
    obtain ⟨meth, c, h1, h2, h3, h4, h5, h6, -, -⟩ := Cond.code_spec hn (atoms_spec (ws := Jvm.Cond.code x code maxLocals ret :: tables_1) h _ List.mem_cons_self)
    exact ⟨meth, c, h1, h2, h3, h4, h5, h6⟩
  · intro p e s m args below meth c s₁ B hml0 hP _
    obtain ⟨rfl, hx, hbd, hgv⟩ := hP
    obtain ⟨scr, harrAt, hlist, hof, hsmall⟩ := hx
    obtain ⟨hcb, hkn, -, -⟩ := State.arrayAt?_spec harrAt
    have hown : s.vm.findClass R_law = some m.cls := findClass_of_methodNamed B.named
    have hts0 : ∀ c ∈ (Jvm.Cond.code x code maxLocals ret :: tables_1), c.before #[Value.ref b] s = true := atoms_spec (ws := Jvm.Cond.code x code maxLocals ret :: tables_1) B.pre
    have hts : ∀ w ∈ lw_tbl, w.before #[Value.ref b] s = true := k2_hts_sels lw_privs (fun w hw => hts0 w (List.mem_cons_of_mem _ hw)) lw_privs_ok
    have hml : c.maxLocals = 7 := B.maxLocals_eq (hts0 _ List.mem_cons_self)
    have X₀ : Stand p l e room_1 s m #[Value.ref b] below meth c s₁ [] 0 0 := Stand.of_body B
    have hh0 : s₁.heap = s.heap := by rw [B.state]; rfl
    have hsz : scr.slots.size = xs.length := by rw [← Array.length_toList, hlist, List.length_map]
    have hval : ∀ j : Nat, j < xs.length → scr.slots[j]? = some (.int (xs.getD j 0)) := fun j hj => by
      rw [← Array.getElem?_toList, hlist]
      simp [hj]
    have hbl : b < s.heap.size := (Array.getElem?_eq_some_iff.mp hcb).1
    have hX : va_X b xs.length (fun j => xs.getD j 0) s s.heap := ⟨scr, hcb, hof, hkn, hsz, hval⟩
    have K : W p l e room_1 s m #[Value.ref b] below meth c s₁.heap [] 0 0 (lw_Z below #[Value.ref b] s) (entryFrame m ([Value.ref b] : List Value).toArray 7) := by
      rw [hh0]
      exact whole_start l hl9 hbd ⟨B.exec, B.bytes, B.returns, hml, hown, hts, hX, hbl, B.notSynchronized, hgv⟩
    obtain ⟨t, a1, o, b1, b2, b3⟩ := K s₁ rfl X₀
    exact ⟨t, o, a1, b1, b2, b3⟩
theorem lw_pre_spec {args : Array Value} {s : State} (h : (Jvm.Cond.and given_1 narrow_1).before args s = true) (hr : rest_1_c.before args s = true) : ∃ (b : Addr) (xs : List Int32), lw_P b xs args s := by
  have hs := flat_of_before _ h
  have hq := flat_of_before _ hr
  have hc : (Cond.count 1).before args s = true := hs _ (by decide +kernel)
  have harr : (Cond.arrayOf (.arg 0) .int).before args s = true := hs _ (by decide +kernel)
  have hle : (Cond.le (.length (.arg 0)) (.int 2560)).before args s = true := hs _ (by decide +kernel)
  have hlen : (Cond.isInt (.length (.arg 0))).before args s = true := hq _ (by decide +kernel)
  have hall : (Cond.all (.arg 0) (.isInt (.elem (.arg 0) (.index 0)))).before args s = true := hq _ (by decide +kernel)
  obtain ⟨b, xs, hb, hx⟩ := State.ints_of_pre rfl harr hlen hall
  have hsm : xs.length < 2 ^ 31 := hx.choose_spec.2.2.2
  have hev : (Term.length (.arg 0)).eval args s none [] s = some (.int xs.length.toInt32) := hx.length_eval hb
  have hv := Cond.le_ints hev (show (Term.int 2560).eval args s none [] s = some (.int 2560) from rfl)
  have hd : xs.length.toInt32 ≤ 2560 := by
    simpa [Cond.before, Cond.holds, hv] using hle
  have hN : xs.length ≤ 2560 := (Int32.ofNat_le_ofNat hsm (by decide)).mp (show Int32.ofNat xs.length ≤ Int32.ofNat 2560 from hd)
  exact ⟨b, xs, Cond.one_arg hc (show args[0]? = some (.ref b) from hb), hx, hN, h⟩
theorem lw_comes (l : Launch) (hl9 : l.stackTraces = false) : Comes l x (Jvm.Cond.code x code maxLocals ret :: tables_1) room_1 (fun tb e args s => Calls_1 tb e args s ∧ rest_1 tb e args s ∧ Pre_1 tb e args s)
    (fun _ _ args s o t => lw_Q args s o t) := by
  intro p e ha hc hk s m args below hf hfit hheap happ hpre
  obtain ⟨b, xs, hP⟩ := lw_pre_spec hpre.2.2 hpre.2.1
  obtain ⟨k, o, h1, h2, h3, hQ⟩ := lw_walk l hl9 b xs p e ha hc hk s m args below hf ((Spec.applies_iff_loose hf).mp happ).1 hP trivial
  exact ⟨k, o, h1, h2, h3, hQ⟩
theorem lw_frame {s t : State} {o : Outcome} {args : Array Value} (h : Framed s o t [] 601024 7293034) :
    Framed s o t (fieldLocs frame_1_writes args s ++ arrayLocs frame_1_arrays args s ++ staticLocs frame_1_statics s) 601024 7293034 := h
theorem lw_limb (L : Cond) (hL : ∀ (args : Array Value) (s t : State), L.after args s (.returned (some (.int 1))) t = true) :
    ArmFor flags0 classFile x code maxLocals ret World_1 tables_1 room_1 Calls_1 rest_1 Pre_1
      (fun tb e a s o t => postC L tb e a s o t ∧ Framed s o t (fieldLocs frame_1_writes a s ++ arrayLocs frame_1_arrays a s ++ staticLocs frame_1_statics s) 601024 7293034) := by
  intro l hfl _ _ p e ha hc hk s m args below hf hfit hheap happ hpre
  have hl9 : l.stackTraces = false := by unfold Launch.stackTraces; rw [hfl]; decide
  obtain ⟨k, o, h1, h2, h3, rfl, hF⟩ := lw_comes l hl9 p e ha hc hk s m args below hf hfit hheap happ hpre
  exact ⟨k, _, h1, h2, h3, hL args s _, lw_frame hF⟩
theorem i_vc : Claimed_1_1 ∧ Claimed_1_2 := ⟨lw_limb limb_1_1 (fun args s t => by simp [limb_1_1, Cond.after, Cond.holds, Cond.value]), lw_limb limb_1_2 (fun args s t => Cond.after_iff.mpr (by
  first | (rw [show limb_1_2 = Cond.eq .result (.int 1) from rfl, Cond.eq_ints (x := 1) (y := 1) rfl rfl]; simp; done) | (simp [limb_1_2, Cond.value, Term.eval]; done)))⟩
