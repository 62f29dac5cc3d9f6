section
/-- a private method of a class that the tables say can be made, by its rows of tables_1 -/
def lw_okq (q : MethodName × Nat) : Prop := (q.1.cls ≠ "java/lang/invoke/MethodHandle" ∧ q.1.cls ≠ "java/lang/invoke/VarHandle") ∧ Cond.instantiable q.1.cls q.2 ∈ tables_1 ∧ Cond.privateMethod q.1 ∈ tables_1 ∧ Cond.instanceMethod q.1 ∈ tables_1
theorem lw_p0 : lw_okq (⟨"StyleSheet$Table", "add", "(I)V"⟩, 2) := ⟨⟨by decide +kernel, by decide +kernel⟩, List.mem_of_getElem? (i := 22) (by decide +kernel), List.mem_of_getElem? (i := 43) (by decide +kernel), List.mem_of_getElem? (i := 44) (by decide +kernel)⟩
theorem lw_p1 : lw_okq (⟨"StyleSheet$Table", "has", "(I)Z"⟩, 2) := ⟨⟨by decide +kernel, by decide +kernel⟩, List.mem_of_getElem? (i := 22) (by decide +kernel), List.mem_of_getElem? (i := 73) (by decide +kernel), List.mem_of_getElem? (i := 74) (by decide +kernel)⟩
theorem lw_p2 : lw_okq (⟨"StyleSheet$Table", "valuesIn", "(I)I"⟩, 2) := ⟨⟨by decide +kernel, by decide +kernel⟩, List.mem_of_getElem? (i := 22) (by decide +kernel), List.mem_of_getElem? (i := 77) (by decide +kernel), List.mem_of_getElem? (i := 78) (by decide +kernel)⟩
theorem lw_p3 : lw_okq (⟨"StyleSheet$Table", "remove", "(I)V"⟩, 2) := ⟨⟨by decide +kernel, by decide +kernel⟩, List.mem_of_getElem? (i := 22) (by decide +kernel), List.mem_of_getElem? (i := 85) (by decide +kernel), List.mem_of_getElem? (i := 86) (by decide +kernel)⟩
theorem lw_p4 : lw_okq (⟨"StyleSheet$Table", "howMany", "()I"⟩, 2) := ⟨⟨by decide +kernel, by decide +kernel⟩, List.mem_of_getElem? (i := 22) (by decide +kernel), List.mem_of_getElem? (i := 93) (by decide +kernel), List.mem_of_getElem? (i := 94) (by decide +kernel)⟩
theorem lw_p5 : lw_okq (⟨"StyleSheet$Table", "valuesInAll", "()I"⟩, 2) := ⟨⟨by decide +kernel, by decide +kernel⟩, List.mem_of_getElem? (i := 22) (by decide +kernel), List.mem_of_getElem? (i := 97) (by decide +kernel), List.mem_of_getElem? (i := 98) (by decide +kernel)⟩
theorem lw_p6 : lw_okq (⟨"StyleSheet", "longestChain", "()I"⟩, 7) := ⟨⟨by decide +kernel, by decide +kernel⟩, List.mem_of_getElem? (i := 14) (by decide +kernel), List.mem_of_getElem? (i := 102) (by decide +kernel), List.mem_of_getElem? (i := 103) (by decide +kernel)⟩
theorem lw_p7 : lw_okq (⟨"StyleSheet", "chainLength", "(I)I"⟩, 7) := ⟨⟨by decide +kernel, by decide +kernel⟩, List.mem_of_getElem? (i := 14) (by decide +kernel), List.mem_of_getElem? (i := 106) (by decide +kernel), List.mem_of_getElem? (i := 107) (by decide +kernel)⟩
theorem lw_p8 : lw_okq (⟨"java/lang/Throwable", "fillInStackTrace", "(I)Ljava/lang/Throwable;"⟩, 6) := ⟨⟨by decide +kernel, by decide +kernel⟩, List.mem_of_getElem? (i := 160) (by decide +kernel), List.mem_of_getElem? (i := 158) (by decide +kernel), List.mem_of_getElem? (i := 159) (by decide +kernel)⟩
theorem lw_p9 : lw_okq (⟨"StyleSheet", "requireNoneOrOfKind", "(II)V"⟩, 7) := ⟨⟨by decide +kernel, by decide +kernel⟩, List.mem_of_getElem? (i := 14) (by decide +kernel), List.mem_of_getElem? (i := 190) (by decide +kernel), List.mem_of_getElem? (i := 191) (by decide +kernel)⟩
theorem lw_p10 : lw_okq (⟨"StyleSheet$Table", "leastFree", "()I"⟩, 2) := ⟨⟨by decide +kernel, by decide +kernel⟩, List.mem_of_getElem? (i := 22) (by decide +kernel), List.mem_of_getElem? (i := 195) (by decide +kernel), List.mem_of_getElem? (i := 196) (by decide +kernel)⟩
theorem lw_p11 : lw_okq (⟨"StyleSheet", "requireStyle", "(I)V"⟩, 7) := ⟨⟨by decide +kernel, by decide +kernel⟩, List.mem_of_getElem? (i := 14) (by decide +kernel), List.mem_of_getElem? (i := 223) (by decide +kernel), List.mem_of_getElem? (i := 224) (by decide +kernel)⟩
theorem lw_p12 : lw_okq (⟨"StyleSheet", "isOnChain", "(II)Z"⟩, 7) := ⟨⟨by decide +kernel, by decide +kernel⟩, List.mem_of_getElem? (i := 14) (by decide +kernel), List.mem_of_getElem? (i := 250) (by decide +kernel), List.mem_of_getElem? (i := 251) (by decide +kernel)⟩
theorem lw_p13 : lw_okq (⟨"StyleSheet", "valueByChain", "(II)I"⟩, 7) := ⟨⟨by decide +kernel, by decide +kernel⟩, List.mem_of_getElem? (i := 14) (by decide +kernel), List.mem_of_getElem? (i := 283) (by decide +kernel), List.mem_of_getElem? (i := 284) (by decide +kernel)⟩
theorem lw_p14 : lw_okq (⟨"StyleSheet", "giverOnChain", "(II)I"⟩, 7) := ⟨⟨by decide +kernel, by decide +kernel⟩, List.mem_of_getElem? (i := 14) (by decide +kernel), List.mem_of_getElem? (i := 287) (by decide +kernel), List.mem_of_getElem? (i := 288) (by decide +kernel)⟩
theorem lw_p15 : lw_okq (⟨"StyleSheet", "othersBuiltOn", "(I)I"⟩, 7) := ⟨⟨by decide +kernel, by decide +kernel⟩, List.mem_of_getElem? (i := 14) (by decide +kernel), List.mem_of_getElem? (i := 305) (by decide +kernel), List.mem_of_getElem? (i := 306) (by decide +kernel)⟩
def lw_privs_1 : List (MethodName × Nat) := [(⟨"StyleSheet$Table", "add", "(I)V"⟩, 2), (⟨"StyleSheet$Table", "has", "(I)Z"⟩, 2), (⟨"StyleSheet$Table", "valuesIn", "(I)I"⟩, 2), (⟨"StyleSheet$Table", "remove", "(I)V"⟩, 2), (⟨"StyleSheet$Table", "howMany", "()I"⟩, 2), (⟨"StyleSheet$Table", "valuesInAll", "()I"⟩, 2), (⟨"StyleSheet", "longestChain", "()I"⟩, 7), (⟨"StyleSheet", "chainLength", "(I)I"⟩, 7), (⟨"java/lang/Throwable", "fillInStackTrace", "(I)Ljava/lang/Throwable;"⟩, 6), (⟨"StyleSheet", "requireNoneOrOfKind", "(II)V"⟩, 7), (⟨"StyleSheet$Table", "leastFree", "()I"⟩, 2), (⟨"StyleSheet", "requireStyle", "(I)V"⟩, 7), (⟨"StyleSheet", "isOnChain", "(II)Z"⟩, 7), (⟨"StyleSheet", "valueByChain", "(II)I"⟩, 7), (⟨"StyleSheet", "giverOnChain", "(II)I"⟩, 7), (⟨"StyleSheet", "othersBuiltOn", "(I)I"⟩, 7)]
theorem lw_r1 : ∀ q ∈ lw_privs_1, lw_okq q := List.forall_mem_cons.mpr ⟨lw_p0, List.forall_mem_cons.mpr ⟨lw_p1, List.forall_mem_cons.mpr ⟨lw_p2, List.forall_mem_cons.mpr ⟨lw_p3, List.forall_mem_cons.mpr ⟨lw_p4, List.forall_mem_cons.mpr ⟨lw_p5, List.forall_mem_cons.mpr ⟨lw_p6, List.forall_mem_cons.mpr ⟨lw_p7, List.forall_mem_cons.mpr ⟨lw_p8, List.forall_mem_cons.mpr ⟨lw_p9, List.forall_mem_cons.mpr ⟨lw_p10, List.forall_mem_cons.mpr ⟨lw_p11, List.forall_mem_cons.mpr ⟨lw_p12, List.forall_mem_cons.mpr ⟨lw_p13, List.forall_mem_cons.mpr ⟨lw_p14, List.forall_mem_cons.mpr ⟨lw_p15, fun _ h => absurd h List.not_mem_nil⟩⟩⟩⟩⟩⟩⟩⟩⟩⟩⟩⟩⟩⟩⟩⟩
theorem lw_p16 : lw_okq (⟨"StyleSheet", "requireSet", "(I)V"⟩, 7) := ⟨⟨by decide +kernel, by decide +kernel⟩, List.mem_of_getElem? (i := 14) (by decide +kernel), List.mem_of_getElem? (i := 324) (by decide +kernel), List.mem_of_getElem? (i := 325) (by decide +kernel)⟩
theorem lw_p17 : lw_okq (⟨"StyleSheet", "numberOfDraft", "()I"⟩, 7) := ⟨⟨by decide +kernel, by decide +kernel⟩, List.mem_of_getElem? (i := 14) (by decide +kernel), List.mem_of_getElem? (i := 329) (by decide +kernel), List.mem_of_getElem? (i := 330) (by decide +kernel)⟩
theorem lw_p18 : lw_okq (⟨"StyleSheet$Table", "numberOf", "([I)I"⟩, 2) := ⟨⟨by decide +kernel, by decide +kernel⟩, List.mem_of_getElem? (i := 22) (by decide +kernel), List.mem_of_getElem? (i := 333) (by decide +kernel), List.mem_of_getElem? (i := 334) (by decide +kernel)⟩
theorem lw_p19 : lw_okq (⟨"StyleSheet", "resolvedByStyles", "(III)I"⟩, 7) := ⟨⟨by decide +kernel, by decide +kernel⟩, List.mem_of_getElem? (i := 14) (by decide +kernel), List.mem_of_getElem? (i := 358) (by decide +kernel), List.mem_of_getElem? (i := 359) (by decide +kernel)⟩
theorem lw_p20 : lw_okq (⟨"StyleSheet", "resolved", "(IIII)I"⟩, 7) := ⟨⟨by decide +kernel, by decide +kernel⟩, List.mem_of_getElem? (i := 14) (by decide +kernel), List.mem_of_getElem? (i := 376) (by decide +kernel), List.mem_of_getElem? (i := 377) (by decide +kernel)⟩
theorem lw_p21 : lw_okq (⟨"StyleSheetModel", "isOf", "(II)Z"⟩, 9) := ⟨⟨by decide +kernel, by decide +kernel⟩, List.mem_of_getElem? (i := 394) (by decide +kernel), List.mem_of_getElem? (i := 439) (by decide +kernel), List.mem_of_getElem? (i := 440) (by decide +kernel)⟩
theorem lw_p22 : lw_okq (⟨"StyleSheetModel", "isStyle", "(I)Z"⟩, 9) := ⟨⟨by decide +kernel, by decide +kernel⟩, List.mem_of_getElem? (i := 394) (by decide +kernel), List.mem_of_getElem? (i := 443) (by decide +kernel), List.mem_of_getElem? (i := 444) (by decide +kernel)⟩
theorem lw_p23 : lw_okq (⟨"StyleSheetModel", "comes", "(II)Z"⟩, 9) := ⟨⟨by decide +kernel, by decide +kernel⟩, List.mem_of_getElem? (i := 394) (by decide +kernel), List.mem_of_getElem? (i := 455) (by decide +kernel), List.mem_of_getElem? (i := 456) (by decide +kernel)⟩
theorem lw_p24 : lw_okq (⟨"StyleSheetModel", "valueOf", "(II)I"⟩, 9) := ⟨⟨by decide +kernel, by decide +kernel⟩, List.mem_of_getElem? (i := 394) (by decide +kernel), List.mem_of_getElem? (i := 474) (by decide +kernel), List.mem_of_getElem? (i := 475) (by decide +kernel)⟩
theorem lw_p25 : lw_okq (⟨"StyleSheetModel", "first", "(II)I"⟩, 9) := ⟨⟨by decide +kernel, by decide +kernel⟩, List.mem_of_getElem? (i := 394) (by decide +kernel), List.mem_of_getElem? (i := 478) (by decide +kernel), List.mem_of_getElem? (i := 479) (by decide +kernel)⟩
theorem lw_p26 : lw_okq (⟨"StyleSheetModel", "chain", "(I)I"⟩, 9) := ⟨⟨by decide +kernel, by decide +kernel⟩, List.mem_of_getElem? (i := 394) (by decide +kernel), List.mem_of_getElem? (i := 490) (by decide +kernel), List.mem_of_getElem? (i := 491) (by decide +kernel)⟩
theorem lw_p27 : lw_okq (⟨"StyleSheetModel", "owned", "(I)I"⟩, 9) := ⟨⟨by decide +kernel, by decide +kernel⟩, List.mem_of_getElem? (i := 394) (by decide +kernel), List.mem_of_getElem? (i := 494) (by decide +kernel), List.mem_of_getElem? (i := 495) (by decide +kernel)⟩
theorem lw_p28 : lw_okq (⟨"StyleSheetModel", "isSet", "(I)Z"⟩, 9) := ⟨⟨by decide +kernel, by decide +kernel⟩, List.mem_of_getElem? (i := 394) (by decide +kernel), List.mem_of_getElem? (i := 506) (by decide +kernel), List.mem_of_getElem? (i := 507) (by decide +kernel)⟩
theorem lw_p29 : lw_okq (⟨"StyleSheetModel", "want", "(I)V"⟩, 9) := ⟨⟨by decide +kernel, by decide +kernel⟩, List.mem_of_getElem? (i := 394) (by decide +kernel), List.mem_of_getElem? (i := 510) (by decide +kernel), List.mem_of_getElem? (i := 511) (by decide +kernel)⟩
theorem lw_p30 : lw_okq (⟨"StyleSheetModel", "found", "(I)I"⟩, 9) := ⟨⟨by decide +kernel, by decide +kernel⟩, List.mem_of_getElem? (i := 394) (by decide +kernel), List.mem_of_getElem? (i := 514) (by decide +kernel), List.mem_of_getElem? (i := 515) (by decide +kernel)⟩
theorem lw_p31 : lw_okq (⟨"StyleSheetModel", "isWanted", "(I)Z"⟩, 9) := ⟨⟨by decide +kernel, by decide +kernel⟩, List.mem_of_getElem? (i := 394) (by decide +kernel), List.mem_of_getElem? (i := 518) (by decide +kernel), List.mem_of_getElem? (i := 519) (by decide +kernel)⟩
def lw_privs_2 : List (MethodName × Nat) := [(⟨"StyleSheet", "requireSet", "(I)V"⟩, 7), (⟨"StyleSheet", "numberOfDraft", "()I"⟩, 7), (⟨"StyleSheet$Table", "numberOf", "([I)I"⟩, 2), (⟨"StyleSheet", "resolvedByStyles", "(III)I"⟩, 7), (⟨"StyleSheet", "resolved", "(IIII)I"⟩, 7), (⟨"StyleSheetModel", "isOf", "(II)Z"⟩, 9), (⟨"StyleSheetModel", "isStyle", "(I)Z"⟩, 9), (⟨"StyleSheetModel", "comes", "(II)Z"⟩, 9), (⟨"StyleSheetModel", "valueOf", "(II)I"⟩, 9), (⟨"StyleSheetModel", "first", "(II)I"⟩, 9), (⟨"StyleSheetModel", "chain", "(I)I"⟩, 9), (⟨"StyleSheetModel", "owned", "(I)I"⟩, 9), (⟨"StyleSheetModel", "isSet", "(I)Z"⟩, 9), (⟨"StyleSheetModel", "want", "(I)V"⟩, 9), (⟨"StyleSheetModel", "found", "(I)I"⟩, 9), (⟨"StyleSheetModel", "isWanted", "(I)Z"⟩, 9)]
theorem lw_r2 : ∀ q ∈ lw_privs_2, lw_okq q := List.forall_mem_cons.mpr ⟨lw_p16, List.forall_mem_cons.mpr ⟨lw_p17, List.forall_mem_cons.mpr ⟨lw_p18, List.forall_mem_cons.mpr ⟨lw_p19, List.forall_mem_cons.mpr ⟨lw_p20, List.forall_mem_cons.mpr ⟨lw_p21, List.forall_mem_cons.mpr ⟨lw_p22, List.forall_mem_cons.mpr ⟨lw_p23, List.forall_mem_cons.mpr ⟨lw_p24, List.forall_mem_cons.mpr ⟨lw_p25, List.forall_mem_cons.mpr ⟨lw_p26, List.forall_mem_cons.mpr ⟨lw_p27, List.forall_mem_cons.mpr ⟨lw_p28, List.forall_mem_cons.mpr ⟨lw_p29, List.forall_mem_cons.mpr ⟨lw_p30, List.forall_mem_cons.mpr ⟨lw_p31, fun _ h => absurd h List.not_mem_nil⟩⟩⟩⟩⟩⟩⟩⟩⟩⟩⟩⟩⟩⟩⟩⟩
theorem lw_p32 : lw_okq (⟨"StyleSheetModel", "areStyles", "(II)Z"⟩, 9) := ⟨⟨by decide +kernel, by decide +kernel⟩, List.mem_of_getElem? (i := 394) (by decide +kernel), List.mem_of_getElem? (i := 530) (by decide +kernel), List.mem_of_getElem? (i := 531) (by decide +kernel)⟩
theorem lw_p33 : lw_okq (⟨"StyleSheetModel", "beneath", "(III)I"⟩, 9) := ⟨⟨by decide +kernel, by decide +kernel⟩, List.mem_of_getElem? (i := 394) (by decide +kernel), List.mem_of_getElem? (i := 534) (by decide +kernel), List.mem_of_getElem? (i := 535) (by decide +kernel)⟩
theorem lw_p34 : lw_okq (⟨"StyleSheetModel", "sized", "(I)I"⟩, 9) := ⟨⟨by decide +kernel, by decide +kernel⟩, List.mem_of_getElem? (i := 394) (by decide +kernel), List.mem_of_getElem? (i := 546) (by decide +kernel), List.mem_of_getElem? (i := 547) (by decide +kernel)⟩
theorem lw_p35 : lw_okq (⟨"StyleSheetModel", "resolved", "(IIII)I"⟩, 9) := ⟨⟨by decide +kernel, by decide +kernel⟩, List.mem_of_getElem? (i := 394) (by decide +kernel), List.mem_of_getElem? (i := 554) (by decide +kernel), List.mem_of_getElem? (i := 555) (by decide +kernel)⟩
def lw_privs_3 : List (MethodName × Nat) := [(⟨"StyleSheetModel", "areStyles", "(II)Z"⟩, 9), (⟨"StyleSheetModel", "beneath", "(III)I"⟩, 9), (⟨"StyleSheetModel", "sized", "(I)I"⟩, 9), (⟨"StyleSheetModel", "resolved", "(IIII)I"⟩, 9)]
theorem lw_r3 : ∀ q ∈ lw_privs_3, lw_okq q := List.forall_mem_cons.mpr ⟨lw_p32, List.forall_mem_cons.mpr ⟨lw_p33, List.forall_mem_cons.mpr ⟨lw_p34, List.forall_mem_cons.mpr ⟨lw_p35, fun _ h => absurd h List.not_mem_nil⟩⟩⟩⟩
def lw_privs : List (MethodName × Nat) := lw_privs_1 ++ (lw_privs_2 ++ (lw_privs_3))
def lw_tbl : List Cond := k2_sels lw_privs ++ tables_1
theorem lw_privs_ok : ∀ q ∈ lw_privs, lw_okq q := by
  show ∀ q ∈ lw_privs_1 ++ (lw_privs_2 ++ (lw_privs_3)), lw_okq q
  exact List.forall_mem_append.mpr ⟨lw_r1, List.forall_mem_append.mpr ⟨lw_r2, lw_r3⟩⟩
/-! the good words, for every method alike; each by its place -/
def wG : List Cond := lw_tbl.filter goodWord
theorem wG_good : ∀ w ∈ wG, (w.onTables && w.keeps) = true ∨ ∃ ty, w = .arrayClass ty := fun _ h => good_of_word (List.mem_filter.mp h).2
theorem wG_tb {w : Cond} (i : Nat) (h : tables_1[i]? = some w) (g : goodWord w = true) : w ∈ wG := List.mem_filter.mpr ⟨List.mem_append_right _ (List.mem_of_getElem? h), g⟩
theorem wG_sl {w : Cond} (i : Nat) (h : (k2_sels lw_privs)[i]? = some w) (g : goodWord w = true) : w ∈ wG := List.mem_filter.mpr ⟨List.mem_append_left _ (List.mem_of_getElem? h), g⟩
theorem wd_0 : (Cond.initialized "StyleSheetLaw") ∈ wG := wG_tb 0 (by decide +kernel) (by decide +kernel)
theorem wd_1 : (Cond.initialized "StyleSheet") ∈ wG := wG_tb 1 (by decide +kernel) (by decide +kernel)
theorem wd_2 : (Cond.initialized "StyleSheet$Table") ∈ wG := wG_tb 2 (by decide +kernel) (by decide +kernel)
theorem wd_3 : (Cond.initialized "java/util/Arrays") ∈ wG := wG_tb 3 (by decide +kernel) (by decide +kernel)
theorem wd_4 : (Cond.initialized "StyleSheetModel") ∈ wG := wG_tb 4 (by decide +kernel) (by decide +kernel)
theorem wd_5 : (Cond.initialized "java/lang/Throwable") ∈ wG := wG_tb 5 (by decide +kernel) (by decide +kernel)
theorem wd_6 : (Cond.initialized "java/lang/Exception") ∈ wG := wG_tb 6 (by decide +kernel) (by decide +kernel)
theorem wd_7 : (Cond.initialized "java/lang/RuntimeException") ∈ wG := wG_tb 7 (by decide +kernel) (by decide +kernel)
theorem wd_8 : (Cond.initialized "java/lang/IllegalArgumentException") ∈ wG := wG_tb 8 (by decide +kernel) (by decide +kernel)
theorem wd_9 : (Cond.initialized "java/lang/IllegalStateException") ∈ wG := wG_tb 9 (by decide +kernel) (by decide +kernel)
theorem wd_10 : (Cond.initialized "java/util/NoSuchElementException") ∈ wG := wG_tb 10 (by decide +kernel) (by decide +kernel)
theorem wd_11 : (Cond.initialized "java/lang/System") ∈ wG := wG_tb 11 (by decide +kernel) (by decide +kernel)
theorem wd_12 : (Cond.initialized "java/lang/Math") ∈ wG := wG_tb 12 (by decide +kernel) (by decide +kernel)
theorem wd_13 : (Cond.classLink "StyleSheetLaw" 8 "StyleSheet") ∈ wG := wG_tb 13 (by decide +kernel) (by decide +kernel)
theorem wd_14 : (Cond.instantiable "StyleSheet" 7) ∈ wG := wG_tb 14 (by decide +kernel) (by decide +kernel)
theorem wd_15 : (Cond.methodLink "StyleSheetLaw" 67 ⟨"StyleSheet", "<init>", "()V"⟩) ∈ wG := wG_tb 15 (by decide +kernel) (by decide +kernel)
theorem wd_16 : (Cond.instanceMethod ⟨"StyleSheet", "<init>", "()V"⟩) ∈ wG := wG_tb 16 (by decide +kernel) (by decide +kernel)
theorem wd_17 : (Cond.code ⟨"StyleSheet", "<init>", "()V"⟩ prog_1_method_1_code 1 none) ∈ wG := wG_tb 17 (by decide +kernel) (by decide +kernel)
theorem wd_18 : (Cond.methodLink "StyleSheet" 1 ⟨"java/lang/Object", "<init>", "()V"⟩) ∈ wG := wG_tb 18 (by decide +kernel) (by decide +kernel)
theorem wd_19 : (Cond.instanceMethod ⟨"java/lang/Object", "<init>", "()V"⟩) ∈ wG := wG_tb 19 (by decide +kernel) (by decide +kernel)
theorem wd_20 : (Cond.code ⟨"java/lang/Object", "<init>", "()V"⟩ object_method_1_code 1 none) ∈ wG := wG_tb 20 (by decide +kernel) (by decide +kernel)
theorem wd_21 : (Cond.classLink "StyleSheet" 7 "StyleSheet$Table") ∈ wG := wG_tb 21 (by decide +kernel) (by decide +kernel)
theorem wd_22 : (Cond.instantiable "StyleSheet$Table" 2) ∈ wG := wG_tb 22 (by decide +kernel) (by decide +kernel)
theorem wn_23 : (Cond.methodLinkNest "StyleSheet" 11 ⟨"StyleSheet$Table", "<init>", "(I)V"⟩ "StyleSheet") ∈ lw_tbl := List.mem_append_right _ (List.mem_of_getElem? (i := 23) (by decide +kernel))
theorem wd_24 : (Cond.instanceMethod ⟨"StyleSheet$Table", "<init>", "(I)V"⟩) ∈ wG := wG_tb 24 (by decide +kernel) (by decide +kernel)
theorem wd_25 : (Cond.code ⟨"StyleSheet$Table", "<init>", "(I)V"⟩ prog_2_method_1_code 3 none) ∈ wG := wG_tb 25 (by decide +kernel) (by decide +kernel)
theorem wd_26 : (Cond.methodLink "StyleSheet$Table" 3 ⟨"java/lang/Object", "<init>", "()V"⟩) ∈ wG := wG_tb 26 (by decide +kernel) (by decide +kernel)
theorem wd_27 : (Cond.classLink "StyleSheet$Table" 15 "[[I") ∈ wG := wG_tb 27 (by decide +kernel) (by decide +kernel)
theorem wn_28 : (Cond.arrayOver (FieldType.array FieldType.int)) ∈ lw_tbl := List.mem_append_right _ (List.mem_of_getElem? (i := 28) (by decide +kernel))
theorem wd_29 : (Cond.methodLink "StyleSheet$Table" 20 ⟨"java/util/Arrays", "fill", "([II)V"⟩) ∈ wG := wG_tb 29 (by decide +kernel) (by decide +kernel)
theorem wd_30 : (Cond.static ⟨"java/util/Arrays", "fill", "([II)V"⟩) ∈ wG := wG_tb 30 (by decide +kernel) (by decide +kernel)
theorem wd_31 : (Cond.code ⟨"java/util/Arrays", "fill", "([II)V"⟩ prog_13_method_103_code 4 none) ∈ wG := wG_tb 31 (by decide +kernel) (by decide +kernel)
theorem wd_32 : (Cond.fieldLink "StyleSheet$Table" 9 "StyleSheet$Table" "there" "[Z") ∈ wG := wG_tb 32 (by decide +kernel) (by decide +kernel)
theorem wd_33 : (Cond.fieldLink "StyleSheet$Table" 17 "StyleSheet$Table" "values" "[[I") ∈ wG := wG_tb 33 (by decide +kernel) (by decide +kernel)
theorem wn_34 : (Cond.fieldLinkNest "StyleSheet" 81 "StyleSheet$Table" "values" "[[I" "StyleSheet") ∈ lw_tbl := List.mem_append_right _ (List.mem_of_getElem? (i := 34) (by decide +kernel))
theorem wd_35 : (Cond.laysFinal "StyleSheet$Table" "StyleSheet$Table" "there" "[Z") ∈ wG := wG_tb 35 (by decide +kernel) (by decide +kernel)
theorem wd_36 : (Cond.soleField "StyleSheet$Table" "there") ∈ wG := wG_tb 36 (by decide +kernel) (by decide +kernel)
theorem wd_37 : (Cond.laysFinal "StyleSheet$Table" "StyleSheet$Table" "values" "[[I") ∈ wG := wG_tb 37 (by decide +kernel) (by decide +kernel)
theorem wd_38 : (Cond.soleField "StyleSheet$Table" "values") ∈ wG := wG_tb 38 (by decide +kernel) (by decide +kernel)
theorem wd_39 : (Cond.superclass "StyleSheet$Table" "java/lang/Object") ∈ wG := wG_tb 39 (by decide +kernel) (by decide +kernel)
theorem wd_40 : (Cond.arrayClass FieldType.boolean) ∈ wG := wG_tb 40 (by decide +kernel) (by decide +kernel)
theorem wd_41 : (Cond.arrayClass FieldType.int) ∈ wG := wG_tb 41 (by decide +kernel) (by decide +kernel)
theorem wn_42 : (Cond.methodLinkNest "StyleSheet" 31 ⟨"StyleSheet$Table", "add", "(I)V"⟩ "StyleSheet") ∈ lw_tbl := List.mem_append_right _ (List.mem_of_getElem? (i := 42) (by decide +kernel))
theorem wn_43 : (Cond.privateMethod ⟨"StyleSheet$Table", "add", "(I)V"⟩) ∈ lw_tbl := List.mem_append_right _ (List.mem_of_getElem? (i := 43) (by decide +kernel))
theorem wd_44 : (Cond.instanceMethod ⟨"StyleSheet$Table", "add", "(I)V"⟩) ∈ wG := wG_tb 44 (by decide +kernel) (by decide +kernel)
theorem wd_45 : (Cond.code ⟨"StyleSheet$Table", "add", "(I)V"⟩ prog_2_method_4_code 2 none) ∈ wG := wG_tb 45 (by decide +kernel) (by decide +kernel)
theorem wd_46 : (Cond.fieldLink "StyleSheet" 14 "StyleSheet" "styles" "LStyleSheet$Table;") ∈ wG := wG_tb 46 (by decide +kernel) (by decide +kernel)
theorem wd_47 : (Cond.fieldLink "StyleSheet" 18 "StyleSheet" "kinds" "[I") ∈ wG := wG_tb 47 (by decide +kernel) (by decide +kernel)
theorem wd_48 : (Cond.fieldLink "StyleSheet" 22 "StyleSheet" "bases" "[I") ∈ wG := wG_tb 48 (by decide +kernel) (by decide +kernel)
theorem wd_49 : (Cond.fieldLink "StyleSheet" 25 "StyleSheet" "usuals" "[I") ∈ wG := wG_tb 49 (by decide +kernel) (by decide +kernel)
theorem wd_50 : (Cond.fieldLink "StyleSheet" 28 "StyleSheet" "sets" "LStyleSheet$Table;") ∈ wG := wG_tb 50 (by decide +kernel) (by decide +kernel)
theorem wd_51 : (Cond.fieldLink "StyleSheet" 34 "StyleSheet" "marked" "[Z") ∈ wG := wG_tb 51 (by decide +kernel) (by decide +kernel)
theorem wd_52 : (Cond.fieldLink "StyleSheet" 38 "StyleSheet" "draft" "[I") ∈ wG := wG_tb 52 (by decide +kernel) (by decide +kernel)
theorem wd_53 : (Cond.laysFinal "StyleSheet" "StyleSheet" "styles" "LStyleSheet$Table;") ∈ wG := wG_tb 53 (by decide +kernel) (by decide +kernel)
theorem wd_54 : (Cond.soleField "StyleSheet" "styles") ∈ wG := wG_tb 54 (by decide +kernel) (by decide +kernel)
theorem wd_55 : (Cond.laysFinal "StyleSheet" "StyleSheet" "kinds" "[I") ∈ wG := wG_tb 55 (by decide +kernel) (by decide +kernel)
theorem wd_56 : (Cond.soleField "StyleSheet" "kinds") ∈ wG := wG_tb 56 (by decide +kernel) (by decide +kernel)
theorem wd_57 : (Cond.laysFinal "StyleSheet" "StyleSheet" "bases" "[I") ∈ wG := wG_tb 57 (by decide +kernel) (by decide +kernel)
theorem wd_58 : (Cond.soleField "StyleSheet" "bases") ∈ wG := wG_tb 58 (by decide +kernel) (by decide +kernel)
theorem wd_59 : (Cond.laysFinal "StyleSheet" "StyleSheet" "usuals" "[I") ∈ wG := wG_tb 59 (by decide +kernel) (by decide +kernel)
theorem wd_60 : (Cond.soleField "StyleSheet" "usuals") ∈ wG := wG_tb 60 (by decide +kernel) (by decide +kernel)
theorem wd_61 : (Cond.laysFinal "StyleSheet" "StyleSheet" "sets" "LStyleSheet$Table;") ∈ wG := wG_tb 61 (by decide +kernel) (by decide +kernel)
theorem wd_62 : (Cond.soleField "StyleSheet" "sets") ∈ wG := wG_tb 62 (by decide +kernel) (by decide +kernel)
theorem wd_63 : (Cond.laysFinal "StyleSheet" "StyleSheet" "marked" "[Z") ∈ wG := wG_tb 63 (by decide +kernel) (by decide +kernel)
theorem wd_64 : (Cond.soleField "StyleSheet" "marked") ∈ wG := wG_tb 64 (by decide +kernel) (by decide +kernel)
theorem wd_65 : (Cond.laysFinal "StyleSheet" "StyleSheet" "draft" "[I") ∈ wG := wG_tb 65 (by decide +kernel) (by decide +kernel)
theorem wd_66 : (Cond.soleField "StyleSheet" "draft") ∈ wG := wG_tb 66 (by decide +kernel) (by decide +kernel)
theorem wd_67 : (Cond.superclass "StyleSheet" "java/lang/Object") ∈ wG := wG_tb 67 (by decide +kernel) (by decide +kernel)
theorem wd_68 : (Cond.methodLink "StyleSheetLaw" 118 ⟨"StyleSheet", "size", "(I)I"⟩) ∈ wG := wG_tb 68 (by decide +kernel) (by decide +kernel)
theorem wd_69 : (Cond.instanceMethod ⟨"StyleSheet", "size", "(I)I"⟩) ∈ wG := wG_tb 69 (by decide +kernel) (by decide +kernel)
theorem wd_70 : (Cond.selects "StyleSheet" ⟨"StyleSheet", "size", "(I)I"⟩ ⟨"StyleSheet", "size", "(I)I"⟩) ∈ wG := wG_tb 70 (by decide +kernel) (by decide +kernel)
theorem wd_71 : (Cond.code ⟨"StyleSheet", "size", "(I)I"⟩ prog_1_method_14_code 2 (some FieldType.int)) ∈ wG := wG_tb 71 (by decide +kernel) (by decide +kernel)
theorem wn_72 : (Cond.methodLinkNest "StyleSheet" 64 ⟨"StyleSheet$Table", "has", "(I)Z"⟩ "StyleSheet") ∈ lw_tbl := List.mem_append_right _ (List.mem_of_getElem? (i := 72) (by decide +kernel))
theorem wn_73 : (Cond.privateMethod ⟨"StyleSheet$Table", "has", "(I)Z"⟩) ∈ lw_tbl := List.mem_append_right _ (List.mem_of_getElem? (i := 73) (by decide +kernel))
theorem wd_74 : (Cond.instanceMethod ⟨"StyleSheet$Table", "has", "(I)Z"⟩) ∈ wG := wG_tb 74 (by decide +kernel) (by decide +kernel)
theorem wd_75 : (Cond.code ⟨"StyleSheet$Table", "has", "(I)Z"⟩ prog_2_method_2_code 2 (some FieldType.boolean)) ∈ wG := wG_tb 75 (by decide +kernel) (by decide +kernel)
theorem wn_76 : (Cond.methodLinkNest "StyleSheet" 99 ⟨"StyleSheet$Table", "valuesIn", "(I)I"⟩ "StyleSheet") ∈ lw_tbl := List.mem_append_right _ (List.mem_of_getElem? (i := 76) (by decide +kernel))
theorem wn_77 : (Cond.privateMethod ⟨"StyleSheet$Table", "valuesIn", "(I)I"⟩) ∈ lw_tbl := List.mem_append_right _ (List.mem_of_getElem? (i := 77) (by decide +kernel))
theorem wd_78 : (Cond.instanceMethod ⟨"StyleSheet$Table", "valuesIn", "(I)I"⟩) ∈ wG := wG_tb 78 (by decide +kernel) (by decide +kernel)
theorem wd_79 : (Cond.code ⟨"StyleSheet$Table", "valuesIn", "(I)I"⟩ prog_2_method_7_code 4 (some FieldType.int)) ∈ wG := wG_tb 79 (by decide +kernel) (by decide +kernel)
theorem wd_80 : (Cond.methodLink "StyleSheetLaw" 132 ⟨"StyleSheet", "sweep", "()I"⟩) ∈ wG := wG_tb 80 (by decide +kernel) (by decide +kernel)
theorem wd_81 : (Cond.instanceMethod ⟨"StyleSheet", "sweep", "()I"⟩) ∈ wG := wG_tb 81 (by decide +kernel) (by decide +kernel)
theorem wd_82 : (Cond.selects "StyleSheet" ⟨"StyleSheet", "sweep", "()I"⟩ ⟨"StyleSheet", "sweep", "()I"⟩) ∈ wG := wG_tb 82 (by decide +kernel) (by decide +kernel)
theorem wd_83 : (Cond.code ⟨"StyleSheet", "sweep", "()I"⟩ prog_1_method_18_code 3 (some FieldType.int)) ∈ wG := wG_tb 83 (by decide +kernel) (by decide +kernel)
theorem wn_84 : (Cond.methodLinkNest "StyleSheet" 68 ⟨"StyleSheet$Table", "remove", "(I)V"⟩ "StyleSheet") ∈ lw_tbl := List.mem_append_right _ (List.mem_of_getElem? (i := 84) (by decide +kernel))
theorem wn_85 : (Cond.privateMethod ⟨"StyleSheet$Table", "remove", "(I)V"⟩) ∈ lw_tbl := List.mem_append_right _ (List.mem_of_getElem? (i := 85) (by decide +kernel))
theorem wd_86 : (Cond.instanceMethod ⟨"StyleSheet$Table", "remove", "(I)V"⟩) ∈ wG := wG_tb 86 (by decide +kernel) (by decide +kernel)
theorem wd_87 : (Cond.code ⟨"StyleSheet$Table", "remove", "(I)V"⟩ prog_2_method_5_code 2 none) ∈ wG := wG_tb 87 (by decide +kernel) (by decide +kernel)
theorem wd_88 : (Cond.methodLink "StyleSheetLaw" 136 ⟨"StyleSheet", "count", "(I)I"⟩) ∈ wG := wG_tb 88 (by decide +kernel) (by decide +kernel)
theorem wd_89 : (Cond.instanceMethod ⟨"StyleSheet", "count", "(I)I"⟩) ∈ wG := wG_tb 89 (by decide +kernel) (by decide +kernel)
theorem wd_90 : (Cond.selects "StyleSheet" ⟨"StyleSheet", "count", "(I)I"⟩ ⟨"StyleSheet", "count", "(I)I"⟩) ∈ wG := wG_tb 90 (by decide +kernel) (by decide +kernel)
theorem wd_91 : (Cond.code ⟨"StyleSheet", "count", "(I)I"⟩ prog_1_method_19_code 2 (some FieldType.int)) ∈ wG := wG_tb 91 (by decide +kernel) (by decide +kernel)
theorem wn_92 : (Cond.methodLinkNest "StyleSheet" 121 ⟨"StyleSheet$Table", "howMany", "()I"⟩ "StyleSheet") ∈ lw_tbl := List.mem_append_right _ (List.mem_of_getElem? (i := 92) (by decide +kernel))
theorem wn_93 : (Cond.privateMethod ⟨"StyleSheet$Table", "howMany", "()I"⟩) ∈ lw_tbl := List.mem_append_right _ (List.mem_of_getElem? (i := 93) (by decide +kernel))
theorem wd_94 : (Cond.instanceMethod ⟨"StyleSheet$Table", "howMany", "()I"⟩) ∈ wG := wG_tb 94 (by decide +kernel) (by decide +kernel)
theorem wd_95 : (Cond.code ⟨"StyleSheet$Table", "howMany", "()I"⟩ prog_2_method_6_code 3 (some FieldType.int)) ∈ wG := wG_tb 95 (by decide +kernel) (by decide +kernel)
theorem wn_96 : (Cond.methodLinkNest "StyleSheet" 124 ⟨"StyleSheet$Table", "valuesInAll", "()I"⟩ "StyleSheet") ∈ lw_tbl := List.mem_append_right _ (List.mem_of_getElem? (i := 96) (by decide +kernel))
theorem wn_97 : (Cond.privateMethod ⟨"StyleSheet$Table", "valuesInAll", "()I"⟩) ∈ lw_tbl := List.mem_append_right _ (List.mem_of_getElem? (i := 97) (by decide +kernel))
theorem wd_98 : (Cond.instanceMethod ⟨"StyleSheet$Table", "valuesInAll", "()I"⟩) ∈ wG := wG_tb 98 (by decide +kernel) (by decide +kernel)
theorem wd_99 : (Cond.code ⟨"StyleSheet$Table", "valuesInAll", "()I"⟩ prog_2_method_8_code 3 (some FieldType.int)) ∈ wG := wG_tb 99 (by decide +kernel) (by decide +kernel)
theorem wd_100 : (Cond.methodLink "StyleSheet$Table" 26 ⟨"StyleSheet$Table", "valuesIn", "(I)I"⟩) ∈ wG := wG_tb 100 (by decide +kernel) (by decide +kernel)
theorem wd_101 : (Cond.methodLink "StyleSheet" 127 ⟨"StyleSheet", "longestChain", "()I"⟩) ∈ wG := wG_tb 101 (by decide +kernel) (by decide +kernel)
theorem wn_102 : (Cond.privateMethod ⟨"StyleSheet", "longestChain", "()I"⟩) ∈ lw_tbl := List.mem_append_right _ (List.mem_of_getElem? (i := 102) (by decide +kernel))
theorem wd_103 : (Cond.instanceMethod ⟨"StyleSheet", "longestChain", "()I"⟩) ∈ wG := wG_tb 103 (by decide +kernel) (by decide +kernel)
theorem wd_104 : (Cond.code ⟨"StyleSheet", "longestChain", "()I"⟩ prog_1_method_31_code 3 (some FieldType.int)) ∈ wG := wG_tb 104 (by decide +kernel) (by decide +kernel)
theorem wd_105 : (Cond.methodLink "StyleSheet" 92 ⟨"StyleSheet", "chainLength", "(I)I"⟩) ∈ wG := wG_tb 105 (by decide +kernel) (by decide +kernel)
theorem wn_106 : (Cond.privateMethod ⟨"StyleSheet", "chainLength", "(I)I"⟩) ∈ lw_tbl := List.mem_append_right _ (List.mem_of_getElem? (i := 106) (by decide +kernel))
theorem wd_107 : (Cond.instanceMethod ⟨"StyleSheet", "chainLength", "(I)I"⟩) ∈ wG := wG_tb 107 (by decide +kernel) (by decide +kernel)
theorem wd_108 : (Cond.code ⟨"StyleSheet", "chainLength", "(I)I"⟩ prog_1_method_28_code 4 (some FieldType.int)) ∈ wG := wG_tb 108 (by decide +kernel) (by decide +kernel)
theorem wd_109 : (Cond.methodLink "StyleSheet" 147 ⟨"java/lang/Math", "max", "(II)I"⟩) ∈ wG := wG_tb 109 (by decide +kernel) (by decide +kernel)
theorem wd_110 : (Cond.static ⟨"java/lang/Math", "max", "(II)I"⟩) ∈ wG := wG_tb 110 (by decide +kernel) (by decide +kernel)
theorem wd_111 : (Cond.code ⟨"java/lang/Math", "max", "(II)I"⟩ prog_8_method_65_code 2 (some FieldType.int)) ∈ wG := wG_tb 111 (by decide +kernel) (by decide +kernel)
theorem wd_112 : (Cond.methodLink "StyleSheetLaw" 71 ⟨"StyleSheetLaw", "make", "(LStyleSheet;II[J)I"⟩) ∈ wG := wG_tb 112 (by decide +kernel) (by decide +kernel)
theorem wd_113 : (Cond.static ⟨"StyleSheetLaw", "make", "(LStyleSheet;II[J)I"⟩) ∈ wG := wG_tb 113 (by decide +kernel) (by decide +kernel)
theorem wd_114 : (Cond.codeWith ⟨"StyleSheetLaw", "make", "(LStyleSheet;II[J)I"⟩ method_3_code 5 (some FieldType.int) [(0, 10, 13, 13), (0, 10, 17, 15)]) ∈ wG := wG_tb 114 (by decide +kernel) (by decide +kernel)
theorem wd_115 : (Cond.classLink "StyleSheetLaw" 13 "java/lang/IllegalArgumentException") ∈ wG := wG_tb 115 (by decide +kernel) (by decide +kernel)
theorem wd_116 : (Cond.classLink "StyleSheetLaw" 15 "java/lang/IllegalStateException") ∈ wG := wG_tb 116 (by decide +kernel) (by decide +kernel)
theorem wd_117 : (Cond.methodLink "StyleSheetLaw" 7 ⟨"StyleSheet", "make", "(II)I"⟩) ∈ wG := wG_tb 117 (by decide +kernel) (by decide +kernel)
theorem wd_118 : (Cond.instanceMethod ⟨"StyleSheet", "make", "(II)I"⟩) ∈ wG := wG_tb 118 (by decide +kernel) (by decide +kernel)
theorem wd_119 : (Cond.selects "StyleSheet" ⟨"StyleSheet", "make", "(II)I"⟩ ⟨"StyleSheet", "make", "(II)I"⟩) ∈ wG := wG_tb 119 (by decide +kernel) (by decide +kernel)
theorem wd_120 : (Cond.code ⟨"StyleSheet", "make", "(II)I"⟩ prog_1_method_2_code 4 (some FieldType.int)) ∈ wG := wG_tb 120 (by decide +kernel) (by decide +kernel)
theorem wd_121 : (Cond.classLink "StyleSheet" 41 "java/lang/IllegalArgumentException") ∈ wG := wG_tb 121 (by decide +kernel) (by decide +kernel)
theorem wd_122 : (Cond.instantiable "java/lang/IllegalArgumentException" 6) ∈ wG := wG_tb 122 (by decide +kernel) (by decide +kernel)
theorem wn_123 : (Cond.castable "java/lang/IllegalArgumentException" "java/lang/IllegalArgumentException") ∈ lw_tbl := List.mem_append_right _ (List.mem_of_getElem? (i := 123) (by decide +kernel))
theorem wn_124 : (Cond.declares ⟨"java/lang/RuntimeException", "<init>", "()V"⟩) ∈ lw_tbl := List.mem_append_right _ (List.mem_of_getElem? (i := 124) (by decide +kernel))
theorem wn_125 : (Cond.declares ⟨"java/lang/RuntimeException", "<init>", "(Ljava/lang/String;)V"⟩) ∈ lw_tbl := List.mem_append_right _ (List.mem_of_getElem? (i := 125) (by decide +kernel))
theorem wn_126 : (Cond.declares ⟨"java/lang/Exception", "<init>", "()V"⟩) ∈ lw_tbl := List.mem_append_right _ (List.mem_of_getElem? (i := 126) (by decide +kernel))
theorem wn_127 : (Cond.declares ⟨"java/lang/Exception", "<init>", "(Ljava/lang/String;)V"⟩) ∈ lw_tbl := List.mem_append_right _ (List.mem_of_getElem? (i := 127) (by decide +kernel))
theorem wn_128 : (Cond.declares ⟨"java/lang/Throwable", "<init>", "()V"⟩) ∈ lw_tbl := List.mem_append_right _ (List.mem_of_getElem? (i := 128) (by decide +kernel))
theorem wn_129 : (Cond.declares ⟨"java/lang/Throwable", "<init>", "(Ljava/lang/String;)V"⟩) ∈ lw_tbl := List.mem_append_right _ (List.mem_of_getElem? (i := 129) (by decide +kernel))
theorem wd_130 : (Cond.selects "java/lang/IllegalArgumentException" ⟨"java/lang/Throwable", "fillInStackTrace", "(I)Ljava/lang/Throwable;"⟩ ⟨"java/lang/Throwable", "fillInStackTrace", "(I)Ljava/lang/Throwable;"⟩) ∈ wG := wG_tb 130 (by decide +kernel) (by decide +kernel)
theorem wd_131 : (Cond.selects "java/lang/IllegalArgumentException" ⟨"java/lang/Throwable", "fillInStackTrace", "()Ljava/lang/Throwable;"⟩ ⟨"java/lang/Throwable", "fillInStackTrace", "()Ljava/lang/Throwable;"⟩) ∈ wG := wG_tb 131 (by decide +kernel) (by decide +kernel)
theorem wd_132 : (Cond.lays "java/lang/IllegalArgumentException" "java/lang/Throwable" "cause" "Ljava/lang/Throwable;") ∈ wG := wG_tb 132 (by decide +kernel) (by decide +kernel)
theorem wd_133 : (Cond.lays "java/lang/Throwable" "java/lang/Throwable" "cause" "Ljava/lang/Throwable;") ∈ wG := wG_tb 133 (by decide +kernel) (by decide +kernel)
theorem wd_134 : (Cond.lays "java/lang/IllegalArgumentException" "java/lang/Throwable" "stackTrace" "[Ljava/lang/StackTraceElement;") ∈ wG := wG_tb 134 (by decide +kernel) (by decide +kernel)
theorem wd_135 : (Cond.lays "java/lang/Throwable" "java/lang/Throwable" "stackTrace" "[Ljava/lang/StackTraceElement;") ∈ wG := wG_tb 135 (by decide +kernel) (by decide +kernel)
theorem wd_136 : (Cond.lays "java/lang/IllegalArgumentException" "java/lang/Throwable" "suppressedExceptions" "Ljava/util/List;") ∈ wG := wG_tb 136 (by decide +kernel) (by decide +kernel)
theorem wd_137 : (Cond.lays "java/lang/Throwable" "java/lang/Throwable" "suppressedExceptions" "Ljava/util/List;") ∈ wG := wG_tb 137 (by decide +kernel) (by decide +kernel)
theorem wd_138 : (Cond.lays "java/lang/IllegalArgumentException" "java/lang/Throwable" "detailMessage" "Ljava/lang/String;") ∈ wG := wG_tb 138 (by decide +kernel) (by decide +kernel)
theorem wd_139 : (Cond.lays "java/lang/Throwable" "java/lang/Throwable" "detailMessage" "Ljava/lang/String;") ∈ wG := wG_tb 139 (by decide +kernel) (by decide +kernel)
theorem wd_140 : (Cond.lays "java/lang/IllegalArgumentException" "java/lang/Throwable" "backtrace" "Ljava/lang/Object;") ∈ wG := wG_tb 140 (by decide +kernel) (by decide +kernel)
theorem wd_141 : (Cond.lays "java/lang/Throwable" "java/lang/Throwable" "backtrace" "Ljava/lang/Object;") ∈ wG := wG_tb 141 (by decide +kernel) (by decide +kernel)
theorem wd_142 : (Cond.fieldLink "java/lang/Throwable" 198 "java/lang/Throwable" "backtrace" "Ljava/lang/Object;") ∈ wG := wG_tb 142 (by decide +kernel) (by decide +kernel)
theorem wd_143 : (Cond.superclass "java/lang/Throwable" "java/lang/Object") ∈ wG := wG_tb 143 (by decide +kernel) (by decide +kernel)
theorem wd_144 : (Cond.instanceMethod ⟨"java/lang/Throwable", "<init>", "()V"⟩) ∈ wG := wG_tb 144 (by decide +kernel) (by decide +kernel)
theorem wd_145 : (Cond.code ⟨"java/lang/Throwable", "<init>", "()V"⟩ prog_12_method_1_code 1 none) ∈ wG := wG_tb 145 (by decide +kernel) (by decide +kernel)
theorem wd_146 : (Cond.methodLink "java/lang/Throwable" 1 ⟨"java/lang/Object", "<init>", "()V"⟩) ∈ wG := wG_tb 146 (by decide +kernel) (by decide +kernel)
theorem wd_147 : (Cond.fieldLink "java/lang/Throwable" 13 "java/lang/Throwable" "UNASSIGNED_STACK" "[Ljava/lang/StackTraceElement;") ∈ wG := wG_tb 147 (by decide +kernel) (by decide +kernel)
theorem wn_148 : (Cond.laysStatic "java/lang/Throwable" "UNASSIGNED_STACK" "[Ljava/lang/StackTraceElement;") ∈ lw_tbl := List.mem_append_right _ (List.mem_of_getElem? (i := 148) (by decide +kernel))
theorem wd_149 : (Cond.fieldLink "java/lang/Throwable" 20 "java/lang/Throwable" "SUPPRESSED_SENTINEL" "Ljava/util/List;") ∈ wG := wG_tb 149 (by decide +kernel) (by decide +kernel)
theorem wn_150 : (Cond.laysStatic "java/lang/Throwable" "SUPPRESSED_SENTINEL" "Ljava/util/List;") ∈ lw_tbl := List.mem_append_right _ (List.mem_of_getElem? (i := 150) (by decide +kernel))
theorem wd_151 : (Cond.methodLink "java/lang/Throwable" 27 ⟨"java/lang/Throwable", "fillInStackTrace", "()Ljava/lang/Throwable;"⟩) ∈ wG := wG_tb 151 (by decide +kernel) (by decide +kernel)
theorem wd_152 : (Cond.instanceMethod ⟨"java/lang/Throwable", "fillInStackTrace", "()Ljava/lang/Throwable;"⟩) ∈ wG := wG_tb 152 (by decide +kernel) (by decide +kernel)
theorem wd_153 : (Cond.sameMethod "java/lang/Throwable" "java/lang/Throwable" "fillInStackTrace" "()Ljava/lang/Throwable;") ∈ wG := wG_tb 153 (by decide +kernel) (by decide +kernel)
theorem wd_154 : (Cond.selects "java/lang/IllegalStateException" ⟨"java/lang/Throwable", "fillInStackTrace", "()Ljava/lang/Throwable;"⟩ ⟨"java/lang/Throwable", "fillInStackTrace", "()Ljava/lang/Throwable;"⟩) ∈ wG := wG_tb 154 (by decide +kernel) (by decide +kernel)
theorem wd_155 : (Cond.selects "java/util/NoSuchElementException" ⟨"java/lang/Throwable", "fillInStackTrace", "()Ljava/lang/Throwable;"⟩ ⟨"java/lang/Throwable", "fillInStackTrace", "()Ljava/lang/Throwable;"⟩) ∈ wG := wG_tb 155 (by decide +kernel) (by decide +kernel)
theorem wd_156 : (Cond.codeSync ⟨"java/lang/Throwable", "fillInStackTrace", "()Ljava/lang/Throwable;"⟩ prog_12_method_18_code 1 (Option.some (FieldType.object "java/lang/Throwable"))) ∈ wG := wG_tb 156 (by decide +kernel) (by decide +kernel)
theorem wd_157 : (Cond.methodLink "java/lang/Throwable" 202 ⟨"java/lang/Throwable", "fillInStackTrace", "(I)Ljava/lang/Throwable;"⟩) ∈ wG := wG_tb 157 (by decide +kernel) (by decide +kernel)
theorem wn_158 : (Cond.privateMethod ⟨"java/lang/Throwable", "fillInStackTrace", "(I)Ljava/lang/Throwable;"⟩) ∈ lw_tbl := List.mem_append_right _ (List.mem_of_getElem? (i := 158) (by decide +kernel))
theorem wd_159 : (Cond.instanceMethod ⟨"java/lang/Throwable", "fillInStackTrace", "(I)Ljava/lang/Throwable;"⟩) ∈ wG := wG_tb 159 (by decide +kernel) (by decide +kernel)
theorem wd_160 : (Cond.instantiable "java/lang/Throwable" 6) ∈ wG := wG_tb 160 (by decide +kernel) (by decide +kernel)
theorem wd_161 : (Cond.native ⟨"java/lang/Throwable", "fillInStackTrace", "(I)Ljava/lang/Throwable;"⟩) ∈ wG := wG_tb 161 (by decide +kernel) (by decide +kernel)
theorem wn_162 : (Cond.stringRef "StyleSheet" 43 "no such kind") ∈ lw_tbl := List.mem_append_right _ (List.mem_of_getElem? (i := 162) (by decide +kernel))
theorem wd_163 : (Cond.methodLink "StyleSheet" 45 ⟨"java/lang/IllegalArgumentException", "<init>", "(Ljava/lang/String;)V"⟩) ∈ wG := wG_tb 163 (by decide +kernel) (by decide +kernel)
theorem wd_164 : (Cond.instanceMethod ⟨"java/lang/IllegalArgumentException", "<init>", "(Ljava/lang/String;)V"⟩) ∈ wG := wG_tb 164 (by decide +kernel) (by decide +kernel)
theorem wd_165 : (Cond.code ⟨"java/lang/IllegalArgumentException", "<init>", "(Ljava/lang/String;)V"⟩ prog_6_method_2_code 2 none) ∈ wG := wG_tb 165 (by decide +kernel) (by decide +kernel)
theorem wd_166 : (Cond.methodLink "java/lang/IllegalArgumentException" 7 ⟨"java/lang/RuntimeException", "<init>", "(Ljava/lang/String;)V"⟩) ∈ wG := wG_tb 166 (by decide +kernel) (by decide +kernel)
theorem wd_167 : (Cond.instanceMethod ⟨"java/lang/RuntimeException", "<init>", "(Ljava/lang/String;)V"⟩) ∈ wG := wG_tb 167 (by decide +kernel) (by decide +kernel)
theorem wd_168 : (Cond.code ⟨"java/lang/RuntimeException", "<init>", "(Ljava/lang/String;)V"⟩ prog_9_method_2_code 2 none) ∈ wG := wG_tb 168 (by decide +kernel) (by decide +kernel)
theorem wd_169 : (Cond.methodLink "java/lang/RuntimeException" 7 ⟨"java/lang/Exception", "<init>", "(Ljava/lang/String;)V"⟩) ∈ wG := wG_tb 169 (by decide +kernel) (by decide +kernel)
theorem wd_170 : (Cond.instanceMethod ⟨"java/lang/Exception", "<init>", "(Ljava/lang/String;)V"⟩) ∈ wG := wG_tb 170 (by decide +kernel) (by decide +kernel)
theorem wd_171 : (Cond.code ⟨"java/lang/Exception", "<init>", "(Ljava/lang/String;)V"⟩ prog_5_method_2_code 2 none) ∈ wG := wG_tb 171 (by decide +kernel) (by decide +kernel)
theorem wd_172 : (Cond.methodLink "java/lang/Exception" 7 ⟨"java/lang/Throwable", "<init>", "(Ljava/lang/String;)V"⟩) ∈ wG := wG_tb 172 (by decide +kernel) (by decide +kernel)
theorem wd_173 : (Cond.instanceMethod ⟨"java/lang/Throwable", "<init>", "(Ljava/lang/String;)V"⟩) ∈ wG := wG_tb 173 (by decide +kernel) (by decide +kernel)
theorem wd_174 : (Cond.code ⟨"java/lang/Throwable", "<init>", "(Ljava/lang/String;)V"⟩ prog_12_method_2_code 2 none) ∈ wG := wG_tb 174 (by decide +kernel) (by decide +kernel)
theorem wd_175 : (Cond.fieldLink "java/lang/Throwable" 198 "java/lang/Throwable" "backtrace" "Ljava/lang/Object;") ∈ wG := wG_tb 175 (by decide +kernel) (by decide +kernel)
theorem wd_176 : (Cond.fieldLink "java/lang/Throwable" 31 "java/lang/Throwable" "detailMessage" "Ljava/lang/String;") ∈ wG := wG_tb 176 (by decide +kernel) (by decide +kernel)
theorem wd_177 : (Cond.fieldLink "java/lang/Throwable" 7 "java/lang/Throwable" "cause" "Ljava/lang/Throwable;") ∈ wG := wG_tb 177 (by decide +kernel) (by decide +kernel)
theorem wd_178 : (Cond.fieldLink "java/lang/Throwable" 17 "java/lang/Throwable" "stackTrace" "[Ljava/lang/StackTraceElement;") ∈ wG := wG_tb 178 (by decide +kernel) (by decide +kernel)
theorem wd_179 : (Cond.fieldLink "java/lang/Throwable" 24 "java/lang/Throwable" "suppressedExceptions" "Ljava/util/List;") ∈ wG := wG_tb 179 (by decide +kernel) (by decide +kernel)
theorem wd_180 : (Cond.soleField "java/lang/Throwable" "backtrace") ∈ wG := wG_tb 180 (by decide +kernel) (by decide +kernel)
theorem wd_181 : (Cond.soleField "java/lang/Throwable" "detailMessage") ∈ wG := wG_tb 181 (by decide +kernel) (by decide +kernel)
theorem wd_182 : (Cond.soleField "java/lang/Throwable" "cause") ∈ wG := wG_tb 182 (by decide +kernel) (by decide +kernel)
theorem wd_183 : (Cond.soleField "java/lang/Throwable" "stackTrace") ∈ wG := wG_tb 183 (by decide +kernel) (by decide +kernel)
theorem wd_184 : (Cond.lays "java/lang/IllegalArgumentException" "java/lang/Throwable" "depth" "I") ∈ wG := wG_tb 184 (by decide +kernel) (by decide +kernel)
theorem wd_185 : (Cond.soleField "java/lang/Throwable" "depth") ∈ wG := wG_tb 185 (by decide +kernel) (by decide +kernel)
theorem wd_186 : (Cond.soleField "java/lang/Throwable" "suppressedExceptions") ∈ wG := wG_tb 186 (by decide +kernel) (by decide +kernel)
theorem wd_187 : (Cond.superclass "java/lang/IllegalArgumentException" "java/lang/RuntimeException") ∈ wG := wG_tb 187 (by decide +kernel) (by decide +kernel)
theorem wd_188 : (Cond.arrayClass FieldType.byte) ∈ wG := wG_tb 188 (by decide +kernel) (by decide +kernel)
theorem wd_189 : (Cond.methodLink "StyleSheet" 48 ⟨"StyleSheet", "requireNoneOrOfKind", "(II)V"⟩) ∈ wG := wG_tb 189 (by decide +kernel) (by decide +kernel)
theorem wn_190 : (Cond.privateMethod ⟨"StyleSheet", "requireNoneOrOfKind", "(II)V"⟩) ∈ lw_tbl := List.mem_append_right _ (List.mem_of_getElem? (i := 190) (by decide +kernel))
theorem wd_191 : (Cond.instanceMethod ⟨"StyleSheet", "requireNoneOrOfKind", "(II)V"⟩) ∈ wG := wG_tb 191 (by decide +kernel) (by decide +kernel)
theorem wd_192 : (Cond.code ⟨"StyleSheet", "requireNoneOrOfKind", "(II)V"⟩ prog_1_method_22_code 3 none) ∈ wG := wG_tb 192 (by decide +kernel) (by decide +kernel)
theorem wn_193 : (Cond.stringRef "StyleSheet" 137 "no such style of this kind") ∈ lw_tbl := List.mem_append_right _ (List.mem_of_getElem? (i := 193) (by decide +kernel))
theorem wn_194 : (Cond.methodLinkNest "StyleSheet" 52 ⟨"StyleSheet$Table", "leastFree", "()I"⟩ "StyleSheet") ∈ lw_tbl := List.mem_append_right _ (List.mem_of_getElem? (i := 194) (by decide +kernel))
theorem wn_195 : (Cond.privateMethod ⟨"StyleSheet$Table", "leastFree", "()I"⟩) ∈ lw_tbl := List.mem_append_right _ (List.mem_of_getElem? (i := 195) (by decide +kernel))
theorem wd_196 : (Cond.instanceMethod ⟨"StyleSheet$Table", "leastFree", "()I"⟩) ∈ wG := wG_tb 196 (by decide +kernel) (by decide +kernel)
theorem wd_197 : (Cond.code ⟨"StyleSheet$Table", "leastFree", "()I"⟩ prog_2_method_3_code 2 (some FieldType.int)) ∈ wG := wG_tb 197 (by decide +kernel) (by decide +kernel)
theorem wd_198 : (Cond.classLink "StyleSheet" 56 "java/lang/IllegalStateException") ∈ wG := wG_tb 198 (by decide +kernel) (by decide +kernel)
theorem wd_199 : (Cond.instantiable "java/lang/IllegalStateException" 6) ∈ wG := wG_tb 199 (by decide +kernel) (by decide +kernel)
theorem wn_200 : (Cond.castable "java/lang/IllegalStateException" "java/lang/IllegalStateException") ∈ lw_tbl := List.mem_append_right _ (List.mem_of_getElem? (i := 200) (by decide +kernel))
theorem wd_201 : (Cond.selects "java/lang/IllegalStateException" ⟨"java/lang/Throwable", "fillInStackTrace", "(I)Ljava/lang/Throwable;"⟩ ⟨"java/lang/Throwable", "fillInStackTrace", "(I)Ljava/lang/Throwable;"⟩) ∈ wG := wG_tb 201 (by decide +kernel) (by decide +kernel)
theorem wd_202 : (Cond.lays "java/lang/IllegalStateException" "java/lang/Throwable" "cause" "Ljava/lang/Throwable;") ∈ wG := wG_tb 202 (by decide +kernel) (by decide +kernel)
theorem wd_203 : (Cond.lays "java/lang/IllegalStateException" "java/lang/Throwable" "stackTrace" "[Ljava/lang/StackTraceElement;") ∈ wG := wG_tb 203 (by decide +kernel) (by decide +kernel)
theorem wd_204 : (Cond.lays "java/lang/IllegalStateException" "java/lang/Throwable" "suppressedExceptions" "Ljava/util/List;") ∈ wG := wG_tb 204 (by decide +kernel) (by decide +kernel)
theorem wd_205 : (Cond.lays "java/lang/IllegalStateException" "java/lang/Throwable" "detailMessage" "Ljava/lang/String;") ∈ wG := wG_tb 205 (by decide +kernel) (by decide +kernel)
theorem wd_206 : (Cond.lays "java/lang/IllegalStateException" "java/lang/Throwable" "backtrace" "Ljava/lang/Object;") ∈ wG := wG_tb 206 (by decide +kernel) (by decide +kernel)
theorem wn_207 : (Cond.stringRef "StyleSheet" 58 "no number left for a style") ∈ lw_tbl := List.mem_append_right _ (List.mem_of_getElem? (i := 207) (by decide +kernel))
theorem wd_208 : (Cond.methodLink "StyleSheet" 60 ⟨"java/lang/IllegalStateException", "<init>", "(Ljava/lang/String;)V"⟩) ∈ wG := wG_tb 208 (by decide +kernel) (by decide +kernel)
theorem wd_209 : (Cond.instanceMethod ⟨"java/lang/IllegalStateException", "<init>", "(Ljava/lang/String;)V"⟩) ∈ wG := wG_tb 209 (by decide +kernel) (by decide +kernel)
theorem wd_210 : (Cond.code ⟨"java/lang/IllegalStateException", "<init>", "(Ljava/lang/String;)V"⟩ prog_7_method_2_code 2 none) ∈ wG := wG_tb 210 (by decide +kernel) (by decide +kernel)
theorem wd_211 : (Cond.methodLink "java/lang/IllegalStateException" 7 ⟨"java/lang/RuntimeException", "<init>", "(Ljava/lang/String;)V"⟩) ∈ wG := wG_tb 211 (by decide +kernel) (by decide +kernel)
theorem wd_212 : (Cond.lays "java/lang/IllegalStateException" "java/lang/Throwable" "depth" "I") ∈ wG := wG_tb 212 (by decide +kernel) (by decide +kernel)
theorem wd_213 : (Cond.superclass "java/lang/IllegalStateException" "java/lang/RuntimeException") ∈ wG := wG_tb 213 (by decide +kernel) (by decide +kernel)
theorem wd_214 : (Cond.methodLink "StyleSheetLaw" 81 ⟨"StyleSheetLaw", "drop", "(LStyleSheet;I[J)I"⟩) ∈ wG := wG_tb 214 (by decide +kernel) (by decide +kernel)
theorem wd_215 : (Cond.static ⟨"StyleSheetLaw", "drop", "(LStyleSheet;I[J)I"⟩) ∈ wG := wG_tb 215 (by decide +kernel) (by decide +kernel)
theorem wd_216 : (Cond.codeWith ⟨"StyleSheetLaw", "drop", "(LStyleSheet;I[J)I"⟩ method_4_code 4 (some FieldType.int) [(0, 9, 12, 21)]) ∈ wG := wG_tb 216 (by decide +kernel) (by decide +kernel)
theorem wd_217 : (Cond.classLink "StyleSheetLaw" 21 "java/util/NoSuchElementException") ∈ wG := wG_tb 217 (by decide +kernel) (by decide +kernel)
theorem wd_218 : (Cond.methodLink "StyleSheetLaw" 17 ⟨"StyleSheet", "drop", "(I)I"⟩) ∈ wG := wG_tb 218 (by decide +kernel) (by decide +kernel)
theorem wd_219 : (Cond.instanceMethod ⟨"StyleSheet", "drop", "(I)I"⟩) ∈ wG := wG_tb 219 (by decide +kernel) (by decide +kernel)
theorem wd_220 : (Cond.selects "StyleSheet" ⟨"StyleSheet", "drop", "(I)I"⟩ ⟨"StyleSheet", "drop", "(I)I"⟩) ∈ wG := wG_tb 220 (by decide +kernel) (by decide +kernel)
theorem wd_221 : (Cond.code ⟨"StyleSheet", "drop", "(I)I"⟩ prog_1_method_3_code 4 (some FieldType.int)) ∈ wG := wG_tb 221 (by decide +kernel) (by decide +kernel)
theorem wd_222 : (Cond.methodLink "StyleSheet" 61 ⟨"StyleSheet", "requireStyle", "(I)V"⟩) ∈ wG := wG_tb 222 (by decide +kernel) (by decide +kernel)
theorem wn_223 : (Cond.privateMethod ⟨"StyleSheet", "requireStyle", "(I)V"⟩) ∈ lw_tbl := List.mem_append_right _ (List.mem_of_getElem? (i := 223) (by decide +kernel))
theorem wd_224 : (Cond.instanceMethod ⟨"StyleSheet", "requireStyle", "(I)V"⟩) ∈ wG := wG_tb 224 (by decide +kernel) (by decide +kernel)
theorem wd_225 : (Cond.code ⟨"StyleSheet", "requireStyle", "(I)V"⟩ prog_1_method_20_code 2 none) ∈ wG := wG_tb 225 (by decide +kernel) (by decide +kernel)
theorem wd_226 : (Cond.classLink "StyleSheet" 130 "java/util/NoSuchElementException") ∈ wG := wG_tb 226 (by decide +kernel) (by decide +kernel)
theorem wd_227 : (Cond.instantiable "java/util/NoSuchElementException" 6) ∈ wG := wG_tb 227 (by decide +kernel) (by decide +kernel)
theorem wn_228 : (Cond.castable "java/util/NoSuchElementException" "java/util/NoSuchElementException") ∈ lw_tbl := List.mem_append_right _ (List.mem_of_getElem? (i := 228) (by decide +kernel))
theorem wd_229 : (Cond.selects "java/util/NoSuchElementException" ⟨"java/lang/Throwable", "fillInStackTrace", "(I)Ljava/lang/Throwable;"⟩ ⟨"java/lang/Throwable", "fillInStackTrace", "(I)Ljava/lang/Throwable;"⟩) ∈ wG := wG_tb 229 (by decide +kernel) (by decide +kernel)
theorem wd_230 : (Cond.lays "java/util/NoSuchElementException" "java/lang/Throwable" "cause" "Ljava/lang/Throwable;") ∈ wG := wG_tb 230 (by decide +kernel) (by decide +kernel)
theorem wd_231 : (Cond.lays "java/util/NoSuchElementException" "java/lang/Throwable" "stackTrace" "[Ljava/lang/StackTraceElement;") ∈ wG := wG_tb 231 (by decide +kernel) (by decide +kernel)
theorem wd_232 : (Cond.lays "java/util/NoSuchElementException" "java/lang/Throwable" "suppressedExceptions" "Ljava/util/List;") ∈ wG := wG_tb 232 (by decide +kernel) (by decide +kernel)
theorem wd_233 : (Cond.lays "java/util/NoSuchElementException" "java/lang/Throwable" "detailMessage" "Ljava/lang/String;") ∈ wG := wG_tb 233 (by decide +kernel) (by decide +kernel)
theorem wd_234 : (Cond.lays "java/util/NoSuchElementException" "java/lang/Throwable" "backtrace" "Ljava/lang/Object;") ∈ wG := wG_tb 234 (by decide +kernel) (by decide +kernel)
theorem wn_235 : (Cond.stringRef "StyleSheet" 132 "no such style") ∈ lw_tbl := List.mem_append_right _ (List.mem_of_getElem? (i := 235) (by decide +kernel))
theorem wd_236 : (Cond.methodLink "StyleSheet" 134 ⟨"java/util/NoSuchElementException", "<init>", "(Ljava/lang/String;)V"⟩) ∈ wG := wG_tb 236 (by decide +kernel) (by decide +kernel)
theorem wd_237 : (Cond.instanceMethod ⟨"java/util/NoSuchElementException", "<init>", "(Ljava/lang/String;)V"⟩) ∈ wG := wG_tb 237 (by decide +kernel) (by decide +kernel)
theorem wd_238 : (Cond.code ⟨"java/util/NoSuchElementException", "<init>", "(Ljava/lang/String;)V"⟩ prog_14_method_4_code 2 none) ∈ wG := wG_tb 238 (by decide +kernel) (by decide +kernel)
theorem wd_239 : (Cond.methodLink "java/util/NoSuchElementException" 13 ⟨"java/lang/RuntimeException", "<init>", "(Ljava/lang/String;)V"⟩) ∈ wG := wG_tb 239 (by decide +kernel) (by decide +kernel)
theorem wd_240 : (Cond.lays "java/util/NoSuchElementException" "java/lang/Throwable" "depth" "I") ∈ wG := wG_tb 240 (by decide +kernel) (by decide +kernel)
theorem wd_241 : (Cond.superclass "java/util/NoSuchElementException" "java/lang/RuntimeException") ∈ wG := wG_tb 241 (by decide +kernel) (by decide +kernel)
theorem wd_242 : (Cond.methodLink "StyleSheetLaw" 85 ⟨"StyleSheetLaw", "rebase", "(LStyleSheet;II[J)I"⟩) ∈ wG := wG_tb 242 (by decide +kernel) (by decide +kernel)
theorem wd_243 : (Cond.static ⟨"StyleSheetLaw", "rebase", "(LStyleSheet;II[J)I"⟩) ∈ wG := wG_tb 243 (by decide +kernel) (by decide +kernel)
theorem wd_244 : (Cond.codeWith ⟨"StyleSheetLaw", "rebase", "(LStyleSheet;II[J)I"⟩ method_5_code 5 (some FieldType.int) [(0, 17, 20, 21), (0, 17, 24, 13)]) ∈ wG := wG_tb 244 (by decide +kernel) (by decide +kernel)
theorem wd_245 : (Cond.methodLink "StyleSheetLaw" 23 ⟨"StyleSheet", "rebase", "(II)Z"⟩) ∈ wG := wG_tb 245 (by decide +kernel) (by decide +kernel)
theorem wd_246 : (Cond.instanceMethod ⟨"StyleSheet", "rebase", "(II)Z"⟩) ∈ wG := wG_tb 246 (by decide +kernel) (by decide +kernel)
theorem wd_247 : (Cond.selects "StyleSheet" ⟨"StyleSheet", "rebase", "(II)Z"⟩ ⟨"StyleSheet", "rebase", "(II)Z"⟩) ∈ wG := wG_tb 247 (by decide +kernel) (by decide +kernel)
theorem wd_248 : (Cond.code ⟨"StyleSheet", "rebase", "(II)Z"⟩ prog_1_method_4_code 3 (some FieldType.boolean)) ∈ wG := wG_tb 248 (by decide +kernel) (by decide +kernel)
theorem wd_249 : (Cond.methodLink "StyleSheet" 71 ⟨"StyleSheet", "isOnChain", "(II)Z"⟩) ∈ wG := wG_tb 249 (by decide +kernel) (by decide +kernel)
theorem wn_250 : (Cond.privateMethod ⟨"StyleSheet", "isOnChain", "(II)Z"⟩) ∈ lw_tbl := List.mem_append_right _ (List.mem_of_getElem? (i := 250) (by decide +kernel))
theorem wd_251 : (Cond.instanceMethod ⟨"StyleSheet", "isOnChain", "(II)Z"⟩) ∈ wG := wG_tb 251 (by decide +kernel) (by decide +kernel)
theorem wd_252 : (Cond.code ⟨"StyleSheet", "isOnChain", "(II)Z"⟩ prog_1_method_29_code 5 (some FieldType.boolean)) ∈ wG := wG_tb 252 (by decide +kernel) (by decide +kernel)
theorem wd_253 : (Cond.methodLink "StyleSheetLaw" 88 ⟨"StyleSheetLaw", "own", "(LStyleSheet;III)I"⟩) ∈ wG := wG_tb 253 (by decide +kernel) (by decide +kernel)
theorem wd_254 : (Cond.static ⟨"StyleSheetLaw", "own", "(LStyleSheet;III)I"⟩) ∈ wG := wG_tb 254 (by decide +kernel) (by decide +kernel)
theorem wd_255 : (Cond.codeWith ⟨"StyleSheetLaw", "own", "(LStyleSheet;III)I"⟩ method_6_code 5 (some FieldType.int) [(0, 7, 10, 21), (0, 7, 14, 13)]) ∈ wG := wG_tb 255 (by decide +kernel) (by decide +kernel)
theorem wd_256 : (Cond.methodLink "StyleSheetLaw" 27 ⟨"StyleSheet", "own", "(III)V"⟩) ∈ wG := wG_tb 256 (by decide +kernel) (by decide +kernel)
theorem wd_257 : (Cond.instanceMethod ⟨"StyleSheet", "own", "(III)V"⟩) ∈ wG := wG_tb 257 (by decide +kernel) (by decide +kernel)
theorem wd_258 : (Cond.selects "StyleSheet" ⟨"StyleSheet", "own", "(III)V"⟩ ⟨"StyleSheet", "own", "(III)V"⟩) ∈ wG := wG_tb 258 (by decide +kernel) (by decide +kernel)
theorem wd_259 : (Cond.code ⟨"StyleSheet", "own", "(III)V"⟩ prog_1_method_5_code 4 none) ∈ wG := wG_tb 259 (by decide +kernel) (by decide +kernel)
theorem wd_260 : (Cond.methodLink "StyleSheet" 75 ⟨"StyleSheet", "requireProperty", "(I)V"⟩) ∈ wG := wG_tb 260 (by decide +kernel) (by decide +kernel)
theorem wd_261 : (Cond.static ⟨"StyleSheet", "requireProperty", "(I)V"⟩) ∈ wG := wG_tb 261 (by decide +kernel) (by decide +kernel)
theorem wd_262 : (Cond.code ⟨"StyleSheet", "requireProperty", "(I)V"⟩ prog_1_method_23_code 1 none) ∈ wG := wG_tb 262 (by decide +kernel) (by decide +kernel)
theorem wn_263 : (Cond.stringRef "StyleSheet" 139 "no such property") ∈ lw_tbl := List.mem_append_right _ (List.mem_of_getElem? (i := 263) (by decide +kernel))
theorem wd_264 : (Cond.methodLink "StyleSheet" 78 ⟨"StyleSheet", "requireNoneOrValue", "(II)V"⟩) ∈ wG := wG_tb 264 (by decide +kernel) (by decide +kernel)
theorem wd_265 : (Cond.static ⟨"StyleSheet", "requireNoneOrValue", "(II)V"⟩) ∈ wG := wG_tb 265 (by decide +kernel) (by decide +kernel)
theorem wd_266 : (Cond.code ⟨"StyleSheet", "requireNoneOrValue", "(II)V"⟩ prog_1_method_24_code 2 none) ∈ wG := wG_tb 266 (by decide +kernel) (by decide +kernel)
theorem wd_267 : (Cond.methodLink "StyleSheet" 104 ⟨"StyleSheet", "requireValue", "(II)V"⟩) ∈ wG := wG_tb 267 (by decide +kernel) (by decide +kernel)
theorem wd_268 : (Cond.static ⟨"StyleSheet", "requireValue", "(II)V"⟩) ∈ wG := wG_tb 268 (by decide +kernel) (by decide +kernel)
theorem wd_269 : (Cond.code ⟨"StyleSheet", "requireValue", "(II)V"⟩ prog_1_method_25_code 2 none) ∈ wG := wG_tb 269 (by decide +kernel) (by decide +kernel)
theorem wd_270 : (Cond.methodLink "StyleSheet" 141 ⟨"StyleSheet", "greatest", "(I)I"⟩) ∈ wG := wG_tb 270 (by decide +kernel) (by decide +kernel)
theorem wd_271 : (Cond.static ⟨"StyleSheet", "greatest", "(I)I"⟩) ∈ wG := wG_tb 271 (by decide +kernel) (by decide +kernel)
theorem wd_272 : (Cond.code ⟨"StyleSheet", "greatest", "(I)I"⟩ prog_1_method_26_code 1 (some FieldType.int)) ∈ wG := wG_tb 272 (by decide +kernel) (by decide +kernel)
theorem wd_273 : (Cond.constant "StyleSheet" 146 (65535 : Int32)) ∈ wG := wG_tb 273 (by decide +kernel) (by decide +kernel)
theorem wn_274 : (Cond.stringRef "StyleSheet" 144 "no such value of this property") ∈ lw_tbl := List.mem_append_right _ (List.mem_of_getElem? (i := 274) (by decide +kernel))
theorem wd_275 : (Cond.methodLink "StyleSheetLaw" 92 ⟨"StyleSheetLaw", "value", "(LStyleSheet;II[J)I"⟩) ∈ wG := wG_tb 275 (by decide +kernel) (by decide +kernel)
theorem wd_276 : (Cond.static ⟨"StyleSheetLaw", "value", "(LStyleSheet;II[J)I"⟩) ∈ wG := wG_tb 276 (by decide +kernel) (by decide +kernel)
theorem wd_277 : (Cond.codeWith ⟨"StyleSheetLaw", "value", "(LStyleSheet;II[J)I"⟩ method_7_code 5 (some FieldType.int) [(0, 10, 13, 21), (0, 10, 17, 13)]) ∈ wG := wG_tb 277 (by decide +kernel) (by decide +kernel)
theorem wd_278 : (Cond.methodLink "StyleSheetLaw" 31 ⟨"StyleSheet", "value", "(II)I"⟩) ∈ wG := wG_tb 278 (by decide +kernel) (by decide +kernel)
theorem wd_279 : (Cond.instanceMethod ⟨"StyleSheet", "value", "(II)I"⟩) ∈ wG := wG_tb 279 (by decide +kernel) (by decide +kernel)
theorem wd_280 : (Cond.selects "StyleSheet" ⟨"StyleSheet", "value", "(II)I"⟩ ⟨"StyleSheet", "value", "(II)I"⟩) ∈ wG := wG_tb 280 (by decide +kernel) (by decide +kernel)
theorem wd_281 : (Cond.code ⟨"StyleSheet", "value", "(II)I"⟩ prog_1_method_6_code 3 (some FieldType.int)) ∈ wG := wG_tb 281 (by decide +kernel) (by decide +kernel)
theorem wd_282 : (Cond.methodLink "StyleSheet" 85 ⟨"StyleSheet", "valueByChain", "(II)I"⟩) ∈ wG := wG_tb 282 (by decide +kernel) (by decide +kernel)
theorem wn_283 : (Cond.privateMethod ⟨"StyleSheet", "valueByChain", "(II)I"⟩) ∈ lw_tbl := List.mem_append_right _ (List.mem_of_getElem? (i := 283) (by decide +kernel))
theorem wd_284 : (Cond.instanceMethod ⟨"StyleSheet", "valueByChain", "(II)I"⟩) ∈ wG := wG_tb 284 (by decide +kernel) (by decide +kernel)
theorem wd_285 : (Cond.code ⟨"StyleSheet", "valueByChain", "(II)I"⟩ prog_1_method_32_code 4 (some FieldType.int)) ∈ wG := wG_tb 285 (by decide +kernel) (by decide +kernel)
theorem wd_286 : (Cond.methodLink "StyleSheet" 89 ⟨"StyleSheet", "giverOnChain", "(II)I"⟩) ∈ wG := wG_tb 286 (by decide +kernel) (by decide +kernel)
theorem wn_287 : (Cond.privateMethod ⟨"StyleSheet", "giverOnChain", "(II)I"⟩) ∈ lw_tbl := List.mem_append_right _ (List.mem_of_getElem? (i := 287) (by decide +kernel))
theorem wd_288 : (Cond.instanceMethod ⟨"StyleSheet", "giverOnChain", "(II)I"⟩) ∈ wG := wG_tb 288 (by decide +kernel) (by decide +kernel)
theorem wd_289 : (Cond.code ⟨"StyleSheet", "giverOnChain", "(II)I"⟩ prog_1_method_27_code 5 (some FieldType.int)) ∈ wG := wG_tb 289 (by decide +kernel) (by decide +kernel)
theorem wd_290 : (Cond.methodLink "StyleSheetLaw" 95 ⟨"StyleSheetLaw", "giver", "(LStyleSheet;II[J)I"⟩) ∈ wG := wG_tb 290 (by decide +kernel) (by decide +kernel)
theorem wd_291 : (Cond.static ⟨"StyleSheetLaw", "giver", "(LStyleSheet;II[J)I"⟩) ∈ wG := wG_tb 291 (by decide +kernel) (by decide +kernel)
theorem wd_292 : (Cond.codeWith ⟨"StyleSheetLaw", "giver", "(LStyleSheet;II[J)I"⟩ method_8_code 5 (some FieldType.int) [(0, 10, 13, 21), (0, 10, 17, 13)]) ∈ wG := wG_tb 292 (by decide +kernel) (by decide +kernel)
theorem wd_293 : (Cond.methodLink "StyleSheetLaw" 34 ⟨"StyleSheet", "giver", "(II)I"⟩) ∈ wG := wG_tb 293 (by decide +kernel) (by decide +kernel)
theorem wd_294 : (Cond.instanceMethod ⟨"StyleSheet", "giver", "(II)I"⟩) ∈ wG := wG_tb 294 (by decide +kernel) (by decide +kernel)
theorem wd_295 : (Cond.selects "StyleSheet" ⟨"StyleSheet", "giver", "(II)I"⟩ ⟨"StyleSheet", "giver", "(II)I"⟩) ∈ wG := wG_tb 295 (by decide +kernel) (by decide +kernel)
theorem wd_296 : (Cond.code ⟨"StyleSheet", "giver", "(II)I"⟩ prog_1_method_7_code 3 (some FieldType.int)) ∈ wG := wG_tb 296 (by decide +kernel) (by decide +kernel)
theorem wd_297 : (Cond.methodLink "StyleSheetLaw" 98 ⟨"StyleSheetLaw", "style", "(LStyleSheet;II[J)I"⟩) ∈ wG := wG_tb 297 (by decide +kernel) (by decide +kernel)
theorem wd_298 : (Cond.static ⟨"StyleSheetLaw", "style", "(LStyleSheet;II[J)I"⟩) ∈ wG := wG_tb 298 (by decide +kernel) (by decide +kernel)
theorem wd_299 : (Cond.codeWith ⟨"StyleSheetLaw", "style", "(LStyleSheet;II[J)I"⟩ method_9_code 5 (some FieldType.int) [(0, 10, 13, 21), (0, 10, 17, 13)]) ∈ wG := wG_tb 299 (by decide +kernel) (by decide +kernel)
theorem wd_300 : (Cond.methodLink "StyleSheetLaw" 37 ⟨"StyleSheet", "style", "(II)I"⟩) ∈ wG := wG_tb 300 (by decide +kernel) (by decide +kernel)
theorem wd_301 : (Cond.instanceMethod ⟨"StyleSheet", "style", "(II)I"⟩) ∈ wG := wG_tb 301 (by decide +kernel) (by decide +kernel)
theorem wd_302 : (Cond.selects "StyleSheet" ⟨"StyleSheet", "style", "(II)I"⟩ ⟨"StyleSheet", "style", "(II)I"⟩) ∈ wG := wG_tb 302 (by decide +kernel) (by decide +kernel)
theorem wd_303 : (Cond.code ⟨"StyleSheet", "style", "(II)I"⟩ prog_1_method_8_code 3 (some FieldType.int)) ∈ wG := wG_tb 303 (by decide +kernel) (by decide +kernel)
theorem wd_304 : (Cond.methodLink "StyleSheet" 96 ⟨"StyleSheet", "othersBuiltOn", "(I)I"⟩) ∈ wG := wG_tb 304 (by decide +kernel) (by decide +kernel)
theorem wn_305 : (Cond.privateMethod ⟨"StyleSheet", "othersBuiltOn", "(I)I"⟩) ∈ lw_tbl := List.mem_append_right _ (List.mem_of_getElem? (i := 305) (by decide +kernel))
theorem wd_306 : (Cond.instanceMethod ⟨"StyleSheet", "othersBuiltOn", "(I)I"⟩) ∈ wG := wG_tb 306 (by decide +kernel) (by decide +kernel)
theorem wd_307 : (Cond.code ⟨"StyleSheet", "othersBuiltOn", "(I)I"⟩ prog_1_method_30_code 4 (some FieldType.int)) ∈ wG := wG_tb 307 (by decide +kernel) (by decide +kernel)
theorem wn_308 : (Cond.stringRef "StyleSheet" 102 "nothing such is told of a style") ∈ lw_tbl := List.mem_append_right _ (List.mem_of_getElem? (i := 308) (by decide +kernel))
theorem wd_309 : (Cond.methodLink "StyleSheetLaw" 101 ⟨"StyleSheetLaw", "usual", "(LStyleSheet;II)I"⟩) ∈ wG := wG_tb 309 (by decide +kernel) (by decide +kernel)
theorem wd_310 : (Cond.static ⟨"StyleSheetLaw", "usual", "(LStyleSheet;II)I"⟩) ∈ wG := wG_tb 310 (by decide +kernel) (by decide +kernel)
theorem wd_311 : (Cond.codeWith ⟨"StyleSheetLaw", "usual", "(LStyleSheet;II)I"⟩ method_10_code 4 (some FieldType.int) [(0, 6, 9, 13)]) ∈ wG := wG_tb 311 (by decide +kernel) (by decide +kernel)
theorem wd_312 : (Cond.methodLink "StyleSheetLaw" 40 ⟨"StyleSheet", "usual", "(II)V"⟩) ∈ wG := wG_tb 312 (by decide +kernel) (by decide +kernel)
theorem wd_313 : (Cond.instanceMethod ⟨"StyleSheet", "usual", "(II)V"⟩) ∈ wG := wG_tb 313 (by decide +kernel) (by decide +kernel)
theorem wd_314 : (Cond.selects "StyleSheet" ⟨"StyleSheet", "usual", "(II)V"⟩ ⟨"StyleSheet", "usual", "(II)V"⟩) ∈ wG := wG_tb 314 (by decide +kernel) (by decide +kernel)
theorem wd_315 : (Cond.code ⟨"StyleSheet", "usual", "(II)V"⟩ prog_1_method_9_code 3 none) ∈ wG := wG_tb 315 (by decide +kernel) (by decide +kernel)
theorem wd_316 : (Cond.methodLink "StyleSheetLaw" 105 ⟨"StyleSheetLaw", "with", "(LStyleSheet;III[J)I"⟩) ∈ wG := wG_tb 316 (by decide +kernel) (by decide +kernel)
theorem wd_317 : (Cond.static ⟨"StyleSheetLaw", "with", "(LStyleSheet;III[J)I"⟩) ∈ wG := wG_tb 317 (by decide +kernel) (by decide +kernel)
theorem wd_318 : (Cond.codeWith ⟨"StyleSheetLaw", "with", "(LStyleSheet;III[J)I"⟩ method_11_code 6 (some FieldType.int) [(0, 12, 15, 21), (0, 12, 19, 13), (0, 12, 23, 15)]) ∈ wG := wG_tb 318 (by decide +kernel) (by decide +kernel)
theorem wd_319 : (Cond.methodLink "StyleSheetLaw" 44 ⟨"StyleSheet", "with", "(III)I"⟩) ∈ wG := wG_tb 319 (by decide +kernel) (by decide +kernel)
theorem wd_320 : (Cond.instanceMethod ⟨"StyleSheet", "with", "(III)I"⟩) ∈ wG := wG_tb 320 (by decide +kernel) (by decide +kernel)
theorem wd_321 : (Cond.selects "StyleSheet" ⟨"StyleSheet", "with", "(III)I"⟩ ⟨"StyleSheet", "with", "(III)I"⟩) ∈ wG := wG_tb 321 (by decide +kernel) (by decide +kernel)
theorem wd_322 : (Cond.code ⟨"StyleSheet", "with", "(III)I"⟩ prog_1_method_10_code 5 (some FieldType.int)) ∈ wG := wG_tb 322 (by decide +kernel) (by decide +kernel)
theorem wd_323 : (Cond.methodLink "StyleSheet" 107 ⟨"StyleSheet", "requireSet", "(I)V"⟩) ∈ wG := wG_tb 323 (by decide +kernel) (by decide +kernel)
theorem wn_324 : (Cond.privateMethod ⟨"StyleSheet", "requireSet", "(I)V"⟩) ∈ lw_tbl := List.mem_append_right _ (List.mem_of_getElem? (i := 324) (by decide +kernel))
theorem wd_325 : (Cond.instanceMethod ⟨"StyleSheet", "requireSet", "(I)V"⟩) ∈ wG := wG_tb 325 (by decide +kernel) (by decide +kernel)
theorem wd_326 : (Cond.code ⟨"StyleSheet", "requireSet", "(I)V"⟩ prog_1_method_21_code 2 none) ∈ wG := wG_tb 326 (by decide +kernel) (by decide +kernel)
theorem wn_327 : (Cond.stringRef "StyleSheet" 135 "no such set") ∈ lw_tbl := List.mem_append_right _ (List.mem_of_getElem? (i := 327) (by decide +kernel))
theorem wd_328 : (Cond.methodLink "StyleSheet" 110 ⟨"StyleSheet", "numberOfDraft", "()I"⟩) ∈ wG := wG_tb 328 (by decide +kernel) (by decide +kernel)
theorem wn_329 : (Cond.privateMethod ⟨"StyleSheet", "numberOfDraft", "()I"⟩) ∈ lw_tbl := List.mem_append_right _ (List.mem_of_getElem? (i := 329) (by decide +kernel))
theorem wd_330 : (Cond.instanceMethod ⟨"StyleSheet", "numberOfDraft", "()I"⟩) ∈ wG := wG_tb 330 (by decide +kernel) (by decide +kernel)
theorem wd_331 : (Cond.code ⟨"StyleSheet", "numberOfDraft", "()I"⟩ prog_1_method_35_code 3 (some FieldType.int)) ∈ wG := wG_tb 331 (by decide +kernel) (by decide +kernel)
theorem wn_332 : (Cond.methodLinkNest "StyleSheet" 152 ⟨"StyleSheet$Table", "numberOf", "([I)I"⟩ "StyleSheet") ∈ lw_tbl := List.mem_append_right _ (List.mem_of_getElem? (i := 332) (by decide +kernel))
theorem wn_333 : (Cond.privateMethod ⟨"StyleSheet$Table", "numberOf", "([I)I"⟩) ∈ lw_tbl := List.mem_append_right _ (List.mem_of_getElem? (i := 333) (by decide +kernel))
theorem wd_334 : (Cond.instanceMethod ⟨"StyleSheet$Table", "numberOf", "([I)I"⟩) ∈ wG := wG_tb 334 (by decide +kernel) (by decide +kernel)
theorem wd_335 : (Cond.code ⟨"StyleSheet$Table", "numberOf", "([I)I"⟩ prog_2_method_9_code 3 (some FieldType.int)) ∈ wG := wG_tb 335 (by decide +kernel) (by decide +kernel)
theorem wd_336 : (Cond.methodLink "StyleSheet$Table" 30 ⟨"StyleSheet$Table", "isAlike", "([I[I)Z"⟩) ∈ wG := wG_tb 336 (by decide +kernel) (by decide +kernel)
theorem wd_337 : (Cond.static ⟨"StyleSheet$Table", "isAlike", "([I[I)Z"⟩) ∈ wG := wG_tb 337 (by decide +kernel) (by decide +kernel)
theorem wd_338 : (Cond.code ⟨"StyleSheet$Table", "isAlike", "([I[I)Z"⟩ prog_2_method_10_code 3 (some FieldType.boolean)) ∈ wG := wG_tb 338 (by decide +kernel) (by decide +kernel)
theorem wn_339 : (Cond.stringRef "StyleSheet" 156 "no number left for a set") ∈ lw_tbl := List.mem_append_right _ (List.mem_of_getElem? (i := 339) (by decide +kernel))
theorem wd_340 : (Cond.methodLink "StyleSheet" 158 ⟨"java/lang/System", "arraycopy", "(Ljava/lang/Object;ILjava/lang/Object;II)V"⟩) ∈ wG := wG_tb 340 (by decide +kernel) (by decide +kernel)
theorem wd_341 : (Cond.static ⟨"java/lang/System", "arraycopy", "(Ljava/lang/Object;ILjava/lang/Object;II)V"⟩) ∈ wG := wG_tb 341 (by decide +kernel) (by decide +kernel)
theorem wd_342 : (Cond.native ⟨"java/lang/System", "arraycopy", "(Ljava/lang/Object;ILjava/lang/Object;II)V"⟩) ∈ wG := wG_tb 342 (by decide +kernel) (by decide +kernel)
theorem wd_343 : (Cond.methodLink "StyleSheetLaw" 109 ⟨"StyleSheetLaw", "over", "(LStyleSheet;II[J)I"⟩) ∈ wG := wG_tb 343 (by decide +kernel) (by decide +kernel)
theorem wd_344 : (Cond.static ⟨"StyleSheetLaw", "over", "(LStyleSheet;II[J)I"⟩) ∈ wG := wG_tb 344 (by decide +kernel) (by decide +kernel)
theorem wd_345 : (Cond.codeWith ⟨"StyleSheetLaw", "over", "(LStyleSheet;II[J)I"⟩ method_12_code 5 (some FieldType.int) [(0, 10, 13, 21), (0, 10, 17, 15)]) ∈ wG := wG_tb 345 (by decide +kernel) (by decide +kernel)
theorem wd_346 : (Cond.methodLink "StyleSheetLaw" 48 ⟨"StyleSheet", "over", "(II)I"⟩) ∈ wG := wG_tb 346 (by decide +kernel) (by decide +kernel)
theorem wd_347 : (Cond.instanceMethod ⟨"StyleSheet", "over", "(II)I"⟩) ∈ wG := wG_tb 347 (by decide +kernel) (by decide +kernel)
theorem wd_348 : (Cond.selects "StyleSheet" ⟨"StyleSheet", "over", "(II)I"⟩ ⟨"StyleSheet", "over", "(II)I"⟩) ∈ wG := wG_tb 348 (by decide +kernel) (by decide +kernel)
theorem wd_349 : (Cond.code ⟨"StyleSheet", "over", "(II)I"⟩ prog_1_method_11_code 5 (some FieldType.int)) ∈ wG := wG_tb 349 (by decide +kernel) (by decide +kernel)
theorem wd_350 : (Cond.methodLink "StyleSheetLaw" 112 ⟨"StyleSheetLaw", "lean", "(LStyleSheet;III[J)I"⟩) ∈ wG := wG_tb 350 (by decide +kernel) (by decide +kernel)
theorem wd_351 : (Cond.static ⟨"StyleSheetLaw", "lean", "(LStyleSheet;III[J)I"⟩) ∈ wG := wG_tb 351 (by decide +kernel) (by decide +kernel)
theorem wd_352 : (Cond.codeWith ⟨"StyleSheetLaw", "lean", "(LStyleSheet;III[J)I"⟩ method_13_code 6 (some FieldType.int) [(0, 12, 15, 21), (0, 12, 19, 13), (0, 12, 23, 15)]) ∈ wG := wG_tb 352 (by decide +kernel) (by decide +kernel)
theorem wd_353 : (Cond.methodLink "StyleSheetLaw" 51 ⟨"StyleSheet", "lean", "(III)I"⟩) ∈ wG := wG_tb 353 (by decide +kernel) (by decide +kernel)
theorem wd_354 : (Cond.instanceMethod ⟨"StyleSheet", "lean", "(III)I"⟩) ∈ wG := wG_tb 354 (by decide +kernel) (by decide +kernel)
theorem wd_355 : (Cond.selects "StyleSheet" ⟨"StyleSheet", "lean", "(III)I"⟩ ⟨"StyleSheet", "lean", "(III)I"⟩) ∈ wG := wG_tb 355 (by decide +kernel) (by decide +kernel)
theorem wd_356 : (Cond.code ⟨"StyleSheet", "lean", "(III)I"⟩ prog_1_method_12_code 6 (some FieldType.int)) ∈ wG := wG_tb 356 (by decide +kernel) (by decide +kernel)
theorem wd_357 : (Cond.methodLink "StyleSheet" 113 ⟨"StyleSheet", "resolvedByStyles", "(III)I"⟩) ∈ wG := wG_tb 357 (by decide +kernel) (by decide +kernel)
theorem wn_358 : (Cond.privateMethod ⟨"StyleSheet", "resolvedByStyles", "(III)I"⟩) ∈ lw_tbl := List.mem_append_right _ (List.mem_of_getElem? (i := 358) (by decide +kernel))
theorem wd_359 : (Cond.instanceMethod ⟨"StyleSheet", "resolvedByStyles", "(III)I"⟩) ∈ wG := wG_tb 359 (by decide +kernel) (by decide +kernel)
theorem wd_360 : (Cond.code ⟨"StyleSheet", "resolvedByStyles", "(III)I"⟩ prog_1_method_34_code 6 (some FieldType.int)) ∈ wG := wG_tb 360 (by decide +kernel) (by decide +kernel)
theorem wd_361 : (Cond.methodLink "StyleSheetLaw" 115 ⟨"StyleSheetLaw", "get", "(LStyleSheet;II[J)I"⟩) ∈ wG := wG_tb 361 (by decide +kernel) (by decide +kernel)
theorem wd_362 : (Cond.static ⟨"StyleSheetLaw", "get", "(LStyleSheet;II[J)I"⟩) ∈ wG := wG_tb 362 (by decide +kernel) (by decide +kernel)
theorem wd_363 : (Cond.codeWith ⟨"StyleSheetLaw", "get", "(LStyleSheet;II[J)I"⟩ method_14_code 5 (some FieldType.int) [(0, 10, 13, 21), (0, 10, 17, 13)]) ∈ wG := wG_tb 363 (by decide +kernel) (by decide +kernel)
theorem wd_364 : (Cond.methodLink "StyleSheetLaw" 54 ⟨"StyleSheet", "get", "(II)I"⟩) ∈ wG := wG_tb 364 (by decide +kernel) (by decide +kernel)
theorem wd_365 : (Cond.instanceMethod ⟨"StyleSheet", "get", "(II)I"⟩) ∈ wG := wG_tb 365 (by decide +kernel) (by decide +kernel)
theorem wd_366 : (Cond.selects "StyleSheet" ⟨"StyleSheet", "get", "(II)I"⟩ ⟨"StyleSheet", "get", "(II)I"⟩) ∈ wG := wG_tb 366 (by decide +kernel) (by decide +kernel)
theorem wd_367 : (Cond.code ⟨"StyleSheet", "get", "(II)I"⟩ prog_1_method_13_code 3 (some FieldType.int)) ∈ wG := wG_tb 367 (by decide +kernel) (by decide +kernel)
theorem wd_368 : (Cond.methodLink "StyleSheetLaw" 122 ⟨"StyleSheetLaw", "resolve", "(LStyleSheet;IIII[J)I"⟩) ∈ wG := wG_tb 368 (by decide +kernel) (by decide +kernel)
theorem wd_369 : (Cond.static ⟨"StyleSheetLaw", "resolve", "(LStyleSheet;IIII[J)I"⟩) ∈ wG := wG_tb 369 (by decide +kernel) (by decide +kernel)
theorem wd_370 : (Cond.codeWith ⟨"StyleSheetLaw", "resolve", "(LStyleSheet;IIII[J)I"⟩ method_15_code 7 (some FieldType.int) [(0, 14, 17, 21), (0, 14, 21, 13)]) ∈ wG := wG_tb 370 (by decide +kernel) (by decide +kernel)
theorem wd_371 : (Cond.methodLink "StyleSheetLaw" 57 ⟨"StyleSheet", "resolve", "(IIII)I"⟩) ∈ wG := wG_tb 371 (by decide +kernel) (by decide +kernel)
theorem wd_372 : (Cond.instanceMethod ⟨"StyleSheet", "resolve", "(IIII)I"⟩) ∈ wG := wG_tb 372 (by decide +kernel) (by decide +kernel)
theorem wd_373 : (Cond.selects "StyleSheet" ⟨"StyleSheet", "resolve", "(IIII)I"⟩ ⟨"StyleSheet", "resolve", "(IIII)I"⟩) ∈ wG := wG_tb 373 (by decide +kernel) (by decide +kernel)
theorem wd_374 : (Cond.code ⟨"StyleSheet", "resolve", "(IIII)I"⟩ prog_1_method_15_code 5 (some FieldType.int)) ∈ wG := wG_tb 374 (by decide +kernel) (by decide +kernel)
theorem wd_375 : (Cond.methodLink "StyleSheet" 117 ⟨"StyleSheet", "resolved", "(IIII)I"⟩) ∈ wG := wG_tb 375 (by decide +kernel) (by decide +kernel)
theorem wn_376 : (Cond.privateMethod ⟨"StyleSheet", "resolved", "(IIII)I"⟩) ∈ lw_tbl := List.mem_append_right _ (List.mem_of_getElem? (i := 376) (by decide +kernel))
theorem wd_377 : (Cond.instanceMethod ⟨"StyleSheet", "resolved", "(IIII)I"⟩) ∈ wG := wG_tb 377 (by decide +kernel) (by decide +kernel)
theorem wd_378 : (Cond.code ⟨"StyleSheet", "resolved", "(IIII)I"⟩ prog_1_method_33_code 6 (some FieldType.int)) ∈ wG := wG_tb 378 (by decide +kernel) (by decide +kernel)
theorem wd_379 : (Cond.methodLink "StyleSheetLaw" 126 ⟨"StyleSheetLaw", "differ", "(LStyleSheet;IIII[J)I"⟩) ∈ wG := wG_tb 379 (by decide +kernel) (by decide +kernel)
theorem wd_380 : (Cond.static ⟨"StyleSheetLaw", "differ", "(LStyleSheet;IIII[J)I"⟩) ∈ wG := wG_tb 380 (by decide +kernel) (by decide +kernel)
theorem wd_381 : (Cond.codeWith ⟨"StyleSheetLaw", "differ", "(LStyleSheet;IIII[J)I"⟩ method_16_code 7 (some FieldType.int) [(0, 14, 17, 21), (0, 14, 21, 13)]) ∈ wG := wG_tb 381 (by decide +kernel) (by decide +kernel)
theorem wd_382 : (Cond.methodLink "StyleSheetLaw" 61 ⟨"StyleSheet", "differ", "(IIII)I"⟩) ∈ wG := wG_tb 382 (by decide +kernel) (by decide +kernel)
theorem wd_383 : (Cond.instanceMethod ⟨"StyleSheet", "differ", "(IIII)I"⟩) ∈ wG := wG_tb 383 (by decide +kernel) (by decide +kernel)
theorem wd_384 : (Cond.selects "StyleSheet" ⟨"StyleSheet", "differ", "(IIII)I"⟩ ⟨"StyleSheet", "differ", "(IIII)I"⟩) ∈ wG := wG_tb 384 (by decide +kernel) (by decide +kernel)
theorem wd_385 : (Cond.code ⟨"StyleSheet", "differ", "(IIII)I"⟩ prog_1_method_16_code 6 (some FieldType.int)) ∈ wG := wG_tb 385 (by decide +kernel) (by decide +kernel)
theorem wd_386 : (Cond.methodLink "StyleSheetLaw" 129 ⟨"StyleSheetLaw", "mark", "(LStyleSheet;I[J)I"⟩) ∈ wG := wG_tb 386 (by decide +kernel) (by decide +kernel)
theorem wd_387 : (Cond.static ⟨"StyleSheetLaw", "mark", "(LStyleSheet;I[J)I"⟩) ∈ wG := wG_tb 387 (by decide +kernel) (by decide +kernel)
theorem wd_388 : (Cond.codeWith ⟨"StyleSheetLaw", "mark", "(LStyleSheet;I[J)I"⟩ method_17_code 4 (some FieldType.int) [(0, 9, 12, 21)]) ∈ wG := wG_tb 388 (by decide +kernel) (by decide +kernel)
theorem wd_389 : (Cond.methodLink "StyleSheetLaw" 64 ⟨"StyleSheet", "mark", "(I)I"⟩) ∈ wG := wG_tb 389 (by decide +kernel) (by decide +kernel)
theorem wd_390 : (Cond.instanceMethod ⟨"StyleSheet", "mark", "(I)I"⟩) ∈ wG := wG_tb 390 (by decide +kernel) (by decide +kernel)
theorem wd_391 : (Cond.selects "StyleSheet" ⟨"StyleSheet", "mark", "(I)I"⟩ ⟨"StyleSheet", "mark", "(I)I"⟩) ∈ wG := wG_tb 391 (by decide +kernel) (by decide +kernel)
theorem wd_392 : (Cond.code ⟨"StyleSheet", "mark", "(I)I"⟩ prog_1_method_17_code 4 (some FieldType.int)) ∈ wG := wG_tb 392 (by decide +kernel) (by decide +kernel)
theorem wd_393 : (Cond.classLink "StyleSheetLaw" 68 "StyleSheetModel") ∈ wG := wG_tb 393 (by decide +kernel) (by decide +kernel)
theorem wd_394 : (Cond.instantiable "StyleSheetModel" 9) ∈ wG := wG_tb 394 (by decide +kernel) (by decide +kernel)
theorem wd_395 : (Cond.methodLink "StyleSheetLaw" 70 ⟨"StyleSheetModel", "<init>", "()V"⟩) ∈ wG := wG_tb 395 (by decide +kernel) (by decide +kernel)
theorem wd_396 : (Cond.instanceMethod ⟨"StyleSheetModel", "<init>", "()V"⟩) ∈ wG := wG_tb 396 (by decide +kernel) (by decide +kernel)
theorem wd_397 : (Cond.code ⟨"StyleSheetModel", "<init>", "()V"⟩ prog_4_method_1_code 2 none) ∈ wG := wG_tb 397 (by decide +kernel) (by decide +kernel)
theorem wd_398 : (Cond.methodLink "StyleSheetModel" 1 ⟨"java/lang/Object", "<init>", "()V"⟩) ∈ wG := wG_tb 398 (by decide +kernel) (by decide +kernel)
theorem wd_399 : (Cond.fieldLink "StyleSheetModel" 35 "StyleSheetModel" "code" "I") ∈ wG := wG_tb 399 (by decide +kernel) (by decide +kernel)
theorem wd_400 : (Cond.fieldLink "StyleSheetModel" 7 "StyleSheetModel" "kind" "[I") ∈ wG := wG_tb 400 (by decide +kernel) (by decide +kernel)
theorem wd_401 : (Cond.fieldLink "StyleSheetModel" 13 "StyleSheetModel" "base" "[I") ∈ wG := wG_tb 401 (by decide +kernel) (by decide +kernel)
theorem wd_402 : (Cond.fieldLink "StyleSheetModel" 16 "StyleSheetModel" "own" "[I") ∈ wG := wG_tb 402 (by decide +kernel) (by decide +kernel)
theorem wd_403 : (Cond.fieldLink "StyleSheetModel" 19 "StyleSheetModel" "usual" "[I") ∈ wG := wG_tb 403 (by decide +kernel) (by decide +kernel)
theorem wd_404 : (Cond.fieldLink "StyleSheetModel" 22 "StyleSheetModel" "there" "[Z") ∈ wG := wG_tb 404 (by decide +kernel) (by decide +kernel)
theorem wd_405 : (Cond.fieldLink "StyleSheetModel" 26 "StyleSheetModel" "marked" "[Z") ∈ wG := wG_tb 405 (by decide +kernel) (by decide +kernel)
theorem wd_406 : (Cond.fieldLink "StyleSheetModel" 29 "StyleSheetModel" "values" "[I") ∈ wG := wG_tb 406 (by decide +kernel) (by decide +kernel)
theorem wd_407 : (Cond.fieldLink "StyleSheetModel" 32 "StyleSheetModel" "wanted" "[I") ∈ wG := wG_tb 407 (by decide +kernel) (by decide +kernel)
theorem wd_408 : (Cond.lays "StyleSheetModel" "StyleSheetModel" "code" "I") ∈ wG := wG_tb 408 (by decide +kernel) (by decide +kernel)
theorem wd_409 : (Cond.soleField "StyleSheetModel" "code") ∈ wG := wG_tb 409 (by decide +kernel) (by decide +kernel)
theorem wd_410 : (Cond.laysFinal "StyleSheetModel" "StyleSheetModel" "kind" "[I") ∈ wG := wG_tb 410 (by decide +kernel) (by decide +kernel)
theorem wd_411 : (Cond.soleField "StyleSheetModel" "kind") ∈ wG := wG_tb 411 (by decide +kernel) (by decide +kernel)
theorem wd_412 : (Cond.laysFinal "StyleSheetModel" "StyleSheetModel" "base" "[I") ∈ wG := wG_tb 412 (by decide +kernel) (by decide +kernel)
theorem wd_413 : (Cond.soleField "StyleSheetModel" "base") ∈ wG := wG_tb 413 (by decide +kernel) (by decide +kernel)
theorem wd_414 : (Cond.laysFinal "StyleSheetModel" "StyleSheetModel" "own" "[I") ∈ wG := wG_tb 414 (by decide +kernel) (by decide +kernel)
theorem wd_415 : (Cond.soleField "StyleSheetModel" "own") ∈ wG := wG_tb 415 (by decide +kernel) (by decide +kernel)
theorem wd_416 : (Cond.laysFinal "StyleSheetModel" "StyleSheetModel" "usual" "[I") ∈ wG := wG_tb 416 (by decide +kernel) (by decide +kernel)
theorem wd_417 : (Cond.soleField "StyleSheetModel" "usual") ∈ wG := wG_tb 417 (by decide +kernel) (by decide +kernel)
theorem wd_418 : (Cond.laysFinal "StyleSheetModel" "StyleSheetModel" "there" "[Z") ∈ wG := wG_tb 418 (by decide +kernel) (by decide +kernel)
theorem wd_419 : (Cond.soleField "StyleSheetModel" "there") ∈ wG := wG_tb 419 (by decide +kernel) (by decide +kernel)
theorem wd_420 : (Cond.laysFinal "StyleSheetModel" "StyleSheetModel" "marked" "[Z") ∈ wG := wG_tb 420 (by decide +kernel) (by decide +kernel)
theorem wd_421 : (Cond.soleField "StyleSheetModel" "marked") ∈ wG := wG_tb 421 (by decide +kernel) (by decide +kernel)
theorem wd_422 : (Cond.laysFinal "StyleSheetModel" "StyleSheetModel" "values" "[I") ∈ wG := wG_tb 422 (by decide +kernel) (by decide +kernel)
theorem wd_423 : (Cond.soleField "StyleSheetModel" "values") ∈ wG := wG_tb 423 (by decide +kernel) (by decide +kernel)
theorem wd_424 : (Cond.laysFinal "StyleSheetModel" "StyleSheetModel" "wanted" "[I") ∈ wG := wG_tb 424 (by decide +kernel) (by decide +kernel)
theorem wd_425 : (Cond.soleField "StyleSheetModel" "wanted") ∈ wG := wG_tb 425 (by decide +kernel) (by decide +kernel)
theorem wd_426 : (Cond.superclass "StyleSheetModel" "java/lang/Object") ∈ wG := wG_tb 426 (by decide +kernel) (by decide +kernel)
theorem wd_427 : (Cond.methodLink "StyleSheetLaw" 77 ⟨"StyleSheetModel", "thrown", "()I"⟩) ∈ wG := wG_tb 427 (by decide +kernel) (by decide +kernel)
theorem wd_428 : (Cond.instanceMethod ⟨"StyleSheetModel", "thrown", "()I"⟩) ∈ wG := wG_tb 428 (by decide +kernel) (by decide +kernel)
theorem wd_429 : (Cond.selects "StyleSheetModel" ⟨"StyleSheetModel", "thrown", "()I"⟩ ⟨"StyleSheetModel", "thrown", "()I"⟩) ∈ wG := wG_tb 429 (by decide +kernel) (by decide +kernel)
theorem wd_430 : (Cond.code ⟨"StyleSheetModel", "thrown", "()I"⟩ prog_4_method_2_code 1 (some FieldType.int)) ∈ wG := wG_tb 430 (by decide +kernel) (by decide +kernel)
theorem wd_431 : (Cond.methodLink "StyleSheetLaw" 76 ⟨"StyleSheetModel", "make", "(II)I"⟩) ∈ wG := wG_tb 431 (by decide +kernel) (by decide +kernel)
theorem wd_432 : (Cond.instanceMethod ⟨"StyleSheetModel", "make", "(II)I"⟩) ∈ wG := wG_tb 432 (by decide +kernel) (by decide +kernel)
theorem wd_433 : (Cond.selects "StyleSheetModel" ⟨"StyleSheetModel", "make", "(II)I"⟩ ⟨"StyleSheetModel", "make", "(II)I"⟩) ∈ wG := wG_tb 433 (by decide +kernel) (by decide +kernel)
theorem wd_434 : (Cond.code ⟨"StyleSheetModel", "make", "(II)I"⟩ prog_4_method_9_code 5 (some FieldType.int)) ∈ wG := wG_tb 434 (by decide +kernel) (by decide +kernel)
theorem wd_435 : (Cond.methodLink "StyleSheetModel" 39 ⟨"StyleSheetModel", "in", "(III)Z"⟩) ∈ wG := wG_tb 435 (by decide +kernel) (by decide +kernel)
theorem wd_436 : (Cond.static ⟨"StyleSheetModel", "in", "(III)Z"⟩) ∈ wG := wG_tb 436 (by decide +kernel) (by decide +kernel)
theorem wd_437 : (Cond.code ⟨"StyleSheetModel", "in", "(III)Z"⟩ prog_4_method_3_code 3 (some FieldType.boolean)) ∈ wG := wG_tb 437 (by decide +kernel) (by decide +kernel)
theorem wd_438 : (Cond.methodLink "StyleSheetModel" 51 ⟨"StyleSheetModel", "isOf", "(II)Z"⟩) ∈ wG := wG_tb 438 (by decide +kernel) (by decide +kernel)
theorem wn_439 : (Cond.privateMethod ⟨"StyleSheetModel", "isOf", "(II)Z"⟩) ∈ lw_tbl := List.mem_append_right _ (List.mem_of_getElem? (i := 439) (by decide +kernel))
theorem wd_440 : (Cond.instanceMethod ⟨"StyleSheetModel", "isOf", "(II)Z"⟩) ∈ wG := wG_tb 440 (by decide +kernel) (by decide +kernel)
theorem wd_441 : (Cond.code ⟨"StyleSheetModel", "isOf", "(II)Z"⟩ prog_4_method_5_code 3 (some FieldType.boolean)) ∈ wG := wG_tb 441 (by decide +kernel) (by decide +kernel)
theorem wd_442 : (Cond.methodLink "StyleSheetModel" 43 ⟨"StyleSheetModel", "isStyle", "(I)Z"⟩) ∈ wG := wG_tb 442 (by decide +kernel) (by decide +kernel)
theorem wn_443 : (Cond.privateMethod ⟨"StyleSheetModel", "isStyle", "(I)Z"⟩) ∈ lw_tbl := List.mem_append_right _ (List.mem_of_getElem? (i := 443) (by decide +kernel))
theorem wd_444 : (Cond.instanceMethod ⟨"StyleSheetModel", "isStyle", "(I)Z"⟩) ∈ wG := wG_tb 444 (by decide +kernel) (by decide +kernel)
theorem wd_445 : (Cond.code ⟨"StyleSheetModel", "isStyle", "(I)Z"⟩ prog_4_method_4_code 2 (some FieldType.boolean)) ∈ wG := wG_tb 445 (by decide +kernel) (by decide +kernel)
theorem wd_446 : (Cond.methodLink "StyleSheetLaw" 84 ⟨"StyleSheetModel", "drop", "(I)I"⟩) ∈ wG := wG_tb 446 (by decide +kernel) (by decide +kernel)
theorem wd_447 : (Cond.instanceMethod ⟨"StyleSheetModel", "drop", "(I)I"⟩) ∈ wG := wG_tb 447 (by decide +kernel) (by decide +kernel)
theorem wd_448 : (Cond.selects "StyleSheetModel" ⟨"StyleSheetModel", "drop", "(I)I"⟩ ⟨"StyleSheetModel", "drop", "(I)I"⟩) ∈ wG := wG_tb 448 (by decide +kernel) (by decide +kernel)
theorem wd_449 : (Cond.code ⟨"StyleSheetModel", "drop", "(I)I"⟩ prog_4_method_10_code 4 (some FieldType.int)) ∈ wG := wG_tb 449 (by decide +kernel) (by decide +kernel)
theorem wd_450 : (Cond.methodLink "StyleSheetLaw" 87 ⟨"StyleSheetModel", "rebase", "(II)Z"⟩) ∈ wG := wG_tb 450 (by decide +kernel) (by decide +kernel)
theorem wd_451 : (Cond.instanceMethod ⟨"StyleSheetModel", "rebase", "(II)Z"⟩) ∈ wG := wG_tb 451 (by decide +kernel) (by decide +kernel)
theorem wd_452 : (Cond.selects "StyleSheetModel" ⟨"StyleSheetModel", "rebase", "(II)Z"⟩ ⟨"StyleSheetModel", "rebase", "(II)Z"⟩) ∈ wG := wG_tb 452 (by decide +kernel) (by decide +kernel)
theorem wd_453 : (Cond.code ⟨"StyleSheetModel", "rebase", "(II)Z"⟩ prog_4_method_12_code 3 (some FieldType.boolean)) ∈ wG := wG_tb 453 (by decide +kernel) (by decide +kernel)
theorem wd_454 : (Cond.methodLink "StyleSheetModel" 55 ⟨"StyleSheetModel", "comes", "(II)Z"⟩) ∈ wG := wG_tb 454 (by decide +kernel) (by decide +kernel)
theorem wn_455 : (Cond.privateMethod ⟨"StyleSheetModel", "comes", "(II)Z"⟩) ∈ lw_tbl := List.mem_append_right _ (List.mem_of_getElem? (i := 455) (by decide +kernel))
theorem wd_456 : (Cond.instanceMethod ⟨"StyleSheetModel", "comes", "(II)Z"⟩) ∈ wG := wG_tb 456 (by decide +kernel) (by decide +kernel)
theorem wd_457 : (Cond.code ⟨"StyleSheetModel", "comes", "(II)Z"⟩ prog_4_method_11_code 4 (some FieldType.boolean)) ∈ wG := wG_tb 457 (by decide +kernel) (by decide +kernel)
theorem wd_458 : (Cond.methodLink "StyleSheetLaw" 91 ⟨"StyleSheetModel", "own", "(III)V"⟩) ∈ wG := wG_tb 458 (by decide +kernel) (by decide +kernel)
theorem wd_459 : (Cond.instanceMethod ⟨"StyleSheetModel", "own", "(III)V"⟩) ∈ wG := wG_tb 459 (by decide +kernel) (by decide +kernel)
theorem wd_460 : (Cond.selects "StyleSheetModel" ⟨"StyleSheetModel", "own", "(III)V"⟩ ⟨"StyleSheetModel", "own", "(III)V"⟩) ∈ wG := wG_tb 460 (by decide +kernel) (by decide +kernel)
theorem wd_461 : (Cond.code ⟨"StyleSheetModel", "own", "(III)V"⟩ prog_4_method_13_code 4 none) ∈ wG := wG_tb 461 (by decide +kernel) (by decide +kernel)
theorem wd_462 : (Cond.methodLink "StyleSheetModel" 58 ⟨"StyleSheetModel", "isValue", "(III)Z"⟩) ∈ wG := wG_tb 462 (by decide +kernel) (by decide +kernel)
theorem wd_463 : (Cond.static ⟨"StyleSheetModel", "isValue", "(III)Z"⟩) ∈ wG := wG_tb 463 (by decide +kernel) (by decide +kernel)
theorem wd_464 : (Cond.code ⟨"StyleSheetModel", "isValue", "(III)Z"⟩ prog_4_method_8_code 3 (some FieldType.boolean)) ∈ wG := wG_tb 464 (by decide +kernel) (by decide +kernel)
theorem wd_465 : (Cond.methodLink "StyleSheetModel" 47 ⟨"StyleSheetModel", "isProperty", "(I)Z"⟩) ∈ wG := wG_tb 465 (by decide +kernel) (by decide +kernel)
theorem wd_466 : (Cond.static ⟨"StyleSheetModel", "isProperty", "(I)Z"⟩) ∈ wG := wG_tb 466 (by decide +kernel) (by decide +kernel)
theorem wd_467 : (Cond.code ⟨"StyleSheetModel", "isProperty", "(I)Z"⟩ prog_4_method_7_code 1 (some FieldType.boolean)) ∈ wG := wG_tb 467 (by decide +kernel) (by decide +kernel)
theorem wd_468 : (Cond.constant "StyleSheetModel" 50 (65535 : Int32)) ∈ wG := wG_tb 468 (by decide +kernel) (by decide +kernel)
theorem wd_469 : (Cond.methodLink "StyleSheetLaw" 94 ⟨"StyleSheetModel", "value", "(II)I"⟩) ∈ wG := wG_tb 469 (by decide +kernel) (by decide +kernel)
theorem wd_470 : (Cond.instanceMethod ⟨"StyleSheetModel", "value", "(II)I"⟩) ∈ wG := wG_tb 470 (by decide +kernel) (by decide +kernel)
theorem wd_471 : (Cond.selects "StyleSheetModel" ⟨"StyleSheetModel", "value", "(II)I"⟩ ⟨"StyleSheetModel", "value", "(II)I"⟩) ∈ wG := wG_tb 471 (by decide +kernel) (by decide +kernel)
theorem wd_472 : (Cond.code ⟨"StyleSheetModel", "value", "(II)I"⟩ prog_4_method_16_code 3 (some FieldType.int)) ∈ wG := wG_tb 472 (by decide +kernel) (by decide +kernel)
theorem wd_473 : (Cond.methodLink "StyleSheetModel" 65 ⟨"StyleSheetModel", "valueOf", "(II)I"⟩) ∈ wG := wG_tb 473 (by decide +kernel) (by decide +kernel)
theorem wn_474 : (Cond.privateMethod ⟨"StyleSheetModel", "valueOf", "(II)I"⟩) ∈ lw_tbl := List.mem_append_right _ (List.mem_of_getElem? (i := 474) (by decide +kernel))
theorem wd_475 : (Cond.instanceMethod ⟨"StyleSheetModel", "valueOf", "(II)I"⟩) ∈ wG := wG_tb 475 (by decide +kernel) (by decide +kernel)
theorem wd_476 : (Cond.code ⟨"StyleSheetModel", "valueOf", "(II)I"⟩ prog_4_method_15_code 4 (some FieldType.int)) ∈ wG := wG_tb 476 (by decide +kernel) (by decide +kernel)
theorem wd_477 : (Cond.methodLink "StyleSheetModel" 61 ⟨"StyleSheetModel", "first", "(II)I"⟩) ∈ wG := wG_tb 477 (by decide +kernel) (by decide +kernel)
theorem wn_478 : (Cond.privateMethod ⟨"StyleSheetModel", "first", "(II)I"⟩) ∈ lw_tbl := List.mem_append_right _ (List.mem_of_getElem? (i := 478) (by decide +kernel))
theorem wd_479 : (Cond.instanceMethod ⟨"StyleSheetModel", "first", "(II)I"⟩) ∈ wG := wG_tb 479 (by decide +kernel) (by decide +kernel)
theorem wd_480 : (Cond.code ⟨"StyleSheetModel", "first", "(II)I"⟩ prog_4_method_14_code 4 (some FieldType.int)) ∈ wG := wG_tb 480 (by decide +kernel) (by decide +kernel)
theorem wd_481 : (Cond.methodLink "StyleSheetLaw" 97 ⟨"StyleSheetModel", "giver", "(II)I"⟩) ∈ wG := wG_tb 481 (by decide +kernel) (by decide +kernel)
theorem wd_482 : (Cond.instanceMethod ⟨"StyleSheetModel", "giver", "(II)I"⟩) ∈ wG := wG_tb 482 (by decide +kernel) (by decide +kernel)
theorem wd_483 : (Cond.selects "StyleSheetModel" ⟨"StyleSheetModel", "giver", "(II)I"⟩ ⟨"StyleSheetModel", "giver", "(II)I"⟩) ∈ wG := wG_tb 483 (by decide +kernel) (by decide +kernel)
theorem wd_484 : (Cond.code ⟨"StyleSheetModel", "giver", "(II)I"⟩ prog_4_method_17_code 3 (some FieldType.int)) ∈ wG := wG_tb 484 (by decide +kernel) (by decide +kernel)
theorem wd_485 : (Cond.methodLink "StyleSheetLaw" 100 ⟨"StyleSheetModel", "style", "(II)I"⟩) ∈ wG := wG_tb 485 (by decide +kernel) (by decide +kernel)
theorem wd_486 : (Cond.instanceMethod ⟨"StyleSheetModel", "style", "(II)I"⟩) ∈ wG := wG_tb 486 (by decide +kernel) (by decide +kernel)
theorem wd_487 : (Cond.selects "StyleSheetModel" ⟨"StyleSheetModel", "style", "(II)I"⟩ ⟨"StyleSheetModel", "style", "(II)I"⟩) ∈ wG := wG_tb 487 (by decide +kernel) (by decide +kernel)
theorem wd_488 : (Cond.code ⟨"StyleSheetModel", "style", "(II)I"⟩ prog_4_method_20_code 5 (some FieldType.int)) ∈ wG := wG_tb 488 (by decide +kernel) (by decide +kernel)
theorem wd_489 : (Cond.methodLink "StyleSheetModel" 68 ⟨"StyleSheetModel", "chain", "(I)I"⟩) ∈ wG := wG_tb 489 (by decide +kernel) (by decide +kernel)
theorem wn_490 : (Cond.privateMethod ⟨"StyleSheetModel", "chain", "(I)I"⟩) ∈ lw_tbl := List.mem_append_right _ (List.mem_of_getElem? (i := 490) (by decide +kernel))
theorem wd_491 : (Cond.instanceMethod ⟨"StyleSheetModel", "chain", "(I)I"⟩) ∈ wG := wG_tb 491 (by decide +kernel) (by decide +kernel)
theorem wd_492 : (Cond.code ⟨"StyleSheetModel", "chain", "(I)I"⟩ prog_4_method_18_code 4 (some FieldType.int)) ∈ wG := wG_tb 492 (by decide +kernel) (by decide +kernel)
theorem wd_493 : (Cond.methodLink "StyleSheetModel" 72 ⟨"StyleSheetModel", "owned", "(I)I"⟩) ∈ wG := wG_tb 493 (by decide +kernel) (by decide +kernel)
theorem wn_494 : (Cond.privateMethod ⟨"StyleSheetModel", "owned", "(I)I"⟩) ∈ lw_tbl := List.mem_append_right _ (List.mem_of_getElem? (i := 494) (by decide +kernel))
theorem wd_495 : (Cond.instanceMethod ⟨"StyleSheetModel", "owned", "(I)I"⟩) ∈ wG := wG_tb 495 (by decide +kernel) (by decide +kernel)
theorem wd_496 : (Cond.code ⟨"StyleSheetModel", "owned", "(I)I"⟩ prog_4_method_19_code 4 (some FieldType.int)) ∈ wG := wG_tb 496 (by decide +kernel) (by decide +kernel)
theorem wd_497 : (Cond.methodLink "StyleSheetLaw" 104 ⟨"StyleSheetModel", "usual", "(II)V"⟩) ∈ wG := wG_tb 497 (by decide +kernel) (by decide +kernel)
theorem wd_498 : (Cond.instanceMethod ⟨"StyleSheetModel", "usual", "(II)V"⟩) ∈ wG := wG_tb 498 (by decide +kernel) (by decide +kernel)
theorem wd_499 : (Cond.selects "StyleSheetModel" ⟨"StyleSheetModel", "usual", "(II)V"⟩ ⟨"StyleSheetModel", "usual", "(II)V"⟩) ∈ wG := wG_tb 499 (by decide +kernel) (by decide +kernel)
theorem wd_500 : (Cond.code ⟨"StyleSheetModel", "usual", "(II)V"⟩ prog_4_method_21_code 3 none) ∈ wG := wG_tb 500 (by decide +kernel) (by decide +kernel)
theorem wd_501 : (Cond.methodLink "StyleSheetLaw" 108 ⟨"StyleSheetModel", "with", "(III)I"⟩) ∈ wG := wG_tb 501 (by decide +kernel) (by decide +kernel)
theorem wd_502 : (Cond.instanceMethod ⟨"StyleSheetModel", "with", "(III)I"⟩) ∈ wG := wG_tb 502 (by decide +kernel) (by decide +kernel)
theorem wd_503 : (Cond.selects "StyleSheetModel" ⟨"StyleSheetModel", "with", "(III)I"⟩ ⟨"StyleSheetModel", "with", "(III)I"⟩) ∈ wG := wG_tb 503 (by decide +kernel) (by decide +kernel)
theorem wd_504 : (Cond.code ⟨"StyleSheetModel", "with", "(III)I"⟩ prog_4_method_25_code 4 (some FieldType.int)) ∈ wG := wG_tb 504 (by decide +kernel) (by decide +kernel)
theorem wd_505 : (Cond.methodLink "StyleSheetModel" 78 ⟨"StyleSheetModel", "isSet", "(I)Z"⟩) ∈ wG := wG_tb 505 (by decide +kernel) (by decide +kernel)
theorem wn_506 : (Cond.privateMethod ⟨"StyleSheetModel", "isSet", "(I)Z"⟩) ∈ lw_tbl := List.mem_append_right _ (List.mem_of_getElem? (i := 506) (by decide +kernel))
theorem wd_507 : (Cond.instanceMethod ⟨"StyleSheetModel", "isSet", "(I)Z"⟩) ∈ wG := wG_tb 507 (by decide +kernel) (by decide +kernel)
theorem wd_508 : (Cond.code ⟨"StyleSheetModel", "isSet", "(I)Z"⟩ prog_4_method_6_code 2 (some FieldType.boolean)) ∈ wG := wG_tb 508 (by decide +kernel) (by decide +kernel)
theorem wd_509 : (Cond.methodLink "StyleSheetModel" 81 ⟨"StyleSheetModel", "want", "(I)V"⟩) ∈ wG := wG_tb 509 (by decide +kernel) (by decide +kernel)
theorem wn_510 : (Cond.privateMethod ⟨"StyleSheetModel", "want", "(I)V"⟩) ∈ lw_tbl := List.mem_append_right _ (List.mem_of_getElem? (i := 510) (by decide +kernel))
theorem wd_511 : (Cond.instanceMethod ⟨"StyleSheetModel", "want", "(I)V"⟩) ∈ wG := wG_tb 511 (by decide +kernel) (by decide +kernel)
theorem wd_512 : (Cond.code ⟨"StyleSheetModel", "want", "(I)V"⟩ prog_4_method_22_code 3 none) ∈ wG := wG_tb 512 (by decide +kernel) (by decide +kernel)
theorem wd_513 : (Cond.methodLink "StyleSheetModel" 85 ⟨"StyleSheetModel", "found", "(I)I"⟩) ∈ wG := wG_tb 513 (by decide +kernel) (by decide +kernel)
theorem wn_514 : (Cond.privateMethod ⟨"StyleSheetModel", "found", "(I)I"⟩) ∈ lw_tbl := List.mem_append_right _ (List.mem_of_getElem? (i := 514) (by decide +kernel))
theorem wd_515 : (Cond.instanceMethod ⟨"StyleSheetModel", "found", "(I)I"⟩) ∈ wG := wG_tb 515 (by decide +kernel) (by decide +kernel)
theorem wd_516 : (Cond.code ⟨"StyleSheetModel", "found", "(I)I"⟩ prog_4_method_24_code 4 (some FieldType.int)) ∈ wG := wG_tb 516 (by decide +kernel) (by decide +kernel)
theorem wd_517 : (Cond.methodLink "StyleSheetModel" 75 ⟨"StyleSheetModel", "isWanted", "(I)Z"⟩) ∈ wG := wG_tb 517 (by decide +kernel) (by decide +kernel)
theorem wn_518 : (Cond.privateMethod ⟨"StyleSheetModel", "isWanted", "(I)Z"⟩) ∈ lw_tbl := List.mem_append_right _ (List.mem_of_getElem? (i := 518) (by decide +kernel))
theorem wd_519 : (Cond.instanceMethod ⟨"StyleSheetModel", "isWanted", "(I)Z"⟩) ∈ wG := wG_tb 519 (by decide +kernel) (by decide +kernel)
theorem wd_520 : (Cond.code ⟨"StyleSheetModel", "isWanted", "(I)Z"⟩ prog_4_method_23_code 4 (some FieldType.boolean)) ∈ wG := wG_tb 520 (by decide +kernel) (by decide +kernel)
theorem wd_521 : (Cond.methodLink "StyleSheetLaw" 111 ⟨"StyleSheetModel", "over", "(II)I"⟩) ∈ wG := wG_tb 521 (by decide +kernel) (by decide +kernel)
theorem wd_522 : (Cond.instanceMethod ⟨"StyleSheetModel", "over", "(II)I"⟩) ∈ wG := wG_tb 522 (by decide +kernel) (by decide +kernel)
theorem wd_523 : (Cond.selects "StyleSheetModel" ⟨"StyleSheetModel", "over", "(II)I"⟩ ⟨"StyleSheetModel", "over", "(II)I"⟩) ∈ wG := wG_tb 523 (by decide +kernel) (by decide +kernel)
theorem wd_524 : (Cond.code ⟨"StyleSheetModel", "over", "(II)I"⟩ prog_4_method_26_code 4 (some FieldType.int)) ∈ wG := wG_tb 524 (by decide +kernel) (by decide +kernel)
theorem wd_525 : (Cond.methodLink "StyleSheetLaw" 114 ⟨"StyleSheetModel", "lean", "(III)I"⟩) ∈ wG := wG_tb 525 (by decide +kernel) (by decide +kernel)
theorem wd_526 : (Cond.instanceMethod ⟨"StyleSheetModel", "lean", "(III)I"⟩) ∈ wG := wG_tb 526 (by decide +kernel) (by decide +kernel)
theorem wd_527 : (Cond.selects "StyleSheetModel" ⟨"StyleSheetModel", "lean", "(III)I"⟩ ⟨"StyleSheetModel", "lean", "(III)I"⟩) ∈ wG := wG_tb 527 (by decide +kernel) (by decide +kernel)
theorem wd_528 : (Cond.code ⟨"StyleSheetModel", "lean", "(III)I"⟩ prog_4_method_29_code 5 (some FieldType.int)) ∈ wG := wG_tb 528 (by decide +kernel) (by decide +kernel)
theorem wd_529 : (Cond.methodLink "StyleSheetModel" 88 ⟨"StyleSheetModel", "areStyles", "(II)Z"⟩) ∈ wG := wG_tb 529 (by decide +kernel) (by decide +kernel)
theorem wn_530 : (Cond.privateMethod ⟨"StyleSheetModel", "areStyles", "(II)Z"⟩) ∈ lw_tbl := List.mem_append_right _ (List.mem_of_getElem? (i := 530) (by decide +kernel))
theorem wd_531 : (Cond.instanceMethod ⟨"StyleSheetModel", "areStyles", "(II)Z"⟩) ∈ wG := wG_tb 531 (by decide +kernel) (by decide +kernel)
theorem wd_532 : (Cond.code ⟨"StyleSheetModel", "areStyles", "(II)Z"⟩ prog_4_method_28_code 3 (some FieldType.boolean)) ∈ wG := wG_tb 532 (by decide +kernel) (by decide +kernel)
theorem wd_533 : (Cond.methodLink "StyleSheetModel" 91 ⟨"StyleSheetModel", "beneath", "(III)I"⟩) ∈ wG := wG_tb 533 (by decide +kernel) (by decide +kernel)
theorem wn_534 : (Cond.privateMethod ⟨"StyleSheetModel", "beneath", "(III)I"⟩) ∈ lw_tbl := List.mem_append_right _ (List.mem_of_getElem? (i := 534) (by decide +kernel))
theorem wd_535 : (Cond.instanceMethod ⟨"StyleSheetModel", "beneath", "(III)I"⟩) ∈ wG := wG_tb 535 (by decide +kernel) (by decide +kernel)
theorem wd_536 : (Cond.code ⟨"StyleSheetModel", "beneath", "(III)I"⟩ prog_4_method_27_code 5 (some FieldType.int)) ∈ wG := wG_tb 536 (by decide +kernel) (by decide +kernel)
theorem wd_537 : (Cond.methodLink "StyleSheetLaw" 117 ⟨"StyleSheetModel", "get", "(II)I"⟩) ∈ wG := wG_tb 537 (by decide +kernel) (by decide +kernel)
theorem wd_538 : (Cond.instanceMethod ⟨"StyleSheetModel", "get", "(II)I"⟩) ∈ wG := wG_tb 538 (by decide +kernel) (by decide +kernel)
theorem wd_539 : (Cond.selects "StyleSheetModel" ⟨"StyleSheetModel", "get", "(II)I"⟩ ⟨"StyleSheetModel", "get", "(II)I"⟩) ∈ wG := wG_tb 539 (by decide +kernel) (by decide +kernel)
theorem wd_540 : (Cond.code ⟨"StyleSheetModel", "get", "(II)I"⟩ prog_4_method_30_code 3 (some FieldType.int)) ∈ wG := wG_tb 540 (by decide +kernel) (by decide +kernel)
theorem wd_541 : (Cond.methodLink "StyleSheetLaw" 121 ⟨"StyleSheetModel", "size", "(I)I"⟩) ∈ wG := wG_tb 541 (by decide +kernel) (by decide +kernel)
theorem wd_542 : (Cond.instanceMethod ⟨"StyleSheetModel", "size", "(I)I"⟩) ∈ wG := wG_tb 542 (by decide +kernel) (by decide +kernel)
theorem wd_543 : (Cond.selects "StyleSheetModel" ⟨"StyleSheetModel", "size", "(I)I"⟩ ⟨"StyleSheetModel", "size", "(I)I"⟩) ∈ wG := wG_tb 543 (by decide +kernel) (by decide +kernel)
theorem wd_544 : (Cond.code ⟨"StyleSheetModel", "size", "(I)I"⟩ prog_4_method_32_code 2 (some FieldType.int)) ∈ wG := wG_tb 544 (by decide +kernel) (by decide +kernel)
theorem wd_545 : (Cond.methodLink "StyleSheetModel" 95 ⟨"StyleSheetModel", "sized", "(I)I"⟩) ∈ wG := wG_tb 545 (by decide +kernel) (by decide +kernel)
theorem wn_546 : (Cond.privateMethod ⟨"StyleSheetModel", "sized", "(I)I"⟩) ∈ lw_tbl := List.mem_append_right _ (List.mem_of_getElem? (i := 546) (by decide +kernel))
theorem wd_547 : (Cond.instanceMethod ⟨"StyleSheetModel", "sized", "(I)I"⟩) ∈ wG := wG_tb 547 (by decide +kernel) (by decide +kernel)
theorem wd_548 : (Cond.code ⟨"StyleSheetModel", "sized", "(I)I"⟩ prog_4_method_31_code 4 (some FieldType.int)) ∈ wG := wG_tb 548 (by decide +kernel) (by decide +kernel)
theorem wd_549 : (Cond.methodLink "StyleSheetLaw" 125 ⟨"StyleSheetModel", "resolve", "(IIII)I"⟩) ∈ wG := wG_tb 549 (by decide +kernel) (by decide +kernel)
theorem wd_550 : (Cond.instanceMethod ⟨"StyleSheetModel", "resolve", "(IIII)I"⟩) ∈ wG := wG_tb 550 (by decide +kernel) (by decide +kernel)
theorem wd_551 : (Cond.selects "StyleSheetModel" ⟨"StyleSheetModel", "resolve", "(IIII)I"⟩ ⟨"StyleSheetModel", "resolve", "(IIII)I"⟩) ∈ wG := wG_tb 551 (by decide +kernel) (by decide +kernel)
theorem wd_552 : (Cond.code ⟨"StyleSheetModel", "resolve", "(IIII)I"⟩ prog_4_method_34_code 5 (some FieldType.int)) ∈ wG := wG_tb 552 (by decide +kernel) (by decide +kernel)
theorem wd_553 : (Cond.methodLink "StyleSheetModel" 98 ⟨"StyleSheetModel", "resolved", "(IIII)I"⟩) ∈ wG := wG_tb 553 (by decide +kernel) (by decide +kernel)
theorem wn_554 : (Cond.privateMethod ⟨"StyleSheetModel", "resolved", "(IIII)I"⟩) ∈ lw_tbl := List.mem_append_right _ (List.mem_of_getElem? (i := 554) (by decide +kernel))
theorem wd_555 : (Cond.instanceMethod ⟨"StyleSheetModel", "resolved", "(IIII)I"⟩) ∈ wG := wG_tb 555 (by decide +kernel) (by decide +kernel)
theorem wd_556 : (Cond.code ⟨"StyleSheetModel", "resolved", "(IIII)I"⟩ prog_4_method_33_code 6 (some FieldType.int)) ∈ wG := wG_tb 556 (by decide +kernel) (by decide +kernel)
theorem wd_557 : (Cond.methodLink "StyleSheetLaw" 128 ⟨"StyleSheetModel", "differ", "(IIII)I"⟩) ∈ wG := wG_tb 557 (by decide +kernel) (by decide +kernel)
theorem wd_558 : (Cond.instanceMethod ⟨"StyleSheetModel", "differ", "(IIII)I"⟩) ∈ wG := wG_tb 558 (by decide +kernel) (by decide +kernel)
theorem wd_559 : (Cond.selects "StyleSheetModel" ⟨"StyleSheetModel", "differ", "(IIII)I"⟩ ⟨"StyleSheetModel", "differ", "(IIII)I"⟩) ∈ wG := wG_tb 559 (by decide +kernel) (by decide +kernel)
theorem wd_560 : (Cond.code ⟨"StyleSheetModel", "differ", "(IIII)I"⟩ prog_4_method_35_code 6 (some FieldType.int)) ∈ wG := wG_tb 560 (by decide +kernel) (by decide +kernel)
theorem wd_561 : (Cond.methodLink "StyleSheetLaw" 131 ⟨"StyleSheetModel", "mark", "(I)I"⟩) ∈ wG := wG_tb 561 (by decide +kernel) (by decide +kernel)
theorem wd_562 : (Cond.instanceMethod ⟨"StyleSheetModel", "mark", "(I)I"⟩) ∈ wG := wG_tb 562 (by decide +kernel) (by decide +kernel)
theorem wd_563 : (Cond.selects "StyleSheetModel" ⟨"StyleSheetModel", "mark", "(I)I"⟩ ⟨"StyleSheetModel", "mark", "(I)I"⟩) ∈ wG := wG_tb 563 (by decide +kernel) (by decide +kernel)
theorem wd_564 : (Cond.code ⟨"StyleSheetModel", "mark", "(I)I"⟩ prog_4_method_36_code 4 (some FieldType.int)) ∈ wG := wG_tb 564 (by decide +kernel) (by decide +kernel)
theorem wd_565 : (Cond.methodLink "StyleSheetLaw" 135 ⟨"StyleSheetModel", "sweep", "()I"⟩) ∈ wG := wG_tb 565 (by decide +kernel) (by decide +kernel)
theorem wd_566 : (Cond.instanceMethod ⟨"StyleSheetModel", "sweep", "()I"⟩) ∈ wG := wG_tb 566 (by decide +kernel) (by decide +kernel)
theorem wd_567 : (Cond.selects "StyleSheetModel" ⟨"StyleSheetModel", "sweep", "()I"⟩ ⟨"StyleSheetModel", "sweep", "()I"⟩) ∈ wG := wG_tb 567 (by decide +kernel) (by decide +kernel)
theorem wd_568 : (Cond.code ⟨"StyleSheetModel", "sweep", "()I"⟩ prog_4_method_37_code 3 (some FieldType.int)) ∈ wG := wG_tb 568 (by decide +kernel) (by decide +kernel)
theorem wd_569 : (Cond.methodLink "StyleSheetLaw" 139 ⟨"StyleSheetModel", "count", "(I)I"⟩) ∈ wG := wG_tb 569 (by decide +kernel) (by decide +kernel)
theorem wd_570 : (Cond.instanceMethod ⟨"StyleSheetModel", "count", "(I)I"⟩) ∈ wG := wG_tb 570 (by decide +kernel) (by decide +kernel)
theorem wd_571 : (Cond.selects "StyleSheetModel" ⟨"StyleSheetModel", "count", "(I)I"⟩ ⟨"StyleSheetModel", "count", "(I)I"⟩) ∈ wG := wG_tb 571 (by decide +kernel) (by decide +kernel)
theorem wd_572 : (Cond.code ⟨"StyleSheetModel", "count", "(I)I"⟩ prog_4_method_38_code 4 (some FieldType.int)) ∈ wG := wG_tb 572 (by decide +kernel) (by decide +kernel)
theorem wd_573 : (Cond.arrayClass FieldType.long) ∈ wG := wG_tb 573 (by decide +kernel) (by decide +kernel)
theorem wd_574 : (Cond.sameMethod "java/lang/Throwable" "java/lang/Throwable" "fillInStackTrace" "(I)Ljava/lang/Throwable;") ∈ wG := wG_tb 574 (by decide +kernel) (by decide +kernel)
theorem ws_0 : Cond.selects "StyleSheet$Table" ⟨"StyleSheet$Table", "add", "(I)V"⟩ ⟨"StyleSheet$Table", "add", "(I)V"⟩ ∈ wG := wG_sl 0 (by decide +kernel) (by decide +kernel)
theorem ws_1 : Cond.selects "StyleSheet$Table" ⟨"StyleSheet$Table", "has", "(I)Z"⟩ ⟨"StyleSheet$Table", "has", "(I)Z"⟩ ∈ wG := wG_sl 1 (by decide +kernel) (by decide +kernel)
theorem ws_2 : Cond.selects "StyleSheet$Table" ⟨"StyleSheet$Table", "valuesIn", "(I)I"⟩ ⟨"StyleSheet$Table", "valuesIn", "(I)I"⟩ ∈ wG := wG_sl 2 (by decide +kernel) (by decide +kernel)
theorem ws_3 : Cond.selects "StyleSheet$Table" ⟨"StyleSheet$Table", "remove", "(I)V"⟩ ⟨"StyleSheet$Table", "remove", "(I)V"⟩ ∈ wG := wG_sl 3 (by decide +kernel) (by decide +kernel)
theorem ws_4 : Cond.selects "StyleSheet$Table" ⟨"StyleSheet$Table", "howMany", "()I"⟩ ⟨"StyleSheet$Table", "howMany", "()I"⟩ ∈ wG := wG_sl 4 (by decide +kernel) (by decide +kernel)
theorem ws_5 : Cond.selects "StyleSheet$Table" ⟨"StyleSheet$Table", "valuesInAll", "()I"⟩ ⟨"StyleSheet$Table", "valuesInAll", "()I"⟩ ∈ wG := wG_sl 5 (by decide +kernel) (by decide +kernel)
theorem ws_6 : Cond.selects "StyleSheet" ⟨"StyleSheet", "longestChain", "()I"⟩ ⟨"StyleSheet", "longestChain", "()I"⟩ ∈ wG := wG_sl 6 (by decide +kernel) (by decide +kernel)
theorem ws_7 : Cond.selects "StyleSheet" ⟨"StyleSheet", "chainLength", "(I)I"⟩ ⟨"StyleSheet", "chainLength", "(I)I"⟩ ∈ wG := wG_sl 7 (by decide +kernel) (by decide +kernel)
theorem ws_8 : Cond.selects "java/lang/Throwable" ⟨"java/lang/Throwable", "fillInStackTrace", "(I)Ljava/lang/Throwable;"⟩ ⟨"java/lang/Throwable", "fillInStackTrace", "(I)Ljava/lang/Throwable;"⟩ ∈ wG := wG_sl 8 (by decide +kernel) (by decide +kernel)
theorem ws_9 : Cond.selects "StyleSheet" ⟨"StyleSheet", "requireNoneOrOfKind", "(II)V"⟩ ⟨"StyleSheet", "requireNoneOrOfKind", "(II)V"⟩ ∈ wG := wG_sl 9 (by decide +kernel) (by decide +kernel)
theorem ws_10 : Cond.selects "StyleSheet$Table" ⟨"StyleSheet$Table", "leastFree", "()I"⟩ ⟨"StyleSheet$Table", "leastFree", "()I"⟩ ∈ wG := wG_sl 10 (by decide +kernel) (by decide +kernel)
theorem ws_11 : Cond.selects "StyleSheet" ⟨"StyleSheet", "requireStyle", "(I)V"⟩ ⟨"StyleSheet", "requireStyle", "(I)V"⟩ ∈ wG := wG_sl 11 (by decide +kernel) (by decide +kernel)
theorem ws_12 : Cond.selects "StyleSheet" ⟨"StyleSheet", "isOnChain", "(II)Z"⟩ ⟨"StyleSheet", "isOnChain", "(II)Z"⟩ ∈ wG := wG_sl 12 (by decide +kernel) (by decide +kernel)
theorem ws_13 : Cond.selects "StyleSheet" ⟨"StyleSheet", "valueByChain", "(II)I"⟩ ⟨"StyleSheet", "valueByChain", "(II)I"⟩ ∈ wG := wG_sl 13 (by decide +kernel) (by decide +kernel)
theorem ws_14 : Cond.selects "StyleSheet" ⟨"StyleSheet", "giverOnChain", "(II)I"⟩ ⟨"StyleSheet", "giverOnChain", "(II)I"⟩ ∈ wG := wG_sl 14 (by decide +kernel) (by decide +kernel)
theorem ws_15 : Cond.selects "StyleSheet" ⟨"StyleSheet", "othersBuiltOn", "(I)I"⟩ ⟨"StyleSheet", "othersBuiltOn", "(I)I"⟩ ∈ wG := wG_sl 15 (by decide +kernel) (by decide +kernel)
theorem ws_16 : Cond.selects "StyleSheet" ⟨"StyleSheet", "requireSet", "(I)V"⟩ ⟨"StyleSheet", "requireSet", "(I)V"⟩ ∈ wG := wG_sl 16 (by decide +kernel) (by decide +kernel)
theorem ws_17 : Cond.selects "StyleSheet" ⟨"StyleSheet", "numberOfDraft", "()I"⟩ ⟨"StyleSheet", "numberOfDraft", "()I"⟩ ∈ wG := wG_sl 17 (by decide +kernel) (by decide +kernel)
theorem ws_18 : Cond.selects "StyleSheet$Table" ⟨"StyleSheet$Table", "numberOf", "([I)I"⟩ ⟨"StyleSheet$Table", "numberOf", "([I)I"⟩ ∈ wG := wG_sl 18 (by decide +kernel) (by decide +kernel)
theorem ws_19 : Cond.selects "StyleSheet" ⟨"StyleSheet", "resolvedByStyles", "(III)I"⟩ ⟨"StyleSheet", "resolvedByStyles", "(III)I"⟩ ∈ wG := wG_sl 19 (by decide +kernel) (by decide +kernel)
theorem ws_20 : Cond.selects "StyleSheet" ⟨"StyleSheet", "resolved", "(IIII)I"⟩ ⟨"StyleSheet", "resolved", "(IIII)I"⟩ ∈ wG := wG_sl 20 (by decide +kernel) (by decide +kernel)
theorem ws_21 : Cond.selects "StyleSheetModel" ⟨"StyleSheetModel", "isOf", "(II)Z"⟩ ⟨"StyleSheetModel", "isOf", "(II)Z"⟩ ∈ wG := wG_sl 21 (by decide +kernel) (by decide +kernel)
theorem ws_22 : Cond.selects "StyleSheetModel" ⟨"StyleSheetModel", "isStyle", "(I)Z"⟩ ⟨"StyleSheetModel", "isStyle", "(I)Z"⟩ ∈ wG := wG_sl 22 (by decide +kernel) (by decide +kernel)
theorem ws_23 : Cond.selects "StyleSheetModel" ⟨"StyleSheetModel", "comes", "(II)Z"⟩ ⟨"StyleSheetModel", "comes", "(II)Z"⟩ ∈ wG := wG_sl 23 (by decide +kernel) (by decide +kernel)
theorem ws_24 : Cond.selects "StyleSheetModel" ⟨"StyleSheetModel", "valueOf", "(II)I"⟩ ⟨"StyleSheetModel", "valueOf", "(II)I"⟩ ∈ wG := wG_sl 24 (by decide +kernel) (by decide +kernel)
theorem ws_25 : Cond.selects "StyleSheetModel" ⟨"StyleSheetModel", "first", "(II)I"⟩ ⟨"StyleSheetModel", "first", "(II)I"⟩ ∈ wG := wG_sl 25 (by decide +kernel) (by decide +kernel)
theorem ws_26 : Cond.selects "StyleSheetModel" ⟨"StyleSheetModel", "chain", "(I)I"⟩ ⟨"StyleSheetModel", "chain", "(I)I"⟩ ∈ wG := wG_sl 26 (by decide +kernel) (by decide +kernel)
theorem ws_27 : Cond.selects "StyleSheetModel" ⟨"StyleSheetModel", "owned", "(I)I"⟩ ⟨"StyleSheetModel", "owned", "(I)I"⟩ ∈ wG := wG_sl 27 (by decide +kernel) (by decide +kernel)
theorem ws_28 : Cond.selects "StyleSheetModel" ⟨"StyleSheetModel", "isSet", "(I)Z"⟩ ⟨"StyleSheetModel", "isSet", "(I)Z"⟩ ∈ wG := wG_sl 28 (by decide +kernel) (by decide +kernel)
theorem ws_29 : Cond.selects "StyleSheetModel" ⟨"StyleSheetModel", "want", "(I)V"⟩ ⟨"StyleSheetModel", "want", "(I)V"⟩ ∈ wG := wG_sl 29 (by decide +kernel) (by decide +kernel)
theorem ws_30 : Cond.selects "StyleSheetModel" ⟨"StyleSheetModel", "found", "(I)I"⟩ ⟨"StyleSheetModel", "found", "(I)I"⟩ ∈ wG := wG_sl 30 (by decide +kernel) (by decide +kernel)
theorem ws_31 : Cond.selects "StyleSheetModel" ⟨"StyleSheetModel", "isWanted", "(I)Z"⟩ ⟨"StyleSheetModel", "isWanted", "(I)Z"⟩ ∈ wG := wG_sl 31 (by decide +kernel) (by decide +kernel)
theorem ws_32 : Cond.selects "StyleSheetModel" ⟨"StyleSheetModel", "areStyles", "(II)Z"⟩ ⟨"StyleSheetModel", "areStyles", "(II)Z"⟩ ∈ wG := wG_sl 32 (by decide +kernel) (by decide +kernel)
theorem ws_33 : Cond.selects "StyleSheetModel" ⟨"StyleSheetModel", "beneath", "(III)I"⟩ ⟨"StyleSheetModel", "beneath", "(III)I"⟩ ∈ wG := wG_sl 33 (by decide +kernel) (by decide +kernel)
theorem ws_34 : Cond.selects "StyleSheetModel" ⟨"StyleSheetModel", "sized", "(I)I"⟩ ⟨"StyleSheetModel", "sized", "(I)I"⟩ ∈ wG := wG_sl 34 (by decide +kernel) (by decide +kernel)
theorem ws_35 : Cond.selects "StyleSheetModel" ⟨"StyleSheetModel", "resolved", "(IIII)I"⟩ ⟨"StyleSheetModel", "resolved", "(IIII)I"⟩ ∈ wG := wG_sl 35 (by decide +kernel) (by decide +kernel)
end
section
/-- the class of the arrays of arrays of t stands -/
def va_AOA (t : FieldType) (U : State) : Prop := (Cond.arrayOver (.array t)).before #[] U = true
theorem va_AOA.use {t : FieldType} {A : Array Value} {U : State} (h : va_AOA t U) : (Cond.arrayOver (.array t)).before A U = true := h
theorem ao_spec {t : FieldType} {s : State} (h : va_AOA t s) : ∃ (comp c : ClassId) (k : Class), s.vm.findClass (FieldType.array t).toString = some comp ∧ (s.vm.classes.findIdx? fun (x : Class) => match x.kind with | .array component _ => component == comp | _ => false) = some c ∧ s.vm.classes[c]? = some k ∧ k.kind = .array comp (.array t) ∧ s.vm.findClass ("[" ++ (FieldType.array t).toString) = some c := by
  unfold va_AOA Cond.before at h
  simp only [Cond.holds, Cond.value, beq_iff_eq] at h
  cases hc : s.vm.findClass (FieldType.array t).toString with
  | none => simp [hc] at h
  | some comp =>
    simp only [hc, Option.bind_some, Option.bind_eq_some_iff, Option.map_eq_some_iff] at h
    obtain ⟨c, hi, k, hk, hb⟩ := h
    obtain ⟨hlt, hp, -⟩ := Array.findIdx?_eq_some_iff_getElem.mp hi
    have hkk : s.vm.classes[c] = k := (Array.getElem?_eq_some_iff.mp hk).2
    rw [hkk] at hp
    cases hkind : k.kind with
    | array component ty =>
      rw [hkind] at hb hp
      simp at hb hp
      exact ⟨comp, c, k, rfl, hi, hk, by rw [hkind, hp, hb.1], hb.2⟩
    | _ => rw [hkind] at hb; simp at hb
theorem ao_idx (vm : Vm) (comp : ClassId) : (vm.bare.classes.findIdx? fun (x : Class) => match x.kind with | .array component _ => component == comp | _ => false) = (vm.classes.findIdx? fun (x : Class) => match x.kind with | .array component _ => component == comp | _ => false) := by
  simp only [Vm.bare, Array.findIdx?_map]
  rfl
theorem va_AOA.moved {t : FieldType} {u U : State} (hvm : u.vm.Alike U.vm) (h : va_AOA t u) : va_AOA t U := by
  obtain ⟨comp, c, k, h1, h2, h3, h4, h5⟩ := ao_spec h
  obtain ⟨k', hk', he⟩ := hvm.2.2 _ _ h3
  have hi : (U.vm.classes.findIdx? fun (x : Class) => match x.kind with | .array component _ => component == comp | _ => false) = some c := by
    rw [← ao_idx]
    first | rw [hvm.bare_eq] | rw [← hvm.bare_eq]
    rw [ao_idx]
    exact h2
  have hkind : k'.kind = .array comp (.array t) := by rw [he]; exact h4
  have f1 : U.vm.findClass (FieldType.array t).toString = some comp := by rw [hvm.findClass]; exact h1
  have f2 : U.vm.findClass ("[" ++ (FieldType.array t).toString) = some c := by rw [hvm.findClass]; exact h5
  unfold va_AOA Cond.before Cond.holds
  simp only [Cond.value]
  rw [f1, Option.bind_some]
  refine (congrArg (fun o : Option Nat => (o.bind (fun c => (U.vm.classes[c]?).map fun (k : Class) => match k.kind with | .array _ ty => decide (ty = FieldType.array t) && decide (U.vm.findClass ("[" ++ (FieldType.array t).toString) = some c) | _ => false) == some true)) hi).trans ?_
  simp [hk', hkind, f2]
/-! ===== BEGIN words of one list among another's, by their places ===== -/
theorem goodIn_r {big : List Cond} (ws : List Cond) (ps : List Nat) (hp : ws = ps.filterMap (fun i => big[i]?)) (h : ws.all goodWord = true) : GoodIn big ws := by
  intro w hw
  have h1 := List.all_eq_true.mp h w hw
  rw [hp] at hw
  obtain ⟨i, -, hi⟩ := List.mem_filterMap.mp hw
  have hm : w ∈ big := by first | exact List.mem_of_getElem? hi | exact List.getElem?_mem hi
  exact ⟨hm, good_of_word h1⟩
theorem goodIn_app {big a b : List Cond} (ha : GoodIn big a) (hb : GoodIn big b) : GoodIn big (a ++ b) := fun w h => (List.mem_append.mp h).elim (ha w) (hb w)
theorem goodIn_ca {big a b : List Cond} {c : Cond} (ha : GoodIn big (c :: a)) (hb : GoodIn big b) : GoodIn big (c :: (a ++ b)) := fun w h => (List.mem_cons.mp h).elim (fun e => ha w (List.mem_cons.mpr (Or.inl e))) (fun h => (List.mem_append.mp h).elim (fun h => ha w (List.mem_cons.mpr (Or.inr h))) (hb w))
theorem goodIn_sub {big ws : List Cond} (hm : ∀ w ∈ ws, w ∈ big) (h : ws.all goodWord = true) : GoodIn big ws := fun w hw => ⟨hm w hw, good_of_word (List.all_eq_true.mp h w hw)⟩
/-! ===== END ===== -/

/-! ===== BEGIN new T[n][m]: the outer array a place, the inner ones among the pooled ===== -/
/-- f, but v at every address of l -/
def vr_up {α : Type} (f : Nat → α) (l : List Nat) (v : α) : Nat → α := fun a => if a ∈ l then v else f a
theorem vr_up_in {α : Type} {f : Nat → α} {l : List Nat} {v : α} {a : Nat} (h : a ∈ l) : vr_up f l v a = v := if_pos h
theorem vr_up_ne {α : Type} {f : Nat → α} {l : List Nat} {v : α} {a : Nat} (h : a ∉ l) : vr_up f l v a = f a := if_neg h
theorem vr_rows {L l : List Nat} {f : Nat → va_E} {e : va_E} (h : ∀ a, a ∈ l → a ∉ L) : va_pl L f ++ l.map (fun a => (a, e)) = va_pl (L ++ l) (vr_up f l e) := by
  unfold va_pl
  rw [List.map_append]
  congr 1
  · apply List.map_congr_left
    intro a ha
    rw [vr_up_ne (fun q => h a q ha)]
  · apply List.map_congr_left
    intro a ha
    rw [vr_up_in ha]
theorem vr_lay {X rows : va_W} {x : Nat × va_E} {pl : va_W} {D : va_G} {cl : List vw_C} {H : Heap} (hP : va_P D cl (((X ++ pl) ++ [x]) ++ rows) H) : va_P D cl ((X ++ [x]) ++ (pl ++ rows)) H := by
  rw [List.append_assoc (X ++ pl)] at hP
  have h := va_P.swap hP
  rw [← List.append_assoc X] at h
  have h2 := va_P.swap h
  rw [List.append_assoc (X ++ [x])] at h2
  exact h2
theorem vr_layD {X rows : va_W} {x : Nat × va_E} {pl : va_W} {A : Nat → Prop} (hD : va_D A (((X ++ pl) ++ [x]) ++ rows)) : va_D A ((X ++ [x]) ++ (pl ++ rows)) := by
  rw [List.append_assoc (X ++ pl)] at hD
  have h := va_D.swap hD
  rw [← List.append_assoc X] at h
  have h2 := va_D.swap h
  rw [List.append_assoc (X ++ [x])] at h2
  exact h2
theorem vr_outer (c : ClassId) (N h0 : Nat) : ∀ i : Nat, Jvm.Free.Multi.outerC c N h0 i = arrV c N (fun j => va_rf (if j < i then some (h0 + 1 + j) else none))
  | 0 => by
    show ({ cls := c, slots := Array.replicate N .null, vm := .none } : Cell) = _
    rw [arrV_new]
    refine congrArg (arrV c N) (funext fun j => ?_)
    simp [va_rf]
  | i + 1 => by
    show (Jvm.Free.Multi.outerC c N h0 i).setSlot i (.ref (h0 + 1 + i)) = _
    rw [vr_outer c N h0 i, arrV_store]
    refine congrArg (arrV c N) (funext fun j => ?_)
    by_cases e : j = i
    · subst e
      simp [updV, va_rf]
    · by_cases h : j < i
      · simp [updV, e, h, Nat.lt_succ_of_lt h]
      · simp [updV, e, h, show ¬ j < i + 1 by omega]
section VGM
variable {p : Program} {l : Launch} {e : Env} {R : Room} {s : State} {m : MethodId} {args : Array Value} {below : List Frame} {meth : Method} {c : Code} {H : Heap} {locs : List Loc} {cells slots : Nat} {Q : State → Prop}
variable {cc : ByteArray} {pc : Nat} {ls : Array Slot} {rest : List Value} {D : va_G} {cl : List vw_C} {A : Nat → Prop} {a : Nat} {tys : List (ClassId × FieldType)} {ws : va_W} {H0 : Heap}
theorem va_mna {X : va_W} {L : List Nat} {f : Nat → va_E} {cc : ByteArray} (hexec : p.tables.exec = Jvm.exec) (hb : c.code = cc) {own : String} {index : Nat} {ty : FieldType} {cy : ClassId} (hown : s.vm.findClass own = some m.cls) (hclink : (Cond.classLink own index ("[" ++ (FieldType.array ty).toString)).before args s = true) (hover : va_AOA ty s) (harr : (Cond.arrayClass ty).before args s = true) (hcy : s.vm.findClass (FieldType.array ty).toString = some cy)
    (hK : va_K D cl tys s) (hP : va_P D cl (X ++ va_pl L f) H) (hD : va_D A (X ++ va_pl L f)) (hS : va_S A H0 H locs) (hA : ∀ q, H0.size ≤ q → A q) {n k : Int32} {N' K' : Nat} {z : vp_A} (hn : ¬ n < 0) (hk : ¬ k < 0) (hN : n.toNatClampNeg = N') (hM : k.toNatClampNeg = K')
    (hb1 : N' * 4 ≤ 536870912) (hb2 : K' * componentBytes ty ≤ 536870912) (hb3 : K' ≤ 536870912) (hdf : fits ty (defaultValue ty) = true) (hdd : (defaultValue ty).isDefault = true) (hcells : cells + (1 + N') ≤ R.cells) (hslots : slots + (N' + N' * K') ≤ R.slots) (hz : ∀ c : ClassId, Jvm.Free.Multi.innerC c K' (defaultValue ty) = vp_cell c z) (hdg : decode cc pc = .ok (.multianewarray index 2, 4))
    (kk : ∀ (q : Nat) (r : Nat → Nat) (cA : ClassId) (H1 : Heap), (∀ i j : Nat, i < N' → j < N' → r i = r j → i = j) → (∀ i : Nat, i < N' → r i ∉ L) → va_K D cl (tys ++ [(cA, .array ty)]) s →
      va_P D cl ((X ++ [(q, .inl (cA, N', .inr (.inr (.inr (.inr (fun i => if i < N' then some (r i) else none))))))]) ++ va_pl (L ++ (List.range N').map r) (vr_up f ((List.range N').map r) (.inl (cy, z)))) H1 → va_D A ((X ++ [(q, .inl (cA, N', .inr (.inr (.inr (.inr (fun i => if i < N' then some (r i) else none))))))]) ++ va_pl (L ++ (List.range N').map r) (vr_up f ((List.range N').map r) (.inl (cy, z)))) → va_S A H0 H1 locs →
      W p l e R s m args below meth c H1 locs (cells + 1 + N') (slots + N' + N' * K') Q (F0 m (pc + 4) ls (.ref q :: rest))) : W p l e R s m args below meth c H locs cells slots Q (F0 m pc ls (.int k :: .int n :: rest)) := by
  subst hN
  subst hM
  intro T hT Xs
  obtain ⟨vm₁, cA, comp, -, fA, fC, hO, -, X', step⟩ := Xs.multianewarray2F hexec hown hclink (va_AOA.use hover) harr (g := F0 m pc ls (.int k :: .int n :: rest)) rfl (by rw [hb]; exact hdg) rfl hn hk hb1 hb2 hb3 hdf hdd hcells hslots
  have ec : some cy = some comp := hcy.symm.trans fC
  cases ec
  generalize hF : Jvm.Free.Multi.fill (T.setVm vm₁) cA cy n.toNatClampNeg k.toNatClampNeg (defaultValue ty) n.toNatClampNeg = F at X' step
  have hTh : (T.setVm vm₁).heap = H := hT
  obtain ⟨f1, f2, -, -⟩ := Jvm.Free.Multi.fill_facts (T.setVm vm₁) cA cy n.toNatClampNeg k.toNatClampNeg (defaultValue ty) n.toNatClampNeg
  rw [hF, hTh] at f1 f2
  have hold : ∀ x : Nat, x < H.size → F.heap[x]? = H[x]? := fun x hx => by
    have := Jvm.Free.Multi.fill_old (T.setVm vm₁) cA cy n.toNatClampNeg k.toNatClampNeg (defaultValue ty) (a := x) (by rw [hTh]; exact hx) n.toNatClampNeg
    rw [hF, hTh] at this
    exact this
  have hrow : ∀ j : Nat, j < n.toNatClampNeg → F.heap[H.size + 1 + j]? = some (vp_cell cy z) := fun j hj => by
    have := Jvm.Free.Multi.fill_inner (T.setVm vm₁) cA cy n.toNatClampNeg k.toNatClampNeg (defaultValue ty) n.toNatClampNeg j hj
    rw [hF, hTh, hz] at this
    exact this
  have hout : Jvm.Free.Multi.outerC cA n.toNatClampNeg H.size n.toNatClampNeg = vp_cell cA (n.toNatClampNeg, .inr (.inr (.inr (.inr (fun i => if i < n.toNatClampNeg then some (H.size + 1 + i) else none))))) := by
    rw [vp_cell_q]
    exact vr_outer cA n.toNatClampNeg H.size n.toNatClampNeg
  rw [hout] at f2
  have hlt : ∀ a, a ∈ L → a < H.size := fun a ha => by
    obtain ⟨k9, hk9⟩ := va_pl_get (X := X) (f := f) ha
    exact (hP k9 _ hk9).lt
  have hnl : ∀ i : Nat, i < n.toNatClampNeg → H.size + 1 + i ∉ L := fun i _ h => by
    have := hlt _ h
    omega
  have hnm : ∀ a, a ∈ (List.range n.toNatClampNeg).map (fun i => H.size + 1 + i) → a ∉ L := fun a ha h => by
    obtain ⟨i, -, rfl⟩ := List.mem_map.mp ha
    have := hlt _ h
    omega
  have hP0 : va_P D cl (X ++ va_pl L f) F.heap := hP.kept (fun k9 x hx => hold x.1 ((hP k9 x hx).lt))
  have hP1 : va_P D cl ((X ++ va_pl L f) ++ [(H.size, .inl (cA, n.toNatClampNeg, .inr (.inr (.inr (.inr (fun i => if i < n.toNatClampNeg then some (H.size + 1 + i) else none))))))]) F.heap := hP0.app (fun k9 x hx => by
    have h0 : k9 < 1 := (List.getElem?_eq_some_iff.mp hx).1
    rw [show k9 = 0 by omega] at hx
    cases hx
    exact f2)
  have hP2 : va_P D cl (((X ++ va_pl L f) ++ [(H.size, .inl (cA, n.toNatClampNeg, .inr (.inr (.inr (.inr (fun i => if i < n.toNatClampNeg then some (H.size + 1 + i) else none))))))]) ++ ((List.range n.toNatClampNeg).map (fun i => H.size + 1 + i)).map (fun a => (a, .inl (cy, z)))) F.heap := hP1.app (fun k9 x hx => by
    obtain ⟨a, ha, rfl⟩ := List.mem_map.mp (List.mem_of_getElem? hx)
    obtain ⟨i, hi, rfl⟩ := List.mem_map.mp ha
    exact hrow i (List.mem_range.mp hi))
  have hD2 : va_D A (((X ++ va_pl L f) ++ [(H.size, .inl (cA, n.toNatClampNeg, .inr (.inr (.inr (.inr (fun i => if i < n.toNatClampNeg then some (H.size + 1 + i) else none))))))]) ++ ((List.range n.toNatClampNeg).map (fun i => H.size + 1 + i)).map (fun a => (a, .inl (cy, z)))) := by
    have hD1 := hD.push (e := .inl (cA, n.toNatClampNeg, .inr (.inr (.inr (.inr (fun i => if i < n.toNatClampNeg then some (H.size + 1 + i) else none)))))) hP rfl (hA _ hS.1)
    generalize hW1 : (X ++ va_pl L f) ++ [(H.size, .inl (cA, n.toNatClampNeg, .inr (.inr (.inr (.inr (fun i => if i < n.toNatClampNeg then some (H.size + 1 + i) else none))))))] = W1 at hD1 hP1 ⊢
    have hle : ∀ (k9 : Nat) (x : Nat × va_E), W1[k9]? = some x → x.1 ≤ H.size := fun k9 x hx => by
      rw [← hW1] at hx
      by_cases hl : k9 < (X ++ va_pl L f).length
      · rw [List.getElem?_append_left hl] at hx
        exact Nat.le_of_lt ((hP k9 x hx).lt)
      · rw [List.getElem?_append_right (by omega)] at hx
        have h0 : k9 - (X ++ va_pl L f).length < 1 := (List.getElem?_eq_some_iff.mp hx).1
        rw [show k9 - (X ++ va_pl L f).length = 0 by omega] at hx
        cases hx
        exact Nat.le_refl _
    have hr : ∀ (k9 : Nat) (x : Nat × va_E), (((List.range n.toNatClampNeg).map (fun i => H.size + 1 + i)).map (fun a => ((a, .inl (cy, z)) : Nat × va_E)))[k9]? = some x → x.1 = H.size + 1 + k9 := fun k9 x hx => by
      rw [List.getElem?_map, List.getElem?_map] at hx
      by_cases h9 : k9 < n.toNatClampNeg
      · rw [List.getElem?_range h9] at hx
        cases hx
        rfl
      · have hn0 : (List.range n.toNatClampNeg)[k9]? = none := List.getElem?_eq_none (by rw [List.length_range]; omega)
        rw [hn0] at hx
        cases hx
    refine ⟨fun i j x y hi hj hxy => ?_, fun k9 x hx => ?_⟩
    · by_cases h1 : i < W1.length <;> by_cases h2 : j < W1.length
      · rw [List.getElem?_append_left h1] at hi
        rw [List.getElem?_append_left h2] at hj
        exact hD1.1 i j x y hi hj hxy
      · rw [List.getElem?_append_left h1] at hi
        rw [List.getElem?_append_right (by omega)] at hj
        have := hle _ _ hi
        have := hr _ _ hj
        omega
      · rw [List.getElem?_append_right (by omega)] at hi
        rw [List.getElem?_append_left h2] at hj
        have := hle _ _ hj
        have := hr _ _ hi
        omega
      · rw [List.getElem?_append_right (by omega)] at hi hj
        have := hr _ _ hi
        have := hr _ _ hj
        omega
    · by_cases h1 : k9 < W1.length
      · rw [List.getElem?_append_left h1] at hx
        exact hD1.2 k9 x hx
      · rw [List.getElem?_append_right (by omega)] at hx
        have := hr _ _ hx
        exact hA _ (by have := hS.1; omega)
  have hAr : ArrOfT s cA (.array ty) := fun N9 z9 => by
    obtain ⟨-, k9, hk9, cm9, hkk9⟩ := (hO 0 0 0).1
    exact ⟨(fun q hq => by cases hq), k9, hk9, cm9, hkk9⟩
  have hK2 : va_K D cl (tys ++ [(cA, .array ty)]) s := ⟨hK.1, fun k9 x hx => by
    by_cases hl : k9 < tys.length
    · rw [List.getElem?_append_left hl] at hx
      exact hK.2 k9 x hx
    · rw [List.getElem?_append_right (by omega)] at hx
      have h0 : k9 - tys.length < 1 := (List.getElem?_eq_some_iff.mp hx).1
      rw [show k9 - tys.length = 0 by omega] at hx
      cases hx
      exact ⟨hAr, fA⟩⟩
  obtain ⟨t, a1, b1⟩ := kk H.size (fun i => H.size + 1 + i) cA F.heap (fun i j _ _ h => by have h9 : H.size + 1 + i = H.size + 1 + j := h; omega) hnl hK2 (by rw [← vr_rows hnm]; exact vr_lay hP2) (by rw [← vr_rows hnm]; exact vr_layD hD2) ⟨by rw [f1]; have := hS.1; omega, fun x h1 h2 => (hold x (Nat.lt_of_lt_of_le h1 hS.1)).trans (hS.2.1 x h1 h2), hS.2.2⟩ F rfl X'
  refine ⟨t, step t ?_, b1⟩
  have e : T.heap.size = H.size := by rw [hT]
  rw [e]
  exact a1
end VGM
/-! ===== END ===== -/

/-! ===== BEGIN exceptions that leave a method, and their catching by the caller (launches without stack traces) ===== -/
section VXA
/-! The laws vx_back, vx_callV, vx_callS, vx_callSW, vx_throw0, vx_throwS follow proofs of the library, with one case more: JvmDerived/Free/Laws.lean (Back.of_free), Shelf42/LK1.lean (callV, callS), Shelf/KitTraced.lean (throwNew0V, throwNewS). -/
/-- where a method has thrown q: the class by its name, the cell, what was written, the world -/
def vx_T (XC : String → State → State → Prop) (st : State) (q : Addr) (t : State) (mc ms : Nat) (free : Addr → Prop) : Prop :=
  ∃ (E : String) (ce : Cell) (L : List Loc), XC E st t ∧ t.heap[q]? = some ce ∧ ce.vm = .none ∧ st.vm.findClass E = some ce.cls ∧ st.WarmedH t.vm ∧ st.sameButNew ({ t with vm := st.vm } : State) L mc ms ∧ ∀ z ∈ L, free z.base
def vx_Q (Qc : Array Value → State → Outcome → State → Prop) (XC : String → State → State → Prop) (mc ms : Nat) (free : Addr → Prop) : Array Value → State → Outcome → State → Prop := fun a st o t =>
  (Qc a st o t ∧ ∃ L, FrameEnd st o t L mc ms ∧ ∀ q ∈ L, free q.base) ∨ ∃ q, o = .threw q ∧ vx_T XC st q t mc ms free
/-- a callee that returns or throws -/
def vx_Met (l : Launch) (y : MethodName) (ws : List Cond) (rm : Room) (Pc : Array Value → State → Prop) (Qc : Array Value → State → Outcome → State → Prop) (XC : String → State → State → Prop) (mc ms : Nat) (free : Addr → Prop) : Prop :=
  MetFree l y (headSpec ws rm) Pc (fun _ _ _ _ _ => True) (vx_Q Qc XC mc ms free)
def vx_Post (XC : String → State → State → Prop) (mc ms : Nat) (free : Addr → Prop) : Pt → Array Value → Addr → Pt → Prop := fun A a q B =>
  ∃ (g : JFrame) (mk : MethodId) (t : State) (L : List Loc) (E : String) (ce : Cell), B.U.heap = t.heap ∧ B.U.vm = t.vm ∧ XC E (A.U.calling g mk a) t ∧ t.heap[q]? = some ce ∧ ce.vm = .none ∧ A.U.vm.findClass E = some ce.cls ∧ B.locs = A.locs ++ L ∧ (∀ z ∈ L, free z.base) ∧ B.cells = A.cells + mc ∧ B.slots = A.slots + ms
def vx_Back (l : Launch) (R : Room) (p : Program) (e : Env) (below : List Frame) (s : State) (sargs : Array Value) (y : MethodName) (len W9 : Nat)
    (Pre : Pt → Array Value → Prop) (Post : Pt → Array Value → Option Value → Pt → Prop) (PostX : Pt → Array Value → Addr → Pt → Prop) : Prop :=
  ∀ (m : MethodId) (meth : Method) (c : Code) (A : Pt) (g : JFrame) (ig : Instr) (mk : MethodId) (a : Array Value),
    Stand p l e R s m sargs below meth c A.U A.locs A.cells A.slots → g.method = m → g.locals.size = c.maxLocals → decode c.code g.pc = .ok (ig, len) →
    2 * g.monitorRoom + (g.stack.map fun v => v.category).sum ≤ W9 → A.U.methodNamed? y = some mk → Pre A a →
    (∃ (v : Option Value) (B : Pt), Stand p l e R s m sargs below meth c B.U B.locs B.cells B.slots ∧ Post A a v B ∧
      Steps p.tables e below (doInvoke e (A.U.setTop g) [] mk a).1 (B.U.setTop { g with pc := g.pc + len, stack := v.toList ++ g.stack })) ∨
    (∃ (q : Addr) (B : Pt), Stand p l e R s m sargs below meth c B.U B.locs B.cells B.slots ∧ PostX A a q B ∧
      Steps p.tables e below (doInvoke e (A.U.setTop g) [] mk a).1 ((B.U.setTop g).pushFrame (.throwing q)))
section Payer
variable {l : Launch} {R : Room} {p : Program} {e : Env} {below : List Frame} {s : State} {sargs : Array Value} {y : MethodName} {len W9 : Nat}
theorem vx_back {ws : List Cond} {rm : Room} {Pc : Array Value → State → Prop} {Qc : Array Value → State → Outcome → State → Prop} {XC : String → State → State → Prop} {mc ms : Nat} {free : Addr → Prop} {bytes : ByteArray} {maxL : Nat} {ret : Option FieldType}
    (hM : vx_Met l y ws rm Pc Qc XC mc ms free) (hblind : FrameBlind Pc) (hrc : rm.cells = mc) (hrs : rm.slots = ms)
    (hframes : rm.frames + 1 ≤ R.frames) (hlocals : W9 + (maxL + 11) + rm.locals ≤ R.locals)
    (hws : ∀ w ∈ ws, ∀ a' U, s.WarmedH U.vm → w.before a' U = true) (hcode : Cond.code y bytes maxL ret ∈ ws) (hinit : ∀ a' U, s.WarmedH U.vm → (Cond.initialized y.cls).before a' U = true) :
    vx_Back l R p e below s sargs y len W9 (PreOf R mc ms Pc) (PostOf Qc mc ms free) (vx_Post XC mc ms free) := by
  intro m meth c A g ig mk a X hg hsize hdg hW hn hp
  have h1 : (headSpec ws rm).pre.before a A.U = true := atoms_intro fun w hw => hws w hw _ _ X.warmed
  have h2 : (Cond.code y bytes maxL ret).before a A.U = true := hws _ hcode _ _ X.warmed
  have h3 : (Cond.initialized y.cls).before a A.U = true := hinit _ _ X.warmed
  have h4 : A.cells + (headSpec ws rm).room.cells ≤ R.cells := by rw [show (headSpec ws rm).room.cells = mc from hrc]; exact hp.1
  have h5 : A.slots + (headSpec ws rm).room.slots ≤ R.slots := by rw [show (headSpec ws rm).room.slots = ms from hrs]; exact hp.2.1
  have hPc : Pc a (A.U.calling g mk a) := hblind _ _ _ _ hp.2.2
  obtain ⟨U, Ls, c0, s0⟩ := A
  dsimp only [Pt.U, Pt.locs, Pt.cells, Pt.slots] at h1 h2 h3 h4 h5 X hn hPc ⊢
  obtain ⟨methY, cY, hmY, hcY, -, hlY, -, -, -, -⟩ := Cond.code_spec hn h2
  obtain ⟨kY, hkY, -⟩ := className_of_methodNamed hn
  have hinitY : kY.init = .initialized := Cond.initialized_spec (findClass_of_methodNamed hn) hkY h3
  have h : At U g.method c below := by rw [hg]; exact X.here
  have hlocals9 : W9 + (maxL + 11) + (headSpec ws rm).room.locals ≤ R.locals := hlocals
  have happ : (headSpec ws rm).appliesLoose y e.platform (U.calling g mk a) = true :=
    Spec.appliesLoose_calling (g := g) h hdg hn hkY hinitY
      (X.room_calling (g := g) (R' := (headSpec ws rm).room) hsize hmY hcY hframes (by rw [hlY]; omega) h4 h5) h1
  obtain ⟨mid, hmid⟩ := h.above
  have hfr : (U.setTop g).frames = (.java g :: mid) ++ below := by rw [State.frames_setTop' g h.top, hmid]; rfl
  obtain ⟨o, s₂, hsteps, -, hend, hq⟩ := Steps.callFree hM p X.admits X.cas X.clock (acts := []) hfr happ hPc trivial
  have hq' : vx_Q Qc XC mc ms free a (U.calling g mk a) o s₂ := hq
  rw [State.frames_setTop' g h.top] at hend
  obtain ⟨g₀, hg0⟩ := Option.isSome_iff_exists.mp h.top
  obtain ⟨r, hr⟩ := State.topJava?_eq_some.mp hg0
  have hr' : (({ U with heap := s₂.heap, slotsUsed := s₂.slotsUsed } : State).setVm s₂.vm).frames = .java g₀ :: r := hr
  rcases hq' with ⟨hqc, L, hfe, hL⟩ | ⟨q, rfl, E, ce, L, hx, hce, hcv, hcl, hW₂, hsm, hL⟩
  · obtain ⟨⟨v, rfl⟩, hW₂, e2, q2, q3, q4, q5, q6⟩ := id hfe
    have e3 : s₂ = ({ (U.calling g mk a).setFrames s₂.frames with heap := s₂.heap, slotsUsed := s₂.slotsUsed } : State).setVm s₂.vm := by
      have : s₂ = ({ s₂ with vm := (U.calling g mk a).vm } : State).setVm s₂.vm := rfl
      rw [e2] at this
      exact this
    obtain ⟨c₂, i₂, len₂, hc₂, hd₂, hf₂⟩ := hend
    have hW' : U.WarmedH s₂.vm := hW₂
    have hcc : c₂ = c := by
      have h1 : s₂.code? g.method = U.code? g.method := by
        rw [State.code?_eq, State.code?_eq, hW'.alike.method?]
      exact Option.some.inj (hc₂.symm.trans (h1.trans h.code))
    subst hcc
    have hlen : len₂ = len := by rw [hdg] at hd₂; cases hd₂; rfl
    subst hlen
    have hs₂ : s₂ = (({ U with heap := s₂.heap, slotsUsed := s₂.slotsUsed } : State).setVm s₂.vm).setTop { g with pc := g.pc + len₂, stack := v.toList ++ g.stack } := by
      refine e3.trans ?_
      rw [hf₂, State.calling_eq h.top, State.setFrames_setFrames, State.setTop_of_frames _ hr', hr]
      rfl
    have hsame : U.sameButNew ({ U with heap := s₂.heap, slotsUsed := s₂.slotsUsed } : State) L mc ms := by
      refine ⟨?_, q2, q3, q4, q5, q6⟩
      obtain ⟨t, ht, -⟩ := State.frames_cons hr
      show ({ U with heap := s₂.heap, slotsUsed := s₂.slotsUsed } : State) = { U.setFrames U.frames with heap := s₂.heap, slotsUsed := s₂.slotsUsed }
      rw [State.setFrames_self ht]
    subst hg
    refine Or.inl ⟨v, ⟨(({ U with heap := s₂.heap, slotsUsed := s₂.slotsUsed } : State).setVm s₂.vm), Ls ++ L, c0 + mc, s0 + ms⟩,
      ⟨X.admits, X.cas, X.clock, X.frames, X.room, X.hears, X.method, X.code, (X.here.setHeapUsed s₂.heap s₂.slotsUsed).setVm hW'.alike, X.tail, State.WarmedH.trans X.warmed hW', X.limits, X.bytes, X.same.trans (hsame.setVm s.vm)⟩,
      ⟨g, mk, s₂, L, rfl, rfl, hqc, rfl, hL, rfl, rfl⟩, ?_⟩
    show Steps p.tables e below _ ((({ U with heap := s₂.heap, slotsUsed := s₂.slotsUsed } : State).setVm s₂.vm).setTop { g with pc := g.pc + len₂, stack := v.toList ++ g.stack })
    rw [← hs₂]
    exact hsteps
  · obtain ⟨e2, q2, q3, q4, q5, q6⟩ := id hsm
    have e3 : s₂ = ({ (U.calling g mk a).setFrames s₂.frames with heap := s₂.heap, slotsUsed := s₂.slotsUsed } : State).setVm s₂.vm := by
      have : s₂ = ({ s₂ with vm := (U.calling g mk a).vm } : State).setVm s₂.vm := rfl
      rw [e2] at this
      exact this
    have hf₂ : s₂.frames = .throwing q :: .java g :: U.frames.tail := hend
    have hW' : U.WarmedH s₂.vm := hW₂
    have hs₂ : s₂ = ((({ U with heap := s₂.heap, slotsUsed := s₂.slotsUsed } : State).setVm s₂.vm).setTop g).pushFrame (.throwing q) := by
      refine e3.trans ?_
      rw [hf₂, State.calling_eq h.top, State.setFrames_setFrames, State.pushFrame, State.frames_setTop _ hr', State.setTop_of_frames _ hr', State.setFrames_setFrames, hr]
      rfl
    have hsame : U.sameButNew ({ U with heap := s₂.heap, slotsUsed := s₂.slotsUsed } : State) L mc ms := by
      refine ⟨?_, q2, q3, q4, q5, q6⟩
      obtain ⟨t, ht, -⟩ := State.frames_cons hr
      show ({ U with heap := s₂.heap, slotsUsed := s₂.slotsUsed } : State) = { U.setFrames U.frames with heap := s₂.heap, slotsUsed := s₂.slotsUsed }
      rw [State.setFrames_self ht]
    subst hg
    refine Or.inr ⟨q, ⟨(({ U with heap := s₂.heap, slotsUsed := s₂.slotsUsed } : State).setVm s₂.vm), Ls ++ L, c0 + mc, s0 + ms⟩,
      ⟨X.admits, X.cas, X.clock, X.frames, X.room, X.hears, X.method, X.code, (X.here.setHeapUsed s₂.heap s₂.slotsUsed).setVm hW'.alike, X.tail, State.WarmedH.trans X.warmed hW', X.limits, X.bytes, X.same.trans (hsame.setVm s.vm)⟩,
      ⟨g, mk, s₂, L, E, ce, rfl, rfl, hx, hce, hcv, hcl, rfl, hL, rfl, rfl⟩, ?_⟩
    show Steps p.tables e below _ (((({ U with heap := s₂.heap, slotsUsed := s₂.slotsUsed } : State).setVm s₂.vm).setTop g).pushFrame (.throwing q))
    rw [← hs₂]
    exact hsteps
end Payer
section Calls
variable {p : Program} {l : Launch} {e : Env} {R : Room} {s : State} {m : MethodId} {args : Array Value} {below : List Frame} {meth : Method} {c : Code} {T : State} {locs : List Loc} {cells slots : Nat}
theorem vx_callV (X : Stand p l e R s m args below meth c T locs cells slots) (hexec : p.tables.exec = Jvm.exec) {own C : String} {index : Nat} {y : MethodName} {bytes : ByteArray} {maxL : Nat} {ret : Option FieldType}
    (hown : s.vm.findClass own = some m.cls) (hlink : (Cond.methodLink own index y).before args s = true) (hinst : (Cond.instanceMethod y).before args s = true) (hsel : (Cond.selects C y y).before args s = true)
    (hcode : (Cond.code y bytes maxL ret).before args s = true) (hy : y.cls ≠ "java/lang/invoke/MethodHandle" ∧ y.cls ≠ "java/lang/invoke/VarHandle")
    {W9 : Nat} {Pre : Pt → Array Value → Prop} {Post : Pt → Array Value → Option Value → Pt → Prop} {PostX : Pt → Array Value → Addr → Pt → Prop} (hK : vx_Back l R p e below s args y 3 W9 Pre Post PostX)
    {b : Addr} {cellB : Cell} (hcell : T.heap[b]? = some cellB) (hobj : cellB.vm.isStatics = false) (hcls : s.vm.findClass C = some cellB.cls)
    {g : JFrame} (hg : g.method = m) (hsize : g.locals.size = c.maxLocals) {argsL rest : List Value} (hlen : ∀ sig, parseMethodDescriptor y.desc = some sig → argsL.length = sig.parameters.length)
    (hstack : g.stack = argsL.reverse ++ .ref b :: rest) (hW : 2 * g.monitorRoom + (rest.map fun v => v.category).sum ≤ W9) (hdg : decode c.code g.pc = .ok (.invokevirtual index, 3))
    (hpre : ∀ vm₁, s.WarmedH vm₁ → Pre ⟨T.setVm vm₁, locs, cells, slots⟩ (Value.ref b :: argsL).toArray) :
    (∃ (v : Option Value) (vm₁ : Vm) (B : Pt), s.WarmedH vm₁ ∧ Stand p l e R s m args below meth c B.U B.locs B.cells B.slots ∧ Post ⟨T.setVm vm₁, locs, cells, slots⟩ (Value.ref b :: argsL).toArray v B ∧
      ∀ target, Steps p.tables e below (B.U.setTop { g with pc := g.pc + 3, stack := v.toList ++ rest }) target → Steps p.tables e below (T.setTop g) target) ∨
    (∃ (q : Addr) (vm₁ : Vm) (B : Pt), s.WarmedH vm₁ ∧ Stand p l e R s m args below meth c B.U B.locs B.cells B.slots ∧ PostX ⟨T.setVm vm₁, locs, cells, slots⟩ (Value.ref b :: argsL).toArray q B ∧
      Steps p.tables e below (T.setTop g) ((B.U.setTop { g with stack := rest }).pushFrame (.throwing q))) := by
  obtain ⟨mk, methM, hnamed, hmethM, hstM, habM⟩ := Cond.instanceMethod_spec hinst
  obtain ⟨methM', cM, hmethM', -, -, -, -, -, -, hsigM⟩ := Cond.code_spec hnamed hcode
  cases hmethM.symm.trans hmethM'
  obtain ⟨c2, r2, m2, q1, q2, q3, q4, kP, hkP, hkPi⟩ := Cond.selects_spec hsel
  cases hcls.symm.trans q1
  cases (State.methodFound?_of_named hnamed hy).symm.trans q2
  cases hnamed.symm.trans q3
  have hselP : selectMethod e.platform s.vm cellB.cls mk = .method mk := by rw [Launch.admits_selectMethod X.admits]; exact q4
  obtain ⟨vm₁, X₁, hstep₁⟩ := X.invokevirtual hexec hown hlink hnamed hmethM hstM hkP hkPi hy (a := b) (cell := cellB) hcell
    (fun z h => by rw [h] at hobj; cases hobj) hselP hmethM habM hkP hkPi (g := g) hg (argsL := argsL) (rest := rest) (hlen _ hsigM) hstack hdg
  rcases hK m meth c ⟨T.setVm vm₁, locs, cells, slots⟩ { g with stack := rest } (.invokevirtual index) mk (Value.ref b :: argsL).toArray X₁ hg hsize hdg hW (X₁.named hnamed) (hpre vm₁ X₁.warmed) with ⟨v, B, X', hpost, hsteps⟩ | ⟨q, B, X', hpost, hsteps⟩
  · exact Or.inl ⟨v, vm₁, B, X₁.warmed, X', hpost, fun target h => hstep₁ _ fun acts => by rw [doInvoke_state]; exact hsteps.trans h⟩
  · exact Or.inr ⟨q, vm₁, B, X₁.warmed, X', hpost, hstep₁ _ fun acts => by rw [doInvoke_state]; exact hsteps⟩
theorem vx_callS (X : Stand p l e R s m args below meth c T locs cells slots) (hexec : p.tables.exec = Jvm.exec) {own : String} {index : Nat} {y : MethodName} {bytes : ByteArray} {maxL : Nat} {ret : Option FieldType}
    (hown : s.vm.findClass own = some m.cls) (hlink : (Cond.methodLink own index y).before args s = true) (hstat : (Cond.static y).before args s = true) (hinit : (Cond.initialized y.cls).before args s = true)
    (hcode : (Cond.code y bytes maxL ret).before args s = true) (hy : y.cls ≠ "java/lang/invoke/MethodHandle" ∧ y.cls ≠ "java/lang/invoke/VarHandle")
    {W9 : Nat} {Pre : Pt → Array Value → Prop} {Post : Pt → Array Value → Option Value → Pt → Prop} {PostX : Pt → Array Value → Addr → Pt → Prop} (hK : vx_Back l R p e below s args y 3 W9 Pre Post PostX)
    {g : JFrame} (hg : g.method = m) (hsize : g.locals.size = c.maxLocals) {argsL rest : List Value} (hlen : ∀ sig, parseMethodDescriptor y.desc = some sig → argsL.length = sig.parameters.length)
    (hstack : g.stack = argsL.reverse ++ rest) (hW : 2 * g.monitorRoom + (rest.map fun v => v.category).sum ≤ W9) (hdg : decode c.code g.pc = .ok (.invokestatic index, 3))
    (hpre : ∀ vm₁, s.WarmedH vm₁ → Pre ⟨T.setVm vm₁, locs, cells, slots⟩ argsL.toArray) :
    (∃ (v : Option Value) (vm₁ : Vm) (B : Pt), s.WarmedH vm₁ ∧ Stand p l e R s m args below meth c B.U B.locs B.cells B.slots ∧ Post ⟨T.setVm vm₁, locs, cells, slots⟩ argsL.toArray v B ∧
      ∀ target, Steps p.tables e below (B.U.setTop { g with pc := g.pc + 3, stack := v.toList ++ rest }) target → Steps p.tables e below (T.setTop g) target) ∨
    (∃ (q : Addr) (vm₁ : Vm) (B : Pt), s.WarmedH vm₁ ∧ Stand p l e R s m args below meth c B.U B.locs B.cells B.slots ∧ PostX ⟨T.setVm vm₁, locs, cells, slots⟩ argsL.toArray q B ∧
      Steps p.tables e below (T.setTop g) ((B.U.setTop { g with stack := rest }).pushFrame (.throwing q))) := by
  obtain ⟨mk, hnamed⟩ := Cond.code_named hcode
  obtain ⟨methM, cM, hmethM, -, -, -, -, -, -, hsigM⟩ := Cond.code_spec hnamed hcode
  have hstatic : methM.isStatic = true := Cond.static_spec hnamed hmethM hstat
  obtain ⟨kP, hkP, -⟩ := className_of_methodNamed hnamed
  have hinitP : kP.init = .initialized := Cond.initialized_spec (findClass_of_methodNamed hnamed) hkP hinit
  obtain ⟨vm₁, X₁, hstep₁⟩ := X.invokestatic hexec hown hlink hnamed hmethM hstatic hkP hinitP hy (g := g) hg (argsL := argsL) (rest := rest) (hlen _ hsigM) hstack hdg
  rcases hK m meth c ⟨T.setVm vm₁, locs, cells, slots⟩ { g with stack := rest } (.invokestatic index) mk argsL.toArray X₁ hg hsize hdg hW (X₁.named hnamed) (hpre vm₁ X₁.warmed) with ⟨v, B, X', hpost, hsteps⟩ | ⟨q, B, X', hpost, hsteps⟩
  · exact Or.inl ⟨v, vm₁, B, X₁.warmed, X', hpost, fun target h => hstep₁ _ fun acts => by rw [doInvoke_state]; exact hsteps.trans h⟩
  · exact Or.inr ⟨q, vm₁, B, X₁.warmed, X', hpost, hstep₁ _ fun acts => by rw [doInvoke_state]; exact hsteps⟩
end Calls
theorem vx_cls {s : State} {T : State} {vm₁ : Vm} {E : String} {k : ClassId} (hW : s.WarmedH vm₁) (h : (T.setVm vm₁).vm.findClass E = some k) : s.vm.findClass E = some k := by
  have h1 : vm₁.findClass E = some k := h
  rw [hW.alike.findClass] at h1
  exact h1
/-- the method's frame g, with q thrown over it -/
def vx_W (p : Program) (l : Launch) (e : Env) (R : Room) (s : State) (m : MethodId) (args : Array Value) (below : List Frame) (meth : Method) (c : Code) (H : Heap) (locs : List Loc) (cells slots : Nat) (Q : State → Prop) (g : JFrame) (q : Addr) : Prop :=
  ∀ T : State, T.heap = H → Stand p l e R s m args below meth c T locs cells slots → ∃ t, Steps p.tables e below ((T.setTop g).pushFrame (.throwing q)) t ∧ Q t
def vx_Run (p : Program) (l : Launch) (e : Env) (R : Room) (s : State) (m : MethodId) (args : Array Value) (below : List Frame) (meth : Method) (c : Code) (H : Heap) (locs : List Loc) (cells slots mc ms : Nat) (g : JFrame) (rest : List Value) (Qa : State → Outcome → State → Prop) (XC : String → State → State → Prop) (free : Addr → Prop) : Prop :=
  ∀ T : State, T.heap = H → Stand p l e R s m args below meth c T locs cells slots →
    (∃ (v : Option Value) (st₀ t T' : State) (L : List Loc), st₀.heap = H ∧ Stand p l e R s m args below meth c T' (locs ++ L) (cells + mc) (slots + ms) ∧ (∀ q ∈ L, free q.base) ∧ T'.heap = t.heap ∧ T'.vm = t.vm ∧ Qa st₀ (.returned v) t ∧
      Goes p e below T g T' { g with pc := g.pc + 3, stack := v.toList ++ rest }) ∨
    (∃ (q : Addr) (st₀ t T' : State) (L : List Loc) (E : String) (ce : Cell), st₀.heap = H ∧ Stand p l e R s m args below meth c T' (locs ++ L) (cells + mc) (slots + ms) ∧ (∀ z ∈ L, free z.base) ∧ T'.heap = t.heap ∧ T'.vm = t.vm ∧ XC E st₀ t ∧ t.heap[q]? = some ce ∧ ce.vm = .none ∧ s.vm.findClass E = some ce.cls ∧
      Steps p.tables e below (T.setTop g) ((T'.setTop { g with stack := rest }).pushFrame (.throwing q)))
def vx_X {S : Type} (px : S → Prop) (B : String → S → State → Prop) (A : Nat → Prop) : String → State → State → Prop := fun E st t => ∃ u : S, px u ∧ B E u t ∧ va_F A st t
section Runs
variable {p : Program} {l : Launch} {e : Env} {R : Room} {s : State} {m : MethodId} {args : Array Value} {below : List Frame} {meth : Method} {c : Code} {H : Heap} {locs : List Loc} {cells slots : Nat}
variable {y : MethodName} {bytes cc : ByteArray} {maxL nL mc ms n index : Nat} {ret : Option FieldType} {ws : List Cond} {rm : Room} {Pc : Array Value → State → Prop} {Qc : Array Value → State → Outcome → State → Prop} {XC : String → State → State → Prop} {free : Addr → Prop} {Ts : List Cond} {own C : String} {b : Addr} {As rest : List Value} {g : JFrame}
theorem vx_callBack (cb : CallB R s args own index y bytes maxL ret ws rm mc ms n) (hM : vx_Met l y ws rm Pc Qc XC mc ms free) (hbl : FrameBlind Pc) : vx_Back l R p e below s args y 3 8 (PreOf R mc ms Pc) (PostOf Qc mc ms free) (vx_Post XC mc ms free) := by
  obtain ⟨hrc, hrs, hfr, hlo, hws, hcw, -, hini, -⟩ := cb
  exact vx_back (bytes := bytes) (maxL := maxL) (ret := ret) hM hbl hrc hrs hfr hlo hws hcw (fun a' U hW => word_at hW (Or.inl (by first | rfl | simp [Cond.onTables, Cond.keeps, Cond.steady])) hini)
theorem vx_runV (S : CallFix p m c cc nL s args Ts own) (hM : vx_Met l y ws rm Pc Qc XC mc ms free) (cw : CallW R s args own C index y bytes maxL ret ws rm mc ms n) (hp : PreV s H C b Pc As)
    (hg : g.method = m) (hn : As.length = n) (hsize : g.locals.size = nL) (hstack : g.stack = As.reverse ++ .ref b :: rest) (hW : 2 * g.monitorRoom + (rest.map fun v => v.category).sum ≤ 8) (hdg : decode cc g.pc = .ok (.invokevirtual index, 3)) (hf : cells + mc ≤ R.cells ∧ slots + ms ≤ R.slots) :
    vx_Run p l e R s m args below meth c H locs cells slots mc ms g rest (Qc (Value.ref b :: As).toArray) XC free := by
  have hK : vx_Back l R p e below s args y 3 8 (PreOf R mc ms Pc) (PostOf Qc mc ms free) (vx_Post XC mc ms free) := vx_callBack cw.1 hM hp.1
  obtain ⟨⟨-, -, -, -, -, -, hcode, -, hy, hlen, hl⟩, hin, hse⟩ := cw
  obtain ⟨hx, hb, hml, ho, -⟩ := S
  obtain ⟨-, ⟨cellB, hcB, hoB, hclB⟩, hPc⟩ := hp
  intro T hT X
  rcases vx_callV X hx (C := C) (bytes := bytes) (maxL := maxL) (ret := ret) ho hl hin hse hcode hy hK (by rw [hT]; exact hcB) hoB hclB hg (hsize.trans hml.symm) (argsL := As) (rest := rest) (fun sig h => hn.trans (hlen sig h)) hstack hW (by rw [hb]; exact hdg)
    (fun vm₁ hW₁ => ⟨hf.1, hf.2, hPc (T.setVm vm₁) hT hW₁⟩) with ⟨v, vm₁, ⟨U', l2, c2, s2⟩, hW₁, X', ⟨g', mk, t, L, e1, e2, hq, h1, hL, h2, h3⟩, st⟩ | ⟨q, vm₁, ⟨U', l2, c2, s2⟩, hW₁, X', ⟨g', mk, t, L, E, ce, e1, e2, hq, hce, hcv, hcl, h1, hL, h2, h3⟩, st⟩
  · dsimp only [Pt.U, Pt.locs, Pt.cells, Pt.slots] at X' e1 e2 h1 h2 h3 st
    subst h1; subst h2; subst h3
    exact Or.inl ⟨v, (T.setVm vm₁).calling g' mk (Value.ref b :: As).toArray, t, U', L, hT, X', hL, e1, e2, hq, st⟩
  · dsimp only [Pt.U, Pt.locs, Pt.cells, Pt.slots] at X' e1 e2 h1 h2 h3 st hcl
    subst h1; subst h2; subst h3
    exact Or.inr ⟨q, (T.setVm vm₁).calling g' mk (Value.ref b :: As).toArray, t, U', L, E, ce, hT, X', hL, e1, e2, hq, hce, hcv, vx_cls hW₁ hcl, st⟩
theorem vx_runS (S : CallFix p m c cc nL s args Ts own) (hM : vx_Met l y ws rm Pc Qc XC mc ms free) (cw : CallB R s args own index y bytes maxL ret ws rm mc ms n ∧ (Cond.static y).before args s = true) (hp : PreS s H Pc As)
    (hg : g.method = m) (hn : As.length = n) (hsize : g.locals.size = nL) (hstack : g.stack = As.reverse ++ rest) (hW : 2 * g.monitorRoom + (rest.map fun v => v.category).sum ≤ 8) (hdg : decode cc g.pc = .ok (.invokestatic index, 3)) (hf : cells + mc ≤ R.cells ∧ slots + ms ≤ R.slots) :
    vx_Run p l e R s m args below meth c H locs cells slots mc ms g rest (Qc As.toArray) XC free := by
  have hK : vx_Back l R p e below s args y 3 8 (PreOf R mc ms Pc) (PostOf Qc mc ms free) (vx_Post XC mc ms free) := vx_callBack cw.1 hM hp.1
  obtain ⟨⟨-, -, -, -, -, -, hcode, hini, hy, hlen, hl⟩, hstt⟩ := cw
  obtain ⟨hx, hb, hml, ho, -⟩ := S
  intro T hT X
  rcases vx_callS X hx (bytes := bytes) (maxL := maxL) (ret := ret) ho hl hstt hini hcode hy hK hg (hsize.trans hml.symm) (argsL := As) (rest := rest) (fun sig h => hn.trans (hlen sig h)) hstack hW (by rw [hb]; exact hdg)
    (fun vm₁ hW₁ => ⟨hf.1, hf.2, hp.2 (T.setVm vm₁) hT hW₁⟩) with ⟨v, vm₁, ⟨U', l2, c2, s2⟩, hW₁, X', ⟨g', mk, t, L, e1, e2, hq, h1, hL, h2, h3⟩, st⟩ | ⟨q, vm₁, ⟨U', l2, c2, s2⟩, hW₁, X', ⟨g', mk, t, L, E, ce, e1, e2, hq, hce, hcv, hcl, h1, hL, h2, h3⟩, st⟩
  · dsimp only [Pt.U, Pt.locs, Pt.cells, Pt.slots] at X' e1 e2 h1 h2 h3 st
    subst h1; subst h2; subst h3
    exact Or.inl ⟨v, (T.setVm vm₁).calling g' mk As.toArray, t, U', L, hT, X', hL, e1, e2, hq, st⟩
  · dsimp only [Pt.U, Pt.locs, Pt.cells, Pt.slots] at X' e1 e2 h1 h2 h3 st hcl
    subst h1; subst h2; subst h3
    exact Or.inr ⟨q, (T.setVm vm₁).calling g' mk As.toArray, t, U', L, E, ce, hT, X', hL, e1, e2, hq, hce, hcv, vx_cls hW₁ hcl, st⟩
end Runs
section Rows
variable {p : Program} {l : Launch} {e : Env} {R : Room} {s : State} {m : MethodId} {args : Array Value} {below : List Frame} {meth : Method} {c : Code} {H : Heap} {locs : List Loc} {cells slots : Nat} {Q : State → Prop}
variable {mc ms : Nat} {free : Addr → Prop} {A0 A1 : Nat → Prop} {H0 : Heap} {a : Array Value} {pc : Nat} {ls : Array Slot} {st0 rest : List Value}
theorem vx_keep {st₀ t T' : State} {L : List Loc} (h0 : st₀.heap = H) (e1 : T'.heap = t.heap) (hS : va_S A0 H0 H locs) (hA : ∀ q, q < H.size → A1 q → A0 q) (hf : ∀ q, free q → A0 q) (hL : ∀ q ∈ L, free q.base) (hF : va_F A1 st₀ t) :
    H.size ≤ T'.heap.size ∧ (∀ q : Nat, q < H.size → ¬ A1 q → T'.heap[q]? = H[q]?) ∧ va_S A0 H0 T'.heap (locs ++ L) := by
  obtain ⟨hz, hk⟩ := hF
  rw [h0] at hz hk
  exact ⟨by rw [e1]; exact hz, fun q h1 h2 => by rw [e1]; exact hk q h1 h2,
    ⟨Nat.le_trans hS.1 (by rw [e1]; exact hz), fun q h1 h2 => by rw [e1, hk q (Nat.lt_of_lt_of_le h1 hS.1) (fun z => h2 (hA q (Nat.lt_of_lt_of_le h1 hS.1) z))]; exact hS.2.1 q h1 h2, fun q hq => by
      rcases List.mem_append.mp hq with h | h
      · exact hS.2.2 q h
      · exact hf _ (hL q h)⟩⟩
theorem vx_calli {S SX : Type} {post : Int32 → S → Prop} {px : SX → Prop} {B : S → State → Prop} {BX : String → SX → State → Prop} {AX : Nat → Prop} (hr : vx_Run p l e R s m args below meth c H locs cells slots mc ms (F0 m pc ls st0) rest (va_Qi post B A1 a) (vx_X px BX AX) free) (hS : va_S A0 H0 H locs) (hA : ∀ q, q < H.size → A1 q → A0 q) (hf : ∀ q, free q → A0 q) (hAX : ∀ q, q < H.size → AX q → A0 q)
    (kx : ∀ (E : String) (ce : Cell) (q9 : Addr) (u : SX) (t : State) (H1 : Heap) (locs1 : List Loc), t.heap = H1 → s.vm.Alike t.vm → px u → BX E u t → H.size ≤ H1.size → (∀ q : Nat, q < H.size → ¬ AX q → H1[q]? = H[q]?) → va_S A0 H0 H1 locs1 → H1[q9]? = some ce → ce.vm = .none → s.vm.findClass E = some ce.cls → vx_W p l e R s m args below meth c H1 locs1 (cells + mc) (slots + ms) Q (F0 m pc ls rest) q9)
    (kk : ∀ (r : Int32) (u : S) (t : State) (H1 : Heap) (locs1 : List Loc), t.heap = H1 → s.vm.Alike t.vm → post r u → B u t → H.size ≤ H1.size → (∀ q : Nat, q < H.size → ¬ A1 q → H1[q]? = H[q]?) → va_S A0 H0 H1 locs1 → W p l e R s m args below meth c H1 locs1 (cells + mc) (slots + ms) Q (F0 m (pc + 3) ls (.int r :: rest))) : W p l e R s m args below meth c H locs cells slots Q (F0 m pc ls st0) := by
  intro T hT X
  rcases hr T hT X with ⟨v, st₀, t, T', L, h0, X', hL, e1, e2, ⟨⟨r, u, hv, hp, hb⟩, hF⟩, st⟩ | ⟨q, st₀, t, T', L, E, ce, h0, X', hL, e1, e2, ⟨u, hp, hb, hF⟩, hce, hcv, hcl, st⟩
  · cases hv
    obtain ⟨k1, k2, k3⟩ := vx_keep h0 e1 hS hA hf hL hF
    obtain ⟨t2, a1, b1⟩ := kk r u t T'.heap (locs ++ L) e1.symm (by rw [← e2]; exact X'.warmed.alike) hp hb k1 k2 k3 T' rfl X'
    exact ⟨t2, st t2 a1, b1⟩
  · obtain ⟨k1, k2, k3⟩ := vx_keep h0 e1 hS hAX hf hL hF
    obtain ⟨t2, a1, b1⟩ := kx E ce q u t T'.heap (locs ++ L) e1.symm (by rw [← e2]; exact X'.warmed.alike) hp hb k1 k2 k3 (by rw [e1]; exact hce) hcv hcl T' rfl X'
    exact ⟨t2, st.trans a1, b1⟩
theorem vx_calll {S SX : Type} {post : Int64 → S → Prop} {px : SX → Prop} {B : S → State → Prop} {BX : String → SX → State → Prop} {AX : Nat → Prop} (hr : vx_Run p l e R s m args below meth c H locs cells slots mc ms (F0 m pc ls st0) rest (va_Ql post B A1 a) (vx_X px BX AX) free) (hS : va_S A0 H0 H locs) (hA : ∀ q, q < H.size → A1 q → A0 q) (hf : ∀ q, free q → A0 q) (hAX : ∀ q, q < H.size → AX q → A0 q)
    (kx : ∀ (E : String) (ce : Cell) (q9 : Addr) (u : SX) (t : State) (H1 : Heap) (locs1 : List Loc), t.heap = H1 → s.vm.Alike t.vm → px u → BX E u t → H.size ≤ H1.size → (∀ q : Nat, q < H.size → ¬ AX q → H1[q]? = H[q]?) → va_S A0 H0 H1 locs1 → H1[q9]? = some ce → ce.vm = .none → s.vm.findClass E = some ce.cls → vx_W p l e R s m args below meth c H1 locs1 (cells + mc) (slots + ms) Q (F0 m pc ls rest) q9)
    (kk : ∀ (r : Int64) (u : S) (t : State) (H1 : Heap) (locs1 : List Loc), t.heap = H1 → s.vm.Alike t.vm → post r u → B u t → H.size ≤ H1.size → (∀ q : Nat, q < H.size → ¬ A1 q → H1[q]? = H[q]?) → va_S A0 H0 H1 locs1 → W p l e R s m args below meth c H1 locs1 (cells + mc) (slots + ms) Q (F0 m (pc + 3) ls (.long r :: rest))) : W p l e R s m args below meth c H locs cells slots Q (F0 m pc ls st0) := by
  intro T hT X
  rcases hr T hT X with ⟨v, st₀, t, T', L, h0, X', hL, e1, e2, ⟨⟨r, u, hv, hp, hb⟩, hF⟩, st⟩ | ⟨q, st₀, t, T', L, E, ce, h0, X', hL, e1, e2, ⟨u, hp, hb, hF⟩, hce, hcv, hcl, st⟩
  · cases hv
    obtain ⟨k1, k2, k3⟩ := vx_keep h0 e1 hS hA hf hL hF
    obtain ⟨t2, a1, b1⟩ := kk r u t T'.heap (locs ++ L) e1.symm (by rw [← e2]; exact X'.warmed.alike) hp hb k1 k2 k3 T' rfl X'
    exact ⟨t2, st t2 a1, b1⟩
  · obtain ⟨k1, k2, k3⟩ := vx_keep h0 e1 hS hAX hf hL hF
    obtain ⟨t2, a1, b1⟩ := kx E ce q u t T'.heap (locs ++ L) e1.symm (by rw [← e2]; exact X'.warmed.alike) hp hb k1 k2 k3 (by rw [e1]; exact hce) hcv hcl T' rfl X'
    exact ⟨t2, st.trans a1, b1⟩
theorem vx_callf {S SX : Type} {post : UInt32 → S → Prop} {px : SX → Prop} {B : S → State → Prop} {BX : String → SX → State → Prop} {AX : Nat → Prop} (hr : vx_Run p l e R s m args below meth c H locs cells slots mc ms (F0 m pc ls st0) rest (va_Qf post B A1 a) (vx_X px BX AX) free) (hS : va_S A0 H0 H locs) (hA : ∀ q, q < H.size → A1 q → A0 q) (hf : ∀ q, free q → A0 q) (hAX : ∀ q, q < H.size → AX q → A0 q)
    (kx : ∀ (E : String) (ce : Cell) (q9 : Addr) (u : SX) (t : State) (H1 : Heap) (locs1 : List Loc), t.heap = H1 → s.vm.Alike t.vm → px u → BX E u t → H.size ≤ H1.size → (∀ q : Nat, q < H.size → ¬ AX q → H1[q]? = H[q]?) → va_S A0 H0 H1 locs1 → H1[q9]? = some ce → ce.vm = .none → s.vm.findClass E = some ce.cls → vx_W p l e R s m args below meth c H1 locs1 (cells + mc) (slots + ms) Q (F0 m pc ls rest) q9)
    (kk : ∀ (r : UInt32) (u : S) (t : State) (H1 : Heap) (locs1 : List Loc), t.heap = H1 → s.vm.Alike t.vm → post r u → B u t → H.size ≤ H1.size → (∀ q : Nat, q < H.size → ¬ A1 q → H1[q]? = H[q]?) → va_S A0 H0 H1 locs1 → W p l e R s m args below meth c H1 locs1 (cells + mc) (slots + ms) Q (F0 m (pc + 3) ls (.float r :: rest))) : W p l e R s m args below meth c H locs cells slots Q (F0 m pc ls st0) := by
  intro T hT X
  rcases hr T hT X with ⟨v, st₀, t, T', L, h0, X', hL, e1, e2, ⟨⟨r, u, hv, hp, hb⟩, hF⟩, st⟩ | ⟨q, st₀, t, T', L, E, ce, h0, X', hL, e1, e2, ⟨u, hp, hb, hF⟩, hce, hcv, hcl, st⟩
  · cases hv
    obtain ⟨k1, k2, k3⟩ := vx_keep h0 e1 hS hA hf hL hF
    obtain ⟨t2, a1, b1⟩ := kk r u t T'.heap (locs ++ L) e1.symm (by rw [← e2]; exact X'.warmed.alike) hp hb k1 k2 k3 T' rfl X'
    exact ⟨t2, st t2 a1, b1⟩
  · obtain ⟨k1, k2, k3⟩ := vx_keep h0 e1 hS hAX hf hL hF
    obtain ⟨t2, a1, b1⟩ := kx E ce q u t T'.heap (locs ++ L) e1.symm (by rw [← e2]; exact X'.warmed.alike) hp hb k1 k2 k3 (by rw [e1]; exact hce) hcv hcl T' rfl X'
    exact ⟨t2, st.trans a1, b1⟩
theorem vx_calld {S SX : Type} {post : UInt64 → S → Prop} {px : SX → Prop} {B : S → State → Prop} {BX : String → SX → State → Prop} {AX : Nat → Prop} (hr : vx_Run p l e R s m args below meth c H locs cells slots mc ms (F0 m pc ls st0) rest (va_Qd post B A1 a) (vx_X px BX AX) free) (hS : va_S A0 H0 H locs) (hA : ∀ q, q < H.size → A1 q → A0 q) (hf : ∀ q, free q → A0 q) (hAX : ∀ q, q < H.size → AX q → A0 q)
    (kx : ∀ (E : String) (ce : Cell) (q9 : Addr) (u : SX) (t : State) (H1 : Heap) (locs1 : List Loc), t.heap = H1 → s.vm.Alike t.vm → px u → BX E u t → H.size ≤ H1.size → (∀ q : Nat, q < H.size → ¬ AX q → H1[q]? = H[q]?) → va_S A0 H0 H1 locs1 → H1[q9]? = some ce → ce.vm = .none → s.vm.findClass E = some ce.cls → vx_W p l e R s m args below meth c H1 locs1 (cells + mc) (slots + ms) Q (F0 m pc ls rest) q9)
    (kk : ∀ (r : UInt64) (u : S) (t : State) (H1 : Heap) (locs1 : List Loc), t.heap = H1 → s.vm.Alike t.vm → post r u → B u t → H.size ≤ H1.size → (∀ q : Nat, q < H.size → ¬ A1 q → H1[q]? = H[q]?) → va_S A0 H0 H1 locs1 → W p l e R s m args below meth c H1 locs1 (cells + mc) (slots + ms) Q (F0 m (pc + 3) ls (.double r :: rest))) : W p l e R s m args below meth c H locs cells slots Q (F0 m pc ls st0) := by
  intro T hT X
  rcases hr T hT X with ⟨v, st₀, t, T', L, h0, X', hL, e1, e2, ⟨⟨r, u, hv, hp, hb⟩, hF⟩, st⟩ | ⟨q, st₀, t, T', L, E, ce, h0, X', hL, e1, e2, ⟨u, hp, hb, hF⟩, hce, hcv, hcl, st⟩
  · cases hv
    obtain ⟨k1, k2, k3⟩ := vx_keep h0 e1 hS hA hf hL hF
    obtain ⟨t2, a1, b1⟩ := kk r u t T'.heap (locs ++ L) e1.symm (by rw [← e2]; exact X'.warmed.alike) hp hb k1 k2 k3 T' rfl X'
    exact ⟨t2, st t2 a1, b1⟩
  · obtain ⟨k1, k2, k3⟩ := vx_keep h0 e1 hS hAX hf hL hF
    obtain ⟨t2, a1, b1⟩ := kx E ce q u t T'.heap (locs ++ L) e1.symm (by rw [← e2]; exact X'.warmed.alike) hp hb k1 k2 k3 (by rw [e1]; exact hce) hcv hcl T' rfl X'
    exact ⟨t2, st.trans a1, b1⟩
theorem vx_callv {S SX : Type} {post : S → Prop} {px : SX → Prop} {B : S → State → Prop} {BX : String → SX → State → Prop} {AX : Nat → Prop} (hr : vx_Run p l e R s m args below meth c H locs cells slots mc ms (F0 m pc ls st0) rest (va_Qv post B A1 a) (vx_X px BX AX) free) (hS : va_S A0 H0 H locs) (hA : ∀ q, q < H.size → A1 q → A0 q) (hf : ∀ q, free q → A0 q) (hAX : ∀ q, q < H.size → AX q → A0 q)
    (kx : ∀ (E : String) (ce : Cell) (q9 : Addr) (u : SX) (t : State) (H1 : Heap) (locs1 : List Loc), t.heap = H1 → s.vm.Alike t.vm → px u → BX E u t → H.size ≤ H1.size → (∀ q : Nat, q < H.size → ¬ AX q → H1[q]? = H[q]?) → va_S A0 H0 H1 locs1 → H1[q9]? = some ce → ce.vm = .none → s.vm.findClass E = some ce.cls → vx_W p l e R s m args below meth c H1 locs1 (cells + mc) (slots + ms) Q (F0 m pc ls rest) q9)
    (kk : ∀ (u : S) (t : State) (H1 : Heap) (locs1 : List Loc), t.heap = H1 → s.vm.Alike t.vm → post u → B u t → H.size ≤ H1.size → (∀ q : Nat, q < H.size → ¬ A1 q → H1[q]? = H[q]?) → va_S A0 H0 H1 locs1 → W p l e R s m args below meth c H1 locs1 (cells + mc) (slots + ms) Q (F0 m (pc + 3) ls (rest))) : W p l e R s m args below meth c H locs cells slots Q (F0 m pc ls st0) := by
  intro T hT X
  rcases hr T hT X with ⟨v, st₀, t, T', L, h0, X', hL, e1, e2, ⟨⟨u, hv, hp, hb⟩, hF⟩, st⟩ | ⟨q, st₀, t, T', L, E, ce, h0, X', hL, e1, e2, ⟨u, hp, hb, hF⟩, hce, hcv, hcl, st⟩
  · cases hv
    obtain ⟨k1, k2, k3⟩ := vx_keep h0 e1 hS hA hf hL hF
    obtain ⟨t2, a1, b1⟩ := kk u t T'.heap (locs ++ L) e1.symm (by rw [← e2]; exact X'.warmed.alike) hp hb k1 k2 k3 T' rfl X'
    exact ⟨t2, st t2 a1, b1⟩
  · obtain ⟨k1, k2, k3⟩ := vx_keep h0 e1 hS hAX hf hL hF
    obtain ⟨t2, a1, b1⟩ := kx E ce q u t T'.heap (locs ++ L) e1.symm (by rw [← e2]; exact X'.warmed.alike) hp hb k1 k2 k3 (by rw [e1]; exact hce) hcv hcl T' rfl X'
    exact ⟨t2, st.trans a1, b1⟩
/-- caught by the row x of this method's table; the rows ahead don't take it -/
theorem vx_catch {own name : String} {E : String} {ce : Cell} {q : Addr} (hown : s.vm.findClass own = some m.cls) (pre : List ExceptionTableEntry) (x : ExceptionTableEntry) (suf : List ExceptionTableEntry) (hsplit : c.exceptionTable.toList = pre ++ x :: suf)
    (hpass : ∀ z ∈ pre, covers z pc = false ∨ (z.catchType ≠ 0 ∧ ∃ nm : String, (Cond.classLink own z.catchType nm).before args s = true ∧ va_Nc E nm s)) (hx : covers x pc = true) (h0 : x.catchType ≠ 0)
    (hlink : (Cond.classLink own x.catchType name).before args s = true) (hcast : (Cond.castable E name).before args s = true) (hcell : H[q]? = some ce) (hv : ce.vm = .none) (hcl : s.vm.findClass E = some ce.cls)
    (kk : W p l e R s m args below meth c H locs cells slots Q (F0 m x.handlerPc ls [.ref q])) : vx_W p l e R s m args below meth c H locs cells slots Q (F0 m pc ls rest) q := by
  intro T hT X
  have hpl : e.platform.magicAccessors = ({} : Platform).magicAccessors := by rw [X.admits.platform]
  obtain ⟨c3, c4, hc3, hc4, hasg⟩ := Cond.castable_spec hcast
  cases Option.some.inj (hc3.symm.trans hcl)
  obtain ⟨c5, hc5, hcl5⟩ := Cond.classLink_spec hown hlink e.platform hpl
  cases Option.some.inj (hc4.symm.trans hc5)
  obtain ⟨vm', X', st⟩ := X.thenCaughtThrough q (g := F0 m pc ls rest) rfl (Steps.refl _) (by rw [hT]; exact hcell) (by rw [hv]; rfl) (by obtain ⟨k9, h9, -⟩ := Vm.findClass_spec hcl; exact ⟨k9, h9⟩) pre x suf hsplit
    (fun z hz => by
      rcases hpass z hz with h | ⟨hz0, nm, hl1, hn1⟩
      · exact Or.inl h
      · obtain ⟨c6, hc6, hcl6⟩ := Cond.classLink_spec hown hl1 e.platform hpl
        obtain ⟨a8, b8, h1, h2, h3⟩ := hn1
        cases Option.some.inj (h1.symm.trans hcl)
        cases Option.some.inj (h2.symm.trans hc6)
        exact Or.inr ⟨hz0, _, hcl6, h3⟩) hx (Or.inr ⟨h0, c4, hcl5, hasg⟩)
  obtain ⟨t, a1, b1⟩ := kk (T.setVm vm') hT X'
  exact ⟨t, st.trans a1, b1⟩
end Rows
section Ends
variable {p : Program} {l : Launch} {e : Env} {R : Room} {s : State} {m : MethodId} {args : Array Value} {below : List Frame} {meth : Method} {c : Code} {H : Heap} {locs : List Loc} {cells slots : Nat} {Q : State → Prop}
variable {mc ms : Nat} {free : Addr → Prop} {A0 A1 : Nat → Prop} {H0 : Heap} {a : Array Value} {ls : Array Slot} {st0 rest : List Value}
variable {Qc : Array Value → State → Outcome → State → Prop} {XC : String → State → State → Prop}
/-- what a body that may throw owes at its end -/
def vx_MQ (below : List Frame) (Qc : Array Value → State → Outcome → State → Prop) (XC : String → State → State → Prop) (a : Array Value) (s : State) (mc ms : Nat) (free : Addr → Prop) : State → Prop := fun t =>
  ∃ o, t.status = .running ∧ Ended t below o ∧ vx_Q Qc XC mc ms free a s o t
theorem vx_ret {g : JFrame} {mc ms : Nat} (k : W p l e R s m args below meth c H locs cells slots (MQ below Qc args s mc ms free) g) : W p l e R s m args below meth c H locs cells slots (vx_MQ below Qc XC args s mc ms free) g := by
  intro T hT X
  obtain ⟨t, a1, o, b1, b2, b3, b4⟩ := k T hT X
  exact ⟨t, a1, o, b1, b2, Or.inl ⟨b3, b4⟩⟩
/-- not caught here: it goes on to the caller -/
theorem vx_widen {g : JFrame} {q : Addr} {k n : Nat} (h1 : cells ≤ k) (h2 : slots ≤ n) (kk : vx_W p l e R s m args below meth c H locs k n Q g q) : vx_W p l e R s m args below meth c H locs cells slots Q g q := fun T hT X => kk T hT (stand_widen X h1 h2)
theorem vx_out {pc : Nat} {E : String} {ce : Cell} {q : Addr} {mc ms : Nat} (hout : ∀ x ∈ c.exceptionTable.toList, covers x pc = false) (hlocks : meth.locks = false) (hcell : H[q]? = some ce) (hv : ce.vm = .none) (hcl : s.vm.findClass E = some ce.cls)
    (hx : ∀ t : State, t.heap = H → s.vm.Alike t.vm → XC E s t) (hf : ∀ z ∈ locs, free z.base) (hc : cells ≤ mc) (hs : slots ≤ ms) :
    vx_W p l e R s m args below meth c H locs cells slots (vx_MQ below Qc XC args s mc ms free) (F0 m pc ls rest) q := by
  intro T hT X
  obtain ⟨st1, hrun, hend, hW, hsm⟩ := X.leaveThrown q (g := F0 m pc ls rest) rfl rfl rfl hout hlocks
  have hcell9 : (T.setFrames (.throwing q :: below)).heap[q]? = some ce := by
    show T.heap[q]? = some ce
    rw [hT]; exact hcell
  exact ⟨_, st1, .threw q, hrun, hend, Or.inr ⟨q, rfl, E, ce, locs, hx _ hT hW.alike, hcell9, hv, hcl, hW, hsm.mono hc hs, hf⟩⟩
theorem vx_frame {U : State} {k n : Nat} (h : s.sameButNew ({ U with vm := s.vm } : State) locs k n) : s.heap.size ≤ U.heap.size ∧ ∀ q : Nat, q < s.heap.size → (∀ z ∈ locs, z.base ≠ q) → U.heap[q]? = s.heap[q]? := by
  obtain ⟨-, h2, -, -, -, h6⟩ := h
  refine ⟨h2, fun q hq hz => ?_⟩
  obtain ⟨c9, e1, e2, e3, e4⟩ := h6 q _ (Array.getElem?_eq_getElem hq)
  have hs : c9.slots = (s.heap[q]).slots := Array.ext_getElem? fun i => e4 i fun hm => hz _ hm rfl
  have h9 : c9 = s.heap[q] := by
    rw [hs] at e2
    exact e2
  have e5 : U.heap[q]? = some c9 := e1
  rw [e5, h9, Array.getElem?_eq_getElem hq]
/-- the words of a throw but the four that speak of the heap -/
def vx_no (w : Cond) : Bool := decide (w ≠ .isRef (.static Bundle.tN "UNASSIGNED_STACK" Bundle.steD)) && decide (w ≠ .isRef (.static Bundle.tN "SUPPRESSED_SENTINEL" Bundle.listD)) && decide (w ≠ .laysStatic Bundle.tN "UNASSIGNED_STACK" Bundle.steD) && decide (w ≠ .laysStatic Bundle.tN "SUPPRESSED_SENTINEL" Bundle.listD)
def vx_at0 (own : String) (ic : Nat) (X : String) (names : List String) : List Cond := (Bundle.ownAtoms0 own ic X names).filter vx_no
def vx_atS (own : String) (ic : Nat) (X : String) (names : List String) : List Cond := (Bundle.ownAtoms own ic X names).filter vx_no
/-- a word that the tables alone decide, or a good one -/
def vx_ot (w : Cond) : Bool := w.onTables || goodWord w
theorem vx_ot_at {args a' : Array Value} {s U : State} {w : Cond} (hW : s.WarmedH U.vm) (hvm : s.vm = U.vm) (hg : vx_ot w = true) (h : w.before args s = true) : w.before a' U = true := by
  simp only [vx_ot, Bool.or_eq_true] at hg
  rcases hg with hg | hg
  · exact va_tabs hg hvm h
  · exact word_at hW (good_of_word hg) h
/-- a list's words: the good ones out of the method's own list, the others by premises of their own -/
theorem vx_hat {args : Array Value} {s : State} {L B : List Cond} (h1 : ∀ w ∈ L.filter goodWord, w.before args s = true) (h2 : ∀ w ∈ L.filter (fun w => !goodWord w), w ∈ B) (h3 : ∀ w ∈ B, w.before args s = true) : ∀ w ∈ L, w.before args s = true := by
  intro w hw
  by_cases g : goodWord w = true
  · exact h1 w (List.mem_filter.mpr ⟨hw, g⟩)
  · refine h3 w (h2 w (List.mem_filter.mpr ⟨hw, ?_⟩))
    show (!goodWord w) = true
    cases hgw : goodWord w
    · rfl
    · exact absurd hgw g
theorem vx_c {args : Array Value} {s : State} {w : Cond} {B : List Cond} (h : w.before args s = true) (t : ∀ w ∈ B, w.before args s = true) : ∀ w' ∈ w :: B, w'.before args s = true := fun w' h' => (List.mem_cons.mp h').elim (fun e => by rw [e]; exact h) (t w')
theorem vx_n {args : Array Value} {s : State} : ∀ w ∈ ([] : List Cond), w.before args s = true := fun _ h => nomatch h
theorem vx_own {args : Array Value} {s : State} {L : List Cond} (h1 : ∀ w ∈ L.filter vx_no, w.before args s = true)
    (hU : (Cond.isRef (.static Bundle.tN "UNASSIGNED_STACK" Bundle.steD)).before args s = true) (hN : (Cond.isRef (.static Bundle.tN "SUPPRESSED_SENTINEL" Bundle.listD)).before args s = true)
    (lU : (Cond.laysStatic Bundle.tN "UNASSIGNED_STACK" Bundle.steD).before args s = true) (lN : (Cond.laysStatic Bundle.tN "SUPPRESSED_SENTINEL" Bundle.listD).before args s = true) : ∀ w ∈ L, w.before args s = true := by
  intro w hw
  by_cases e1 : w = .isRef (.static Bundle.tN "UNASSIGNED_STACK" Bundle.steD)
  · rw [e1]; exact hU
  · by_cases e2 : w = .isRef (.static Bundle.tN "SUPPRESSED_SENTINEL" Bundle.listD)
    · rw [e2]; exact hN
    · by_cases e3 : w = .laysStatic Bundle.tN "UNASSIGNED_STACK" Bundle.steD
      · rw [e3]; exact lU
      · by_cases e4 : w = .laysStatic Bundle.tN "SUPPRESSED_SENTINEL" Bundle.listD
        · rw [e4]; exact lN
        · exact h1 w (List.mem_filter.mpr ⟨hw, by unfold vx_no; rw [decide_eq_true e1, decide_eq_true e2, decide_eq_true e3, decide_eq_true e4]; rfl⟩)
/-- where a static field lies, its class's statics cell in H -/
def vx_L (C n d : String) (A : Nat → Prop) (U : State) (H : Heap) : Prop := ∃ (c : ClassId) (k : Class) (i : Nat) (f : Field) (a : Nat) (cell : Cell), U.vm.findClass C = some c ∧ U.fieldFound? C n d = some (c, k, i, f) ∧ f.isStatic = true ∧ k.statics = some a ∧ H[a]? = some cell ∧ cell.vm.isStatics = true ∧ cell.cls = c ∧ f.slot < cell.slots.size ∧ k.staticTypes[f.slot]? = some f.type ∧ ¬ A a
theorem vx_L.moved {C n d : String} {A : Nat → Prop} {u U : State} {H : Heap} (hvm : u.vm.Alike U.vm) (h : vx_L C n d A u H) : vx_L C n d A U H := by
  obtain ⟨c, k, i, f, a, cell, h1, h2, h3, h4, h5, h6, h7, h8, h9, h10⟩ := h
  obtain ⟨k', hi', he⟩ := State.fieldFound?_setVm hvm h2
  exact ⟨c, k', i, f, a, cell, by rw [hvm.findClass]; exact h1, hi', h3, by rw [he]; exact h4, h5, h6, h7, h8, by rw [he]; exact h9, h10⟩
theorem vx_L.kept {C n d : String} {A : Nat → Prop} {U : State} {H H1 : Heap} (h : vx_L C n d A U H) (hq : ∀ a : Nat, a < H.size → ¬ A a → H1[a]? = H[a]?) : vx_L C n d A U H1 := by
  obtain ⟨c, k, i, f, a, cell, h1, h2, h3, h4, h5, h6, h7, h8, h9, h10⟩ := h
  exact ⟨c, k, i, f, a, cell, h1, h2, h3, h4, by rw [hq a (Array.getElem?_eq_some_iff.mp h5).1 h10]; exact h5, h6, h7, h8, h9, h10⟩
theorem vx_L.narrow {C n d : String} {A B : Nat → Prop} {U : State} {H : Heap} (h : vx_L C n d A U H) (hAB : ∀ q, B q → A q) : vx_L C n d B U H := by
  obtain ⟨c, k, i, f, a, cell, h1, h2, h3, h4, h5, h6, h7, h8, h9, h10⟩ := h
  exact ⟨c, k, i, f, a, cell, h1, h2, h3, h4, h5, h6, h7, h8, h9, fun z => h10 (hAB _ z)⟩
theorem vx_L.word {C n d : String} {A : Nat → Prop} {s : State} {args : Array Value} (h : vx_L C n d A s s.heap) : (Cond.laysStatic C n d).before args s = true := by
  obtain ⟨c, k, i, f, a, cell, h1, h2, h3, h4, h5, h6, h7, h8, h9, -⟩ := h
  show (Cond.laysStatic C n d).holds args s none s [] = true
  exact Cond.laysStatic_of h1 h2 h3 h4 h5 h6 h7 h8 h9
/-- .. and what it holds: null or some reference -/
def vx_Zq (C n d : String) (A : Nat → Prop) (U : State) (H : Heap) : Prop := va_Zq C n d A U H ∧ vx_L C n d A U H
theorem vx_Zq.moved {C n d : String} {A : Nat → Prop} {u U : State} {H : Heap} (hvm : u.vm.Alike U.vm) (h : vx_Zq C n d A u H) : vx_Zq C n d A U H := ⟨va_Zq.moved hvm h.1, vx_L.moved hvm h.2⟩
theorem vx_Zq.kept {C n d : String} {A : Nat → Prop} {U : State} {H H1 : Heap} (h : vx_Zq C n d A U H) (hq : ∀ a : Nat, a < H.size → ¬ A a → H1[a]? = H[a]?) : vx_Zq C n d A U H1 := ⟨va_Zq.kept h.1 hq, vx_L.kept h.2 hq⟩
theorem vx_Zq.narrow {C n d : String} {A B : Nat → Prop} {U : State} {H : Heap} (h : vx_Zq C n d A U H) (hAB : ∀ q, B q → A q) : vx_Zq C n d B U H := ⟨va_Zq.narrow h.1 hAB, vx_L.narrow h.2 hAB⟩
theorem vx_Zqof {args : Array Value} {s : State} {C n d : String} {A : Nat → Prop} (hl : (Cond.laysStatic C n d).before args s = true) (hini : (Cond.initialized C).before args s = true) (h : (Cond.isRef (.static C n d)).before args s = true) (hA : ∀ a : Nat, a < s.heap.size → ¬ A a) : vx_Zq C n d A s s.heap := by
  refine ⟨va_Zqof hl hini h hA, ?_⟩
  obtain ⟨c, k, i, f, a, cell, h1, h2, h3, h4, h5, h6, h7, h8, h9⟩ := Cond.laysStatic_spec hl
  exact ⟨c, k, i, f, a, cell, h1, h2, h3, h4, h5, h6, h7, h8, h9, hA a (Array.getElem?_eq_some_iff.mp h5).1⟩
theorem vx_isRef {C n d : String} {v : Value} {A : Nat → Prop} {s : State} {args : Array Value} (h : va_Z C n d v A s s.heap) (hv : v.isRef = true) : (Cond.isRef (.static C n d)).before args s = true := by
  obtain ⟨cf, kf, fi, f, a, cell, h1, h2, h3, h4, h5, h6, h7, -⟩ := h
  have he : (Term.static C n d).eval args s none [] s = some v := by
    simp [Term.eval, State.fieldNamed?, h1, h2, h4, h5, h6, h7]
  simp only [Cond.before, Cond.holds, Cond.value, he]
  cases v <;> simp_all [Value.isRef]
theorem vx_isRefq {C n d : String} {A : Nat → Prop} {s : State} {args : Array Value} (h : va_Zq C n d A s s.heap) : (Cond.isRef (.static C n d)).before args s = true := by
  rcases h with h | ⟨t, h⟩
  · exact vx_isRef h rfl
  · exact vx_isRef h rfl
/-- the same frame, seen from here: as if the method were called anew in this heap -/
theorem vx_rebase {T : State} (X : Stand p l e R s m args below meth c T locs cells slots) {R' : Room} (hf : R'.frames ≤ R.frames) (hl : R'.locals ≤ R.locals) (hc : cells + R'.cells ≤ R.cells) (hs : slots + R'.slots ≤ R.slots) :
    Stand p l e R' ((T.setVm s.vm).setFrames (.invoking m args :: below)) m args below meth c T [] 0 0 := by
  have htop : (T.setVm s.vm).topJava?.isSome := X.here.top
  have hF : ((T.setVm s.vm).setFrames (.invoking m args :: below)).frames = .invoking m args :: below := State.frames_setFrames _ (State.cur_lt_of_top htop)
  obtain ⟨g₀, hg0⟩ := Option.isSome_iff_exists.mp htop
  obtain ⟨r, hr⟩ := State.topJava?_eq_some.mp hg0
  have hl9 : e.platform.stackLimits (T.setVm s.vm).me = e.platform.stackLimits s.me := X.limits
  have hb9 : (T.setVm s.vm).me.stackBytes = s.me.stackBytes := X.bytes
  refine ⟨X.admits, X.cas, X.clock, hF, ?_, X.hears, X.method, X.code, X.here, X.tail, X.warmed, ?_, ?_, ?_⟩
  · have h := X.room
    have hU : ((T.setVm s.vm).setFrames (.invoking m args :: below)).localsInUse = s.localsInUse := by
      rw [State.localsInUse_invoking hF (meth := meth) (c := c) X.method X.code, State.localsInUse_invoking X.frames X.method X.code]
    simp only [State.hasRoom, Bool.and_eq_true, decide_eq_true_eq] at h ⊢
    obtain ⟨⟨⟨⟨h1, h2, h3, h4, h5, h6⟩, h7⟩, h8⟩, h9⟩ := h
    rw [X.frames, List.length_cons] at h2 h3
    have q1 := X.heapSize
    have q2 := X.used
    simp only [hF, hU, List.length_cons, State.stackLimits_setFrames, State.stackBytes_setFrames, hl9, hb9]
    refine ⟨⟨⟨⟨by omega, by omega, by omega, by omega, by omega, h6⟩, ?_⟩, ?_⟩, X.book⟩
    · show T.heap.size + R'.cells ≤ e.platform.maxCells
      omega
    · show T.slotsUsed + R'.slots ≤ e.platform.maxSlots
      omega
  · rw [State.stackLimits_setFrames]; rfl
  · rw [State.stackBytes_setFrames]; rfl
  · refine ⟨?_, Nat.le_refl _, Nat.le_refl _, ?_, ?_, fun a c9 h9 => ⟨c9, h9, rfl, rfl, fun _ _ => rfl⟩⟩
    · obtain ⟨t, ht, -⟩ := State.frames_cons hr
      show T.setVm s.vm = { ((T.setVm s.vm).setFrames (.invoking m args :: below)).setFrames (T.setVm s.vm).frames with heap := T.heap, slotsUsed := T.slotsUsed }
      rw [State.setFrames_setFrames, State.setFrames_self ht]
      rfl
    · show T.slotsUsed = T.slotsUsed + ((T.heap.toList.drop T.heap.size).map (·.slots.size)).sum
      rw [List.drop_eq_nil_of_le (Nat.le_of_eq Array.length_toList)]
      rfl
    · show ((T.heap.toList.drop T.heap.size).map (·.slots.size)).sum ≤ 0
      rw [List.drop_eq_nil_of_le (Nat.le_of_eq Array.length_toList)]
      exact Nat.le_refl _
/-- 'throw new E()': new; dup; invokespecial; athrow -/
theorem vx_throw0 {cc : ByteArray} {pc : Nat} (hexec : p.tables.exec = Jvm.exec) (hb : c.code = cc) (hl : l.stackTraces = false) {own cls : String} {names : List String} {ik ic mc ms : Nat} {A : Nat → Prop}
    (hown : s.vm.findClass own = some m.cls) (hcls : Bundle.fit cls = true) (hnames : ∀ n ∈ names, Bundle.fit n = true)
    (hk : (Cond.classLink own ik cls).before args s = true) (hini : (Cond.initialized cls).before args s = true) (hat : ∀ w ∈ vx_at0 own ic cls names, w.before args s = true)
    (hgood : ∀ w ∈ Cond.classLink own ik cls :: Cond.initialized cls :: vx_at0 own ic cls names, vx_ot w = true)
    (hU : vx_Zq Bundle.tN "UNASSIGNED_STACK" Bundle.steD A s s.heap) (hN : vx_Zq Bundle.tN "SUPPRESSED_SENTINEL" Bundle.listD A s s.heap) (hS : va_S A s.heap H locs) (hsize : ls.size = c.maxLocals)
    (d0 : decode cc pc = .ok (.new ik, 3)) (d3 : decode cc (pc + 3) = .ok (.dup, 1)) (d4 : decode cc (pc + 4) = .ok (.invokespecial ic, 3)) (d7 : decode cc (pc + 7) = .ok (.athrow, 1))
    (hout : ∀ x ∈ c.exceptionTable.toList, covers x (pc + 7) = false)
    (hRframes : names.length + 3 < R.frames) (hRlocals : (rest.map fun v => v.category).sum + (13 * (names.length + 1) + 42) ≤ R.locals) (hRcells : cells + 1 ≤ R.cells) (hRslots : slots + 6 ≤ R.slots) (hlocks : meth.locks = false)
    (hx : ∀ t : State, s.vm.Alike t.vm → H.size ≤ t.heap.size → (∀ q : Nat, q < H.size → t.heap[q]? = H[q]?) → XC cls s t)
    (hf : ∀ z ∈ locs, free z.base) (hc : cells + 1 ≤ mc) (hs : slots + 6 ≤ ms) :
    W p l e R s m args below meth c H locs cells slots (vx_MQ below Qc XC args s mc ms free) (F0 m pc ls rest) := by
  intro T hT X
  have htr : e.platform.stackTraces = false := (show e.platform.stackTraces = l.stackTraces by rw [X.admits.platform]).trans hl
  have Y := vx_rebase X (R' := { frames := R.frames, locals := R.locals, cells := 1, slots := 6 }) (Nat.le_refl _) (Nat.le_refl _) hRcells hRslots
  obtain ⟨s', hA⟩ : ∃ z, z = (T.setVm s.vm).setFrames (.invoking m args :: below) := ⟨_, rfl⟩
  rw [← hA] at Y
  have hvm : s'.vm = s.vm := by rw [hA]; rfl
  have hhp : s'.heap = H := by rw [hA]; exact hT
  have hW0 : s.WarmedH s'.vm := by rw [hvm]; exact State.WarmedH.refl s
  have hat' : ∀ w ∈ vx_at0 own ic cls names, w.before args s' = true := fun w hw => vx_ot_at hW0 hvm.symm (hgood w (List.mem_cons_of_mem _ (List.mem_cons_of_mem _ hw))) (hat w hw)
  have hk' : (Cond.classLink own ik cls).before args s' = true := vx_ot_at hW0 hvm.symm (hgood _ List.mem_cons_self) hk
  have hini' : (Cond.initialized cls).before args s' = true := vx_ot_at hW0 hvm.symm (hgood _ (List.mem_cons_of_mem _ List.mem_cons_self)) hini
  have hU' : vx_Zq Bundle.tN "UNASSIGNED_STACK" Bundle.steD A s' s'.heap := by rw [hhp]; exact vx_Zq.moved hW0.alike (hU.kept hS.2.1)
  have hN' : vx_Zq Bundle.tN "SUPPRESSED_SENTINEL" Bundle.listD A s' s'.heap := by rw [hhp]; exact vx_Zq.moved hW0.alike (hN.kept hS.2.1)
  have h : ∀ w ∈ Bundle.ownAtoms0 own ic cls names, w.before args s' = true := vx_own hat' (vx_isRefq hU'.1) (vx_isRefq hN'.1) hU'.2.word hN'.2.word
  have hown' : s'.vm.findClass own = some m.cls := by rw [hvm]; exact hown
  have hins : (Cond.instantiable cls 6).before args s' = true := h _ (by simp [Bundle.ownAtoms0])
  obtain ⟨vm₁, cX, kX, hfX, hkX, -, -, X₁, st1⟩ := Y.newCold hexec (own := own) (C := cls) (index := ik) (n := 6) hown' hk' hins hini'
    (g := F0 m pc ls rest) rfl (by rw [hb]; exact d0) (Nat.le_refl _) (Nat.le_refl _)
  generalize hT1 : (T.setVm vm₁).pushCell { cls := cX, slots := kX.instanceTypes.map defaultValue, vm := .none } = T1 at X₁ st1
  have hcat : (Value.ref T.heap.size).category = 1 := rfl
  have hcellA : T1.heap[T.heap.size]? = some (freshCell cX kX) := by rw [← hT1]; exact State.heap_pushCell_size _ _
  have d3' : decode c.code (pc + 3) = .ok (.dup, 1) := by rw [hb]; exact d3
  obtain ⟨U, hsteps, hrun, hend, hW, hsame, ce, hce, hO⟩ := X₁.ctorThrow0 hexec htr (own := own) (cls := cls) (names := names) (ic := ic) hown' hcls hnames h (fun x hx => nomatch hx) hfX hkX hcellA (by rw [hhp, hT]; exact Nat.le_refl _)
    (g := { method := m, pc := pc + 4, locals := ls, stack := .ref T.heap.size :: .ref T.heap.size :: rest, locked := none }) rfl hsize rfl rfl (rest := rest) rfl
    (by rw [hb]; exact d4) (by rw [hb]; exact d7) hout hRframes (by simp only [List.map_cons, List.sum_cons, hcat]; omega) hlocks
  obtain ⟨f1, f2⟩ := vx_frame hsame
  rw [hhp] at f1 f2
  have hWs : s.WarmedH U.vm := State.WarmedH.trans hW0 hW
  have hcl : s.vm.findClass cls = some ce.cls := by
    have h9 := hO.cls
    rw [hvm] at h9
    exact h9
  have hall : s.sameButNew ({ U with vm := s.vm } : State) locs mc ms := by
    subst hA
    obtain ⟨e1, e2⟩ := hsame
    rw [State.setFrames_setFrames] at e1
    have h2 : (T.setVm s.vm).sameButNew ({ U with vm := s.vm } : State) [] (0 + 1) (0 + 6) := ⟨e1, e2⟩
    have h3 := X.same.trans h2
    rw [List.append_nil] at h3
    exact h3.mono hc hs
  refine ⟨U, ?_, .threw T.heap.size, hrun, hend, Or.inr ⟨T.heap.size, rfl, cls, ce, locs, hx U hWs.alike f1 (fun q hq => f2 q hq (fun z hz => nomatch hz)), hce, hO.vm, hcl, hWs, hall, hf⟩⟩
  refine st1 _ ?_
  show Steps p.tables e below (T1.setTop { method := m, pc := pc + 3, locals := ls, stack := .ref T.heap.size :: rest, locked := none }) _
  jvm_step X₁.here [X₁.here.top, hexec, d3', Value.category]
  exact hsteps
/-- 'throw new E("text")': new; dup; ldc; invokespecial; athrow -/
theorem vx_throwS {cc : ByteArray} {pc : Nat} (hexec : p.tables.exec = Jvm.exec) (hb : c.code = cc) (hl : l.stackTraces = false) {own cls text : String} {names : List String} {ik is ic mc ms sa : Nat} {A : Nat → Prop}
    (hown : s.vm.findClass own = some m.cls) (hcls : Bundle.fit cls = true) (hnames : ∀ n ∈ names, Bundle.fit n = true)
    (hk : (Cond.classLink own ik cls).before args s = true) (hini : (Cond.initialized cls).before args s = true) (hstr : vk_R own is text sa s) (hat : ∀ w ∈ vx_atS own ic cls names, w.before args s = true)
    (hgood : ∀ w ∈ Cond.classLink own ik cls :: Cond.initialized cls :: vx_atS own ic cls names, vx_ot w = true)
    (hU : vx_Zq Bundle.tN "UNASSIGNED_STACK" Bundle.steD A s s.heap) (hN : vx_Zq Bundle.tN "SUPPRESSED_SENTINEL" Bundle.listD A s s.heap) (hS : va_S A s.heap H locs) (hsize : ls.size = c.maxLocals)
    (d0 : decode cc pc = .ok (.new ik, 3)) (d3 : decode cc (pc + 3) = .ok (.dup, 1)) (d4 : decode cc (pc + 4) = .ok (.ldc is, 2)) (d6 : decode cc (pc + 6) = .ok (.invokespecial ic, 3)) (d9 : decode cc (pc + 9) = .ok (.athrow, 1))
    (hout : ∀ x ∈ c.exceptionTable.toList, covers x (pc + 9) = false)
    (hRframes : names.length + 3 < R.frames) (hRlocals : (rest.map fun v => v.category).sum + (13 * (names.length + 1) + 43) ≤ R.locals) (hRcells : cells + 1 ≤ R.cells) (hRslots : slots + 6 ≤ R.slots) (hlocks : meth.locks = false)
    (hx : ∀ t : State, s.vm.Alike t.vm → H.size ≤ t.heap.size → (∀ q : Nat, q < H.size → t.heap[q]? = H[q]?) → XC cls s t)
    (hf : ∀ z ∈ locs, free z.base) (hc : cells + 1 ≤ mc) (hs : slots + 6 ≤ ms) :
    W p l e R s m args below meth c H locs cells slots (vx_MQ below Qc XC args s mc ms free) (F0 m pc ls rest) := by
  intro T hT X
  have htr : e.platform.stackTraces = false := (show e.platform.stackTraces = l.stackTraces by rw [X.admits.platform]).trans hl
  have Y := vx_rebase X (R' := { frames := R.frames, locals := R.locals, cells := 1, slots := 6 }) (Nat.le_refl _) (Nat.le_refl _) hRcells hRslots
  obtain ⟨s', hA⟩ : ∃ z, z = (T.setVm s.vm).setFrames (.invoking m args :: below) := ⟨_, rfl⟩
  rw [← hA] at Y
  have hvm : s'.vm = s.vm := by rw [hA]; rfl
  have hhp : s'.heap = H := by rw [hA]; exact hT
  have hW0 : s.WarmedH s'.vm := by rw [hvm]; exact State.WarmedH.refl s
  have hat' : ∀ w ∈ vx_atS own ic cls names, w.before args s' = true := fun w hw => vx_ot_at hW0 hvm.symm (hgood w (List.mem_cons_of_mem _ (List.mem_cons_of_mem _ hw))) (hat w hw)
  have hk' : (Cond.classLink own ik cls).before args s' = true := vx_ot_at hW0 hvm.symm (hgood _ List.mem_cons_self) hk
  have hini' : (Cond.initialized cls).before args s' = true := vx_ot_at hW0 hvm.symm (hgood _ (List.mem_cons_of_mem _ List.mem_cons_self)) hini
  have hU' : vx_Zq Bundle.tN "UNASSIGNED_STACK" Bundle.steD A s' s'.heap := by rw [hhp]; exact vx_Zq.moved hW0.alike (hU.kept hS.2.1)
  have hN' : vx_Zq Bundle.tN "SUPPRESSED_SENTINEL" Bundle.listD A s' s'.heap := by rw [hhp]; exact vx_Zq.moved hW0.alike (hN.kept hS.2.1)
  have h : ∀ w ∈ Bundle.ownAtoms own ic cls names, w.before args s' = true := vx_own hat' (vx_isRefq hU'.1) (vx_isRefq hN'.1) hU'.2.word hN'.2.word
  have hown' : s'.vm.findClass own = some m.cls := by rw [hvm]; exact hown
  have hins : (Cond.instantiable cls 6).before args s' = true := h _ (by simp [Bundle.ownAtoms])
  obtain ⟨vm₁, cX, kX, hfX, hkX, -, -, X₁, st1⟩ := Y.newCold hexec (own := own) (C := cls) (index := ik) (n := 6) hown' hk' hins hini'
    (g := F0 m pc ls rest) rfl (by rw [hb]; exact d0) (Nat.le_refl _) (Nat.le_refl _)
  generalize hT1 : (T.setVm vm₁).pushCell { cls := cX, slots := kX.instanceTypes.map defaultValue, vm := .none } = T1 at X₁ st1
  have hcat : (Value.ref T.heap.size).category = 1 := rfl
  have hcellA : T1.heap[T.heap.size]? = some (freshCell cX kX) := by rw [← hT1]; exact State.heap_pushCell_size _ _
  have d3' : decode c.code (pc + 3) = .ok (.dup, 1) := by rw [hb]; exact d3
  have d4' : decode c.code (pc + 4) = .ok (.ldc is, 2) := by rw [hb]; exact d4
  have hstr' : vk_R own is text sa s' := vk_R.warm hW0 hstr
  obtain ⟨U, hsteps, hrun, hend, hW, hsame, ce, hce, hO⟩ := X₁.ctorThrowS hexec htr (own := own) (cls := cls) (names := names) (ic := ic) hown' hcls hnames h (fun x hx => nomatch hx) hfX hkX hcellA (by rw [hhp, hT]; exact Nat.le_refl _) (msg := .ref sa) rfl
    (g := { method := m, pc := pc + 6, locals := ls, stack := .ref sa :: .ref T.heap.size :: .ref T.heap.size :: rest, locked := none }) rfl hsize rfl rfl (rest := rest) rfl
    (by rw [hb]; exact d6) (by rw [hb]; exact d9) hout hRframes (by simp only [List.map_cons, List.sum_cons, hcat]; omega) hlocks
  obtain ⟨f1, f2⟩ := vx_frame hsame
  rw [hhp] at f1 f2
  have hWs : s.WarmedH U.vm := State.WarmedH.trans hW0 hW
  have hcl : s.vm.findClass cls = some ce.cls := by
    have h9 := hO.cls
    rw [hvm] at h9
    exact h9
  have hall : s.sameButNew ({ U with vm := s.vm } : State) locs mc ms := by
    subst hA
    obtain ⟨e1, e2⟩ := hsame
    rw [State.setFrames_setFrames] at e1
    have h2 : (T.setVm s.vm).sameButNew ({ U with vm := s.vm } : State) [] (0 + 1) (0 + 6) := ⟨e1, e2⟩
    have h3 := X.same.trans h2
    rw [List.append_nil] at h3
    exact h3.mono hc hs
  refine ⟨U, ?_, .threw T.heap.size, hrun, hend, Or.inr ⟨T.heap.size, rfl, cls, ce, locs, hx U hWs.alike f1 (fun q hq => f2 q hq (fun z hz => nomatch hz)), hce, hO.vm, hcl, hWs, hall, hf⟩⟩
  refine st1 _ ?_
  show Steps p.tables e below (T1.setTop { method := m, pc := pc + 3, locals := ls, stack := .ref T.heap.size :: rest, locked := none }) _
  jvm_step X₁.here [X₁.here.top, hexec, d3', Value.category]
  exact X₁.ldcString hexec (own := own) (text := text) (index := is) (a := sa) hown' hstr'.1 hstr'.2
    (g := { method := m, pc := pc + 4, locals := ls, stack := .ref T.heap.size :: .ref T.heap.size :: rest, locked := none }) rfl d4' _ hsteps
/-- 'throw new E("text")', the text by a wide index -/
theorem vx_throwSW {cc : ByteArray} {pc : Nat} (hexec : p.tables.exec = Jvm.exec) (hb : c.code = cc) (hl : l.stackTraces = false) {own cls text : String} {names : List String} {ik is ic mc ms sa : Nat} {A : Nat → Prop}
    (hown : s.vm.findClass own = some m.cls) (hcls : Bundle.fit cls = true) (hnames : ∀ n ∈ names, Bundle.fit n = true)
    (hk : (Cond.classLink own ik cls).before args s = true) (hini : (Cond.initialized cls).before args s = true) (hstr : vk_R own is text sa s) (hat : ∀ w ∈ vx_atS own ic cls names, w.before args s = true)
    (hgood : ∀ w ∈ Cond.classLink own ik cls :: Cond.initialized cls :: vx_atS own ic cls names, vx_ot w = true)
    (hU : vx_Zq Bundle.tN "UNASSIGNED_STACK" Bundle.steD A s s.heap) (hN : vx_Zq Bundle.tN "SUPPRESSED_SENTINEL" Bundle.listD A s s.heap) (hS : va_S A s.heap H locs) (hsize : ls.size = c.maxLocals)
    (d0 : decode cc pc = .ok (.new ik, 3)) (d3 : decode cc (pc + 3) = .ok (.dup, 1)) (d4 : decode cc (pc + 4) = .ok (.ldc_w is, 3)) (d7 : decode cc (pc + 7) = .ok (.invokespecial ic, 3)) (d10 : decode cc (pc + 10) = .ok (.athrow, 1))
    (hout : ∀ x ∈ c.exceptionTable.toList, covers x (pc + 10) = false)
    (hRframes : names.length + 3 < R.frames) (hRlocals : (rest.map fun v => v.category).sum + (13 * (names.length + 1) + 43) ≤ R.locals) (hRcells : cells + 1 ≤ R.cells) (hRslots : slots + 6 ≤ R.slots) (hlocks : meth.locks = false)
    (hx : ∀ t : State, s.vm.Alike t.vm → H.size ≤ t.heap.size → (∀ q : Nat, q < H.size → t.heap[q]? = H[q]?) → XC cls s t)
    (hf : ∀ z ∈ locs, free z.base) (hc : cells + 1 ≤ mc) (hs : slots + 6 ≤ ms) :
    W p l e R s m args below meth c H locs cells slots (vx_MQ below Qc XC args s mc ms free) (F0 m pc ls rest) := by
  intro T hT X
  have htr : e.platform.stackTraces = false := (show e.platform.stackTraces = l.stackTraces by rw [X.admits.platform]).trans hl
  have Y := vx_rebase X (R' := { frames := R.frames, locals := R.locals, cells := 1, slots := 6 }) (Nat.le_refl _) (Nat.le_refl _) hRcells hRslots
  obtain ⟨s', hA⟩ : ∃ z, z = (T.setVm s.vm).setFrames (.invoking m args :: below) := ⟨_, rfl⟩
  rw [← hA] at Y
  have hvm : s'.vm = s.vm := by rw [hA]; rfl
  have hhp : s'.heap = H := by rw [hA]; exact hT
  have hW0 : s.WarmedH s'.vm := by rw [hvm]; exact State.WarmedH.refl s
  have hat' : ∀ w ∈ vx_atS own ic cls names, w.before args s' = true := fun w hw => vx_ot_at hW0 hvm.symm (hgood w (List.mem_cons_of_mem _ (List.mem_cons_of_mem _ hw))) (hat w hw)
  have hk' : (Cond.classLink own ik cls).before args s' = true := vx_ot_at hW0 hvm.symm (hgood _ List.mem_cons_self) hk
  have hini' : (Cond.initialized cls).before args s' = true := vx_ot_at hW0 hvm.symm (hgood _ (List.mem_cons_of_mem _ List.mem_cons_self)) hini
  have hU' : vx_Zq Bundle.tN "UNASSIGNED_STACK" Bundle.steD A s' s'.heap := by rw [hhp]; exact vx_Zq.moved hW0.alike (hU.kept hS.2.1)
  have hN' : vx_Zq Bundle.tN "SUPPRESSED_SENTINEL" Bundle.listD A s' s'.heap := by rw [hhp]; exact vx_Zq.moved hW0.alike (hN.kept hS.2.1)
  have h : ∀ w ∈ Bundle.ownAtoms own ic cls names, w.before args s' = true := vx_own hat' (vx_isRefq hU'.1) (vx_isRefq hN'.1) hU'.2.word hN'.2.word
  have hown' : s'.vm.findClass own = some m.cls := by rw [hvm]; exact hown
  have hins : (Cond.instantiable cls 6).before args s' = true := h _ (by simp [Bundle.ownAtoms])
  obtain ⟨vm₁, cX, kX, hfX, hkX, -, -, X₁, st1⟩ := Y.newCold hexec (own := own) (C := cls) (index := ik) (n := 6) hown' hk' hins hini'
    (g := F0 m pc ls rest) rfl (by rw [hb]; exact d0) (Nat.le_refl _) (Nat.le_refl _)
  generalize hT1 : (T.setVm vm₁).pushCell { cls := cX, slots := kX.instanceTypes.map defaultValue, vm := .none } = T1 at X₁ st1
  have hcat : (Value.ref T.heap.size).category = 1 := rfl
  have hcellA : T1.heap[T.heap.size]? = some (freshCell cX kX) := by rw [← hT1]; exact State.heap_pushCell_size _ _
  have d3' : decode c.code (pc + 3) = .ok (.dup, 1) := by rw [hb]; exact d3
  have d4' : decode c.code (pc + 4) = .ok (.ldc_w is, 3) := by rw [hb]; exact d4
  have hstr' : vk_R own is text sa s' := vk_R.warm hW0 hstr
  obtain ⟨U, hsteps, hrun, hend, hW, hsame, ce, hce, hO⟩ := X₁.ctorThrowS hexec htr (own := own) (cls := cls) (names := names) (ic := ic) hown' hcls hnames h (fun x hx => nomatch hx) hfX hkX hcellA (by rw [hhp, hT]; exact Nat.le_refl _) (msg := .ref sa) rfl
    (g := { method := m, pc := pc + 7, locals := ls, stack := .ref sa :: .ref T.heap.size :: .ref T.heap.size :: rest, locked := none }) rfl hsize rfl rfl (rest := rest) rfl
    (by rw [hb]; exact d7) (by rw [hb]; exact d10) hout hRframes (by simp only [List.map_cons, List.sum_cons, hcat]; omega) hlocks
  obtain ⟨f1, f2⟩ := vx_frame hsame
  rw [hhp] at f1 f2
  have hWs : s.WarmedH U.vm := State.WarmedH.trans hW0 hW
  have hcl : s.vm.findClass cls = some ce.cls := by
    have h9 := hO.cls
    rw [hvm] at h9
    exact h9
  have hall : s.sameButNew ({ U with vm := s.vm } : State) locs mc ms := by
    subst hA
    obtain ⟨e1, e2⟩ := hsame
    rw [State.setFrames_setFrames] at e1
    have h2 : (T.setVm s.vm).sameButNew ({ U with vm := s.vm } : State) [] (0 + 1) (0 + 6) := ⟨e1, e2⟩
    have h3 := X.same.trans h2
    rw [List.append_nil] at h3
    exact h3.mono hc hs
  refine ⟨U, ?_, .threw T.heap.size, hrun, hend, Or.inr ⟨T.heap.size, rfl, cls, ce, locs, hx U hWs.alike f1 (fun q hq => f2 q hq (fun z hz => nomatch hz)), hce, hO.vm, hcl, hWs, hall, hf⟩⟩
  refine st1 _ ?_
  show Steps p.tables e below (T1.setTop { method := m, pc := pc + 3, locals := ls, stack := .ref T.heap.size :: rest, locked := none }) _
  jvm_step X₁.here [X₁.here.top, hexec, d3', Value.category]
  exact X₁.ldcStringW hexec (own := own) (text := text) (index := is) (a := sa) hown' hstr'.1 hstr'.2
    (g := { method := m, pc := pc + 4, locals := ls, stack := .ref T.heap.size :: .ref T.heap.size :: rest, locked := none }) rfl d4' _ hsteps
end Ends
section Bodies
variable {l : Launch}
theorem vx_ofW {y : MethodName} {ws ws' : List Cond} {rm : Room} {Pc : Array Value → State → Prop} {Qc : Array Value → State → Outcome → State → Prop} {XC : String → State → State → Prop} {mc ms : Nat} {free : Addr → Prop} {cc : ByteArray} {maxL : Nat} {ret : Option FieldType}
    (hy : plainName y.cls = true) (hw : ws = Cond.code y cc maxL ret :: ws')
    (body : ∀ p e s m args below meth c s₁, BodyLoose p l y (headSpec ws rm) cc maxL ret e s m args below meth c s₁ → c.maxLocals = maxL → (∀ x ∈ c.exceptionTable.toList, False) → Pc args s →
      W p l e (headSpec ws rm).room s m args below meth c s.heap [] 0 0 (vx_MQ below Qc XC args s mc ms free) (entryFrame m args maxL)) : vx_Met l y ws rm Pc Qc XC mc ms free := by
  refine MetFree.of_bodyS (code := cc) (maxLocals := maxL) (ret := ret) hy ?_ ?_
  · intro args s m h hn
    obtain ⟨meth, c, h1, h2, h3, h4, h5, h6, -, -⟩ := Cond.code_spec hn (atoms_spec (ws := ws) h _ (by rw [hw]; exact List.mem_cons_self))
    exact ⟨meth, c, h1, h2, h3, h4, h5, h6⟩
  · intro p e s m args below meth c s₁ B hml hP _
    have hh0 : s₁.heap = s.heap := by rw [B.state]; rfl
    have ht : ∀ x ∈ c.exceptionTable.toList, False := by
      obtain ⟨meth9, c9, h1, h2, -, -, -, -, h7, -⟩ := Cond.code_spec B.named (atoms_spec (ws := ws) B.pre _ (by rw [hw]; exact List.mem_cons_self))
      cases Option.some.inj (h1.symm.trans B.method)
      cases Option.some.inj (h2.symm.trans (Stand.of_body B).code)
      intro x hx
      rw [Array.isEmpty_iff.mp h7] at hx
      cases hx
    obtain ⟨t, a1, o, b1, b2, b3⟩ := body p e s m args below meth c s₁ B hml ht hP s₁ hh0 (Stand.of_body B)
    exact ⟨t, o, a1, b1, b2, b3⟩
/-- the table of a body with handlers -/
theorem vx_table {p : Program} {x y : MethodName} {S : Spec} {cc bytes : ByteArray} {maxL maxL' : Nat} {ret ret' : Option FieldType} {e : Env} {s s₁ : State} {m : MethodId} {args : Array Value} {below : List Frame} {meth : Method} {c : Code} {hh : List (Nat × Nat × Nat × Nat)}
    (B : BodyLoose p l y S cc maxL ret e s m args below meth c s₁) (h : (Cond.codeWith y bytes maxL' ret' hh).before args s = true) : c.exceptionTable.toList = tableOf hh := by
  obtain ⟨m9, meth9, c9, hn9, h1, h2, -, -, h6, -⟩ := Cond.codeWith_spec h
  cases Option.some.inj (hn9.symm.trans B.named)
  cases Option.some.inj (h1.symm.trans B.method)
  cases Option.some.inj (h2.symm.trans (Stand.of_body B).code)
  rw [← h6, table_eq]
end Bodies
end VXA
/-! ===== END ===== -/
/-! ===== BEGIN a static call of a method with an exception table ===== -/
section VXS
variable {p : Program} {l : Launch} {e : Env} {R : Room} {s : State} {m : MethodId} {args : Array Value} {below : List Frame} {meth : Method} {c : Code} {T : State} {H : Heap} {locs : List Loc} {cells slots : Nat}
abbrev vx_CSW (R : Room) (s : State) (args : Array Value) (own : String) (index : Nat) (y : MethodName) (bytes : ByteArray) (maxL : Nat) (ret : Option FieldType) (hh : List (Nat × Nat × Nat × Nat)) (ws : List Cond) (rm : Room) (mc ms n : Nat) : Prop :=
  (rm.cells = mc ∧ rm.slots = ms ∧ rm.frames + 1 ≤ R.frames ∧ 8 + (maxL + 11) + rm.locals ≤ R.locals ∧ (∀ w ∈ ws, ∀ (a' : Array Value) (U : State), s.WarmedH U.vm → w.before a' U = true) ∧ Cond.codeWith y bytes maxL ret hh ∈ ws) ∧
  (Cond.codeWith y bytes maxL ret hh).before args s = true ∧ (Cond.initialized y.cls).before args s = true ∧ (y.cls ≠ "java/lang/invoke/MethodHandle" ∧ y.cls ≠ "java/lang/invoke/VarHandle") ∧
  (∀ sig, parseMethodDescriptor y.desc = some sig → n = sig.parameters.length) ∧ (Cond.methodLink own index y).before args s = true ∧ (Cond.static y).before args s = true
theorem vx_cwSW {own : String} {index maxL mc ms : Nat} {y : MethodName} {bytes : ByteArray} {ret : Option FieldType} {hh : List (Nat × Nat × Nat × Nat)} {Ts ws ws' : List Cond} {rm : Room} (n : Nat) (ht : ∀ w ∈ Ts, w.before args s = true) (hT : GoodIn Ts (va_wsS own index y ws)) (hw : ws = Cond.codeWith y bytes maxL ret hh :: ws') (hrc : rm.cells = mc) (hrs : rm.slots = ms)
    (hd : y.cls ≠ "java/lang/invoke/MethodHandle" ∧ y.cls ≠ "java/lang/invoke/VarHandle" ∧ (parseMethodDescriptor y.desc).map (fun d => d.parameters.length) = some n) (hR : rm.frames + 1 ≤ R.frames ∧ 8 + (maxL + 11) + rm.locals ≤ R.locals) :
    vx_CSW R s args own index y bytes maxL ret hh ws rm mc ms n := by
  have ok : ∀ w ∈ va_wsS own index y ws, w.before args s = true := fun w h => ht w (hT w h).1
  have hG : GoodIn Ts ws := fun w h => hT w (by unfold va_wsS; exact List.mem_append_right _ h)
  have hc : Cond.codeWith y bytes maxL ret hh ∈ ws := by rw [hw]; exact List.mem_cons_self
  refine ⟨⟨hrc, hrs, hR.1, hR.2, pay_in ht hG, hc⟩, ht _ (hG _ hc).1, ok _ (by simp [va_wsS]), ⟨hd.1, hd.2.1⟩, fun sig h => ?_, ok _ (by simp [va_wsS]), ok _ (by simp [va_wsS])⟩
  have h2 := hd.2.2
  rw [h] at h2
  exact (Option.some.inj h2).symm
theorem vx_callSW (X : Stand p l e R s m args below meth c T locs cells slots) (hexec : p.tables.exec = Jvm.exec) {own : String} {index : Nat} {y : MethodName} {bytes : ByteArray} {maxL : Nat} {ret : Option FieldType} {hh : List (Nat × Nat × Nat × Nat)}
    (hown : s.vm.findClass own = some m.cls) (hlink : (Cond.methodLink own index y).before args s = true) (hstat : (Cond.static y).before args s = true) (hinit : (Cond.initialized y.cls).before args s = true)
    (hcode : (Cond.codeWith y bytes maxL ret hh).before args s = true) (hy : y.cls ≠ "java/lang/invoke/MethodHandle" ∧ y.cls ≠ "java/lang/invoke/VarHandle")
    {W9 : Nat} {Pre : Pt → Array Value → Prop} {Post : Pt → Array Value → Option Value → Pt → Prop} (hK : Back l R p e below s args y 3 W9 Pre Post)
    {g : JFrame} (hg : g.method = m) (hsize : g.locals.size = c.maxLocals) {argsL rest : List Value} (hlen : ∀ sig, parseMethodDescriptor y.desc = some sig → argsL.length = sig.parameters.length)
    (hstack : g.stack = argsL.reverse ++ rest) (hW : 2 * g.monitorRoom + (rest.map fun v => v.category).sum ≤ W9) (hdg : decode c.code g.pc = .ok (.invokestatic index, 3))
    (hpre : ∀ vm₁, s.WarmedH vm₁ → Pre ⟨T.setVm vm₁, locs, cells, slots⟩ argsL.toArray) :
    ∃ (v : Option Value) (vm₁ : Vm) (B : Pt), s.WarmedH vm₁ ∧ Stand p l e R s m args below meth c B.U B.locs B.cells B.slots ∧ Post ⟨T.setVm vm₁, locs, cells, slots⟩ argsL.toArray v B ∧
      ∀ target, Steps p.tables e below (B.U.setTop { g with pc := g.pc + 3, stack := v.toList ++ rest }) target → Steps p.tables e below (T.setTop g) target := by
  obtain ⟨mk, methM, cM, hnamed, hmethM, -, -, -, -, -, -, hsigM⟩ := Cond.codeWith_spec hcode
  have hstatic : methM.isStatic = true := Cond.static_spec hnamed hmethM hstat
  obtain ⟨kP, hkP, -⟩ := className_of_methodNamed hnamed
  have hinitP : kP.init = .initialized := Cond.initialized_spec (findClass_of_methodNamed hnamed) hkP hinit
  obtain ⟨vm₁, X₁, hstep₁⟩ := X.invokestatic hexec hown hlink hnamed hmethM hstatic hkP hinitP hy (g := g) hg (argsL := argsL) (rest := rest) (hlen _ hsigM) hstack hdg
  obtain ⟨v, B, X', hpost, hsteps⟩ := hK m meth c ⟨T.setVm vm₁, locs, cells, slots⟩ { g with stack := rest } (.invokestatic index) mk argsL.toArray X₁ hg hsize hdg hW (X₁.named hnamed) (hpre vm₁ X₁.warmed)
  exact ⟨v, vm₁, B, X₁.warmed, X', hpost, fun target h => hstep₁ _ fun acts => by rw [doInvoke_state]; exact hsteps.trans h⟩
theorem vx_runSW {y : MethodName} {bytes cc : ByteArray} {maxL nL mc ms n index : Nat} {ret : Option FieldType} {hh : List (Nat × Nat × Nat × Nat)} {ws : List Cond} {rm : Room} {Pc : Array Value → State → Prop} {Qc : Array Value → State → Outcome → State → Prop} {free : Addr → Prop} {Ts : List Cond} {own : String} {As rest : List Value} {g : JFrame}
    (S : CallFix p m c cc nL s args Ts own) (hM : Met l y ws rm Pc Qc mc ms free) (cw : vx_CSW R s args own index y bytes maxL ret hh ws rm mc ms n) (hp : PreS s H Pc As)
    (hg : g.method = m) (hn : As.length = n) (hsize : g.locals.size = nL) (hstack : g.stack = As.reverse ++ rest) (hW : 2 * g.monitorRoom + (rest.map fun v => v.category).sum ≤ 8) (hdg : decode cc g.pc = .ok (.invokestatic index, 3)) (hf : cells + mc ≤ R.cells ∧ slots + ms ≤ R.slots) :
    va_Run p l e R s m args below meth c H locs cells slots mc ms g rest (Qc As.toArray) (free) := by
  obtain ⟨⟨hrc, hrs, hfr, hlo, hws, hcw⟩, hcode, hini, hy, hlen, hl, hstt⟩ := cw
  have hK : Back l R p e below s args y 3 8 (PreOf R mc ms Pc) (PostOf Qc mc ms free) := va_backW (hh := hh) (bytes := bytes) (maxL := maxL) (ret := ret) hM hp.1 hrc hrs hfr hlo hws hcw (fun a' U hW => word_at hW (Or.inl (by first | rfl | simp [Cond.onTables, Cond.keeps, Cond.steady])) hini)
  obtain ⟨hx, hb, hml, ho, -⟩ := S
  intro T hT X
  obtain ⟨v, vm₁, ⟨U', l2, c2, s2⟩, hW₁, X', ⟨g', mk, t, L, e1, e2, hq, h1, hL, h2, h3⟩, st⟩ := vx_callSW X hx (hh := hh) (bytes := bytes) (maxL := maxL) (ret := ret) ho hl hstt hini hcode hy hK hg (hsize.trans hml.symm) (argsL := As) (rest := rest) (fun sig h => hn.trans (hlen sig h)) hstack hW (by rw [hb]; exact hdg)
    (fun vm₁ hW₁ => ⟨hf.1, hf.2, hp.2 (T.setVm vm₁) hT hW₁⟩)
  dsimp only [Pt.U, Pt.locs, Pt.cells, Pt.slots] at X' e1 e2 h1 h2 h3 st
  subst h1; subst h2; subst h3
  exact ⟨v, (T.setVm vm₁).calling g' mk As.toArray, t, U', L, hT, X', hL, e1, e2, hq, st⟩
/-- not caught here, past rows that name other classes: it goes on to the caller -/
theorem vx_outP {p : Program} {l : Launch} {e : Env} {R : Room} {s : State} {m : MethodId} {args : Array Value} {below : List Frame} {meth : Method} {c : Code} {H : Heap} {locs : List Loc} {cells slots : Nat} {free : Addr → Prop} {ls : Array Slot} {rest : List Value} {Qc : Array Value → State → Outcome → State → Prop} {XC : String → State → State → Prop}
    {pc : Nat} {own E : String} {ce : Cell} {q : Addr} {mc ms : Nat} (hown : s.vm.findClass own = some m.cls) (hlocks : meth.locks = false)
    (hpass : ∀ z ∈ c.exceptionTable.toList, covers z pc = false ∨ (z.catchType ≠ 0 ∧ ∃ nm : String, (Cond.classLink own z.catchType nm).before args s = true ∧ va_Nc E nm s)) (hcell : H[q]? = some ce) (hv : ce.vm = .none) (hcl : s.vm.findClass E = some ce.cls)
    (hx : ∀ t : State, t.heap = H → s.vm.Alike t.vm → XC E s t) (hf : ∀ z ∈ locs, free z.base) (hc : cells ≤ mc) (hs : slots ≤ ms) :
    vx_W p l e R s m args below meth c H locs cells slots (vx_MQ below Qc XC args s mc ms free) (F0 m pc ls rest) q := by
  intro T hT X
  have hpl : e.platform.magicAccessors = ({} : Platform).magicAccessors := by rw [X.admits.platform]
  obtain ⟨vm', hW', X', st⟩ := X.outThrough hlocks q (g := F0 m pc ls rest) rfl rfl rfl (cell := ce) (by rw [hT]; exact hcell) (by rw [hv]; rfl)
    (by obtain ⟨k9, h9, -⟩ := Vm.findClass_spec hcl; exact ⟨k9, h9⟩) (fun z hz => by
      rcases hpass z hz with h | ⟨hz0, nm, hl1, hn1⟩
      · exact Or.inl h
      · obtain ⟨c6, hc6, hcl6⟩ := Cond.classLink_spec hown hl1 e.platform hpl
        obtain ⟨a8, b8, h1, h2, h3⟩ := hn1
        cases Option.some.inj (h1.symm.trans hcl)
        cases Option.some.inj (h2.symm.trans hc6)
        exact Or.inr ⟨hz0, _, hcl6, h3⟩)
  obtain ⟨g₀, hfr⟩ := X'.frames_eq
  have hcell9 : ((T.setVm vm').setFrames (.throwing q :: below)).heap[q]? = some ce := by
    show T.heap[q]? = some ce
    rw [hT]; exact hcell
  have hend : Ended ((T.setVm vm').setFrames (.throwing q :: below)) below (.threw q) := State.frames_setFrames _ (State.cur_lt_of_frames hfr)
  refine ⟨(T.setVm vm').setFrames (.throwing q :: below), ?_, .threw q, X'.here.running, hend, Or.inr ⟨q, rfl, E, ce, locs, hx _ hT (X'.ends _).1.alike, hcell9, hv, hcl, (X'.ends _).1, (X'.ends _).2.mono hc hs, hf⟩⟩
  rw [X.pushThrowing_eq]
  exact st
/-- a thing of a world lies in the heap -/
theorem vx_lt {D : va_G} {cl : List vw_C} {ws : va_W} {H1 : Heap} (h : va_P D cl ws H1) {k : Nat} {q : Nat × va_E} (hk : ws[k]? = some q) : q.1 < H1.size := (h k q hk).lt
end VXS
/-! ===== END ===== -/
/-! ===== BEGIN methods with a table of their own: called by a name, returning or throwing ===== -/
section VXH
/-! vx_backW, vx_callVX, vx_callSX, vx_callVW, vx_runVW, vx_runVX, vx_runSX, vx_ofWH follow the same proofs as their sisters above (Free/Laws.lean, Shelf42/LK1.lean); vx_outP calls Shelf42/NT130.lean (outThrough). -/
section
variable {l : Launch} {R : Room} {p : Program} {e : Env} {below : List Frame} {s : State} {sargs : Array Value} {y : MethodName} {len W9 : Nat}
theorem vx_backW {ws : List Cond} {rm : Room} {Pc : Array Value → State → Prop} {Qc : Array Value → State → Outcome → State → Prop} {XC : String → State → State → Prop} {mc ms : Nat} {free : Addr → Prop} {bytes : ByteArray} {maxL : Nat} {ret : Option FieldType} {hh : List (Nat × Nat × Nat × Nat)}
    (hM : vx_Met l y ws rm Pc Qc XC mc ms free) (hblind : FrameBlind Pc) (hrc : rm.cells = mc) (hrs : rm.slots = ms)
    (hframes : rm.frames + 1 ≤ R.frames) (hlocals : W9 + (maxL + 11) + rm.locals ≤ R.locals)
    (hws : ∀ w ∈ ws, ∀ a' U, s.WarmedH U.vm → w.before a' U = true) (hcode : Cond.codeWith y bytes maxL ret hh ∈ ws) (hinit : ∀ a' U, s.WarmedH U.vm → (Cond.initialized y.cls).before a' U = true) :
    vx_Back l R p e below s sargs y len W9 (PreOf R mc ms Pc) (PostOf Qc mc ms free) (vx_Post XC mc ms free) := by
  intro m meth c A g ig mk a X hg hsize hdg hW hn hp
  have h1 : (headSpec ws rm).pre.before a A.U = true := atoms_intro fun w hw => hws w hw _ _ X.warmed
  have h2 : (Cond.codeWith y bytes maxL ret hh).before a A.U = true := hws _ hcode _ _ X.warmed
  have h3 : (Cond.initialized y.cls).before a A.U = true := hinit _ _ X.warmed
  have h4 : A.cells + (headSpec ws rm).room.cells ≤ R.cells := by rw [show (headSpec ws rm).room.cells = mc from hrc]; exact hp.1
  have h5 : A.slots + (headSpec ws rm).room.slots ≤ R.slots := by rw [show (headSpec ws rm).room.slots = ms from hrs]; exact hp.2.1
  have hPc : Pc a (A.U.calling g mk a) := hblind _ _ _ _ hp.2.2
  obtain ⟨U, Ls, c0, s0⟩ := A
  dsimp only [Pt.U, Pt.locs, Pt.cells, Pt.slots] at h1 h2 h3 h4 h5 X hn hPc ⊢
  obtain ⟨m9, methY, cY, hn9, hmY, hcY, -, hlY, -⟩ := Cond.codeWith_spec h2
  cases Option.some.inj (hn9.symm.trans hn)
  obtain ⟨kY, hkY, -⟩ := className_of_methodNamed hn
  have hinitY : kY.init = .initialized := Cond.initialized_spec (findClass_of_methodNamed hn) hkY h3
  have h : At U g.method c below := by rw [hg]; exact X.here
  have hlocals9 : W9 + (maxL + 11) + (headSpec ws rm).room.locals ≤ R.locals := hlocals
  have happ : (headSpec ws rm).appliesLoose y e.platform (U.calling g mk a) = true :=
    Spec.appliesLoose_calling (g := g) h hdg hn hkY hinitY
      (X.room_calling (g := g) (R' := (headSpec ws rm).room) hsize hmY hcY hframes (by rw [hlY]; omega) h4 h5) h1
  obtain ⟨mid, hmid⟩ := h.above
  have hfr : (U.setTop g).frames = (.java g :: mid) ++ below := by rw [State.frames_setTop' g h.top, hmid]; rfl
  obtain ⟨o, s₂, hsteps, -, hend, hq⟩ := Steps.callFree hM p X.admits X.cas X.clock (acts := []) hfr happ hPc trivial
  have hq' : vx_Q Qc XC mc ms free a (U.calling g mk a) o s₂ := hq
  rw [State.frames_setTop' g h.top] at hend
  obtain ⟨g₀, hg0⟩ := Option.isSome_iff_exists.mp h.top
  obtain ⟨r, hr⟩ := State.topJava?_eq_some.mp hg0
  have hr' : (({ U with heap := s₂.heap, slotsUsed := s₂.slotsUsed } : State).setVm s₂.vm).frames = .java g₀ :: r := hr
  rcases hq' with ⟨hqc, L, hfe, hL⟩ | ⟨q, rfl, E, ce, L, hx, hce, hcv, hcl, hW₂, hsm, hL⟩
  · obtain ⟨⟨v, rfl⟩, hW₂, e2, q2, q3, q4, q5, q6⟩ := id hfe
    have e3 : s₂ = ({ (U.calling g mk a).setFrames s₂.frames with heap := s₂.heap, slotsUsed := s₂.slotsUsed } : State).setVm s₂.vm := by
      have : s₂ = ({ s₂ with vm := (U.calling g mk a).vm } : State).setVm s₂.vm := rfl
      rw [e2] at this
      exact this
    obtain ⟨c₂, i₂, len₂, hc₂, hd₂, hf₂⟩ := hend
    have hW' : U.WarmedH s₂.vm := hW₂
    have hcc : c₂ = c := by
      have h1 : s₂.code? g.method = U.code? g.method := by
        rw [State.code?_eq, State.code?_eq, hW'.alike.method?]
      exact Option.some.inj (hc₂.symm.trans (h1.trans h.code))
    subst hcc
    have hlen : len₂ = len := by rw [hdg] at hd₂; cases hd₂; rfl
    subst hlen
    have hs₂ : s₂ = (({ U with heap := s₂.heap, slotsUsed := s₂.slotsUsed } : State).setVm s₂.vm).setTop { g with pc := g.pc + len₂, stack := v.toList ++ g.stack } := by
      refine e3.trans ?_
      rw [hf₂, State.calling_eq h.top, State.setFrames_setFrames, State.setTop_of_frames _ hr', hr]
      rfl
    have hsame : U.sameButNew ({ U with heap := s₂.heap, slotsUsed := s₂.slotsUsed } : State) L mc ms := by
      refine ⟨?_, q2, q3, q4, q5, q6⟩
      obtain ⟨t, ht, -⟩ := State.frames_cons hr
      show ({ U with heap := s₂.heap, slotsUsed := s₂.slotsUsed } : State) = { U.setFrames U.frames with heap := s₂.heap, slotsUsed := s₂.slotsUsed }
      rw [State.setFrames_self ht]
    subst hg
    refine Or.inl ⟨v, ⟨(({ U with heap := s₂.heap, slotsUsed := s₂.slotsUsed } : State).setVm s₂.vm), Ls ++ L, c0 + mc, s0 + ms⟩,
      ⟨X.admits, X.cas, X.clock, X.frames, X.room, X.hears, X.method, X.code, (X.here.setHeapUsed s₂.heap s₂.slotsUsed).setVm hW'.alike, X.tail, State.WarmedH.trans X.warmed hW', X.limits, X.bytes, X.same.trans (hsame.setVm s.vm)⟩,
      ⟨g, mk, s₂, L, rfl, rfl, hqc, rfl, hL, rfl, rfl⟩, ?_⟩
    show Steps p.tables e below _ ((({ U with heap := s₂.heap, slotsUsed := s₂.slotsUsed } : State).setVm s₂.vm).setTop { g with pc := g.pc + len₂, stack := v.toList ++ g.stack })
    rw [← hs₂]
    exact hsteps
  · obtain ⟨e2, q2, q3, q4, q5, q6⟩ := id hsm
    have e3 : s₂ = ({ (U.calling g mk a).setFrames s₂.frames with heap := s₂.heap, slotsUsed := s₂.slotsUsed } : State).setVm s₂.vm := by
      have : s₂ = ({ s₂ with vm := (U.calling g mk a).vm } : State).setVm s₂.vm := rfl
      rw [e2] at this
      exact this
    have hf₂ : s₂.frames = .throwing q :: .java g :: U.frames.tail := hend
    have hW' : U.WarmedH s₂.vm := hW₂
    have hs₂ : s₂ = ((({ U with heap := s₂.heap, slotsUsed := s₂.slotsUsed } : State).setVm s₂.vm).setTop g).pushFrame (.throwing q) := by
      refine e3.trans ?_
      rw [hf₂, State.calling_eq h.top, State.setFrames_setFrames, State.pushFrame, State.frames_setTop _ hr', State.setTop_of_frames _ hr', State.setFrames_setFrames, hr]
      rfl
    have hsame : U.sameButNew ({ U with heap := s₂.heap, slotsUsed := s₂.slotsUsed } : State) L mc ms := by
      refine ⟨?_, q2, q3, q4, q5, q6⟩
      obtain ⟨t, ht, -⟩ := State.frames_cons hr
      show ({ U with heap := s₂.heap, slotsUsed := s₂.slotsUsed } : State) = { U.setFrames U.frames with heap := s₂.heap, slotsUsed := s₂.slotsUsed }
      rw [State.setFrames_self ht]
    subst hg
    refine Or.inr ⟨q, ⟨(({ U with heap := s₂.heap, slotsUsed := s₂.slotsUsed } : State).setVm s₂.vm), Ls ++ L, c0 + mc, s0 + ms⟩,
      ⟨X.admits, X.cas, X.clock, X.frames, X.room, X.hears, X.method, X.code, (X.here.setHeapUsed s₂.heap s₂.slotsUsed).setVm hW'.alike, X.tail, State.WarmedH.trans X.warmed hW', X.limits, X.bytes, X.same.trans (hsame.setVm s.vm)⟩,
      ⟨g, mk, s₂, L, E, ce, rfl, rfl, hx, hce, hcv, hcl, rfl, hL, rfl, rfl⟩, ?_⟩
    show Steps p.tables e below _ (((({ U with heap := s₂.heap, slotsUsed := s₂.slotsUsed } : State).setVm s₂.vm).setTop g).pushFrame (.throwing q))
    rw [← hs₂]
    exact hsteps
end
variable {p : Program} {l : Launch} {e : Env} {R : Room} {s : State} {m : MethodId} {args : Array Value} {below : List Frame} {meth : Method} {c : Code} {T : State} {H : Heap} {locs : List Loc} {cells slots : Nat}
theorem vx_callVX (X : Stand p l e R s m args below meth c T locs cells slots) (hexec : p.tables.exec = Jvm.exec) {own C : String} {index : Nat} {y : MethodName} {bytes : ByteArray} {maxL : Nat} {ret : Option FieldType} {hh : List (Nat × Nat × Nat × Nat)}
    (hown : s.vm.findClass own = some m.cls) (hlink : (Cond.methodLink own index y).before args s = true) (hinst : (Cond.instanceMethod y).before args s = true) (hsel : (Cond.selects C y y).before args s = true)
    (hcode : (Cond.codeWith y bytes maxL ret hh).before args s = true) (hy : y.cls ≠ "java/lang/invoke/MethodHandle" ∧ y.cls ≠ "java/lang/invoke/VarHandle")
    {W9 : Nat} {Pre : Pt → Array Value → Prop} {Post : Pt → Array Value → Option Value → Pt → Prop} {PostX : Pt → Array Value → Addr → Pt → Prop} (hK : vx_Back l R p e below s args y 3 W9 Pre Post PostX)
    {b : Addr} {cellB : Cell} (hcell : T.heap[b]? = some cellB) (hobj : cellB.vm.isStatics = false) (hcls : s.vm.findClass C = some cellB.cls)
    {g : JFrame} (hg : g.method = m) (hsize : g.locals.size = c.maxLocals) {argsL rest : List Value} (hlen : ∀ sig, parseMethodDescriptor y.desc = some sig → argsL.length = sig.parameters.length)
    (hstack : g.stack = argsL.reverse ++ .ref b :: rest) (hW : 2 * g.monitorRoom + (rest.map fun v => v.category).sum ≤ W9) (hdg : decode c.code g.pc = .ok (.invokevirtual index, 3))
    (hpre : ∀ vm₁, s.WarmedH vm₁ → Pre ⟨T.setVm vm₁, locs, cells, slots⟩ (Value.ref b :: argsL).toArray) :
    (∃ (v : Option Value) (vm₁ : Vm) (B : Pt), s.WarmedH vm₁ ∧ Stand p l e R s m args below meth c B.U B.locs B.cells B.slots ∧ Post ⟨T.setVm vm₁, locs, cells, slots⟩ (Value.ref b :: argsL).toArray v B ∧
      ∀ target, Steps p.tables e below (B.U.setTop { g with pc := g.pc + 3, stack := v.toList ++ rest }) target → Steps p.tables e below (T.setTop g) target) ∨
    (∃ (q : Addr) (vm₁ : Vm) (B : Pt), s.WarmedH vm₁ ∧ Stand p l e R s m args below meth c B.U B.locs B.cells B.slots ∧ PostX ⟨T.setVm vm₁, locs, cells, slots⟩ (Value.ref b :: argsL).toArray q B ∧
      Steps p.tables e below (T.setTop g) ((B.U.setTop { g with stack := rest }).pushFrame (.throwing q))) := by
  obtain ⟨mk, methM, hnamed, hmethM, hstM, habM⟩ := Cond.instanceMethod_spec hinst
  obtain ⟨m8, methM', cM, hn8, hmethM', -, -, -, -, -, -, hsigM⟩ := Cond.codeWith_spec hcode
  cases Option.some.inj (hn8.symm.trans hnamed)
  cases hmethM.symm.trans hmethM'
  obtain ⟨c2, r2, m2, q1, q2, q3, q4, kP, hkP, hkPi⟩ := Cond.selects_spec hsel
  cases hcls.symm.trans q1
  cases (State.methodFound?_of_named hnamed hy).symm.trans q2
  cases hnamed.symm.trans q3
  have hselP : selectMethod e.platform s.vm cellB.cls mk = .method mk := by rw [Launch.admits_selectMethod X.admits]; exact q4
  obtain ⟨vm₁, X₁, hstep₁⟩ := X.invokevirtual hexec hown hlink hnamed hmethM hstM hkP hkPi hy (a := b) (cell := cellB) hcell
    (fun z h => by rw [h] at hobj; cases hobj) hselP hmethM habM hkP hkPi (g := g) hg (argsL := argsL) (rest := rest) (hlen _ hsigM) hstack hdg
  rcases hK m meth c ⟨T.setVm vm₁, locs, cells, slots⟩ { g with stack := rest } (.invokevirtual index) mk (Value.ref b :: argsL).toArray X₁ hg hsize hdg hW (X₁.named hnamed) (hpre vm₁ X₁.warmed) with ⟨v, B, X', hpost, hsteps⟩ | ⟨q, B, X', hpost, hsteps⟩
  · exact Or.inl ⟨v, vm₁, B, X₁.warmed, X', hpost, fun target h => hstep₁ _ fun acts => by rw [doInvoke_state]; exact hsteps.trans h⟩
  · exact Or.inr ⟨q, vm₁, B, X₁.warmed, X', hpost, hstep₁ _ fun acts => by rw [doInvoke_state]; exact hsteps⟩
theorem vx_callSX (X : Stand p l e R s m args below meth c T locs cells slots) (hexec : p.tables.exec = Jvm.exec) {own : String} {index : Nat} {y : MethodName} {bytes : ByteArray} {maxL : Nat} {ret : Option FieldType} {hh : List (Nat × Nat × Nat × Nat)}
    (hown : s.vm.findClass own = some m.cls) (hlink : (Cond.methodLink own index y).before args s = true) (hstat : (Cond.static y).before args s = true) (hinit : (Cond.initialized y.cls).before args s = true)
    (hcode : (Cond.codeWith y bytes maxL ret hh).before args s = true) (hy : y.cls ≠ "java/lang/invoke/MethodHandle" ∧ y.cls ≠ "java/lang/invoke/VarHandle")
    {W9 : Nat} {Pre : Pt → Array Value → Prop} {Post : Pt → Array Value → Option Value → Pt → Prop} {PostX : Pt → Array Value → Addr → Pt → Prop} (hK : vx_Back l R p e below s args y 3 W9 Pre Post PostX)
    {g : JFrame} (hg : g.method = m) (hsize : g.locals.size = c.maxLocals) {argsL rest : List Value} (hlen : ∀ sig, parseMethodDescriptor y.desc = some sig → argsL.length = sig.parameters.length)
    (hstack : g.stack = argsL.reverse ++ rest) (hW : 2 * g.monitorRoom + (rest.map fun v => v.category).sum ≤ W9) (hdg : decode c.code g.pc = .ok (.invokestatic index, 3))
    (hpre : ∀ vm₁, s.WarmedH vm₁ → Pre ⟨T.setVm vm₁, locs, cells, slots⟩ argsL.toArray) :
    (∃ (v : Option Value) (vm₁ : Vm) (B : Pt), s.WarmedH vm₁ ∧ Stand p l e R s m args below meth c B.U B.locs B.cells B.slots ∧ Post ⟨T.setVm vm₁, locs, cells, slots⟩ argsL.toArray v B ∧
      ∀ target, Steps p.tables e below (B.U.setTop { g with pc := g.pc + 3, stack := v.toList ++ rest }) target → Steps p.tables e below (T.setTop g) target) ∨
    (∃ (q : Addr) (vm₁ : Vm) (B : Pt), s.WarmedH vm₁ ∧ Stand p l e R s m args below meth c B.U B.locs B.cells B.slots ∧ PostX ⟨T.setVm vm₁, locs, cells, slots⟩ argsL.toArray q B ∧
      Steps p.tables e below (T.setTop g) ((B.U.setTop { g with stack := rest }).pushFrame (.throwing q))) := by
  obtain ⟨mk, methM, cM, hnamed, hmethM, -, -, -, -, -, -, hsigM⟩ := Cond.codeWith_spec hcode
  have hstatic : methM.isStatic = true := Cond.static_spec hnamed hmethM hstat
  obtain ⟨kP, hkP, -⟩ := className_of_methodNamed hnamed
  have hinitP : kP.init = .initialized := Cond.initialized_spec (findClass_of_methodNamed hnamed) hkP hinit
  obtain ⟨vm₁, X₁, hstep₁⟩ := X.invokestatic hexec hown hlink hnamed hmethM hstatic hkP hinitP hy (g := g) hg (argsL := argsL) (rest := rest) (hlen _ hsigM) hstack hdg
  rcases hK m meth c ⟨T.setVm vm₁, locs, cells, slots⟩ { g with stack := rest } (.invokestatic index) mk argsL.toArray X₁ hg hsize hdg hW (X₁.named hnamed) (hpre vm₁ X₁.warmed) with ⟨v, B, X', hpost, hsteps⟩ | ⟨q, B, X', hpost, hsteps⟩
  · exact Or.inl ⟨v, vm₁, B, X₁.warmed, X', hpost, fun target h => hstep₁ _ fun acts => by rw [doInvoke_state]; exact hsteps.trans h⟩
  · exact Or.inr ⟨q, vm₁, B, X₁.warmed, X', hpost, hstep₁ _ fun acts => by rw [doInvoke_state]; exact hsteps⟩
theorem vx_callVW (X : Stand p l e R s m args below meth c T locs cells slots) (hexec : p.tables.exec = Jvm.exec) {own C : String} {index : Nat} {y : MethodName} {bytes : ByteArray} {maxL : Nat} {ret : Option FieldType} {hh : List (Nat × Nat × Nat × Nat)}
    (hown : s.vm.findClass own = some m.cls) (hlink : (Cond.methodLink own index y).before args s = true) (hinst : (Cond.instanceMethod y).before args s = true) (hsel : (Cond.selects C y y).before args s = true)
    (hcode : (Cond.codeWith y bytes maxL ret hh).before args s = true) (hy : y.cls ≠ "java/lang/invoke/MethodHandle" ∧ y.cls ≠ "java/lang/invoke/VarHandle")
    {W9 : Nat} {Pre : Pt → Array Value → Prop} {Post : Pt → Array Value → Option Value → Pt → Prop} (hK : Back l R p e below s args y 3 W9 Pre Post)
    {b : Addr} {cellB : Cell} (hcell : T.heap[b]? = some cellB) (hobj : cellB.vm.isStatics = false) (hcls : s.vm.findClass C = some cellB.cls)
    {g : JFrame} (hg : g.method = m) (hsize : g.locals.size = c.maxLocals) {argsL rest : List Value} (hlen : ∀ sig, parseMethodDescriptor y.desc = some sig → argsL.length = sig.parameters.length)
    (hstack : g.stack = argsL.reverse ++ .ref b :: rest) (hW : 2 * g.monitorRoom + (rest.map fun v => v.category).sum ≤ W9) (hdg : decode c.code g.pc = .ok (.invokevirtual index, 3))
    (hpre : ∀ vm₁, s.WarmedH vm₁ → Pre ⟨T.setVm vm₁, locs, cells, slots⟩ (Value.ref b :: argsL).toArray) :
    ∃ (v : Option Value) (vm₁ : Vm) (B : Pt), s.WarmedH vm₁ ∧ Stand p l e R s m args below meth c B.U B.locs B.cells B.slots ∧ Post ⟨T.setVm vm₁, locs, cells, slots⟩ (Value.ref b :: argsL).toArray v B ∧
      ∀ target, Steps p.tables e below (B.U.setTop { g with pc := g.pc + 3, stack := v.toList ++ rest }) target → Steps p.tables e below (T.setTop g) target := by
  obtain ⟨mk, methM, hnamed, hmethM, hstM, habM⟩ := Cond.instanceMethod_spec hinst
  obtain ⟨m8, methM', cM, hn8, hmethM', -, -, -, -, -, -, hsigM⟩ := Cond.codeWith_spec hcode
  cases Option.some.inj (hn8.symm.trans hnamed)
  cases hmethM.symm.trans hmethM'
  obtain ⟨c2, r2, m2, q1, q2, q3, q4, kP, hkP, hkPi⟩ := Cond.selects_spec hsel
  cases hcls.symm.trans q1
  cases (State.methodFound?_of_named hnamed hy).symm.trans q2
  cases hnamed.symm.trans q3
  have hselP : selectMethod e.platform s.vm cellB.cls mk = .method mk := by rw [Launch.admits_selectMethod X.admits]; exact q4
  obtain ⟨vm₁, X₁, hstep₁⟩ := X.invokevirtual hexec hown hlink hnamed hmethM hstM hkP hkPi hy (a := b) (cell := cellB) hcell
    (fun z h => by rw [h] at hobj; cases hobj) hselP hmethM habM hkP hkPi (g := g) hg (argsL := argsL) (rest := rest) (hlen _ hsigM) hstack hdg
  obtain ⟨v, B, X', hpost, hsteps⟩ := hK m meth c ⟨T.setVm vm₁, locs, cells, slots⟩ { g with stack := rest } (.invokevirtual index) mk (Value.ref b :: argsL).toArray X₁ hg hsize hdg hW (X₁.named hnamed) (hpre vm₁ X₁.warmed)
  exact ⟨v, vm₁, B, X₁.warmed, X', hpost, fun target h => hstep₁ _ fun acts => by rw [doInvoke_state]; exact hsteps.trans h⟩
abbrev vx_CVW (R : Room) (s : State) (args : Array Value) (own C : String) (index : Nat) (y : MethodName) (bytes : ByteArray) (maxL : Nat) (ret : Option FieldType) (hh : List (Nat × Nat × Nat × Nat)) (ws : List Cond) (rm : Room) (mc ms n : Nat) : Prop :=
  (rm.cells = mc ∧ rm.slots = ms ∧ rm.frames + 1 ≤ R.frames ∧ 8 + (maxL + 11) + rm.locals ≤ R.locals ∧ (∀ w ∈ ws, ∀ (a' : Array Value) (U : State), s.WarmedH U.vm → w.before a' U = true) ∧ Cond.codeWith y bytes maxL ret hh ∈ ws) ∧
  (Cond.codeWith y bytes maxL ret hh).before args s = true ∧ (Cond.initialized y.cls).before args s = true ∧ (y.cls ≠ "java/lang/invoke/MethodHandle" ∧ y.cls ≠ "java/lang/invoke/VarHandle") ∧
  (∀ sig, parseMethodDescriptor y.desc = some sig → n = sig.parameters.length) ∧ (Cond.methodLink own index y).before args s = true ∧ (Cond.instanceMethod y).before args s = true ∧ (Cond.selects C y y).before args s = true
theorem vx_cwVW {own C : String} {index maxL mc ms : Nat} {y : MethodName} {bytes : ByteArray} {ret : Option FieldType} {hh : List (Nat × Nat × Nat × Nat)} {Ts ws ws' : List Cond} {rm : Room} (n : Nat) (ht : ∀ w ∈ Ts, w.before args s = true) (hT : GoodIn Ts (wsV own index C y ws)) (hw : ws = Cond.codeWith y bytes maxL ret hh :: ws') (hrc : rm.cells = mc) (hrs : rm.slots = ms)
    (hd : y.cls = C ∧ y.cls ≠ "java/lang/invoke/MethodHandle" ∧ y.cls ≠ "java/lang/invoke/VarHandle" ∧ (parseMethodDescriptor y.desc).map (fun d => d.parameters.length) = some n) (hR : rm.frames + 1 ≤ R.frames ∧ 8 + (maxL + 11) + rm.locals ≤ R.locals) :
    vx_CVW R s args own C index y bytes maxL ret hh ws rm mc ms n := by
  obtain ⟨hC, hd⟩ := hd
  subst hC
  have ok : ∀ w ∈ wsV own index y.cls y ws, w.before args s = true := fun w h => ht w (hT w h).1
  have hG : GoodIn Ts ws := fun w h => hT w (by unfold wsV; exact List.mem_append_right _ h)
  have hc : Cond.codeWith y bytes maxL ret hh ∈ ws := by rw [hw]; exact List.mem_cons_self
  refine ⟨⟨hrc, hrs, hR.1, hR.2, pay_in ht hG, hc⟩, ht _ (hG _ hc).1, ok _ (by simp [wsV]), ⟨hd.1, hd.2.1⟩, fun sig h => ?_, ok _ (by simp [wsV]), ok _ (by simp [wsV]), ok _ (by simp [wsV])⟩
  have h2 := hd.2.2
  rw [h] at h2
  exact (Option.some.inj h2).symm
theorem vx_runVW {y : MethodName} {bytes cc : ByteArray} {maxL nL mc ms n index : Nat} {ret : Option FieldType} {hh : List (Nat × Nat × Nat × Nat)} {ws : List Cond} {rm : Room} {Pc : Array Value → State → Prop} {Qc : Array Value → State → Outcome → State → Prop} {free : Addr → Prop} {Ts : List Cond} {own C : String} {b : Addr} {As rest : List Value} {g : JFrame}
    (S : CallFix p m c cc nL s args Ts own) (hM : Met l y ws rm Pc Qc mc ms free) (cw : vx_CVW R s args own C index y bytes maxL ret hh ws rm mc ms n) (hp : PreV s H C b Pc As)
    (hg : g.method = m) (hn : As.length = n) (hsize : g.locals.size = nL) (hstack : g.stack = As.reverse ++ .ref b :: rest) (hW : 2 * g.monitorRoom + (rest.map fun v => v.category).sum ≤ 8) (hdg : decode cc g.pc = .ok (.invokevirtual index, 3)) (hf : cells + mc ≤ R.cells ∧ slots + ms ≤ R.slots) :
    va_Run p l e R s m args below meth c H locs cells slots mc ms g rest (Qc (Value.ref b :: As).toArray) free := by
  obtain ⟨⟨hrc, hrs, hfr, hlo, hws, hcw⟩, hcode, hini, hy, hlen, hl, hin, hse⟩ := cw
  have hK : Back l R p e below s args y 3 8 (PreOf R mc ms Pc) (PostOf Qc mc ms free) := va_backW (hh := hh) (bytes := bytes) (maxL := maxL) (ret := ret) hM hp.1 hrc hrs hfr hlo hws hcw (fun a' U hW => word_at hW (Or.inl (by first | rfl | simp [Cond.onTables, Cond.keeps, Cond.steady])) hini)
  obtain ⟨hx, hb, hml, ho, -⟩ := S
  obtain ⟨-, ⟨cellB, hcB, hoB, hclB⟩, hPc⟩ := hp
  intro T hT X
  obtain ⟨v, vm₁, ⟨U', l2, c2, s2⟩, hW₁, X', ⟨g', mk, t, L, e1, e2, hq, h1, hL, h2, h3⟩, st⟩ := vx_callVW X hx (C := C) (hh := hh) (bytes := bytes) (maxL := maxL) (ret := ret) ho hl hin hse hcode hy hK (by rw [hT]; exact hcB) hoB hclB hg (hsize.trans hml.symm) (argsL := As) (rest := rest) (fun sig h => hn.trans (hlen sig h)) hstack hW (by rw [hb]; exact hdg)
    (fun vm₁ hW₁ => ⟨hf.1, hf.2, hPc (T.setVm vm₁) hT hW₁⟩)
  dsimp only [Pt.U, Pt.locs, Pt.cells, Pt.slots] at X' e1 e2 h1 h2 h3 st
  subst h1; subst h2; subst h3
  exact ⟨v, (T.setVm vm₁).calling g' mk (Value.ref b :: As).toArray, t, U', L, hT, X', hL, e1, e2, hq, st⟩
section
variable {y : MethodName} {bytes cc : ByteArray} {maxL nL mc ms n index : Nat} {ret : Option FieldType} {ws : List Cond} {rm : Room} {Pc : Array Value → State → Prop} {Qc : Array Value → State → Outcome → State → Prop} {XC : String → State → State → Prop} {free : Addr → Prop} {Ts : List Cond} {own C : String} {b : Addr} {As rest : List Value} {g : JFrame}
theorem vx_runVX {hh : List (Nat × Nat × Nat × Nat)} (S : CallFix p m c cc nL s args Ts own) (hM : vx_Met l y ws rm Pc Qc XC mc ms free) (cw : vx_CVW R s args own C index y bytes maxL ret hh ws rm mc ms n) (hp : PreV s H C b Pc As)
    (hg : g.method = m) (hn : As.length = n) (hsize : g.locals.size = nL) (hstack : g.stack = As.reverse ++ .ref b :: rest) (hW : 2 * g.monitorRoom + (rest.map fun v => v.category).sum ≤ 8) (hdg : decode cc g.pc = .ok (.invokevirtual index, 3)) (hf : cells + mc ≤ R.cells ∧ slots + ms ≤ R.slots) :
    vx_Run p l e R s m args below meth c H locs cells slots mc ms g rest (Qc (Value.ref b :: As).toArray) XC free := by
  obtain ⟨⟨hrc, hrs, hfr, hlo, hws, hcw⟩, hcode, hini, hy, hlen, hl, hin, hse⟩ := cw
  have hK : vx_Back l R p e below s args y 3 8 (PreOf R mc ms Pc) (PostOf Qc mc ms free) (vx_Post XC mc ms free) := vx_backW (hh := hh) (bytes := bytes) (maxL := maxL) (ret := ret) hM hp.1 hrc hrs hfr hlo hws hcw (fun a' U hW => word_at hW (Or.inl (by first | rfl | simp [Cond.onTables, Cond.keeps, Cond.steady])) hini)
  obtain ⟨hx, hb, hml, ho, -⟩ := S
  obtain ⟨-, ⟨cellB, hcB, hoB, hclB⟩, hPc⟩ := hp
  intro T hT X
  rcases vx_callVX X hx (C := C) (hh := hh) (bytes := bytes) (maxL := maxL) (ret := ret) ho hl hin hse hcode hy hK (by rw [hT]; exact hcB) hoB hclB hg (hsize.trans hml.symm) (argsL := As) (rest := rest) (fun sig h => hn.trans (hlen sig h)) hstack hW (by rw [hb]; exact hdg)
    (fun vm₁ hW₁ => ⟨hf.1, hf.2, hPc (T.setVm vm₁) hT hW₁⟩) with ⟨v, vm₁, ⟨U', l2, c2, s2⟩, hW₁, X', ⟨g', mk, t, L, e1, e2, hq, h1, hL, h2, h3⟩, st⟩ | ⟨q, vm₁, ⟨U', l2, c2, s2⟩, hW₁, X', ⟨g', mk, t, L, E, ce, e1, e2, hq, hce, hcv, hcl, h1, hL, h2, h3⟩, st⟩
  · dsimp only [Pt.U, Pt.locs, Pt.cells, Pt.slots] at X' e1 e2 h1 h2 h3 st
    subst h1; subst h2; subst h3
    exact Or.inl ⟨v, (T.setVm vm₁).calling g' mk (Value.ref b :: As).toArray, t, U', L, hT, X', hL, e1, e2, hq, st⟩
  · dsimp only [Pt.U, Pt.locs, Pt.cells, Pt.slots] at X' e1 e2 h1 h2 h3 st hcl
    subst h1; subst h2; subst h3
    exact Or.inr ⟨q, (T.setVm vm₁).calling g' mk (Value.ref b :: As).toArray, t, U', L, E, ce, hT, X', hL, e1, e2, hq, hce, hcv, vx_cls hW₁ hcl, st⟩
theorem vx_runSX {hh : List (Nat × Nat × Nat × Nat)} (S : CallFix p m c cc nL s args Ts own) (hM : vx_Met l y ws rm Pc Qc XC mc ms free) (cw : vx_CSW R s args own index y bytes maxL ret hh ws rm mc ms n) (hp : PreS s H Pc As)
    (hg : g.method = m) (hn : As.length = n) (hsize : g.locals.size = nL) (hstack : g.stack = As.reverse ++ rest) (hW : 2 * g.monitorRoom + (rest.map fun v => v.category).sum ≤ 8) (hdg : decode cc g.pc = .ok (.invokestatic index, 3)) (hf : cells + mc ≤ R.cells ∧ slots + ms ≤ R.slots) :
    vx_Run p l e R s m args below meth c H locs cells slots mc ms g rest (Qc As.toArray) XC free := by
  obtain ⟨⟨hrc, hrs, hfr, hlo, hws, hcw⟩, hcode, hini, hy, hlen, hl, hstt⟩ := cw
  have hK : vx_Back l R p e below s args y 3 8 (PreOf R mc ms Pc) (PostOf Qc mc ms free) (vx_Post XC mc ms free) := vx_backW (hh := hh) (bytes := bytes) (maxL := maxL) (ret := ret) hM hp.1 hrc hrs hfr hlo hws hcw (fun a' U hW => word_at hW (Or.inl (by first | rfl | simp [Cond.onTables, Cond.keeps, Cond.steady])) hini)
  obtain ⟨hx, hb, hml, ho, -⟩ := S
  intro T hT X
  rcases vx_callSX X hx (hh := hh) (bytes := bytes) (maxL := maxL) (ret := ret) ho hl hstt hini hcode hy hK hg (hsize.trans hml.symm) (argsL := As) (rest := rest) (fun sig h => hn.trans (hlen sig h)) hstack hW (by rw [hb]; exact hdg)
    (fun vm₁ hW₁ => ⟨hf.1, hf.2, hp.2 (T.setVm vm₁) hT hW₁⟩) with ⟨v, vm₁, ⟨U', l2, c2, s2⟩, hW₁, X', ⟨g', mk, t, L, e1, e2, hq, h1, hL, h2, h3⟩, st⟩ | ⟨q, vm₁, ⟨U', l2, c2, s2⟩, hW₁, X', ⟨g', mk, t, L, E, ce, e1, e2, hq, hce, hcv, hcl, h1, hL, h2, h3⟩, st⟩
  · dsimp only [Pt.U, Pt.locs, Pt.cells, Pt.slots] at X' e1 e2 h1 h2 h3 st
    subst h1; subst h2; subst h3
    exact Or.inl ⟨v, (T.setVm vm₁).calling g' mk As.toArray, t, U', L, hT, X', hL, e1, e2, hq, st⟩
  · dsimp only [Pt.U, Pt.locs, Pt.cells, Pt.slots] at X' e1 e2 h1 h2 h3 st hcl
    subst h1; subst h2; subst h3
    exact Or.inr ⟨q, (T.setVm vm₁).calling g' mk As.toArray, t, U', L, E, ce, hT, X', hL, e1, e2, hq, hce, hcv, vx_cls hW₁ hcl, st⟩
end
end VXH
theorem vx_ofWH {l : Launch} {y : MethodName} {ws ws' : List Cond} {rm : Room} {Pc : Array Value → State → Prop} {Qc : Array Value → State → Outcome → State → Prop} {XC : String → State → State → Prop} {mc ms : Nat} {free : Addr → Prop} {cc : ByteArray} {maxL : Nat} {ret : Option FieldType} {hh : List (Nat × Nat × Nat × Nat)}
    (hy : plainName y.cls = true) (hw : ws = Cond.codeWith y cc maxL ret hh :: ws')
    (body : ∀ p e s m args below meth c s₁, BodyLoose p l y (headSpec ws rm) cc maxL ret e s m args below meth c s₁ → c.maxLocals = maxL → Pc args s →
      W p l e (headSpec ws rm).room s m args below meth c s.heap [] 0 0 (vx_MQ below Qc XC args s mc ms free) (entryFrame m args maxL)) : vx_Met l y ws rm Pc Qc XC mc ms free := by
  refine MetFree.of_bodyS (code := cc) (maxLocals := maxL) (ret := ret) hy ?_ ?_
  · intro args s m h hn
    obtain ⟨m9, meth, c, hn9, h1, h2, h3, h4, -, h5, h6, -⟩ := Cond.codeWith_spec (atoms_spec (ws := ws) h _ (by rw [hw]; exact List.mem_cons_self))
    cases hn.symm.trans hn9
    exact ⟨meth, c, h1, h2, h3, h4, h5, h6⟩
  · intro p e s m args below meth c s₁ B hml hP _
    have hh0 : s₁.heap = s.heap := by rw [B.state]; rfl
    obtain ⟨t, a1, o, b1, b2, b3⟩ := body p e s m args below meth c s₁ B hml hP s₁ hh0 (Stand.of_body B)
    exact ⟨t, o, a1, b1, b2, b3⟩
/-! ===== END ===== -/

/-! ===== BEGIN printed: names, fields, word lists, decode rows ===== -/
end
section
/-! names -/
abbrev RT : String := "StyleSheet$Table"
def TT : u_T := fun k => match k with
  | 0 => ("StyleSheet$Table", "there", "[Z", true)
  | _ => ("StyleSheet$Table", "values", "[[I", true)
def tyT : Nat → FieldType := fun k => match k with
  | 0 => .array .boolean
  | _ => .array (.array .int)
theorem nnT : ∀ a, a < 2 → ∀ b, b < 2 → a ≠ b → (TT a).2.1 ≠ (TT b).2.1 := by decide +kernel
theorem ttT : ∀ k, k < 2 → parseFieldDescriptor (TT k).2.2.1 = some (tyT k) := by decide +kernel
theorem inT : ∀ w ∈ u_ws RT TT 2, w ∈ wG := by decide +kernel
abbrev RS : String := "StyleSheet"
def TS : u_T := fun k => match k with
  | 0 => ("StyleSheet", "styles", "LStyleSheet$Table;", true)
  | 1 => ("StyleSheet", "kinds", "[I", true)
  | 2 => ("StyleSheet", "bases", "[I", true)
  | 3 => ("StyleSheet", "usuals", "[I", true)
  | 4 => ("StyleSheet", "sets", "LStyleSheet$Table;", true)
  | 5 => ("StyleSheet", "marked", "[Z", true)
  | _ => ("StyleSheet", "draft", "[I", true)
def tyS : Nat → FieldType := fun k => match k with
  | 0 => .object "StyleSheet$Table"
  | 1 => .array .int
  | 2 => .array .int
  | 3 => .array .int
  | 4 => .object "StyleSheet$Table"
  | 5 => .array .boolean
  | _ => .array .int
theorem nnS : ∀ a, a < 7 → ∀ b, b < 7 → a ≠ b → (TS a).2.1 ≠ (TS b).2.1 := by decide +kernel
theorem ttS : ∀ k, k < 7 → parseFieldDescriptor (TS k).2.2.1 = some (tyS k) := by decide +kernel
theorem inS : ∀ w ∈ u_ws RS TS 7, w ∈ wG := by decide +kernel
abbrev RM : String := "StyleSheetModel"
def TM : u_T := fun k => match k with
  | 0 => ("StyleSheetModel", "code", "I", false)
  | 1 => ("StyleSheetModel", "kind", "[I", true)
  | 2 => ("StyleSheetModel", "base", "[I", true)
  | 3 => ("StyleSheetModel", "own", "[I", true)
  | 4 => ("StyleSheetModel", "usual", "[I", true)
  | 5 => ("StyleSheetModel", "there", "[Z", true)
  | 6 => ("StyleSheetModel", "marked", "[Z", true)
  | 7 => ("StyleSheetModel", "values", "[I", true)
  | _ => ("StyleSheetModel", "wanted", "[I", true)
def tyM : Nat → FieldType := fun k => match k with
  | 0 => .int
  | 1 => .array .int
  | 2 => .array .int
  | 3 => .array .int
  | 4 => .array .int
  | 5 => .array .boolean
  | 6 => .array .boolean
  | 7 => .array .int
  | _ => .array .int
theorem nnM : ∀ a, a < 9 → ∀ b, b < 9 → a ≠ b → (TM a).2.1 ≠ (TM b).2.1 := by decide +kernel
theorem ttM : ∀ k, k < 9 → parseFieldDescriptor (TM k).2.2.1 = some (tyM k) := by decide +kernel
theorem inM : ∀ w ∈ u_ws RM TM 9, w ∈ wG := by decide +kernel
abbrev RL : String := "StyleSheetLaw"
abbrev vwCl : List vw_C := [(RT, TT, 2), (RS, TS, 7), (RM, TM, 9)]
abbrev ciTb : Nat := 0
abbrev ciSS : Nat := 1
abbrev ciMo : Nat := 2
abbrev Sts : List (String × Nat × String) := [("StyleSheet", 43, "no such kind"), ("StyleSheet", 137, "no such style of this kind"), ("StyleSheet", 58, "no number left for a style"), ("StyleSheet", 132, "no such style"), ("StyleSheet", 139, "no such property"), ("StyleSheet", 144, "no such value of this property"), ("StyleSheet", 102, "nothing such is told of a style"), ("StyleSheet", 135, "no such set"), ("StyleSheet", 156, "no number left for a set")]
abbrev b_T_init : ByteArray := prog_2_method_1_code
abbrev y_T_init : MethodName := ⟨"StyleSheet$Table", "<init>", "(I)V"⟩
abbrev b_T_has : ByteArray := prog_2_method_2_code
abbrev y_T_has : MethodName := ⟨"StyleSheet$Table", "has", "(I)Z"⟩
abbrev b_T_leastFree : ByteArray := prog_2_method_3_code
abbrev y_T_leastFree : MethodName := ⟨"StyleSheet$Table", "leastFree", "()I"⟩
abbrev b_T_add : ByteArray := prog_2_method_4_code
abbrev y_T_add : MethodName := ⟨"StyleSheet$Table", "add", "(I)V"⟩
abbrev b_T_remove : ByteArray := prog_2_method_5_code
abbrev y_T_remove : MethodName := ⟨"StyleSheet$Table", "remove", "(I)V"⟩
abbrev b_T_howMany : ByteArray := prog_2_method_6_code
abbrev y_T_howMany : MethodName := ⟨"StyleSheet$Table", "howMany", "()I"⟩
abbrev b_T_valuesIn : ByteArray := prog_2_method_7_code
abbrev y_T_valuesIn : MethodName := ⟨"StyleSheet$Table", "valuesIn", "(I)I"⟩
abbrev b_T_valuesInAll : ByteArray := prog_2_method_8_code
abbrev y_T_valuesInAll : MethodName := ⟨"StyleSheet$Table", "valuesInAll", "()I"⟩
abbrev b_T_numberOf : ByteArray := prog_2_method_9_code
abbrev y_T_numberOf : MethodName := ⟨"StyleSheet$Table", "numberOf", "([I)I"⟩
abbrev b_T_isAlike : ByteArray := prog_2_method_10_code
abbrev y_T_isAlike : MethodName := ⟨"StyleSheet$Table", "isAlike", "([I[I)Z"⟩
abbrev b_S_init : ByteArray := prog_1_method_1_code
abbrev y_S_init : MethodName := ⟨"StyleSheet", "<init>", "()V"⟩
abbrev b_S_make : ByteArray := prog_1_method_2_code
abbrev y_S_make : MethodName := ⟨"StyleSheet", "make", "(II)I"⟩
abbrev b_S_drop : ByteArray := prog_1_method_3_code
abbrev y_S_drop : MethodName := ⟨"StyleSheet", "drop", "(I)I"⟩
abbrev b_S_rebase : ByteArray := prog_1_method_4_code
abbrev y_S_rebase : MethodName := ⟨"StyleSheet", "rebase", "(II)Z"⟩
abbrev b_S_own : ByteArray := prog_1_method_5_code
abbrev y_S_own : MethodName := ⟨"StyleSheet", "own", "(III)V"⟩
abbrev b_S_value : ByteArray := prog_1_method_6_code
abbrev y_S_value : MethodName := ⟨"StyleSheet", "value", "(II)I"⟩
abbrev b_S_giver : ByteArray := prog_1_method_7_code
abbrev y_S_giver : MethodName := ⟨"StyleSheet", "giver", "(II)I"⟩
abbrev b_S_style : ByteArray := prog_1_method_8_code
abbrev y_S_style : MethodName := ⟨"StyleSheet", "style", "(II)I"⟩
abbrev b_S_usual : ByteArray := prog_1_method_9_code
abbrev y_S_usual : MethodName := ⟨"StyleSheet", "usual", "(II)V"⟩
abbrev b_S_with : ByteArray := prog_1_method_10_code
abbrev y_S_with : MethodName := ⟨"StyleSheet", "with", "(III)I"⟩
abbrev b_S_over : ByteArray := prog_1_method_11_code
abbrev y_S_over : MethodName := ⟨"StyleSheet", "over", "(II)I"⟩
abbrev b_S_lean : ByteArray := prog_1_method_12_code
abbrev y_S_lean : MethodName := ⟨"StyleSheet", "lean", "(III)I"⟩
abbrev b_S_get : ByteArray := prog_1_method_13_code
abbrev y_S_get : MethodName := ⟨"StyleSheet", "get", "(II)I"⟩
abbrev b_S_size : ByteArray := prog_1_method_14_code
abbrev y_S_size : MethodName := ⟨"StyleSheet", "size", "(I)I"⟩
abbrev b_S_resolve : ByteArray := prog_1_method_15_code
abbrev y_S_resolve : MethodName := ⟨"StyleSheet", "resolve", "(IIII)I"⟩
abbrev b_S_differ : ByteArray := prog_1_method_16_code
abbrev y_S_differ : MethodName := ⟨"StyleSheet", "differ", "(IIII)I"⟩
abbrev b_S_mark : ByteArray := prog_1_method_17_code
abbrev y_S_mark : MethodName := ⟨"StyleSheet", "mark", "(I)I"⟩
abbrev b_S_sweep : ByteArray := prog_1_method_18_code
abbrev y_S_sweep : MethodName := ⟨"StyleSheet", "sweep", "()I"⟩
abbrev b_S_count : ByteArray := prog_1_method_19_code
abbrev y_S_count : MethodName := ⟨"StyleSheet", "count", "(I)I"⟩
abbrev b_S_requireStyle : ByteArray := prog_1_method_20_code
abbrev y_S_requireStyle : MethodName := ⟨"StyleSheet", "requireStyle", "(I)V"⟩
abbrev b_S_requireSet : ByteArray := prog_1_method_21_code
abbrev y_S_requireSet : MethodName := ⟨"StyleSheet", "requireSet", "(I)V"⟩
abbrev b_S_requireNoneOrOfKind : ByteArray := prog_1_method_22_code
abbrev y_S_requireNoneOrOfKind : MethodName := ⟨"StyleSheet", "requireNoneOrOfKind", "(II)V"⟩
abbrev b_S_requireProperty : ByteArray := prog_1_method_23_code
abbrev y_S_requireProperty : MethodName := ⟨"StyleSheet", "requireProperty", "(I)V"⟩
abbrev b_S_requireNoneOrValue : ByteArray := prog_1_method_24_code
abbrev y_S_requireNoneOrValue : MethodName := ⟨"StyleSheet", "requireNoneOrValue", "(II)V"⟩
abbrev b_S_requireValue : ByteArray := prog_1_method_25_code
abbrev y_S_requireValue : MethodName := ⟨"StyleSheet", "requireValue", "(II)V"⟩
abbrev b_S_greatest : ByteArray := prog_1_method_26_code
abbrev y_S_greatest : MethodName := ⟨"StyleSheet", "greatest", "(I)I"⟩
abbrev b_S_giverOnChain : ByteArray := prog_1_method_27_code
abbrev y_S_giverOnChain : MethodName := ⟨"StyleSheet", "giverOnChain", "(II)I"⟩
abbrev b_S_chainLength : ByteArray := prog_1_method_28_code
abbrev y_S_chainLength : MethodName := ⟨"StyleSheet", "chainLength", "(I)I"⟩
abbrev b_S_isOnChain : ByteArray := prog_1_method_29_code
abbrev y_S_isOnChain : MethodName := ⟨"StyleSheet", "isOnChain", "(II)Z"⟩
abbrev b_S_othersBuiltOn : ByteArray := prog_1_method_30_code
abbrev y_S_othersBuiltOn : MethodName := ⟨"StyleSheet", "othersBuiltOn", "(I)I"⟩
abbrev b_S_longestChain : ByteArray := prog_1_method_31_code
abbrev y_S_longestChain : MethodName := ⟨"StyleSheet", "longestChain", "()I"⟩
abbrev b_S_valueByChain : ByteArray := prog_1_method_32_code
abbrev y_S_valueByChain : MethodName := ⟨"StyleSheet", "valueByChain", "(II)I"⟩
abbrev b_S_resolved : ByteArray := prog_1_method_33_code
abbrev y_S_resolved : MethodName := ⟨"StyleSheet", "resolved", "(IIII)I"⟩
abbrev b_S_resolvedByStyles : ByteArray := prog_1_method_34_code
abbrev y_S_resolvedByStyles : MethodName := ⟨"StyleSheet", "resolvedByStyles", "(III)I"⟩
abbrev b_S_numberOfDraft : ByteArray := prog_1_method_35_code
abbrev y_S_numberOfDraft : MethodName := ⟨"StyleSheet", "numberOfDraft", "()I"⟩
abbrev b_M_init : ByteArray := prog_4_method_1_code
abbrev y_M_init : MethodName := ⟨"StyleSheetModel", "<init>", "()V"⟩
abbrev b_M_thrown : ByteArray := prog_4_method_2_code
abbrev y_M_thrown : MethodName := ⟨"StyleSheetModel", "thrown", "()I"⟩
abbrev b_M_in : ByteArray := prog_4_method_3_code
abbrev y_M_in : MethodName := ⟨"StyleSheetModel", "in", "(III)Z"⟩
abbrev b_M_isStyle : ByteArray := prog_4_method_4_code
abbrev y_M_isStyle : MethodName := ⟨"StyleSheetModel", "isStyle", "(I)Z"⟩
abbrev b_M_isOf : ByteArray := prog_4_method_5_code
abbrev y_M_isOf : MethodName := ⟨"StyleSheetModel", "isOf", "(II)Z"⟩
abbrev b_M_isSet : ByteArray := prog_4_method_6_code
abbrev y_M_isSet : MethodName := ⟨"StyleSheetModel", "isSet", "(I)Z"⟩
abbrev b_M_isProperty : ByteArray := prog_4_method_7_code
abbrev y_M_isProperty : MethodName := ⟨"StyleSheetModel", "isProperty", "(I)Z"⟩
abbrev b_M_isValue : ByteArray := prog_4_method_8_code
abbrev y_M_isValue : MethodName := ⟨"StyleSheetModel", "isValue", "(III)Z"⟩
abbrev b_M_make : ByteArray := prog_4_method_9_code
abbrev y_M_make : MethodName := ⟨"StyleSheetModel", "make", "(II)I"⟩
abbrev b_M_drop : ByteArray := prog_4_method_10_code
abbrev y_M_drop : MethodName := ⟨"StyleSheetModel", "drop", "(I)I"⟩
abbrev b_M_comes : ByteArray := prog_4_method_11_code
abbrev y_M_comes : MethodName := ⟨"StyleSheetModel", "comes", "(II)Z"⟩
abbrev b_M_rebase : ByteArray := prog_4_method_12_code
abbrev y_M_rebase : MethodName := ⟨"StyleSheetModel", "rebase", "(II)Z"⟩
abbrev b_M_own : ByteArray := prog_4_method_13_code
abbrev y_M_own : MethodName := ⟨"StyleSheetModel", "own", "(III)V"⟩
abbrev b_M_first : ByteArray := prog_4_method_14_code
abbrev y_M_first : MethodName := ⟨"StyleSheetModel", "first", "(II)I"⟩
abbrev b_M_valueOf : ByteArray := prog_4_method_15_code
abbrev y_M_valueOf : MethodName := ⟨"StyleSheetModel", "valueOf", "(II)I"⟩
abbrev b_M_value : ByteArray := prog_4_method_16_code
abbrev y_M_value : MethodName := ⟨"StyleSheetModel", "value", "(II)I"⟩
abbrev b_M_giver : ByteArray := prog_4_method_17_code
abbrev y_M_giver : MethodName := ⟨"StyleSheetModel", "giver", "(II)I"⟩
abbrev b_M_chain : ByteArray := prog_4_method_18_code
abbrev y_M_chain : MethodName := ⟨"StyleSheetModel", "chain", "(I)I"⟩
abbrev b_M_owned : ByteArray := prog_4_method_19_code
abbrev y_M_owned : MethodName := ⟨"StyleSheetModel", "owned", "(I)I"⟩
abbrev b_M_style : ByteArray := prog_4_method_20_code
abbrev y_M_style : MethodName := ⟨"StyleSheetModel", "style", "(II)I"⟩
abbrev b_M_usual : ByteArray := prog_4_method_21_code
abbrev y_M_usual : MethodName := ⟨"StyleSheetModel", "usual", "(II)V"⟩
abbrev b_M_want : ByteArray := prog_4_method_22_code
abbrev y_M_want : MethodName := ⟨"StyleSheetModel", "want", "(I)V"⟩
abbrev b_M_isWanted : ByteArray := prog_4_method_23_code
abbrev y_M_isWanted : MethodName := ⟨"StyleSheetModel", "isWanted", "(I)Z"⟩
abbrev b_M_found : ByteArray := prog_4_method_24_code
abbrev y_M_found : MethodName := ⟨"StyleSheetModel", "found", "(I)I"⟩
abbrev b_M_with : ByteArray := prog_4_method_25_code
abbrev y_M_with : MethodName := ⟨"StyleSheetModel", "with", "(III)I"⟩
abbrev b_M_over : ByteArray := prog_4_method_26_code
abbrev y_M_over : MethodName := ⟨"StyleSheetModel", "over", "(II)I"⟩
abbrev b_M_beneath : ByteArray := prog_4_method_27_code
abbrev y_M_beneath : MethodName := ⟨"StyleSheetModel", "beneath", "(III)I"⟩
abbrev b_M_areStyles : ByteArray := prog_4_method_28_code
abbrev y_M_areStyles : MethodName := ⟨"StyleSheetModel", "areStyles", "(II)Z"⟩
abbrev b_M_lean : ByteArray := prog_4_method_29_code
abbrev y_M_lean : MethodName := ⟨"StyleSheetModel", "lean", "(III)I"⟩
abbrev b_M_get : ByteArray := prog_4_method_30_code
abbrev y_M_get : MethodName := ⟨"StyleSheetModel", "get", "(II)I"⟩
abbrev b_M_sized : ByteArray := prog_4_method_31_code
abbrev y_M_sized : MethodName := ⟨"StyleSheetModel", "sized", "(I)I"⟩
abbrev b_M_size : ByteArray := prog_4_method_32_code
abbrev y_M_size : MethodName := ⟨"StyleSheetModel", "size", "(I)I"⟩
abbrev b_M_resolved : ByteArray := prog_4_method_33_code
abbrev y_M_resolved : MethodName := ⟨"StyleSheetModel", "resolved", "(IIII)I"⟩
abbrev b_M_resolve : ByteArray := prog_4_method_34_code
abbrev y_M_resolve : MethodName := ⟨"StyleSheetModel", "resolve", "(IIII)I"⟩
abbrev b_M_differ : ByteArray := prog_4_method_35_code
abbrev y_M_differ : MethodName := ⟨"StyleSheetModel", "differ", "(IIII)I"⟩
abbrev b_M_mark : ByteArray := prog_4_method_36_code
abbrev y_M_mark : MethodName := ⟨"StyleSheetModel", "mark", "(I)I"⟩
abbrev b_M_sweep : ByteArray := prog_4_method_37_code
abbrev y_M_sweep : MethodName := ⟨"StyleSheetModel", "sweep", "()I"⟩
abbrev b_M_count : ByteArray := prog_4_method_38_code
abbrev y_M_count : MethodName := ⟨"StyleSheetModel", "count", "(I)I"⟩
abbrev b_L_make : ByteArray := method_3_code
abbrev y_L_make : MethodName := ⟨"StyleSheetLaw", "make", "(LStyleSheet;II[J)I"⟩
abbrev b_L_drop : ByteArray := method_4_code
abbrev y_L_drop : MethodName := ⟨"StyleSheetLaw", "drop", "(LStyleSheet;I[J)I"⟩
abbrev b_L_rebase : ByteArray := method_5_code
abbrev y_L_rebase : MethodName := ⟨"StyleSheetLaw", "rebase", "(LStyleSheet;II[J)I"⟩
abbrev b_L_own : ByteArray := method_6_code
abbrev y_L_own : MethodName := ⟨"StyleSheetLaw", "own", "(LStyleSheet;III)I"⟩
abbrev b_L_value : ByteArray := method_7_code
abbrev y_L_value : MethodName := ⟨"StyleSheetLaw", "value", "(LStyleSheet;II[J)I"⟩
abbrev b_L_giver : ByteArray := method_8_code
abbrev y_L_giver : MethodName := ⟨"StyleSheetLaw", "giver", "(LStyleSheet;II[J)I"⟩
abbrev b_L_style : ByteArray := method_9_code
abbrev y_L_style : MethodName := ⟨"StyleSheetLaw", "style", "(LStyleSheet;II[J)I"⟩
abbrev b_L_usual : ByteArray := method_10_code
abbrev y_L_usual : MethodName := ⟨"StyleSheetLaw", "usual", "(LStyleSheet;II)I"⟩
abbrev b_L_with : ByteArray := method_11_code
abbrev y_L_with : MethodName := ⟨"StyleSheetLaw", "with", "(LStyleSheet;III[J)I"⟩
abbrev b_L_over : ByteArray := method_12_code
abbrev y_L_over : MethodName := ⟨"StyleSheetLaw", "over", "(LStyleSheet;II[J)I"⟩
abbrev b_L_lean : ByteArray := method_13_code
abbrev y_L_lean : MethodName := ⟨"StyleSheetLaw", "lean", "(LStyleSheet;III[J)I"⟩
abbrev b_L_get : ByteArray := method_14_code
abbrev y_L_get : MethodName := ⟨"StyleSheetLaw", "get", "(LStyleSheet;II[J)I"⟩
abbrev b_L_resolve : ByteArray := method_15_code
abbrev y_L_resolve : MethodName := ⟨"StyleSheetLaw", "resolve", "(LStyleSheet;IIII[J)I"⟩
abbrev b_L_differ : ByteArray := method_16_code
abbrev y_L_differ : MethodName := ⟨"StyleSheetLaw", "differ", "(LStyleSheet;IIII[J)I"⟩
abbrev b_L_mark : ByteArray := method_17_code
abbrev y_L_mark : MethodName := ⟨"StyleSheetLaw", "mark", "(LStyleSheet;I[J)I"⟩
abbrev b_L_law : ByteArray := code
abbrev y_L_law : MethodName := ⟨"StyleSheetLaw", "law", "([I)Z"⟩
abbrev b_J_fill : ByteArray := prog_13_method_103_code
abbrev y_J_fill : MethodName := ⟨"java/util/Arrays", "fill", "([II)V"⟩
end
section
/-! decode rows -/
theorem d_T_init_0 : decode b_T_init 0 = .ok (.aload_n 0, 1) := by decide +kernel
theorem d_T_init_1 : decode b_T_init 1 = .ok (.invokespecial 3, 3) := by decide +kernel
theorem d_T_init_4 : decode b_T_init 4 = .ok (.aload_n 0, 1) := by decide +kernel
theorem d_T_init_5 : decode b_T_init 5 = .ok (.iload_n 1, 1) := by decide +kernel
theorem d_T_init_6 : decode b_T_init 6 = .ok (.newarray .boolean, 2) := by decide +kernel
theorem d_T_init_8 : decode b_T_init 8 = .ok (.putfield 9, 3) := by decide +kernel
theorem d_T_init_11 : decode b_T_init 11 = .ok (.aload_n 0, 1) := by decide +kernel
theorem d_T_init_12 : decode b_T_init 12 = .ok (.iload_n 1, 1) := by decide +kernel
theorem d_T_init_13 : decode b_T_init 13 = .ok (.bipush 24, 2) := by decide +kernel
theorem d_T_init_15 : decode b_T_init 15 = .ok (.multianewarray 15 2, 4) := by decide +kernel
theorem d_T_init_19 : decode b_T_init 19 = .ok (.putfield 17, 3) := by decide +kernel
theorem d_T_init_22 : decode b_T_init 22 = .ok (.iconst 0, 1) := by decide +kernel
theorem d_T_init_23 : decode b_T_init 23 = .ok (.istore_n 2, 1) := by decide +kernel
theorem d_T_init_24 : decode b_T_init 24 = .ok (.iload_n 2, 1) := by decide +kernel
theorem d_T_init_25 : decode b_T_init 25 = .ok (.iload_n 1, 1) := by decide +kernel
theorem d_T_init_26 : decode b_T_init 26 = .ok (.if_icmp .ge 19, 3) := by decide +kernel
theorem d_T_init_29 : decode b_T_init 29 = .ok (.aload_n 0, 1) := by decide +kernel
theorem d_T_init_30 : decode b_T_init 30 = .ok (.getfield 17, 3) := by decide +kernel
theorem d_T_init_33 : decode b_T_init 33 = .ok (.iload_n 2, 1) := by decide +kernel
theorem d_T_init_34 : decode b_T_init 34 = .ok (.aaload, 1) := by decide +kernel
theorem d_T_init_35 : decode b_T_init 35 = .ok (.iconst (-1), 1) := by decide +kernel
theorem d_T_init_36 : decode b_T_init 36 = .ok (.invokestatic 20, 3) := by decide +kernel
theorem d_T_init_39 : decode b_T_init 39 = .ok (.iinc 2 1, 3) := by decide +kernel
theorem d_T_init_42 : decode b_T_init 42 = .ok (.goto (-18), 3) := by decide +kernel
theorem d_T_init_45 : decode b_T_init 45 = .ok (.return_, 1) := by decide +kernel
theorem d_T_has_0 : decode b_T_has 0 = .ok (.iload_n 1, 1) := by decide +kernel
theorem d_T_has_1 : decode b_T_has 1 = .ok (.ifCond .lt 25, 3) := by decide +kernel
theorem d_T_has_4 : decode b_T_has 4 = .ok (.iload_n 1, 1) := by decide +kernel
theorem d_T_has_5 : decode b_T_has 5 = .ok (.aload_n 0, 1) := by decide +kernel
theorem d_T_has_6 : decode b_T_has 6 = .ok (.getfield 9, 3) := by decide +kernel
theorem d_T_has_9 : decode b_T_has 9 = .ok (.arraylength, 1) := by decide +kernel
theorem d_T_has_10 : decode b_T_has 10 = .ok (.if_icmp .ge 16, 3) := by decide +kernel
theorem d_T_has_13 : decode b_T_has 13 = .ok (.aload_n 0, 1) := by decide +kernel
theorem d_T_has_14 : decode b_T_has 14 = .ok (.getfield 9, 3) := by decide +kernel
theorem d_T_has_17 : decode b_T_has 17 = .ok (.iload_n 1, 1) := by decide +kernel
theorem d_T_has_18 : decode b_T_has 18 = .ok (.baload, 1) := by decide +kernel
theorem d_T_has_19 : decode b_T_has 19 = .ok (.ifCond .eq 7, 3) := by decide +kernel
theorem d_T_has_22 : decode b_T_has 22 = .ok (.iconst 1, 1) := by decide +kernel
theorem d_T_has_23 : decode b_T_has 23 = .ok (.goto 4, 3) := by decide +kernel
theorem d_T_has_26 : decode b_T_has 26 = .ok (.iconst 0, 1) := by decide +kernel
theorem d_T_has_27 : decode b_T_has 27 = .ok (.ireturn, 1) := by decide +kernel
theorem d_T_leastFree_0 : decode b_T_leastFree 0 = .ok (.iconst 0, 1) := by decide +kernel
theorem d_T_leastFree_1 : decode b_T_leastFree 1 = .ok (.istore_n 1, 1) := by decide +kernel
theorem d_T_leastFree_2 : decode b_T_leastFree 2 = .ok (.iload_n 1, 1) := by decide +kernel
theorem d_T_leastFree_3 : decode b_T_leastFree 3 = .ok (.aload_n 0, 1) := by decide +kernel
theorem d_T_leastFree_4 : decode b_T_leastFree 4 = .ok (.getfield 9, 3) := by decide +kernel
theorem d_T_leastFree_7 : decode b_T_leastFree 7 = .ok (.arraylength, 1) := by decide +kernel
theorem d_T_leastFree_8 : decode b_T_leastFree 8 = .ok (.if_icmp .ge 20, 3) := by decide +kernel
theorem d_T_leastFree_11 : decode b_T_leastFree 11 = .ok (.aload_n 0, 1) := by decide +kernel
theorem d_T_leastFree_12 : decode b_T_leastFree 12 = .ok (.getfield 9, 3) := by decide +kernel
theorem d_T_leastFree_15 : decode b_T_leastFree 15 = .ok (.iload_n 1, 1) := by decide +kernel
theorem d_T_leastFree_16 : decode b_T_leastFree 16 = .ok (.baload, 1) := by decide +kernel
theorem d_T_leastFree_17 : decode b_T_leastFree 17 = .ok (.ifCond .ne 5, 3) := by decide +kernel
theorem d_T_leastFree_20 : decode b_T_leastFree 20 = .ok (.iload_n 1, 1) := by decide +kernel
theorem d_T_leastFree_21 : decode b_T_leastFree 21 = .ok (.ireturn, 1) := by decide +kernel
theorem d_T_leastFree_22 : decode b_T_leastFree 22 = .ok (.iinc 1 1, 3) := by decide +kernel
theorem d_T_leastFree_25 : decode b_T_leastFree 25 = .ok (.goto (-23), 3) := by decide +kernel
theorem d_T_leastFree_28 : decode b_T_leastFree 28 = .ok (.iconst (-1), 1) := by decide +kernel
theorem d_T_leastFree_29 : decode b_T_leastFree 29 = .ok (.ireturn, 1) := by decide +kernel
theorem d_T_add_0 : decode b_T_add 0 = .ok (.aload_n 0, 1) := by decide +kernel
theorem d_T_add_1 : decode b_T_add 1 = .ok (.getfield 9, 3) := by decide +kernel
theorem d_T_add_4 : decode b_T_add 4 = .ok (.iload_n 1, 1) := by decide +kernel
theorem d_T_add_5 : decode b_T_add 5 = .ok (.iconst 1, 1) := by decide +kernel
theorem d_T_add_6 : decode b_T_add 6 = .ok (.bastore, 1) := by decide +kernel
theorem d_T_add_7 : decode b_T_add 7 = .ok (.return_, 1) := by decide +kernel
theorem d_T_remove_0 : decode b_T_remove 0 = .ok (.aload_n 0, 1) := by decide +kernel
theorem d_T_remove_1 : decode b_T_remove 1 = .ok (.getfield 9, 3) := by decide +kernel
theorem d_T_remove_4 : decode b_T_remove 4 = .ok (.iload_n 1, 1) := by decide +kernel
theorem d_T_remove_5 : decode b_T_remove 5 = .ok (.iconst 0, 1) := by decide +kernel
theorem d_T_remove_6 : decode b_T_remove 6 = .ok (.bastore, 1) := by decide +kernel
theorem d_T_remove_7 : decode b_T_remove 7 = .ok (.aload_n 0, 1) := by decide +kernel
theorem d_T_remove_8 : decode b_T_remove 8 = .ok (.getfield 17, 3) := by decide +kernel
theorem d_T_remove_11 : decode b_T_remove 11 = .ok (.iload_n 1, 1) := by decide +kernel
theorem d_T_remove_12 : decode b_T_remove 12 = .ok (.aaload, 1) := by decide +kernel
theorem d_T_remove_13 : decode b_T_remove 13 = .ok (.iconst (-1), 1) := by decide +kernel
theorem d_T_remove_14 : decode b_T_remove 14 = .ok (.invokestatic 20, 3) := by decide +kernel
theorem d_T_remove_17 : decode b_T_remove 17 = .ok (.return_, 1) := by decide +kernel
theorem d_T_howMany_0 : decode b_T_howMany 0 = .ok (.iconst 0, 1) := by decide +kernel
theorem d_T_howMany_1 : decode b_T_howMany 1 = .ok (.istore_n 1, 1) := by decide +kernel
theorem d_T_howMany_2 : decode b_T_howMany 2 = .ok (.iconst 0, 1) := by decide +kernel
theorem d_T_howMany_3 : decode b_T_howMany 3 = .ok (.istore_n 2, 1) := by decide +kernel
theorem d_T_howMany_4 : decode b_T_howMany 4 = .ok (.iload_n 2, 1) := by decide +kernel
theorem d_T_howMany_5 : decode b_T_howMany 5 = .ok (.aload_n 0, 1) := by decide +kernel
theorem d_T_howMany_6 : decode b_T_howMany 6 = .ok (.getfield 9, 3) := by decide +kernel
theorem d_T_howMany_9 : decode b_T_howMany 9 = .ok (.arraylength, 1) := by decide +kernel
theorem d_T_howMany_10 : decode b_T_howMany 10 = .ok (.if_icmp .ge 21, 3) := by decide +kernel
theorem d_T_howMany_13 : decode b_T_howMany 13 = .ok (.aload_n 0, 1) := by decide +kernel
theorem d_T_howMany_14 : decode b_T_howMany 14 = .ok (.getfield 9, 3) := by decide +kernel
theorem d_T_howMany_17 : decode b_T_howMany 17 = .ok (.iload_n 2, 1) := by decide +kernel
theorem d_T_howMany_18 : decode b_T_howMany 18 = .ok (.baload, 1) := by decide +kernel
theorem d_T_howMany_19 : decode b_T_howMany 19 = .ok (.ifCond .eq 6, 3) := by decide +kernel
theorem d_T_howMany_22 : decode b_T_howMany 22 = .ok (.iinc 1 1, 3) := by decide +kernel
theorem d_T_howMany_25 : decode b_T_howMany 25 = .ok (.iinc 2 1, 3) := by decide +kernel
theorem d_T_howMany_28 : decode b_T_howMany 28 = .ok (.goto (-24), 3) := by decide +kernel
theorem d_T_howMany_31 : decode b_T_howMany 31 = .ok (.iload_n 1, 1) := by decide +kernel
theorem d_T_howMany_32 : decode b_T_howMany 32 = .ok (.ireturn, 1) := by decide +kernel
theorem d_T_valuesIn_0 : decode b_T_valuesIn 0 = .ok (.iconst 0, 1) := by decide +kernel
theorem d_T_valuesIn_1 : decode b_T_valuesIn 1 = .ok (.istore_n 2, 1) := by decide +kernel
theorem d_T_valuesIn_2 : decode b_T_valuesIn 2 = .ok (.iconst 0, 1) := by decide +kernel
theorem d_T_valuesIn_3 : decode b_T_valuesIn 3 = .ok (.istore_n 3, 1) := by decide +kernel
theorem d_T_valuesIn_4 : decode b_T_valuesIn 4 = .ok (.iload_n 3, 1) := by decide +kernel
theorem d_T_valuesIn_5 : decode b_T_valuesIn 5 = .ok (.bipush 24, 2) := by decide +kernel
theorem d_T_valuesIn_7 : decode b_T_valuesIn 7 = .ok (.if_icmp .ge 24, 3) := by decide +kernel
theorem d_T_valuesIn_10 : decode b_T_valuesIn 10 = .ok (.aload_n 0, 1) := by decide +kernel
theorem d_T_valuesIn_11 : decode b_T_valuesIn 11 = .ok (.getfield 17, 3) := by decide +kernel
theorem d_T_valuesIn_14 : decode b_T_valuesIn 14 = .ok (.iload_n 1, 1) := by decide +kernel
theorem d_T_valuesIn_15 : decode b_T_valuesIn 15 = .ok (.aaload, 1) := by decide +kernel
theorem d_T_valuesIn_16 : decode b_T_valuesIn 16 = .ok (.iload_n 3, 1) := by decide +kernel
theorem d_T_valuesIn_17 : decode b_T_valuesIn 17 = .ok (.iaload, 1) := by decide +kernel
theorem d_T_valuesIn_18 : decode b_T_valuesIn 18 = .ok (.iconst (-1), 1) := by decide +kernel
theorem d_T_valuesIn_19 : decode b_T_valuesIn 19 = .ok (.if_icmp .eq 6, 3) := by decide +kernel
theorem d_T_valuesIn_22 : decode b_T_valuesIn 22 = .ok (.iinc 2 1, 3) := by decide +kernel
theorem d_T_valuesIn_25 : decode b_T_valuesIn 25 = .ok (.iinc 3 1, 3) := by decide +kernel
theorem d_T_valuesIn_28 : decode b_T_valuesIn 28 = .ok (.goto (-24), 3) := by decide +kernel
theorem d_T_valuesIn_31 : decode b_T_valuesIn 31 = .ok (.iload_n 2, 1) := by decide +kernel
theorem d_T_valuesIn_32 : decode b_T_valuesIn 32 = .ok (.ireturn, 1) := by decide +kernel
theorem d_T_valuesInAll_0 : decode b_T_valuesInAll 0 = .ok (.iconst 0, 1) := by decide +kernel
theorem d_T_valuesInAll_1 : decode b_T_valuesInAll 1 = .ok (.istore_n 1, 1) := by decide +kernel
theorem d_T_valuesInAll_2 : decode b_T_valuesInAll 2 = .ok (.iconst 0, 1) := by decide +kernel
theorem d_T_valuesInAll_3 : decode b_T_valuesInAll 3 = .ok (.istore_n 2, 1) := by decide +kernel
theorem d_T_valuesInAll_4 : decode b_T_valuesInAll 4 = .ok (.iload_n 2, 1) := by decide +kernel
theorem d_T_valuesInAll_5 : decode b_T_valuesInAll 5 = .ok (.aload_n 0, 1) := by decide +kernel
theorem d_T_valuesInAll_6 : decode b_T_valuesInAll 6 = .ok (.getfield 9, 3) := by decide +kernel
theorem d_T_valuesInAll_9 : decode b_T_valuesInAll 9 = .ok (.arraylength, 1) := by decide +kernel
theorem d_T_valuesInAll_10 : decode b_T_valuesInAll 10 = .ok (.if_icmp .ge 17, 3) := by decide +kernel
theorem d_T_valuesInAll_13 : decode b_T_valuesInAll 13 = .ok (.iload_n 1, 1) := by decide +kernel
theorem d_T_valuesInAll_14 : decode b_T_valuesInAll 14 = .ok (.aload_n 0, 1) := by decide +kernel
theorem d_T_valuesInAll_15 : decode b_T_valuesInAll 15 = .ok (.iload_n 2, 1) := by decide +kernel
theorem d_T_valuesInAll_16 : decode b_T_valuesInAll 16 = .ok (.invokevirtual 26, 3) := by decide +kernel
theorem d_T_valuesInAll_19 : decode b_T_valuesInAll 19 = .ok (.iadd, 1) := by decide +kernel
theorem d_T_valuesInAll_20 : decode b_T_valuesInAll 20 = .ok (.istore_n 1, 1) := by decide +kernel
theorem d_T_valuesInAll_21 : decode b_T_valuesInAll 21 = .ok (.iinc 2 1, 3) := by decide +kernel
theorem d_T_valuesInAll_24 : decode b_T_valuesInAll 24 = .ok (.goto (-20), 3) := by decide +kernel
theorem d_T_valuesInAll_27 : decode b_T_valuesInAll 27 = .ok (.iload_n 1, 1) := by decide +kernel
theorem d_T_valuesInAll_28 : decode b_T_valuesInAll 28 = .ok (.ireturn, 1) := by decide +kernel
theorem d_T_numberOf_0 : decode b_T_numberOf 0 = .ok (.iconst 0, 1) := by decide +kernel
theorem d_T_numberOf_1 : decode b_T_numberOf 1 = .ok (.istore_n 2, 1) := by decide +kernel
theorem d_T_numberOf_2 : decode b_T_numberOf 2 = .ok (.iload_n 2, 1) := by decide +kernel
theorem d_T_numberOf_3 : decode b_T_numberOf 3 = .ok (.aload_n 0, 1) := by decide +kernel
theorem d_T_numberOf_4 : decode b_T_numberOf 4 = .ok (.getfield 9, 3) := by decide +kernel
theorem d_T_numberOf_7 : decode b_T_numberOf 7 = .ok (.arraylength, 1) := by decide +kernel
theorem d_T_numberOf_8 : decode b_T_numberOf 8 = .ok (.if_icmp .ge 33, 3) := by decide +kernel
theorem d_T_numberOf_11 : decode b_T_numberOf 11 = .ok (.aload_n 0, 1) := by decide +kernel
theorem d_T_numberOf_12 : decode b_T_numberOf 12 = .ok (.getfield 9, 3) := by decide +kernel
theorem d_T_numberOf_15 : decode b_T_numberOf 15 = .ok (.iload_n 2, 1) := by decide +kernel
theorem d_T_numberOf_16 : decode b_T_numberOf 16 = .ok (.baload, 1) := by decide +kernel
theorem d_T_numberOf_17 : decode b_T_numberOf 17 = .ok (.ifCond .eq 18, 3) := by decide +kernel
theorem d_T_numberOf_20 : decode b_T_numberOf 20 = .ok (.aload_n 0, 1) := by decide +kernel
theorem d_T_numberOf_21 : decode b_T_numberOf 21 = .ok (.getfield 17, 3) := by decide +kernel
theorem d_T_numberOf_24 : decode b_T_numberOf 24 = .ok (.iload_n 2, 1) := by decide +kernel
theorem d_T_numberOf_25 : decode b_T_numberOf 25 = .ok (.aaload, 1) := by decide +kernel
theorem d_T_numberOf_26 : decode b_T_numberOf 26 = .ok (.aload_n 1, 1) := by decide +kernel
theorem d_T_numberOf_27 : decode b_T_numberOf 27 = .ok (.invokestatic 30, 3) := by decide +kernel
theorem d_T_numberOf_30 : decode b_T_numberOf 30 = .ok (.ifCond .eq 5, 3) := by decide +kernel
theorem d_T_numberOf_33 : decode b_T_numberOf 33 = .ok (.iload_n 2, 1) := by decide +kernel
theorem d_T_numberOf_34 : decode b_T_numberOf 34 = .ok (.ireturn, 1) := by decide +kernel
theorem d_T_numberOf_35 : decode b_T_numberOf 35 = .ok (.iinc 2 1, 3) := by decide +kernel
theorem d_T_numberOf_38 : decode b_T_numberOf 38 = .ok (.goto (-36), 3) := by decide +kernel
theorem d_T_numberOf_41 : decode b_T_numberOf 41 = .ok (.iconst (-1), 1) := by decide +kernel
theorem d_T_numberOf_42 : decode b_T_numberOf 42 = .ok (.ireturn, 1) := by decide +kernel
theorem d_T_isAlike_0 : decode b_T_isAlike 0 = .ok (.iconst 0, 1) := by decide +kernel
theorem d_T_isAlike_1 : decode b_T_isAlike 1 = .ok (.istore_n 2, 1) := by decide +kernel
theorem d_T_isAlike_2 : decode b_T_isAlike 2 = .ok (.iload_n 2, 1) := by decide +kernel
theorem d_T_isAlike_3 : decode b_T_isAlike 3 = .ok (.bipush 24, 2) := by decide +kernel
theorem d_T_isAlike_5 : decode b_T_isAlike 5 = .ok (.if_icmp .ge 20, 3) := by decide +kernel
theorem d_T_isAlike_8 : decode b_T_isAlike 8 = .ok (.aload_n 0, 1) := by decide +kernel
theorem d_T_isAlike_9 : decode b_T_isAlike 9 = .ok (.iload_n 2, 1) := by decide +kernel
theorem d_T_isAlike_10 : decode b_T_isAlike 10 = .ok (.iaload, 1) := by decide +kernel
theorem d_T_isAlike_11 : decode b_T_isAlike 11 = .ok (.aload_n 1, 1) := by decide +kernel
theorem d_T_isAlike_12 : decode b_T_isAlike 12 = .ok (.iload_n 2, 1) := by decide +kernel
theorem d_T_isAlike_13 : decode b_T_isAlike 13 = .ok (.iaload, 1) := by decide +kernel
theorem d_T_isAlike_14 : decode b_T_isAlike 14 = .ok (.if_icmp .eq 5, 3) := by decide +kernel
theorem d_T_isAlike_17 : decode b_T_isAlike 17 = .ok (.iconst 0, 1) := by decide +kernel
theorem d_T_isAlike_18 : decode b_T_isAlike 18 = .ok (.ireturn, 1) := by decide +kernel
theorem d_T_isAlike_19 : decode b_T_isAlike 19 = .ok (.iinc 2 1, 3) := by decide +kernel
theorem d_T_isAlike_22 : decode b_T_isAlike 22 = .ok (.goto (-20), 3) := by decide +kernel
theorem d_T_isAlike_25 : decode b_T_isAlike 25 = .ok (.iconst 1, 1) := by decide +kernel
theorem d_T_isAlike_26 : decode b_T_isAlike 26 = .ok (.ireturn, 1) := by decide +kernel
theorem d_S_init_0 : decode b_S_init 0 = .ok (.aload_n 0, 1) := by decide +kernel
theorem d_S_init_1 : decode b_S_init 1 = .ok (.invokespecial 1, 3) := by decide +kernel
theorem d_S_init_4 : decode b_S_init 4 = .ok (.aload_n 0, 1) := by decide +kernel
theorem d_S_init_5 : decode b_S_init 5 = .ok (.new 7, 3) := by decide +kernel
theorem d_S_init_8 : decode b_S_init 8 = .ok (.dup, 1) := by decide +kernel
theorem d_S_init_9 : decode b_S_init 9 = .ok (.bipush 64, 2) := by decide +kernel
theorem d_S_init_11 : decode b_S_init 11 = .ok (.invokespecial 11, 3) := by decide +kernel
theorem d_S_init_14 : decode b_S_init 14 = .ok (.putfield 14, 3) := by decide +kernel
theorem d_S_init_17 : decode b_S_init 17 = .ok (.aload_n 0, 1) := by decide +kernel
theorem d_S_init_18 : decode b_S_init 18 = .ok (.bipush 64, 2) := by decide +kernel
theorem d_S_init_20 : decode b_S_init 20 = .ok (.newarray .int, 2) := by decide +kernel
theorem d_S_init_22 : decode b_S_init 22 = .ok (.putfield 18, 3) := by decide +kernel
theorem d_S_init_25 : decode b_S_init 25 = .ok (.aload_n 0, 1) := by decide +kernel
theorem d_S_init_26 : decode b_S_init 26 = .ok (.bipush 64, 2) := by decide +kernel
theorem d_S_init_28 : decode b_S_init 28 = .ok (.newarray .int, 2) := by decide +kernel
theorem d_S_init_30 : decode b_S_init 30 = .ok (.putfield 22, 3) := by decide +kernel
theorem d_S_init_33 : decode b_S_init 33 = .ok (.aload_n 0, 1) := by decide +kernel
theorem d_S_init_34 : decode b_S_init 34 = .ok (.bipush 24, 2) := by decide +kernel
theorem d_S_init_36 : decode b_S_init 36 = .ok (.newarray .int, 2) := by decide +kernel
theorem d_S_init_38 : decode b_S_init 38 = .ok (.putfield 25, 3) := by decide +kernel
theorem d_S_init_41 : decode b_S_init 41 = .ok (.aload_n 0, 1) := by decide +kernel
theorem d_S_init_42 : decode b_S_init 42 = .ok (.new 7, 3) := by decide +kernel
theorem d_S_init_45 : decode b_S_init 45 = .ok (.dup, 1) := by decide +kernel
theorem d_S_init_46 : decode b_S_init 46 = .ok (.sipush 256, 3) := by decide +kernel
theorem d_S_init_49 : decode b_S_init 49 = .ok (.invokespecial 11, 3) := by decide +kernel
theorem d_S_init_52 : decode b_S_init 52 = .ok (.putfield 28, 3) := by decide +kernel
theorem d_S_init_55 : decode b_S_init 55 = .ok (.aload_n 0, 1) := by decide +kernel
theorem d_S_init_56 : decode b_S_init 56 = .ok (.getfield 28, 3) := by decide +kernel
theorem d_S_init_59 : decode b_S_init 59 = .ok (.iconst 0, 1) := by decide +kernel
theorem d_S_init_60 : decode b_S_init 60 = .ok (.invokevirtual 31, 3) := by decide +kernel
theorem d_S_init_63 : decode b_S_init 63 = .ok (.aload_n 0, 1) := by decide +kernel
theorem d_S_init_64 : decode b_S_init 64 = .ok (.sipush 256, 3) := by decide +kernel
theorem d_S_init_67 : decode b_S_init 67 = .ok (.newarray .boolean, 2) := by decide +kernel
theorem d_S_init_69 : decode b_S_init 69 = .ok (.putfield 34, 3) := by decide +kernel
theorem d_S_init_72 : decode b_S_init 72 = .ok (.aload_n 0, 1) := by decide +kernel
theorem d_S_init_73 : decode b_S_init 73 = .ok (.bipush 24, 2) := by decide +kernel
theorem d_S_init_75 : decode b_S_init 75 = .ok (.newarray .int, 2) := by decide +kernel
theorem d_S_init_77 : decode b_S_init 77 = .ok (.putfield 38, 3) := by decide +kernel
theorem d_S_init_80 : decode b_S_init 80 = .ok (.return_, 1) := by decide +kernel
theorem d_S_make_0 : decode b_S_make 0 = .ok (.iload_n 1, 1) := by decide +kernel
theorem d_S_make_1 : decode b_S_make 1 = .ok (.ifCond .eq 18, 3) := by decide +kernel
theorem d_S_make_4 : decode b_S_make 4 = .ok (.iload_n 1, 1) := by decide +kernel
theorem d_S_make_5 : decode b_S_make 5 = .ok (.iconst 1, 1) := by decide +kernel
theorem d_S_make_6 : decode b_S_make 6 = .ok (.if_icmp .eq 13, 3) := by decide +kernel
theorem d_S_make_9 : decode b_S_make 9 = .ok (.new 41, 3) := by decide +kernel
theorem d_S_make_12 : decode b_S_make 12 = .ok (.dup, 1) := by decide +kernel
theorem d_S_make_13 : decode b_S_make 13 = .ok (.ldc 43, 2) := by decide +kernel
theorem d_S_make_15 : decode b_S_make 15 = .ok (.invokespecial 45, 3) := by decide +kernel
theorem d_S_make_18 : decode b_S_make 18 = .ok (.athrow, 1) := by decide +kernel
theorem d_S_make_19 : decode b_S_make 19 = .ok (.aload_n 0, 1) := by decide +kernel
theorem d_S_make_20 : decode b_S_make 20 = .ok (.iload_n 2, 1) := by decide +kernel
theorem d_S_make_21 : decode b_S_make 21 = .ok (.iload_n 1, 1) := by decide +kernel
theorem d_S_make_22 : decode b_S_make 22 = .ok (.invokevirtual 48, 3) := by decide +kernel
theorem d_S_make_25 : decode b_S_make 25 = .ok (.aload_n 0, 1) := by decide +kernel
theorem d_S_make_26 : decode b_S_make 26 = .ok (.getfield 14, 3) := by decide +kernel
theorem d_S_make_29 : decode b_S_make 29 = .ok (.invokevirtual 52, 3) := by decide +kernel
theorem d_S_make_32 : decode b_S_make 32 = .ok (.istore_n 3, 1) := by decide +kernel
theorem d_S_make_33 : decode b_S_make 33 = .ok (.iload_n 3, 1) := by decide +kernel
theorem d_S_make_34 : decode b_S_make 34 = .ok (.iconst (-1), 1) := by decide +kernel
theorem d_S_make_35 : decode b_S_make 35 = .ok (.if_icmp .ne 13, 3) := by decide +kernel
theorem d_S_make_38 : decode b_S_make 38 = .ok (.new 56, 3) := by decide +kernel
theorem d_S_make_41 : decode b_S_make 41 = .ok (.dup, 1) := by decide +kernel
theorem d_S_make_42 : decode b_S_make 42 = .ok (.ldc 58, 2) := by decide +kernel
theorem d_S_make_44 : decode b_S_make 44 = .ok (.invokespecial 60, 3) := by decide +kernel
theorem d_S_make_47 : decode b_S_make 47 = .ok (.athrow, 1) := by decide +kernel
theorem d_S_make_48 : decode b_S_make 48 = .ok (.aload_n 0, 1) := by decide +kernel
theorem d_S_make_49 : decode b_S_make 49 = .ok (.getfield 14, 3) := by decide +kernel
theorem d_S_make_52 : decode b_S_make 52 = .ok (.iload_n 3, 1) := by decide +kernel
theorem d_S_make_53 : decode b_S_make 53 = .ok (.invokevirtual 31, 3) := by decide +kernel
theorem d_S_make_56 : decode b_S_make 56 = .ok (.aload_n 0, 1) := by decide +kernel
theorem d_S_make_57 : decode b_S_make 57 = .ok (.getfield 18, 3) := by decide +kernel
theorem d_S_make_60 : decode b_S_make 60 = .ok (.iload_n 3, 1) := by decide +kernel
theorem d_S_make_61 : decode b_S_make 61 = .ok (.iload_n 1, 1) := by decide +kernel
theorem d_S_make_62 : decode b_S_make 62 = .ok (.iastore, 1) := by decide +kernel
theorem d_S_make_63 : decode b_S_make 63 = .ok (.aload_n 0, 1) := by decide +kernel
theorem d_S_make_64 : decode b_S_make 64 = .ok (.getfield 22, 3) := by decide +kernel
theorem d_S_make_67 : decode b_S_make 67 = .ok (.iload_n 3, 1) := by decide +kernel
theorem d_S_make_68 : decode b_S_make 68 = .ok (.iload_n 2, 1) := by decide +kernel
theorem d_S_make_69 : decode b_S_make 69 = .ok (.iastore, 1) := by decide +kernel
theorem d_S_make_70 : decode b_S_make 70 = .ok (.iload_n 3, 1) := by decide +kernel
theorem d_S_make_71 : decode b_S_make 71 = .ok (.ireturn, 1) := by decide +kernel
theorem d_S_drop_0 : decode b_S_drop 0 = .ok (.aload_n 0, 1) := by decide +kernel
theorem d_S_drop_1 : decode b_S_drop 1 = .ok (.iload_n 1, 1) := by decide +kernel
theorem d_S_drop_2 : decode b_S_drop 2 = .ok (.invokevirtual 61, 3) := by decide +kernel
theorem d_S_drop_5 : decode b_S_drop 5 = .ok (.iconst 0, 1) := by decide +kernel
theorem d_S_drop_6 : decode b_S_drop 6 = .ok (.istore_n 2, 1) := by decide +kernel
theorem d_S_drop_7 : decode b_S_drop 7 = .ok (.iconst 0, 1) := by decide +kernel
theorem d_S_drop_8 : decode b_S_drop 8 = .ok (.istore_n 3, 1) := by decide +kernel
theorem d_S_drop_9 : decode b_S_drop 9 = .ok (.iload_n 3, 1) := by decide +kernel
theorem d_S_drop_10 : decode b_S_drop 10 = .ok (.bipush 64, 2) := by decide +kernel
theorem d_S_drop_12 : decode b_S_drop 12 = .ok (.if_icmp .ge 45, 3) := by decide +kernel
theorem d_S_drop_15 : decode b_S_drop 15 = .ok (.aload_n 0, 1) := by decide +kernel
theorem d_S_drop_16 : decode b_S_drop 16 = .ok (.getfield 14, 3) := by decide +kernel
theorem d_S_drop_19 : decode b_S_drop 19 = .ok (.iload_n 3, 1) := by decide +kernel
theorem d_S_drop_20 : decode b_S_drop 20 = .ok (.invokevirtual 64, 3) := by decide +kernel
theorem d_S_drop_23 : decode b_S_drop 23 = .ok (.ifCond .eq 28, 3) := by decide +kernel
theorem d_S_drop_26 : decode b_S_drop 26 = .ok (.aload_n 0, 1) := by decide +kernel
theorem d_S_drop_27 : decode b_S_drop 27 = .ok (.getfield 22, 3) := by decide +kernel
theorem d_S_drop_30 : decode b_S_drop 30 = .ok (.iload_n 3, 1) := by decide +kernel
theorem d_S_drop_31 : decode b_S_drop 31 = .ok (.iaload, 1) := by decide +kernel
theorem d_S_drop_32 : decode b_S_drop 32 = .ok (.iload_n 1, 1) := by decide +kernel
theorem d_S_drop_33 : decode b_S_drop 33 = .ok (.if_icmp .ne 18, 3) := by decide +kernel
theorem d_S_drop_36 : decode b_S_drop 36 = .ok (.aload_n 0, 1) := by decide +kernel
theorem d_S_drop_37 : decode b_S_drop 37 = .ok (.getfield 22, 3) := by decide +kernel
theorem d_S_drop_40 : decode b_S_drop 40 = .ok (.iload_n 3, 1) := by decide +kernel
theorem d_S_drop_41 : decode b_S_drop 41 = .ok (.aload_n 0, 1) := by decide +kernel
theorem d_S_drop_42 : decode b_S_drop 42 = .ok (.getfield 22, 3) := by decide +kernel
theorem d_S_drop_45 : decode b_S_drop 45 = .ok (.iload_n 1, 1) := by decide +kernel
theorem d_S_drop_46 : decode b_S_drop 46 = .ok (.iaload, 1) := by decide +kernel
theorem d_S_drop_47 : decode b_S_drop 47 = .ok (.iastore, 1) := by decide +kernel
theorem d_S_drop_48 : decode b_S_drop 48 = .ok (.iinc 2 1, 3) := by decide +kernel
theorem d_S_drop_51 : decode b_S_drop 51 = .ok (.iinc 3 1, 3) := by decide +kernel
theorem d_S_drop_54 : decode b_S_drop 54 = .ok (.goto (-45), 3) := by decide +kernel
theorem d_S_drop_57 : decode b_S_drop 57 = .ok (.aload_n 0, 1) := by decide +kernel
theorem d_S_drop_58 : decode b_S_drop 58 = .ok (.getfield 14, 3) := by decide +kernel
theorem d_S_drop_61 : decode b_S_drop 61 = .ok (.iload_n 1, 1) := by decide +kernel
theorem d_S_drop_62 : decode b_S_drop 62 = .ok (.invokevirtual 68, 3) := by decide +kernel
theorem d_S_drop_65 : decode b_S_drop 65 = .ok (.iload_n 2, 1) := by decide +kernel
theorem d_S_drop_66 : decode b_S_drop 66 = .ok (.ireturn, 1) := by decide +kernel
theorem d_S_rebase_0 : decode b_S_rebase 0 = .ok (.aload_n 0, 1) := by decide +kernel
theorem d_S_rebase_1 : decode b_S_rebase 1 = .ok (.iload_n 1, 1) := by decide +kernel
theorem d_S_rebase_2 : decode b_S_rebase 2 = .ok (.invokevirtual 61, 3) := by decide +kernel
theorem d_S_rebase_5 : decode b_S_rebase 5 = .ok (.aload_n 0, 1) := by decide +kernel
theorem d_S_rebase_6 : decode b_S_rebase 6 = .ok (.iload_n 2, 1) := by decide +kernel
theorem d_S_rebase_7 : decode b_S_rebase 7 = .ok (.aload_n 0, 1) := by decide +kernel
theorem d_S_rebase_8 : decode b_S_rebase 8 = .ok (.getfield 18, 3) := by decide +kernel
theorem d_S_rebase_11 : decode b_S_rebase 11 = .ok (.iload_n 1, 1) := by decide +kernel
theorem d_S_rebase_12 : decode b_S_rebase 12 = .ok (.iaload, 1) := by decide +kernel
theorem d_S_rebase_13 : decode b_S_rebase 13 = .ok (.invokevirtual 48, 3) := by decide +kernel
theorem d_S_rebase_16 : decode b_S_rebase 16 = .ok (.aload_n 0, 1) := by decide +kernel
theorem d_S_rebase_17 : decode b_S_rebase 17 = .ok (.iload_n 1, 1) := by decide +kernel
theorem d_S_rebase_18 : decode b_S_rebase 18 = .ok (.iload_n 2, 1) := by decide +kernel
theorem d_S_rebase_19 : decode b_S_rebase 19 = .ok (.invokevirtual 71, 3) := by decide +kernel
theorem d_S_rebase_22 : decode b_S_rebase 22 = .ok (.ifCond .eq 5, 3) := by decide +kernel
theorem d_S_rebase_25 : decode b_S_rebase 25 = .ok (.iconst 0, 1) := by decide +kernel
theorem d_S_rebase_26 : decode b_S_rebase 26 = .ok (.ireturn, 1) := by decide +kernel
theorem d_S_rebase_27 : decode b_S_rebase 27 = .ok (.aload_n 0, 1) := by decide +kernel
theorem d_S_rebase_28 : decode b_S_rebase 28 = .ok (.getfield 22, 3) := by decide +kernel
theorem d_S_rebase_31 : decode b_S_rebase 31 = .ok (.iload_n 1, 1) := by decide +kernel
theorem d_S_rebase_32 : decode b_S_rebase 32 = .ok (.iload_n 2, 1) := by decide +kernel
theorem d_S_rebase_33 : decode b_S_rebase 33 = .ok (.iastore, 1) := by decide +kernel
theorem d_S_rebase_34 : decode b_S_rebase 34 = .ok (.iconst 1, 1) := by decide +kernel
theorem d_S_rebase_35 : decode b_S_rebase 35 = .ok (.ireturn, 1) := by decide +kernel
theorem d_S_own_0 : decode b_S_own 0 = .ok (.aload_n 0, 1) := by decide +kernel
theorem d_S_own_1 : decode b_S_own 1 = .ok (.iload_n 1, 1) := by decide +kernel
theorem d_S_own_2 : decode b_S_own 2 = .ok (.invokevirtual 61, 3) := by decide +kernel
theorem d_S_own_5 : decode b_S_own 5 = .ok (.iload_n 2, 1) := by decide +kernel
theorem d_S_own_6 : decode b_S_own 6 = .ok (.invokestatic 75, 3) := by decide +kernel
theorem d_S_own_9 : decode b_S_own 9 = .ok (.iload_n 2, 1) := by decide +kernel
theorem d_S_own_10 : decode b_S_own 10 = .ok (.iload_n 3, 1) := by decide +kernel
theorem d_S_own_11 : decode b_S_own 11 = .ok (.invokestatic 78, 3) := by decide +kernel
theorem d_S_own_14 : decode b_S_own 14 = .ok (.aload_n 0, 1) := by decide +kernel
theorem d_S_own_15 : decode b_S_own 15 = .ok (.getfield 14, 3) := by decide +kernel
theorem d_S_own_18 : decode b_S_own 18 = .ok (.getfield 81, 3) := by decide +kernel
theorem d_S_own_21 : decode b_S_own 21 = .ok (.iload_n 1, 1) := by decide +kernel
theorem d_S_own_22 : decode b_S_own 22 = .ok (.aaload, 1) := by decide +kernel
theorem d_S_own_23 : decode b_S_own 23 = .ok (.iload_n 2, 1) := by decide +kernel
theorem d_S_own_24 : decode b_S_own 24 = .ok (.iload_n 3, 1) := by decide +kernel
theorem d_S_own_25 : decode b_S_own 25 = .ok (.iastore, 1) := by decide +kernel
theorem d_S_own_26 : decode b_S_own 26 = .ok (.return_, 1) := by decide +kernel
theorem d_S_value_0 : decode b_S_value 0 = .ok (.aload_n 0, 1) := by decide +kernel
theorem d_S_value_1 : decode b_S_value 1 = .ok (.iload_n 1, 1) := by decide +kernel
theorem d_S_value_2 : decode b_S_value 2 = .ok (.invokevirtual 61, 3) := by decide +kernel
theorem d_S_value_5 : decode b_S_value 5 = .ok (.iload_n 2, 1) := by decide +kernel
theorem d_S_value_6 : decode b_S_value 6 = .ok (.invokestatic 75, 3) := by decide +kernel
theorem d_S_value_9 : decode b_S_value 9 = .ok (.aload_n 0, 1) := by decide +kernel
theorem d_S_value_10 : decode b_S_value 10 = .ok (.iload_n 1, 1) := by decide +kernel
theorem d_S_value_11 : decode b_S_value 11 = .ok (.iload_n 2, 1) := by decide +kernel
theorem d_S_value_12 : decode b_S_value 12 = .ok (.invokevirtual 85, 3) := by decide +kernel
theorem d_S_value_15 : decode b_S_value 15 = .ok (.ireturn, 1) := by decide +kernel
theorem d_S_giver_0 : decode b_S_giver 0 = .ok (.aload_n 0, 1) := by decide +kernel
theorem d_S_giver_1 : decode b_S_giver 1 = .ok (.iload_n 1, 1) := by decide +kernel
theorem d_S_giver_2 : decode b_S_giver 2 = .ok (.invokevirtual 61, 3) := by decide +kernel
theorem d_S_giver_5 : decode b_S_giver 5 = .ok (.iload_n 2, 1) := by decide +kernel
theorem d_S_giver_6 : decode b_S_giver 6 = .ok (.invokestatic 75, 3) := by decide +kernel
theorem d_S_giver_9 : decode b_S_giver 9 = .ok (.aload_n 0, 1) := by decide +kernel
theorem d_S_giver_10 : decode b_S_giver 10 = .ok (.iload_n 1, 1) := by decide +kernel
theorem d_S_giver_11 : decode b_S_giver 11 = .ok (.iload_n 2, 1) := by decide +kernel
theorem d_S_giver_12 : decode b_S_giver 12 = .ok (.invokevirtual 89, 3) := by decide +kernel
theorem d_S_giver_15 : decode b_S_giver 15 = .ok (.ireturn, 1) := by decide +kernel
theorem d_S_style_0 : decode b_S_style 0 = .ok (.aload_n 0, 1) := by decide +kernel
theorem d_S_style_1 : decode b_S_style 1 = .ok (.iload_n 1, 1) := by decide +kernel
theorem d_S_style_2 : decode b_S_style 2 = .ok (.invokevirtual 61, 3) := by decide +kernel
theorem d_S_style_5 : decode b_S_style 5 = .ok (.iload_n 2, 1) := by decide +kernel
theorem d_S_style_6 : decode b_S_style 6 = .ok (.tableswitch 69 0 4 #[34, 40, 46, 53, 60], 34) := by decide +kernel
theorem d_S_style_40 : decode b_S_style 40 = .ok (.aload_n 0, 1) := by decide +kernel
theorem d_S_style_41 : decode b_S_style 41 = .ok (.iload_n 1, 1) := by decide +kernel
theorem d_S_style_42 : decode b_S_style 42 = .ok (.invokevirtual 92, 3) := by decide +kernel
theorem d_S_style_45 : decode b_S_style 45 = .ok (.ireturn, 1) := by decide +kernel
theorem d_S_style_46 : decode b_S_style 46 = .ok (.aload_n 0, 1) := by decide +kernel
theorem d_S_style_47 : decode b_S_style 47 = .ok (.iload_n 1, 1) := by decide +kernel
theorem d_S_style_48 : decode b_S_style 48 = .ok (.invokevirtual 96, 3) := by decide +kernel
theorem d_S_style_51 : decode b_S_style 51 = .ok (.ireturn, 1) := by decide +kernel
theorem d_S_style_52 : decode b_S_style 52 = .ok (.aload_n 0, 1) := by decide +kernel
theorem d_S_style_53 : decode b_S_style 53 = .ok (.getfield 22, 3) := by decide +kernel
theorem d_S_style_56 : decode b_S_style 56 = .ok (.iload_n 1, 1) := by decide +kernel
theorem d_S_style_57 : decode b_S_style 57 = .ok (.iaload, 1) := by decide +kernel
theorem d_S_style_58 : decode b_S_style 58 = .ok (.ireturn, 1) := by decide +kernel
theorem d_S_style_59 : decode b_S_style 59 = .ok (.aload_n 0, 1) := by decide +kernel
theorem d_S_style_60 : decode b_S_style 60 = .ok (.getfield 18, 3) := by decide +kernel
theorem d_S_style_63 : decode b_S_style 63 = .ok (.iload_n 1, 1) := by decide +kernel
theorem d_S_style_64 : decode b_S_style 64 = .ok (.iaload, 1) := by decide +kernel
theorem d_S_style_65 : decode b_S_style 65 = .ok (.ireturn, 1) := by decide +kernel
theorem d_S_style_66 : decode b_S_style 66 = .ok (.aload_n 0, 1) := by decide +kernel
theorem d_S_style_67 : decode b_S_style 67 = .ok (.getfield 14, 3) := by decide +kernel
theorem d_S_style_70 : decode b_S_style 70 = .ok (.iload_n 1, 1) := by decide +kernel
theorem d_S_style_71 : decode b_S_style 71 = .ok (.invokevirtual 99, 3) := by decide +kernel
theorem d_S_style_74 : decode b_S_style 74 = .ok (.ireturn, 1) := by decide +kernel
theorem d_S_style_75 : decode b_S_style 75 = .ok (.new 41, 3) := by decide +kernel
theorem d_S_style_78 : decode b_S_style 78 = .ok (.dup, 1) := by decide +kernel
theorem d_S_style_79 : decode b_S_style 79 = .ok (.ldc 102, 2) := by decide +kernel
theorem d_S_style_81 : decode b_S_style 81 = .ok (.invokespecial 45, 3) := by decide +kernel
theorem d_S_style_84 : decode b_S_style 84 = .ok (.athrow, 1) := by decide +kernel
theorem d_S_usual_0 : decode b_S_usual 0 = .ok (.iload_n 1, 1) := by decide +kernel
theorem d_S_usual_1 : decode b_S_usual 1 = .ok (.invokestatic 75, 3) := by decide +kernel
theorem d_S_usual_4 : decode b_S_usual 4 = .ok (.iload_n 1, 1) := by decide +kernel
theorem d_S_usual_5 : decode b_S_usual 5 = .ok (.iload_n 2, 1) := by decide +kernel
theorem d_S_usual_6 : decode b_S_usual 6 = .ok (.invokestatic 104, 3) := by decide +kernel
theorem d_S_usual_9 : decode b_S_usual 9 = .ok (.aload_n 0, 1) := by decide +kernel
theorem d_S_usual_10 : decode b_S_usual 10 = .ok (.getfield 25, 3) := by decide +kernel
theorem d_S_usual_13 : decode b_S_usual 13 = .ok (.iload_n 1, 1) := by decide +kernel
theorem d_S_usual_14 : decode b_S_usual 14 = .ok (.iload_n 2, 1) := by decide +kernel
theorem d_S_usual_15 : decode b_S_usual 15 = .ok (.iastore, 1) := by decide +kernel
theorem d_S_usual_16 : decode b_S_usual 16 = .ok (.return_, 1) := by decide +kernel
theorem d_S_with_0 : decode b_S_with 0 = .ok (.aload_n 0, 1) := by decide +kernel
theorem d_S_with_1 : decode b_S_with 1 = .ok (.iload_n 1, 1) := by decide +kernel
theorem d_S_with_2 : decode b_S_with 2 = .ok (.invokevirtual 107, 3) := by decide +kernel
theorem d_S_with_5 : decode b_S_with 5 = .ok (.iload_n 2, 1) := by decide +kernel
theorem d_S_with_6 : decode b_S_with 6 = .ok (.invokestatic 75, 3) := by decide +kernel
theorem d_S_with_9 : decode b_S_with 9 = .ok (.iload_n 2, 1) := by decide +kernel
theorem d_S_with_10 : decode b_S_with 10 = .ok (.iload_n 3, 1) := by decide +kernel
theorem d_S_with_11 : decode b_S_with 11 = .ok (.invokestatic 78, 3) := by decide +kernel
theorem d_S_with_14 : decode b_S_with 14 = .ok (.iconst 0, 1) := by decide +kernel
theorem d_S_with_15 : decode b_S_with 15 = .ok (.istore 4, 2) := by decide +kernel
theorem d_S_with_17 : decode b_S_with 17 = .ok (.iload 4, 2) := by decide +kernel
theorem d_S_with_19 : decode b_S_with 19 = .ok (.bipush 24, 2) := by decide +kernel
theorem d_S_with_21 : decode b_S_with 21 = .ok (.if_icmp .ge 38, 3) := by decide +kernel
theorem d_S_with_24 : decode b_S_with 24 = .ok (.aload_n 0, 1) := by decide +kernel
theorem d_S_with_25 : decode b_S_with 25 = .ok (.getfield 38, 3) := by decide +kernel
theorem d_S_with_28 : decode b_S_with 28 = .ok (.iload 4, 2) := by decide +kernel
theorem d_S_with_30 : decode b_S_with 30 = .ok (.iload 4, 2) := by decide +kernel
theorem d_S_with_32 : decode b_S_with 32 = .ok (.iload_n 2, 1) := by decide +kernel
theorem d_S_with_33 : decode b_S_with 33 = .ok (.if_icmp .ne 7, 3) := by decide +kernel
theorem d_S_with_36 : decode b_S_with 36 = .ok (.iload_n 3, 1) := by decide +kernel
theorem d_S_with_37 : decode b_S_with 37 = .ok (.goto 15, 3) := by decide +kernel
theorem d_S_with_40 : decode b_S_with 40 = .ok (.aload_n 0, 1) := by decide +kernel
theorem d_S_with_41 : decode b_S_with 41 = .ok (.getfield 28, 3) := by decide +kernel
theorem d_S_with_44 : decode b_S_with 44 = .ok (.getfield 81, 3) := by decide +kernel
theorem d_S_with_47 : decode b_S_with 47 = .ok (.iload_n 1, 1) := by decide +kernel
theorem d_S_with_48 : decode b_S_with 48 = .ok (.aaload, 1) := by decide +kernel
theorem d_S_with_49 : decode b_S_with 49 = .ok (.iload 4, 2) := by decide +kernel
theorem d_S_with_51 : decode b_S_with 51 = .ok (.iaload, 1) := by decide +kernel
theorem d_S_with_52 : decode b_S_with 52 = .ok (.iastore, 1) := by decide +kernel
theorem d_S_with_53 : decode b_S_with 53 = .ok (.iinc 4 1, 3) := by decide +kernel
theorem d_S_with_56 : decode b_S_with 56 = .ok (.goto (-39), 3) := by decide +kernel
theorem d_S_with_59 : decode b_S_with 59 = .ok (.aload_n 0, 1) := by decide +kernel
theorem d_S_with_60 : decode b_S_with 60 = .ok (.invokevirtual 110, 3) := by decide +kernel
theorem d_S_with_63 : decode b_S_with 63 = .ok (.ireturn, 1) := by decide +kernel
theorem d_S_over_0 : decode b_S_over 0 = .ok (.aload_n 0, 1) := by decide +kernel
theorem d_S_over_1 : decode b_S_over 1 = .ok (.iload_n 1, 1) := by decide +kernel
theorem d_S_over_2 : decode b_S_over 2 = .ok (.invokevirtual 107, 3) := by decide +kernel
theorem d_S_over_5 : decode b_S_over 5 = .ok (.aload_n 0, 1) := by decide +kernel
theorem d_S_over_6 : decode b_S_over 6 = .ok (.iload_n 2, 1) := by decide +kernel
theorem d_S_over_7 : decode b_S_over 7 = .ok (.invokevirtual 107, 3) := by decide +kernel
theorem d_S_over_10 : decode b_S_over 10 = .ok (.iconst 0, 1) := by decide +kernel
theorem d_S_over_11 : decode b_S_over 11 = .ok (.istore_n 3, 1) := by decide +kernel
theorem d_S_over_12 : decode b_S_over 12 = .ok (.iload_n 3, 1) := by decide +kernel
theorem d_S_over_13 : decode b_S_over 13 = .ok (.bipush 24, 2) := by decide +kernel
theorem d_S_over_15 : decode b_S_over 15 = .ok (.if_icmp .ge 50, 3) := by decide +kernel
theorem d_S_over_18 : decode b_S_over 18 = .ok (.aload_n 0, 1) := by decide +kernel
theorem d_S_over_19 : decode b_S_over 19 = .ok (.getfield 28, 3) := by decide +kernel
theorem d_S_over_22 : decode b_S_over 22 = .ok (.getfield 81, 3) := by decide +kernel
theorem d_S_over_25 : decode b_S_over 25 = .ok (.iload_n 2, 1) := by decide +kernel
theorem d_S_over_26 : decode b_S_over 26 = .ok (.aaload, 1) := by decide +kernel
theorem d_S_over_27 : decode b_S_over 27 = .ok (.iload_n 3, 1) := by decide +kernel
theorem d_S_over_28 : decode b_S_over 28 = .ok (.iaload, 1) := by decide +kernel
theorem d_S_over_29 : decode b_S_over 29 = .ok (.istore 4, 2) := by decide +kernel
theorem d_S_over_31 : decode b_S_over 31 = .ok (.aload_n 0, 1) := by decide +kernel
theorem d_S_over_32 : decode b_S_over 32 = .ok (.getfield 38, 3) := by decide +kernel
theorem d_S_over_35 : decode b_S_over 35 = .ok (.iload_n 3, 1) := by decide +kernel
theorem d_S_over_36 : decode b_S_over 36 = .ok (.iload 4, 2) := by decide +kernel
theorem d_S_over_38 : decode b_S_over 38 = .ok (.iconst (-1), 1) := by decide +kernel
theorem d_S_over_39 : decode b_S_over 39 = .ok (.if_icmp .eq 8, 3) := by decide +kernel
theorem d_S_over_42 : decode b_S_over 42 = .ok (.iload 4, 2) := by decide +kernel
theorem d_S_over_44 : decode b_S_over 44 = .ok (.goto 14, 3) := by decide +kernel
theorem d_S_over_47 : decode b_S_over 47 = .ok (.aload_n 0, 1) := by decide +kernel
theorem d_S_over_48 : decode b_S_over 48 = .ok (.getfield 28, 3) := by decide +kernel
theorem d_S_over_51 : decode b_S_over 51 = .ok (.getfield 81, 3) := by decide +kernel
theorem d_S_over_54 : decode b_S_over 54 = .ok (.iload_n 1, 1) := by decide +kernel
theorem d_S_over_55 : decode b_S_over 55 = .ok (.aaload, 1) := by decide +kernel
theorem d_S_over_56 : decode b_S_over 56 = .ok (.iload_n 3, 1) := by decide +kernel
theorem d_S_over_57 : decode b_S_over 57 = .ok (.iaload, 1) := by decide +kernel
theorem d_S_over_58 : decode b_S_over 58 = .ok (.iastore, 1) := by decide +kernel
theorem d_S_over_59 : decode b_S_over 59 = .ok (.iinc 3 1, 3) := by decide +kernel
theorem d_S_over_62 : decode b_S_over 62 = .ok (.goto (-50), 3) := by decide +kernel
theorem d_S_over_65 : decode b_S_over 65 = .ok (.aload_n 0, 1) := by decide +kernel
theorem d_S_over_66 : decode b_S_over 66 = .ok (.invokevirtual 110, 3) := by decide +kernel
theorem d_S_over_69 : decode b_S_over 69 = .ok (.ireturn, 1) := by decide +kernel
theorem d_S_lean_0 : decode b_S_lean 0 = .ok (.aload_n 0, 1) := by decide +kernel
theorem d_S_lean_1 : decode b_S_lean 1 = .ok (.iload_n 1, 1) := by decide +kernel
theorem d_S_lean_2 : decode b_S_lean 2 = .ok (.invokevirtual 107, 3) := by decide +kernel
theorem d_S_lean_5 : decode b_S_lean 5 = .ok (.aload_n 0, 1) := by decide +kernel
theorem d_S_lean_6 : decode b_S_lean 6 = .ok (.iload_n 2, 1) := by decide +kernel
theorem d_S_lean_7 : decode b_S_lean 7 = .ok (.iconst 0, 1) := by decide +kernel
theorem d_S_lean_8 : decode b_S_lean 8 = .ok (.invokevirtual 48, 3) := by decide +kernel
theorem d_S_lean_11 : decode b_S_lean 11 = .ok (.aload_n 0, 1) := by decide +kernel
theorem d_S_lean_12 : decode b_S_lean 12 = .ok (.iload_n 3, 1) := by decide +kernel
theorem d_S_lean_13 : decode b_S_lean 13 = .ok (.iconst 1, 1) := by decide +kernel
theorem d_S_lean_14 : decode b_S_lean 14 = .ok (.invokevirtual 48, 3) := by decide +kernel
theorem d_S_lean_17 : decode b_S_lean 17 = .ok (.iconst 0, 1) := by decide +kernel
theorem d_S_lean_18 : decode b_S_lean 18 = .ok (.istore 4, 2) := by decide +kernel
theorem d_S_lean_20 : decode b_S_lean 20 = .ok (.iload 4, 2) := by decide +kernel
theorem d_S_lean_22 : decode b_S_lean 22 = .ok (.bipush 24, 2) := by decide +kernel
theorem d_S_lean_24 : decode b_S_lean 24 = .ok (.if_icmp .ge 49, 3) := by decide +kernel
theorem d_S_lean_27 : decode b_S_lean 27 = .ok (.aload_n 0, 1) := by decide +kernel
theorem d_S_lean_28 : decode b_S_lean 28 = .ok (.getfield 28, 3) := by decide +kernel
theorem d_S_lean_31 : decode b_S_lean 31 = .ok (.getfield 81, 3) := by decide +kernel
theorem d_S_lean_34 : decode b_S_lean 34 = .ok (.iload_n 1, 1) := by decide +kernel
theorem d_S_lean_35 : decode b_S_lean 35 = .ok (.aaload, 1) := by decide +kernel
theorem d_S_lean_36 : decode b_S_lean 36 = .ok (.iload 4, 2) := by decide +kernel
theorem d_S_lean_38 : decode b_S_lean 38 = .ok (.iaload, 1) := by decide +kernel
theorem d_S_lean_39 : decode b_S_lean 39 = .ok (.istore 5, 2) := by decide +kernel
theorem d_S_lean_41 : decode b_S_lean 41 = .ok (.aload_n 0, 1) := by decide +kernel
theorem d_S_lean_42 : decode b_S_lean 42 = .ok (.getfield 38, 3) := by decide +kernel
theorem d_S_lean_45 : decode b_S_lean 45 = .ok (.iload 4, 2) := by decide +kernel
theorem d_S_lean_47 : decode b_S_lean 47 = .ok (.iload 5, 2) := by decide +kernel
theorem d_S_lean_49 : decode b_S_lean 49 = .ok (.aload_n 0, 1) := by decide +kernel
theorem d_S_lean_50 : decode b_S_lean 50 = .ok (.iload_n 2, 1) := by decide +kernel
theorem d_S_lean_51 : decode b_S_lean 51 = .ok (.iload_n 3, 1) := by decide +kernel
theorem d_S_lean_52 : decode b_S_lean 52 = .ok (.iload 4, 2) := by decide +kernel
theorem d_S_lean_54 : decode b_S_lean 54 = .ok (.invokevirtual 113, 3) := by decide +kernel
theorem d_S_lean_57 : decode b_S_lean 57 = .ok (.if_icmp .ne 7, 3) := by decide +kernel
theorem d_S_lean_60 : decode b_S_lean 60 = .ok (.iconst (-1), 1) := by decide +kernel
theorem d_S_lean_61 : decode b_S_lean 61 = .ok (.goto 5, 3) := by decide +kernel
theorem d_S_lean_64 : decode b_S_lean 64 = .ok (.iload 5, 2) := by decide +kernel
theorem d_S_lean_66 : decode b_S_lean 66 = .ok (.iastore, 1) := by decide +kernel
theorem d_S_lean_67 : decode b_S_lean 67 = .ok (.iinc 4 1, 3) := by decide +kernel
theorem d_S_lean_70 : decode b_S_lean 70 = .ok (.goto (-50), 3) := by decide +kernel
theorem d_S_lean_73 : decode b_S_lean 73 = .ok (.aload_n 0, 1) := by decide +kernel
theorem d_S_lean_74 : decode b_S_lean 74 = .ok (.invokevirtual 110, 3) := by decide +kernel
theorem d_S_lean_77 : decode b_S_lean 77 = .ok (.ireturn, 1) := by decide +kernel
theorem d_S_get_0 : decode b_S_get 0 = .ok (.aload_n 0, 1) := by decide +kernel
theorem d_S_get_1 : decode b_S_get 1 = .ok (.iload_n 1, 1) := by decide +kernel
theorem d_S_get_2 : decode b_S_get 2 = .ok (.invokevirtual 107, 3) := by decide +kernel
theorem d_S_get_5 : decode b_S_get 5 = .ok (.iload_n 2, 1) := by decide +kernel
theorem d_S_get_6 : decode b_S_get 6 = .ok (.invokestatic 75, 3) := by decide +kernel
theorem d_S_get_9 : decode b_S_get 9 = .ok (.aload_n 0, 1) := by decide +kernel
theorem d_S_get_10 : decode b_S_get 10 = .ok (.getfield 28, 3) := by decide +kernel
theorem d_S_get_13 : decode b_S_get 13 = .ok (.getfield 81, 3) := by decide +kernel
theorem d_S_get_16 : decode b_S_get 16 = .ok (.iload_n 1, 1) := by decide +kernel
theorem d_S_get_17 : decode b_S_get 17 = .ok (.aaload, 1) := by decide +kernel
theorem d_S_get_18 : decode b_S_get 18 = .ok (.iload_n 2, 1) := by decide +kernel
theorem d_S_get_19 : decode b_S_get 19 = .ok (.iaload, 1) := by decide +kernel
theorem d_S_get_20 : decode b_S_get 20 = .ok (.ireturn, 1) := by decide +kernel
theorem d_S_size_0 : decode b_S_size 0 = .ok (.aload_n 0, 1) := by decide +kernel
theorem d_S_size_1 : decode b_S_size 1 = .ok (.getfield 28, 3) := by decide +kernel
theorem d_S_size_4 : decode b_S_size 4 = .ok (.iload_n 1, 1) := by decide +kernel
theorem d_S_size_5 : decode b_S_size 5 = .ok (.invokevirtual 64, 3) := by decide +kernel
theorem d_S_size_8 : decode b_S_size 8 = .ok (.ifCond .eq 14, 3) := by decide +kernel
theorem d_S_size_11 : decode b_S_size 11 = .ok (.aload_n 0, 1) := by decide +kernel
theorem d_S_size_12 : decode b_S_size 12 = .ok (.getfield 28, 3) := by decide +kernel
theorem d_S_size_15 : decode b_S_size 15 = .ok (.iload_n 1, 1) := by decide +kernel
theorem d_S_size_16 : decode b_S_size 16 = .ok (.invokevirtual 99, 3) := by decide +kernel
theorem d_S_size_19 : decode b_S_size 19 = .ok (.goto 4, 3) := by decide +kernel
theorem d_S_size_22 : decode b_S_size 22 = .ok (.iconst (-1), 1) := by decide +kernel
theorem d_S_size_23 : decode b_S_size 23 = .ok (.ireturn, 1) := by decide +kernel
theorem d_S_resolve_0 : decode b_S_resolve 0 = .ok (.aload_n 0, 1) := by decide +kernel
theorem d_S_resolve_1 : decode b_S_resolve 1 = .ok (.iload_n 1, 1) := by decide +kernel
theorem d_S_resolve_2 : decode b_S_resolve 2 = .ok (.invokevirtual 107, 3) := by decide +kernel
theorem d_S_resolve_5 : decode b_S_resolve 5 = .ok (.aload_n 0, 1) := by decide +kernel
theorem d_S_resolve_6 : decode b_S_resolve 6 = .ok (.iload_n 2, 1) := by decide +kernel
theorem d_S_resolve_7 : decode b_S_resolve 7 = .ok (.iconst 0, 1) := by decide +kernel
theorem d_S_resolve_8 : decode b_S_resolve 8 = .ok (.invokevirtual 48, 3) := by decide +kernel
theorem d_S_resolve_11 : decode b_S_resolve 11 = .ok (.aload_n 0, 1) := by decide +kernel
theorem d_S_resolve_12 : decode b_S_resolve 12 = .ok (.iload_n 3, 1) := by decide +kernel
theorem d_S_resolve_13 : decode b_S_resolve 13 = .ok (.iconst 1, 1) := by decide +kernel
theorem d_S_resolve_14 : decode b_S_resolve 14 = .ok (.invokevirtual 48, 3) := by decide +kernel
theorem d_S_resolve_17 : decode b_S_resolve 17 = .ok (.iload 4, 2) := by decide +kernel
theorem d_S_resolve_19 : decode b_S_resolve 19 = .ok (.invokestatic 75, 3) := by decide +kernel
theorem d_S_resolve_22 : decode b_S_resolve 22 = .ok (.aload_n 0, 1) := by decide +kernel
theorem d_S_resolve_23 : decode b_S_resolve 23 = .ok (.iload_n 1, 1) := by decide +kernel
theorem d_S_resolve_24 : decode b_S_resolve 24 = .ok (.iload_n 2, 1) := by decide +kernel
theorem d_S_resolve_25 : decode b_S_resolve 25 = .ok (.iload_n 3, 1) := by decide +kernel
theorem d_S_resolve_26 : decode b_S_resolve 26 = .ok (.iload 4, 2) := by decide +kernel
theorem d_S_resolve_28 : decode b_S_resolve 28 = .ok (.invokevirtual 117, 3) := by decide +kernel
theorem d_S_resolve_31 : decode b_S_resolve 31 = .ok (.ireturn, 1) := by decide +kernel
theorem d_S_differ_0 : decode b_S_differ 0 = .ok (.aload_n 0, 1) := by decide +kernel
theorem d_S_differ_1 : decode b_S_differ 1 = .ok (.iload_n 1, 1) := by decide +kernel
theorem d_S_differ_2 : decode b_S_differ 2 = .ok (.invokevirtual 107, 3) := by decide +kernel
theorem d_S_differ_5 : decode b_S_differ 5 = .ok (.aload_n 0, 1) := by decide +kernel
theorem d_S_differ_6 : decode b_S_differ 6 = .ok (.iload_n 2, 1) := by decide +kernel
theorem d_S_differ_7 : decode b_S_differ 7 = .ok (.invokevirtual 107, 3) := by decide +kernel
theorem d_S_differ_10 : decode b_S_differ 10 = .ok (.aload_n 0, 1) := by decide +kernel
theorem d_S_differ_11 : decode b_S_differ 11 = .ok (.iload_n 3, 1) := by decide +kernel
theorem d_S_differ_12 : decode b_S_differ 12 = .ok (.iconst 0, 1) := by decide +kernel
theorem d_S_differ_13 : decode b_S_differ 13 = .ok (.invokevirtual 48, 3) := by decide +kernel
theorem d_S_differ_16 : decode b_S_differ 16 = .ok (.aload_n 0, 1) := by decide +kernel
theorem d_S_differ_17 : decode b_S_differ 17 = .ok (.iload 4, 2) := by decide +kernel
theorem d_S_differ_19 : decode b_S_differ 19 = .ok (.iconst 1, 1) := by decide +kernel
theorem d_S_differ_20 : decode b_S_differ 20 = .ok (.invokevirtual 48, 3) := by decide +kernel
theorem d_S_differ_23 : decode b_S_differ 23 = .ok (.iconst 0, 1) := by decide +kernel
theorem d_S_differ_24 : decode b_S_differ 24 = .ok (.istore 5, 2) := by decide +kernel
theorem d_S_differ_26 : decode b_S_differ 26 = .ok (.iload 5, 2) := by decide +kernel
theorem d_S_differ_28 : decode b_S_differ 28 = .ok (.bipush 24, 2) := by decide +kernel
theorem d_S_differ_30 : decode b_S_differ 30 = .ok (.if_icmp .ge 35, 3) := by decide +kernel
theorem d_S_differ_33 : decode b_S_differ 33 = .ok (.aload_n 0, 1) := by decide +kernel
theorem d_S_differ_34 : decode b_S_differ 34 = .ok (.iload_n 1, 1) := by decide +kernel
theorem d_S_differ_35 : decode b_S_differ 35 = .ok (.iload_n 3, 1) := by decide +kernel
theorem d_S_differ_36 : decode b_S_differ 36 = .ok (.iload 4, 2) := by decide +kernel
theorem d_S_differ_38 : decode b_S_differ 38 = .ok (.iload 5, 2) := by decide +kernel
theorem d_S_differ_40 : decode b_S_differ 40 = .ok (.invokevirtual 117, 3) := by decide +kernel
theorem d_S_differ_43 : decode b_S_differ 43 = .ok (.aload_n 0, 1) := by decide +kernel
theorem d_S_differ_44 : decode b_S_differ 44 = .ok (.iload_n 2, 1) := by decide +kernel
theorem d_S_differ_45 : decode b_S_differ 45 = .ok (.iload_n 3, 1) := by decide +kernel
theorem d_S_differ_46 : decode b_S_differ 46 = .ok (.iload 4, 2) := by decide +kernel
theorem d_S_differ_48 : decode b_S_differ 48 = .ok (.iload 5, 2) := by decide +kernel
theorem d_S_differ_50 : decode b_S_differ 50 = .ok (.invokevirtual 117, 3) := by decide +kernel
theorem d_S_differ_53 : decode b_S_differ 53 = .ok (.if_icmp .eq 6, 3) := by decide +kernel
theorem d_S_differ_56 : decode b_S_differ 56 = .ok (.iload 5, 2) := by decide +kernel
theorem d_S_differ_58 : decode b_S_differ 58 = .ok (.ireturn, 1) := by decide +kernel
theorem d_S_differ_59 : decode b_S_differ 59 = .ok (.iinc 5 1, 3) := by decide +kernel
theorem d_S_differ_62 : decode b_S_differ 62 = .ok (.goto (-36), 3) := by decide +kernel
theorem d_S_differ_65 : decode b_S_differ 65 = .ok (.iconst (-1), 1) := by decide +kernel
theorem d_S_differ_66 : decode b_S_differ 66 = .ok (.ireturn, 1) := by decide +kernel
theorem d_S_mark_0 : decode b_S_mark 0 = .ok (.aload_n 0, 1) := by decide +kernel
theorem d_S_mark_1 : decode b_S_mark 1 = .ok (.iload_n 1, 1) := by decide +kernel
theorem d_S_mark_2 : decode b_S_mark 2 = .ok (.invokevirtual 107, 3) := by decide +kernel
theorem d_S_mark_5 : decode b_S_mark 5 = .ok (.aload_n 0, 1) := by decide +kernel
theorem d_S_mark_6 : decode b_S_mark 6 = .ok (.getfield 34, 3) := by decide +kernel
theorem d_S_mark_9 : decode b_S_mark 9 = .ok (.iload_n 1, 1) := by decide +kernel
theorem d_S_mark_10 : decode b_S_mark 10 = .ok (.iconst 1, 1) := by decide +kernel
theorem d_S_mark_11 : decode b_S_mark 11 = .ok (.bastore, 1) := by decide +kernel
theorem d_S_mark_12 : decode b_S_mark 12 = .ok (.iconst 0, 1) := by decide +kernel
theorem d_S_mark_13 : decode b_S_mark 13 = .ok (.istore_n 2, 1) := by decide +kernel
theorem d_S_mark_14 : decode b_S_mark 14 = .ok (.iconst 0, 1) := by decide +kernel
theorem d_S_mark_15 : decode b_S_mark 15 = .ok (.istore_n 3, 1) := by decide +kernel
theorem d_S_mark_16 : decode b_S_mark 16 = .ok (.iload_n 3, 1) := by decide +kernel
theorem d_S_mark_17 : decode b_S_mark 17 = .ok (.sipush 256, 3) := by decide +kernel
theorem d_S_mark_20 : decode b_S_mark 20 = .ok (.if_icmp .ge 21, 3) := by decide +kernel
theorem d_S_mark_23 : decode b_S_mark 23 = .ok (.aload_n 0, 1) := by decide +kernel
theorem d_S_mark_24 : decode b_S_mark 24 = .ok (.getfield 34, 3) := by decide +kernel
theorem d_S_mark_27 : decode b_S_mark 27 = .ok (.iload_n 3, 1) := by decide +kernel
theorem d_S_mark_28 : decode b_S_mark 28 = .ok (.baload, 1) := by decide +kernel
theorem d_S_mark_29 : decode b_S_mark 29 = .ok (.ifCond .eq 6, 3) := by decide +kernel
theorem d_S_mark_32 : decode b_S_mark 32 = .ok (.iinc 2 1, 3) := by decide +kernel
theorem d_S_mark_35 : decode b_S_mark 35 = .ok (.iinc 3 1, 3) := by decide +kernel
theorem d_S_mark_38 : decode b_S_mark 38 = .ok (.goto (-22), 3) := by decide +kernel
theorem d_S_mark_41 : decode b_S_mark 41 = .ok (.iload_n 2, 1) := by decide +kernel
theorem d_S_mark_42 : decode b_S_mark 42 = .ok (.ireturn, 1) := by decide +kernel
theorem d_S_sweep_0 : decode b_S_sweep 0 = .ok (.iconst 0, 1) := by decide +kernel
theorem d_S_sweep_1 : decode b_S_sweep 1 = .ok (.istore_n 1, 1) := by decide +kernel
theorem d_S_sweep_2 : decode b_S_sweep 2 = .ok (.iconst 0, 1) := by decide +kernel
theorem d_S_sweep_3 : decode b_S_sweep 3 = .ok (.istore_n 2, 1) := by decide +kernel
theorem d_S_sweep_4 : decode b_S_sweep 4 = .ok (.iload_n 2, 1) := by decide +kernel
theorem d_S_sweep_5 : decode b_S_sweep 5 = .ok (.sipush 256, 3) := by decide +kernel
theorem d_S_sweep_8 : decode b_S_sweep 8 = .ok (.if_icmp .ge 51, 3) := by decide +kernel
theorem d_S_sweep_11 : decode b_S_sweep 11 = .ok (.iload_n 2, 1) := by decide +kernel
theorem d_S_sweep_12 : decode b_S_sweep 12 = .ok (.ifCond .eq 34, 3) := by decide +kernel
theorem d_S_sweep_15 : decode b_S_sweep 15 = .ok (.aload_n 0, 1) := by decide +kernel
theorem d_S_sweep_16 : decode b_S_sweep 16 = .ok (.getfield 28, 3) := by decide +kernel
theorem d_S_sweep_19 : decode b_S_sweep 19 = .ok (.iload_n 2, 1) := by decide +kernel
theorem d_S_sweep_20 : decode b_S_sweep 20 = .ok (.invokevirtual 64, 3) := by decide +kernel
theorem d_S_sweep_23 : decode b_S_sweep 23 = .ok (.ifCond .eq 23, 3) := by decide +kernel
theorem d_S_sweep_26 : decode b_S_sweep 26 = .ok (.aload_n 0, 1) := by decide +kernel
theorem d_S_sweep_27 : decode b_S_sweep 27 = .ok (.getfield 34, 3) := by decide +kernel
theorem d_S_sweep_30 : decode b_S_sweep 30 = .ok (.iload_n 2, 1) := by decide +kernel
theorem d_S_sweep_31 : decode b_S_sweep 31 = .ok (.baload, 1) := by decide +kernel
theorem d_S_sweep_32 : decode b_S_sweep 32 = .ok (.ifCond .ne 14, 3) := by decide +kernel
theorem d_S_sweep_35 : decode b_S_sweep 35 = .ok (.aload_n 0, 1) := by decide +kernel
theorem d_S_sweep_36 : decode b_S_sweep 36 = .ok (.getfield 28, 3) := by decide +kernel
theorem d_S_sweep_39 : decode b_S_sweep 39 = .ok (.iload_n 2, 1) := by decide +kernel
theorem d_S_sweep_40 : decode b_S_sweep 40 = .ok (.invokevirtual 68, 3) := by decide +kernel
theorem d_S_sweep_43 : decode b_S_sweep 43 = .ok (.iinc 1 1, 3) := by decide +kernel
theorem d_S_sweep_46 : decode b_S_sweep 46 = .ok (.aload_n 0, 1) := by decide +kernel
theorem d_S_sweep_47 : decode b_S_sweep 47 = .ok (.getfield 34, 3) := by decide +kernel
theorem d_S_sweep_50 : decode b_S_sweep 50 = .ok (.iload_n 2, 1) := by decide +kernel
theorem d_S_sweep_51 : decode b_S_sweep 51 = .ok (.iconst 0, 1) := by decide +kernel
theorem d_S_sweep_52 : decode b_S_sweep 52 = .ok (.bastore, 1) := by decide +kernel
theorem d_S_sweep_53 : decode b_S_sweep 53 = .ok (.iinc 2 1, 3) := by decide +kernel
theorem d_S_sweep_56 : decode b_S_sweep 56 = .ok (.goto (-52), 3) := by decide +kernel
theorem d_S_sweep_59 : decode b_S_sweep 59 = .ok (.iload_n 1, 1) := by decide +kernel
theorem d_S_sweep_60 : decode b_S_sweep 60 = .ok (.ireturn, 1) := by decide +kernel
theorem d_S_count_0 : decode b_S_count 0 = .ok (.iload_n 1, 1) := by decide +kernel
theorem d_S_count_1 : decode b_S_count 1 = .ok (.tableswitch 72 0 4 #[35, 43, 51, 59, 67], 35) := by decide +kernel
theorem d_S_count_36 : decode b_S_count 36 = .ok (.aload_n 0, 1) := by decide +kernel
theorem d_S_count_37 : decode b_S_count 37 = .ok (.getfield 14, 3) := by decide +kernel
theorem d_S_count_40 : decode b_S_count 40 = .ok (.invokevirtual 121, 3) := by decide +kernel
theorem d_S_count_43 : decode b_S_count 43 = .ok (.ireturn, 1) := by decide +kernel
theorem d_S_count_44 : decode b_S_count 44 = .ok (.aload_n 0, 1) := by decide +kernel
theorem d_S_count_45 : decode b_S_count 45 = .ok (.getfield 28, 3) := by decide +kernel
theorem d_S_count_48 : decode b_S_count 48 = .ok (.invokevirtual 121, 3) := by decide +kernel
theorem d_S_count_51 : decode b_S_count 51 = .ok (.ireturn, 1) := by decide +kernel
theorem d_S_count_52 : decode b_S_count 52 = .ok (.aload_n 0, 1) := by decide +kernel
theorem d_S_count_53 : decode b_S_count 53 = .ok (.getfield 14, 3) := by decide +kernel
theorem d_S_count_56 : decode b_S_count 56 = .ok (.invokevirtual 124, 3) := by decide +kernel
theorem d_S_count_59 : decode b_S_count 59 = .ok (.ireturn, 1) := by decide +kernel
theorem d_S_count_60 : decode b_S_count 60 = .ok (.aload_n 0, 1) := by decide +kernel
theorem d_S_count_61 : decode b_S_count 61 = .ok (.getfield 28, 3) := by decide +kernel
theorem d_S_count_64 : decode b_S_count 64 = .ok (.invokevirtual 124, 3) := by decide +kernel
theorem d_S_count_67 : decode b_S_count 67 = .ok (.ireturn, 1) := by decide +kernel
theorem d_S_count_68 : decode b_S_count 68 = .ok (.aload_n 0, 1) := by decide +kernel
theorem d_S_count_69 : decode b_S_count 69 = .ok (.invokevirtual 127, 3) := by decide +kernel
theorem d_S_count_72 : decode b_S_count 72 = .ok (.ireturn, 1) := by decide +kernel
theorem d_S_count_73 : decode b_S_count 73 = .ok (.iconst (-1), 1) := by decide +kernel
theorem d_S_count_74 : decode b_S_count 74 = .ok (.ireturn, 1) := by decide +kernel
theorem d_S_requireStyle_0 : decode b_S_requireStyle 0 = .ok (.aload_n 0, 1) := by decide +kernel
theorem d_S_requireStyle_1 : decode b_S_requireStyle 1 = .ok (.getfield 14, 3) := by decide +kernel
theorem d_S_requireStyle_4 : decode b_S_requireStyle 4 = .ok (.iload_n 1, 1) := by decide +kernel
theorem d_S_requireStyle_5 : decode b_S_requireStyle 5 = .ok (.invokevirtual 64, 3) := by decide +kernel
theorem d_S_requireStyle_8 : decode b_S_requireStyle 8 = .ok (.ifCond .ne 13, 3) := by decide +kernel
theorem d_S_requireStyle_11 : decode b_S_requireStyle 11 = .ok (.new 130, 3) := by decide +kernel
theorem d_S_requireStyle_14 : decode b_S_requireStyle 14 = .ok (.dup, 1) := by decide +kernel
theorem d_S_requireStyle_15 : decode b_S_requireStyle 15 = .ok (.ldc 132, 2) := by decide +kernel
theorem d_S_requireStyle_17 : decode b_S_requireStyle 17 = .ok (.invokespecial 134, 3) := by decide +kernel
theorem d_S_requireStyle_20 : decode b_S_requireStyle 20 = .ok (.athrow, 1) := by decide +kernel
theorem d_S_requireStyle_21 : decode b_S_requireStyle 21 = .ok (.return_, 1) := by decide +kernel
theorem d_S_requireSet_0 : decode b_S_requireSet 0 = .ok (.aload_n 0, 1) := by decide +kernel
theorem d_S_requireSet_1 : decode b_S_requireSet 1 = .ok (.getfield 28, 3) := by decide +kernel
theorem d_S_requireSet_4 : decode b_S_requireSet 4 = .ok (.iload_n 1, 1) := by decide +kernel
theorem d_S_requireSet_5 : decode b_S_requireSet 5 = .ok (.invokevirtual 64, 3) := by decide +kernel
theorem d_S_requireSet_8 : decode b_S_requireSet 8 = .ok (.ifCond .ne 13, 3) := by decide +kernel
theorem d_S_requireSet_11 : decode b_S_requireSet 11 = .ok (.new 130, 3) := by decide +kernel
theorem d_S_requireSet_14 : decode b_S_requireSet 14 = .ok (.dup, 1) := by decide +kernel
theorem d_S_requireSet_15 : decode b_S_requireSet 15 = .ok (.ldc 135, 2) := by decide +kernel
theorem d_S_requireSet_17 : decode b_S_requireSet 17 = .ok (.invokespecial 134, 3) := by decide +kernel
theorem d_S_requireSet_20 : decode b_S_requireSet 20 = .ok (.athrow, 1) := by decide +kernel
theorem d_S_requireSet_21 : decode b_S_requireSet 21 = .ok (.return_, 1) := by decide +kernel
theorem d_S_requireNoneOrOfKind_0 : decode b_S_requireNoneOrOfKind 0 = .ok (.iload_n 1, 1) := by decide +kernel
theorem d_S_requireNoneOrOfKind_1 : decode b_S_requireNoneOrOfKind 1 = .ok (.iconst (-1), 1) := by decide +kernel
theorem d_S_requireNoneOrOfKind_2 : decode b_S_requireNoneOrOfKind 2 = .ok (.if_icmp .eq 34, 3) := by decide +kernel
theorem d_S_requireNoneOrOfKind_5 : decode b_S_requireNoneOrOfKind 5 = .ok (.aload_n 0, 1) := by decide +kernel
theorem d_S_requireNoneOrOfKind_6 : decode b_S_requireNoneOrOfKind 6 = .ok (.getfield 14, 3) := by decide +kernel
theorem d_S_requireNoneOrOfKind_9 : decode b_S_requireNoneOrOfKind 9 = .ok (.iload_n 1, 1) := by decide +kernel
theorem d_S_requireNoneOrOfKind_10 : decode b_S_requireNoneOrOfKind 10 = .ok (.invokevirtual 64, 3) := by decide +kernel
theorem d_S_requireNoneOrOfKind_13 : decode b_S_requireNoneOrOfKind 13 = .ok (.ifCond .eq 13, 3) := by decide +kernel
theorem d_S_requireNoneOrOfKind_16 : decode b_S_requireNoneOrOfKind 16 = .ok (.aload_n 0, 1) := by decide +kernel
theorem d_S_requireNoneOrOfKind_17 : decode b_S_requireNoneOrOfKind 17 = .ok (.getfield 18, 3) := by decide +kernel
theorem d_S_requireNoneOrOfKind_20 : decode b_S_requireNoneOrOfKind 20 = .ok (.iload_n 1, 1) := by decide +kernel
theorem d_S_requireNoneOrOfKind_21 : decode b_S_requireNoneOrOfKind 21 = .ok (.iaload, 1) := by decide +kernel
theorem d_S_requireNoneOrOfKind_22 : decode b_S_requireNoneOrOfKind 22 = .ok (.iload_n 2, 1) := by decide +kernel
theorem d_S_requireNoneOrOfKind_23 : decode b_S_requireNoneOrOfKind 23 = .ok (.if_icmp .eq 13, 3) := by decide +kernel
theorem d_S_requireNoneOrOfKind_26 : decode b_S_requireNoneOrOfKind 26 = .ok (.new 41, 3) := by decide +kernel
theorem d_S_requireNoneOrOfKind_29 : decode b_S_requireNoneOrOfKind 29 = .ok (.dup, 1) := by decide +kernel
theorem d_S_requireNoneOrOfKind_30 : decode b_S_requireNoneOrOfKind 30 = .ok (.ldc 137, 2) := by decide +kernel
theorem d_S_requireNoneOrOfKind_32 : decode b_S_requireNoneOrOfKind 32 = .ok (.invokespecial 45, 3) := by decide +kernel
theorem d_S_requireNoneOrOfKind_35 : decode b_S_requireNoneOrOfKind 35 = .ok (.athrow, 1) := by decide +kernel
theorem d_S_requireNoneOrOfKind_36 : decode b_S_requireNoneOrOfKind 36 = .ok (.return_, 1) := by decide +kernel
theorem d_S_requireProperty_0 : decode b_S_requireProperty 0 = .ok (.iload_n 0, 1) := by decide +kernel
theorem d_S_requireProperty_1 : decode b_S_requireProperty 1 = .ok (.ifCond .lt 9, 3) := by decide +kernel
theorem d_S_requireProperty_4 : decode b_S_requireProperty 4 = .ok (.iload_n 0, 1) := by decide +kernel
theorem d_S_requireProperty_5 : decode b_S_requireProperty 5 = .ok (.bipush 24, 2) := by decide +kernel
theorem d_S_requireProperty_7 : decode b_S_requireProperty 7 = .ok (.if_icmp .lt 13, 3) := by decide +kernel
theorem d_S_requireProperty_10 : decode b_S_requireProperty 10 = .ok (.new 41, 3) := by decide +kernel
theorem d_S_requireProperty_13 : decode b_S_requireProperty 13 = .ok (.dup, 1) := by decide +kernel
theorem d_S_requireProperty_14 : decode b_S_requireProperty 14 = .ok (.ldc 139, 2) := by decide +kernel
theorem d_S_requireProperty_16 : decode b_S_requireProperty 16 = .ok (.invokespecial 45, 3) := by decide +kernel
theorem d_S_requireProperty_19 : decode b_S_requireProperty 19 = .ok (.athrow, 1) := by decide +kernel
theorem d_S_requireProperty_20 : decode b_S_requireProperty 20 = .ok (.return_, 1) := by decide +kernel
theorem d_S_requireNoneOrValue_0 : decode b_S_requireNoneOrValue 0 = .ok (.iload_n 1, 1) := by decide +kernel
theorem d_S_requireNoneOrValue_1 : decode b_S_requireNoneOrValue 1 = .ok (.iconst (-1), 1) := by decide +kernel
theorem d_S_requireNoneOrValue_2 : decode b_S_requireNoneOrValue 2 = .ok (.if_icmp .eq 8, 3) := by decide +kernel
theorem d_S_requireNoneOrValue_5 : decode b_S_requireNoneOrValue 5 = .ok (.iload_n 0, 1) := by decide +kernel
theorem d_S_requireNoneOrValue_6 : decode b_S_requireNoneOrValue 6 = .ok (.iload_n 1, 1) := by decide +kernel
theorem d_S_requireNoneOrValue_7 : decode b_S_requireNoneOrValue 7 = .ok (.invokestatic 104, 3) := by decide +kernel
theorem d_S_requireNoneOrValue_10 : decode b_S_requireNoneOrValue 10 = .ok (.return_, 1) := by decide +kernel
theorem d_S_requireValue_0 : decode b_S_requireValue 0 = .ok (.iload_n 1, 1) := by decide +kernel
theorem d_S_requireValue_1 : decode b_S_requireValue 1 = .ok (.ifCond .lt 11, 3) := by decide +kernel
theorem d_S_requireValue_4 : decode b_S_requireValue 4 = .ok (.iload_n 1, 1) := by decide +kernel
theorem d_S_requireValue_5 : decode b_S_requireValue 5 = .ok (.iload_n 0, 1) := by decide +kernel
theorem d_S_requireValue_6 : decode b_S_requireValue 6 = .ok (.invokestatic 141, 3) := by decide +kernel
theorem d_S_requireValue_9 : decode b_S_requireValue 9 = .ok (.if_icmp .le 13, 3) := by decide +kernel
theorem d_S_requireValue_12 : decode b_S_requireValue 12 = .ok (.new 41, 3) := by decide +kernel
theorem d_S_requireValue_15 : decode b_S_requireValue 15 = .ok (.dup, 1) := by decide +kernel
theorem d_S_requireValue_16 : decode b_S_requireValue 16 = .ok (.ldc 144, 2) := by decide +kernel
theorem d_S_requireValue_18 : decode b_S_requireValue 18 = .ok (.invokespecial 45, 3) := by decide +kernel
theorem d_S_requireValue_21 : decode b_S_requireValue 21 = .ok (.athrow, 1) := by decide +kernel
theorem d_S_requireValue_22 : decode b_S_requireValue 22 = .ok (.return_, 1) := by decide +kernel
theorem d_S_greatest_0 : decode b_S_greatest 0 = .ok (.iload_n 0, 1) := by decide +kernel
theorem d_S_greatest_1 : decode b_S_greatest 1 = .ok (.bipush 8, 2) := by decide +kernel
theorem d_S_greatest_3 : decode b_S_greatest 3 = .ok (.if_icmp .ge 5, 3) := by decide +kernel
theorem d_S_greatest_6 : decode b_S_greatest 6 = .ok (.iconst 1, 1) := by decide +kernel
theorem d_S_greatest_7 : decode b_S_greatest 7 = .ok (.ireturn, 1) := by decide +kernel
theorem d_S_greatest_8 : decode b_S_greatest 8 = .ok (.iload_n 0, 1) := by decide +kernel
theorem d_S_greatest_9 : decode b_S_greatest 9 = .ok (.bipush 16, 2) := by decide +kernel
theorem d_S_greatest_11 : decode b_S_greatest 11 = .ok (.if_icmp .ge 9, 3) := by decide +kernel
theorem d_S_greatest_14 : decode b_S_greatest 14 = .ok (.sipush 255, 3) := by decide +kernel
theorem d_S_greatest_17 : decode b_S_greatest 17 = .ok (.goto 5, 3) := by decide +kernel
theorem d_S_greatest_20 : decode b_S_greatest 20 = .ok (.ldc 146, 2) := by decide +kernel
theorem d_S_greatest_22 : decode b_S_greatest 22 = .ok (.ireturn, 1) := by decide +kernel
theorem d_S_giverOnChain_0 : decode b_S_giverOnChain 0 = .ok (.iload_n 1, 1) := by decide +kernel
theorem d_S_giverOnChain_1 : decode b_S_giverOnChain 1 = .ok (.istore_n 3, 1) := by decide +kernel
theorem d_S_giverOnChain_2 : decode b_S_giverOnChain 2 = .ok (.iconst 0, 1) := by decide +kernel
theorem d_S_giverOnChain_3 : decode b_S_giverOnChain 3 = .ok (.istore 4, 2) := by decide +kernel
theorem d_S_giverOnChain_5 : decode b_S_giverOnChain 5 = .ok (.iload 4, 2) := by decide +kernel
theorem d_S_giverOnChain_7 : decode b_S_giverOnChain 7 = .ok (.bipush 64, 2) := by decide +kernel
theorem d_S_giverOnChain_9 : decode b_S_giverOnChain 9 = .ok (.if_icmp .ge 44, 3) := by decide +kernel
theorem d_S_giverOnChain_12 : decode b_S_giverOnChain 12 = .ok (.aload_n 0, 1) := by decide +kernel
theorem d_S_giverOnChain_13 : decode b_S_giverOnChain 13 = .ok (.getfield 14, 3) := by decide +kernel
theorem d_S_giverOnChain_16 : decode b_S_giverOnChain 16 = .ok (.iload_n 3, 1) := by decide +kernel
theorem d_S_giverOnChain_17 : decode b_S_giverOnChain 17 = .ok (.invokevirtual 64, 3) := by decide +kernel
theorem d_S_giverOnChain_20 : decode b_S_giverOnChain 20 = .ok (.ifCond .eq 33, 3) := by decide +kernel
theorem d_S_giverOnChain_23 : decode b_S_giverOnChain 23 = .ok (.aload_n 0, 1) := by decide +kernel
theorem d_S_giverOnChain_24 : decode b_S_giverOnChain 24 = .ok (.getfield 14, 3) := by decide +kernel
theorem d_S_giverOnChain_27 : decode b_S_giverOnChain 27 = .ok (.getfield 81, 3) := by decide +kernel
theorem d_S_giverOnChain_30 : decode b_S_giverOnChain 30 = .ok (.iload_n 3, 1) := by decide +kernel
theorem d_S_giverOnChain_31 : decode b_S_giverOnChain 31 = .ok (.aaload, 1) := by decide +kernel
theorem d_S_giverOnChain_32 : decode b_S_giverOnChain 32 = .ok (.iload_n 2, 1) := by decide +kernel
theorem d_S_giverOnChain_33 : decode b_S_giverOnChain 33 = .ok (.iaload, 1) := by decide +kernel
theorem d_S_giverOnChain_34 : decode b_S_giverOnChain 34 = .ok (.iconst (-1), 1) := by decide +kernel
theorem d_S_giverOnChain_35 : decode b_S_giverOnChain 35 = .ok (.if_icmp .eq 5, 3) := by decide +kernel
theorem d_S_giverOnChain_38 : decode b_S_giverOnChain 38 = .ok (.iload_n 3, 1) := by decide +kernel
theorem d_S_giverOnChain_39 : decode b_S_giverOnChain 39 = .ok (.ireturn, 1) := by decide +kernel
theorem d_S_giverOnChain_40 : decode b_S_giverOnChain 40 = .ok (.aload_n 0, 1) := by decide +kernel
theorem d_S_giverOnChain_41 : decode b_S_giverOnChain 41 = .ok (.getfield 22, 3) := by decide +kernel
theorem d_S_giverOnChain_44 : decode b_S_giverOnChain 44 = .ok (.iload_n 3, 1) := by decide +kernel
theorem d_S_giverOnChain_45 : decode b_S_giverOnChain 45 = .ok (.iaload, 1) := by decide +kernel
theorem d_S_giverOnChain_46 : decode b_S_giverOnChain 46 = .ok (.istore_n 3, 1) := by decide +kernel
theorem d_S_giverOnChain_47 : decode b_S_giverOnChain 47 = .ok (.iinc 4 1, 3) := by decide +kernel
theorem d_S_giverOnChain_50 : decode b_S_giverOnChain 50 = .ok (.goto (-45), 3) := by decide +kernel
theorem d_S_giverOnChain_53 : decode b_S_giverOnChain 53 = .ok (.iconst (-1), 1) := by decide +kernel
theorem d_S_giverOnChain_54 : decode b_S_giverOnChain 54 = .ok (.ireturn, 1) := by decide +kernel
theorem d_S_chainLength_0 : decode b_S_chainLength 0 = .ok (.iload_n 1, 1) := by decide +kernel
theorem d_S_chainLength_1 : decode b_S_chainLength 1 = .ok (.istore_n 2, 1) := by decide +kernel
theorem d_S_chainLength_2 : decode b_S_chainLength 2 = .ok (.iconst 0, 1) := by decide +kernel
theorem d_S_chainLength_3 : decode b_S_chainLength 3 = .ok (.istore_n 3, 1) := by decide +kernel
theorem d_S_chainLength_4 : decode b_S_chainLength 4 = .ok (.iload_n 3, 1) := by decide +kernel
theorem d_S_chainLength_5 : decode b_S_chainLength 5 = .ok (.bipush 64, 2) := by decide +kernel
theorem d_S_chainLength_7 : decode b_S_chainLength 7 = .ok (.if_icmp .ge 27, 3) := by decide +kernel
theorem d_S_chainLength_10 : decode b_S_chainLength 10 = .ok (.aload_n 0, 1) := by decide +kernel
theorem d_S_chainLength_11 : decode b_S_chainLength 11 = .ok (.getfield 14, 3) := by decide +kernel
theorem d_S_chainLength_14 : decode b_S_chainLength 14 = .ok (.iload_n 2, 1) := by decide +kernel
theorem d_S_chainLength_15 : decode b_S_chainLength 15 = .ok (.invokevirtual 64, 3) := by decide +kernel
theorem d_S_chainLength_18 : decode b_S_chainLength 18 = .ok (.ifCond .eq 16, 3) := by decide +kernel
theorem d_S_chainLength_21 : decode b_S_chainLength 21 = .ok (.iinc 3 1, 3) := by decide +kernel
theorem d_S_chainLength_24 : decode b_S_chainLength 24 = .ok (.aload_n 0, 1) := by decide +kernel
theorem d_S_chainLength_25 : decode b_S_chainLength 25 = .ok (.getfield 22, 3) := by decide +kernel
theorem d_S_chainLength_28 : decode b_S_chainLength 28 = .ok (.iload_n 2, 1) := by decide +kernel
theorem d_S_chainLength_29 : decode b_S_chainLength 29 = .ok (.iaload, 1) := by decide +kernel
theorem d_S_chainLength_30 : decode b_S_chainLength 30 = .ok (.istore_n 2, 1) := by decide +kernel
theorem d_S_chainLength_31 : decode b_S_chainLength 31 = .ok (.goto (-27), 3) := by decide +kernel
theorem d_S_chainLength_34 : decode b_S_chainLength 34 = .ok (.iload_n 3, 1) := by decide +kernel
theorem d_S_chainLength_35 : decode b_S_chainLength 35 = .ok (.ireturn, 1) := by decide +kernel
theorem d_S_isOnChain_0 : decode b_S_isOnChain 0 = .ok (.iload_n 2, 1) := by decide +kernel
theorem d_S_isOnChain_1 : decode b_S_isOnChain 1 = .ok (.istore_n 3, 1) := by decide +kernel
theorem d_S_isOnChain_2 : decode b_S_isOnChain 2 = .ok (.iconst 0, 1) := by decide +kernel
theorem d_S_isOnChain_3 : decode b_S_isOnChain 3 = .ok (.istore 4, 2) := by decide +kernel
theorem d_S_isOnChain_5 : decode b_S_isOnChain 5 = .ok (.iload 4, 2) := by decide +kernel
theorem d_S_isOnChain_7 : decode b_S_isOnChain 7 = .ok (.bipush 64, 2) := by decide +kernel
theorem d_S_isOnChain_9 : decode b_S_isOnChain 9 = .ok (.if_icmp .ge 34, 3) := by decide +kernel
theorem d_S_isOnChain_12 : decode b_S_isOnChain 12 = .ok (.aload_n 0, 1) := by decide +kernel
theorem d_S_isOnChain_13 : decode b_S_isOnChain 13 = .ok (.getfield 14, 3) := by decide +kernel
theorem d_S_isOnChain_16 : decode b_S_isOnChain 16 = .ok (.iload_n 3, 1) := by decide +kernel
theorem d_S_isOnChain_17 : decode b_S_isOnChain 17 = .ok (.invokevirtual 64, 3) := by decide +kernel
theorem d_S_isOnChain_20 : decode b_S_isOnChain 20 = .ok (.ifCond .eq 23, 3) := by decide +kernel
theorem d_S_isOnChain_23 : decode b_S_isOnChain 23 = .ok (.iload_n 3, 1) := by decide +kernel
theorem d_S_isOnChain_24 : decode b_S_isOnChain 24 = .ok (.iload_n 1, 1) := by decide +kernel
theorem d_S_isOnChain_25 : decode b_S_isOnChain 25 = .ok (.if_icmp .ne 5, 3) := by decide +kernel
theorem d_S_isOnChain_28 : decode b_S_isOnChain 28 = .ok (.iconst 1, 1) := by decide +kernel
theorem d_S_isOnChain_29 : decode b_S_isOnChain 29 = .ok (.ireturn, 1) := by decide +kernel
theorem d_S_isOnChain_30 : decode b_S_isOnChain 30 = .ok (.aload_n 0, 1) := by decide +kernel
theorem d_S_isOnChain_31 : decode b_S_isOnChain 31 = .ok (.getfield 22, 3) := by decide +kernel
theorem d_S_isOnChain_34 : decode b_S_isOnChain 34 = .ok (.iload_n 3, 1) := by decide +kernel
theorem d_S_isOnChain_35 : decode b_S_isOnChain 35 = .ok (.iaload, 1) := by decide +kernel
theorem d_S_isOnChain_36 : decode b_S_isOnChain 36 = .ok (.istore_n 3, 1) := by decide +kernel
theorem d_S_isOnChain_37 : decode b_S_isOnChain 37 = .ok (.iinc 4 1, 3) := by decide +kernel
theorem d_S_isOnChain_40 : decode b_S_isOnChain 40 = .ok (.goto (-35), 3) := by decide +kernel
theorem d_S_isOnChain_43 : decode b_S_isOnChain 43 = .ok (.iconst 0, 1) := by decide +kernel
theorem d_S_isOnChain_44 : decode b_S_isOnChain 44 = .ok (.ireturn, 1) := by decide +kernel
theorem d_S_othersBuiltOn_0 : decode b_S_othersBuiltOn 0 = .ok (.iconst 0, 1) := by decide +kernel
theorem d_S_othersBuiltOn_1 : decode b_S_othersBuiltOn 1 = .ok (.istore_n 2, 1) := by decide +kernel
theorem d_S_othersBuiltOn_2 : decode b_S_othersBuiltOn 2 = .ok (.iconst 0, 1) := by decide +kernel
theorem d_S_othersBuiltOn_3 : decode b_S_othersBuiltOn 3 = .ok (.istore_n 3, 1) := by decide +kernel
theorem d_S_othersBuiltOn_4 : decode b_S_othersBuiltOn 4 = .ok (.iload_n 3, 1) := by decide +kernel
theorem d_S_othersBuiltOn_5 : decode b_S_othersBuiltOn 5 = .ok (.bipush 64, 2) := by decide +kernel
theorem d_S_othersBuiltOn_7 : decode b_S_othersBuiltOn 7 = .ok (.if_icmp .ge 26, 3) := by decide +kernel
theorem d_S_othersBuiltOn_10 : decode b_S_othersBuiltOn 10 = .ok (.iload_n 3, 1) := by decide +kernel
theorem d_S_othersBuiltOn_11 : decode b_S_othersBuiltOn 11 = .ok (.iload_n 1, 1) := by decide +kernel
theorem d_S_othersBuiltOn_12 : decode b_S_othersBuiltOn 12 = .ok (.if_icmp .eq 15, 3) := by decide +kernel
theorem d_S_othersBuiltOn_15 : decode b_S_othersBuiltOn 15 = .ok (.aload_n 0, 1) := by decide +kernel
theorem d_S_othersBuiltOn_16 : decode b_S_othersBuiltOn 16 = .ok (.iload_n 1, 1) := by decide +kernel
theorem d_S_othersBuiltOn_17 : decode b_S_othersBuiltOn 17 = .ok (.iload_n 3, 1) := by decide +kernel
theorem d_S_othersBuiltOn_18 : decode b_S_othersBuiltOn 18 = .ok (.invokevirtual 71, 3) := by decide +kernel
theorem d_S_othersBuiltOn_21 : decode b_S_othersBuiltOn 21 = .ok (.ifCond .eq 6, 3) := by decide +kernel
theorem d_S_othersBuiltOn_24 : decode b_S_othersBuiltOn 24 = .ok (.iinc 2 1, 3) := by decide +kernel
theorem d_S_othersBuiltOn_27 : decode b_S_othersBuiltOn 27 = .ok (.iinc 3 1, 3) := by decide +kernel
theorem d_S_othersBuiltOn_30 : decode b_S_othersBuiltOn 30 = .ok (.goto (-26), 3) := by decide +kernel
theorem d_S_othersBuiltOn_33 : decode b_S_othersBuiltOn 33 = .ok (.iload_n 2, 1) := by decide +kernel
theorem d_S_othersBuiltOn_34 : decode b_S_othersBuiltOn 34 = .ok (.ireturn, 1) := by decide +kernel
theorem d_S_longestChain_0 : decode b_S_longestChain 0 = .ok (.iconst 0, 1) := by decide +kernel
theorem d_S_longestChain_1 : decode b_S_longestChain 1 = .ok (.istore_n 1, 1) := by decide +kernel
theorem d_S_longestChain_2 : decode b_S_longestChain 2 = .ok (.iconst 0, 1) := by decide +kernel
theorem d_S_longestChain_3 : decode b_S_longestChain 3 = .ok (.istore_n 2, 1) := by decide +kernel
theorem d_S_longestChain_4 : decode b_S_longestChain 4 = .ok (.iload_n 2, 1) := by decide +kernel
theorem d_S_longestChain_5 : decode b_S_longestChain 5 = .ok (.bipush 64, 2) := by decide +kernel
theorem d_S_longestChain_7 : decode b_S_longestChain 7 = .ok (.if_icmp .ge 19, 3) := by decide +kernel
theorem d_S_longestChain_10 : decode b_S_longestChain 10 = .ok (.iload_n 1, 1) := by decide +kernel
theorem d_S_longestChain_11 : decode b_S_longestChain 11 = .ok (.aload_n 0, 1) := by decide +kernel
theorem d_S_longestChain_12 : decode b_S_longestChain 12 = .ok (.iload_n 2, 1) := by decide +kernel
theorem d_S_longestChain_13 : decode b_S_longestChain 13 = .ok (.invokevirtual 92, 3) := by decide +kernel
theorem d_S_longestChain_16 : decode b_S_longestChain 16 = .ok (.invokestatic 147, 3) := by decide +kernel
theorem d_S_longestChain_19 : decode b_S_longestChain 19 = .ok (.istore_n 1, 1) := by decide +kernel
theorem d_S_longestChain_20 : decode b_S_longestChain 20 = .ok (.iinc 2 1, 3) := by decide +kernel
theorem d_S_longestChain_23 : decode b_S_longestChain 23 = .ok (.goto (-19), 3) := by decide +kernel
theorem d_S_longestChain_26 : decode b_S_longestChain 26 = .ok (.iload_n 1, 1) := by decide +kernel
theorem d_S_longestChain_27 : decode b_S_longestChain 27 = .ok (.ireturn, 1) := by decide +kernel
theorem d_S_valueByChain_0 : decode b_S_valueByChain 0 = .ok (.aload_n 0, 1) := by decide +kernel
theorem d_S_valueByChain_1 : decode b_S_valueByChain 1 = .ok (.iload_n 1, 1) := by decide +kernel
theorem d_S_valueByChain_2 : decode b_S_valueByChain 2 = .ok (.iload_n 2, 1) := by decide +kernel
theorem d_S_valueByChain_3 : decode b_S_valueByChain 3 = .ok (.invokevirtual 89, 3) := by decide +kernel
theorem d_S_valueByChain_6 : decode b_S_valueByChain 6 = .ok (.istore_n 3, 1) := by decide +kernel
theorem d_S_valueByChain_7 : decode b_S_valueByChain 7 = .ok (.iload_n 3, 1) := by decide +kernel
theorem d_S_valueByChain_8 : decode b_S_valueByChain 8 = .ok (.iconst (-1), 1) := by decide +kernel
theorem d_S_valueByChain_9 : decode b_S_valueByChain 9 = .ok (.if_icmp .ne 7, 3) := by decide +kernel
theorem d_S_valueByChain_12 : decode b_S_valueByChain 12 = .ok (.iconst (-1), 1) := by decide +kernel
theorem d_S_valueByChain_13 : decode b_S_valueByChain 13 = .ok (.goto 14, 3) := by decide +kernel
theorem d_S_valueByChain_16 : decode b_S_valueByChain 16 = .ok (.aload_n 0, 1) := by decide +kernel
theorem d_S_valueByChain_17 : decode b_S_valueByChain 17 = .ok (.getfield 14, 3) := by decide +kernel
theorem d_S_valueByChain_20 : decode b_S_valueByChain 20 = .ok (.getfield 81, 3) := by decide +kernel
theorem d_S_valueByChain_23 : decode b_S_valueByChain 23 = .ok (.iload_n 3, 1) := by decide +kernel
theorem d_S_valueByChain_24 : decode b_S_valueByChain 24 = .ok (.aaload, 1) := by decide +kernel
theorem d_S_valueByChain_25 : decode b_S_valueByChain 25 = .ok (.iload_n 2, 1) := by decide +kernel
theorem d_S_valueByChain_26 : decode b_S_valueByChain 26 = .ok (.iaload, 1) := by decide +kernel
theorem d_S_valueByChain_27 : decode b_S_valueByChain 27 = .ok (.ireturn, 1) := by decide +kernel
theorem d_S_resolved_0 : decode b_S_resolved 0 = .ok (.aload_n 0, 1) := by decide +kernel
theorem d_S_resolved_1 : decode b_S_resolved 1 = .ok (.getfield 28, 3) := by decide +kernel
theorem d_S_resolved_4 : decode b_S_resolved 4 = .ok (.getfield 81, 3) := by decide +kernel
theorem d_S_resolved_7 : decode b_S_resolved 7 = .ok (.iload_n 1, 1) := by decide +kernel
theorem d_S_resolved_8 : decode b_S_resolved 8 = .ok (.aaload, 1) := by decide +kernel
theorem d_S_resolved_9 : decode b_S_resolved 9 = .ok (.iload 4, 2) := by decide +kernel
theorem d_S_resolved_11 : decode b_S_resolved 11 = .ok (.iaload, 1) := by decide +kernel
theorem d_S_resolved_12 : decode b_S_resolved 12 = .ok (.istore 5, 2) := by decide +kernel
theorem d_S_resolved_14 : decode b_S_resolved 14 = .ok (.iload 5, 2) := by decide +kernel
theorem d_S_resolved_16 : decode b_S_resolved 16 = .ok (.iconst (-1), 1) := by decide +kernel
theorem d_S_resolved_17 : decode b_S_resolved 17 = .ok (.if_icmp .eq 8, 3) := by decide +kernel
theorem d_S_resolved_20 : decode b_S_resolved 20 = .ok (.iload 5, 2) := by decide +kernel
theorem d_S_resolved_22 : decode b_S_resolved 22 = .ok (.goto 11, 3) := by decide +kernel
theorem d_S_resolved_25 : decode b_S_resolved 25 = .ok (.aload_n 0, 1) := by decide +kernel
theorem d_S_resolved_26 : decode b_S_resolved 26 = .ok (.iload_n 2, 1) := by decide +kernel
theorem d_S_resolved_27 : decode b_S_resolved 27 = .ok (.iload_n 3, 1) := by decide +kernel
theorem d_S_resolved_28 : decode b_S_resolved 28 = .ok (.iload 4, 2) := by decide +kernel
theorem d_S_resolved_30 : decode b_S_resolved 30 = .ok (.invokevirtual 113, 3) := by decide +kernel
theorem d_S_resolved_33 : decode b_S_resolved 33 = .ok (.ireturn, 1) := by decide +kernel
theorem d_S_resolvedByStyles_0 : decode b_S_resolvedByStyles 0 = .ok (.aload_n 0, 1) := by decide +kernel
theorem d_S_resolvedByStyles_1 : decode b_S_resolvedByStyles 1 = .ok (.iload_n 1, 1) := by decide +kernel
theorem d_S_resolvedByStyles_2 : decode b_S_resolvedByStyles 2 = .ok (.iload_n 3, 1) := by decide +kernel
theorem d_S_resolvedByStyles_3 : decode b_S_resolvedByStyles 3 = .ok (.invokevirtual 85, 3) := by decide +kernel
theorem d_S_resolvedByStyles_6 : decode b_S_resolvedByStyles 6 = .ok (.istore 4, 2) := by decide +kernel
theorem d_S_resolvedByStyles_8 : decode b_S_resolvedByStyles 8 = .ok (.iload 4, 2) := by decide +kernel
theorem d_S_resolvedByStyles_10 : decode b_S_resolvedByStyles 10 = .ok (.iconst (-1), 1) := by decide +kernel
theorem d_S_resolvedByStyles_11 : decode b_S_resolvedByStyles 11 = .ok (.if_icmp .eq 6, 3) := by decide +kernel
theorem d_S_resolvedByStyles_14 : decode b_S_resolvedByStyles 14 = .ok (.iload 4, 2) := by decide +kernel
theorem d_S_resolvedByStyles_16 : decode b_S_resolvedByStyles 16 = .ok (.ireturn, 1) := by decide +kernel
theorem d_S_resolvedByStyles_17 : decode b_S_resolvedByStyles 17 = .ok (.aload_n 0, 1) := by decide +kernel
theorem d_S_resolvedByStyles_18 : decode b_S_resolvedByStyles 18 = .ok (.iload_n 2, 1) := by decide +kernel
theorem d_S_resolvedByStyles_19 : decode b_S_resolvedByStyles 19 = .ok (.iload_n 3, 1) := by decide +kernel
theorem d_S_resolvedByStyles_20 : decode b_S_resolvedByStyles 20 = .ok (.invokevirtual 85, 3) := by decide +kernel
theorem d_S_resolvedByStyles_23 : decode b_S_resolvedByStyles 23 = .ok (.istore 5, 2) := by decide +kernel
theorem d_S_resolvedByStyles_25 : decode b_S_resolvedByStyles 25 = .ok (.iload 5, 2) := by decide +kernel
theorem d_S_resolvedByStyles_27 : decode b_S_resolvedByStyles 27 = .ok (.iconst (-1), 1) := by decide +kernel
theorem d_S_resolvedByStyles_28 : decode b_S_resolvedByStyles 28 = .ok (.if_icmp .eq 8, 3) := by decide +kernel
theorem d_S_resolvedByStyles_31 : decode b_S_resolvedByStyles 31 = .ok (.iload 5, 2) := by decide +kernel
theorem d_S_resolvedByStyles_33 : decode b_S_resolvedByStyles 33 = .ok (.goto 9, 3) := by decide +kernel
theorem d_S_resolvedByStyles_36 : decode b_S_resolvedByStyles 36 = .ok (.aload_n 0, 1) := by decide +kernel
theorem d_S_resolvedByStyles_37 : decode b_S_resolvedByStyles 37 = .ok (.getfield 25, 3) := by decide +kernel
theorem d_S_resolvedByStyles_40 : decode b_S_resolvedByStyles 40 = .ok (.iload_n 3, 1) := by decide +kernel
theorem d_S_resolvedByStyles_41 : decode b_S_resolvedByStyles 41 = .ok (.iaload, 1) := by decide +kernel
theorem d_S_resolvedByStyles_42 : decode b_S_resolvedByStyles 42 = .ok (.ireturn, 1) := by decide +kernel
theorem d_S_numberOfDraft_0 : decode b_S_numberOfDraft 0 = .ok (.aload_n 0, 1) := by decide +kernel
theorem d_S_numberOfDraft_1 : decode b_S_numberOfDraft 1 = .ok (.getfield 28, 3) := by decide +kernel
theorem d_S_numberOfDraft_4 : decode b_S_numberOfDraft 4 = .ok (.aload_n 0, 1) := by decide +kernel
theorem d_S_numberOfDraft_5 : decode b_S_numberOfDraft 5 = .ok (.getfield 38, 3) := by decide +kernel
theorem d_S_numberOfDraft_8 : decode b_S_numberOfDraft 8 = .ok (.invokevirtual 152, 3) := by decide +kernel
theorem d_S_numberOfDraft_11 : decode b_S_numberOfDraft 11 = .ok (.istore_n 1, 1) := by decide +kernel
theorem d_S_numberOfDraft_12 : decode b_S_numberOfDraft 12 = .ok (.iload_n 1, 1) := by decide +kernel
theorem d_S_numberOfDraft_13 : decode b_S_numberOfDraft 13 = .ok (.iconst (-1), 1) := by decide +kernel
theorem d_S_numberOfDraft_14 : decode b_S_numberOfDraft 14 = .ok (.if_icmp .eq 5, 3) := by decide +kernel
theorem d_S_numberOfDraft_17 : decode b_S_numberOfDraft 17 = .ok (.iload_n 1, 1) := by decide +kernel
theorem d_S_numberOfDraft_18 : decode b_S_numberOfDraft 18 = .ok (.ireturn, 1) := by decide +kernel
theorem d_S_numberOfDraft_19 : decode b_S_numberOfDraft 19 = .ok (.aload_n 0, 1) := by decide +kernel
theorem d_S_numberOfDraft_20 : decode b_S_numberOfDraft 20 = .ok (.getfield 28, 3) := by decide +kernel
theorem d_S_numberOfDraft_23 : decode b_S_numberOfDraft 23 = .ok (.invokevirtual 52, 3) := by decide +kernel
theorem d_S_numberOfDraft_26 : decode b_S_numberOfDraft 26 = .ok (.istore_n 2, 1) := by decide +kernel
theorem d_S_numberOfDraft_27 : decode b_S_numberOfDraft 27 = .ok (.iload_n 2, 1) := by decide +kernel
theorem d_S_numberOfDraft_28 : decode b_S_numberOfDraft 28 = .ok (.iconst (-1), 1) := by decide +kernel
theorem d_S_numberOfDraft_29 : decode b_S_numberOfDraft 29 = .ok (.if_icmp .ne 13, 3) := by decide +kernel
theorem d_S_numberOfDraft_32 : decode b_S_numberOfDraft 32 = .ok (.new 56, 3) := by decide +kernel
theorem d_S_numberOfDraft_35 : decode b_S_numberOfDraft 35 = .ok (.dup, 1) := by decide +kernel
theorem d_S_numberOfDraft_36 : decode b_S_numberOfDraft 36 = .ok (.ldc 156, 2) := by decide +kernel
theorem d_S_numberOfDraft_38 : decode b_S_numberOfDraft 38 = .ok (.invokespecial 60, 3) := by decide +kernel
theorem d_S_numberOfDraft_41 : decode b_S_numberOfDraft 41 = .ok (.athrow, 1) := by decide +kernel
theorem d_S_numberOfDraft_42 : decode b_S_numberOfDraft 42 = .ok (.aload_n 0, 1) := by decide +kernel
theorem d_S_numberOfDraft_43 : decode b_S_numberOfDraft 43 = .ok (.getfield 28, 3) := by decide +kernel
theorem d_S_numberOfDraft_46 : decode b_S_numberOfDraft 46 = .ok (.iload_n 2, 1) := by decide +kernel
theorem d_S_numberOfDraft_47 : decode b_S_numberOfDraft 47 = .ok (.invokevirtual 31, 3) := by decide +kernel
theorem d_S_numberOfDraft_50 : decode b_S_numberOfDraft 50 = .ok (.aload_n 0, 1) := by decide +kernel
theorem d_S_numberOfDraft_51 : decode b_S_numberOfDraft 51 = .ok (.getfield 38, 3) := by decide +kernel
theorem d_S_numberOfDraft_54 : decode b_S_numberOfDraft 54 = .ok (.iconst 0, 1) := by decide +kernel
theorem d_S_numberOfDraft_55 : decode b_S_numberOfDraft 55 = .ok (.aload_n 0, 1) := by decide +kernel
theorem d_S_numberOfDraft_56 : decode b_S_numberOfDraft 56 = .ok (.getfield 28, 3) := by decide +kernel
theorem d_S_numberOfDraft_59 : decode b_S_numberOfDraft 59 = .ok (.getfield 81, 3) := by decide +kernel
theorem d_S_numberOfDraft_62 : decode b_S_numberOfDraft 62 = .ok (.iload_n 2, 1) := by decide +kernel
theorem d_S_numberOfDraft_63 : decode b_S_numberOfDraft 63 = .ok (.aaload, 1) := by decide +kernel
theorem d_S_numberOfDraft_64 : decode b_S_numberOfDraft 64 = .ok (.iconst 0, 1) := by decide +kernel
theorem d_S_numberOfDraft_65 : decode b_S_numberOfDraft 65 = .ok (.bipush 24, 2) := by decide +kernel
theorem d_S_numberOfDraft_67 : decode b_S_numberOfDraft 67 = .ok (.invokestatic 158, 3) := by decide +kernel
theorem d_S_numberOfDraft_70 : decode b_S_numberOfDraft 70 = .ok (.iload_n 2, 1) := by decide +kernel
theorem d_S_numberOfDraft_71 : decode b_S_numberOfDraft 71 = .ok (.ireturn, 1) := by decide +kernel
theorem d_J_fill_0 : decode b_J_fill 0 = .ok (.iconst 0, 1) := by decide +kernel
theorem d_J_fill_1 : decode b_J_fill 1 = .ok (.istore_n 2, 1) := by decide +kernel
theorem d_J_fill_2 : decode b_J_fill 2 = .ok (.aload_n 0, 1) := by decide +kernel
theorem d_J_fill_3 : decode b_J_fill 3 = .ok (.arraylength, 1) := by decide +kernel
theorem d_J_fill_4 : decode b_J_fill 4 = .ok (.istore_n 3, 1) := by decide +kernel
theorem d_J_fill_5 : decode b_J_fill 5 = .ok (.iload_n 2, 1) := by decide +kernel
theorem d_J_fill_6 : decode b_J_fill 6 = .ok (.iload_n 3, 1) := by decide +kernel
theorem d_J_fill_7 : decode b_J_fill 7 = .ok (.if_icmp .ge 13, 3) := by decide +kernel
theorem d_J_fill_10 : decode b_J_fill 10 = .ok (.aload_n 0, 1) := by decide +kernel
theorem d_J_fill_11 : decode b_J_fill 11 = .ok (.iload_n 2, 1) := by decide +kernel
theorem d_J_fill_12 : decode b_J_fill 12 = .ok (.iload_n 1, 1) := by decide +kernel
theorem d_J_fill_13 : decode b_J_fill 13 = .ok (.iastore, 1) := by decide +kernel
theorem d_J_fill_14 : decode b_J_fill 14 = .ok (.iinc 2 1, 3) := by decide +kernel
theorem d_J_fill_17 : decode b_J_fill 17 = .ok (.goto (-12), 3) := by decide +kernel
theorem d_J_fill_20 : decode b_J_fill 20 = .ok (.return_, 1) := by decide +kernel
end
section
/-! decode rows -/
theorem d_M_init_0 : decode b_M_init 0 = .ok (.aload_n 0, 1) := by decide +kernel
theorem d_M_init_1 : decode b_M_init 1 = .ok (.invokespecial 1, 3) := by decide +kernel
theorem d_M_init_4 : decode b_M_init 4 = .ok (.aload_n 0, 1) := by decide +kernel
theorem d_M_init_5 : decode b_M_init 5 = .ok (.bipush 64, 2) := by decide +kernel
theorem d_M_init_7 : decode b_M_init 7 = .ok (.newarray .int, 2) := by decide +kernel
theorem d_M_init_9 : decode b_M_init 9 = .ok (.putfield 7, 3) := by decide +kernel
theorem d_M_init_12 : decode b_M_init 12 = .ok (.aload_n 0, 1) := by decide +kernel
theorem d_M_init_13 : decode b_M_init 13 = .ok (.bipush 64, 2) := by decide +kernel
theorem d_M_init_15 : decode b_M_init 15 = .ok (.newarray .int, 2) := by decide +kernel
theorem d_M_init_17 : decode b_M_init 17 = .ok (.putfield 13, 3) := by decide +kernel
theorem d_M_init_20 : decode b_M_init 20 = .ok (.aload_n 0, 1) := by decide +kernel
theorem d_M_init_21 : decode b_M_init 21 = .ok (.sipush 1536, 3) := by decide +kernel
theorem d_M_init_24 : decode b_M_init 24 = .ok (.newarray .int, 2) := by decide +kernel
theorem d_M_init_26 : decode b_M_init 26 = .ok (.putfield 16, 3) := by decide +kernel
theorem d_M_init_29 : decode b_M_init 29 = .ok (.aload_n 0, 1) := by decide +kernel
theorem d_M_init_30 : decode b_M_init 30 = .ok (.bipush 24, 2) := by decide +kernel
theorem d_M_init_32 : decode b_M_init 32 = .ok (.newarray .int, 2) := by decide +kernel
theorem d_M_init_34 : decode b_M_init 34 = .ok (.putfield 19, 3) := by decide +kernel
theorem d_M_init_37 : decode b_M_init 37 = .ok (.aload_n 0, 1) := by decide +kernel
theorem d_M_init_38 : decode b_M_init 38 = .ok (.sipush 256, 3) := by decide +kernel
theorem d_M_init_41 : decode b_M_init 41 = .ok (.newarray .boolean, 2) := by decide +kernel
theorem d_M_init_43 : decode b_M_init 43 = .ok (.putfield 22, 3) := by decide +kernel
theorem d_M_init_46 : decode b_M_init 46 = .ok (.aload_n 0, 1) := by decide +kernel
theorem d_M_init_47 : decode b_M_init 47 = .ok (.sipush 256, 3) := by decide +kernel
theorem d_M_init_50 : decode b_M_init 50 = .ok (.newarray .boolean, 2) := by decide +kernel
theorem d_M_init_52 : decode b_M_init 52 = .ok (.putfield 26, 3) := by decide +kernel
theorem d_M_init_55 : decode b_M_init 55 = .ok (.aload_n 0, 1) := by decide +kernel
theorem d_M_init_56 : decode b_M_init 56 = .ok (.sipush 6144, 3) := by decide +kernel
theorem d_M_init_59 : decode b_M_init 59 = .ok (.newarray .int, 2) := by decide +kernel
theorem d_M_init_61 : decode b_M_init 61 = .ok (.putfield 29, 3) := by decide +kernel
theorem d_M_init_64 : decode b_M_init 64 = .ok (.aload_n 0, 1) := by decide +kernel
theorem d_M_init_65 : decode b_M_init 65 = .ok (.bipush 24, 2) := by decide +kernel
theorem d_M_init_67 : decode b_M_init 67 = .ok (.newarray .int, 2) := by decide +kernel
theorem d_M_init_69 : decode b_M_init 69 = .ok (.putfield 32, 3) := by decide +kernel
theorem d_M_init_72 : decode b_M_init 72 = .ok (.iconst 0, 1) := by decide +kernel
theorem d_M_init_73 : decode b_M_init 73 = .ok (.istore_n 1, 1) := by decide +kernel
theorem d_M_init_74 : decode b_M_init 74 = .ok (.iload_n 1, 1) := by decide +kernel
theorem d_M_init_75 : decode b_M_init 75 = .ok (.bipush 64, 2) := by decide +kernel
theorem d_M_init_77 : decode b_M_init 77 = .ok (.if_icmp .ge 16, 3) := by decide +kernel
theorem d_M_init_80 : decode b_M_init 80 = .ok (.aload_n 0, 1) := by decide +kernel
theorem d_M_init_81 : decode b_M_init 81 = .ok (.getfield 7, 3) := by decide +kernel
theorem d_M_init_84 : decode b_M_init 84 = .ok (.iload_n 1, 1) := by decide +kernel
theorem d_M_init_85 : decode b_M_init 85 = .ok (.iconst (-1), 1) := by decide +kernel
theorem d_M_init_86 : decode b_M_init 86 = .ok (.iastore, 1) := by decide +kernel
theorem d_M_init_87 : decode b_M_init 87 = .ok (.iinc 1 1, 3) := by decide +kernel
theorem d_M_init_90 : decode b_M_init 90 = .ok (.goto (-16), 3) := by decide +kernel
theorem d_M_init_93 : decode b_M_init 93 = .ok (.iconst 0, 1) := by decide +kernel
theorem d_M_init_94 : decode b_M_init 94 = .ok (.istore_n 1, 1) := by decide +kernel
theorem d_M_init_95 : decode b_M_init 95 = .ok (.iload_n 1, 1) := by decide +kernel
theorem d_M_init_96 : decode b_M_init 96 = .ok (.bipush 24, 2) := by decide +kernel
theorem d_M_init_98 : decode b_M_init 98 = .ok (.if_icmp .ge 16, 3) := by decide +kernel
theorem d_M_init_101 : decode b_M_init 101 = .ok (.aload_n 0, 1) := by decide +kernel
theorem d_M_init_102 : decode b_M_init 102 = .ok (.getfield 29, 3) := by decide +kernel
theorem d_M_init_105 : decode b_M_init 105 = .ok (.iload_n 1, 1) := by decide +kernel
theorem d_M_init_106 : decode b_M_init 106 = .ok (.iconst (-1), 1) := by decide +kernel
theorem d_M_init_107 : decode b_M_init 107 = .ok (.iastore, 1) := by decide +kernel
theorem d_M_init_108 : decode b_M_init 108 = .ok (.iinc 1 1, 3) := by decide +kernel
theorem d_M_init_111 : decode b_M_init 111 = .ok (.goto (-16), 3) := by decide +kernel
theorem d_M_init_114 : decode b_M_init 114 = .ok (.aload_n 0, 1) := by decide +kernel
theorem d_M_init_115 : decode b_M_init 115 = .ok (.getfield 22, 3) := by decide +kernel
theorem d_M_init_118 : decode b_M_init 118 = .ok (.iconst 0, 1) := by decide +kernel
theorem d_M_init_119 : decode b_M_init 119 = .ok (.iconst 1, 1) := by decide +kernel
theorem d_M_init_120 : decode b_M_init 120 = .ok (.bastore, 1) := by decide +kernel
theorem d_M_init_121 : decode b_M_init 121 = .ok (.return_, 1) := by decide +kernel
theorem d_M_thrown_0 : decode b_M_thrown 0 = .ok (.aload_n 0, 1) := by decide +kernel
theorem d_M_thrown_1 : decode b_M_thrown 1 = .ok (.getfield 35, 3) := by decide +kernel
theorem d_M_thrown_4 : decode b_M_thrown 4 = .ok (.ireturn, 1) := by decide +kernel
theorem d_M_in_0 : decode b_M_in 0 = .ok (.iload_n 0, 1) := by decide +kernel
theorem d_M_in_1 : decode b_M_in 1 = .ok (.iload_n 1, 1) := by decide +kernel
theorem d_M_in_2 : decode b_M_in 2 = .ok (.if_icmp .lt 12, 3) := by decide +kernel
theorem d_M_in_5 : decode b_M_in 5 = .ok (.iload_n 0, 1) := by decide +kernel
theorem d_M_in_6 : decode b_M_in 6 = .ok (.iload_n 2, 1) := by decide +kernel
theorem d_M_in_7 : decode b_M_in 7 = .ok (.if_icmp .gt 7, 3) := by decide +kernel
theorem d_M_in_10 : decode b_M_in 10 = .ok (.iconst 1, 1) := by decide +kernel
theorem d_M_in_11 : decode b_M_in 11 = .ok (.goto 4, 3) := by decide +kernel
theorem d_M_in_14 : decode b_M_in 14 = .ok (.iconst 0, 1) := by decide +kernel
theorem d_M_in_15 : decode b_M_in 15 = .ok (.ireturn, 1) := by decide +kernel
theorem d_M_isStyle_0 : decode b_M_isStyle 0 = .ok (.iload_n 1, 1) := by decide +kernel
theorem d_M_isStyle_1 : decode b_M_isStyle 1 = .ok (.iconst 0, 1) := by decide +kernel
theorem d_M_isStyle_2 : decode b_M_isStyle 2 = .ok (.bipush 63, 2) := by decide +kernel
theorem d_M_isStyle_4 : decode b_M_isStyle 4 = .ok (.invokestatic 39, 3) := by decide +kernel
theorem d_M_isStyle_7 : decode b_M_isStyle 7 = .ok (.ifCond .eq 16, 3) := by decide +kernel
theorem d_M_isStyle_10 : decode b_M_isStyle 10 = .ok (.aload_n 0, 1) := by decide +kernel
theorem d_M_isStyle_11 : decode b_M_isStyle 11 = .ok (.getfield 7, 3) := by decide +kernel
theorem d_M_isStyle_14 : decode b_M_isStyle 14 = .ok (.iload_n 1, 1) := by decide +kernel
theorem d_M_isStyle_15 : decode b_M_isStyle 15 = .ok (.iaload, 1) := by decide +kernel
theorem d_M_isStyle_16 : decode b_M_isStyle 16 = .ok (.ifCond .lt 7, 3) := by decide +kernel
theorem d_M_isStyle_19 : decode b_M_isStyle 19 = .ok (.iconst 1, 1) := by decide +kernel
theorem d_M_isStyle_20 : decode b_M_isStyle 20 = .ok (.goto 4, 3) := by decide +kernel
theorem d_M_isStyle_23 : decode b_M_isStyle 23 = .ok (.iconst 0, 1) := by decide +kernel
theorem d_M_isStyle_24 : decode b_M_isStyle 24 = .ok (.ireturn, 1) := by decide +kernel
theorem d_M_isOf_0 : decode b_M_isOf 0 = .ok (.iload_n 1, 1) := by decide +kernel
theorem d_M_isOf_1 : decode b_M_isOf 1 = .ok (.iconst (-1), 1) := by decide +kernel
theorem d_M_isOf_2 : decode b_M_isOf 2 = .ok (.if_icmp .eq 21, 3) := by decide +kernel
theorem d_M_isOf_5 : decode b_M_isOf 5 = .ok (.aload_n 0, 1) := by decide +kernel
theorem d_M_isOf_6 : decode b_M_isOf 6 = .ok (.iload_n 1, 1) := by decide +kernel
theorem d_M_isOf_7 : decode b_M_isOf 7 = .ok (.invokevirtual 43, 3) := by decide +kernel
theorem d_M_isOf_10 : decode b_M_isOf 10 = .ok (.ifCond .eq 17, 3) := by decide +kernel
theorem d_M_isOf_13 : decode b_M_isOf 13 = .ok (.aload_n 0, 1) := by decide +kernel
theorem d_M_isOf_14 : decode b_M_isOf 14 = .ok (.getfield 7, 3) := by decide +kernel
theorem d_M_isOf_17 : decode b_M_isOf 17 = .ok (.iload_n 1, 1) := by decide +kernel
theorem d_M_isOf_18 : decode b_M_isOf 18 = .ok (.iaload, 1) := by decide +kernel
theorem d_M_isOf_19 : decode b_M_isOf 19 = .ok (.iload_n 2, 1) := by decide +kernel
theorem d_M_isOf_20 : decode b_M_isOf 20 = .ok (.if_icmp .ne 7, 3) := by decide +kernel
theorem d_M_isOf_23 : decode b_M_isOf 23 = .ok (.iconst 1, 1) := by decide +kernel
theorem d_M_isOf_24 : decode b_M_isOf 24 = .ok (.goto 4, 3) := by decide +kernel
theorem d_M_isOf_27 : decode b_M_isOf 27 = .ok (.iconst 0, 1) := by decide +kernel
theorem d_M_isOf_28 : decode b_M_isOf 28 = .ok (.ireturn, 1) := by decide +kernel
theorem d_M_isSet_0 : decode b_M_isSet 0 = .ok (.iload_n 1, 1) := by decide +kernel
theorem d_M_isSet_1 : decode b_M_isSet 1 = .ok (.iconst 0, 1) := by decide +kernel
theorem d_M_isSet_2 : decode b_M_isSet 2 = .ok (.sipush 255, 3) := by decide +kernel
theorem d_M_isSet_5 : decode b_M_isSet 5 = .ok (.invokestatic 39, 3) := by decide +kernel
theorem d_M_isSet_8 : decode b_M_isSet 8 = .ok (.ifCond .eq 16, 3) := by decide +kernel
theorem d_M_isSet_11 : decode b_M_isSet 11 = .ok (.aload_n 0, 1) := by decide +kernel
theorem d_M_isSet_12 : decode b_M_isSet 12 = .ok (.getfield 22, 3) := by decide +kernel
theorem d_M_isSet_15 : decode b_M_isSet 15 = .ok (.iload_n 1, 1) := by decide +kernel
theorem d_M_isSet_16 : decode b_M_isSet 16 = .ok (.baload, 1) := by decide +kernel
theorem d_M_isSet_17 : decode b_M_isSet 17 = .ok (.ifCond .eq 7, 3) := by decide +kernel
theorem d_M_isSet_20 : decode b_M_isSet 20 = .ok (.iconst 1, 1) := by decide +kernel
theorem d_M_isSet_21 : decode b_M_isSet 21 = .ok (.goto 4, 3) := by decide +kernel
theorem d_M_isSet_24 : decode b_M_isSet 24 = .ok (.iconst 0, 1) := by decide +kernel
theorem d_M_isSet_25 : decode b_M_isSet 25 = .ok (.ireturn, 1) := by decide +kernel
theorem d_M_isProperty_0 : decode b_M_isProperty 0 = .ok (.iload_n 0, 1) := by decide +kernel
theorem d_M_isProperty_1 : decode b_M_isProperty 1 = .ok (.iconst 0, 1) := by decide +kernel
theorem d_M_isProperty_2 : decode b_M_isProperty 2 = .ok (.bipush 23, 2) := by decide +kernel
theorem d_M_isProperty_4 : decode b_M_isProperty 4 = .ok (.invokestatic 39, 3) := by decide +kernel
theorem d_M_isProperty_7 : decode b_M_isProperty 7 = .ok (.ireturn, 1) := by decide +kernel
theorem d_M_isValue_0 : decode b_M_isValue 0 = .ok (.iload_n 0, 1) := by decide +kernel
theorem d_M_isValue_1 : decode b_M_isValue 1 = .ok (.invokestatic 47, 3) := by decide +kernel
theorem d_M_isValue_4 : decode b_M_isValue 4 = .ok (.ifCond .eq 39, 3) := by decide +kernel
theorem d_M_isValue_7 : decode b_M_isValue 7 = .ok (.iload_n 1, 1) := by decide +kernel
theorem d_M_isValue_8 : decode b_M_isValue 8 = .ok (.iload_n 2, 1) := by decide +kernel
theorem d_M_isValue_9 : decode b_M_isValue 9 = .ok (.iload_n 0, 1) := by decide +kernel
theorem d_M_isValue_10 : decode b_M_isValue 10 = .ok (.bipush 8, 2) := by decide +kernel
theorem d_M_isValue_12 : decode b_M_isValue 12 = .ok (.if_icmp .ge 7, 3) := by decide +kernel
theorem d_M_isValue_15 : decode b_M_isValue 15 = .ok (.iconst 1, 1) := by decide +kernel
theorem d_M_isValue_16 : decode b_M_isValue 16 = .ok (.goto 17, 3) := by decide +kernel
theorem d_M_isValue_19 : decode b_M_isValue 19 = .ok (.iload_n 0, 1) := by decide +kernel
theorem d_M_isValue_20 : decode b_M_isValue 20 = .ok (.bipush 16, 2) := by decide +kernel
theorem d_M_isValue_22 : decode b_M_isValue 22 = .ok (.if_icmp .ge 9, 3) := by decide +kernel
theorem d_M_isValue_25 : decode b_M_isValue 25 = .ok (.sipush 255, 3) := by decide +kernel
theorem d_M_isValue_28 : decode b_M_isValue 28 = .ok (.goto 5, 3) := by decide +kernel
theorem d_M_isValue_31 : decode b_M_isValue 31 = .ok (.ldc 50, 2) := by decide +kernel
theorem d_M_isValue_33 : decode b_M_isValue 33 = .ok (.invokestatic 39, 3) := by decide +kernel
theorem d_M_isValue_36 : decode b_M_isValue 36 = .ok (.ifCond .eq 7, 3) := by decide +kernel
theorem d_M_isValue_39 : decode b_M_isValue 39 = .ok (.iconst 1, 1) := by decide +kernel
theorem d_M_isValue_40 : decode b_M_isValue 40 = .ok (.goto 4, 3) := by decide +kernel
theorem d_M_isValue_43 : decode b_M_isValue 43 = .ok (.iconst 0, 1) := by decide +kernel
theorem d_M_isValue_44 : decode b_M_isValue 44 = .ok (.ireturn, 1) := by decide +kernel
theorem d_M_make_0 : decode b_M_make 0 = .ok (.aload_n 0, 1) := by decide +kernel
theorem d_M_make_1 : decode b_M_make 1 = .ok (.iload_n 1, 1) := by decide +kernel
theorem d_M_make_2 : decode b_M_make 2 = .ok (.iconst 0, 1) := by decide +kernel
theorem d_M_make_3 : decode b_M_make 3 = .ok (.iconst 1, 1) := by decide +kernel
theorem d_M_make_4 : decode b_M_make 4 = .ok (.invokestatic 39, 3) := by decide +kernel
theorem d_M_make_7 : decode b_M_make 7 = .ok (.ifCond .eq 12, 3) := by decide +kernel
theorem d_M_make_10 : decode b_M_make 10 = .ok (.aload_n 0, 1) := by decide +kernel
theorem d_M_make_11 : decode b_M_make 11 = .ok (.iload_n 2, 1) := by decide +kernel
theorem d_M_make_12 : decode b_M_make 12 = .ok (.iload_n 1, 1) := by decide +kernel
theorem d_M_make_13 : decode b_M_make 13 = .ok (.invokevirtual 51, 3) := by decide +kernel
theorem d_M_make_16 : decode b_M_make 16 = .ok (.ifCond .ne 7, 3) := by decide +kernel
theorem d_M_make_19 : decode b_M_make 19 = .ok (.iconst 1, 1) := by decide +kernel
theorem d_M_make_20 : decode b_M_make 20 = .ok (.goto 4, 3) := by decide +kernel
theorem d_M_make_23 : decode b_M_make 23 = .ok (.iconst 0, 1) := by decide +kernel
theorem d_M_make_24 : decode b_M_make 24 = .ok (.putfield 35, 3) := by decide +kernel
theorem d_M_make_27 : decode b_M_make 27 = .ok (.aload_n 0, 1) := by decide +kernel
theorem d_M_make_28 : decode b_M_make 28 = .ok (.getfield 35, 3) := by decide +kernel
theorem d_M_make_31 : decode b_M_make 31 = .ok (.ifCond .le 5, 3) := by decide +kernel
theorem d_M_make_34 : decode b_M_make 34 = .ok (.iconst 0, 1) := by decide +kernel
theorem d_M_make_35 : decode b_M_make 35 = .ok (.ireturn, 1) := by decide +kernel
theorem d_M_make_36 : decode b_M_make 36 = .ok (.iconst 0, 1) := by decide +kernel
theorem d_M_make_37 : decode b_M_make 37 = .ok (.istore_n 3, 1) := by decide +kernel
theorem d_M_make_38 : decode b_M_make 38 = .ok (.iload_n 3, 1) := by decide +kernel
theorem d_M_make_39 : decode b_M_make 39 = .ok (.bipush 64, 2) := by decide +kernel
theorem d_M_make_41 : decode b_M_make 41 = .ok (.if_icmp .ge 18, 3) := by decide +kernel
theorem d_M_make_44 : decode b_M_make 44 = .ok (.aload_n 0, 1) := by decide +kernel
theorem d_M_make_45 : decode b_M_make 45 = .ok (.getfield 7, 3) := by decide +kernel
theorem d_M_make_48 : decode b_M_make 48 = .ok (.iload_n 3, 1) := by decide +kernel
theorem d_M_make_49 : decode b_M_make 49 = .ok (.iaload, 1) := by decide +kernel
theorem d_M_make_50 : decode b_M_make 50 = .ok (.ifCond .lt 9, 3) := by decide +kernel
theorem d_M_make_53 : decode b_M_make 53 = .ok (.iinc 3 1, 3) := by decide +kernel
theorem d_M_make_56 : decode b_M_make 56 = .ok (.goto (-18), 3) := by decide +kernel
theorem d_M_make_59 : decode b_M_make 59 = .ok (.aload_n 0, 1) := by decide +kernel
theorem d_M_make_60 : decode b_M_make 60 = .ok (.iload_n 3, 1) := by decide +kernel
theorem d_M_make_61 : decode b_M_make 61 = .ok (.bipush 64, 2) := by decide +kernel
theorem d_M_make_63 : decode b_M_make 63 = .ok (.if_icmp .ne 7, 3) := by decide +kernel
theorem d_M_make_66 : decode b_M_make 66 = .ok (.iconst 2, 1) := by decide +kernel
theorem d_M_make_67 : decode b_M_make 67 = .ok (.goto 4, 3) := by decide +kernel
theorem d_M_make_70 : decode b_M_make 70 = .ok (.iconst 0, 1) := by decide +kernel
theorem d_M_make_71 : decode b_M_make 71 = .ok (.putfield 35, 3) := by decide +kernel
theorem d_M_make_74 : decode b_M_make 74 = .ok (.aload_n 0, 1) := by decide +kernel
theorem d_M_make_75 : decode b_M_make 75 = .ok (.getfield 35, 3) := by decide +kernel
theorem d_M_make_78 : decode b_M_make 78 = .ok (.ifCond .le 5, 3) := by decide +kernel
theorem d_M_make_81 : decode b_M_make 81 = .ok (.iconst 0, 1) := by decide +kernel
theorem d_M_make_82 : decode b_M_make 82 = .ok (.ireturn, 1) := by decide +kernel
theorem d_M_make_83 : decode b_M_make 83 = .ok (.aload_n 0, 1) := by decide +kernel
theorem d_M_make_84 : decode b_M_make 84 = .ok (.getfield 7, 3) := by decide +kernel
theorem d_M_make_87 : decode b_M_make 87 = .ok (.iload_n 3, 1) := by decide +kernel
theorem d_M_make_88 : decode b_M_make 88 = .ok (.iload_n 1, 1) := by decide +kernel
theorem d_M_make_89 : decode b_M_make 89 = .ok (.iastore, 1) := by decide +kernel
theorem d_M_make_90 : decode b_M_make 90 = .ok (.aload_n 0, 1) := by decide +kernel
theorem d_M_make_91 : decode b_M_make 91 = .ok (.getfield 13, 3) := by decide +kernel
theorem d_M_make_94 : decode b_M_make 94 = .ok (.iload_n 3, 1) := by decide +kernel
theorem d_M_make_95 : decode b_M_make 95 = .ok (.iload_n 2, 1) := by decide +kernel
theorem d_M_make_96 : decode b_M_make 96 = .ok (.iastore, 1) := by decide +kernel
theorem d_M_make_97 : decode b_M_make 97 = .ok (.iconst 0, 1) := by decide +kernel
theorem d_M_make_98 : decode b_M_make 98 = .ok (.istore 4, 2) := by decide +kernel
theorem d_M_make_100 : decode b_M_make 100 = .ok (.iload 4, 2) := by decide +kernel
theorem d_M_make_102 : decode b_M_make 102 = .ok (.bipush 24, 2) := by decide +kernel
theorem d_M_make_104 : decode b_M_make 104 = .ok (.if_icmp .ge 22, 3) := by decide +kernel
theorem d_M_make_107 : decode b_M_make 107 = .ok (.aload_n 0, 1) := by decide +kernel
theorem d_M_make_108 : decode b_M_make 108 = .ok (.getfield 16, 3) := by decide +kernel
theorem d_M_make_111 : decode b_M_make 111 = .ok (.bipush 24, 2) := by decide +kernel
theorem d_M_make_113 : decode b_M_make 113 = .ok (.iload_n 3, 1) := by decide +kernel
theorem d_M_make_114 : decode b_M_make 114 = .ok (.imul, 1) := by decide +kernel
theorem d_M_make_115 : decode b_M_make 115 = .ok (.iload 4, 2) := by decide +kernel
theorem d_M_make_117 : decode b_M_make 117 = .ok (.iadd, 1) := by decide +kernel
theorem d_M_make_118 : decode b_M_make 118 = .ok (.iconst (-1), 1) := by decide +kernel
theorem d_M_make_119 : decode b_M_make 119 = .ok (.iastore, 1) := by decide +kernel
theorem d_M_make_120 : decode b_M_make 120 = .ok (.iinc 4 1, 3) := by decide +kernel
theorem d_M_make_123 : decode b_M_make 123 = .ok (.goto (-23), 3) := by decide +kernel
theorem d_M_make_126 : decode b_M_make 126 = .ok (.iload_n 3, 1) := by decide +kernel
theorem d_M_make_127 : decode b_M_make 127 = .ok (.ireturn, 1) := by decide +kernel
theorem d_M_drop_0 : decode b_M_drop 0 = .ok (.aload_n 0, 1) := by decide +kernel
theorem d_M_drop_1 : decode b_M_drop 1 = .ok (.aload_n 0, 1) := by decide +kernel
theorem d_M_drop_2 : decode b_M_drop 2 = .ok (.iload_n 1, 1) := by decide +kernel
theorem d_M_drop_3 : decode b_M_drop 3 = .ok (.invokevirtual 43, 3) := by decide +kernel
theorem d_M_drop_6 : decode b_M_drop 6 = .ok (.ifCond .eq 7, 3) := by decide +kernel
theorem d_M_drop_9 : decode b_M_drop 9 = .ok (.iconst 0, 1) := by decide +kernel
theorem d_M_drop_10 : decode b_M_drop 10 = .ok (.goto 4, 3) := by decide +kernel
theorem d_M_drop_13 : decode b_M_drop 13 = .ok (.iconst 1, 1) := by decide +kernel
theorem d_M_drop_14 : decode b_M_drop 14 = .ok (.putfield 35, 3) := by decide +kernel
theorem d_M_drop_17 : decode b_M_drop 17 = .ok (.aload_n 0, 1) := by decide +kernel
theorem d_M_drop_18 : decode b_M_drop 18 = .ok (.getfield 35, 3) := by decide +kernel
theorem d_M_drop_21 : decode b_M_drop 21 = .ok (.ifCond .le 5, 3) := by decide +kernel
theorem d_M_drop_24 : decode b_M_drop 24 = .ok (.iconst 0, 1) := by decide +kernel
theorem d_M_drop_25 : decode b_M_drop 25 = .ok (.ireturn, 1) := by decide +kernel
theorem d_M_drop_26 : decode b_M_drop 26 = .ok (.iconst 0, 1) := by decide +kernel
theorem d_M_drop_27 : decode b_M_drop 27 = .ok (.istore_n 2, 1) := by decide +kernel
theorem d_M_drop_28 : decode b_M_drop 28 = .ok (.iconst 0, 1) := by decide +kernel
theorem d_M_drop_29 : decode b_M_drop 29 = .ok (.istore_n 3, 1) := by decide +kernel
theorem d_M_drop_30 : decode b_M_drop 30 = .ok (.iload_n 3, 1) := by decide +kernel
theorem d_M_drop_31 : decode b_M_drop 31 = .ok (.bipush 64, 2) := by decide +kernel
theorem d_M_drop_33 : decode b_M_drop 33 = .ok (.if_icmp .ge 45, 3) := by decide +kernel
theorem d_M_drop_36 : decode b_M_drop 36 = .ok (.aload_n 0, 1) := by decide +kernel
theorem d_M_drop_37 : decode b_M_drop 37 = .ok (.iload_n 3, 1) := by decide +kernel
theorem d_M_drop_38 : decode b_M_drop 38 = .ok (.invokevirtual 43, 3) := by decide +kernel
theorem d_M_drop_41 : decode b_M_drop 41 = .ok (.ifCond .eq 31, 3) := by decide +kernel
theorem d_M_drop_44 : decode b_M_drop 44 = .ok (.aload_n 0, 1) := by decide +kernel
theorem d_M_drop_45 : decode b_M_drop 45 = .ok (.getfield 13, 3) := by decide +kernel
theorem d_M_drop_48 : decode b_M_drop 48 = .ok (.iload_n 3, 1) := by decide +kernel
theorem d_M_drop_49 : decode b_M_drop 49 = .ok (.iaload, 1) := by decide +kernel
theorem d_M_drop_50 : decode b_M_drop 50 = .ok (.iload_n 1, 1) := by decide +kernel
theorem d_M_drop_51 : decode b_M_drop 51 = .ok (.if_icmp .eq 6, 3) := by decide +kernel
theorem d_M_drop_54 : decode b_M_drop 54 = .ok (.goto 18, 3) := by decide +kernel
theorem d_M_drop_57 : decode b_M_drop 57 = .ok (.aload_n 0, 1) := by decide +kernel
theorem d_M_drop_58 : decode b_M_drop 58 = .ok (.getfield 13, 3) := by decide +kernel
theorem d_M_drop_61 : decode b_M_drop 61 = .ok (.iload_n 3, 1) := by decide +kernel
theorem d_M_drop_62 : decode b_M_drop 62 = .ok (.aload_n 0, 1) := by decide +kernel
theorem d_M_drop_63 : decode b_M_drop 63 = .ok (.getfield 13, 3) := by decide +kernel
theorem d_M_drop_66 : decode b_M_drop 66 = .ok (.iload_n 1, 1) := by decide +kernel
theorem d_M_drop_67 : decode b_M_drop 67 = .ok (.iaload, 1) := by decide +kernel
theorem d_M_drop_68 : decode b_M_drop 68 = .ok (.iastore, 1) := by decide +kernel
theorem d_M_drop_69 : decode b_M_drop 69 = .ok (.iinc 2 1, 3) := by decide +kernel
theorem d_M_drop_72 : decode b_M_drop 72 = .ok (.iinc 3 1, 3) := by decide +kernel
theorem d_M_drop_75 : decode b_M_drop 75 = .ok (.goto (-45), 3) := by decide +kernel
theorem d_M_drop_78 : decode b_M_drop 78 = .ok (.aload_n 0, 1) := by decide +kernel
theorem d_M_drop_79 : decode b_M_drop 79 = .ok (.getfield 7, 3) := by decide +kernel
theorem d_M_drop_82 : decode b_M_drop 82 = .ok (.iload_n 1, 1) := by decide +kernel
theorem d_M_drop_83 : decode b_M_drop 83 = .ok (.iconst (-1), 1) := by decide +kernel
theorem d_M_drop_84 : decode b_M_drop 84 = .ok (.iastore, 1) := by decide +kernel
theorem d_M_drop_85 : decode b_M_drop 85 = .ok (.iload_n 2, 1) := by decide +kernel
theorem d_M_drop_86 : decode b_M_drop 86 = .ok (.ireturn, 1) := by decide +kernel
theorem d_M_comes_0 : decode b_M_comes 0 = .ok (.iload_n 1, 1) := by decide +kernel
theorem d_M_comes_1 : decode b_M_comes 1 = .ok (.istore_n 3, 1) := by decide +kernel
theorem d_M_comes_2 : decode b_M_comes 2 = .ok (.iload_n 3, 1) := by decide +kernel
theorem d_M_comes_3 : decode b_M_comes 3 = .ok (.ifCond .lt 18, 3) := by decide +kernel
theorem d_M_comes_6 : decode b_M_comes 6 = .ok (.iload_n 3, 1) := by decide +kernel
theorem d_M_comes_7 : decode b_M_comes 7 = .ok (.iload_n 2, 1) := by decide +kernel
theorem d_M_comes_8 : decode b_M_comes 8 = .ok (.if_icmp .eq 13, 3) := by decide +kernel
theorem d_M_comes_11 : decode b_M_comes 11 = .ok (.aload_n 0, 1) := by decide +kernel
theorem d_M_comes_12 : decode b_M_comes 12 = .ok (.getfield 13, 3) := by decide +kernel
theorem d_M_comes_15 : decode b_M_comes 15 = .ok (.iload_n 3, 1) := by decide +kernel
theorem d_M_comes_16 : decode b_M_comes 16 = .ok (.iaload, 1) := by decide +kernel
theorem d_M_comes_17 : decode b_M_comes 17 = .ok (.istore_n 3, 1) := by decide +kernel
theorem d_M_comes_18 : decode b_M_comes 18 = .ok (.goto (-16), 3) := by decide +kernel
theorem d_M_comes_21 : decode b_M_comes 21 = .ok (.iload_n 3, 1) := by decide +kernel
theorem d_M_comes_22 : decode b_M_comes 22 = .ok (.iload_n 2, 1) := by decide +kernel
theorem d_M_comes_23 : decode b_M_comes 23 = .ok (.if_icmp .ne 7, 3) := by decide +kernel
theorem d_M_comes_26 : decode b_M_comes 26 = .ok (.iconst 1, 1) := by decide +kernel
theorem d_M_comes_27 : decode b_M_comes 27 = .ok (.goto 4, 3) := by decide +kernel
theorem d_M_comes_30 : decode b_M_comes 30 = .ok (.iconst 0, 1) := by decide +kernel
theorem d_M_comes_31 : decode b_M_comes 31 = .ok (.ireturn, 1) := by decide +kernel
theorem d_M_rebase_0 : decode b_M_rebase 0 = .ok (.aload_n 0, 1) := by decide +kernel
theorem d_M_rebase_1 : decode b_M_rebase 1 = .ok (.aload_n 0, 1) := by decide +kernel
theorem d_M_rebase_2 : decode b_M_rebase 2 = .ok (.iload_n 1, 1) := by decide +kernel
theorem d_M_rebase_3 : decode b_M_rebase 3 = .ok (.invokevirtual 43, 3) := by decide +kernel
theorem d_M_rebase_6 : decode b_M_rebase 6 = .ok (.ifCond .ne 7, 3) := by decide +kernel
theorem d_M_rebase_9 : decode b_M_rebase 9 = .ok (.iconst 1, 1) := by decide +kernel
theorem d_M_rebase_10 : decode b_M_rebase 10 = .ok (.goto 22, 3) := by decide +kernel
theorem d_M_rebase_13 : decode b_M_rebase 13 = .ok (.aload_n 0, 1) := by decide +kernel
theorem d_M_rebase_14 : decode b_M_rebase 14 = .ok (.iload_n 2, 1) := by decide +kernel
theorem d_M_rebase_15 : decode b_M_rebase 15 = .ok (.aload_n 0, 1) := by decide +kernel
theorem d_M_rebase_16 : decode b_M_rebase 16 = .ok (.getfield 7, 3) := by decide +kernel
theorem d_M_rebase_19 : decode b_M_rebase 19 = .ok (.iload_n 1, 1) := by decide +kernel
theorem d_M_rebase_20 : decode b_M_rebase 20 = .ok (.iaload, 1) := by decide +kernel
theorem d_M_rebase_21 : decode b_M_rebase 21 = .ok (.invokevirtual 51, 3) := by decide +kernel
theorem d_M_rebase_24 : decode b_M_rebase 24 = .ok (.ifCond .ne 7, 3) := by decide +kernel
theorem d_M_rebase_27 : decode b_M_rebase 27 = .ok (.iconst 2, 1) := by decide +kernel
theorem d_M_rebase_28 : decode b_M_rebase 28 = .ok (.goto 4, 3) := by decide +kernel
theorem d_M_rebase_31 : decode b_M_rebase 31 = .ok (.iconst 0, 1) := by decide +kernel
theorem d_M_rebase_32 : decode b_M_rebase 32 = .ok (.putfield 35, 3) := by decide +kernel
theorem d_M_rebase_35 : decode b_M_rebase 35 = .ok (.aload_n 0, 1) := by decide +kernel
theorem d_M_rebase_36 : decode b_M_rebase 36 = .ok (.getfield 35, 3) := by decide +kernel
theorem d_M_rebase_39 : decode b_M_rebase 39 = .ok (.ifCond .gt 16, 3) := by decide +kernel
theorem d_M_rebase_42 : decode b_M_rebase 42 = .ok (.iload_n 2, 1) := by decide +kernel
theorem d_M_rebase_43 : decode b_M_rebase 43 = .ok (.ifCond .lt 14, 3) := by decide +kernel
theorem d_M_rebase_46 : decode b_M_rebase 46 = .ok (.aload_n 0, 1) := by decide +kernel
theorem d_M_rebase_47 : decode b_M_rebase 47 = .ok (.iload_n 2, 1) := by decide +kernel
theorem d_M_rebase_48 : decode b_M_rebase 48 = .ok (.iload_n 1, 1) := by decide +kernel
theorem d_M_rebase_49 : decode b_M_rebase 49 = .ok (.invokevirtual 55, 3) := by decide +kernel
theorem d_M_rebase_52 : decode b_M_rebase 52 = .ok (.ifCond .eq 5, 3) := by decide +kernel
theorem d_M_rebase_55 : decode b_M_rebase 55 = .ok (.iconst 0, 1) := by decide +kernel
theorem d_M_rebase_56 : decode b_M_rebase 56 = .ok (.ireturn, 1) := by decide +kernel
theorem d_M_rebase_57 : decode b_M_rebase 57 = .ok (.aload_n 0, 1) := by decide +kernel
theorem d_M_rebase_58 : decode b_M_rebase 58 = .ok (.getfield 13, 3) := by decide +kernel
theorem d_M_rebase_61 : decode b_M_rebase 61 = .ok (.iload_n 1, 1) := by decide +kernel
theorem d_M_rebase_62 : decode b_M_rebase 62 = .ok (.iload_n 2, 1) := by decide +kernel
theorem d_M_rebase_63 : decode b_M_rebase 63 = .ok (.iastore, 1) := by decide +kernel
theorem d_M_rebase_64 : decode b_M_rebase 64 = .ok (.iconst 1, 1) := by decide +kernel
theorem d_M_rebase_65 : decode b_M_rebase 65 = .ok (.ireturn, 1) := by decide +kernel
theorem d_M_own_0 : decode b_M_own 0 = .ok (.aload_n 0, 1) := by decide +kernel
theorem d_M_own_1 : decode b_M_own 1 = .ok (.aload_n 0, 1) := by decide +kernel
theorem d_M_own_2 : decode b_M_own 2 = .ok (.iload_n 1, 1) := by decide +kernel
theorem d_M_own_3 : decode b_M_own 3 = .ok (.invokevirtual 43, 3) := by decide +kernel
theorem d_M_own_6 : decode b_M_own 6 = .ok (.ifCond .ne 7, 3) := by decide +kernel
theorem d_M_own_9 : decode b_M_own 9 = .ok (.iconst 1, 1) := by decide +kernel
theorem d_M_own_10 : decode b_M_own 10 = .ok (.goto 17, 3) := by decide +kernel
theorem d_M_own_13 : decode b_M_own 13 = .ok (.iload_n 2, 1) := by decide +kernel
theorem d_M_own_14 : decode b_M_own 14 = .ok (.iload_n 3, 1) := by decide +kernel
theorem d_M_own_15 : decode b_M_own 15 = .ok (.iconst (-1), 1) := by decide +kernel
theorem d_M_own_16 : decode b_M_own 16 = .ok (.invokestatic 58, 3) := by decide +kernel
theorem d_M_own_19 : decode b_M_own 19 = .ok (.ifCond .ne 7, 3) := by decide +kernel
theorem d_M_own_22 : decode b_M_own 22 = .ok (.iconst 2, 1) := by decide +kernel
theorem d_M_own_23 : decode b_M_own 23 = .ok (.goto 4, 3) := by decide +kernel
theorem d_M_own_26 : decode b_M_own 26 = .ok (.iconst 0, 1) := by decide +kernel
theorem d_M_own_27 : decode b_M_own 27 = .ok (.putfield 35, 3) := by decide +kernel
theorem d_M_own_30 : decode b_M_own 30 = .ok (.aload_n 0, 1) := by decide +kernel
theorem d_M_own_31 : decode b_M_own 31 = .ok (.getfield 35, 3) := by decide +kernel
theorem d_M_own_34 : decode b_M_own 34 = .ok (.ifCond .ne 15, 3) := by decide +kernel
theorem d_M_own_37 : decode b_M_own 37 = .ok (.aload_n 0, 1) := by decide +kernel
theorem d_M_own_38 : decode b_M_own 38 = .ok (.getfield 16, 3) := by decide +kernel
theorem d_M_own_41 : decode b_M_own 41 = .ok (.bipush 24, 2) := by decide +kernel
theorem d_M_own_43 : decode b_M_own 43 = .ok (.iload_n 1, 1) := by decide +kernel
theorem d_M_own_44 : decode b_M_own 44 = .ok (.imul, 1) := by decide +kernel
theorem d_M_own_45 : decode b_M_own 45 = .ok (.iload_n 2, 1) := by decide +kernel
theorem d_M_own_46 : decode b_M_own 46 = .ok (.iadd, 1) := by decide +kernel
theorem d_M_own_47 : decode b_M_own 47 = .ok (.iload_n 3, 1) := by decide +kernel
theorem d_M_own_48 : decode b_M_own 48 = .ok (.iastore, 1) := by decide +kernel
theorem d_M_own_49 : decode b_M_own 49 = .ok (.return_, 1) := by decide +kernel
theorem d_M_first_0 : decode b_M_first 0 = .ok (.iload_n 1, 1) := by decide +kernel
theorem d_M_first_1 : decode b_M_first 1 = .ok (.istore_n 3, 1) := by decide +kernel
theorem d_M_first_2 : decode b_M_first 2 = .ok (.iload_n 3, 1) := by decide +kernel
theorem d_M_first_3 : decode b_M_first 3 = .ok (.ifCond .lt 27, 3) := by decide +kernel
theorem d_M_first_6 : decode b_M_first 6 = .ok (.aload_n 0, 1) := by decide +kernel
theorem d_M_first_7 : decode b_M_first 7 = .ok (.getfield 16, 3) := by decide +kernel
theorem d_M_first_10 : decode b_M_first 10 = .ok (.bipush 24, 2) := by decide +kernel
theorem d_M_first_12 : decode b_M_first 12 = .ok (.iload_n 3, 1) := by decide +kernel
theorem d_M_first_13 : decode b_M_first 13 = .ok (.imul, 1) := by decide +kernel
theorem d_M_first_14 : decode b_M_first 14 = .ok (.iload_n 2, 1) := by decide +kernel
theorem d_M_first_15 : decode b_M_first 15 = .ok (.iadd, 1) := by decide +kernel
theorem d_M_first_16 : decode b_M_first 16 = .ok (.iaload, 1) := by decide +kernel
theorem d_M_first_17 : decode b_M_first 17 = .ok (.ifCond .ge 13, 3) := by decide +kernel
theorem d_M_first_20 : decode b_M_first 20 = .ok (.aload_n 0, 1) := by decide +kernel
theorem d_M_first_21 : decode b_M_first 21 = .ok (.getfield 13, 3) := by decide +kernel
theorem d_M_first_24 : decode b_M_first 24 = .ok (.iload_n 3, 1) := by decide +kernel
theorem d_M_first_25 : decode b_M_first 25 = .ok (.iaload, 1) := by decide +kernel
theorem d_M_first_26 : decode b_M_first 26 = .ok (.istore_n 3, 1) := by decide +kernel
theorem d_M_first_27 : decode b_M_first 27 = .ok (.goto (-25), 3) := by decide +kernel
theorem d_M_first_30 : decode b_M_first 30 = .ok (.iload_n 3, 1) := by decide +kernel
theorem d_M_first_31 : decode b_M_first 31 = .ok (.ireturn, 1) := by decide +kernel
theorem d_M_valueOf_0 : decode b_M_valueOf 0 = .ok (.iload_n 1, 1) := by decide +kernel
theorem d_M_valueOf_1 : decode b_M_valueOf 1 = .ok (.ifCond .ge 7, 3) := by decide +kernel
theorem d_M_valueOf_4 : decode b_M_valueOf 4 = .ok (.iconst (-1), 1) := by decide +kernel
theorem d_M_valueOf_5 : decode b_M_valueOf 5 = .ok (.goto 9, 3) := by decide +kernel
theorem d_M_valueOf_8 : decode b_M_valueOf 8 = .ok (.aload_n 0, 1) := by decide +kernel
theorem d_M_valueOf_9 : decode b_M_valueOf 9 = .ok (.iload_n 1, 1) := by decide +kernel
theorem d_M_valueOf_10 : decode b_M_valueOf 10 = .ok (.iload_n 2, 1) := by decide +kernel
theorem d_M_valueOf_11 : decode b_M_valueOf 11 = .ok (.invokevirtual 61, 3) := by decide +kernel
theorem d_M_valueOf_14 : decode b_M_valueOf 14 = .ok (.istore_n 3, 1) := by decide +kernel
theorem d_M_valueOf_15 : decode b_M_valueOf 15 = .ok (.iload_n 3, 1) := by decide +kernel
theorem d_M_valueOf_16 : decode b_M_valueOf 16 = .ok (.ifCond .ge 7, 3) := by decide +kernel
theorem d_M_valueOf_19 : decode b_M_valueOf 19 = .ok (.iconst (-1), 1) := by decide +kernel
theorem d_M_valueOf_20 : decode b_M_valueOf 20 = .ok (.goto 14, 3) := by decide +kernel
theorem d_M_valueOf_23 : decode b_M_valueOf 23 = .ok (.aload_n 0, 1) := by decide +kernel
theorem d_M_valueOf_24 : decode b_M_valueOf 24 = .ok (.getfield 16, 3) := by decide +kernel
theorem d_M_valueOf_27 : decode b_M_valueOf 27 = .ok (.bipush 24, 2) := by decide +kernel
theorem d_M_valueOf_29 : decode b_M_valueOf 29 = .ok (.iload_n 3, 1) := by decide +kernel
theorem d_M_valueOf_30 : decode b_M_valueOf 30 = .ok (.imul, 1) := by decide +kernel
theorem d_M_valueOf_31 : decode b_M_valueOf 31 = .ok (.iload_n 2, 1) := by decide +kernel
theorem d_M_valueOf_32 : decode b_M_valueOf 32 = .ok (.iadd, 1) := by decide +kernel
theorem d_M_valueOf_33 : decode b_M_valueOf 33 = .ok (.iaload, 1) := by decide +kernel
theorem d_M_valueOf_34 : decode b_M_valueOf 34 = .ok (.ireturn, 1) := by decide +kernel
theorem d_M_value_0 : decode b_M_value 0 = .ok (.aload_n 0, 1) := by decide +kernel
theorem d_M_value_1 : decode b_M_value 1 = .ok (.aload_n 0, 1) := by decide +kernel
theorem d_M_value_2 : decode b_M_value 2 = .ok (.iload_n 1, 1) := by decide +kernel
theorem d_M_value_3 : decode b_M_value 3 = .ok (.invokevirtual 43, 3) := by decide +kernel
theorem d_M_value_6 : decode b_M_value 6 = .ok (.ifCond .ne 7, 3) := by decide +kernel
theorem d_M_value_9 : decode b_M_value 9 = .ok (.iconst 1, 1) := by decide +kernel
theorem d_M_value_10 : decode b_M_value 10 = .ok (.goto 15, 3) := by decide +kernel
theorem d_M_value_13 : decode b_M_value 13 = .ok (.iload_n 2, 1) := by decide +kernel
theorem d_M_value_14 : decode b_M_value 14 = .ok (.invokestatic 47, 3) := by decide +kernel
theorem d_M_value_17 : decode b_M_value 17 = .ok (.ifCond .ne 7, 3) := by decide +kernel
theorem d_M_value_20 : decode b_M_value 20 = .ok (.iconst 2, 1) := by decide +kernel
theorem d_M_value_21 : decode b_M_value 21 = .ok (.goto 4, 3) := by decide +kernel
theorem d_M_value_24 : decode b_M_value 24 = .ok (.iconst 0, 1) := by decide +kernel
theorem d_M_value_25 : decode b_M_value 25 = .ok (.putfield 35, 3) := by decide +kernel
theorem d_M_value_28 : decode b_M_value 28 = .ok (.aload_n 0, 1) := by decide +kernel
theorem d_M_value_29 : decode b_M_value 29 = .ok (.getfield 35, 3) := by decide +kernel
theorem d_M_value_32 : decode b_M_value 32 = .ok (.ifCond .le 7, 3) := by decide +kernel
theorem d_M_value_35 : decode b_M_value 35 = .ok (.iconst 0, 1) := by decide +kernel
theorem d_M_value_36 : decode b_M_value 36 = .ok (.goto 9, 3) := by decide +kernel
theorem d_M_value_39 : decode b_M_value 39 = .ok (.aload_n 0, 1) := by decide +kernel
theorem d_M_value_40 : decode b_M_value 40 = .ok (.iload_n 1, 1) := by decide +kernel
theorem d_M_value_41 : decode b_M_value 41 = .ok (.iload_n 2, 1) := by decide +kernel
theorem d_M_value_42 : decode b_M_value 42 = .ok (.invokevirtual 65, 3) := by decide +kernel
theorem d_M_value_45 : decode b_M_value 45 = .ok (.ireturn, 1) := by decide +kernel
theorem d_M_giver_0 : decode b_M_giver 0 = .ok (.aload_n 0, 1) := by decide +kernel
theorem d_M_giver_1 : decode b_M_giver 1 = .ok (.aload_n 0, 1) := by decide +kernel
theorem d_M_giver_2 : decode b_M_giver 2 = .ok (.iload_n 1, 1) := by decide +kernel
theorem d_M_giver_3 : decode b_M_giver 3 = .ok (.invokevirtual 43, 3) := by decide +kernel
theorem d_M_giver_6 : decode b_M_giver 6 = .ok (.ifCond .ne 7, 3) := by decide +kernel
theorem d_M_giver_9 : decode b_M_giver 9 = .ok (.iconst 1, 1) := by decide +kernel
theorem d_M_giver_10 : decode b_M_giver 10 = .ok (.goto 15, 3) := by decide +kernel
theorem d_M_giver_13 : decode b_M_giver 13 = .ok (.iload_n 2, 1) := by decide +kernel
theorem d_M_giver_14 : decode b_M_giver 14 = .ok (.invokestatic 47, 3) := by decide +kernel
theorem d_M_giver_17 : decode b_M_giver 17 = .ok (.ifCond .ne 7, 3) := by decide +kernel
theorem d_M_giver_20 : decode b_M_giver 20 = .ok (.iconst 2, 1) := by decide +kernel
theorem d_M_giver_21 : decode b_M_giver 21 = .ok (.goto 4, 3) := by decide +kernel
theorem d_M_giver_24 : decode b_M_giver 24 = .ok (.iconst 0, 1) := by decide +kernel
theorem d_M_giver_25 : decode b_M_giver 25 = .ok (.putfield 35, 3) := by decide +kernel
theorem d_M_giver_28 : decode b_M_giver 28 = .ok (.aload_n 0, 1) := by decide +kernel
theorem d_M_giver_29 : decode b_M_giver 29 = .ok (.getfield 35, 3) := by decide +kernel
theorem d_M_giver_32 : decode b_M_giver 32 = .ok (.ifCond .le 7, 3) := by decide +kernel
theorem d_M_giver_35 : decode b_M_giver 35 = .ok (.iconst 0, 1) := by decide +kernel
theorem d_M_giver_36 : decode b_M_giver 36 = .ok (.goto 9, 3) := by decide +kernel
theorem d_M_giver_39 : decode b_M_giver 39 = .ok (.aload_n 0, 1) := by decide +kernel
theorem d_M_giver_40 : decode b_M_giver 40 = .ok (.iload_n 1, 1) := by decide +kernel
theorem d_M_giver_41 : decode b_M_giver 41 = .ok (.iload_n 2, 1) := by decide +kernel
theorem d_M_giver_42 : decode b_M_giver 42 = .ok (.invokevirtual 61, 3) := by decide +kernel
theorem d_M_giver_45 : decode b_M_giver 45 = .ok (.ireturn, 1) := by decide +kernel
theorem d_M_chain_0 : decode b_M_chain 0 = .ok (.iconst 0, 1) := by decide +kernel
theorem d_M_chain_1 : decode b_M_chain 1 = .ok (.istore_n 2, 1) := by decide +kernel
theorem d_M_chain_2 : decode b_M_chain 2 = .ok (.iload_n 1, 1) := by decide +kernel
theorem d_M_chain_3 : decode b_M_chain 3 = .ok (.istore_n 3, 1) := by decide +kernel
theorem d_M_chain_4 : decode b_M_chain 4 = .ok (.iload_n 3, 1) := by decide +kernel
theorem d_M_chain_5 : decode b_M_chain 5 = .ok (.ifCond .lt 16, 3) := by decide +kernel
theorem d_M_chain_8 : decode b_M_chain 8 = .ok (.iinc 2 1, 3) := by decide +kernel
theorem d_M_chain_11 : decode b_M_chain 11 = .ok (.aload_n 0, 1) := by decide +kernel
theorem d_M_chain_12 : decode b_M_chain 12 = .ok (.getfield 13, 3) := by decide +kernel
theorem d_M_chain_15 : decode b_M_chain 15 = .ok (.iload_n 3, 1) := by decide +kernel
theorem d_M_chain_16 : decode b_M_chain 16 = .ok (.iaload, 1) := by decide +kernel
theorem d_M_chain_17 : decode b_M_chain 17 = .ok (.istore_n 3, 1) := by decide +kernel
theorem d_M_chain_18 : decode b_M_chain 18 = .ok (.goto (-14), 3) := by decide +kernel
theorem d_M_chain_21 : decode b_M_chain 21 = .ok (.iload_n 2, 1) := by decide +kernel
theorem d_M_chain_22 : decode b_M_chain 22 = .ok (.ireturn, 1) := by decide +kernel
theorem d_M_owned_0 : decode b_M_owned 0 = .ok (.iconst 0, 1) := by decide +kernel
theorem d_M_owned_1 : decode b_M_owned 1 = .ok (.istore_n 2, 1) := by decide +kernel
theorem d_M_owned_2 : decode b_M_owned 2 = .ok (.iconst 0, 1) := by decide +kernel
theorem d_M_owned_3 : decode b_M_owned 3 = .ok (.istore_n 3, 1) := by decide +kernel
theorem d_M_owned_4 : decode b_M_owned 4 = .ok (.iload_n 3, 1) := by decide +kernel
theorem d_M_owned_5 : decode b_M_owned 5 = .ok (.bipush 24, 2) := by decide +kernel
theorem d_M_owned_7 : decode b_M_owned 7 = .ok (.if_icmp .ge 31, 3) := by decide +kernel
theorem d_M_owned_10 : decode b_M_owned 10 = .ok (.iload_n 2, 1) := by decide +kernel
theorem d_M_owned_11 : decode b_M_owned 11 = .ok (.aload_n 0, 1) := by decide +kernel
theorem d_M_owned_12 : decode b_M_owned 12 = .ok (.getfield 16, 3) := by decide +kernel
theorem d_M_owned_15 : decode b_M_owned 15 = .ok (.bipush 24, 2) := by decide +kernel
theorem d_M_owned_17 : decode b_M_owned 17 = .ok (.iload_n 1, 1) := by decide +kernel
theorem d_M_owned_18 : decode b_M_owned 18 = .ok (.imul, 1) := by decide +kernel
theorem d_M_owned_19 : decode b_M_owned 19 = .ok (.iload_n 3, 1) := by decide +kernel
theorem d_M_owned_20 : decode b_M_owned 20 = .ok (.iadd, 1) := by decide +kernel
theorem d_M_owned_21 : decode b_M_owned 21 = .ok (.iaload, 1) := by decide +kernel
theorem d_M_owned_22 : decode b_M_owned 22 = .ok (.ifCond .lt 7, 3) := by decide +kernel
theorem d_M_owned_25 : decode b_M_owned 25 = .ok (.iconst 1, 1) := by decide +kernel
theorem d_M_owned_26 : decode b_M_owned 26 = .ok (.goto 4, 3) := by decide +kernel
theorem d_M_owned_29 : decode b_M_owned 29 = .ok (.iconst 0, 1) := by decide +kernel
theorem d_M_owned_30 : decode b_M_owned 30 = .ok (.iadd, 1) := by decide +kernel
theorem d_M_owned_31 : decode b_M_owned 31 = .ok (.istore_n 2, 1) := by decide +kernel
theorem d_M_owned_32 : decode b_M_owned 32 = .ok (.iinc 3 1, 3) := by decide +kernel
theorem d_M_owned_35 : decode b_M_owned 35 = .ok (.goto (-31), 3) := by decide +kernel
theorem d_M_owned_38 : decode b_M_owned 38 = .ok (.iload_n 2, 1) := by decide +kernel
theorem d_M_owned_39 : decode b_M_owned 39 = .ok (.ireturn, 1) := by decide +kernel
theorem d_M_style_0 : decode b_M_style 0 = .ok (.aload_n 0, 1) := by decide +kernel
theorem d_M_style_1 : decode b_M_style 1 = .ok (.aload_n 0, 1) := by decide +kernel
theorem d_M_style_2 : decode b_M_style 2 = .ok (.iload_n 1, 1) := by decide +kernel
theorem d_M_style_3 : decode b_M_style 3 = .ok (.invokevirtual 43, 3) := by decide +kernel
theorem d_M_style_6 : decode b_M_style 6 = .ok (.ifCond .ne 7, 3) := by decide +kernel
theorem d_M_style_9 : decode b_M_style 9 = .ok (.iconst 1, 1) := by decide +kernel
theorem d_M_style_10 : decode b_M_style 10 = .ok (.goto 17, 3) := by decide +kernel
theorem d_M_style_13 : decode b_M_style 13 = .ok (.iload_n 2, 1) := by decide +kernel
theorem d_M_style_14 : decode b_M_style 14 = .ok (.iconst 0, 1) := by decide +kernel
theorem d_M_style_15 : decode b_M_style 15 = .ok (.iconst 4, 1) := by decide +kernel
theorem d_M_style_16 : decode b_M_style 16 = .ok (.invokestatic 39, 3) := by decide +kernel
theorem d_M_style_19 : decode b_M_style 19 = .ok (.ifCond .ne 7, 3) := by decide +kernel
theorem d_M_style_22 : decode b_M_style 22 = .ok (.iconst 2, 1) := by decide +kernel
theorem d_M_style_23 : decode b_M_style 23 = .ok (.goto 4, 3) := by decide +kernel
theorem d_M_style_26 : decode b_M_style 26 = .ok (.iconst 0, 1) := by decide +kernel
theorem d_M_style_27 : decode b_M_style 27 = .ok (.putfield 35, 3) := by decide +kernel
theorem d_M_style_30 : decode b_M_style 30 = .ok (.aload_n 0, 1) := by decide +kernel
theorem d_M_style_31 : decode b_M_style 31 = .ok (.getfield 35, 3) := by decide +kernel
theorem d_M_style_34 : decode b_M_style 34 = .ok (.ifCond .le 5, 3) := by decide +kernel
theorem d_M_style_37 : decode b_M_style 37 = .ok (.iconst 0, 1) := by decide +kernel
theorem d_M_style_38 : decode b_M_style 38 = .ok (.ireturn, 1) := by decide +kernel
theorem d_M_style_39 : decode b_M_style 39 = .ok (.iconst 0, 1) := by decide +kernel
theorem d_M_style_40 : decode b_M_style 40 = .ok (.istore_n 3, 1) := by decide +kernel
theorem d_M_style_41 : decode b_M_style 41 = .ok (.iconst 0, 1) := by decide +kernel
theorem d_M_style_42 : decode b_M_style 42 = .ok (.istore 4, 2) := by decide +kernel
theorem d_M_style_44 : decode b_M_style 44 = .ok (.iload 4, 2) := by decide +kernel
theorem d_M_style_46 : decode b_M_style 46 = .ok (.bipush 64, 2) := by decide +kernel
theorem d_M_style_48 : decode b_M_style 48 = .ok (.if_icmp .ge 42, 3) := by decide +kernel
theorem d_M_style_51 : decode b_M_style 51 = .ok (.iload_n 3, 1) := by decide +kernel
theorem d_M_style_52 : decode b_M_style 52 = .ok (.iload 4, 2) := by decide +kernel
theorem d_M_style_54 : decode b_M_style 54 = .ok (.iload_n 1, 1) := by decide +kernel
theorem d_M_style_55 : decode b_M_style 55 = .ok (.if_icmp .eq 26, 3) := by decide +kernel
theorem d_M_style_58 : decode b_M_style 58 = .ok (.aload_n 0, 1) := by decide +kernel
theorem d_M_style_59 : decode b_M_style 59 = .ok (.iload 4, 2) := by decide +kernel
theorem d_M_style_61 : decode b_M_style 61 = .ok (.invokevirtual 43, 3) := by decide +kernel
theorem d_M_style_64 : decode b_M_style 64 = .ok (.ifCond .eq 17, 3) := by decide +kernel
theorem d_M_style_67 : decode b_M_style 67 = .ok (.aload_n 0, 1) := by decide +kernel
theorem d_M_style_68 : decode b_M_style 68 = .ok (.iload 4, 2) := by decide +kernel
theorem d_M_style_70 : decode b_M_style 70 = .ok (.iload_n 1, 1) := by decide +kernel
theorem d_M_style_71 : decode b_M_style 71 = .ok (.invokevirtual 55, 3) := by decide +kernel
theorem d_M_style_74 : decode b_M_style 74 = .ok (.ifCond .eq 7, 3) := by decide +kernel
theorem d_M_style_77 : decode b_M_style 77 = .ok (.iconst 1, 1) := by decide +kernel
theorem d_M_style_78 : decode b_M_style 78 = .ok (.goto 4, 3) := by decide +kernel
theorem d_M_style_81 : decode b_M_style 81 = .ok (.iconst 0, 1) := by decide +kernel
theorem d_M_style_82 : decode b_M_style 82 = .ok (.iadd, 1) := by decide +kernel
theorem d_M_style_83 : decode b_M_style 83 = .ok (.istore_n 3, 1) := by decide +kernel
theorem d_M_style_84 : decode b_M_style 84 = .ok (.iinc 4 1, 3) := by decide +kernel
theorem d_M_style_87 : decode b_M_style 87 = .ok (.goto (-43), 3) := by decide +kernel
theorem d_M_style_90 : decode b_M_style 90 = .ok (.iload_n 2, 1) := by decide +kernel
theorem d_M_style_91 : decode b_M_style 91 = .ok (.ifCond .ne 11, 3) := by decide +kernel
theorem d_M_style_94 : decode b_M_style 94 = .ok (.aload_n 0, 1) := by decide +kernel
theorem d_M_style_95 : decode b_M_style 95 = .ok (.iload_n 1, 1) := by decide +kernel
theorem d_M_style_96 : decode b_M_style 96 = .ok (.invokevirtual 68, 3) := by decide +kernel
theorem d_M_style_99 : decode b_M_style 99 = .ok (.goto 45, 3) := by decide +kernel
theorem d_M_style_102 : decode b_M_style 102 = .ok (.iload_n 2, 1) := by decide +kernel
theorem d_M_style_103 : decode b_M_style 103 = .ok (.iconst 1, 1) := by decide +kernel
theorem d_M_style_104 : decode b_M_style 104 = .ok (.if_icmp .ne 7, 3) := by decide +kernel
theorem d_M_style_107 : decode b_M_style 107 = .ok (.iload_n 3, 1) := by decide +kernel
theorem d_M_style_108 : decode b_M_style 108 = .ok (.goto 36, 3) := by decide +kernel
theorem d_M_style_111 : decode b_M_style 111 = .ok (.iload_n 2, 1) := by decide +kernel
theorem d_M_style_112 : decode b_M_style 112 = .ok (.iconst 2, 1) := by decide +kernel
theorem d_M_style_113 : decode b_M_style 113 = .ok (.if_icmp .ne 12, 3) := by decide +kernel
theorem d_M_style_116 : decode b_M_style 116 = .ok (.aload_n 0, 1) := by decide +kernel
theorem d_M_style_117 : decode b_M_style 117 = .ok (.getfield 13, 3) := by decide +kernel
theorem d_M_style_120 : decode b_M_style 120 = .ok (.iload_n 1, 1) := by decide +kernel
theorem d_M_style_121 : decode b_M_style 121 = .ok (.iaload, 1) := by decide +kernel
theorem d_M_style_122 : decode b_M_style 122 = .ok (.goto 22, 3) := by decide +kernel
theorem d_M_style_125 : decode b_M_style 125 = .ok (.iload_n 2, 1) := by decide +kernel
theorem d_M_style_126 : decode b_M_style 126 = .ok (.iconst 3, 1) := by decide +kernel
theorem d_M_style_127 : decode b_M_style 127 = .ok (.if_icmp .ne 12, 3) := by decide +kernel
theorem d_M_style_130 : decode b_M_style 130 = .ok (.aload_n 0, 1) := by decide +kernel
theorem d_M_style_131 : decode b_M_style 131 = .ok (.getfield 7, 3) := by decide +kernel
theorem d_M_style_134 : decode b_M_style 134 = .ok (.iload_n 1, 1) := by decide +kernel
theorem d_M_style_135 : decode b_M_style 135 = .ok (.iaload, 1) := by decide +kernel
theorem d_M_style_136 : decode b_M_style 136 = .ok (.goto 8, 3) := by decide +kernel
theorem d_M_style_139 : decode b_M_style 139 = .ok (.aload_n 0, 1) := by decide +kernel
theorem d_M_style_140 : decode b_M_style 140 = .ok (.iload_n 1, 1) := by decide +kernel
theorem d_M_style_141 : decode b_M_style 141 = .ok (.invokevirtual 72, 3) := by decide +kernel
theorem d_M_style_144 : decode b_M_style 144 = .ok (.ireturn, 1) := by decide +kernel
theorem d_M_usual_0 : decode b_M_usual 0 = .ok (.aload_n 0, 1) := by decide +kernel
theorem d_M_usual_1 : decode b_M_usual 1 = .ok (.iload_n 1, 1) := by decide +kernel
theorem d_M_usual_2 : decode b_M_usual 2 = .ok (.iload_n 2, 1) := by decide +kernel
theorem d_M_usual_3 : decode b_M_usual 3 = .ok (.iconst 0, 1) := by decide +kernel
theorem d_M_usual_4 : decode b_M_usual 4 = .ok (.invokestatic 58, 3) := by decide +kernel
theorem d_M_usual_7 : decode b_M_usual 7 = .ok (.ifCond .eq 7, 3) := by decide +kernel
theorem d_M_usual_10 : decode b_M_usual 10 = .ok (.iconst 0, 1) := by decide +kernel
theorem d_M_usual_11 : decode b_M_usual 11 = .ok (.goto 4, 3) := by decide +kernel
theorem d_M_usual_14 : decode b_M_usual 14 = .ok (.iconst 1, 1) := by decide +kernel
theorem d_M_usual_15 : decode b_M_usual 15 = .ok (.putfield 35, 3) := by decide +kernel
theorem d_M_usual_18 : decode b_M_usual 18 = .ok (.aload_n 0, 1) := by decide +kernel
theorem d_M_usual_19 : decode b_M_usual 19 = .ok (.getfield 35, 3) := by decide +kernel
theorem d_M_usual_22 : decode b_M_usual 22 = .ok (.ifCond .ne 10, 3) := by decide +kernel
theorem d_M_usual_25 : decode b_M_usual 25 = .ok (.aload_n 0, 1) := by decide +kernel
theorem d_M_usual_26 : decode b_M_usual 26 = .ok (.getfield 19, 3) := by decide +kernel
theorem d_M_usual_29 : decode b_M_usual 29 = .ok (.iload_n 1, 1) := by decide +kernel
theorem d_M_usual_30 : decode b_M_usual 30 = .ok (.iload_n 2, 1) := by decide +kernel
theorem d_M_usual_31 : decode b_M_usual 31 = .ok (.iastore, 1) := by decide +kernel
theorem d_M_usual_32 : decode b_M_usual 32 = .ok (.return_, 1) := by decide +kernel
theorem d_M_want_0 : decode b_M_want 0 = .ok (.iconst 0, 1) := by decide +kernel
theorem d_M_want_1 : decode b_M_want 1 = .ok (.istore_n 2, 1) := by decide +kernel
theorem d_M_want_2 : decode b_M_want 2 = .ok (.iload_n 2, 1) := by decide +kernel
theorem d_M_want_3 : decode b_M_want 3 = .ok (.bipush 24, 2) := by decide +kernel
theorem d_M_want_5 : decode b_M_want 5 = .ok (.if_icmp .ge 26, 3) := by decide +kernel
theorem d_M_want_8 : decode b_M_want 8 = .ok (.aload_n 0, 1) := by decide +kernel
theorem d_M_want_9 : decode b_M_want 9 = .ok (.getfield 32, 3) := by decide +kernel
theorem d_M_want_12 : decode b_M_want 12 = .ok (.iload_n 2, 1) := by decide +kernel
theorem d_M_want_13 : decode b_M_want 13 = .ok (.aload_n 0, 1) := by decide +kernel
theorem d_M_want_14 : decode b_M_want 14 = .ok (.getfield 29, 3) := by decide +kernel
theorem d_M_want_17 : decode b_M_want 17 = .ok (.bipush 24, 2) := by decide +kernel
theorem d_M_want_19 : decode b_M_want 19 = .ok (.iload_n 1, 1) := by decide +kernel
theorem d_M_want_20 : decode b_M_want 20 = .ok (.imul, 1) := by decide +kernel
theorem d_M_want_21 : decode b_M_want 21 = .ok (.iload_n 2, 1) := by decide +kernel
theorem d_M_want_22 : decode b_M_want 22 = .ok (.iadd, 1) := by decide +kernel
theorem d_M_want_23 : decode b_M_want 23 = .ok (.iaload, 1) := by decide +kernel
theorem d_M_want_24 : decode b_M_want 24 = .ok (.iastore, 1) := by decide +kernel
theorem d_M_want_25 : decode b_M_want 25 = .ok (.iinc 2 1, 3) := by decide +kernel
theorem d_M_want_28 : decode b_M_want 28 = .ok (.goto (-26), 3) := by decide +kernel
theorem d_M_want_31 : decode b_M_want 31 = .ok (.return_, 1) := by decide +kernel
theorem d_M_isWanted_0 : decode b_M_isWanted 0 = .ok (.aload_n 0, 1) := by decide +kernel
theorem d_M_isWanted_1 : decode b_M_isWanted 1 = .ok (.getfield 22, 3) := by decide +kernel
theorem d_M_isWanted_4 : decode b_M_isWanted 4 = .ok (.iload_n 1, 1) := by decide +kernel
theorem d_M_isWanted_5 : decode b_M_isWanted 5 = .ok (.baload, 1) := by decide +kernel
theorem d_M_isWanted_6 : decode b_M_isWanted 6 = .ok (.istore_n 2, 1) := by decide +kernel
theorem d_M_isWanted_7 : decode b_M_isWanted 7 = .ok (.iconst 0, 1) := by decide +kernel
theorem d_M_isWanted_8 : decode b_M_isWanted 8 = .ok (.istore_n 3, 1) := by decide +kernel
theorem d_M_isWanted_9 : decode b_M_isWanted 9 = .ok (.iload_n 3, 1) := by decide +kernel
theorem d_M_isWanted_10 : decode b_M_isWanted 10 = .ok (.bipush 24, 2) := by decide +kernel
theorem d_M_isWanted_12 : decode b_M_isWanted 12 = .ok (.if_icmp .ge 39, 3) := by decide +kernel
theorem d_M_isWanted_15 : decode b_M_isWanted 15 = .ok (.iload_n 2, 1) := by decide +kernel
theorem d_M_isWanted_16 : decode b_M_isWanted 16 = .ok (.ifCond .eq 27, 3) := by decide +kernel
theorem d_M_isWanted_19 : decode b_M_isWanted 19 = .ok (.aload_n 0, 1) := by decide +kernel
theorem d_M_isWanted_20 : decode b_M_isWanted 20 = .ok (.getfield 29, 3) := by decide +kernel
theorem d_M_isWanted_23 : decode b_M_isWanted 23 = .ok (.bipush 24, 2) := by decide +kernel
theorem d_M_isWanted_25 : decode b_M_isWanted 25 = .ok (.iload_n 1, 1) := by decide +kernel
theorem d_M_isWanted_26 : decode b_M_isWanted 26 = .ok (.imul, 1) := by decide +kernel
theorem d_M_isWanted_27 : decode b_M_isWanted 27 = .ok (.iload_n 3, 1) := by decide +kernel
theorem d_M_isWanted_28 : decode b_M_isWanted 28 = .ok (.iadd, 1) := by decide +kernel
theorem d_M_isWanted_29 : decode b_M_isWanted 29 = .ok (.iaload, 1) := by decide +kernel
theorem d_M_isWanted_30 : decode b_M_isWanted 30 = .ok (.aload_n 0, 1) := by decide +kernel
theorem d_M_isWanted_31 : decode b_M_isWanted 31 = .ok (.getfield 32, 3) := by decide +kernel
theorem d_M_isWanted_34 : decode b_M_isWanted 34 = .ok (.iload_n 3, 1) := by decide +kernel
theorem d_M_isWanted_35 : decode b_M_isWanted 35 = .ok (.iaload, 1) := by decide +kernel
theorem d_M_isWanted_36 : decode b_M_isWanted 36 = .ok (.if_icmp .ne 7, 3) := by decide +kernel
theorem d_M_isWanted_39 : decode b_M_isWanted 39 = .ok (.iconst 1, 1) := by decide +kernel
theorem d_M_isWanted_40 : decode b_M_isWanted 40 = .ok (.goto 4, 3) := by decide +kernel
theorem d_M_isWanted_43 : decode b_M_isWanted 43 = .ok (.iconst 0, 1) := by decide +kernel
theorem d_M_isWanted_44 : decode b_M_isWanted 44 = .ok (.istore_n 2, 1) := by decide +kernel
theorem d_M_isWanted_45 : decode b_M_isWanted 45 = .ok (.iinc 3 1, 3) := by decide +kernel
theorem d_M_isWanted_48 : decode b_M_isWanted 48 = .ok (.goto (-39), 3) := by decide +kernel
theorem d_M_isWanted_51 : decode b_M_isWanted 51 = .ok (.iload_n 2, 1) := by decide +kernel
theorem d_M_isWanted_52 : decode b_M_isWanted 52 = .ok (.ireturn, 1) := by decide +kernel
theorem d_M_found_0 : decode b_M_found 0 = .ok (.iconst 0, 1) := by decide +kernel
theorem d_M_found_1 : decode b_M_found 1 = .ok (.istore_n 2, 1) := by decide +kernel
theorem d_M_found_2 : decode b_M_found 2 = .ok (.iload_n 2, 1) := by decide +kernel
theorem d_M_found_3 : decode b_M_found 3 = .ok (.sipush 256, 3) := by decide +kernel
theorem d_M_found_6 : decode b_M_found 6 = .ok (.if_icmp .ge 19, 3) := by decide +kernel
theorem d_M_found_9 : decode b_M_found 9 = .ok (.aload_n 0, 1) := by decide +kernel
theorem d_M_found_10 : decode b_M_found 10 = .ok (.iload_n 2, 1) := by decide +kernel
theorem d_M_found_11 : decode b_M_found 11 = .ok (.invokevirtual 75, 3) := by decide +kernel
theorem d_M_found_14 : decode b_M_found 14 = .ok (.ifCond .eq 5, 3) := by decide +kernel
theorem d_M_found_17 : decode b_M_found 17 = .ok (.iload_n 2, 1) := by decide +kernel
theorem d_M_found_18 : decode b_M_found 18 = .ok (.ireturn, 1) := by decide +kernel
theorem d_M_found_19 : decode b_M_found 19 = .ok (.iinc 2 1, 3) := by decide +kernel
theorem d_M_found_22 : decode b_M_found 22 = .ok (.goto (-20), 3) := by decide +kernel
theorem d_M_found_25 : decode b_M_found 25 = .ok (.iconst 0, 1) := by decide +kernel
theorem d_M_found_26 : decode b_M_found 26 = .ok (.istore_n 2, 1) := by decide +kernel
theorem d_M_found_27 : decode b_M_found 27 = .ok (.iload_n 2, 1) := by decide +kernel
theorem d_M_found_28 : decode b_M_found 28 = .ok (.sipush 256, 3) := by decide +kernel
theorem d_M_found_31 : decode b_M_found 31 = .ok (.if_icmp .ge 18, 3) := by decide +kernel
theorem d_M_found_34 : decode b_M_found 34 = .ok (.aload_n 0, 1) := by decide +kernel
theorem d_M_found_35 : decode b_M_found 35 = .ok (.getfield 22, 3) := by decide +kernel
theorem d_M_found_38 : decode b_M_found 38 = .ok (.iload_n 2, 1) := by decide +kernel
theorem d_M_found_39 : decode b_M_found 39 = .ok (.baload, 1) := by decide +kernel
theorem d_M_found_40 : decode b_M_found 40 = .ok (.ifCond .eq 9, 3) := by decide +kernel
theorem d_M_found_43 : decode b_M_found 43 = .ok (.iinc 2 1, 3) := by decide +kernel
theorem d_M_found_46 : decode b_M_found 46 = .ok (.goto (-19), 3) := by decide +kernel
theorem d_M_found_49 : decode b_M_found 49 = .ok (.aload_n 0, 1) := by decide +kernel
theorem d_M_found_50 : decode b_M_found 50 = .ok (.iload_n 2, 1) := by decide +kernel
theorem d_M_found_51 : decode b_M_found 51 = .ok (.sipush 256, 3) := by decide +kernel
theorem d_M_found_54 : decode b_M_found 54 = .ok (.if_icmp .ne 7, 3) := by decide +kernel
theorem d_M_found_57 : decode b_M_found 57 = .ok (.iload_n 1, 1) := by decide +kernel
theorem d_M_found_58 : decode b_M_found 58 = .ok (.goto 4, 3) := by decide +kernel
theorem d_M_found_61 : decode b_M_found 61 = .ok (.iconst 0, 1) := by decide +kernel
theorem d_M_found_62 : decode b_M_found 62 = .ok (.putfield 35, 3) := by decide +kernel
theorem d_M_found_65 : decode b_M_found 65 = .ok (.aload_n 0, 1) := by decide +kernel
theorem d_M_found_66 : decode b_M_found 66 = .ok (.getfield 35, 3) := by decide +kernel
theorem d_M_found_69 : decode b_M_found 69 = .ok (.ifCond .le 5, 3) := by decide +kernel
theorem d_M_found_72 : decode b_M_found 72 = .ok (.iconst 0, 1) := by decide +kernel
theorem d_M_found_73 : decode b_M_found 73 = .ok (.ireturn, 1) := by decide +kernel
theorem d_M_found_74 : decode b_M_found 74 = .ok (.aload_n 0, 1) := by decide +kernel
theorem d_M_found_75 : decode b_M_found 75 = .ok (.getfield 22, 3) := by decide +kernel
theorem d_M_found_78 : decode b_M_found 78 = .ok (.iload_n 2, 1) := by decide +kernel
theorem d_M_found_79 : decode b_M_found 79 = .ok (.iconst 1, 1) := by decide +kernel
theorem d_M_found_80 : decode b_M_found 80 = .ok (.bastore, 1) := by decide +kernel
theorem d_M_found_81 : decode b_M_found 81 = .ok (.aload_n 0, 1) := by decide +kernel
theorem d_M_found_82 : decode b_M_found 82 = .ok (.getfield 26, 3) := by decide +kernel
theorem d_M_found_85 : decode b_M_found 85 = .ok (.iload_n 2, 1) := by decide +kernel
theorem d_M_found_86 : decode b_M_found 86 = .ok (.iconst 0, 1) := by decide +kernel
theorem d_M_found_87 : decode b_M_found 87 = .ok (.bastore, 1) := by decide +kernel
theorem d_M_found_88 : decode b_M_found 88 = .ok (.iconst 0, 1) := by decide +kernel
theorem d_M_found_89 : decode b_M_found 89 = .ok (.istore_n 3, 1) := by decide +kernel
theorem d_M_found_90 : decode b_M_found 90 = .ok (.iload_n 3, 1) := by decide +kernel
theorem d_M_found_91 : decode b_M_found 91 = .ok (.bipush 24, 2) := by decide +kernel
theorem d_M_found_93 : decode b_M_found 93 = .ok (.if_icmp .ge 26, 3) := by decide +kernel
theorem d_M_found_96 : decode b_M_found 96 = .ok (.aload_n 0, 1) := by decide +kernel
theorem d_M_found_97 : decode b_M_found 97 = .ok (.getfield 29, 3) := by decide +kernel
theorem d_M_found_100 : decode b_M_found 100 = .ok (.bipush 24, 2) := by decide +kernel
theorem d_M_found_102 : decode b_M_found 102 = .ok (.iload_n 2, 1) := by decide +kernel
theorem d_M_found_103 : decode b_M_found 103 = .ok (.imul, 1) := by decide +kernel
theorem d_M_found_104 : decode b_M_found 104 = .ok (.iload_n 3, 1) := by decide +kernel
theorem d_M_found_105 : decode b_M_found 105 = .ok (.iadd, 1) := by decide +kernel
theorem d_M_found_106 : decode b_M_found 106 = .ok (.aload_n 0, 1) := by decide +kernel
theorem d_M_found_107 : decode b_M_found 107 = .ok (.getfield 32, 3) := by decide +kernel
theorem d_M_found_110 : decode b_M_found 110 = .ok (.iload_n 3, 1) := by decide +kernel
theorem d_M_found_111 : decode b_M_found 111 = .ok (.iaload, 1) := by decide +kernel
theorem d_M_found_112 : decode b_M_found 112 = .ok (.iastore, 1) := by decide +kernel
theorem d_M_found_113 : decode b_M_found 113 = .ok (.iinc 3 1, 3) := by decide +kernel
theorem d_M_found_116 : decode b_M_found 116 = .ok (.goto (-26), 3) := by decide +kernel
theorem d_M_found_119 : decode b_M_found 119 = .ok (.iload_n 2, 1) := by decide +kernel
theorem d_M_found_120 : decode b_M_found 120 = .ok (.ireturn, 1) := by decide +kernel
theorem d_M_with_0 : decode b_M_with 0 = .ok (.aload_n 0, 1) := by decide +kernel
theorem d_M_with_1 : decode b_M_with 1 = .ok (.aload_n 0, 1) := by decide +kernel
theorem d_M_with_2 : decode b_M_with 2 = .ok (.iload_n 1, 1) := by decide +kernel
theorem d_M_with_3 : decode b_M_with 3 = .ok (.invokevirtual 78, 3) := by decide +kernel
theorem d_M_with_6 : decode b_M_with 6 = .ok (.ifCond .ne 7, 3) := by decide +kernel
theorem d_M_with_9 : decode b_M_with 9 = .ok (.iconst 1, 1) := by decide +kernel
theorem d_M_with_10 : decode b_M_with 10 = .ok (.goto 17, 3) := by decide +kernel
theorem d_M_with_13 : decode b_M_with 13 = .ok (.iload_n 2, 1) := by decide +kernel
theorem d_M_with_14 : decode b_M_with 14 = .ok (.iload_n 3, 1) := by decide +kernel
theorem d_M_with_15 : decode b_M_with 15 = .ok (.iconst (-1), 1) := by decide +kernel
theorem d_M_with_16 : decode b_M_with 16 = .ok (.invokestatic 58, 3) := by decide +kernel
theorem d_M_with_19 : decode b_M_with 19 = .ok (.ifCond .ne 7, 3) := by decide +kernel
theorem d_M_with_22 : decode b_M_with 22 = .ok (.iconst 2, 1) := by decide +kernel
theorem d_M_with_23 : decode b_M_with 23 = .ok (.goto 4, 3) := by decide +kernel
theorem d_M_with_26 : decode b_M_with 26 = .ok (.iconst 0, 1) := by decide +kernel
theorem d_M_with_27 : decode b_M_with 27 = .ok (.putfield 35, 3) := by decide +kernel
theorem d_M_with_30 : decode b_M_with 30 = .ok (.aload_n 0, 1) := by decide +kernel
theorem d_M_with_31 : decode b_M_with 31 = .ok (.getfield 35, 3) := by decide +kernel
theorem d_M_with_34 : decode b_M_with 34 = .ok (.ifCond .le 5, 3) := by decide +kernel
theorem d_M_with_37 : decode b_M_with 37 = .ok (.iconst 0, 1) := by decide +kernel
theorem d_M_with_38 : decode b_M_with 38 = .ok (.ireturn, 1) := by decide +kernel
theorem d_M_with_39 : decode b_M_with 39 = .ok (.aload_n 0, 1) := by decide +kernel
theorem d_M_with_40 : decode b_M_with 40 = .ok (.iload_n 1, 1) := by decide +kernel
theorem d_M_with_41 : decode b_M_with 41 = .ok (.invokevirtual 81, 3) := by decide +kernel
theorem d_M_with_44 : decode b_M_with 44 = .ok (.aload_n 0, 1) := by decide +kernel
theorem d_M_with_45 : decode b_M_with 45 = .ok (.getfield 32, 3) := by decide +kernel
theorem d_M_with_48 : decode b_M_with 48 = .ok (.iload_n 2, 1) := by decide +kernel
theorem d_M_with_49 : decode b_M_with 49 = .ok (.iload_n 3, 1) := by decide +kernel
theorem d_M_with_50 : decode b_M_with 50 = .ok (.iastore, 1) := by decide +kernel
theorem d_M_with_51 : decode b_M_with 51 = .ok (.aload_n 0, 1) := by decide +kernel
theorem d_M_with_52 : decode b_M_with 52 = .ok (.iconst 3, 1) := by decide +kernel
theorem d_M_with_53 : decode b_M_with 53 = .ok (.invokevirtual 85, 3) := by decide +kernel
theorem d_M_with_56 : decode b_M_with 56 = .ok (.ireturn, 1) := by decide +kernel
theorem d_M_over_0 : decode b_M_over 0 = .ok (.aload_n 0, 1) := by decide +kernel
theorem d_M_over_1 : decode b_M_over 1 = .ok (.aload_n 0, 1) := by decide +kernel
theorem d_M_over_2 : decode b_M_over 2 = .ok (.iload_n 1, 1) := by decide +kernel
theorem d_M_over_3 : decode b_M_over 3 = .ok (.invokevirtual 78, 3) := by decide +kernel
theorem d_M_over_6 : decode b_M_over 6 = .ok (.ifCond .eq 11, 3) := by decide +kernel
theorem d_M_over_9 : decode b_M_over 9 = .ok (.aload_n 0, 1) := by decide +kernel
theorem d_M_over_10 : decode b_M_over 10 = .ok (.iload_n 2, 1) := by decide +kernel
theorem d_M_over_11 : decode b_M_over 11 = .ok (.invokevirtual 78, 3) := by decide +kernel
theorem d_M_over_14 : decode b_M_over 14 = .ok (.ifCond .ne 7, 3) := by decide +kernel
theorem d_M_over_17 : decode b_M_over 17 = .ok (.iconst 1, 1) := by decide +kernel
theorem d_M_over_18 : decode b_M_over 18 = .ok (.goto 4, 3) := by decide +kernel
theorem d_M_over_21 : decode b_M_over 21 = .ok (.iconst 0, 1) := by decide +kernel
theorem d_M_over_22 : decode b_M_over 22 = .ok (.putfield 35, 3) := by decide +kernel
theorem d_M_over_25 : decode b_M_over 25 = .ok (.aload_n 0, 1) := by decide +kernel
theorem d_M_over_26 : decode b_M_over 26 = .ok (.getfield 35, 3) := by decide +kernel
theorem d_M_over_29 : decode b_M_over 29 = .ok (.ifCond .le 5, 3) := by decide +kernel
theorem d_M_over_32 : decode b_M_over 32 = .ok (.iconst 0, 1) := by decide +kernel
theorem d_M_over_33 : decode b_M_over 33 = .ok (.ireturn, 1) := by decide +kernel
theorem d_M_over_34 : decode b_M_over 34 = .ok (.aload_n 0, 1) := by decide +kernel
theorem d_M_over_35 : decode b_M_over 35 = .ok (.iload_n 1, 1) := by decide +kernel
theorem d_M_over_36 : decode b_M_over 36 = .ok (.invokevirtual 81, 3) := by decide +kernel
theorem d_M_over_39 : decode b_M_over 39 = .ok (.iconst 0, 1) := by decide +kernel
theorem d_M_over_40 : decode b_M_over 40 = .ok (.istore_n 3, 1) := by decide +kernel
theorem d_M_over_41 : decode b_M_over 41 = .ok (.iload_n 3, 1) := by decide +kernel
theorem d_M_over_42 : decode b_M_over 42 = .ok (.bipush 24, 2) := by decide +kernel
theorem d_M_over_44 : decode b_M_over 44 = .ok (.if_icmp .ge 49, 3) := by decide +kernel
theorem d_M_over_47 : decode b_M_over 47 = .ok (.aload_n 0, 1) := by decide +kernel
theorem d_M_over_48 : decode b_M_over 48 = .ok (.getfield 32, 3) := by decide +kernel
theorem d_M_over_51 : decode b_M_over 51 = .ok (.iload_n 3, 1) := by decide +kernel
theorem d_M_over_52 : decode b_M_over 52 = .ok (.aload_n 0, 1) := by decide +kernel
theorem d_M_over_53 : decode b_M_over 53 = .ok (.getfield 29, 3) := by decide +kernel
theorem d_M_over_56 : decode b_M_over 56 = .ok (.bipush 24, 2) := by decide +kernel
theorem d_M_over_58 : decode b_M_over 58 = .ok (.iload_n 2, 1) := by decide +kernel
theorem d_M_over_59 : decode b_M_over 59 = .ok (.imul, 1) := by decide +kernel
theorem d_M_over_60 : decode b_M_over 60 = .ok (.iload_n 3, 1) := by decide +kernel
theorem d_M_over_61 : decode b_M_over 61 = .ok (.iadd, 1) := by decide +kernel
theorem d_M_over_62 : decode b_M_over 62 = .ok (.iaload, 1) := by decide +kernel
theorem d_M_over_63 : decode b_M_over 63 = .ok (.ifCond .lt 17, 3) := by decide +kernel
theorem d_M_over_66 : decode b_M_over 66 = .ok (.aload_n 0, 1) := by decide +kernel
theorem d_M_over_67 : decode b_M_over 67 = .ok (.getfield 29, 3) := by decide +kernel
theorem d_M_over_70 : decode b_M_over 70 = .ok (.bipush 24, 2) := by decide +kernel
theorem d_M_over_72 : decode b_M_over 72 = .ok (.iload_n 2, 1) := by decide +kernel
theorem d_M_over_73 : decode b_M_over 73 = .ok (.imul, 1) := by decide +kernel
theorem d_M_over_74 : decode b_M_over 74 = .ok (.iload_n 3, 1) := by decide +kernel
theorem d_M_over_75 : decode b_M_over 75 = .ok (.iadd, 1) := by decide +kernel
theorem d_M_over_76 : decode b_M_over 76 = .ok (.iaload, 1) := by decide +kernel
theorem d_M_over_77 : decode b_M_over 77 = .ok (.goto 9, 3) := by decide +kernel
theorem d_M_over_80 : decode b_M_over 80 = .ok (.aload_n 0, 1) := by decide +kernel
theorem d_M_over_81 : decode b_M_over 81 = .ok (.getfield 32, 3) := by decide +kernel
theorem d_M_over_84 : decode b_M_over 84 = .ok (.iload_n 3, 1) := by decide +kernel
theorem d_M_over_85 : decode b_M_over 85 = .ok (.iaload, 1) := by decide +kernel
theorem d_M_over_86 : decode b_M_over 86 = .ok (.iastore, 1) := by decide +kernel
theorem d_M_over_87 : decode b_M_over 87 = .ok (.iinc 3 1, 3) := by decide +kernel
theorem d_M_over_90 : decode b_M_over 90 = .ok (.goto (-49), 3) := by decide +kernel
theorem d_M_over_93 : decode b_M_over 93 = .ok (.aload_n 0, 1) := by decide +kernel
theorem d_M_over_94 : decode b_M_over 94 = .ok (.iconst 2, 1) := by decide +kernel
theorem d_M_over_95 : decode b_M_over 95 = .ok (.invokevirtual 85, 3) := by decide +kernel
theorem d_M_over_98 : decode b_M_over 98 = .ok (.ireturn, 1) := by decide +kernel
theorem d_M_beneath_0 : decode b_M_beneath 0 = .ok (.aload_n 0, 1) := by decide +kernel
theorem d_M_beneath_1 : decode b_M_beneath 1 = .ok (.iload_n 1, 1) := by decide +kernel
theorem d_M_beneath_2 : decode b_M_beneath 2 = .ok (.iload_n 3, 1) := by decide +kernel
theorem d_M_beneath_3 : decode b_M_beneath 3 = .ok (.invokevirtual 65, 3) := by decide +kernel
theorem d_M_beneath_6 : decode b_M_beneath 6 = .ok (.istore 4, 2) := by decide +kernel
theorem d_M_beneath_8 : decode b_M_beneath 8 = .ok (.iload 4, 2) := by decide +kernel
theorem d_M_beneath_10 : decode b_M_beneath 10 = .ok (.ifCond .ge 12, 3) := by decide +kernel
theorem d_M_beneath_13 : decode b_M_beneath 13 = .ok (.aload_n 0, 1) := by decide +kernel
theorem d_M_beneath_14 : decode b_M_beneath 14 = .ok (.iload_n 2, 1) := by decide +kernel
theorem d_M_beneath_15 : decode b_M_beneath 15 = .ok (.iload_n 3, 1) := by decide +kernel
theorem d_M_beneath_16 : decode b_M_beneath 16 = .ok (.invokevirtual 65, 3) := by decide +kernel
theorem d_M_beneath_19 : decode b_M_beneath 19 = .ok (.goto 5, 3) := by decide +kernel
theorem d_M_beneath_22 : decode b_M_beneath 22 = .ok (.iload 4, 2) := by decide +kernel
theorem d_M_beneath_24 : decode b_M_beneath 24 = .ok (.istore 4, 2) := by decide +kernel
theorem d_M_beneath_26 : decode b_M_beneath 26 = .ok (.iload 4, 2) := by decide +kernel
theorem d_M_beneath_28 : decode b_M_beneath 28 = .ok (.ifCond .ge 12, 3) := by decide +kernel
theorem d_M_beneath_31 : decode b_M_beneath 31 = .ok (.aload_n 0, 1) := by decide +kernel
theorem d_M_beneath_32 : decode b_M_beneath 32 = .ok (.getfield 19, 3) := by decide +kernel
theorem d_M_beneath_35 : decode b_M_beneath 35 = .ok (.iload_n 3, 1) := by decide +kernel
theorem d_M_beneath_36 : decode b_M_beneath 36 = .ok (.iaload, 1) := by decide +kernel
theorem d_M_beneath_37 : decode b_M_beneath 37 = .ok (.goto 5, 3) := by decide +kernel
theorem d_M_beneath_40 : decode b_M_beneath 40 = .ok (.iload 4, 2) := by decide +kernel
theorem d_M_beneath_42 : decode b_M_beneath 42 = .ok (.ireturn, 1) := by decide +kernel
theorem d_M_areStyles_0 : decode b_M_areStyles 0 = .ok (.aload_n 0, 1) := by decide +kernel
theorem d_M_areStyles_1 : decode b_M_areStyles 1 = .ok (.iload_n 1, 1) := by decide +kernel
theorem d_M_areStyles_2 : decode b_M_areStyles 2 = .ok (.iconst 0, 1) := by decide +kernel
theorem d_M_areStyles_3 : decode b_M_areStyles 3 = .ok (.invokevirtual 51, 3) := by decide +kernel
theorem d_M_areStyles_6 : decode b_M_areStyles 6 = .ok (.ifCond .eq 16, 3) := by decide +kernel
theorem d_M_areStyles_9 : decode b_M_areStyles 9 = .ok (.aload_n 0, 1) := by decide +kernel
theorem d_M_areStyles_10 : decode b_M_areStyles 10 = .ok (.iload_n 2, 1) := by decide +kernel
theorem d_M_areStyles_11 : decode b_M_areStyles 11 = .ok (.iconst 1, 1) := by decide +kernel
theorem d_M_areStyles_12 : decode b_M_areStyles 12 = .ok (.invokevirtual 51, 3) := by decide +kernel
theorem d_M_areStyles_15 : decode b_M_areStyles 15 = .ok (.ifCond .eq 7, 3) := by decide +kernel
theorem d_M_areStyles_18 : decode b_M_areStyles 18 = .ok (.iconst 1, 1) := by decide +kernel
theorem d_M_areStyles_19 : decode b_M_areStyles 19 = .ok (.goto 4, 3) := by decide +kernel
theorem d_M_areStyles_22 : decode b_M_areStyles 22 = .ok (.iconst 0, 1) := by decide +kernel
theorem d_M_areStyles_23 : decode b_M_areStyles 23 = .ok (.ireturn, 1) := by decide +kernel
theorem d_M_lean_0 : decode b_M_lean 0 = .ok (.aload_n 0, 1) := by decide +kernel
theorem d_M_lean_1 : decode b_M_lean 1 = .ok (.aload_n 0, 1) := by decide +kernel
theorem d_M_lean_2 : decode b_M_lean 2 = .ok (.iload_n 1, 1) := by decide +kernel
theorem d_M_lean_3 : decode b_M_lean 3 = .ok (.invokevirtual 78, 3) := by decide +kernel
theorem d_M_lean_6 : decode b_M_lean 6 = .ok (.ifCond .ne 7, 3) := by decide +kernel
theorem d_M_lean_9 : decode b_M_lean 9 = .ok (.iconst 1, 1) := by decide +kernel
theorem d_M_lean_10 : decode b_M_lean 10 = .ok (.goto 17, 3) := by decide +kernel
theorem d_M_lean_13 : decode b_M_lean 13 = .ok (.aload_n 0, 1) := by decide +kernel
theorem d_M_lean_14 : decode b_M_lean 14 = .ok (.iload_n 2, 1) := by decide +kernel
theorem d_M_lean_15 : decode b_M_lean 15 = .ok (.iload_n 3, 1) := by decide +kernel
theorem d_M_lean_16 : decode b_M_lean 16 = .ok (.invokevirtual 88, 3) := by decide +kernel
theorem d_M_lean_19 : decode b_M_lean 19 = .ok (.ifCond .ne 7, 3) := by decide +kernel
theorem d_M_lean_22 : decode b_M_lean 22 = .ok (.iconst 2, 1) := by decide +kernel
theorem d_M_lean_23 : decode b_M_lean 23 = .ok (.goto 4, 3) := by decide +kernel
theorem d_M_lean_26 : decode b_M_lean 26 = .ok (.iconst 0, 1) := by decide +kernel
theorem d_M_lean_27 : decode b_M_lean 27 = .ok (.putfield 35, 3) := by decide +kernel
theorem d_M_lean_30 : decode b_M_lean 30 = .ok (.aload_n 0, 1) := by decide +kernel
theorem d_M_lean_31 : decode b_M_lean 31 = .ok (.getfield 35, 3) := by decide +kernel
theorem d_M_lean_34 : decode b_M_lean 34 = .ok (.ifCond .le 5, 3) := by decide +kernel
theorem d_M_lean_37 : decode b_M_lean 37 = .ok (.iconst 0, 1) := by decide +kernel
theorem d_M_lean_38 : decode b_M_lean 38 = .ok (.ireturn, 1) := by decide +kernel
theorem d_M_lean_39 : decode b_M_lean 39 = .ok (.aload_n 0, 1) := by decide +kernel
theorem d_M_lean_40 : decode b_M_lean 40 = .ok (.iload_n 1, 1) := by decide +kernel
theorem d_M_lean_41 : decode b_M_lean 41 = .ok (.invokevirtual 81, 3) := by decide +kernel
theorem d_M_lean_44 : decode b_M_lean 44 = .ok (.iconst 0, 1) := by decide +kernel
theorem d_M_lean_45 : decode b_M_lean 45 = .ok (.istore 4, 2) := by decide +kernel
theorem d_M_lean_47 : decode b_M_lean 47 = .ok (.iload 4, 2) := by decide +kernel
theorem d_M_lean_49 : decode b_M_lean 49 = .ok (.bipush 24, 2) := by decide +kernel
theorem d_M_lean_51 : decode b_M_lean 51 = .ok (.if_icmp .ge 45, 3) := by decide +kernel
theorem d_M_lean_54 : decode b_M_lean 54 = .ok (.aload_n 0, 1) := by decide +kernel
theorem d_M_lean_55 : decode b_M_lean 55 = .ok (.getfield 32, 3) := by decide +kernel
theorem d_M_lean_58 : decode b_M_lean 58 = .ok (.iload 4, 2) := by decide +kernel
theorem d_M_lean_60 : decode b_M_lean 60 = .ok (.aload_n 0, 1) := by decide +kernel
theorem d_M_lean_61 : decode b_M_lean 61 = .ok (.getfield 32, 3) := by decide +kernel
theorem d_M_lean_64 : decode b_M_lean 64 = .ok (.iload 4, 2) := by decide +kernel
theorem d_M_lean_66 : decode b_M_lean 66 = .ok (.iaload, 1) := by decide +kernel
theorem d_M_lean_67 : decode b_M_lean 67 = .ok (.aload_n 0, 1) := by decide +kernel
theorem d_M_lean_68 : decode b_M_lean 68 = .ok (.iload_n 2, 1) := by decide +kernel
theorem d_M_lean_69 : decode b_M_lean 69 = .ok (.iload_n 3, 1) := by decide +kernel
theorem d_M_lean_70 : decode b_M_lean 70 = .ok (.iload 4, 2) := by decide +kernel
theorem d_M_lean_72 : decode b_M_lean 72 = .ok (.invokevirtual 91, 3) := by decide +kernel
theorem d_M_lean_75 : decode b_M_lean 75 = .ok (.if_icmp .ne 7, 3) := by decide +kernel
theorem d_M_lean_78 : decode b_M_lean 78 = .ok (.iconst (-1), 1) := by decide +kernel
theorem d_M_lean_79 : decode b_M_lean 79 = .ok (.goto 10, 3) := by decide +kernel
theorem d_M_lean_82 : decode b_M_lean 82 = .ok (.aload_n 0, 1) := by decide +kernel
theorem d_M_lean_83 : decode b_M_lean 83 = .ok (.getfield 32, 3) := by decide +kernel
theorem d_M_lean_86 : decode b_M_lean 86 = .ok (.iload 4, 2) := by decide +kernel
theorem d_M_lean_88 : decode b_M_lean 88 = .ok (.iaload, 1) := by decide +kernel
theorem d_M_lean_89 : decode b_M_lean 89 = .ok (.iastore, 1) := by decide +kernel
theorem d_M_lean_90 : decode b_M_lean 90 = .ok (.iinc 4 1, 3) := by decide +kernel
theorem d_M_lean_93 : decode b_M_lean 93 = .ok (.goto (-46), 3) := by decide +kernel
theorem d_M_lean_96 : decode b_M_lean 96 = .ok (.aload_n 0, 1) := by decide +kernel
theorem d_M_lean_97 : decode b_M_lean 97 = .ok (.iconst 3, 1) := by decide +kernel
theorem d_M_lean_98 : decode b_M_lean 98 = .ok (.invokevirtual 85, 3) := by decide +kernel
theorem d_M_lean_101 : decode b_M_lean 101 = .ok (.ireturn, 1) := by decide +kernel
theorem d_M_get_0 : decode b_M_get 0 = .ok (.aload_n 0, 1) := by decide +kernel
theorem d_M_get_1 : decode b_M_get 1 = .ok (.aload_n 0, 1) := by decide +kernel
theorem d_M_get_2 : decode b_M_get 2 = .ok (.iload_n 1, 1) := by decide +kernel
theorem d_M_get_3 : decode b_M_get 3 = .ok (.invokevirtual 78, 3) := by decide +kernel
theorem d_M_get_6 : decode b_M_get 6 = .ok (.ifCond .ne 7, 3) := by decide +kernel
theorem d_M_get_9 : decode b_M_get 9 = .ok (.iconst 1, 1) := by decide +kernel
theorem d_M_get_10 : decode b_M_get 10 = .ok (.goto 15, 3) := by decide +kernel
theorem d_M_get_13 : decode b_M_get 13 = .ok (.iload_n 2, 1) := by decide +kernel
theorem d_M_get_14 : decode b_M_get 14 = .ok (.invokestatic 47, 3) := by decide +kernel
theorem d_M_get_17 : decode b_M_get 17 = .ok (.ifCond .ne 7, 3) := by decide +kernel
theorem d_M_get_20 : decode b_M_get 20 = .ok (.iconst 2, 1) := by decide +kernel
theorem d_M_get_21 : decode b_M_get 21 = .ok (.goto 4, 3) := by decide +kernel
theorem d_M_get_24 : decode b_M_get 24 = .ok (.iconst 0, 1) := by decide +kernel
theorem d_M_get_25 : decode b_M_get 25 = .ok (.putfield 35, 3) := by decide +kernel
theorem d_M_get_28 : decode b_M_get 28 = .ok (.aload_n 0, 1) := by decide +kernel
theorem d_M_get_29 : decode b_M_get 29 = .ok (.getfield 35, 3) := by decide +kernel
theorem d_M_get_32 : decode b_M_get 32 = .ok (.ifCond .le 7, 3) := by decide +kernel
theorem d_M_get_35 : decode b_M_get 35 = .ok (.iconst 0, 1) := by decide +kernel
theorem d_M_get_36 : decode b_M_get 36 = .ok (.goto 14, 3) := by decide +kernel
theorem d_M_get_39 : decode b_M_get 39 = .ok (.aload_n 0, 1) := by decide +kernel
theorem d_M_get_40 : decode b_M_get 40 = .ok (.getfield 29, 3) := by decide +kernel
theorem d_M_get_43 : decode b_M_get 43 = .ok (.bipush 24, 2) := by decide +kernel
theorem d_M_get_45 : decode b_M_get 45 = .ok (.iload_n 1, 1) := by decide +kernel
theorem d_M_get_46 : decode b_M_get 46 = .ok (.imul, 1) := by decide +kernel
theorem d_M_get_47 : decode b_M_get 47 = .ok (.iload_n 2, 1) := by decide +kernel
theorem d_M_get_48 : decode b_M_get 48 = .ok (.iadd, 1) := by decide +kernel
theorem d_M_get_49 : decode b_M_get 49 = .ok (.iaload, 1) := by decide +kernel
theorem d_M_get_50 : decode b_M_get 50 = .ok (.ireturn, 1) := by decide +kernel
theorem d_M_sized_0 : decode b_M_sized 0 = .ok (.iconst 0, 1) := by decide +kernel
theorem d_M_sized_1 : decode b_M_sized 1 = .ok (.istore_n 2, 1) := by decide +kernel
theorem d_M_sized_2 : decode b_M_sized 2 = .ok (.iconst 0, 1) := by decide +kernel
theorem d_M_sized_3 : decode b_M_sized 3 = .ok (.istore_n 3, 1) := by decide +kernel
theorem d_M_sized_4 : decode b_M_sized 4 = .ok (.iload_n 3, 1) := by decide +kernel
theorem d_M_sized_5 : decode b_M_sized 5 = .ok (.bipush 24, 2) := by decide +kernel
theorem d_M_sized_7 : decode b_M_sized 7 = .ok (.if_icmp .ge 31, 3) := by decide +kernel
theorem d_M_sized_10 : decode b_M_sized 10 = .ok (.iload_n 2, 1) := by decide +kernel
theorem d_M_sized_11 : decode b_M_sized 11 = .ok (.aload_n 0, 1) := by decide +kernel
theorem d_M_sized_12 : decode b_M_sized 12 = .ok (.getfield 29, 3) := by decide +kernel
theorem d_M_sized_15 : decode b_M_sized 15 = .ok (.bipush 24, 2) := by decide +kernel
theorem d_M_sized_17 : decode b_M_sized 17 = .ok (.iload_n 1, 1) := by decide +kernel
theorem d_M_sized_18 : decode b_M_sized 18 = .ok (.imul, 1) := by decide +kernel
theorem d_M_sized_19 : decode b_M_sized 19 = .ok (.iload_n 3, 1) := by decide +kernel
theorem d_M_sized_20 : decode b_M_sized 20 = .ok (.iadd, 1) := by decide +kernel
theorem d_M_sized_21 : decode b_M_sized 21 = .ok (.iaload, 1) := by decide +kernel
theorem d_M_sized_22 : decode b_M_sized 22 = .ok (.ifCond .lt 7, 3) := by decide +kernel
theorem d_M_sized_25 : decode b_M_sized 25 = .ok (.iconst 1, 1) := by decide +kernel
theorem d_M_sized_26 : decode b_M_sized 26 = .ok (.goto 4, 3) := by decide +kernel
theorem d_M_sized_29 : decode b_M_sized 29 = .ok (.iconst 0, 1) := by decide +kernel
theorem d_M_sized_30 : decode b_M_sized 30 = .ok (.iadd, 1) := by decide +kernel
theorem d_M_sized_31 : decode b_M_sized 31 = .ok (.istore_n 2, 1) := by decide +kernel
theorem d_M_sized_32 : decode b_M_sized 32 = .ok (.iinc 3 1, 3) := by decide +kernel
theorem d_M_sized_35 : decode b_M_sized 35 = .ok (.goto (-31), 3) := by decide +kernel
theorem d_M_sized_38 : decode b_M_sized 38 = .ok (.iload_n 2, 1) := by decide +kernel
theorem d_M_sized_39 : decode b_M_sized 39 = .ok (.ireturn, 1) := by decide +kernel
theorem d_M_size_0 : decode b_M_size 0 = .ok (.aload_n 0, 1) := by decide +kernel
theorem d_M_size_1 : decode b_M_size 1 = .ok (.iconst 0, 1) := by decide +kernel
theorem d_M_size_2 : decode b_M_size 2 = .ok (.putfield 35, 3) := by decide +kernel
theorem d_M_size_5 : decode b_M_size 5 = .ok (.aload_n 0, 1) := by decide +kernel
theorem d_M_size_6 : decode b_M_size 6 = .ok (.iload_n 1, 1) := by decide +kernel
theorem d_M_size_7 : decode b_M_size 7 = .ok (.invokevirtual 78, 3) := by decide +kernel
theorem d_M_size_10 : decode b_M_size 10 = .ok (.ifCond .eq 11, 3) := by decide +kernel
theorem d_M_size_13 : decode b_M_size 13 = .ok (.aload_n 0, 1) := by decide +kernel
theorem d_M_size_14 : decode b_M_size 14 = .ok (.iload_n 1, 1) := by decide +kernel
theorem d_M_size_15 : decode b_M_size 15 = .ok (.invokevirtual 95, 3) := by decide +kernel
theorem d_M_size_18 : decode b_M_size 18 = .ok (.goto 4, 3) := by decide +kernel
theorem d_M_size_21 : decode b_M_size 21 = .ok (.iconst (-1), 1) := by decide +kernel
theorem d_M_size_22 : decode b_M_size 22 = .ok (.ireturn, 1) := by decide +kernel
theorem d_M_resolved_0 : decode b_M_resolved 0 = .ok (.aload_n 0, 1) := by decide +kernel
theorem d_M_resolved_1 : decode b_M_resolved 1 = .ok (.getfield 29, 3) := by decide +kernel
theorem d_M_resolved_4 : decode b_M_resolved 4 = .ok (.bipush 24, 2) := by decide +kernel
theorem d_M_resolved_6 : decode b_M_resolved 6 = .ok (.iload_n 1, 1) := by decide +kernel
theorem d_M_resolved_7 : decode b_M_resolved 7 = .ok (.imul, 1) := by decide +kernel
theorem d_M_resolved_8 : decode b_M_resolved 8 = .ok (.iload 4, 2) := by decide +kernel
theorem d_M_resolved_10 : decode b_M_resolved 10 = .ok (.iadd, 1) := by decide +kernel
theorem d_M_resolved_11 : decode b_M_resolved 11 = .ok (.iaload, 1) := by decide +kernel
theorem d_M_resolved_12 : decode b_M_resolved 12 = .ok (.istore 5, 2) := by decide +kernel
theorem d_M_resolved_14 : decode b_M_resolved 14 = .ok (.iload 5, 2) := by decide +kernel
theorem d_M_resolved_16 : decode b_M_resolved 16 = .ok (.ifCond .ge 14, 3) := by decide +kernel
theorem d_M_resolved_19 : decode b_M_resolved 19 = .ok (.aload_n 0, 1) := by decide +kernel
theorem d_M_resolved_20 : decode b_M_resolved 20 = .ok (.iload_n 2, 1) := by decide +kernel
theorem d_M_resolved_21 : decode b_M_resolved 21 = .ok (.iload_n 3, 1) := by decide +kernel
theorem d_M_resolved_22 : decode b_M_resolved 22 = .ok (.iload 4, 2) := by decide +kernel
theorem d_M_resolved_24 : decode b_M_resolved 24 = .ok (.invokevirtual 91, 3) := by decide +kernel
theorem d_M_resolved_27 : decode b_M_resolved 27 = .ok (.goto 5, 3) := by decide +kernel
theorem d_M_resolved_30 : decode b_M_resolved 30 = .ok (.iload 5, 2) := by decide +kernel
theorem d_M_resolved_32 : decode b_M_resolved 32 = .ok (.ireturn, 1) := by decide +kernel
theorem d_M_resolve_0 : decode b_M_resolve 0 = .ok (.aload_n 0, 1) := by decide +kernel
theorem d_M_resolve_1 : decode b_M_resolve 1 = .ok (.aload_n 0, 1) := by decide +kernel
theorem d_M_resolve_2 : decode b_M_resolve 2 = .ok (.iload_n 1, 1) := by decide +kernel
theorem d_M_resolve_3 : decode b_M_resolve 3 = .ok (.invokevirtual 78, 3) := by decide +kernel
theorem d_M_resolve_6 : decode b_M_resolve 6 = .ok (.ifCond .ne 7, 3) := by decide +kernel
theorem d_M_resolve_9 : decode b_M_resolve 9 = .ok (.iconst 1, 1) := by decide +kernel
theorem d_M_resolve_10 : decode b_M_resolve 10 = .ok (.goto 25, 3) := by decide +kernel
theorem d_M_resolve_13 : decode b_M_resolve 13 = .ok (.aload_n 0, 1) := by decide +kernel
theorem d_M_resolve_14 : decode b_M_resolve 14 = .ok (.iload_n 2, 1) := by decide +kernel
theorem d_M_resolve_15 : decode b_M_resolve 15 = .ok (.iload_n 3, 1) := by decide +kernel
theorem d_M_resolve_16 : decode b_M_resolve 16 = .ok (.invokevirtual 88, 3) := by decide +kernel
theorem d_M_resolve_19 : decode b_M_resolve 19 = .ok (.ifCond .eq 11, 3) := by decide +kernel
theorem d_M_resolve_22 : decode b_M_resolve 22 = .ok (.iload 4, 2) := by decide +kernel
theorem d_M_resolve_24 : decode b_M_resolve 24 = .ok (.invokestatic 47, 3) := by decide +kernel
theorem d_M_resolve_27 : decode b_M_resolve 27 = .ok (.ifCond .ne 7, 3) := by decide +kernel
theorem d_M_resolve_30 : decode b_M_resolve 30 = .ok (.iconst 2, 1) := by decide +kernel
theorem d_M_resolve_31 : decode b_M_resolve 31 = .ok (.goto 4, 3) := by decide +kernel
theorem d_M_resolve_34 : decode b_M_resolve 34 = .ok (.iconst 0, 1) := by decide +kernel
theorem d_M_resolve_35 : decode b_M_resolve 35 = .ok (.putfield 35, 3) := by decide +kernel
theorem d_M_resolve_38 : decode b_M_resolve 38 = .ok (.aload_n 0, 1) := by decide +kernel
theorem d_M_resolve_39 : decode b_M_resolve 39 = .ok (.getfield 35, 3) := by decide +kernel
theorem d_M_resolve_42 : decode b_M_resolve 42 = .ok (.ifCond .le 7, 3) := by decide +kernel
theorem d_M_resolve_45 : decode b_M_resolve 45 = .ok (.iconst 0, 1) := by decide +kernel
theorem d_M_resolve_46 : decode b_M_resolve 46 = .ok (.goto 12, 3) := by decide +kernel
theorem d_M_resolve_49 : decode b_M_resolve 49 = .ok (.aload_n 0, 1) := by decide +kernel
theorem d_M_resolve_50 : decode b_M_resolve 50 = .ok (.iload_n 1, 1) := by decide +kernel
theorem d_M_resolve_51 : decode b_M_resolve 51 = .ok (.iload_n 2, 1) := by decide +kernel
theorem d_M_resolve_52 : decode b_M_resolve 52 = .ok (.iload_n 3, 1) := by decide +kernel
theorem d_M_resolve_53 : decode b_M_resolve 53 = .ok (.iload 4, 2) := by decide +kernel
theorem d_M_resolve_55 : decode b_M_resolve 55 = .ok (.invokevirtual 98, 3) := by decide +kernel
theorem d_M_resolve_58 : decode b_M_resolve 58 = .ok (.ireturn, 1) := by decide +kernel
theorem d_M_differ_0 : decode b_M_differ 0 = .ok (.aload_n 0, 1) := by decide +kernel
theorem d_M_differ_1 : decode b_M_differ 1 = .ok (.aload_n 0, 1) := by decide +kernel
theorem d_M_differ_2 : decode b_M_differ 2 = .ok (.iload_n 1, 1) := by decide +kernel
theorem d_M_differ_3 : decode b_M_differ 3 = .ok (.invokevirtual 78, 3) := by decide +kernel
theorem d_M_differ_6 : decode b_M_differ 6 = .ok (.ifCond .eq 11, 3) := by decide +kernel
theorem d_M_differ_9 : decode b_M_differ 9 = .ok (.aload_n 0, 1) := by decide +kernel
theorem d_M_differ_10 : decode b_M_differ 10 = .ok (.iload_n 2, 1) := by decide +kernel
theorem d_M_differ_11 : decode b_M_differ 11 = .ok (.invokevirtual 78, 3) := by decide +kernel
theorem d_M_differ_14 : decode b_M_differ 14 = .ok (.ifCond .ne 7, 3) := by decide +kernel
theorem d_M_differ_17 : decode b_M_differ 17 = .ok (.iconst 1, 1) := by decide +kernel
theorem d_M_differ_18 : decode b_M_differ 18 = .ok (.goto 18, 3) := by decide +kernel
theorem d_M_differ_21 : decode b_M_differ 21 = .ok (.aload_n 0, 1) := by decide +kernel
theorem d_M_differ_22 : decode b_M_differ 22 = .ok (.iload_n 3, 1) := by decide +kernel
theorem d_M_differ_23 : decode b_M_differ 23 = .ok (.iload 4, 2) := by decide +kernel
theorem d_M_differ_25 : decode b_M_differ 25 = .ok (.invokevirtual 88, 3) := by decide +kernel
theorem d_M_differ_28 : decode b_M_differ 28 = .ok (.ifCond .ne 7, 3) := by decide +kernel
theorem d_M_differ_31 : decode b_M_differ 31 = .ok (.iconst 2, 1) := by decide +kernel
theorem d_M_differ_32 : decode b_M_differ 32 = .ok (.goto 4, 3) := by decide +kernel
theorem d_M_differ_35 : decode b_M_differ 35 = .ok (.iconst 0, 1) := by decide +kernel
theorem d_M_differ_36 : decode b_M_differ 36 = .ok (.putfield 35, 3) := by decide +kernel
theorem d_M_differ_39 : decode b_M_differ 39 = .ok (.aload_n 0, 1) := by decide +kernel
theorem d_M_differ_40 : decode b_M_differ 40 = .ok (.getfield 35, 3) := by decide +kernel
theorem d_M_differ_43 : decode b_M_differ 43 = .ok (.ifCond .le 5, 3) := by decide +kernel
theorem d_M_differ_46 : decode b_M_differ 46 = .ok (.iconst 0, 1) := by decide +kernel
theorem d_M_differ_47 : decode b_M_differ 47 = .ok (.ireturn, 1) := by decide +kernel
theorem d_M_differ_48 : decode b_M_differ 48 = .ok (.iconst 0, 1) := by decide +kernel
theorem d_M_differ_49 : decode b_M_differ 49 = .ok (.istore 5, 2) := by decide +kernel
theorem d_M_differ_51 : decode b_M_differ 51 = .ok (.iload 5, 2) := by decide +kernel
theorem d_M_differ_53 : decode b_M_differ 53 = .ok (.bipush 24, 2) := by decide +kernel
theorem d_M_differ_55 : decode b_M_differ 55 = .ok (.if_icmp .ge 32, 3) := by decide +kernel
theorem d_M_differ_58 : decode b_M_differ 58 = .ok (.aload_n 0, 1) := by decide +kernel
theorem d_M_differ_59 : decode b_M_differ 59 = .ok (.iload_n 1, 1) := by decide +kernel
theorem d_M_differ_60 : decode b_M_differ 60 = .ok (.iload_n 3, 1) := by decide +kernel
theorem d_M_differ_61 : decode b_M_differ 61 = .ok (.iload 4, 2) := by decide +kernel
theorem d_M_differ_63 : decode b_M_differ 63 = .ok (.iload 5, 2) := by decide +kernel
theorem d_M_differ_65 : decode b_M_differ 65 = .ok (.invokevirtual 98, 3) := by decide +kernel
theorem d_M_differ_68 : decode b_M_differ 68 = .ok (.aload_n 0, 1) := by decide +kernel
theorem d_M_differ_69 : decode b_M_differ 69 = .ok (.iload_n 2, 1) := by decide +kernel
theorem d_M_differ_70 : decode b_M_differ 70 = .ok (.iload_n 3, 1) := by decide +kernel
theorem d_M_differ_71 : decode b_M_differ 71 = .ok (.iload 4, 2) := by decide +kernel
theorem d_M_differ_73 : decode b_M_differ 73 = .ok (.iload 5, 2) := by decide +kernel
theorem d_M_differ_75 : decode b_M_differ 75 = .ok (.invokevirtual 98, 3) := by decide +kernel
theorem d_M_differ_78 : decode b_M_differ 78 = .ok (.if_icmp .ne 9, 3) := by decide +kernel
theorem d_M_differ_81 : decode b_M_differ 81 = .ok (.iinc 5 1, 3) := by decide +kernel
theorem d_M_differ_84 : decode b_M_differ 84 = .ok (.goto (-33), 3) := by decide +kernel
theorem d_M_differ_87 : decode b_M_differ 87 = .ok (.iload 5, 2) := by decide +kernel
theorem d_M_differ_89 : decode b_M_differ 89 = .ok (.bipush 24, 2) := by decide +kernel
theorem d_M_differ_91 : decode b_M_differ 91 = .ok (.if_icmp .ge 8, 3) := by decide +kernel
theorem d_M_differ_94 : decode b_M_differ 94 = .ok (.iload 5, 2) := by decide +kernel
theorem d_M_differ_96 : decode b_M_differ 96 = .ok (.goto 4, 3) := by decide +kernel
theorem d_M_differ_99 : decode b_M_differ 99 = .ok (.iconst (-1), 1) := by decide +kernel
theorem d_M_differ_100 : decode b_M_differ 100 = .ok (.ireturn, 1) := by decide +kernel
theorem d_M_mark_0 : decode b_M_mark 0 = .ok (.aload_n 0, 1) := by decide +kernel
theorem d_M_mark_1 : decode b_M_mark 1 = .ok (.aload_n 0, 1) := by decide +kernel
theorem d_M_mark_2 : decode b_M_mark 2 = .ok (.iload_n 1, 1) := by decide +kernel
theorem d_M_mark_3 : decode b_M_mark 3 = .ok (.invokevirtual 78, 3) := by decide +kernel
theorem d_M_mark_6 : decode b_M_mark 6 = .ok (.ifCond .eq 7, 3) := by decide +kernel
theorem d_M_mark_9 : decode b_M_mark 9 = .ok (.iconst 0, 1) := by decide +kernel
theorem d_M_mark_10 : decode b_M_mark 10 = .ok (.goto 4, 3) := by decide +kernel
theorem d_M_mark_13 : decode b_M_mark 13 = .ok (.iconst 1, 1) := by decide +kernel
theorem d_M_mark_14 : decode b_M_mark 14 = .ok (.putfield 35, 3) := by decide +kernel
theorem d_M_mark_17 : decode b_M_mark 17 = .ok (.aload_n 0, 1) := by decide +kernel
theorem d_M_mark_18 : decode b_M_mark 18 = .ok (.getfield 35, 3) := by decide +kernel
theorem d_M_mark_21 : decode b_M_mark 21 = .ok (.ifCond .le 5, 3) := by decide +kernel
theorem d_M_mark_24 : decode b_M_mark 24 = .ok (.iconst 0, 1) := by decide +kernel
theorem d_M_mark_25 : decode b_M_mark 25 = .ok (.ireturn, 1) := by decide +kernel
theorem d_M_mark_26 : decode b_M_mark 26 = .ok (.aload_n 0, 1) := by decide +kernel
theorem d_M_mark_27 : decode b_M_mark 27 = .ok (.getfield 26, 3) := by decide +kernel
theorem d_M_mark_30 : decode b_M_mark 30 = .ok (.iload_n 1, 1) := by decide +kernel
theorem d_M_mark_31 : decode b_M_mark 31 = .ok (.iconst 1, 1) := by decide +kernel
theorem d_M_mark_32 : decode b_M_mark 32 = .ok (.bastore, 1) := by decide +kernel
theorem d_M_mark_33 : decode b_M_mark 33 = .ok (.iconst 0, 1) := by decide +kernel
theorem d_M_mark_34 : decode b_M_mark 34 = .ok (.istore_n 2, 1) := by decide +kernel
theorem d_M_mark_35 : decode b_M_mark 35 = .ok (.iconst 0, 1) := by decide +kernel
theorem d_M_mark_36 : decode b_M_mark 36 = .ok (.istore_n 3, 1) := by decide +kernel
theorem d_M_mark_37 : decode b_M_mark 37 = .ok (.iload_n 3, 1) := by decide +kernel
theorem d_M_mark_38 : decode b_M_mark 38 = .ok (.sipush 256, 3) := by decide +kernel
theorem d_M_mark_41 : decode b_M_mark 41 = .ok (.if_icmp .ge 35, 3) := by decide +kernel
theorem d_M_mark_44 : decode b_M_mark 44 = .ok (.iload_n 2, 1) := by decide +kernel
theorem d_M_mark_45 : decode b_M_mark 45 = .ok (.aload_n 0, 1) := by decide +kernel
theorem d_M_mark_46 : decode b_M_mark 46 = .ok (.getfield 22, 3) := by decide +kernel
theorem d_M_mark_49 : decode b_M_mark 49 = .ok (.iload_n 3, 1) := by decide +kernel
theorem d_M_mark_50 : decode b_M_mark 50 = .ok (.baload, 1) := by decide +kernel
theorem d_M_mark_51 : decode b_M_mark 51 = .ok (.ifCond .eq 16, 3) := by decide +kernel
theorem d_M_mark_54 : decode b_M_mark 54 = .ok (.aload_n 0, 1) := by decide +kernel
theorem d_M_mark_55 : decode b_M_mark 55 = .ok (.getfield 26, 3) := by decide +kernel
theorem d_M_mark_58 : decode b_M_mark 58 = .ok (.iload_n 3, 1) := by decide +kernel
theorem d_M_mark_59 : decode b_M_mark 59 = .ok (.baload, 1) := by decide +kernel
theorem d_M_mark_60 : decode b_M_mark 60 = .ok (.ifCond .eq 7, 3) := by decide +kernel
theorem d_M_mark_63 : decode b_M_mark 63 = .ok (.iconst 1, 1) := by decide +kernel
theorem d_M_mark_64 : decode b_M_mark 64 = .ok (.goto 4, 3) := by decide +kernel
theorem d_M_mark_67 : decode b_M_mark 67 = .ok (.iconst 0, 1) := by decide +kernel
theorem d_M_mark_68 : decode b_M_mark 68 = .ok (.iadd, 1) := by decide +kernel
theorem d_M_mark_69 : decode b_M_mark 69 = .ok (.istore_n 2, 1) := by decide +kernel
theorem d_M_mark_70 : decode b_M_mark 70 = .ok (.iinc 3 1, 3) := by decide +kernel
theorem d_M_mark_73 : decode b_M_mark 73 = .ok (.goto (-36), 3) := by decide +kernel
theorem d_M_mark_76 : decode b_M_mark 76 = .ok (.iload_n 2, 1) := by decide +kernel
theorem d_M_mark_77 : decode b_M_mark 77 = .ok (.ireturn, 1) := by decide +kernel
theorem d_M_sweep_0 : decode b_M_sweep 0 = .ok (.aload_n 0, 1) := by decide +kernel
theorem d_M_sweep_1 : decode b_M_sweep 1 = .ok (.iconst 0, 1) := by decide +kernel
theorem d_M_sweep_2 : decode b_M_sweep 2 = .ok (.putfield 35, 3) := by decide +kernel
theorem d_M_sweep_5 : decode b_M_sweep 5 = .ok (.iconst 0, 1) := by decide +kernel
theorem d_M_sweep_6 : decode b_M_sweep 6 = .ok (.istore_n 1, 1) := by decide +kernel
theorem d_M_sweep_7 : decode b_M_sweep 7 = .ok (.iconst 0, 1) := by decide +kernel
theorem d_M_sweep_8 : decode b_M_sweep 8 = .ok (.istore_n 2, 1) := by decide +kernel
theorem d_M_sweep_9 : decode b_M_sweep 9 = .ok (.iload_n 2, 1) := by decide +kernel
theorem d_M_sweep_10 : decode b_M_sweep 10 = .ok (.sipush 256, 3) := by decide +kernel
theorem d_M_sweep_13 : decode b_M_sweep 13 = .ok (.if_icmp .ge 48, 3) := by decide +kernel
theorem d_M_sweep_16 : decode b_M_sweep 16 = .ok (.iload_n 2, 1) := by decide +kernel
theorem d_M_sweep_17 : decode b_M_sweep 17 = .ok (.ifCond .le 31, 3) := by decide +kernel
theorem d_M_sweep_20 : decode b_M_sweep 20 = .ok (.aload_n 0, 1) := by decide +kernel
theorem d_M_sweep_21 : decode b_M_sweep 21 = .ok (.getfield 22, 3) := by decide +kernel
theorem d_M_sweep_24 : decode b_M_sweep 24 = .ok (.iload_n 2, 1) := by decide +kernel
theorem d_M_sweep_25 : decode b_M_sweep 25 = .ok (.baload, 1) := by decide +kernel
theorem d_M_sweep_26 : decode b_M_sweep 26 = .ok (.ifCond .eq 22, 3) := by decide +kernel
theorem d_M_sweep_29 : decode b_M_sweep 29 = .ok (.aload_n 0, 1) := by decide +kernel
theorem d_M_sweep_30 : decode b_M_sweep 30 = .ok (.getfield 26, 3) := by decide +kernel
theorem d_M_sweep_33 : decode b_M_sweep 33 = .ok (.iload_n 2, 1) := by decide +kernel
theorem d_M_sweep_34 : decode b_M_sweep 34 = .ok (.baload, 1) := by decide +kernel
theorem d_M_sweep_35 : decode b_M_sweep 35 = .ok (.ifCond .ne 13, 3) := by decide +kernel
theorem d_M_sweep_38 : decode b_M_sweep 38 = .ok (.aload_n 0, 1) := by decide +kernel
theorem d_M_sweep_39 : decode b_M_sweep 39 = .ok (.getfield 22, 3) := by decide +kernel
theorem d_M_sweep_42 : decode b_M_sweep 42 = .ok (.iload_n 2, 1) := by decide +kernel
theorem d_M_sweep_43 : decode b_M_sweep 43 = .ok (.iconst 0, 1) := by decide +kernel
theorem d_M_sweep_44 : decode b_M_sweep 44 = .ok (.bastore, 1) := by decide +kernel
theorem d_M_sweep_45 : decode b_M_sweep 45 = .ok (.iinc 1 1, 3) := by decide +kernel
theorem d_M_sweep_48 : decode b_M_sweep 48 = .ok (.aload_n 0, 1) := by decide +kernel
theorem d_M_sweep_49 : decode b_M_sweep 49 = .ok (.getfield 26, 3) := by decide +kernel
theorem d_M_sweep_52 : decode b_M_sweep 52 = .ok (.iload_n 2, 1) := by decide +kernel
theorem d_M_sweep_53 : decode b_M_sweep 53 = .ok (.iconst 0, 1) := by decide +kernel
theorem d_M_sweep_54 : decode b_M_sweep 54 = .ok (.bastore, 1) := by decide +kernel
theorem d_M_sweep_55 : decode b_M_sweep 55 = .ok (.iinc 2 1, 3) := by decide +kernel
theorem d_M_sweep_58 : decode b_M_sweep 58 = .ok (.goto (-49), 3) := by decide +kernel
theorem d_M_sweep_61 : decode b_M_sweep 61 = .ok (.iload_n 1, 1) := by decide +kernel
theorem d_M_sweep_62 : decode b_M_sweep 62 = .ok (.ireturn, 1) := by decide +kernel
theorem d_M_count_0 : decode b_M_count 0 = .ok (.aload_n 0, 1) := by decide +kernel
theorem d_M_count_1 : decode b_M_count 1 = .ok (.iconst 0, 1) := by decide +kernel
theorem d_M_count_2 : decode b_M_count 2 = .ok (.putfield 35, 3) := by decide +kernel
theorem d_M_count_5 : decode b_M_count 5 = .ok (.iconst 0, 1) := by decide +kernel
theorem d_M_count_6 : decode b_M_count 6 = .ok (.istore_n 2, 1) := by decide +kernel
theorem d_M_count_7 : decode b_M_count 7 = .ok (.iconst 0, 1) := by decide +kernel
theorem d_M_count_8 : decode b_M_count 8 = .ok (.istore_n 3, 1) := by decide +kernel
theorem d_M_count_9 : decode b_M_count 9 = .ok (.iload_n 3, 1) := by decide +kernel
theorem d_M_count_10 : decode b_M_count 10 = .ok (.bipush 64, 2) := by decide +kernel
theorem d_M_count_12 : decode b_M_count 12 = .ok (.if_icmp .ge 60, 3) := by decide +kernel
theorem d_M_count_15 : decode b_M_count 15 = .ok (.aload_n 0, 1) := by decide +kernel
theorem d_M_count_16 : decode b_M_count 16 = .ok (.iload_n 3, 1) := by decide +kernel
theorem d_M_count_17 : decode b_M_count 17 = .ok (.invokevirtual 43, 3) := by decide +kernel
theorem d_M_count_20 : decode b_M_count 20 = .ok (.ifCond .ne 6, 3) := by decide +kernel
theorem d_M_count_23 : decode b_M_count 23 = .ok (.goto 43, 3) := by decide +kernel
theorem d_M_count_26 : decode b_M_count 26 = .ok (.iload_n 1, 1) := by decide +kernel
theorem d_M_count_27 : decode b_M_count 27 = .ok (.ifCond .ne 6, 3) := by decide +kernel
theorem d_M_count_30 : decode b_M_count 30 = .ok (.iinc 2 1, 3) := by decide +kernel
theorem d_M_count_33 : decode b_M_count 33 = .ok (.iload_n 1, 1) := by decide +kernel
theorem d_M_count_34 : decode b_M_count 34 = .ok (.iconst 2, 1) := by decide +kernel
theorem d_M_count_35 : decode b_M_count 35 = .ok (.if_icmp .ne 11, 3) := by decide +kernel
theorem d_M_count_38 : decode b_M_count 38 = .ok (.iload_n 2, 1) := by decide +kernel
theorem d_M_count_39 : decode b_M_count 39 = .ok (.aload_n 0, 1) := by decide +kernel
theorem d_M_count_40 : decode b_M_count 40 = .ok (.iload_n 3, 1) := by decide +kernel
theorem d_M_count_41 : decode b_M_count 41 = .ok (.invokevirtual 72, 3) := by decide +kernel
theorem d_M_count_44 : decode b_M_count 44 = .ok (.iadd, 1) := by decide +kernel
theorem d_M_count_45 : decode b_M_count 45 = .ok (.istore_n 2, 1) := by decide +kernel
theorem d_M_count_46 : decode b_M_count 46 = .ok (.iload_n 1, 1) := by decide +kernel
theorem d_M_count_47 : decode b_M_count 47 = .ok (.iconst 4, 1) := by decide +kernel
theorem d_M_count_48 : decode b_M_count 48 = .ok (.if_icmp .ne 18, 3) := by decide +kernel
theorem d_M_count_51 : decode b_M_count 51 = .ok (.aload_n 0, 1) := by decide +kernel
theorem d_M_count_52 : decode b_M_count 52 = .ok (.iload_n 3, 1) := by decide +kernel
theorem d_M_count_53 : decode b_M_count 53 = .ok (.invokevirtual 68, 3) := by decide +kernel
theorem d_M_count_56 : decode b_M_count 56 = .ok (.iload_n 2, 1) := by decide +kernel
theorem d_M_count_57 : decode b_M_count 57 = .ok (.if_icmp .le 9, 3) := by decide +kernel
theorem d_M_count_60 : decode b_M_count 60 = .ok (.aload_n 0, 1) := by decide +kernel
theorem d_M_count_61 : decode b_M_count 61 = .ok (.iload_n 3, 1) := by decide +kernel
theorem d_M_count_62 : decode b_M_count 62 = .ok (.invokevirtual 68, 3) := by decide +kernel
theorem d_M_count_65 : decode b_M_count 65 = .ok (.istore_n 2, 1) := by decide +kernel
theorem d_M_count_66 : decode b_M_count 66 = .ok (.iinc 3 1, 3) := by decide +kernel
theorem d_M_count_69 : decode b_M_count 69 = .ok (.goto (-60), 3) := by decide +kernel
theorem d_M_count_72 : decode b_M_count 72 = .ok (.iconst 0, 1) := by decide +kernel
theorem d_M_count_73 : decode b_M_count 73 = .ok (.istore_n 3, 1) := by decide +kernel
theorem d_M_count_74 : decode b_M_count 74 = .ok (.iload_n 3, 1) := by decide +kernel
theorem d_M_count_75 : decode b_M_count 75 = .ok (.sipush 256, 3) := by decide +kernel
theorem d_M_count_78 : decode b_M_count 78 = .ok (.if_icmp .ge 42, 3) := by decide +kernel
theorem d_M_count_81 : decode b_M_count 81 = .ok (.aload_n 0, 1) := by decide +kernel
theorem d_M_count_82 : decode b_M_count 82 = .ok (.getfield 22, 3) := by decide +kernel
theorem d_M_count_85 : decode b_M_count 85 = .ok (.iload_n 3, 1) := by decide +kernel
theorem d_M_count_86 : decode b_M_count 86 = .ok (.baload, 1) := by decide +kernel
theorem d_M_count_87 : decode b_M_count 87 = .ok (.ifCond .ne 6, 3) := by decide +kernel
theorem d_M_count_90 : decode b_M_count 90 = .ok (.goto 24, 3) := by decide +kernel
theorem d_M_count_93 : decode b_M_count 93 = .ok (.iload_n 1, 1) := by decide +kernel
theorem d_M_count_94 : decode b_M_count 94 = .ok (.iconst 1, 1) := by decide +kernel
theorem d_M_count_95 : decode b_M_count 95 = .ok (.if_icmp .ne 6, 3) := by decide +kernel
theorem d_M_count_98 : decode b_M_count 98 = .ok (.iinc 2 1, 3) := by decide +kernel
theorem d_M_count_101 : decode b_M_count 101 = .ok (.iload_n 1, 1) := by decide +kernel
theorem d_M_count_102 : decode b_M_count 102 = .ok (.iconst 3, 1) := by decide +kernel
theorem d_M_count_103 : decode b_M_count 103 = .ok (.if_icmp .ne 11, 3) := by decide +kernel
theorem d_M_count_106 : decode b_M_count 106 = .ok (.iload_n 2, 1) := by decide +kernel
theorem d_M_count_107 : decode b_M_count 107 = .ok (.aload_n 0, 1) := by decide +kernel
theorem d_M_count_108 : decode b_M_count 108 = .ok (.iload_n 3, 1) := by decide +kernel
theorem d_M_count_109 : decode b_M_count 109 = .ok (.invokevirtual 95, 3) := by decide +kernel
theorem d_M_count_112 : decode b_M_count 112 = .ok (.iadd, 1) := by decide +kernel
theorem d_M_count_113 : decode b_M_count 113 = .ok (.istore_n 2, 1) := by decide +kernel
theorem d_M_count_114 : decode b_M_count 114 = .ok (.iinc 3 1, 3) := by decide +kernel
theorem d_M_count_117 : decode b_M_count 117 = .ok (.goto (-43), 3) := by decide +kernel
theorem d_M_count_120 : decode b_M_count 120 = .ok (.iload_n 1, 1) := by decide +kernel
theorem d_M_count_121 : decode b_M_count 121 = .ok (.iconst 0, 1) := by decide +kernel
theorem d_M_count_122 : decode b_M_count 122 = .ok (.iconst 4, 1) := by decide +kernel
theorem d_M_count_123 : decode b_M_count 123 = .ok (.invokestatic 39, 3) := by decide +kernel
theorem d_M_count_126 : decode b_M_count 126 = .ok (.ifCond .eq 7, 3) := by decide +kernel
theorem d_M_count_129 : decode b_M_count 129 = .ok (.iload_n 2, 1) := by decide +kernel
theorem d_M_count_130 : decode b_M_count 130 = .ok (.goto 4, 3) := by decide +kernel
theorem d_M_count_133 : decode b_M_count 133 = .ok (.iconst (-1), 1) := by decide +kernel
theorem d_M_count_134 : decode b_M_count 134 = .ok (.ireturn, 1) := by decide +kernel
end
section
/-! BASE: worlds up to order; contracts of one form; entries, ends, calls of that form -/
section BS1
variable {D : va_G} {cl : List vw_C} {A : Nat → Prop} {H H1 : Heap} {w0 wc wr w1 wn : va_W}
theorem bs_at (hP : va_P D cl w0 H) {q : Nat × va_E} (h : q ∈ w0) : va_at D cl q H := by
  obtain ⟨i, hi⟩ := List.mem_iff_getElem?.mp h
  exact hP i q hi
theorem bs_of (h : ∀ q ∈ w0, va_at D cl q H) : va_P D cl w0 H := fun _ q hk => h q (List.mem_of_getElem? hk)
theorem bs_pmP (h : w0.Perm wn) (hP : va_P D cl w0 H) : va_P D cl wn H := bs_of fun _ hq => bs_at hP (h.mem_iff.mpr hq)
theorem bs_nd (ws : va_W) : (∀ (i j : Nat) (p q : Nat × va_E), ws[i]? = some p → ws[j]? = some q → p.1 = q.1 → i = j) ↔ (ws.map (fun q => q.1)).Nodup := by
  rw [List.nodup_iff_pairwise_ne, List.pairwise_iff_getElem]
  constructor
  · intro h i j hi hj hij he
    rw [List.length_map] at hi hj
    rw [List.getElem_map, List.getElem_map] at he
    exact absurd (h i j ws[i] ws[j] (List.getElem?_eq_getElem hi) (List.getElem?_eq_getElem hj) he) (by omega)
  · intro h i j p q hp hq he
    obtain ⟨hi, rfl⟩ := List.getElem?_eq_some_iff.mp hp
    obtain ⟨hj, rfl⟩ := List.getElem?_eq_some_iff.mp hq
    rcases Nat.lt_trichotomy i j with hl | hl | hl
    · exact absurd (by rw [List.getElem_map, List.getElem_map]; exact he) (h i j (by rw [List.length_map]; exact hi) (by rw [List.length_map]; exact hj) hl)
    · exact hl
    · exact absurd (by rw [List.getElem_map, List.getElem_map]; exact he.symm) (h j i (by rw [List.length_map]; exact hj) (by rw [List.length_map]; exact hi) hl)
theorem bs_pmD (h : w0.Perm wn) (hD : va_D A w0) : va_D A wn := by
  refine ⟨(bs_nd wn).mpr (((h.map (fun q => q.1)).nodup_iff).mp ((bs_nd w0).mp hD.1)), fun k q hk => ?_⟩
  obtain ⟨i, hi⟩ := List.mem_iff_getElem?.mp (h.mem_iff.mpr (List.mem_of_getElem? hk))
  exact hD.2 i q hi
theorem bs_in (hD : va_D A w0) {q : Nat × va_E} (h : q ∈ w0) : A q.1 := by
  obtain ⟨i, hi⟩ := List.mem_iff_getElem?.mp h
  exact hD.2 i q hi
theorem bs_r {j : Nat} {q : Nat × va_E} (hj : wr[j]? = some q) : (wc ++ wr)[wc.length + j]? = some q := by
  rw [List.getElem?_append_right (by omega)]
  simpa using hj
theorem bs_l {j : Nat} {q : Nat × va_E} (hj : wc[j]? = some q) : (wc ++ wr)[j]? = some q := by
  rw [List.getElem?_append_left (List.getElem?_eq_some_iff.mp hj).1]; exact hj
theorem bs_free {H0 : Heap} {locs : List Loc} (hD : va_D A w0) (hpm : w0.Perm (wc ++ wr)) (hS : va_S A H0 H locs) (hA : ∀ q, H0.size ≤ q → A q) : ∀ q, va_A wc H.size q → A q := by
  intro q hq
  rcases hq with ⟨k, e, hk⟩ | hq
  · exact bs_in hD (q := (q, e)) (hpm.mem_iff.mpr (List.mem_append_left _ (List.mem_of_getElem? hk)))
  · exact hA q (Nat.le_trans hS.1 hq)
theorem bs_join (hP : va_P D cl w0 H) (hD : va_D A w0) (hpm : w0.Perm (wc ++ wr)) (hF : ∀ q, va_A wc H.size q → A q) (hk : ∀ q : Nat, q < H.size → ¬ va_A wc H.size q → H1[q]? = H[q]?) (hP1 : va_P D cl w1 H1) (hD1 : va_D (va_A wc H.size) w1) (hpn : (w1 ++ wr).Perm wn) : va_P D cl wn H1 ∧ va_D A wn := by
  have hP' := bs_pmP hpm hP
  have hD' := bs_pmD hpm hD
  have hr : ∀ q ∈ wr, q.1 < H.size ∧ ¬ va_A wc H.size q.1 := by
    intro q hq
    have hl := (bs_at hP' (List.mem_append_right wc hq)).lt
    refine ⟨hl, ?_⟩
    rintro (⟨k, e, hk⟩ | h)
    · obtain ⟨j, hj⟩ := List.mem_iff_getElem?.mp hq
      have h3 := hD'.1 k (wc.length + j) (q.1, e) q (bs_l hk) (bs_r hj) rfl
      have h4 := (List.getElem?_eq_some_iff.mp hk).1
      omega
    · omega
  have hPr : va_P D cl wr H1 := bs_of fun q hq => (bs_at hP' (List.mem_append_right wc hq)).kept (hk _ (hr q hq).1 (hr q hq).2)
  have hDr : va_D A wr := ⟨fun i j p q hp hq e => by
    have h3 := hD'.1 _ _ _ _ (bs_r (wc := wc) hp) (bs_r (wc := wc) hq) e
    omega, fun k q hk => hD'.2 _ q (bs_r hk)⟩
  have hx : ∀ (i j : Nat) (p q : Nat × va_E), w1[i]? = some p → wr[j]? = some q → p.1 ≠ q.1 := fun i j p q hp hq e => (hr q (List.mem_of_getElem? hq)).2 (e ▸ hD1.2 i p hp)
  exact ⟨bs_pmP hpn (va_P.app hP1 hPr), bs_pmD hpn (va_D.app (hD1.weaken fun k q _ h => hF _ h) hDr hx)⟩
theorem bs_sub {w : va_W} (hD : va_D A w0) (hpm : w0.Perm (wc ++ wr)) : va_D A wc := by
  have hD' := bs_pmD hpm hD
  exact ⟨fun i j p q hp hq e => hD'.1 _ _ _ _ (bs_l (wr := wr) hp) (bs_l (wr := wr) hq) e, fun k q hk => hD'.2 _ q (bs_l hk)⟩
theorem bs_subP (hP : va_P D cl w0 H) (hpm : w0.Perm (wc ++ wr)) : va_P D cl wc H := bs_of fun q hq => bs_at (bs_pmP hpm hP) (List.mem_append_left wr hq)
end BS1
theorem pm_nil (w : va_W) : (w ++ []).Perm w := by rw [List.append_nil]
theorem pm_nil' (w : va_W) : w.Perm (w ++ []) := by rw [List.append_nil]
/-- the words across the nest, that no warming takes away -/
abbrev nW : List Cond := [Cond.methodLinkNest "StyleSheet" 11 ⟨"StyleSheet$Table", "<init>", "(I)V"⟩ "StyleSheet", Cond.methodLinkNest "StyleSheet" 31 ⟨"StyleSheet$Table", "add", "(I)V"⟩ "StyleSheet", Cond.methodLinkNest "StyleSheet" 64 ⟨"StyleSheet$Table", "has", "(I)Z"⟩ "StyleSheet", Cond.methodLinkNest "StyleSheet" 99 ⟨"StyleSheet$Table", "valuesIn", "(I)I"⟩ "StyleSheet", Cond.methodLinkNest "StyleSheet" 68 ⟨"StyleSheet$Table", "remove", "(I)V"⟩ "StyleSheet", Cond.methodLinkNest "StyleSheet" 121 ⟨"StyleSheet$Table", "howMany", "()I"⟩ "StyleSheet", Cond.methodLinkNest "StyleSheet" 124 ⟨"StyleSheet$Table", "valuesInAll", "()I"⟩ "StyleSheet", Cond.methodLinkNest "StyleSheet" 52 ⟨"StyleSheet$Table", "leastFree", "()I"⟩ "StyleSheet", Cond.methodLinkNest "StyleSheet" 152 ⟨"StyleSheet$Table", "numberOf", "([I)I"⟩ "StyleSheet", Cond.fieldLinkNest "StyleSheet" 81 "StyleSheet$Table" "values" "[[I" "StyleSheet", Cond.declares ⟨"java/lang/RuntimeException", "<init>", "()V"⟩, Cond.declares ⟨"java/lang/RuntimeException", "<init>", "(Ljava/lang/String;)V"⟩, Cond.declares ⟨"java/lang/Exception", "<init>", "()V"⟩, Cond.declares ⟨"java/lang/Exception", "<init>", "(Ljava/lang/String;)V"⟩, Cond.declares ⟨"java/lang/Throwable", "<init>", "()V"⟩, Cond.declares ⟨"java/lang/Throwable", "<init>", "(Ljava/lang/String;)V"⟩, Cond.castable "java/lang/IllegalArgumentException" "java/lang/IllegalArgumentException", Cond.castable "java/lang/IllegalStateException" "java/lang/IllegalStateException", Cond.castable "java/util/NoSuchElementException" "java/util/NoSuchElementException"]
/-- what a method may ask of the tables beside the words -/
def bK (D : va_G) (ts : List (ClassId × FieldType)) (U : State) : Prop := va_K D vwCl ts U ∧ (∀ w ∈ nW, va_Nw w U) ∧ va_AOA .int U
theorem nW_warm {s U : State} (hW : s.WarmedH U.vm) : ∀ w ∈ nW, va_Nw w s → va_Nw w U := by
  intro w hw h
  simp only [nW, List.mem_cons, List.not_mem_nil, or_false] at hw
  rcases hw with rfl | rfl | rfl | rfl | rfl | rfl | rfl | rfl | rfl | rfl | rfl | rfl | rfl | rfl | rfl | rfl | rfl | rfl | rfl
  all_goals first | exact va_Nw.warmM hW h | exact va_Nw.warmF hW h | exact va_Nw.warmD hW h | exact va_Nw.warmC hW h
theorem nW_tab : ∀ w ∈ nW, w.onTables = true := by decide
theorem bK.moved {D : va_G} {ts : List (ClassId × FieldType)} {s U : State} (hW : s.WarmedH U.vm) (h : bK D ts s) : bK D ts U := ⟨va_K.moved hW.alike h.1, fun w hw => nW_warm hW w hw (h.2.1 w hw), va_AOA.moved hW.alike h.2.2⟩
theorem bK.same {D : va_G} {ts : List (ClassId × FieldType)} {s U : State} (hv : s.vm = U.vm) (h : bK D ts s) : bK D ts U := ⟨va_K.moved (by rw [hv]; exact Vm.Alike.refl _) h.1, fun w hw => va_Nw.same (nW_tab w hw) hv (h.2.1 w hw), va_AOA.moved (by rw [hv]; exact Vm.Alike.refl _) h.2.2⟩
abbrev wY (y : MethodName) (cc : ByteArray) (n : Nat) (r : Option FieldType) : List Cond := Cond.code y cc n r :: wG
abbrev rm9 (f mc ms : Nat) : Room := { frames := f, cells := mc, slots := ms, locals := 30 * f }
theorem wY_in {y : MethodName} {cc : ByteArray} {n : Nat} {r : Option FieldType} (h : Cond.code y cc n r ∈ wG) : GoodIn wG (wY y cc n r) := fun w hw => by
  rcases List.mem_cons.mp hw with rfl | hw
  · exact ⟨h, wG_good _ h⟩
  · exact ⟨hw, wG_good _ hw⟩
section BSW
variable {R : Room} {s : State} {args : Array Value} {own C host : String} {index maxL f mc ms : Nat} {y : MethodName} {bytes : ByteArray} {ret : Option FieldType}
theorem cwV9 (n : Nat) (hts : ∀ w ∈ wG, w.before args s = true) (hcd : Cond.code y bytes maxL ret ∈ wG) (hl : Cond.methodLink own index y ∈ wG) (hi : Cond.instanceMethod y ∈ wG) (hsel : Cond.selects C y y ∈ wG) (hin : Cond.initialized y.cls ∈ wG)
    (hd : y.cls ≠ "java/lang/invoke/MethodHandle" ∧ y.cls ≠ "java/lang/invoke/VarHandle" ∧ (parseMethodDescriptor y.desc).map (fun d => d.parameters.length) = some n) (hR : f + 1 ≤ R.frames ∧ 8 + (maxL + 11) + 30 * f ≤ R.locals) : CallW R s args own C index y bytes maxL ret (wY y bytes maxL ret) (rm9 f mc ms) mc ms n :=
  ⟨callB_of n hts (wY_in hcd) rfl rfl rfl (hts _ hin) (hts _ hl) hd hR, hts _ hi, hts _ hsel⟩
theorem cwS9 (n : Nat) (hts : ∀ w ∈ wG, w.before args s = true) (hcd : Cond.code y bytes maxL ret ∈ wG) (hl : Cond.methodLink own index y ∈ wG) (hst : Cond.static y ∈ wG) (hin : Cond.initialized y.cls ∈ wG)
    (hd : y.cls ≠ "java/lang/invoke/MethodHandle" ∧ y.cls ≠ "java/lang/invoke/VarHandle" ∧ (parseMethodDescriptor y.desc).map (fun d => d.parameters.length) = some n) (hR : f + 1 ≤ R.frames ∧ 8 + (maxL + 11) + 30 * f ≤ R.locals) : CallB R s args own index y bytes maxL ret (wY y bytes maxL ret) (rm9 f mc ms) mc ms n ∧ (Cond.static y).before args s = true :=
  ⟨callB_of n hts (wY_in hcd) rfl rfl rfl (hts _ hin) (hts _ hl) hd hR, hts _ hst⟩
theorem cwI9 (n : Nat) (hts : ∀ w ∈ wG, w.before args s = true) (hcd : Cond.code y bytes maxL none ∈ wG) (hl : Cond.methodLink own index y ∈ wG) (hi : Cond.instanceMethod y ∈ wG) (hin : Cond.initialized y.cls ∈ wG) (hy1 : y.name = "<init>")
    (hd : y.cls ≠ "java/lang/invoke/MethodHandle" ∧ y.cls ≠ "java/lang/invoke/VarHandle" ∧ (parseMethodDescriptor y.desc).map (fun d => d.parameters.length) = some n) (hR : f + 1 ≤ R.frames ∧ 8 + (maxL + 11) + 30 * f ≤ R.locals) : CallB R s args own index y bytes maxL none (wY y bytes maxL none) (rm9 f mc ms) mc ms n ∧ y.name = "<init>" ∧ (Cond.instanceMethod y).before args s = true :=
  ⟨callB_of n hts (wY_in hcd) rfl rfl rfl (hts _ hin) (hts _ hl) hd hR, hy1, hts _ hi⟩
theorem cwN9 (n : Nat) (hts : ∀ w ∈ wG, w.before args s = true) (hcd : Cond.code y bytes maxL ret ∈ wG) (hl : va_Nw (.methodLinkNest own index y host) s) (hi : Cond.instanceMethod y ∈ wG) (hsel : Cond.selects C y y ∈ wG) (hin : Cond.initialized y.cls ∈ wG)
    (hd : y.cls ≠ "java/lang/invoke/MethodHandle" ∧ y.cls ≠ "java/lang/invoke/VarHandle" ∧ (parseMethodDescriptor y.desc).map (fun d => d.parameters.length) = some n) (hR : f + 1 ≤ R.frames ∧ 8 + (maxL + 11) + 30 * f ≤ R.locals) : va_CN R s args own index y host bytes maxL ret (wY y bytes maxL ret) (rm9 f mc ms) mc ms n ∧ (Cond.instanceMethod y).before args s = true ∧ (Cond.selects C y y).before args s = true :=
  ⟨va_cnB n hts (wY_in hcd) rfl rfl rfl hl (hts _ hin) hd hR, hts _ hi, hts _ hsel⟩
theorem cwNI9 (n : Nat) (hts : ∀ w ∈ wG, w.before args s = true) (hcd : Cond.code y bytes maxL none ∈ wG) (hl : va_Nw (.methodLinkNest own index y host) s) (hi : Cond.instanceMethod y ∈ wG) (hin : Cond.initialized y.cls ∈ wG) (hy1 : y.name = "<init>")
    (hd : y.cls ≠ "java/lang/invoke/MethodHandle" ∧ y.cls ≠ "java/lang/invoke/VarHandle" ∧ (parseMethodDescriptor y.desc).map (fun d => d.parameters.length) = some n) (hR : f + 1 ≤ R.frames ∧ 8 + (maxL + 11) + 30 * f ≤ R.locals) : va_CN R s args own index y host bytes maxL none (wY y bytes maxL none) (rm9 f mc ms) mc ms n ∧ y.name = "<init>" ∧ (Cond.instanceMethod y).before args s = true :=
  ⟨va_cnB n hts (wY_in hcd) rfl rfl rfl hl (hts _ hin) hd hR, hy1, hts _ hi⟩
end BSW
/-- a contract's start: the world w, at a heap of size sz -/
def bP (D : va_G) (ts : List (ClassId × FieldType)) (w : va_W) (sz : Nat) (av : List Value) : Array Value → State → Prop := va_Pc av (fun U => U.heap.size = sz ∧ va_P D vwCl w U.heap ∧ bK D ts U ∧ va_D (fun _ => True) w)
/-- the world w1 behind it -/
def bB (D : va_G) (A : Nat → Prop) (w1 : va_W) (t : State) : Prop := va_P D vwCl w1 t.heap ∧ va_D A w1
def bI (D : va_G) (A : Nat → Prop) (post : Int32 → va_W → Prop) : Array Value → State → Outcome → State → Prop := va_Qi post (bB D A) A
def bV (D : va_G) (A : Nat → Prop) (post : va_W → Prop) : Array Value → State → Outcome → State → Prop := va_Qv post (bB D A) A
abbrev bMI (l : Launch) (y : MethodName) (ws : List Cond) (rm : Room) (D : va_G) (ts : List (ClassId × FieldType)) (w : va_W) (sz : Nat) (av : List Value) (post : Int32 → va_W → Prop) (mc ms : Nat) : Prop := Met l y ws rm (bP D ts w sz av) (bI D (va_A w sz) post) mc ms (va_A w sz)
abbrev bMV (l : Launch) (y : MethodName) (ws : List Cond) (rm : Room) (D : va_G) (ts : List (ClassId × FieldType)) (w : va_W) (sz : Nat) (av : List Value) (post : va_W → Prop) (mc ms : Nat) : Prop := Met l y ws rm (bP D ts w sz av) (bV D (va_A w sz) post) mc ms (va_A w sz)
theorem bP_blind {D : va_G} {ts : List (ClassId × FieldType)} {w : va_W} {sz : Nat} {av : List Value} : FrameBlind (bP D ts w sz av) := fun a U g mk q => by
  obtain ⟨q0, q1, qP, qK, qD⟩ := q
  exact ⟨q0, q1, qP, bK.same (s := U) (U := U.calling g mk a) rfl qK, qD⟩
section BS2
variable {l : Launch} {y : MethodName} {rm : Room} {cc : ByteArray} {maxL : Nat} {D : va_G} {ts : List (ClassId × FieldType)} {w0 : va_W} {sz mc ms : Nat} {av : List Value}
/-- entry of a method that answers an int (or a boolean) -/
theorem ent_i {ty : FieldType} {post : Int32 → va_W → Prop} (hy : plainName y.cls = true) (hn : (lg_sl av).length ≤ maxL) (hty : ∀ v w, post v w → narrow ty (.int v) = .int v)
    (body : ∀ (p : Program) (e : Env) (s : State) (m : MethodId) (args : Array Value) (below : List Frame) (meth : Method) (c : Code) (A : Nat → Prop) (Q : State → Prop) (ls : Array Slot),
      p.tables.exec = Jvm.exec → c.code = cc → c.maxLocals = maxL → s.vm.findClass y.cls = some m.cls → (∀ w ∈ wG, w.before args s = true) → s.heap.size = sz → (∀ q, s.heap.size ≤ q → A q) → va_P D vwCl w0 s.heap → va_D A w0 → va_S A s.heap s.heap [] → bK D ts s → lv_has ls maxL (lv_args 0 av) →
      (∀ (v : Int32) (w1 : va_W) (H : Heap) (locs : List Loc) (pc : Nat) (ls : Array Slot) (k n : Nat), decode cc pc = .ok (.ireturn, 1) → post v w1 → va_P D vwCl w1 H → va_D A w1 → va_S A s.heap H locs → k ≤ mc → n ≤ ms → W p l e rm s m args below meth c H locs k n Q (F0 m pc ls [.int v])) →
      W p l e rm s m args below meth c s.heap [] 0 0 Q (F0 m 0 ls [])) : bMI l y (wY y cc maxL (some ty)) rm D ts w0 sz av post mc ms := by
  refine Met.ofW (cc := cc) (maxL := maxL) (ret := some ty) hy rfl ?_
  intro p e s m args below meth c s₁ B hml hv
  obtain ⟨rfl, hsz, hP, hK, hD0⟩ := hv
  have hD := hD0.self (sz := sz)
  rw [lg_entry_eq]
  refine body p e s m av.toArray below meth c (va_A w0 sz) _ _ B.exec B.bytes hml (findClass_of_methodNamed B.named) (fun w h => atoms_spec (ws := _) B.pre w (List.mem_cons_of_mem _ h)) hsz (fun q h => Or.inr (hsz ▸ h)) hP hD va_S.rf hK (lv_entry av hn) ?_
  intro v w1 H locs pc ls k n hdg hpost hP1 hD1 hS1 hk hn'
  refine W.widen hk hn' ?_
  exact W.zret (v := v) B.exec B.bytes B.returns (hty v w1 hpost) (fun t ht hW => ⟨⟨v, w1, rfl, hpost, by rw [ht]; exact hP1, hD1⟩, hS1.F ht⟩) hS1.2.2 hdg B.notSynchronized
/-- entry of a method without an answer -/
theorem ent_v {post : va_W → Prop} (hy : plainName y.cls = true) (hn : (lg_sl av).length ≤ maxL)
    (body : ∀ (p : Program) (e : Env) (s : State) (m : MethodId) (args : Array Value) (below : List Frame) (meth : Method) (c : Code) (A : Nat → Prop) (Q : State → Prop) (ls : Array Slot),
      p.tables.exec = Jvm.exec → c.code = cc → c.maxLocals = maxL → s.vm.findClass y.cls = some m.cls → (∀ w ∈ wG, w.before args s = true) → s.heap.size = sz → (∀ q, s.heap.size ≤ q → A q) → va_P D vwCl w0 s.heap → va_D A w0 → va_S A s.heap s.heap [] → bK D ts s → lv_has ls maxL (lv_args 0 av) → meth.name = y.name →
      (∀ (w1 : va_W) (H : Heap) (locs : List Loc) (pc : Nat) (ls : Array Slot) (k n : Nat), decode cc pc = .ok (.return_, 1) → post w1 → va_P D vwCl w1 H → va_D A w1 → va_S A s.heap H locs → k ≤ mc → n ≤ ms → W p l e rm s m args below meth c H locs k n Q (F0 m pc ls [])) →
      W p l e rm s m args below meth c s.heap [] 0 0 Q (F0 m 0 ls [])) : bMV l y (wY y cc maxL none) rm D ts w0 sz av post mc ms := by
  refine Met.ofW (cc := cc) (maxL := maxL) (ret := none) hy rfl ?_
  intro p e s m args below meth c s₁ B hml hv
  obtain ⟨rfl, hsz, hP, hK, hD0⟩ := hv
  have hD := hD0.self (sz := sz)
  rw [lg_entry_eq]
  refine body p e s m av.toArray below meth c (va_A w0 sz) _ _ B.exec B.bytes hml (findClass_of_methodNamed B.named) (fun w h => atoms_spec (ws := _) B.pre w (List.mem_cons_of_mem _ h)) hsz (fun q h => Or.inr (hsz ▸ h)) hP hD va_S.rf hK (lv_entry av hn) (name_of_methodNamed B.named B.method).1 ?_
  intro w1 H locs pc ls k n hdg hpost hP1 hD1 hS1 hk hn'
  refine W.widen hk hn' ?_
  exact W.vret B.exec B.bytes B.returns (fun t ht hW => ⟨⟨w1, rfl, hpost, by rw [ht]; exact hP1, hD1⟩, hS1.F ht⟩) hS1.2.2 hdg B.notSynchronized
end BS2
section BS3
variable {p : Program} {l : Launch} {e : Env} {R : Room} {s : State} {m : MethodId} {args : Array Value} {below : List Frame} {meth : Method} {c : Code} {H : Heap} {locs : List Loc} {cells slots : Nat} {Q : State → Prop}
variable {D : va_G} {ts : List (ClassId × FieldType)} {A : Nat → Prop} {w0 wc wr : va_W} {mc ms pc : Nat} {ls : Array Slot} {st0 rest : List Value} {a : Array Value}
theorem prV {ci q0 b : Nat} {fs As : List Value} {q : vw_C} (hK : bK D ts s) (hP : va_P D vwCl w0 H) (hD : va_D A w0) (hpm : w0.Perm (wc ++ wr)) (hc : vwCl[ci]? = some q) (he : wc[q0]? = some (b, .inr (ci, fs))) : PreV s H q.1 b (bP D ts wc H.size (.ref b :: As)) As :=
  ⟨bP_blind, va_recv hK.1 (bs_subP hP hpm) hc he, fun U hU hW => ⟨rfl, by rw [hU], by rw [hU]; exact bs_subP hP hpm, bK.moved hW hK, (bs_sub (w := wc) hD hpm).weaken (fun _ _ _ _ => trivial)⟩⟩
theorem prS {As : List Value} (hK : bK D ts s) (hP : va_P D vwCl w0 H) (hD : va_D A w0) (hpm : w0.Perm (wc ++ wr)) : PreS s H (bP D ts wc H.size As) As :=
  ⟨bP_blind, fun U hU hW => ⟨rfl, by rw [hU], by rw [hU]; exact bs_subP hP hpm, bK.moved hW hK, (bs_sub (w := wc) hD hpm).weaken (fun _ _ _ _ => trivial)⟩⟩
/-- behind a call that answers an int -/
theorem cal_i {post : Int32 → va_W → Prop} (hr : va_Run p l e R s m args below meth c H locs cells slots mc ms (F0 m pc ls st0) rest (bI D (va_A wc H.size) post a) (va_A wc H.size)) (hpm : w0.Perm (wc ++ wr)) (hP : va_P D vwCl w0 H) (hD : va_D A w0) (hS : va_S A s.heap H locs) (hA : ∀ q, s.heap.size ≤ q → A q)
    (kk : ∀ (r : Int32) (w1 : va_W) (H1 : Heap) (locs1 : List Loc), post r w1 → (∀ wn : va_W, (w1 ++ wr).Perm wn → va_P D vwCl wn H1 ∧ va_D A wn) → va_S A s.heap H1 locs1 → W p l e R s m args below meth c H1 locs1 (cells + mc) (slots + ms) Q (F0 m (pc + 3) ls (.int r :: rest))) : W p l e R s m args below meth c H locs cells slots Q (F0 m pc ls st0) := by
  have hF := bs_free hD hpm hS hA
  refine va_calli (post := post) (B := bB D (va_A wc H.size)) (A1 := va_A wc H.size) hr hS (fun q _ h => hF q h) hF (fun r w1 t H1 locs1 ht hvm hw hB hz hk hS1 => ?_)
  obtain ⟨hP1, hD1⟩ := hB
  rw [ht] at hP1
  exact kk r w1 H1 locs1 hw (fun wn hpn => bs_join hP hD hpm hF hk hP1 hD1 hpn) hS1
theorem cal_v {post : va_W → Prop} (hr : va_Run p l e R s m args below meth c H locs cells slots mc ms (F0 m pc ls st0) rest (bV D (va_A wc H.size) post a) (va_A wc H.size)) (hpm : w0.Perm (wc ++ wr)) (hP : va_P D vwCl w0 H) (hD : va_D A w0) (hS : va_S A s.heap H locs) (hA : ∀ q, s.heap.size ≤ q → A q)
    (kk : ∀ (w1 : va_W) (H1 : Heap) (locs1 : List Loc), post w1 → (∀ wn : va_W, (w1 ++ wr).Perm wn → va_P D vwCl wn H1 ∧ va_D A wn) → va_S A s.heap H1 locs1 → W p l e R s m args below meth c H1 locs1 (cells + mc) (slots + ms) Q (F0 m (pc + 3) ls rest)) : W p l e R s m args below meth c H locs cells slots Q (F0 m pc ls st0) := by
  have hF := bs_free hD hpm hS hA
  refine va_callv (post := post) (B := bB D (va_A wc H.size)) (A1 := va_A wc H.size) hr hS (fun q _ h => hF q h) hF (fun w1 t H1 locs1 ht hvm hw hB hz hk hS1 => ?_)
  obtain ⟨hP1, hD1⟩ := hB
  rw [ht] at hP1
  exact kk w1 H1 locs1 hw (fun wn hpn => bs_join hP hD hpm hF hk hP1 hD1 hpn) hS1
end BS3
/-! throwing methods: what they need of the statics and of the texts, kept apart from the world -/
def bEV (St : List (String × Nat × String)) (sa : Nat → Nat) (A : Nat → Prop) (U : State) (H : Heap) : Prop := vx_Zq Bundle.tN "UNASSIGNED_STACK" Bundle.steD A U H ∧ vx_Zq Bundle.tN "SUPPRESSED_SENTINEL" Bundle.listD A U H ∧ ∀ (i : Nat) (q : String × Nat × String), St[i]? = some q → vk_R q.1 q.2.1 q.2.2 (sa i) U
def bPx (St : List (String × Nat × String)) (sa : Nat → Nat) (D : va_G) (ts : List (ClassId × FieldType)) (w : va_W) (sz : Nat) (av : List Value) : Array Value → State → Prop := va_Pc av (fun U => U.heap.size = sz ∧ va_P D vwCl w U.heap ∧ bK D ts U ∧ va_D (fun _ => True) w ∧ bEV St sa (va_A w sz) U U.heap)
def bX (D : va_G) (A : Nat → Prop) (px : String → va_W → Prop) : String → State → State → Prop := vx_X (S := va_W) (fun _ => True) (fun E w1 t => px E w1 ∧ bB D A w1 t) A
abbrev bXI (l : Launch) (y : MethodName) (ws : List Cond) (rm : Room) (St : List (String × Nat × String)) (sa : Nat → Nat) (D : va_G) (ts : List (ClassId × FieldType)) (w : va_W) (sz : Nat) (av : List Value) (post : Int32 → va_W → Prop) (px : String → va_W → Prop) (mc ms : Nat) : Prop := vx_Met l y ws rm (bPx St sa D ts w sz av) (bI D (va_A w sz) post) (bX D (va_A w sz) px) mc ms (va_A w sz)
abbrev bXV (l : Launch) (y : MethodName) (ws : List Cond) (rm : Room) (St : List (String × Nat × String)) (sa : Nat → Nat) (D : va_G) (ts : List (ClassId × FieldType)) (w : va_W) (sz : Nat) (av : List Value) (post : va_W → Prop) (px : String → va_W → Prop) (mc ms : Nat) : Prop := vx_Met l y ws rm (bPx St sa D ts w sz av) (bV D (va_A w sz) post) (bX D (va_A w sz) px) mc ms (va_A w sz)
theorem bEV.moved {St : List (String × Nat × String)} {sa : Nat → Nat} {A : Nat → Prop} {u U : State} {H : Heap} (hW : u.WarmedH U.vm) (h : bEV St sa A u H) : bEV St sa A U H := ⟨h.1.moved hW.alike, h.2.1.moved hW.alike, fun i q hq => (h.2.2 i q hq).warm hW⟩
theorem bEV.kept {St : List (String × Nat × String)} {sa : Nat → Nat} {A : Nat → Prop} {U : State} {H H1 : Heap} (h : bEV St sa A U H) (hq : ∀ a : Nat, a < H.size → ¬ A a → H1[a]? = H[a]?) : bEV St sa A U H1 := ⟨h.1.kept hq, h.2.1.kept hq, h.2.2⟩
theorem bEV.narrow {St : List (String × Nat × String)} {sa : Nat → Nat} {A B : Nat → Prop} {U : State} {H : Heap} (h : bEV St sa A U H) (hAB : ∀ q, B q → A q) : bEV St sa B U H := ⟨h.1.narrow hAB, h.2.1.narrow hAB, h.2.2⟩
theorem bEV.same {St : List (String × Nat × String)} {sa : Nat → Nat} {A : Nat → Prop} {u U : State} {H : Heap} (hv : U.vm = u.vm) (h : bEV St sa A u H) : bEV St sa A U H := ⟨h.1.moved (by rw [hv]; exact Vm.Alike.refl _), h.2.1.moved (by rw [hv]; exact Vm.Alike.refl _), fun i q hq => (h.2.2 i q hq).same hv⟩
theorem bPx_blind {St : List (String × Nat × String)} {sa : Nat → Nat} {D : va_G} {ts : List (ClassId × FieldType)} {w : va_W} {sz : Nat} {av : List Value} : FrameBlind (bPx St sa D ts w sz av) := fun a U g mk q => by
  obtain ⟨q0, q1, qP, qK, qD, qE⟩ := q
  exact ⟨q0, q1, qP, bK.same (s := U) (U := U.calling g mk a) rfl qK, qD, bEV.same (u := U) (U := U.calling g mk a) rfl qE⟩
section BS4
variable {l : Launch} {y : MethodName} {rm : Room} {cc : ByteArray} {maxL : Nat} {D : va_G} {ts : List (ClassId × FieldType)} {w0 : va_W} {sz mc ms : Nat} {av : List Value} {St : List (String × Nat × String)} {sa : Nat → Nat} {px : String → va_W → Prop}
theorem ent_xi {ty : FieldType} {post : Int32 → va_W → Prop} (hy : plainName y.cls = true) (hn : (lg_sl av).length ≤ maxL) (hty : ∀ v w, post v w → narrow ty (.int v) = .int v)
    (body : ∀ (p : Program) (e : Env) (s : State) (m : MethodId) (args : Array Value) (below : List Frame) (meth : Method) (c : Code) (A : Nat → Prop) (Q : State → Prop) (ls : Array Slot),
      p.tables.exec = Jvm.exec → c.code = cc → c.maxLocals = maxL → s.vm.findClass y.cls = some m.cls → (∀ w ∈ wG, w.before args s = true) → s.heap.size = sz → (∀ q, s.heap.size ≤ q → A q) → va_P D vwCl w0 s.heap → va_D A w0 → va_S A s.heap s.heap [] → bK D ts s → lv_has ls maxL (lv_args 0 av) →
      meth.locks = false → (∀ x ∈ c.exceptionTable.toList, False) → bEV St sa A s s.heap → (∃ Qc, Q = vx_MQ below Qc (bX D A px) args s mc ms A) →
      (∀ (v : Int32) (w1 : va_W) (H : Heap) (locs : List Loc) (pc : Nat) (ls : Array Slot) (k n : Nat), decode cc pc = .ok (.ireturn, 1) → post v w1 → va_P D vwCl w1 H → va_D A w1 → va_S A s.heap H locs → k ≤ mc → n ≤ ms → W p l e rm s m args below meth c H locs k n Q (F0 m pc ls [.int v])) →
      W p l e rm s m args below meth c s.heap [] 0 0 Q (F0 m 0 ls [])) : bXI l y (wY y cc maxL (some ty)) rm St sa D ts w0 sz av post px mc ms := by
  refine vx_ofW (cc := cc) (maxL := maxL) (ret := some ty) hy rfl ?_
  intro p e s m args below meth c s₁ B hml htab hv
  obtain ⟨rfl, hsz, hP, hK, hD0, hE⟩ := hv
  have hD := hD0.self (sz := sz)
  rw [lg_entry_eq]
  refine body p e s m av.toArray below meth c (va_A w0 sz) _ _ B.exec B.bytes hml (findClass_of_methodNamed B.named) (fun w h => atoms_spec (ws := _) B.pre w (List.mem_cons_of_mem _ h)) hsz (fun q h => Or.inr (hsz ▸ h)) hP hD va_S.rf hK (lv_entry av hn) B.notSynchronized htab hE ⟨_, rfl⟩ ?_
  intro v w1 H locs pc ls k n hdg hpost hP1 hD1 hS1 hk hn'
  refine vx_ret ?_
  refine W.widen hk hn' ?_
  exact W.zret (v := v) B.exec B.bytes B.returns (hty v w1 hpost) (fun t ht hW => ⟨⟨v, w1, rfl, hpost, by rw [ht]; exact hP1, hD1⟩, hS1.F ht⟩) hS1.2.2 hdg B.notSynchronized
theorem ent_xv {post : va_W → Prop} (hy : plainName y.cls = true) (hn : (lg_sl av).length ≤ maxL)
    (body : ∀ (p : Program) (e : Env) (s : State) (m : MethodId) (args : Array Value) (below : List Frame) (meth : Method) (c : Code) (A : Nat → Prop) (Q : State → Prop) (ls : Array Slot),
      p.tables.exec = Jvm.exec → c.code = cc → c.maxLocals = maxL → s.vm.findClass y.cls = some m.cls → (∀ w ∈ wG, w.before args s = true) → s.heap.size = sz → (∀ q, s.heap.size ≤ q → A q) → va_P D vwCl w0 s.heap → va_D A w0 → va_S A s.heap s.heap [] → bK D ts s → lv_has ls maxL (lv_args 0 av) →
      meth.locks = false → (∀ x ∈ c.exceptionTable.toList, False) → bEV St sa A s s.heap → (∃ Qc, Q = vx_MQ below Qc (bX D A px) args s mc ms A) →
      (∀ (w1 : va_W) (H : Heap) (locs : List Loc) (pc : Nat) (ls : Array Slot) (k n : Nat), decode cc pc = .ok (.return_, 1) → post w1 → va_P D vwCl w1 H → va_D A w1 → va_S A s.heap H locs → k ≤ mc → n ≤ ms → W p l e rm s m args below meth c H locs k n Q (F0 m pc ls [])) →
      W p l e rm s m args below meth c s.heap [] 0 0 Q (F0 m 0 ls [])) : bXV l y (wY y cc maxL none) rm St sa D ts w0 sz av post px mc ms := by
  refine vx_ofW (cc := cc) (maxL := maxL) (ret := none) hy rfl ?_
  intro p e s m args below meth c s₁ B hml htab hv
  obtain ⟨rfl, hsz, hP, hK, hD0, hE⟩ := hv
  have hD := hD0.self (sz := sz)
  rw [lg_entry_eq]
  refine body p e s m av.toArray below meth c (va_A w0 sz) _ _ B.exec B.bytes hml (findClass_of_methodNamed B.named) (fun w h => atoms_spec (ws := _) B.pre w (List.mem_cons_of_mem _ h)) hsz (fun q h => Or.inr (hsz ▸ h)) hP hD va_S.rf hK (lv_entry av hn) B.notSynchronized htab hE ⟨_, rfl⟩ ?_
  intro w1 H locs pc ls k n hdg hpost hP1 hD1 hS1 hk hn'
  refine vx_ret ?_
  refine W.widen hk hn' ?_
  exact W.vret B.exec B.bytes B.returns (fun t ht hW => ⟨⟨w1, rfl, hpost, by rw [ht]; exact hP1, hD1⟩, hS1.F ht⟩) hS1.2.2 hdg B.notSynchronized
end BS4
section BS5
variable {p : Program} {l : Launch} {e : Env} {R : Room} {s : State} {m : MethodId} {args : Array Value} {below : List Frame} {meth : Method} {c : Code} {H : Heap} {locs : List Loc} {cells slots : Nat} {Q : State → Prop}
variable {D : va_G} {ts : List (ClassId × FieldType)} {A : Nat → Prop} {w0 w1 wc wr : va_W} {mc ms pc : Nat} {ls : Array Slot} {st0 rest : List Value} {a : Array Value} {St : List (String × Nat × String)} {sa : Nat → Nat} {px : String → va_W → Prop} {Qc : Array Value → State → Outcome → State → Prop}
theorem bs_E (hE : bEV St sa A s s.heap) (hD : va_D A w0) (hpm : w0.Perm (wc ++ wr)) (hS : va_S A s.heap H locs) (hA : ∀ q, s.heap.size ≤ q → A q) {U : State} (hU : U.heap = H) (hW : s.WarmedH U.vm) : bEV St sa (va_A wc H.size) U U.heap := by
  rw [hU]
  exact ((hE.kept hS.2.1).narrow (bs_free hD hpm hS hA)).moved hW
theorem prVx {ci q0 b : Nat} {fs As : List Value} {q : vw_C} (hE : bEV St sa A s s.heap) (hS : va_S A s.heap H locs) (hA : ∀ q, s.heap.size ≤ q → A q) (hK : bK D ts s) (hP : va_P D vwCl w0 H) (hD : va_D A w0) (hpm : w0.Perm (wc ++ wr)) (hc : vwCl[ci]? = some q) (he : wc[q0]? = some (b, .inr (ci, fs))) : PreV s H q.1 b (bPx St sa D ts wc H.size (.ref b :: As)) As :=
  ⟨bPx_blind, va_recv hK.1 (bs_subP hP hpm) hc he, fun U hU hW => ⟨rfl, by rw [hU], by rw [hU]; exact bs_subP hP hpm, bK.moved hW hK, (bs_sub (w := wc) hD hpm).weaken (fun _ _ _ _ => trivial), bs_E hE hD hpm hS hA hU hW⟩⟩
theorem prSx {As : List Value} (hE : bEV St sa A s s.heap) (hS : va_S A s.heap H locs) (hA : ∀ q, s.heap.size ≤ q → A q) (hK : bK D ts s) (hP : va_P D vwCl w0 H) (hD : va_D A w0) (hpm : w0.Perm (wc ++ wr)) : PreS s H (bPx St sa D ts wc H.size As) As :=
  ⟨bPx_blind, fun U hU hW => ⟨rfl, by rw [hU], by rw [hU]; exact bs_subP hP hpm, bK.moved hW hK, (bs_sub (w := wc) hD hpm).weaken (fun _ _ _ _ => trivial), bs_E hE hD hpm hS hA hU hW⟩⟩
theorem cax_i {post : Int32 → va_W → Prop} (hr : vx_Run p l e R s m args below meth c H locs cells slots mc ms (F0 m pc ls st0) rest (bI D (va_A wc H.size) post a) (bX D (va_A wc H.size) px) (va_A wc H.size)) (hpm : w0.Perm (wc ++ wr)) (hP : va_P D vwCl w0 H) (hD : va_D A w0) (hS : va_S A s.heap H locs) (hA : ∀ q, s.heap.size ≤ q → A q)
    (kx : ∀ (E : String) (ce : Cell) (q9 : Addr) (w1 : va_W) (H1 : Heap) (locs1 : List Loc), px E w1 → (∀ wn : va_W, (w1 ++ wr).Perm wn → va_P D vwCl wn H1 ∧ va_D A wn) → va_S A s.heap H1 locs1 → H1[q9]? = some ce → ce.vm = .none → s.vm.findClass E = some ce.cls → vx_W p l e R s m args below meth c H1 locs1 (cells + mc) (slots + ms) Q (F0 m pc ls rest) q9)
    (kk : ∀ (r : Int32) (w1 : va_W) (H1 : Heap) (locs1 : List Loc), post r w1 → (∀ wn : va_W, (w1 ++ wr).Perm wn → va_P D vwCl wn H1 ∧ va_D A wn) → va_S A s.heap H1 locs1 → W p l e R s m args below meth c H1 locs1 (cells + mc) (slots + ms) Q (F0 m (pc + 3) ls (.int r :: rest))) : W p l e R s m args below meth c H locs cells slots Q (F0 m pc ls st0) := by
  have hF := bs_free hD hpm hS hA
  refine vx_calli (S := va_W) (SX := va_W) (post := post) (px := fun _ => True) (B := bB D (va_A wc H.size)) (BX := fun E w1 t => px E w1 ∧ bB D (va_A wc H.size) w1 t) (A1 := va_A wc H.size) (AX := va_A wc H.size) hr hS (fun q _ h => hF q h) hF (fun q _ h => hF q h) (fun E ce q9 w1 t H1 locs1 ht hvm _ hB hz hk hS1 hce hcv hcl => ?_) (fun r w1 t H1 locs1 ht hvm hw hB hz hk hS1 => ?_)
  · obtain ⟨hpx, hP1, hD1⟩ := hB
    rw [ht] at hP1
    exact kx E ce q9 w1 H1 locs1 hpx (fun wn hpn => bs_join hP hD hpm hF hk hP1 hD1 hpn) hS1 hce hcv hcl
  · obtain ⟨hP1, hD1⟩ := hB
    rw [ht] at hP1
    exact kk r w1 H1 locs1 hw (fun wn hpn => bs_join hP hD hpm hF hk hP1 hD1 hpn) hS1
theorem cax_v {post : va_W → Prop} (hr : vx_Run p l e R s m args below meth c H locs cells slots mc ms (F0 m pc ls st0) rest (bV D (va_A wc H.size) post a) (bX D (va_A wc H.size) px) (va_A wc H.size)) (hpm : w0.Perm (wc ++ wr)) (hP : va_P D vwCl w0 H) (hD : va_D A w0) (hS : va_S A s.heap H locs) (hA : ∀ q, s.heap.size ≤ q → A q)
    (kx : ∀ (E : String) (ce : Cell) (q9 : Addr) (w1 : va_W) (H1 : Heap) (locs1 : List Loc), px E w1 → (∀ wn : va_W, (w1 ++ wr).Perm wn → va_P D vwCl wn H1 ∧ va_D A wn) → va_S A s.heap H1 locs1 → H1[q9]? = some ce → ce.vm = .none → s.vm.findClass E = some ce.cls → vx_W p l e R s m args below meth c H1 locs1 (cells + mc) (slots + ms) Q (F0 m pc ls rest) q9)
    (kk : ∀ (w1 : va_W) (H1 : Heap) (locs1 : List Loc), post w1 → (∀ wn : va_W, (w1 ++ wr).Perm wn → va_P D vwCl wn H1 ∧ va_D A wn) → va_S A s.heap H1 locs1 → W p l e R s m args below meth c H1 locs1 (cells + mc) (slots + ms) Q (F0 m (pc + 3) ls rest)) : W p l e R s m args below meth c H locs cells slots Q (F0 m pc ls st0) := by
  have hF := bs_free hD hpm hS hA
  refine vx_callv (S := va_W) (SX := va_W) (post := post) (px := fun _ => True) (B := bB D (va_A wc H.size)) (BX := fun E w1 t => px E w1 ∧ bB D (va_A wc H.size) w1 t) (A1 := va_A wc H.size) (AX := va_A wc H.size) hr hS (fun q _ h => hF q h) hF (fun q _ h => hF q h) (fun E ce q9 w1 t H1 locs1 ht hvm _ hB hz hk hS1 hce hcv hcl => ?_) (fun w1 t H1 locs1 ht hvm hw hB hz hk hS1 => ?_)
  · obtain ⟨hpx, hP1, hD1⟩ := hB
    rw [ht] at hP1
    exact kx E ce q9 w1 H1 locs1 hpx (fun wn hpn => bs_join hP hD hpm hF hk hP1 hD1 hpn) hS1 hce hcv hcl
  · obtain ⟨hP1, hD1⟩ := hB
    rw [ht] at hP1
    exact kk w1 H1 locs1 hw (fun wn hpn => bs_join hP hD hpm hF hk hP1 hD1 hpn) hS1
/-- a callee's exception goes on to the caller -/
theorem ps_x (hQ : ∃ Qc, Q = vx_MQ below Qc (bX D A px) args s mc ms A) (hlocks : meth.locks = false) (htab : ∀ x ∈ c.exceptionTable.toList, False) {E : String} {ce : Cell} {q : Addr} (hpx : px E w1) (hP : va_P D vwCl w1 H) (hD : va_D A w1) (hS : va_S A s.heap H locs) (hcell : H[q]? = some ce) (hv : ce.vm = .none) (hcl : s.vm.findClass E = some ce.cls) (hc : cells ≤ mc) (hs : slots ≤ ms) :
    vx_W p l e R s m args below meth c H locs cells slots Q (F0 m pc ls rest) q := by
  obtain ⟨Qc, rfl⟩ := hQ
  exact vx_out (fun x hx => (htab x hx).elim) hlocks hcell hv hcl (fun t ht hvm => ⟨w1, trivial, ⟨hpx, by rw [ht]; exact hP, hD⟩, hS.F ht⟩) hS.2.2 hc hs
/-- throw new E("text") -/
theorem th_S {cc : ByteArray} (hQ : ∃ Qc, Q = vx_MQ below Qc (bX D A px) args s mc ms A) (hexec : p.tables.exec = Jvm.exec) (hb : c.code = cc) (hl : l.stackTraces = false) {own cls text : String} {names : List String} {ik is ic : Nat} (hlocks : meth.locks = false) (htab : ∀ x ∈ c.exceptionTable.toList, False)
    (hown : s.vm.findClass own = some m.cls) (hcls : Bundle.fit cls = true) (hnames : ∀ n ∈ names, Bundle.fit n = true)
    (hk : (Cond.classLink own ik cls).before args s = true) (hini : (Cond.initialized cls).before args s = true) (hat : ∀ w ∈ vx_atS own ic cls names, w.before args s = true)
    (hgood : ∀ w ∈ Cond.classLink own ik cls :: Cond.initialized cls :: vx_atS own ic cls names, vx_ot w = true)
    (hE : bEV St sa A s s.heap) (i : Nat) (hi : St[i]? = some (own, is, text)) (hpx : px cls w1) (hP : va_P D vwCl w1 H) (hD : va_D A w1) (hS : va_S A s.heap H locs) (hsize : ls.size = c.maxLocals)
    (d0 : decode cc pc = .ok (.new ik, 3)) (d3 : decode cc (pc + 3) = .ok (.dup, 1)) (d4 : decode cc (pc + 4) = .ok (.ldc is, 2)) (d6 : decode cc (pc + 6) = .ok (.invokespecial ic, 3)) (d9 : decode cc (pc + 9) = .ok (.athrow, 1))
    (hRframes : names.length + 3 < R.frames) (hRlocals : (rest.map fun v => v.category).sum + (13 * (names.length + 1) + 43) ≤ R.locals) (hRcells : cells + 1 ≤ R.cells) (hRslots : slots + 6 ≤ R.slots) (hc : cells + 1 ≤ mc) (hs : slots + 6 ≤ ms) :
    W p l e R s m args below meth c H locs cells slots Q (F0 m pc ls rest) := by
  obtain ⟨Qc, rfl⟩ := hQ
  refine vx_throwS hexec hb hl hown hcls hnames hk hini (hE.2.2 i _ hi) hat hgood hE.1 hE.2.1 hS hsize d0 d3 d4 d6 d9 (fun x hx => (htab x hx).elim) hRframes hRlocals hRcells hRslots hlocks (fun t hvm hz hq => ⟨w1, trivial, ⟨hpx, bs_of fun q hq9 => (bs_at hP hq9).kept (hq _ (bs_at hP hq9).lt), hD⟩, Nat.le_trans hS.1 hz, fun q hq9 hA9 => (hq q (Nat.lt_of_lt_of_le hq9 hS.1)).trans (hS.2.1 q hq9 hA9)⟩) hS.2.2 hc hs
end BS5
end
section
/-! ROWS with small numbers as places; grids of rows of 24 ints -/
theorem ii_1 (i : Nat) : nI i + Int32.ofInt 1 = nI (i + 1) := nI_1 i
theorem bz_0 : vp_nar .boolean (nI 0) = nI 0 := by decide
theorem bz_1 : vp_nar .boolean (nI 1) = nI 1 := by decide
section RW1
variable {p : Program} {l : Launch} {e : Env} {R : Room} {s : State} {m : MethodId} {args : Array Value} {below : List Frame} {meth : Method} {c : Code} {H : Heap} {locs : List Loc} {cells slots : Nat} {Q : State → Prop}
variable {cc : ByteArray} {pc : Nat} {ls : Array Slot} {rest : List Value} {D : va_G} {cl : List vw_C} {A : Nat → Prop} {a : Nat} {tys : List (ClassId × FieldType)} {ws : va_W} {H0 : Heap}
theorem rw_iald (hexec : p.tables.exec = Jvm.exec) (hb : c.code = cc) (hK : va_K D cl tys s) (hP : va_P D cl ws H) (q0 t0 : Nat) {cA : ClassId} {n : Nat} {f : Nat → Int32} (ha : ws[q0]? = some (a, .inl (cA, n, .inl f))) (ht : tys[t0]? = some (cA, .int)) {j : Nat} (hj : j < n) (hn : n < 2 ^ 31) (hdg : decode cc pc = .ok (.iaload, 1))
    (kk : W p l e R s m args below meth c H locs cells slots Q (F0 m (pc + 1) ls (.int (f j) :: rest))) : W p l e R s m args below meth c H locs cells slots Q (F0 m pc ls (.int (nI j) :: .ref a :: rest)) :=
  va_iald hexec hb hK hP q0 t0 ha ht (vp_in_nI hj hn) hdg (by rw [nI_clamp (Nat.lt_trans hj hn)]; exact kk)
theorem rw_zald (hexec : p.tables.exec = Jvm.exec) (hb : c.code = cc) (hK : va_K D cl tys s) (hP : va_P D cl ws H) (q0 t0 : Nat) {cA : ClassId} {n : Nat} {f : Nat → Int32} (ha : ws[q0]? = some (a, .inl (cA, n, .inl f))) (ht : tys[t0]? = some (cA, .boolean)) {j : Nat} (hj : j < n) (hn : n < 2 ^ 31) (hdg : decode cc pc = .ok (.baload, 1))
    (kk : W p l e R s m args below meth c H locs cells slots Q (F0 m (pc + 1) ls (.int (f j) :: rest))) : W p l e R s m args below meth c H locs cells slots Q (F0 m pc ls (.int (nI j) :: .ref a :: rest)) :=
  va_zald hexec hb hK hP q0 t0 ha ht (vp_in_nI hj hn) hdg (by rw [nI_clamp (Nat.lt_trans hj hn)]; exact kk)
theorem rw_iast (hexec : p.tables.exec = Jvm.exec) (hb : c.code = cc) (hK : va_K D cl tys s) (hP : va_P D cl ws H) (hD : va_D A ws) (hS : va_S A H0 H locs) (q0 t0 : Nat) {cA : ClassId} {n : Nat} {f : Nat → Int32} (ha : ws[q0]? = some (a, .inl (cA, n, .inl f))) (ht : tys[t0]? = some (cA, .int)) {j : Nat} {x : Int32} (hj : j < n) (hn : n < 2 ^ 31) (hdg : decode cc pc = .ok (.iastore, 1)) {wn : va_W} (hw : ws.set q0 (a, .inl (cA, n, .inl (upd f j x))) = wn)
    (kk : ∀ (H1 : Heap) (locs1 : List Loc), va_P D cl wn H1 → va_D A wn → va_S A H0 H1 locs1 → W p l e R s m args below meth c H1 locs1 cells slots Q (F0 m (pc + 1) ls rest)) : W p l e R s m args below meth c H locs cells slots Q (F0 m pc ls (.int x :: .int (nI j) :: .ref a :: rest)) := by
  subst hw
  refine va_iast hexec hb hK hP hD hS q0 t0 ha ht (vp_in_nI hj hn) hdg ?_
  rw [nI_clamp (Nat.lt_trans hj hn)]
  exact kk
theorem rw_zast (hexec : p.tables.exec = Jvm.exec) (hb : c.code = cc) (hK : va_K D cl tys s) (hP : va_P D cl ws H) (hD : va_D A ws) (hS : va_S A H0 H locs) (q0 t0 : Nat) {cA : ClassId} {n : Nat} {f : Nat → Int32} (ha : ws[q0]? = some (a, .inl (cA, n, .inl f))) (ht : tys[t0]? = some (cA, .boolean)) {j : Nat} {x : Int32} (hb0 : vp_nar .boolean x = x) (hj : j < n) (hn : n < 2 ^ 31) (hdg : decode cc pc = .ok (.bastore, 1)) {wn : va_W} (hw : ws.set q0 (a, .inl (cA, n, .inl (upd f j x))) = wn)
    (kk : ∀ (H1 : Heap) (locs1 : List Loc), va_P D cl wn H1 → va_D A wn → va_S A H0 H1 locs1 → W p l e R s m args below meth c H1 locs1 cells slots Q (F0 m (pc + 1) ls rest)) : W p l e R s m args below meth c H locs cells slots Q (F0 m pc ls (.int x :: .int (nI j) :: .ref a :: rest)) := by
  subst hw
  refine va_zast hexec hb hK hP hD hS q0 t0 ha ht (vp_in_nI hj hn) hdg ?_
  rw [nI_clamp (Nat.lt_trans hj hn), hb0]
  exact kk
theorem rw_aald (hexec : p.tables.exec = Jvm.exec) (hb : c.code = cc) (hK : va_K D cl tys s) (hP : va_P D cl ws H) (q0 t0 : Nat) {cA : ClassId} {t : FieldType} {n : Nat} {f : Nat → Option Nat} (ha : ws[q0]? = some (a, .inl (cA, n, .inr (.inr (.inr (.inr f)))))) (ht : tys[t0]? = some (cA, .array t)) {j y : Nat} (hj : j < n) (hn : n < 2 ^ 31) (hy : f j = some y) (hdg : decode cc pc = .ok (.aaload, 1))
    (kk : W p l e R s m args below meth c H locs cells slots Q (F0 m (pc + 1) ls (.ref y :: rest))) : W p l e R s m args below meth c H locs cells slots Q (F0 m pc ls (.int (nI j) :: .ref a :: rest)) :=
  W.aald (v := .ref y) (ty := .array t) hexec hb (hP q0 _ ha) ((hK.2 t0 _ ht).1 n (fun i => va_rf (f i))) rfl (fun q => by cases q) (by show ¬ (nI j < 0 ∨ (arrV _ _ _).slots.size ≤ _); rw [arrV_size]; exact vp_in_nI hj hn) (by show (arrV _ _ _).slots[_]? = _; rw [nI_clamp (Nat.lt_trans hj hn), arrV_read _ _ hj, hy]; rfl) rfl rfl hdg kk
end RW1
/-- n rows of 24 ints each, at the places r -/
def gRow (c : ClassId) (r : Nat → Nat) (M : Nat → Nat → Int32) (i : Nat) : Nat × va_E := (r i, .inl (c, 24, .inl (M i)))
def gRows (c : ClassId) (r : Nat → Nat) (n : Nat) (M : Nat → Nat → Int32) : va_W := (List.range n).map (gRow c r M)
/-- the array of the rows -/
def gOut (r : Nat → Nat) (n : Nat) : Nat → Option Nat := fun i => if i < n then some (r i) else none
theorem gOut_at {r : Nat → Nat} {n j : Nat} (h : j < n) : gOut r n j = some (r j) := if_pos h
theorem gRows_len (c : ClassId) (r : Nat → Nat) (n : Nat) (M : Nat → Nat → Int32) : (gRows c r n M).length = n := by simp [gRows]
theorem gRows_at {c : ClassId} {r : Nat → Nat} {n j : Nat} {M : Nat → Nat → Int32} (h : j < n) : (gRows c r n M)[j]? = some (gRow c r M j) := by simp [gRows, h]
theorem gRows_set {c : ClassId} {r : Nat → Nat} {n j : Nat} {M : Nat → Nat → Int32} {f : Nat → Int32} (h : j < n) : (gRows c r n M).set j (r j, .inl (c, 24, .inl f)) = gRows c r n (va_up M j f) := by
  apply List.ext_getElem?
  intro i
  by_cases hi : i < n
  · by_cases he : i = j
    · subst he
      rw [List.getElem?_set_self (by rw [gRows_len]; exact hi), gRows_at hi]
      simp [gRow, va_up]
    · rw [List.getElem?_set_ne (fun q => he q.symm), gRows_at hi, gRows_at hi]
      simp [gRow, va_up, he]
  · rw [List.getElem?_eq_none (by rw [List.length_set, gRows_len]; omega), List.getElem?_eq_none (by rw [gRows_len]; omega)]
/-- a row of the grid, taken out and laid back -/
theorem gRows_out {c : ClassId} {r : Nat → Nat} {n j : Nat} (M : Nat → Nat → Int32) (h : j < n) : ∃ wr : va_W, ∀ f : Nat → Int32, (gRows c r n (va_up M j f)).Perm ((r j, .inl (c, 24, .inl f)) :: wr) := by
  refine ⟨((List.range n).erase j).map (gRow c r M), fun f => ?_⟩
  have h1 : (List.range n).Perm (j :: (List.range n).erase j) := List.perm_cons_erase (List.mem_range.mpr h)
  have h2 := h1.map (gRow c r (va_up M j f))
  have h3 : ((List.range n).erase j).map (gRow c r (va_up M j f)) = ((List.range n).erase j).map (gRow c r M) := by
    apply List.map_congr_left
    intro i hi
    have hne : i ≠ j := by
      rintro rfl
      exact absurd hi ((List.nodup_range).not_mem_erase)
    simp [gRow, va_up, hne]
  rw [List.map_cons, h3] at h2
  have h4 : gRow c r (va_up M j f) j = (r j, .inl (c, 24, .inl f)) := by simp [gRow, va_up]
  rw [h4] at h2
  exact h2
theorem gr_same (M : Nat → Nat → Int32) (j : Nat) : va_up M j (M j) = M := by
  funext i
  by_cases h : i = j
  · subst h; simp [va_up]
  · simp [va_up, h]
/-! small counts and searches -/
def cnF (f : Nat → Bool) : Nat → Nat
  | 0 => 0
  | n + 1 => cnF f n + (if f n = true then 1 else 0)
theorem cnF_le (f : Nat → Bool) (n : Nat) : cnF f n ≤ n := by
  induction n with
  | zero => exact Nat.le_refl 0
  | succ n ih => simp only [cnF]; split <;> omega
def smF (f : Nat → Nat) : Nat → Nat
  | 0 => 0
  | n + 1 => smF f n + f n
theorem smF_le {f : Nat → Nat} {b : Nat} (h : ∀ i, f i ≤ b) (n : Nat) : smF f n ≤ n * b := by
  induction n with
  | zero => simp [smF]
  | succ n ih => simp only [smF]; have := h n; rw [Nat.succ_mul]; omega
/-- the least place from i on, among k, where f holds; -1 if there is none -/
def fdF (f : Nat → Bool) : Nat → Nat → Int32
  | 0, _ => -1
  | k + 1, i => if f i = true then nI i else fdF f k (i + 1)
def hsB (n : Nat) (th : Nat → Int32) (x : Int32) : Bool := decide (0 ≤ x) && (decide (x < nI n) && decide (th x.toNatClampNeg ≠ 0))
theorem hsB_nI {n j : Nat} {th : Nat → Int32} (h : j < n) (hn : n < 2 ^ 31) : hsB n th (nI j) = decide (th j ≠ 0) := by
  have h1 : (0 : Int32) ≤ nI j := nI_pos' (by omega)
  have h2 : nI j < nI n := nI_lt h hn
  simp [hsB, h1, h2, nI_clamp (show j < 2 ^ 31 by omega)]
theorem hsB_t {n : Nat} {th : Nat → Int32} {x : Int32} (hn : n < 2 ^ 31) (h : hsB n th x = true) : ∃ j : Nat, j < n ∧ x = nI j ∧ th j ≠ 0 := by
  simp only [hsB, Bool.and_eq_true, decide_eq_true_eq] at h
  obtain ⟨h1, h2, h3⟩ := h
  have h0 : ¬ x < 0 := by rw [Int32.not_lt]; exact h1
  obtain ⟨j, hj, rfl⟩ := nI_of h0
  rw [nI_ltI hj hn] at h2
  rw [nI_clamp hj] at h3
  exact ⟨j, h2, rfl, h3⟩
end
section
/-! STATE: the class's cells, by its tables and rows -/
theorem pm_ix {L L' : va_W} (is : List Nat) (h : (List.range L.length).Perm is) (h2 : is.filterMap (fun i => L[i]?) = L') : L.Perm L' := by
  have h3 : (List.range L.length).map (fun i => L[i]?) = L.map some := by
    apply List.ext_getElem?
    intro i
    by_cases hi : i < L.length
    · simp [hi]
    · simp [hi]
  have h4 : (List.range L.length).filterMap (fun i => L[i]?) = L := by
    have h5 := congrArg (List.filterMap id) h3
    rw [List.filterMap_map, List.filterMap_map] at h5
    simpa [Function.comp_def] using h5
  have h6 := h.filterMap (fun i => L[i]?)
  rw [h4, h2] at h6
  exact h6
theorem pm_4 (a b x y : va_W) : ((a ++ b) ++ (x ++ y)).Perm ((a ++ x) ++ (b ++ y)) := by
  simp only [List.append_assoc]
  refine List.Perm.append_left a ?_
  rw [← List.append_assoc, ← List.append_assoc]
  exact List.Perm.append_right y List.perm_append_comm
theorem pm_4' (a b x y : va_W) : ((a ++ b) ++ (x ++ y)).Perm ((a ++ y) ++ (b ++ x)) := (List.Perm.append_left _ List.perm_append_comm).trans (pm_4 a b y x)
abbrev tsK (k : Nat → ClassId) : List (ClassId × FieldType) := [(k 0, .int), (k 1, .boolean), (k 2, .array .int), (k 3, .long)]
/-- a table: the object, who is there, the array of its rows -/
def tbF (k : Nat → ClassId) (t a g : Nat) (r : Nat → Nat) (n : Nat) (th : Nat → Int32) : va_W := [(t, .inr (ciTb, [.ref a, .ref g])), (a, .inl (k 1, n, .inl th)), (g, .inl (k 2, n, .inr (.inr (.inr (.inr (gOut r n))))))]
def tbW (k : Nat → ClassId) (t a g : Nat) (r : Nat → Nat) (n : Nat) (th : Nat → Int32) (M : Nat → Nat → Int32) : va_W := tbF k t a g r n th ++ gRows (k 0) r n M
theorem tb_row {k : Nat → ClassId} {t a g : Nat} {r : Nat → Nat} {n : Nat} {th : Nat → Int32} {M : Nat → Nat → Int32} {j : Nat} (h : j < n) : (tbW k t a g r n th M)[3 + j]? = some (r j, .inl (k 0, 24, .inl (M j))) := by
  show (tbF k t a g r n th ++ gRows (k 0) r n M)[3 + j]? = _
  rw [List.getElem?_append_right (by simp [tbF])]
  simp only [tbF, List.length_cons, List.length_nil, Nat.add_sub_cancel_left]
  exact gRows_at h
theorem tb_set {k : Nat → ClassId} {t a g : Nat} {r : Nat → Nat} {n : Nat} {th : Nat → Int32} {M : Nat → Nat → Int32} {j : Nat} {f : Nat → Int32} (h : j < n) : (tbW k t a g r n th M).set (3 + j) (r j, .inl (k 0, 24, .inl f)) = tbW k t a g r n th (va_up M j f) := by
  show (tbF k t a g r n th ++ gRows (k 0) r n M).set (3 + j) _ = tbF k t a g r n th ++ gRows (k 0) r n (va_up M j f)
  rw [List.set_append_right _ _ (by simp [tbF]), ← gRows_set h]
  simp [tbF]
/-- the class's fixed cells -/
def cxF (k : Nat → ClassId) (a r t : Nat → Nat) (th kd bs us sth mk dr : Nat → Int32) : va_W :=
  [(a 0, .inr (ciSS, [.ref (a 1), .ref (a 2), .ref (a 3), .ref (a 4), .ref (a 5), .ref (a 6), .ref (a 7)])), (a 1, .inr (ciTb, [.ref (a 8), .ref (a 9)])), (a 2, .inl (k 0, 64, .inl kd)), (a 3, .inl (k 0, 64, .inl bs)), (a 4, .inl (k 0, 24, .inl us)), (a 5, .inr (ciTb, [.ref (a 10), .ref (a 11)])), (a 6, .inl (k 1, 256, .inl mk)), (a 7, .inl (k 0, 24, .inl dr)), (a 8, .inl (k 1, 64, .inl th)), (a 9, .inl (k 2, 64, .inr (.inr (.inr (.inr (gOut r 64)))))), (a 10, .inl (k 1, 256, .inl sth)), (a 11, .inl (k 2, 256, .inr (.inr (.inr (.inr (gOut t 256))))))]
def cxR (k : Nat → ClassId) (r t : Nat → Nat) (M sM : Nat → Nat → Int32) : va_W := gRows (k 0) r 64 M ++ gRows (k 0) t 256 sM
def cxW (k : Nat → ClassId) (a r t : Nat → Nat) (th kd bs us sth mk dr : Nat → Int32) (M sM : Nat → Nat → Int32) : va_W := cxF k a r t th kd bs us sth mk dr ++ cxR k r t M sM
end
section
/-! searches, alike rows -/
theorem hsB_lt {n : Nat} {th : Nat → Int32} {x : Int32} (h : x < 0) : hsB n th x = false := by
  have h1 : ¬ (0 : Int32) ≤ x := by rw [Int32.not_le]; exact h
  simp [hsB, h1]
theorem hsB_ge {n : Nat} {th : Nat → Int32} {x : Int32} (h : nI n ≤ x) : hsB n th x = false := by
  have h1 : ¬ x < nI n := by rw [Int32.not_lt]; exact h
  simp [hsB, h1]
theorem ix_of {n : Nat} {x : Int32} (hn : n < 2 ^ 31) (h0 : ¬ x < 0) (h1 : ¬ nI n ≤ x) : ∃ j : Nat, j < n ∧ x = nI j := by
  obtain ⟨j, hj, rfl⟩ := nI_of h0
  rw [nI_leI hn hj] at h1
  exact ⟨j, by omega, rfl⟩
theorem fdF_hit {f : Nat → Bool} {n i : Nat} (h : i < n) (hf : f i = true) : fdF f (n - i) i = nI i := by
  obtain ⟨k, hk⟩ : ∃ k, n - i = k + 1 := ⟨n - i - 1, by omega⟩
  rw [hk]; simp [fdF, hf]
theorem fdF_miss {f : Nat → Bool} {n i : Nat} (h : i < n) (hf : f i = false) : fdF f (n - i) i = fdF f (n - (i + 1)) (i + 1) := by
  obtain ⟨k, hk⟩ : ∃ k, n - i = k + 1 := ⟨n - i - 1, by omega⟩
  rw [hk, show n - (i + 1) = k by omega]; simp [fdF, hf]
theorem fdF_end {f : Nat → Bool} {n i : Nat} (h : n ≤ i) : fdF f (n - i) i = -1 := by rw [show n - i = 0 by omega]; rfl
theorem cnF_t {f : Nat → Bool} {i : Nat} (h : f i = true) : cnF f i + 1 = cnF f (i + 1) := by simp [cnF, h]
theorem cnF_f {f : Nat → Bool} {i : Nat} (h : f i = false) : cnF f i = cnF f (i + 1) := by simp [cnF, h]
def eqF (f g : Nat → Int32) : Nat → Bool
  | 0 => true
  | n + 1 => eqF f g n && decide (f n = g n)
theorem eqF_lt {f g : Nat → Int32} {n i : Nat} (h : eqF f g n = true) (hi : i < n) : f i = g i := by
  induction n with
  | zero => omega
  | succ n ih =>
    simp only [eqF, Bool.and_eq_true, decide_eq_true_eq] at h
    by_cases e : i = n
    · rw [e]; exact h.2
    · exact ih h.1 (by omega)
theorem eqF_ne {f g : Nat → Int32} {n i : Nat} (hi : i < n) (h : f i ≠ g i) : eqF f g n = false := by
  cases e : eqF f g n with
  | false => rfl
  | true => exact absurd (eqF_lt e hi) h
theorem eqF_s {f g : Nat → Int32} {n : Nat} (h : eqF f g n = true) (e : f n = g n) : eqF f g (n + 1) = true := by simp [eqF, h, e]
theorem nr_if {b : Bool} {v : Int32} (h : v = if b = true then nI 1 else nI 0) : narrow .boolean (.int v) = .int v := by rw [h]; cases b <;> rfl
theorem if_t {b : Bool} (h : b = true) : nI 1 = if b = true then nI 1 else nI 0 := by rw [if_pos h]
theorem if_f {b : Bool} (h : b = false) : nI 0 = if b = true then nI 1 else nI 0 := by rw [h]; rfl

set_option maxRecDepth 100000 in
set_option maxHeartbeats 4000000 in
theorem c_has (l : Launch) (D : va_G) (k : Nat → ClassId) (t a g : Nat) (r : Nat → Nat) (n : Nat) (hn : n ≤ 256) (th : Nat → Int32) (x : Int32) (sz : Nat) : bMI l y_T_has (wY y_T_has b_T_has 2 (some .boolean)) (rm9 1 0 0) D (tsK k) (tbF k t a g r n th) sz [.ref t, .int x] (fun v w => v = (if hsB n th x = true then nI 1 else nI 0) ∧ w = tbF k t a g r n th) 0 0 := by
  refine ent_i (cc := b_T_has) (maxL := 2) (ty := .boolean) (by decide) (Nat.le_of_ble_eq_true rfl) (fun v w h => nr_if h.1) ?_
  intro p e s m args below meth c A Q ls hx hb hml hown hts hsz hA hP hD hS hK hl hret
  refine lv_iload_n hx hb d_T_has_0 rfl (lv_at hl 1 rfl) ?_
  refine lv_if_lt (tgt := 26) hx hb d_T_has_1 (by decide) (fun c1 => ?_) (fun c1 => ?_)
  · skip
    refine lv_iconst (v := nI 0) hx hb d_T_has_26 (by decide) ?_
    exact hret _ _ _ _ _ _ _ _ d_T_has_27 ⟨if_f (hsB_lt c1), rfl⟩ hP hD hS (by decide) (by decide)
  · skip
    refine lv_iload_n hx hb d_T_has_4 rfl (lv_at hl 1 rfl) ?_
    refine lv_aload_n hx hb d_T_has_5 rfl (lv_at hl 0 rfl) ?_
    refine va_get (D := D) (ci := ciTb) (v := .ref a) (C := RT) (T := TT) (N := 2) hx hb hts inT hown hK.1 hP 0 rfl rfl 0 (by decide) (hts _ wd_32) (fun _ h9 => h9) rfl d_T_has_6 ?_
    refine va_alen (v := nI n) hx hb hK.1 hP 1 1 rfl rfl rfl d_T_has_9 ?_
    refine lv_icmp_ge (tgt := 26) hx hb d_T_has_10 (by decide) (fun c10 => ?_) (fun c10 => ?_)
    · skip
      refine lv_iconst (v := nI 0) hx hb d_T_has_26 (by decide) ?_
      exact hret _ _ _ _ _ _ _ _ d_T_has_27 ⟨if_f (hsB_ge c10), rfl⟩ hP hD hS (by decide) (by decide)
    · skip
      obtain ⟨j, hj, rfl⟩ := ix_of (by omega) c1 c10
      refine lv_aload_n hx hb d_T_has_13 rfl (lv_at hl 0 rfl) ?_
      refine va_get (D := D) (ci := ciTb) (v := .ref a) (C := RT) (T := TT) (N := 2) hx hb hts inT hown hK.1 hP 0 rfl rfl 0 (by decide) (hts _ wd_32) (fun _ h9 => h9) rfl d_T_has_14 ?_
      refine lv_iload_n hx hb d_T_has_17 rfl (lv_at hl 1 rfl) ?_
      refine rw_zald hx hb hK.1 hP 1 1 rfl rfl (j := j) (by omega) (by omega) d_T_has_18 ?_
      refine lv_if_eq (tgt := 26) hx hb d_T_has_19 (by decide) (fun c19 => ?_) (fun c19 => ?_)
      · skip
        refine lv_iconst (v := nI 0) hx hb d_T_has_26 (by decide) ?_
        exact hret _ _ _ _ _ _ _ _ d_T_has_27 ⟨if_f (by rw [hsB_nI hj (by omega), c19]; rfl), rfl⟩ hP hD hS (by decide) (by decide)
      · skip
        refine lv_iconst (v := nI 1) hx hb d_T_has_22 (by decide) ?_
        refine lv_goto (tgt := 27) hx hb d_T_has_23 (by decide) ?_
        exact hret _ _ _ _ _ _ _ _ d_T_has_27 ⟨if_t (by rw [hsB_nI hj (by omega)]; simp [c19]), rfl⟩ hP hD hS (by decide) (by decide)

set_option maxRecDepth 100000 in
set_option maxHeartbeats 4000000 in
theorem c_leastFree (l : Launch) (D : va_G) (k : Nat → ClassId) (t a g : Nat) (r : Nat → Nat) (n : Nat) (hn : n ≤ 256) (th : Nat → Int32) (sz : Nat) : bMI l y_T_leastFree (wY y_T_leastFree b_T_leastFree 2 (some .int)) (rm9 1 0 0) D (tsK k) (tbF k t a g r n th) sz [.ref t] (fun v w => v = fdF (fun i => decide (th i = 0)) n 0 ∧ w = tbF k t a g r n th) 0 0 := by
  refine ent_i (cc := b_T_leastFree) (maxL := 2) (ty := .int) (by decide) (Nat.le_of_ble_eq_true rfl) (fun _ _ _ => rfl) ?_
  intro p e s m args below meth c A Q ls hx hb hml hown hts hsz hA hP hD hS hK hl hret
  refine lv_iconst (v := nI 0) hx hb d_T_leastFree_0 (by decide) ?_
  refine lv_istore_n (lv' := [(1, .int (nI 0)), (0, .ref t)]) hx hb d_T_leastFree_1 rfl hl (by decide) rfl (fun ls hl => ?_)
  have lp : ∀ (n9 : Nat) (i : Nat) (ls : Array Slot), n - i < n9 → (i ≤ n) → (fdF (fun i => decide (th i = 0)) n 0 = fdF (fun i => decide (th i = 0)) (n - i) i) → lv_has ls 2 [(0, .ref t), (1, .int (nI i))] → W p l e (rm9 1 0 0) s m args below meth c s.heap [] 0 0 Q (F0 m 2 ls []) := by
    intro n9
    induction n9 with
    | zero => intro i ls hm; omega
    | succ n9 ih =>
      intro i ls hm hi hf hl
      refine lv_iload_n hx hb d_T_leastFree_2 rfl (lv_at hl 1 rfl) ?_
      refine lv_aload_n hx hb d_T_leastFree_3 rfl (lv_at hl 0 rfl) ?_
      refine va_get (D := D) (ci := ciTb) (v := .ref a) (C := RT) (T := TT) (N := 2) hx hb hts inT hown hK.1 hP 0 rfl rfl 0 (by decide) (hts _ wd_32) (fun _ h9 => h9) rfl d_T_leastFree_4 ?_
      refine va_alen (v := nI n) hx hb hK.1 hP 1 1 rfl rfl rfl d_T_leastFree_7 ?_
      refine lv_icmp_ge (tgt := 28) hx hb d_T_leastFree_8 (by decide) (fun c8 => ?_) (fun c8 => ?_)
      · skip
        rw [nI_leI (by omega) (by omega)] at c8
        refine lv_iconst (v := -1) hx hb d_T_leastFree_28 (by decide) ?_
        exact hret _ _ _ _ _ _ _ _ d_T_leastFree_29 ⟨by rw [hf, fdF_end (by omega)], rfl⟩ hP hD hS (by decide) (by decide)
      · skip
        rw [nI_leI (by omega) (by omega)] at c8
        refine lv_aload_n hx hb d_T_leastFree_11 rfl (lv_at hl 0 rfl) ?_
        refine va_get (D := D) (ci := ciTb) (v := .ref a) (C := RT) (T := TT) (N := 2) hx hb hts inT hown hK.1 hP 0 rfl rfl 0 (by decide) (hts _ wd_32) (fun _ h9 => h9) rfl d_T_leastFree_12 ?_
        refine lv_iload_n hx hb d_T_leastFree_15 rfl (lv_at hl 1 rfl) ?_
        refine rw_zald hx hb hK.1 hP 1 1 rfl rfl (j := i) (by omega) (by omega) d_T_leastFree_16 ?_
        refine lv_if_ne (tgt := 22) hx hb d_T_leastFree_17 (by decide) (fun c17 => ?_) (fun c17 => ?_)
        · skip
          refine lv_iinc (v := nI (i + 1)) (lv' := [(1, .int (nI (i + 1))), (0, .ref t)]) hx hb d_T_leastFree_22 hl (k := 1) rfl (ii_1 _) (by decide) rfl (fun ls hl => ?_)
          refine lv_goto (tgt := 2) hx hb d_T_leastFree_25 (by decide) ?_
          exact ih (i + 1) ls (by omega) (by omega) (by rw [hf]; exact fdF_miss (by omega) (by simp [c17])) (lv_sub hl [1, 0] rfl)
        · skip
          refine lv_iload_n hx hb d_T_leastFree_20 rfl (lv_at hl 1 rfl) ?_
          exact hret _ _ _ _ _ _ _ _ d_T_leastFree_21 ⟨by rw [hf, fdF_hit (by omega) (by simp [c17])], rfl⟩ hP hD hS (by decide) (by decide)
  exact lp _ (0) ls (Nat.lt_succ_self _) (Nat.zero_le n) rfl (lv_sub hl [1, 0] rfl)

set_option maxRecDepth 100000 in
set_option maxHeartbeats 4000000 in
theorem c_add (l : Launch) (D : va_G) (k : Nat → ClassId) (t a g : Nat) (r : Nat → Nat) (n : Nat) (hn : n ≤ 256) (th : Nat → Int32) (j : Nat) (hj : j < n) (sz : Nat) : bMV l y_T_add (wY y_T_add b_T_add 2 none) (rm9 1 0 0) D (tsK k) (tbF k t a g r n th) sz [.ref t, .int (nI j)] (fun w => w = tbF k t a g r n (upd th j (nI 1))) 0 0 := by
  refine ent_v (cc := b_T_add) (maxL := 2) (by decide) (Nat.le_of_ble_eq_true rfl) ?_
  intro p e s m args below meth c A Q ls hx hb hml hown hts hsz hA hP hD hS hK hl hnm hret
  refine lv_aload_n hx hb d_T_add_0 rfl (lv_at hl 0 rfl) ?_
  refine va_get (D := D) (ci := ciTb) (v := .ref a) (C := RT) (T := TT) (N := 2) hx hb hts inT hown hK.1 hP 0 rfl rfl 0 (by decide) (hts _ wd_32) (fun _ h9 => h9) rfl d_T_add_1 ?_
  refine lv_iload_n hx hb d_T_add_4 rfl (lv_at hl 1 rfl) ?_
  refine lv_iconst (v := nI 1) hx hb d_T_add_5 (by decide) ?_
  refine rw_zast hx hb hK.1 hP hD hS 1 1 rfl rfl (j := j) bz_1 (by omega) (by omega) d_T_add_6 (wn := tbF k t a g r n (upd th j (nI 1))) rfl (fun H locs hP hD hS => ?_)
  exact hret _ _ _ _ _ _ _ d_T_add_7 rfl hP hD hS (by decide) (by decide)

set_option maxRecDepth 100000 in
set_option maxHeartbeats 4000000 in
theorem c_howMany (l : Launch) (D : va_G) (k : Nat → ClassId) (t a g : Nat) (r : Nat → Nat) (n : Nat) (hn : n ≤ 256) (th : Nat → Int32) (sz : Nat) : bMI l y_T_howMany (wY y_T_howMany b_T_howMany 3 (some .int)) (rm9 1 0 0) D (tsK k) (tbF k t a g r n th) sz [.ref t] (fun v w => v = nI (cnF (fun i => decide (th i ≠ 0)) n) ∧ w = tbF k t a g r n th) 0 0 := by
  refine ent_i (cc := b_T_howMany) (maxL := 3) (ty := .int) (by decide) (Nat.le_of_ble_eq_true rfl) (fun _ _ _ => rfl) ?_
  intro p e s m args below meth c A Q ls hx hb hml hown hts hsz hA hP hD hS hK hl hret
  refine lv_iconst (v := nI 0) hx hb d_T_howMany_0 (by decide) ?_
  refine lv_istore_n (lv' := [(1, .int (nI 0)), (0, .ref t)]) hx hb d_T_howMany_1 rfl hl (by decide) rfl (fun ls hl => ?_)
  refine lv_iconst (v := nI 0) hx hb d_T_howMany_2 (by decide) ?_
  refine lv_istore_n (lv' := [(2, .int (nI 0)), (1, .int (nI 0)), (0, .ref t)]) hx hb d_T_howMany_3 rfl hl (by decide) rfl (fun ls hl => ?_)
  have lp : ∀ (n9 : Nat) (i : Nat) (ls : Array Slot), n - i < n9 → (i ≤ n) → lv_has ls 3 [(0, .ref t), (1, .int (nI (cnF (fun i => decide (th i ≠ 0)) i))), (2, .int (nI i))] → W p l e (rm9 1 0 0) s m args below meth c s.heap [] 0 0 Q (F0 m 4 ls []) := by
    intro n9
    induction n9 with
    | zero => intro i ls hm; omega
    | succ n9 ih =>
      intro i ls hm hi hl
      refine lv_iload_n hx hb d_T_howMany_4 rfl (lv_at hl 2 rfl) ?_
      refine lv_aload_n hx hb d_T_howMany_5 rfl (lv_at hl 0 rfl) ?_
      refine va_get (D := D) (ci := ciTb) (v := .ref a) (C := RT) (T := TT) (N := 2) hx hb hts inT hown hK.1 hP 0 rfl rfl 0 (by decide) (hts _ wd_32) (fun _ h9 => h9) rfl d_T_howMany_6 ?_
      refine va_alen (v := nI n) hx hb hK.1 hP 1 1 rfl rfl rfl d_T_howMany_9 ?_
      refine lv_icmp_ge (tgt := 31) hx hb d_T_howMany_10 (by decide) (fun c10 => ?_) (fun c10 => ?_)
      · skip
        rw [nI_leI (by omega) (by omega)] at c10
        refine lv_iload_n hx hb d_T_howMany_31 rfl (lv_at hl 1 rfl) ?_
        exact hret _ _ _ _ _ _ _ _ d_T_howMany_32 ⟨by rw [show i = n by omega], rfl⟩ hP hD hS (by decide) (by decide)
      · skip
        rw [nI_leI (by omega) (by omega)] at c10
        refine lv_aload_n hx hb d_T_howMany_13 rfl (lv_at hl 0 rfl) ?_
        refine va_get (D := D) (ci := ciTb) (v := .ref a) (C := RT) (T := TT) (N := 2) hx hb hts inT hown hK.1 hP 0 rfl rfl 0 (by decide) (hts _ wd_32) (fun _ h9 => h9) rfl d_T_howMany_14 ?_
        refine lv_iload_n hx hb d_T_howMany_17 rfl (lv_at hl 2 rfl) ?_
        refine rw_zald hx hb hK.1 hP 1 1 rfl rfl (j := i) (by omega) (by omega) d_T_howMany_18 ?_
        refine lv_if_eq (tgt := 25) hx hb d_T_howMany_19 (by decide) (fun c19 => ?_) (fun c19 => ?_)
        · skip
          rw [cnF_f (f := (fun i => decide (th i ≠ 0))) (by simp [c19])] at hl
          refine lv_iinc (v := nI (i + 1)) (lv' := [(2, .int (nI (i + 1))), (0, .ref t), (1, .int (nI (cnF (fun i => decide (th i ≠ 0)) (i + 1))))]) hx hb d_T_howMany_25 hl (k := 2) rfl (ii_1 _) (by decide) rfl (fun ls hl => ?_)
          refine lv_goto (tgt := 4) hx hb d_T_howMany_28 (by decide) ?_
          exact ih (i + 1) ls (by omega) (by omega) (lv_sub hl [1, 2, 0] rfl)
        · skip
          refine lv_iinc (v := nI ((cnF (fun i => decide (th i ≠ 0)) i) + 1)) (lv' := [(1, .int (nI ((cnF (fun i => decide (th i ≠ 0)) i) + 1))), (0, .ref t), (2, .int (nI i))]) hx hb d_T_howMany_22 hl (k := 1) rfl (ii_1 _) (by decide) rfl (fun ls hl => ?_)
          rw [cnF_t (f := (fun i => decide (th i ≠ 0))) (by simp [c19])] at hl
          refine lv_iinc (v := nI (i + 1)) (lv' := [(2, .int (nI (i + 1))), (1, .int (nI (cnF (fun i => decide (th i ≠ 0)) (i + 1)))), (0, .ref t)]) hx hb d_T_howMany_25 hl (k := 2) rfl (ii_1 _) (by decide) rfl (fun ls hl => ?_)
          refine lv_goto (tgt := 4) hx hb d_T_howMany_28 (by decide) ?_
          exact ih (i + 1) ls (by omega) (by omega) (lv_sub hl [2, 1, 0] rfl)
  exact lp _ (0) ls (Nat.lt_succ_self _) (Nat.zero_le n) (lv_sub hl [2, 1, 0] rfl)

set_option maxRecDepth 100000 in
set_option maxHeartbeats 4000000 in
theorem c_valuesIn (l : Launch) (D : va_G) (k : Nat → ClassId) (t a g : Nat) (r : Nat → Nat) (n : Nat) (hn : n ≤ 256) (th : Nat → Int32) (M : Nat → Nat → Int32) (j : Nat) (hj : j < n) (sz : Nat) : bMI l y_T_valuesIn (wY y_T_valuesIn b_T_valuesIn 4 (some .int)) (rm9 1 0 0) D (tsK k) (tbW k t a g r n th M) sz [.ref t, .int (nI j)] (fun v w => v = nI (cnF (fun p => decide (M j p ≠ -1)) 24) ∧ w = tbW k t a g r n th M) 0 0 := by
  refine ent_i (cc := b_T_valuesIn) (maxL := 4) (ty := .int) (by decide) (Nat.le_of_ble_eq_true rfl) (fun _ _ _ => rfl) ?_
  intro p e s m args below meth c A Q ls hx hb hml hown hts hsz hA hP hD hS hK hl hret
  refine lv_iconst (v := nI 0) hx hb d_T_valuesIn_0 (by decide) ?_
  refine lv_istore_n (lv' := [(2, .int (nI 0)), (0, .ref t), (1, .int (nI j))]) hx hb d_T_valuesIn_1 rfl hl (by decide) rfl (fun ls hl => ?_)
  refine lv_iconst (v := nI 0) hx hb d_T_valuesIn_2 (by decide) ?_
  refine lv_istore_n (lv' := [(3, .int (nI 0)), (2, .int (nI 0)), (0, .ref t), (1, .int (nI j))]) hx hb d_T_valuesIn_3 rfl hl (by decide) rfl (fun ls hl => ?_)
  have lp : ∀ (n9 : Nat) (i : Nat) (ls : Array Slot), 24 - i < n9 → (i ≤ 24) → lv_has ls 4 [(0, .ref t), (1, .int (nI j)), (2, .int (nI (cnF (fun p => decide (M j p ≠ -1)) i))), (3, .int (nI i))] → W p l e (rm9 1 0 0) s m args below meth c s.heap [] 0 0 Q (F0 m 4 ls []) := by
    intro n9
    induction n9 with
    | zero => intro i ls hm; omega
    | succ n9 ih =>
      intro i ls hm hi hl
      refine lv_iload_n hx hb d_T_valuesIn_4 rfl (lv_at hl 3 rfl) ?_
      refine lv_bipush (v := nI 24) hx hb d_T_valuesIn_5 (by decide) ?_
      refine lv_icmp_ge (tgt := 31) hx hb d_T_valuesIn_7 (by decide) (fun c7 => ?_) (fun c7 => ?_)
      · skip
        rw [nI_leI (by omega) (by omega)] at c7
        refine lv_iload_n hx hb d_T_valuesIn_31 rfl (lv_at hl 2 rfl) ?_
        exact hret _ _ _ _ _ _ _ _ d_T_valuesIn_32 ⟨by rw [show i = 24 by omega], rfl⟩ hP hD hS (by decide) (by decide)
      · skip
        rw [nI_leI (by omega) (by omega)] at c7
        refine lv_aload_n hx hb d_T_valuesIn_10 rfl (lv_at hl 0 rfl) ?_
        refine va_get (D := D) (ci := ciTb) (v := .ref g) (C := RT) (T := TT) (N := 2) hx hb hts inT hown hK.1 hP 0 rfl rfl 1 (by decide) (hts _ wd_33) (fun _ h9 => h9) rfl d_T_valuesIn_11 ?_
        refine lv_iload_n hx hb d_T_valuesIn_14 rfl (lv_at hl 1 rfl) ?_
        refine rw_aald hx hb hK.1 hP 2 2 rfl rfl (j := j) (y := r j) (by omega) (by omega) (gOut_at (by omega)) d_T_valuesIn_15 ?_
        refine lv_iload_n hx hb d_T_valuesIn_16 rfl (lv_at hl 3 rfl) ?_
        refine rw_iald hx hb hK.1 hP (3 + j) 0 (tb_row (by omega)) rfl (j := i) (by omega) (by decide) d_T_valuesIn_17 ?_
        refine lv_iconst (v := -1) hx hb d_T_valuesIn_18 (by decide) ?_
        refine lv_icmp_eq (tgt := 25) hx hb d_T_valuesIn_19 (by decide) (fun c19 => ?_) (fun c19 => ?_)
        · skip
          rw [cnF_f (f := (fun p => decide (M j p ≠ -1))) (by simp [c19])] at hl
          refine lv_iinc (v := nI (i + 1)) (lv' := [(3, .int (nI (i + 1))), (0, .ref t), (1, .int (nI j)), (2, .int (nI (cnF (fun p => decide (M j p ≠ -1)) (i + 1))))]) hx hb d_T_valuesIn_25 hl (k := 3) rfl (ii_1 _) (by decide) rfl (fun ls hl => ?_)
          refine lv_goto (tgt := 4) hx hb d_T_valuesIn_28 (by decide) ?_
          exact ih (i + 1) ls (by omega) (by omega) (lv_sub hl [1, 2, 3, 0] rfl)
        · skip
          refine lv_iinc (v := nI ((cnF (fun p => decide (M j p ≠ -1)) i) + 1)) (lv' := [(2, .int (nI ((cnF (fun p => decide (M j p ≠ -1)) i) + 1))), (0, .ref t), (1, .int (nI j)), (3, .int (nI i))]) hx hb d_T_valuesIn_22 hl (k := 2) rfl (ii_1 _) (by decide) rfl (fun ls hl => ?_)
          rw [cnF_t (f := (fun p => decide (M j p ≠ -1))) (by simp [c19])] at hl
          refine lv_iinc (v := nI (i + 1)) (lv' := [(3, .int (nI (i + 1))), (2, .int (nI (cnF (fun p => decide (M j p ≠ -1)) (i + 1)))), (0, .ref t), (1, .int (nI j))]) hx hb d_T_valuesIn_25 hl (k := 3) rfl (ii_1 _) (by decide) rfl (fun ls hl => ?_)
          refine lv_goto (tgt := 4) hx hb d_T_valuesIn_28 (by decide) ?_
          exact ih (i + 1) ls (by omega) (by omega) (lv_sub hl [2, 3, 1, 0] rfl)
  exact lp _ (0) ls (Nat.lt_succ_self _) (by omega) (lv_sub hl [2, 3, 1, 0] rfl)

set_option maxRecDepth 100000 in
set_option maxHeartbeats 4000000 in
theorem c_valuesInAll (l : Launch) (D : va_G) (k : Nat → ClassId) (t a g : Nat) (r : Nat → Nat) (n : Nat) (hn : n ≤ 256) (th : Nat → Int32) (M : Nat → Nat → Int32) (sz : Nat) : bMI l y_T_valuesInAll (wY y_T_valuesInAll b_T_valuesInAll 3 (some .int)) (rm9 2 0 0) D (tsK k) (tbW k t a g r n th M) sz [.ref t] (fun v w => v = nI (smF (fun i => cnF (fun p => decide (M i p ≠ -1)) 24) n) ∧ w = tbW k t a g r n th M) 0 0 := by
  refine ent_i (cc := b_T_valuesInAll) (maxL := 3) (ty := .int) (by decide) (Nat.le_of_ble_eq_true rfl) (fun _ _ _ => rfl) ?_
  intro p e s m args below meth c A Q ls hx hb hml hown hts hsz hA hP hD hS hK hl hret
  refine lv_iconst (v := nI 0) hx hb d_T_valuesInAll_0 (by decide) ?_
  refine lv_istore_n (lv' := [(1, .int (nI 0)), (0, .ref t)]) hx hb d_T_valuesInAll_1 rfl hl (by decide) rfl (fun ls hl => ?_)
  refine lv_iconst (v := nI 0) hx hb d_T_valuesInAll_2 (by decide) ?_
  refine lv_istore_n (lv' := [(2, .int (nI 0)), (1, .int (nI 0)), (0, .ref t)]) hx hb d_T_valuesInAll_3 rfl hl (by decide) rfl (fun ls hl => ?_)
  have lp : ∀ (n9 : Nat) (i : Nat) (ls : Array Slot) (H : Heap) (locs : List Loc), n - i < n9 → (i ≤ n) → va_P D vwCl (tbW k t a g r n th M) H → va_D A (tbW k t a g r n th M) → va_S A s.heap H locs → lv_has ls 3 [(0, .ref t), (1, .int (nI (smF (fun i => cnF (fun p => decide (M i p ≠ -1)) 24) i))), (2, .int (nI i))] → W p l e (rm9 2 0 0) s m args below meth c H locs 0 0 Q (F0 m 4 ls []) := by
    intro n9
    induction n9 with
    | zero => intro i ls H locs hm; omega
    | succ n9 ih =>
      intro i ls H locs hm hi hP hD hS hl
      refine lv_iload_n hx hb d_T_valuesInAll_4 rfl (lv_at hl 2 rfl) ?_
      refine lv_aload_n hx hb d_T_valuesInAll_5 rfl (lv_at hl 0 rfl) ?_
      refine va_get (D := D) (ci := ciTb) (v := .ref a) (C := RT) (T := TT) (N := 2) hx hb hts inT hown hK.1 hP 0 rfl rfl 0 (by decide) (hts _ wd_32) (fun _ h9 => h9) rfl d_T_valuesInAll_6 ?_
      refine va_alen (v := nI n) hx hb hK.1 hP 1 1 rfl rfl rfl d_T_valuesInAll_9 ?_
      refine lv_icmp_ge (tgt := 27) hx hb d_T_valuesInAll_10 (by decide) (fun c10 => ?_) (fun c10 => ?_)
      · skip
        rw [nI_leI (by omega) (by omega)] at c10
        refine lv_iload_n hx hb d_T_valuesInAll_27 rfl (lv_at hl 1 rfl) ?_
        exact hret _ _ _ _ _ _ _ _ d_T_valuesInAll_28 ⟨by rw [show i = n by omega], rfl⟩ hP hD hS (by decide) (by decide)
      · skip
        rw [nI_leI (by omega) (by omega)] at c10
        refine lv_iload_n hx hb d_T_valuesInAll_13 rfl (lv_at hl 1 rfl) ?_
        refine lv_aload_n hx hb d_T_valuesInAll_14 rfl (lv_at hl 0 rfl) ?_
        refine lv_iload_n hx hb d_T_valuesInAll_15 rfl (lv_at hl 2 rfl) ?_
        refine cal_i (wc := tbW k t a g r n th M) (wr := []) (va_runV (As := [.int (nI i)]) (rest := [.int (nI (smF (fun i => cnF (fun p => decide (M i p ≠ -1)) 24) i))]) ⟨hx, hb, hml, hown, hts⟩ (c_valuesIn l D k t a g r n hn th M i (by omega) H.size) (cwV9 1 hts wd_79 wd_100 wd_78 ws_2 wd_2 (by decide) ⟨by decide, by decide⟩) (prV (q0 := 0) (ci := ciTb) hK hP hD (pm_nil' _) rfl rfl) rfl rfl hl.1 rfl (lv_room (Nat.le_of_ble_eq_true rfl)) d_T_valuesInAll_16 ⟨by decide, by decide⟩) (pm_nil' _) hP hD hS hA (fun r w1 H locs hw hpd hS => ?_)
        obtain ⟨rfl, rfl⟩ := hw
        obtain ⟨hP, hD⟩ := hpd (tbW k t a g r n th M) (pm_nil _)
        refine lv_iadd hx hb d_T_valuesInAll_19 ?_
        rw [nI_add]
        refine lv_istore_n (lv' := [(1, .int (nI ((smF (fun i => cnF (fun p => decide (M i p ≠ -1)) 24) i) + (cnF (fun p => decide (M i p ≠ -1)) 24)))), (0, .ref t), (2, .int (nI i))]) hx hb d_T_valuesInAll_20 rfl hl (by decide) rfl (fun ls hl => ?_)
        refine lv_iinc (v := nI (i + 1)) (lv' := [(2, .int (nI (i + 1))), (1, .int (nI ((smF (fun i => cnF (fun p => decide (M i p ≠ -1)) 24) i) + (cnF (fun p => decide (M i p ≠ -1)) 24)))), (0, .ref t)]) hx hb d_T_valuesInAll_21 hl (k := 2) rfl (ii_1 _) (by decide) rfl (fun ls hl => ?_)
        refine lv_goto (tgt := 4) hx hb d_T_valuesInAll_24 (by decide) ?_
        exact ih (i + 1) ls H locs (by omega) (by omega) hP hD hS (lv_sub hl [2, 1, 0] rfl)
  exact lp _ (0) ls s.heap [] (Nat.lt_succ_self _) (Nat.zero_le n) hP hD hS (lv_sub hl [2, 1, 0] rfl)
end
section
/-! rows filled, rows taken out -/
theorem ce_eq {c : ClassId} {n : Nat} {f g : Nat → Int32} (h : ∀ p, p < n → f p = g p) : vp_cell c (n, .inl f) = vp_cell c (n, .inl g) := by
  rw [vp_cell_i, vp_cell_i]
  unfold arrV
  congr 1
  apply congrArg
  funext j
  show Value.int (f j.val) = Value.int (g j.val)
  rw [h j.val j.isLt]
theorem bs_cell {D : va_G} {cl : List vw_C} {H : Heap} {w1 w2 : va_W} {x n : Nat} {c : ClassId} {f g : Nat → Int32} (h : ∀ p, p < n → f p = g p) (hP : va_P D cl (w1 ++ (x, .inl (c, n, .inl f)) :: w2) H) : va_P D cl (w1 ++ (x, .inl (c, n, .inl g)) :: w2) H := by
  refine bs_of fun q hq => ?_
  rcases List.mem_append.mp hq with hq | hq
  · exact bs_at hP (List.mem_append_left _ hq)
  · rcases List.mem_cons.mp hq with rfl | hq
    · have h1 := bs_at hP (q := (x, .inl (c, n, .inl f))) (List.mem_append_right _ List.mem_cons_self)
      show H[x]? = some (vp_cell c (n, .inl g))
      rw [← ce_eq h]
      exact h1
    · exact bs_at hP (List.mem_append_right _ (List.mem_cons_of_mem _ hq))
theorem bs_adr {A : Nat → Prop} {w w' : va_W} (hD : va_D A w) (h : w.map (fun q => q.1) = w'.map (fun q => q.1)) : va_D A w' := by
  refine ⟨(bs_nd w').mpr (h ▸ (bs_nd w).mp hD.1), fun k q hk => ?_⟩
  have hm : q.1 ∈ w'.map (fun q => q.1) := List.mem_map.mpr ⟨q, List.mem_of_getElem? hk, rfl⟩
  rw [← h] at hm
  obtain ⟨q', hq', e⟩ := List.mem_map.mp hm
  rw [← e]
  exact bs_in hD hq'
def flF (f : Nat → Int32) (v : Int32) (i : Nat) : Nat → Int32 := fun p => if p < i then v else f p
theorem flF_0 (f : Nat → Int32) (v : Int32) : flF f v 0 = f := by funext p; simp [flF]
theorem flF_s (f : Nat → Int32) (v : Int32) (i : Nat) : upd (flF f v i) i v = flF f v (i + 1) := by
  funext p
  by_cases h : p = i
  · simp [upd, flF, h]
  · by_cases h2 : p < i
    · simp [upd, flF, h, h2, Nat.lt_succ_of_lt h2]
    · simp [upd, flF, h, h2, show ¬ p < i + 1 by omega]
theorem b_of0 {b : Bool} (h : (if b = true then nI 1 else nI 0) = 0) : b = false := by
  cases b
  · rfl
  · exact absurd h (by decide)
theorem b_of1 {b : Bool} (h : ¬ (if b = true then nI 1 else nI 0) = 0) : b = true := by
  cases b
  · exact absurd (by decide) h
  · rfl
theorem tb_out {k : Nat → ClassId} {t a g : Nat} {r : Nat → Nat} {n : Nat} {th : Nat → Int32} (M : Nat → Nat → Int32) {j : Nat} (h : j < n) : ∃ wr : va_W, ∀ f : Nat → Int32, (tbW k t a g r n th (va_up M j f)).Perm ([(r j, .inl (k 0, 24, .inl f))] ++ wr) := by
  obtain ⟨w, hw⟩ := gRows_out (c := k 0) (r := r) M h
  refine ⟨tbF k t a g r n th ++ w, fun f => ?_⟩
  exact (List.Perm.append_left (tbF k t a g r n th) (hw f)).trans List.perm_middle
/-- a table, and a row beside it -/
def nbW (k : Nat → ClassId) (t a g y : Nat) (r : Nat → Nat) (n : Nat) (th dr : Nat → Int32) (M : Nat → Nat → Int32) : va_W := (tbF k t a g r n th ++ [(y, .inl (k 0, 24, .inl dr))]) ++ gRows (k 0) r n M
theorem nb_out {k : Nat → ClassId} {t a g y : Nat} {r : Nat → Nat} {n : Nat} {th dr : Nat → Int32} (M : Nat → Nat → Int32) {j : Nat} (h : j < n) : ∃ wr : va_W, (nbW k t a g y r n th dr M).Perm ([(r j, .inl (k 0, 24, .inl (M j))), (y, .inl (k 0, 24, .inl dr))] ++ wr) := by
  obtain ⟨w, hw⟩ := gRows_out (c := k 0) (r := r) M h
  have h1 := hw (M j)
  rw [gr_same] at h1
  refine ⟨tbF k t a g r n th ++ w, ?_⟩
  refine (List.Perm.append_left (tbF k t a g r n th ++ [(y, .inl (k 0, 24, .inl dr))]) h1).trans ?_
  refine List.perm_middle.trans (List.Perm.cons _ ?_)
  rw [List.append_assoc]
  exact List.perm_middle

set_option maxRecDepth 100000 in
set_option maxHeartbeats 4000000 in
theorem c_fill (l : Launch) (D : va_G) (k : Nat → ClassId) (x m9 : Nat) (hm9 : m9 < 2 ^ 31) (f : Nat → Int32) (v : Int32) (sz : Nat) : bMV l y_J_fill (wY y_J_fill b_J_fill 4 none) (rm9 1 0 0) D (tsK k) ([(x, .inl (k 0, m9, .inl f))]) sz [.ref x, .int v] (fun w => w = [(x, .inl (k 0, m9, .inl (fun _ => v)))]) 0 0 := by
  refine ent_v (cc := b_J_fill) (maxL := 4) (by decide) (Nat.le_of_ble_eq_true rfl) ?_
  intro p e s m args below meth c A Q ls hx hb hml hown hts hsz hA hP hD hS hK hl hnm hret
  rw [← flF_0 f v] at hP hD
  refine lv_iconst (v := nI 0) hx hb d_J_fill_0 (by decide) ?_
  refine lv_istore_n (lv' := [(2, .int (nI 0)), (0, .ref x), (1, .int v)]) hx hb d_J_fill_1 rfl hl (by decide) rfl (fun ls hl => ?_)
  refine lv_aload_n hx hb d_J_fill_2 rfl (lv_at hl 1 rfl) ?_
  refine va_alen (v := nI m9) hx hb hK.1 hP 0 0 rfl rfl rfl d_J_fill_3 ?_
  refine lv_istore_n (lv' := [(3, .int (nI m9)), (2, .int (nI 0)), (0, .ref x), (1, .int v)]) hx hb d_J_fill_4 rfl hl (by decide) rfl (fun ls hl => ?_)
  have lp : ∀ (n9 : Nat) (i : Nat) (ls : Array Slot) (H : Heap) (locs : List Loc), m9 - i < n9 → (i ≤ m9) → va_P D vwCl ([(x, .inl (k 0, m9, .inl (flF f v i)))]) H → va_D A ([(x, .inl (k 0, m9, .inl (flF f v i)))]) → va_S A s.heap H locs → lv_has ls 4 [(0, .ref x), (1, .int v), (2, .int (nI i)), (3, .int (nI m9))] → W p l e (rm9 1 0 0) s m args below meth c H locs 0 0 Q (F0 m 5 ls []) := by
    intro n9
    induction n9 with
    | zero => intro i ls H locs hm; omega
    | succ n9 ih =>
      intro i ls H locs hm hi hP hD hS hl
      refine lv_iload_n hx hb d_J_fill_5 rfl (lv_at hl 2 rfl) ?_
      refine lv_iload_n hx hb d_J_fill_6 rfl (lv_at hl 3 rfl) ?_
      refine lv_icmp_ge (tgt := 20) hx hb d_J_fill_7 (by decide) (fun c7 => ?_) (fun c7 => ?_)
      · skip
        rw [nI_leI (by omega) (by omega)] at c7
        have hP := bs_cell (w1 := []) (w2 := []) (g := fun _ => v) (fun p hp => by simp only [flF]; rw [if_pos (by omega)]) hP
        have hD := bs_adr (w' := [(x, .inl (k 0, m9, .inl (fun _ => v)))]) hD rfl
        exact hret _ _ _ _ _ _ _ d_J_fill_20 rfl hP hD hS (by decide) (by decide)
      · skip
        rw [nI_leI (by omega) (by omega)] at c7
        refine lv_aload_n hx hb d_J_fill_10 rfl (lv_at hl 0 rfl) ?_
        refine lv_iload_n hx hb d_J_fill_11 rfl (lv_at hl 2 rfl) ?_
        refine lv_iload_n hx hb d_J_fill_12 rfl (lv_at hl 1 rfl) ?_
        refine rw_iast hx hb hK.1 hP hD hS 0 0 rfl rfl (j := i) (by omega) (by omega) d_J_fill_13 (wn := [(x, .inl (k 0, m9, .inl (flF f v (i + 1))))]) (by rw [flF_s]; rfl) (fun H locs hP hD hS => ?_)
        refine lv_iinc (v := nI (i + 1)) (lv' := [(2, .int (nI (i + 1))), (0, .ref x), (1, .int v), (3, .int (nI m9))]) hx hb d_J_fill_14 hl (k := 2) rfl (ii_1 _) (by decide) rfl (fun ls hl => ?_)
        refine lv_goto (tgt := 5) hx hb d_J_fill_17 (by decide) ?_
        exact ih (i + 1) ls H locs (by omega) (by omega) hP hD hS (lv_sub hl [1, 2, 0, 3] rfl)
  exact lp _ (0) ls s.heap [] (Nat.lt_succ_self _) (Nat.zero_le _) hP hD hS (lv_sub hl [2, 3, 1, 0] rfl)

set_option maxRecDepth 100000 in
set_option maxHeartbeats 4000000 in
theorem c_isAlike (l : Launch) (D : va_G) (k : Nat → ClassId) (x y : Nat) (f f2 : Nat → Int32) (sz : Nat) : bMI l y_T_isAlike (wY y_T_isAlike b_T_isAlike 3 (some .boolean)) (rm9 1 0 0) D (tsK k) ([(x, .inl (k 0, 24, .inl f)), (y, .inl (k 0, 24, .inl f2))]) sz [.ref x, .ref y] (fun v w => v = (if eqF f f2 24 = true then nI 1 else nI 0) ∧ w = [(x, .inl (k 0, 24, .inl f)), (y, .inl (k 0, 24, .inl f2))]) 0 0 := by
  refine ent_i (cc := b_T_isAlike) (maxL := 3) (ty := .boolean) (by decide) (Nat.le_of_ble_eq_true rfl) (fun v w h => nr_if h.1) ?_
  intro p e s m args below meth c A Q ls hx hb hml hown hts hsz hA hP hD hS hK hl hret
  refine lv_iconst (v := nI 0) hx hb d_T_isAlike_0 (by decide) ?_
  refine lv_istore_n (lv' := [(2, .int (nI 0)), (0, .ref x), (1, .ref y)]) hx hb d_T_isAlike_1 rfl hl (by decide) rfl (fun ls hl => ?_)
  have lp : ∀ (n9 : Nat) (i : Nat) (ls : Array Slot), 24 - i < n9 → (i ≤ 24) → (eqF f f2 i = true) → lv_has ls 3 [(0, .ref x), (1, .ref y), (2, .int (nI i))] → W p l e (rm9 1 0 0) s m args below meth c s.heap [] 0 0 Q (F0 m 2 ls []) := by
    intro n9
    induction n9 with
    | zero => intro i ls hm; omega
    | succ n9 ih =>
      intro i ls hm hi he hl
      refine lv_iload_n hx hb d_T_isAlike_2 rfl (lv_at hl 2 rfl) ?_
      refine lv_bipush (v := nI 24) hx hb d_T_isAlike_3 (by decide) ?_
      refine lv_icmp_ge (tgt := 25) hx hb d_T_isAlike_5 (by decide) (fun c5 => ?_) (fun c5 => ?_)
      · skip
        rw [nI_leI (by omega) (by omega)] at c5
        refine lv_iconst (v := nI 1) hx hb d_T_isAlike_25 (by decide) ?_
        exact hret _ _ _ _ _ _ _ _ d_T_isAlike_26 ⟨if_t (by rw [show (24 : Nat) = i by omega]; exact he), rfl⟩ hP hD hS (by decide) (by decide)
      · skip
        rw [nI_leI (by omega) (by omega)] at c5
        refine lv_aload_n hx hb d_T_isAlike_8 rfl (lv_at hl 0 rfl) ?_
        refine lv_iload_n hx hb d_T_isAlike_9 rfl (lv_at hl 2 rfl) ?_
        refine rw_iald hx hb hK.1 hP 0 0 rfl rfl (j := i) (by omega) (by decide) d_T_isAlike_10 ?_
        refine lv_aload_n hx hb d_T_isAlike_11 rfl (lv_at hl 1 rfl) ?_
        refine lv_iload_n hx hb d_T_isAlike_12 rfl (lv_at hl 2 rfl) ?_
        refine rw_iald hx hb hK.1 hP 1 0 rfl rfl (j := i) (by omega) (by decide) d_T_isAlike_13 ?_
        refine lv_icmp_eq (tgt := 19) hx hb d_T_isAlike_14 (by decide) (fun c14 => ?_) (fun c14 => ?_)
        · skip
          refine lv_iinc (v := nI (i + 1)) (lv' := [(2, .int (nI (i + 1))), (0, .ref x), (1, .ref y)]) hx hb d_T_isAlike_19 hl (k := 2) rfl (ii_1 _) (by decide) rfl (fun ls hl => ?_)
          refine lv_goto (tgt := 2) hx hb d_T_isAlike_22 (by decide) ?_
          exact ih (i + 1) ls (by omega) (by omega) (eqF_s he c14) (lv_sub hl [1, 2, 0] rfl)
        · skip
          refine lv_iconst (v := nI 0) hx hb d_T_isAlike_17 (by decide) ?_
          exact hret _ _ _ _ _ _ _ _ d_T_isAlike_18 ⟨if_f (eqF_ne (i := i) (by omega) c14), rfl⟩ hP hD hS (by decide) (by decide)
  exact lp _ (0) ls (Nat.lt_succ_self _) (Nat.zero_le _) rfl (lv_sub hl [1, 2, 0] rfl)

set_option maxRecDepth 100000 in
set_option maxHeartbeats 4000000 in
theorem c_numberOf (l : Launch) (D : va_G) (k : Nat → ClassId) (t a g : Nat) (r : Nat → Nat) (n : Nat) (hn : n ≤ 256) (th : Nat → Int32) (M : Nat → Nat → Int32) (y : Nat) (dr : Nat → Int32) (sz : Nat) : bMI l y_T_numberOf (wY y_T_numberOf b_T_numberOf 3 (some .int)) (rm9 2 0 0) D (tsK k) (nbW k t a g y r n th dr M) sz [.ref t, .ref y] (fun v w => v = fdF (fun i => decide (th i ≠ 0) && eqF (M i) dr 24) n 0 ∧ w = nbW k t a g y r n th dr M) 0 0 := by
  refine ent_i (cc := b_T_numberOf) (maxL := 3) (ty := .int) (by decide) (Nat.le_of_ble_eq_true rfl) (fun _ _ _ => rfl) ?_
  intro p e s m args below meth c A Q ls hx hb hml hown hts hsz hA hP hD hS hK hl hret
  refine lv_iconst (v := nI 0) hx hb d_T_numberOf_0 (by decide) ?_
  refine lv_istore_n (lv' := [(2, .int (nI 0)), (0, .ref t), (1, .ref y)]) hx hb d_T_numberOf_1 rfl hl (by decide) rfl (fun ls hl => ?_)
  have lp : ∀ (n9 : Nat) (i : Nat) (ls : Array Slot) (H : Heap) (locs : List Loc), n - i < n9 → (i ≤ n) → (fdF (fun i => decide (th i ≠ 0) && eqF (M i) dr 24) n 0 = fdF (fun i => decide (th i ≠ 0) && eqF (M i) dr 24) (n - i) i) → va_P D vwCl (nbW k t a g y r n th dr M) H → va_D A (nbW k t a g y r n th dr M) → va_S A s.heap H locs → lv_has ls 3 [(0, .ref t), (1, .ref y), (2, .int (nI i))] → W p l e (rm9 2 0 0) s m args below meth c H locs 0 0 Q (F0 m 2 ls []) := by
    intro n9
    induction n9 with
    | zero => intro i ls H locs hm; omega
    | succ n9 ih =>
      intro i ls H locs hm hi hf hP hD hS hl
      refine lv_iload_n hx hb d_T_numberOf_2 rfl (lv_at hl 2 rfl) ?_
      refine lv_aload_n hx hb d_T_numberOf_3 rfl (lv_at hl 0 rfl) ?_
      refine va_get (D := D) (ci := ciTb) (v := .ref a) (C := RT) (T := TT) (N := 2) hx hb hts inT hown hK.1 hP 0 rfl rfl 0 (by decide) (hts _ wd_32) (fun _ h9 => h9) rfl d_T_numberOf_4 ?_
      refine va_alen (v := nI n) hx hb hK.1 hP 1 1 rfl rfl rfl d_T_numberOf_7 ?_
      refine lv_icmp_ge (tgt := 41) hx hb d_T_numberOf_8 (by decide) (fun c8 => ?_) (fun c8 => ?_)
      · skip
        rw [nI_leI (by omega) (by omega)] at c8
        refine lv_iconst (v := -1) hx hb d_T_numberOf_41 (by decide) ?_
        exact hret _ _ _ _ _ _ _ _ d_T_numberOf_42 ⟨by rw [hf, fdF_end (by omega)], rfl⟩ hP hD hS (by decide) (by decide)
      · skip
        rw [nI_leI (by omega) (by omega)] at c8
        refine lv_aload_n hx hb d_T_numberOf_11 rfl (lv_at hl 0 rfl) ?_
        refine va_get (D := D) (ci := ciTb) (v := .ref a) (C := RT) (T := TT) (N := 2) hx hb hts inT hown hK.1 hP 0 rfl rfl 0 (by decide) (hts _ wd_32) (fun _ h9 => h9) rfl d_T_numberOf_12 ?_
        refine lv_iload_n hx hb d_T_numberOf_15 rfl (lv_at hl 2 rfl) ?_
        refine rw_zald hx hb hK.1 hP 1 1 rfl rfl (j := i) (by omega) (by omega) d_T_numberOf_16 ?_
        refine lv_if_eq (tgt := 35) hx hb d_T_numberOf_17 (by decide) (fun c17 => ?_) (fun c17 => ?_)
        · skip
          refine lv_iinc (v := nI (i + 1)) (lv' := [(2, .int (nI (i + 1))), (0, .ref t), (1, .ref y)]) hx hb d_T_numberOf_35 hl (k := 2) rfl (ii_1 _) (by decide) rfl (fun ls hl => ?_)
          refine lv_goto (tgt := 2) hx hb d_T_numberOf_38 (by decide) ?_
          exact ih (i + 1) ls H locs (by omega) (by omega) (by rw [hf]; exact fdF_miss (by omega) (by simp [c17])) hP hD hS (lv_sub hl [1, 2, 0] rfl)
        · skip
          refine lv_aload_n hx hb d_T_numberOf_20 rfl (lv_at hl 0 rfl) ?_
          refine va_get (D := D) (ci := ciTb) (v := .ref g) (C := RT) (T := TT) (N := 2) hx hb hts inT hown hK.1 hP 0 rfl rfl 1 (by decide) (hts _ wd_33) (fun _ h9 => h9) rfl d_T_numberOf_21 ?_
          refine lv_iload_n hx hb d_T_numberOf_24 rfl (lv_at hl 2 rfl) ?_
          refine rw_aald hx hb hK.1 hP 2 2 rfl rfl (j := i) (y := r i) (by omega) (by omega) (gOut_at (by omega)) d_T_numberOf_25 ?_
          refine lv_aload_n hx hb d_T_numberOf_26 rfl (lv_at hl 1 rfl) ?_
          obtain ⟨wr, hpm⟩ := nb_out (k := k) (t := t) (a := a) (g := g) (y := y) (r := r) (n := n) (th := th) (dr := dr) M (j := i) (by omega)
          refine cal_i (wc := [(r i, .inl (k 0, 24, .inl (M i))), (y, .inl (k 0, 24, .inl dr))]) (wr := wr) (va_runS (As := [.ref (r i), .ref y]) (rest := []) ⟨hx, hb, hml, hown, hts⟩ (c_isAlike l D k (r i) y (M i) dr H.size) (cwS9 2 hts wd_338 wd_336 wd_337 wd_2 (by decide) ⟨by decide, by decide⟩) (prS hK hP hD hpm) rfl rfl hl.1 rfl (lv_room (Nat.le_of_ble_eq_true rfl)) d_T_numberOf_27 ⟨by decide, by decide⟩) hpm hP hD hS hA (fun r w1 H locs hw hpd hS => ?_)
          obtain ⟨rfl, rfl⟩ := hw
          obtain ⟨hP, hD⟩ := hpd (nbW k t a g y r n th dr M) hpm.symm
          refine lv_if_eq (tgt := 35) hx hb d_T_numberOf_30 (by decide) (fun c30 => ?_) (fun c30 => ?_)
          · skip
            have c30 := b_of0 c30
            refine lv_iinc (v := nI (i + 1)) (lv' := [(2, .int (nI (i + 1))), (0, .ref t), (1, .ref y)]) hx hb d_T_numberOf_35 hl (k := 2) rfl (ii_1 _) (by decide) rfl (fun ls hl => ?_)
            refine lv_goto (tgt := 2) hx hb d_T_numberOf_38 (by decide) ?_
            exact ih (i + 1) ls H locs (by omega) (by omega) (by rw [hf]; exact fdF_miss (by omega) (by simp [c30])) hP hD hS (lv_sub hl [1, 2, 0] rfl)
          · skip
            have c30 := b_of1 c30
            refine lv_iload_n hx hb d_T_numberOf_33 rfl (lv_at hl 2 rfl) ?_
            exact hret _ _ _ _ _ _ _ _ d_T_numberOf_34 ⟨by rw [hf, fdF_hit (by omega) (by simp [c17, c30])], rfl⟩ hP hD hS (by decide) (by decide)
  exact lp _ (0) ls s.heap [] (Nat.lt_succ_self _) (Nat.zero_le n) rfl hP hD hS (lv_sub hl [1, 2, 0] rfl)

set_option maxRecDepth 100000 in
set_option maxHeartbeats 4000000 in
theorem c_remove (l : Launch) (D : va_G) (k : Nat → ClassId) (t a g : Nat) (r : Nat → Nat) (n : Nat) (hn : n ≤ 256) (th : Nat → Int32) (M : Nat → Nat → Int32) (j : Nat) (hj : j < n) (sz : Nat) : bMV l y_T_remove (wY y_T_remove b_T_remove 2 none) (rm9 2 0 0) D (tsK k) (tbW k t a g r n th M) sz [.ref t, .int (nI j)] (fun w => w = tbW k t a g r n (upd th j (nI 0)) (va_up M j (fun _ => -1))) 0 0 := by
  refine ent_v (cc := b_T_remove) (maxL := 2) (by decide) (Nat.le_of_ble_eq_true rfl) ?_
  intro p e s m args below meth c A Q ls hx hb hml hown hts hsz hA hP hD hS hK hl hnm hret
  refine lv_aload_n hx hb d_T_remove_0 rfl (lv_at hl 0 rfl) ?_
  refine va_get (D := D) (ci := ciTb) (v := .ref a) (C := RT) (T := TT) (N := 2) hx hb hts inT hown hK.1 hP 0 rfl rfl 0 (by decide) (hts _ wd_32) (fun _ h9 => h9) rfl d_T_remove_1 ?_
  refine lv_iload_n hx hb d_T_remove_4 rfl (lv_at hl 1 rfl) ?_
  refine lv_iconst (v := nI 0) hx hb d_T_remove_5 (by decide) ?_
  refine rw_zast hx hb hK.1 hP hD hS 1 1 rfl rfl (j := j) bz_0 (by omega) (by omega) d_T_remove_6 (wn := tbW k t a g r n (upd th j (nI 0)) M) rfl (fun H locs hP hD hS => ?_)
  refine lv_aload_n hx hb d_T_remove_7 rfl (lv_at hl 0 rfl) ?_
  refine va_get (D := D) (ci := ciTb) (v := .ref g) (C := RT) (T := TT) (N := 2) hx hb hts inT hown hK.1 hP 0 rfl rfl 1 (by decide) (hts _ wd_33) (fun _ h9 => h9) rfl d_T_remove_8 ?_
  refine lv_iload_n hx hb d_T_remove_11 rfl (lv_at hl 1 rfl) ?_
  refine rw_aald hx hb hK.1 hP 2 2 rfl rfl (j := j) (y := r j) (by omega) (by omega) (gOut_at (by omega)) d_T_remove_12 ?_
  refine lv_iconst (v := -1) hx hb d_T_remove_13 (by decide) ?_
  obtain ⟨wr, hwr⟩ := tb_out (k := k) (t := t) (a := a) (g := g) (r := r) (n := n) (th := upd th j (nI 0)) M hj
  have hpm := hwr (M j)
  rw [gr_same] at hpm
  refine cal_v (wc := [(r j, .inl (k 0, 24, .inl (M j)))]) (wr := wr) (va_runS (As := [.ref (r j), .int (-1)]) (rest := []) ⟨hx, hb, hml, hown, hts⟩ (c_fill l D k (r j) 24 (by decide) (M j) (-1) H.size) (cwS9 2 hts wd_31 wd_29 wd_30 wd_3 (by decide) ⟨by decide, by decide⟩) (prS hK hP hD hpm) rfl rfl hl.1 rfl (lv_room (Nat.le_of_ble_eq_true rfl)) d_T_remove_14 ⟨by decide, by decide⟩) hpm hP hD hS hA (fun w1 H locs hw hpd hS => ?_)
  subst hw
  obtain ⟨hP, hD⟩ := hpd (tbW k t a g r n (upd th j (nI 0)) (va_up M j (fun _ => -1))) (hwr (fun _ => -1)).symm
  exact hret _ _ _ _ _ _ _ d_T_remove_17 rfl hP hD hS (by decide) (by decide)
end
section
/-! a new table -/
theorem ka_eq {s : State} {nm : String} {a b : ClassId} (h1 : s.vm.findClass nm = some a) (h2 : s.vm.findClass nm = some b) : a = b := Option.some.inj (h1.symm.trans h2)
theorem gr_pl {c : ClassId} {r : Nat → Nat} {n : Nat} {f : Nat → va_E} : va_pl ([] ++ (List.range n).map r) (vr_up f ((List.range n).map r) (.inl (c, 24, .inl (fun _ => 0)))) = gRows c r n (fun _ _ => 0) := by
  unfold va_pl gRows
  rw [List.nil_append, List.map_map]
  apply List.map_congr_left
  intro i hi
  show (r i, vr_up f ((List.range n).map r) (.inl (c, 24, .inl (fun _ => 0))) (r i)) = _
  rw [vr_up_in (List.mem_map.mpr ⟨i, hi, rfl⟩)]
  rfl
theorem gRows_congr {c : ClassId} {r : Nat → Nat} {n : Nat} {M M' : Nat → Nat → Int32} (h : ∀ i, i < n → M i = M' i) : gRows c r n M = gRows c r n M' := by
  unfold gRows
  apply List.map_congr_left
  intro i hi
  show (r i, _) = (r i, _)
  rw [h i (List.mem_range.mp hi)]
def inF (i : Nat) : Nat → Nat → Int32 := fun a _ => if a < i then -1 else 0
theorem inF_0 : inF 0 = fun _ _ => 0 := by funext a p; simp [inF]
theorem inF_s (i : Nat) : va_up (inF i) i (fun _ => -1) = inF (i + 1) := by
  funext a p
  by_cases h : a = i
  · simp [va_up, inF, h]
  · by_cases h2 : a < i
    · simp [va_up, inF, h, h2, Nat.lt_succ_of_lt h2]
    · simp [va_up, inF, h, h2, show ¬ a < i + 1 by omega]
theorem tb_end {k : Nat → ClassId} {t a g : Nat} {r : Nat → Nat} {n i : Nat} {th : Nat → Int32} (h : n ≤ i) : tbW k t a g r n th (inF i) = tbW k t a g r n th (fun _ _ => -1) := by
  unfold tbW
  rw [gRows_congr (M' := fun _ _ => -1)]
  intro a ha
  funext p
  simp [inF, show a < i by omega]

set_option maxRecDepth 100000 in
set_option maxHeartbeats 4000000 in
theorem c_Tinit (l : Launch) (D : va_G) (k : Nat → ClassId) (t n : Nat) (hn : n ≤ 256) (sz : Nat) : bMV l y_T_init (wY y_T_init b_T_init 3 none) (rm9 2 (n + 2) (26 * n)) D (tsK k) ([(t, .inr (ciTb, [.null, .null]))]) sz [.ref t, .int (nI n)] (fun w => ∃ (a g : Nat) (r : Nat → Nat), w = tbW k t a g r n (fun _ => 0) (fun _ _ => -1)) (n + 2) (26 * n) := by
  refine ent_v (cc := b_T_init) (maxL := 3) (by decide) (Nat.le_of_ble_eq_true rfl) ?_
  intro p e s m args below meth c A Q ls hx hb hml hown hts hsz hA hP hD hS hK hl hnm hret
  refine lv_aload_n hx hb d_T_init_0 rfl (lv_at hl 0 rfl) ?_
  refine W.objInit hx hb hown (hts _ wd_26) (hts _ wd_19) (hts _ wd_20) rfl (by rw [hml]; exact hl.1) rfl d_T_init_1 (Nat.le_of_ble_eq_true rfl) (Nat.le_of_ble_eq_true rfl) ?_
  refine W.eq (g2 := F0 m 4 ls []) rfl ?_
  refine lv_aload_n hx hb d_T_init_4 rfl (lv_at hl 0 rfl) ?_
  refine lv_iload_n hx hb d_T_init_5 rfl (lv_at hl 1 rfl) ?_
  refine va_newa (atype := .boolean) (ty := .boolean) (N' := n) (a0 := (n, .inl (fun _ => 0))) hx hb (hts _ wd_40) rfl hK.1 hP hD hS hA (fun cA => rfl) (nI_pos (by omega)) (nI_clamp (by omega)) (by show n * 1 ≤ 536870912; omega) (by show 0 + 1 ≤ n + 2; omega) (by show 0 + n ≤ 26 * n; omega) d_T_init_6 (fun q6 cA H hK6 hP hD hS => ?_)
  obtain rfl : cA = k 1 := ka_eq (hK6.2 4 _ rfl).2 (hK.1.2 1 _ rfl).2
  have hP : va_P D vwCl [(t, .inr (ciTb, [.null, .null])), (q6, .inl (k 1, n, .inl (fun _ => 0)))] H := hP
  have hD : va_D A [(t, .inr (ciTb, [.null, .null])), (q6, .inl (k 1, n, .inl (fun _ => 0)))] := hD
  refine va_putF (D := D) (ci := ciTb) (v := .ref q6) (ty := .array .boolean) (C := RT) (T := TT) (N := 2) hx hb hts inT tyT ttT nnT hown hK.1 hP hD hS 0 rfl rfl 0 (by decide) (hts _ wd_32) (fun _ h9 => h9) rfl hnm rfl (by decide +kernel) rfl rfl (Nat.le_of_ble_eq_true rfl) d_T_init_8 (fun H locs hP hD hS => ?_)
  have hP : va_P D vwCl ([(t, .inr (ciTb, [.ref q6, .null])), (q6, .inl (k 1, n, .inl (fun _ => 0)))]) H := hP
  have hD : va_D A ([(t, .inr (ciTb, [.ref q6, .null])), (q6, .inl (k 1, n, .inl (fun _ => 0)))]) := hD
  refine lv_aload_n hx hb d_T_init_11 rfl (lv_at hl 0 rfl) ?_
  refine lv_iload_n hx hb d_T_init_12 rfl (lv_at hl 1 rfl) ?_
  refine lv_bipush (v := nI 24) hx hb d_T_init_13 (by decide) ?_
  refine va_mna (X := [(t, .inr (ciTb, [.ref q6, .null])), (q6, .inl (k 1, n, .inl (fun _ => 0)))]) (L := []) (f := fun _ => .inl (k 0, 0, .inl (fun _ => 0))) (cy := k 0) (ty := .int) (N' := n) (K' := 24) (z := (24, .inl (fun _ => 0))) hx hb hown (by rw [show "[" ++ (FieldType.array .int).toString = "[[I" by decide]; exact hts _ wd_27) hK.2.2 (hts _ wd_41) (hK.1.2 0 _ rfl).2 hK.1 (by simpa [va_pl] using hP) (by simpa [va_pl] using hD) hS hA (nI_pos (by omega)) (by decide) (nI_clamp (by omega)) (by decide) (by omega) (by decide) (by decide) rfl rfl (by show 0 + 1 + (1 + n) ≤ n + 2; omega) (by show 0 + n + (n + n * 24) ≤ 26 * n; omega) (fun c => arrV_new c 24 (.int 0)) d_T_init_15 (fun q15 rr cA H hij hnl hK15 hP hD hS => ?_)
  obtain rfl : cA = k 2 := ka_eq (hK15.2 4 _ rfl).2 (hK.1.2 2 _ rfl).2
  rw [gr_pl] at hP hD
  have hP : va_P D vwCl ([(t, .inr (ciTb, [.ref q6, .null])), (q6, .inl (k 1, n, .inl (fun _ => 0))), (q15, .inl (k 2, n, .inr (.inr (.inr (.inr (gOut rr n))))))] ++ gRows (k 0) rr n (fun _ _ => 0)) H := hP
  have hD : va_D A ([(t, .inr (ciTb, [.ref q6, .null])), (q6, .inl (k 1, n, .inl (fun _ => 0))), (q15, .inl (k 2, n, .inr (.inr (.inr (.inr (gOut rr n))))))] ++ gRows (k 0) rr n (fun _ _ => 0)) := hD
  refine va_putF (D := D) (ci := ciTb) (v := .ref q15) (ty := .array (.array .int)) (C := RT) (T := TT) (N := 2) hx hb hts inT tyT ttT nnT hown hK.1 hP hD hS 0 rfl rfl 1 (by decide) (hts _ wd_33) (fun _ h9 => h9) rfl hnm rfl (by decide +kernel) rfl rfl (Nat.le_of_ble_eq_true rfl) d_T_init_19 (fun H locs hP hD hS => ?_)
  have hP : va_P D vwCl (tbW k t q6 q15 rr n (fun _ => 0) (fun _ _ => 0)) H := hP
  have hD : va_D A (tbW k t q6 q15 rr n (fun _ => 0) (fun _ _ => 0)) := hD
  refine W.widen (k := n + 2) (n := 26 * n) (by omega) (by omega) ?_
  rw [← inF_0] at hP hD
  refine lv_iconst (v := nI 0) hx hb d_T_init_22 (by decide) ?_
  refine lv_istore_n (lv' := [(2, .int (nI 0)), (0, .ref t), (1, .int (nI n))]) hx hb d_T_init_23 rfl hl (by decide) rfl (fun ls hl => ?_)
  have lp : ∀ (n9 : Nat) (i : Nat) (ls : Array Slot) (H : Heap) (locs : List Loc), n - i < n9 → (i ≤ n) → va_P D vwCl (tbW k t q6 q15 rr n (fun _ => 0) (inF i)) H → va_D A (tbW k t q6 q15 rr n (fun _ => 0) (inF i)) → va_S A s.heap H locs → lv_has ls 3 [(0, .ref t), (1, .int (nI n)), (2, .int (nI i))] → W p l e (rm9 2 (n + 2) (26 * n)) s m args below meth c H locs (n + 2) (26 * n) Q (F0 m 24 ls []) := by
    intro n9
    induction n9 with
    | zero => intro i ls H locs hm; omega
    | succ n9 ih =>
      intro i ls H locs hm hi hP hD hS hl
      refine lv_iload_n hx hb d_T_init_24 rfl (lv_at hl 2 rfl) ?_
      refine lv_iload_n hx hb d_T_init_25 rfl (lv_at hl 1 rfl) ?_
      refine lv_icmp_ge (tgt := 45) hx hb d_T_init_26 (by decide) (fun c26 => ?_) (fun c26 => ?_)
      · skip
        rw [nI_leI (by omega) (by omega)] at c26
        rw [tb_end (i := i) (by omega)] at hP hD
        exact hret _ _ _ _ _ _ _ d_T_init_45 ⟨q6, q15, rr, rfl⟩ hP hD hS (Nat.le_refl _) (Nat.le_refl _)
      · skip
        rw [nI_leI (by omega) (by omega)] at c26
        refine lv_aload_n hx hb d_T_init_29 rfl (lv_at hl 0 rfl) ?_
        refine va_get (D := D) (ci := ciTb) (v := .ref q15) (C := RT) (T := TT) (N := 2) hx hb hts inT hown hK.1 hP 0 rfl rfl 1 (by decide) (hts _ wd_33) (fun _ h9 => h9) rfl d_T_init_30 ?_
        refine lv_iload_n hx hb d_T_init_33 rfl (lv_at hl 2 rfl) ?_
        refine rw_aald hx hb hK.1 hP 2 2 rfl rfl (j := i) (y := rr i) (by omega) (by omega) (gOut_at (by omega)) d_T_init_34 ?_
        refine lv_iconst (v := -1) hx hb d_T_init_35 (by decide) ?_
        obtain ⟨wr, hwr⟩ := tb_out (k := k) (t := t) (a := q6) (g := q15) (r := rr) (n := n) (th := fun _ => 0) (inF i) (j := i) (by omega)
        have hpm := hwr (inF i i)
        rw [gr_same] at hpm
        have hpn := hwr (fun _ => -1)
        rw [inF_s] at hpn
        refine cal_v (wc := [(rr i, .inl (k 0, 24, .inl (inF i i)))]) (wr := wr) (va_runS (As := [.ref (rr i), .int (-1)]) (rest := []) ⟨hx, hb, hml, hown, hts⟩ (c_fill l D k (rr i) 24 (by decide) (inF i i) (-1) H.size) (cwS9 2 hts wd_31 wd_29 wd_30 wd_3 (by decide) ⟨Nat.le_of_ble_eq_true rfl, Nat.le_of_ble_eq_true rfl⟩) (prS hK hP hD hpm) rfl rfl hl.1 rfl (lv_room (Nat.le_of_ble_eq_true rfl)) d_T_init_36 ⟨Nat.le_refl _, Nat.le_refl _⟩) hpm hP hD hS hA (fun w1 H locs hw hpd hS => ?_)
        subst hw
        obtain ⟨hP, hD⟩ := hpd (tbW k t q6 q15 rr n (fun _ => 0) (inF (i + 1))) hpn.symm
        refine lv_iinc (v := nI (i + 1)) (lv' := [(2, .int (nI (i + 1))), (0, .ref t), (1, .int (nI n))]) hx hb d_T_init_39 hl (k := 2) rfl (ii_1 _) (by decide) rfl (fun ls hl => ?_)
        refine lv_goto (tgt := 24) hx hb d_T_init_42 (by decide) ?_
        exact ih (i + 1) ls H locs (by omega) (by omega) hP hD hS (lv_sub hl [1, 2, 0] rfl)
  exact lp _ (0) ls H locs (Nat.lt_succ_self _) (Nat.zero_le n) hP hD hS (lv_sub hl [1, 2, 0] rfl)
end
section
/-! the class's world, and its parts -/
section CX
variable {k : Nat → ClassId} {a r t : Nat → Nat} {th kd bs us sth mk dr : Nat → Int32} {M sM : Nat → Nat → Int32}
theorem cx_rowS {j : Nat} (h : j < 64) : (cxW k a r t th kd bs us sth mk dr M sM)[12 + j]? = some (r j, .inl (k 0, 24, .inl (M j))) := by
  show (cxF k a r t th kd bs us sth mk dr ++ (gRows (k 0) r 64 M ++ gRows (k 0) t 256 sM))[12 + j]? = _
  rw [List.getElem?_append_right (by show 12 ≤ 12 + j; omega), show 12 + j - (cxF k a r t th kd bs us sth mk dr).length = j by show 12 + j - 12 = j; omega, List.getElem?_append_left (by rw [gRows_len]; exact h)]
  exact gRows_at h
theorem cx_rowT {j : Nat} (h : j < 256) : (cxW k a r t th kd bs us sth mk dr M sM)[76 + j]? = some (t j, .inl (k 0, 24, .inl (sM j))) := by
  show (cxF k a r t th kd bs us sth mk dr ++ (gRows (k 0) r 64 M ++ gRows (k 0) t 256 sM))[76 + j]? = _
  rw [List.getElem?_append_right (by show 12 ≤ 76 + j; omega), show 76 + j - (cxF k a r t th kd bs us sth mk dr).length = 64 + j by show 76 + j - 12 = 64 + j; omega, List.getElem?_append_right (by rw [gRows_len]; omega), gRows_len, Nat.add_sub_cancel_left]
  exact gRows_at h
theorem cx_setS {j : Nat} {f : Nat → Int32} (h : j < 64) : (cxW k a r t th kd bs us sth mk dr M sM).set (12 + j) (r j, .inl (k 0, 24, .inl f)) = cxW k a r t th kd bs us sth mk dr (va_up M j f) sM := by
  show (cxF k a r t th kd bs us sth mk dr ++ (gRows (k 0) r 64 M ++ gRows (k 0) t 256 sM)).set (12 + j) _ = cxF k a r t th kd bs us sth mk dr ++ (gRows (k 0) r 64 (va_up M j f) ++ gRows (k 0) t 256 sM)
  rw [List.set_append_right _ _ (by show 12 ≤ 12 + j; omega), show 12 + j - (cxF k a r t th kd bs us sth mk dr).length = j by show 12 + j - 12 = j; omega, List.set_append_left _ _ (by rw [gRows_len]; exact h), gRows_set h]
theorem cx_setT {j : Nat} {f : Nat → Int32} (h : j < 256) : (cxW k a r t th kd bs us sth mk dr M sM).set (76 + j) (t j, .inl (k 0, 24, .inl f)) = cxW k a r t th kd bs us sth mk dr M (va_up sM j f) := by
  show (cxF k a r t th kd bs us sth mk dr ++ (gRows (k 0) r 64 M ++ gRows (k 0) t 256 sM)).set (76 + j) _ = cxF k a r t th kd bs us sth mk dr ++ (gRows (k 0) r 64 M ++ gRows (k 0) t 256 (va_up sM j f))
  rw [List.set_append_right _ _ (by show 12 ≤ 76 + j; omega), show 76 + j - (cxF k a r t th kd bs us sth mk dr).length = 64 + j by show 76 + j - 12 = 64 + j; omega, List.set_append_right _ _ (by rw [gRows_len]; omega), gRows_len, Nat.add_sub_cancel_left, gRows_set h]
theorem cx_S : ∃ wr : va_W, ∀ (th : Nat → Int32), (cxW k a r t th kd bs us sth mk dr M sM).Perm (tbF k (a 1) (a 8) (a 9) r 64 th ++ wr) := by
  refine ⟨[(a 0, .inr (ciSS, [.ref (a 1), .ref (a 2), .ref (a 3), .ref (a 4), .ref (a 5), .ref (a 6), .ref (a 7)])), (a 2, .inl (k 0, 64, .inl kd)), (a 3, .inl (k 0, 64, .inl bs)), (a 4, .inl (k 0, 24, .inl us)), (a 5, .inr (ciTb, [.ref (a 10), .ref (a 11)])), (a 6, .inl (k 1, 256, .inl mk)), (a 7, .inl (k 0, 24, .inl dr)), (a 10, .inl (k 1, 256, .inl sth)), (a 11, .inl (k 2, 256, .inr (.inr (.inr (.inr (gOut t 256))))))] ++ cxR k r t M sM, fun th => ?_⟩
  have h := pm_ix (L := cxF k a r t th kd bs us sth mk dr) (L' := [(a 1, .inr (ciTb, [.ref (a 8), .ref (a 9)])), (a 8, .inl (k 1, 64, .inl th)), (a 9, .inl (k 2, 64, .inr (.inr (.inr (.inr (gOut r 64))))))] ++ [(a 0, .inr (ciSS, [.ref (a 1), .ref (a 2), .ref (a 3), .ref (a 4), .ref (a 5), .ref (a 6), .ref (a 7)])), (a 2, .inl (k 0, 64, .inl kd)), (a 3, .inl (k 0, 64, .inl bs)), (a 4, .inl (k 0, 24, .inl us)), (a 5, .inr (ciTb, [.ref (a 10), .ref (a 11)])), (a 6, .inl (k 1, 256, .inl mk)), (a 7, .inl (k 0, 24, .inl dr)), (a 10, .inl (k 1, 256, .inl sth)), (a 11, .inl (k 2, 256, .inr (.inr (.inr (.inr (gOut t 256))))))]) [1, 8, 9, 0, 2, 3, 4, 5, 6, 7, 10, 11] (show (List.range 12).Perm [1, 8, 9, 0, 2, 3, 4, 5, 6, 7, 10, 11] by decide) rfl
  have h2 := h.append_right (cxR k r t M sM)
  rw [List.append_assoc] at h2
  exact h2
theorem cx_SW : ∃ wr : va_W, ∀ (th : Nat → Int32) (M : Nat → Nat → Int32), (cxW k a r t th kd bs us sth mk dr M sM).Perm (tbW k (a 1) (a 8) (a 9) r 64 th M ++ wr) := by
  refine ⟨[(a 0, .inr (ciSS, [.ref (a 1), .ref (a 2), .ref (a 3), .ref (a 4), .ref (a 5), .ref (a 6), .ref (a 7)])), (a 2, .inl (k 0, 64, .inl kd)), (a 3, .inl (k 0, 64, .inl bs)), (a 4, .inl (k 0, 24, .inl us)), (a 5, .inr (ciTb, [.ref (a 10), .ref (a 11)])), (a 6, .inl (k 1, 256, .inl mk)), (a 7, .inl (k 0, 24, .inl dr)), (a 10, .inl (k 1, 256, .inl sth)), (a 11, .inl (k 2, 256, .inr (.inr (.inr (.inr (gOut t 256))))))] ++ gRows (k 0) t 256 sM, fun th M => ?_⟩
  have h := pm_ix (L := cxF k a r t th kd bs us sth mk dr) (L' := [(a 1, .inr (ciTb, [.ref (a 8), .ref (a 9)])), (a 8, .inl (k 1, 64, .inl th)), (a 9, .inl (k 2, 64, .inr (.inr (.inr (.inr (gOut r 64))))))] ++ [(a 0, .inr (ciSS, [.ref (a 1), .ref (a 2), .ref (a 3), .ref (a 4), .ref (a 5), .ref (a 6), .ref (a 7)])), (a 2, .inl (k 0, 64, .inl kd)), (a 3, .inl (k 0, 64, .inl bs)), (a 4, .inl (k 0, 24, .inl us)), (a 5, .inr (ciTb, [.ref (a 10), .ref (a 11)])), (a 6, .inl (k 1, 256, .inl mk)), (a 7, .inl (k 0, 24, .inl dr)), (a 10, .inl (k 1, 256, .inl sth)), (a 11, .inl (k 2, 256, .inr (.inr (.inr (.inr (gOut t 256))))))]) [1, 8, 9, 0, 2, 3, 4, 5, 6, 7, 10, 11] (show (List.range 12).Perm [1, 8, 9, 0, 2, 3, 4, 5, 6, 7, 10, 11] by decide) rfl
  exact (h.append_right (cxR k r t M sM)).trans (pm_4 _ _ _ _)
theorem cx_T : ∃ wr : va_W, ∀ (sth : Nat → Int32), (cxW k a r t th kd bs us sth mk dr M sM).Perm (tbF k (a 5) (a 10) (a 11) t 256 sth ++ wr) := by
  refine ⟨[(a 0, .inr (ciSS, [.ref (a 1), .ref (a 2), .ref (a 3), .ref (a 4), .ref (a 5), .ref (a 6), .ref (a 7)])), (a 1, .inr (ciTb, [.ref (a 8), .ref (a 9)])), (a 2, .inl (k 0, 64, .inl kd)), (a 3, .inl (k 0, 64, .inl bs)), (a 4, .inl (k 0, 24, .inl us)), (a 6, .inl (k 1, 256, .inl mk)), (a 7, .inl (k 0, 24, .inl dr)), (a 8, .inl (k 1, 64, .inl th)), (a 9, .inl (k 2, 64, .inr (.inr (.inr (.inr (gOut r 64))))))] ++ cxR k r t M sM, fun sth => ?_⟩
  have h := pm_ix (L := cxF k a r t th kd bs us sth mk dr) (L' := [(a 5, .inr (ciTb, [.ref (a 10), .ref (a 11)])), (a 10, .inl (k 1, 256, .inl sth)), (a 11, .inl (k 2, 256, .inr (.inr (.inr (.inr (gOut t 256))))))] ++ [(a 0, .inr (ciSS, [.ref (a 1), .ref (a 2), .ref (a 3), .ref (a 4), .ref (a 5), .ref (a 6), .ref (a 7)])), (a 1, .inr (ciTb, [.ref (a 8), .ref (a 9)])), (a 2, .inl (k 0, 64, .inl kd)), (a 3, .inl (k 0, 64, .inl bs)), (a 4, .inl (k 0, 24, .inl us)), (a 6, .inl (k 1, 256, .inl mk)), (a 7, .inl (k 0, 24, .inl dr)), (a 8, .inl (k 1, 64, .inl th)), (a 9, .inl (k 2, 64, .inr (.inr (.inr (.inr (gOut r 64))))))]) [5, 10, 11, 0, 1, 2, 3, 4, 6, 7, 8, 9] (show (List.range 12).Perm [5, 10, 11, 0, 1, 2, 3, 4, 6, 7, 8, 9] by decide) rfl
  have h2 := h.append_right (cxR k r t M sM)
  rw [List.append_assoc] at h2
  exact h2
theorem cx_TW : ∃ wr : va_W, ∀ (sth : Nat → Int32) (sM : Nat → Nat → Int32), (cxW k a r t th kd bs us sth mk dr M sM).Perm (tbW k (a 5) (a 10) (a 11) t 256 sth sM ++ wr) := by
  refine ⟨[(a 0, .inr (ciSS, [.ref (a 1), .ref (a 2), .ref (a 3), .ref (a 4), .ref (a 5), .ref (a 6), .ref (a 7)])), (a 1, .inr (ciTb, [.ref (a 8), .ref (a 9)])), (a 2, .inl (k 0, 64, .inl kd)), (a 3, .inl (k 0, 64, .inl bs)), (a 4, .inl (k 0, 24, .inl us)), (a 6, .inl (k 1, 256, .inl mk)), (a 7, .inl (k 0, 24, .inl dr)), (a 8, .inl (k 1, 64, .inl th)), (a 9, .inl (k 2, 64, .inr (.inr (.inr (.inr (gOut r 64))))))] ++ gRows (k 0) r 64 M, fun sth sM => ?_⟩
  have h := pm_ix (L := cxF k a r t th kd bs us sth mk dr) (L' := [(a 5, .inr (ciTb, [.ref (a 10), .ref (a 11)])), (a 10, .inl (k 1, 256, .inl sth)), (a 11, .inl (k 2, 256, .inr (.inr (.inr (.inr (gOut t 256))))))] ++ [(a 0, .inr (ciSS, [.ref (a 1), .ref (a 2), .ref (a 3), .ref (a 4), .ref (a 5), .ref (a 6), .ref (a 7)])), (a 1, .inr (ciTb, [.ref (a 8), .ref (a 9)])), (a 2, .inl (k 0, 64, .inl kd)), (a 3, .inl (k 0, 64, .inl bs)), (a 4, .inl (k 0, 24, .inl us)), (a 6, .inl (k 1, 256, .inl mk)), (a 7, .inl (k 0, 24, .inl dr)), (a 8, .inl (k 1, 64, .inl th)), (a 9, .inl (k 2, 64, .inr (.inr (.inr (.inr (gOut r 64))))))]) [5, 10, 11, 0, 1, 2, 3, 4, 6, 7, 8, 9] (show (List.range 12).Perm [5, 10, 11, 0, 1, 2, 3, 4, 6, 7, 8, 9] by decide) rfl
  exact (h.append_right (cxR k r t M sM)).trans (pm_4' _ _ _ _)
theorem cx_N : ∃ wr : va_W, ∀ (sth : Nat → Int32) (sM : Nat → Nat → Int32), (cxW k a r t th kd bs us sth mk dr M sM).Perm (nbW k (a 5) (a 10) (a 11) (a 7) t 256 sth dr sM ++ wr) := by
  refine ⟨[(a 0, .inr (ciSS, [.ref (a 1), .ref (a 2), .ref (a 3), .ref (a 4), .ref (a 5), .ref (a 6), .ref (a 7)])), (a 1, .inr (ciTb, [.ref (a 8), .ref (a 9)])), (a 2, .inl (k 0, 64, .inl kd)), (a 3, .inl (k 0, 64, .inl bs)), (a 4, .inl (k 0, 24, .inl us)), (a 6, .inl (k 1, 256, .inl mk)), (a 8, .inl (k 1, 64, .inl th)), (a 9, .inl (k 2, 64, .inr (.inr (.inr (.inr (gOut r 64))))))] ++ gRows (k 0) r 64 M, fun sth sM => ?_⟩
  have h := pm_ix (L := cxF k a r t th kd bs us sth mk dr) (L' := [(a 5, .inr (ciTb, [.ref (a 10), .ref (a 11)])), (a 10, .inl (k 1, 256, .inl sth)), (a 11, .inl (k 2, 256, .inr (.inr (.inr (.inr (gOut t 256)))))), (a 7, .inl (k 0, 24, .inl dr))] ++ [(a 0, .inr (ciSS, [.ref (a 1), .ref (a 2), .ref (a 3), .ref (a 4), .ref (a 5), .ref (a 6), .ref (a 7)])), (a 1, .inr (ciTb, [.ref (a 8), .ref (a 9)])), (a 2, .inl (k 0, 64, .inl kd)), (a 3, .inl (k 0, 64, .inl bs)), (a 4, .inl (k 0, 24, .inl us)), (a 6, .inl (k 1, 256, .inl mk)), (a 8, .inl (k 1, 64, .inl th)), (a 9, .inl (k 2, 64, .inr (.inr (.inr (.inr (gOut r 64))))))]) [5, 10, 11, 7, 0, 1, 2, 3, 4, 6, 8, 9] (show (List.range 12).Perm [5, 10, 11, 7, 0, 1, 2, 3, 4, 6, 8, 9] by decide) rfl
  exact (h.append_right (cxR k r t M sM)).trans (pm_4' _ _ _ _)
end CX
/-! walks along a chain, and what hangs on them -/
def grt (x : Int32) : Int32 := if nI 8 ≤ x then (if nI 16 ≤ x then 65535 else nI 255) else nI 1
def gvF (th bs : Nat → Int32) (M : Nat → Nat → Int32) (p : Nat) : Nat → Int32 → Int32
  | 0, _ => -1
  | n + 1, x => if hsB 64 th x = true then (if M x.toNatClampNeg p = -1 then gvF th bs M p n (bs x.toNatClampNeg) else x) else -1
theorem gvF_end {th bs : Nat → Int32} {M : Nat → Nat → Int32} {p i : Nat} {x : Int32} (h : 64 ≤ i) : gvF th bs M p (64 - i) x = -1 := by rw [show 64 - i = 0 by omega]; rfl
theorem gvF_off {th bs : Nat → Int32} {M : Nat → Nat → Int32} {p n : Nat} {x : Int32} (h : hsB 64 th x = false) : gvF th bs M p n x = -1 := by
  cases n with
  | zero => rfl
  | succ n => simp [gvF, h]
theorem gvF_hit {th bs : Nat → Int32} {M : Nat → Nat → Int32} {p i j : Nat} (hi : i < 64) (hj : j < 64) (h : hsB 64 th (nI j) = true) (hm : ¬ M j p = -1) : gvF th bs M p (64 - i) (nI j) = nI j := by
  obtain ⟨n, hn⟩ : ∃ n, 64 - i = n + 1 := ⟨63 - i, by omega⟩
  rw [hn]; simp [gvF, h, nI_clamp (show j < 2 ^ 31 by omega), hm]
theorem gvF_go {th bs : Nat → Int32} {M : Nat → Nat → Int32} {p i j : Nat} (hi : i < 64) (hj : j < 64) (h : hsB 64 th (nI j) = true) (hm : M j p = -1) : gvF th bs M p (64 - i) (nI j) = gvF th bs M p (64 - (i + 1)) (bs j) := by
  obtain ⟨n, hn⟩ : ∃ n, 64 - i = n + 1 := ⟨63 - i, by omega⟩
  rw [hn, show 64 - (i + 1) = n by omega]; simp [gvF, h, nI_clamp (show j < 2 ^ 31 by omega), hm]
theorem gvF_in {th bs : Nat → Int32} {M : Nat → Nat → Int32} {p : Nat} : ∀ (n : Nat) (x : Int32), gvF th bs M p n x = -1 ∨ ∃ j : Nat, j < 64 ∧ gvF th bs M p n x = nI j ∧ th j ≠ 0 ∧ M j p ≠ -1 := by
  intro n
  induction n with
  | zero => intro x; exact Or.inl rfl
  | succ n ih =>
    intro x
    cases h : hsB 64 th x with
    | false => exact Or.inl (gvF_off h)
    | true =>
      obtain ⟨j, hj, rfl, hjt⟩ := hsB_t (by decide) h
      by_cases hm : M j p = -1
      · have e : gvF th bs M p (n + 1) (nI j) = gvF th bs M p n (bs j) := by simp [gvF, h, nI_clamp (show j < 2 ^ 31 by omega), hm]
        rw [e]
        exact ih (bs j)
      · have e : gvF th bs M p (n + 1) (nI j) = nI j := by simp [gvF, h, nI_clamp (show j < 2 ^ 31 by omega), hm]
        rw [e]
        exact Or.inr ⟨j, hj, rfl, hjt, hm⟩
def chF (th bs : Nat → Int32) : Nat → Int32 → Nat
  | 0, _ => 0
  | n + 1, x => if hsB 64 th x = true then chF th bs n (bs x.toNatClampNeg) + 1 else 0
theorem chF_end {th bs : Nat → Int32} {i : Nat} {x : Int32} (h : 64 ≤ i) : chF th bs (64 - i) x = 0 := by rw [show 64 - i = 0 by omega]; rfl
theorem chF_off {th bs : Nat → Int32} {n : Nat} {x : Int32} (h : hsB 64 th x = false) : chF th bs n x = 0 := by
  cases n with
  | zero => rfl
  | succ n => simp [chF, h]
theorem chF_go {th bs : Nat → Int32} {i j : Nat} (hi : i < 64) (hj : j < 64) (h : hsB 64 th (nI j) = true) : chF th bs (64 - i) (nI j) = chF th bs (64 - (i + 1)) (bs j) + 1 := by
  obtain ⟨n, hn⟩ : ∃ n, 64 - i = n + 1 := ⟨63 - i, by omega⟩
  rw [hn, show 64 - (i + 1) = n by omega]; simp [chF, h, nI_clamp (show j < 2 ^ 31 by omega)]
theorem chF_le {th bs : Nat → Int32} : ∀ (n : Nat) (x : Int32), chF th bs n x ≤ n := by
  intro n
  induction n with
  | zero => intro x; exact Nat.le_refl 0
  | succ n ih => intro x; simp only [chF]; split
                 · have := ih (bs x.toNatClampNeg); omega
                 · omega
def ocF (th bs : Nat → Int32) (z : Int32) : Nat → Int32 → Bool
  | 0, _ => false
  | n + 1, x => if hsB 64 th x = true then (if x = z then true else ocF th bs z n (bs x.toNatClampNeg)) else false
theorem ocF_end {th bs : Nat → Int32} {i : Nat} {x z : Int32} (h : 64 ≤ i) : ocF th bs z (64 - i) x = false := by rw [show 64 - i = 0 by omega]; rfl
theorem ocF_off {th bs : Nat → Int32} {n : Nat} {x z : Int32} (h : hsB 64 th x = false) : ocF th bs z n x = false := by
  cases n with
  | zero => rfl
  | succ n => simp [ocF, h]
theorem ocF_hit {th bs : Nat → Int32} {i j : Nat} {z : Int32} (hi : i < 64) (h : hsB 64 th (nI j) = true) (hm : nI j = z) : ocF th bs z (64 - i) (nI j) = true := by
  obtain ⟨n, hn⟩ : ∃ n, 64 - i = n + 1 := ⟨63 - i, by omega⟩
  subst hm
  rw [hn]; simp [ocF, h]
theorem ocF_go {th bs : Nat → Int32} {i j : Nat} {z : Int32} (hi : i < 64) (hj : j < 64) (h : hsB 64 th (nI j) = true) (hm : ¬ nI j = z) : ocF th bs z (64 - i) (nI j) = ocF th bs z (64 - (i + 1)) (bs j) := by
  obtain ⟨n, hn⟩ : ∃ n, 64 - i = n + 1 := ⟨63 - i, by omega⟩
  rw [hn, show 64 - (i + 1) = n by omega]; simp [ocF, h, nI_clamp (show j < 2 ^ 31 by omega), hm]
def mxF (f : Nat → Nat) : Nat → Nat
  | 0 => 0
  | n + 1 => if mxF f n < f n then f n else mxF f n
theorem mxF_le {f : Nat → Nat} {b : Nat} (h : ∀ i, f i ≤ b) : ∀ n, mxF f n ≤ b := by
  intro n
  induction n with
  | zero => exact Nat.zero_le _
  | succ n ih => simp only [mxF]; split
                 · exact h n
                 · exact ih
theorem mx_nI {m n : Nat} (hm : m < 2 ^ 31) (hn : n < 2 ^ 31) : (if nI m < nI n then nI n else nI m) = nI (if m < n then n else m) := by
  by_cases h : m < n
  · rw [if_pos h, if_pos ((nI_ltI hm hn).mpr h)]
  · rw [if_neg h, if_neg (fun q => h ((nI_ltI hm hn).mp q))]
def vbF (th bs : Nat → Int32) (M : Nat → Nat → Int32) (x : Int32) (p : Nat) : Int32 := if gvF th bs M p 64 x = -1 then -1 else M (gvF th bs M p 64 x).toNatClampNeg p
def rbF (th bs us : Nat → Int32) (M : Nat → Nat → Int32) (c q : Int32) (p : Nat) : Int32 := if vbF th bs M c p = -1 then (if vbF th bs M q p = -1 then us p else vbF th bs M q p) else vbF th bs M c p
def rsF (th bs us : Nat → Int32) (M sM : Nat → Nat → Int32) (j : Nat) (c q : Int32) (p : Nat) : Int32 := if sM j p = -1 then rbF th bs us M c q p else sM j p
theorem ne_m1 {j : Nat} (h : j < 2 ^ 31) : ¬ nI j = -1 := by
  intro e
  have h1 : ¬ nI j < 0 := nI_pos h
  rw [e] at h1
  exact h1 (by decide)

set_option maxRecDepth 100000 in
set_option maxHeartbeats 4000000 in
theorem c_greatest (l : Launch) (D : va_G) (k : Nat → ClassId) (x : Int32) (sz : Nat) : bMI l y_S_greatest (wY y_S_greatest b_S_greatest 1 (some .int)) (rm9 1 0 0) D (tsK k) ([]) sz [.int x] (fun v w => v = grt x ∧ w = []) 0 0 := by
  refine ent_i (cc := b_S_greatest) (maxL := 1) (ty := .int) (by decide) (Nat.le_of_ble_eq_true rfl) (fun _ _ _ => rfl) ?_
  intro p e s m args below meth c A Q ls hx hb hml hown hts hsz hA hP hD hS hK hl hret
  refine lv_iload_n hx hb d_S_greatest_0 rfl (lv_at hl 0 rfl) ?_
  refine lv_bipush (v := nI 8) hx hb d_S_greatest_1 (by decide) ?_
  refine lv_icmp_ge (tgt := 8) hx hb d_S_greatest_3 (by decide) (fun c3 => ?_) (fun c3 => ?_)
  · skip
    refine lv_iload_n hx hb d_S_greatest_8 rfl (lv_at hl 0 rfl) ?_
    refine lv_bipush (v := nI 16) hx hb d_S_greatest_9 (by decide) ?_
    refine lv_icmp_ge (tgt := 20) hx hb d_S_greatest_11 (by decide) (fun c11 => ?_) (fun c11 => ?_)
    · skip
      refine lv_ldc (v := 65535) hx hb hown (hts _ wd_273) d_S_greatest_20 ?_
      exact hret _ _ _ _ _ _ _ _ d_S_greatest_22 ⟨by simp [grt, c3, c11], rfl⟩ hP hD hS (by decide) (by decide)
    · skip
      refine lv_sipush (v := nI 255) hx hb d_S_greatest_14 (by decide) ?_
      refine lv_goto (tgt := 22) hx hb d_S_greatest_17 (by decide) ?_
      exact hret _ _ _ _ _ _ _ _ d_S_greatest_22 ⟨by simp [grt, c3, c11], rfl⟩ hP hD hS (by decide) (by decide)
  · skip
    refine lv_iconst (v := nI 1) hx hb d_S_greatest_6 (by decide) ?_
    exact hret _ _ _ _ _ _ _ _ d_S_greatest_7 ⟨by simp [grt, c3], rfl⟩ hP hD hS (by decide) (by decide)

set_option maxRecDepth 100000 in
set_option maxHeartbeats 4000000 in
theorem c_giverOnChain (l : Launch) (D : va_G) (k : Nat → ClassId) (a r t : Nat → Nat) (th kd bs us sth mk dr : Nat → Int32) (M sM : Nat → Nat → Int32) (x : Int32) (p9 : Nat) (hp9 : p9 < 24) (sz : Nat) : bMI l y_S_giverOnChain (wY y_S_giverOnChain b_S_giverOnChain 5 (some .int)) (rm9 2 0 0) D (tsK k) (cxW k a r t th kd bs us sth mk dr M sM) sz [.ref (a 0), .int x, .int (nI p9)] (fun v w => v = gvF th bs M p9 64 x ∧ w = cxW k a r t th kd bs us sth mk dr M sM) 0 0 := by
  refine ent_i (cc := b_S_giverOnChain) (maxL := 5) (ty := .int) (by decide) (Nat.le_of_ble_eq_true rfl) (fun _ _ _ => rfl) ?_
  intro p e s m args below meth c A Q ls hx hb hml hown hts hsz hA hP hD hS hK hl hret
  refine lv_iload_n hx hb d_S_giverOnChain_0 rfl (lv_at hl 1 rfl) ?_
  refine lv_istore_n (lv' := [(3, .int x), (0, .ref (a 0)), (1, .int x), (2, .int (nI p9))]) hx hb d_S_giverOnChain_1 rfl hl (by decide) rfl (fun ls hl => ?_)
  refine lv_iconst (v := nI 0) hx hb d_S_giverOnChain_2 (by decide) ?_
  refine lv_istore (lv' := [(4, .int (nI 0)), (3, .int x), (0, .ref (a 0)), (1, .int x), (2, .int (nI p9))]) hx hb d_S_giverOnChain_3 hl (by decide) rfl (fun ls hl => ?_)
  have lp : ∀ (n9 : Nat) (i : Nat) (y : Int32) (ls : Array Slot) (H : Heap) (locs : List Loc), 64 - i < n9 → (i ≤ 64) → (gvF th bs M p9 64 x = gvF th bs M p9 (64 - i) y) → va_P D vwCl (cxW k a r t th kd bs us sth mk dr M sM) H → va_D A (cxW k a r t th kd bs us sth mk dr M sM) → va_S A s.heap H locs → lv_has ls 5 [(0, .ref (a 0)), (1, .int x), (2, .int (nI p9)), (3, .int y), (4, .int (nI i))] → W p l e (rm9 2 0 0) s m args below meth c H locs 0 0 Q (F0 m 5 ls []) := by
    intro n9
    induction n9 with
    | zero => intro i y ls H locs hm; omega
    | succ n9 ih =>
      intro i y ls H locs hm hi hf hP hD hS hl
      refine lv_iload hx hb d_S_giverOnChain_5 (lv_at hl 4 rfl) ?_
      refine lv_bipush (v := nI 64) hx hb d_S_giverOnChain_7 (by decide) ?_
      refine lv_icmp_ge (tgt := 53) hx hb d_S_giverOnChain_9 (by decide) (fun c9 => ?_) (fun c9 => ?_)
      · skip
        rw [nI_leI (by omega) (by omega)] at c9
        refine lv_iconst (v := -1) hx hb d_S_giverOnChain_53 (by decide) ?_
        exact hret _ _ _ _ _ _ _ _ d_S_giverOnChain_54 ⟨by rw [hf, gvF_end (by omega)], rfl⟩ hP hD hS (by decide) (by decide)
      · skip
        rw [nI_leI (by omega) (by omega)] at c9
        refine lv_aload_n hx hb d_S_giverOnChain_12 rfl (lv_at hl 0 rfl) ?_
        refine va_get (D := D) (ci := ciSS) (v := .ref (a 1)) (C := RS) (T := TS) (N := 7) hx hb hts inS hown hK.1 hP 0 rfl rfl 0 (by decide) (hts _ wd_46) (fun _ h9 => h9) rfl d_S_giverOnChain_13 ?_
        refine lv_iload_n hx hb d_S_giverOnChain_16 rfl (lv_at hl 3 rfl) ?_
        obtain ⟨wr, hwr⟩ := cx_S (k := k) (a := a) (r := r) (t := t) (kd := kd) (bs := bs) (us := us) (sth := sth) (mk := mk) (dr := dr) (M := M) (sM := sM)
        refine cal_i (wc := tbF k (a 1) (a 8) (a 9) r 64 th) (wr := wr) (va_runVN (As := [.int y]) (rest := []) ⟨hx, hb, hml, hown, hts⟩ (c_has l D k (a 1) (a 8) (a 9) r 64 (by decide) th y H.size) (cwN9 1 hts wd_75 (hK.2.1 (.methodLinkNest "StyleSheet" 64 ⟨"StyleSheet$Table", "has", "(I)Z"⟩ "StyleSheet") (by decide)) wd_74 ws_1 wd_2 (by decide) ⟨Nat.le_of_ble_eq_true rfl, Nat.le_of_ble_eq_true rfl⟩) (prV (q0 := 0) (ci := ciTb) hK hP hD (hwr _) rfl rfl) rfl rfl hl.1 rfl (lv_room (Nat.le_of_ble_eq_true rfl)) d_S_giverOnChain_17 ⟨by decide, by decide⟩) (hwr _) hP hD hS hA (fun r w1 H locs hw hpd hS => ?_)
        obtain ⟨rfl, rfl⟩ := hw
        obtain ⟨hP, hD⟩ := hpd (cxW k a r t th kd bs us sth mk dr M sM) (hwr _).symm
        refine lv_if_eq (tgt := 53) hx hb d_S_giverOnChain_20 (by decide) (fun c20 => ?_) (fun c20 => ?_)
        · skip
          have c20 := b_of0 c20
          refine lv_iconst (v := -1) hx hb d_S_giverOnChain_53 (by decide) ?_
          exact hret _ _ _ _ _ _ _ _ d_S_giverOnChain_54 ⟨by rw [hf, gvF_off c20], rfl⟩ hP hD hS (by decide) (by decide)
        · skip
          have c20 := b_of1 c20
          obtain ⟨j, hj, rfl, hjt⟩ := hsB_t (by decide) c20
          refine lv_aload_n hx hb d_S_giverOnChain_23 rfl (lv_at hl 0 rfl) ?_
          refine va_get (D := D) (ci := ciSS) (v := .ref (a 1)) (C := RS) (T := TS) (N := 7) hx hb hts inS hown hK.1 hP 0 rfl rfl 0 (by decide) (hts _ wd_46) (fun _ h9 => h9) rfl d_S_giverOnChain_24 ?_
          refine va_getN (D := D) (ci := ciTb) (v := .ref (a 9)) (C := RT) (T := TT) (N := 2) hx hb hts inT hown hK.1 hP 1 rfl rfl 1 (by decide) (va_Nw.use rfl (hK.2.1 (.fieldLinkNest "StyleSheet" 81 "StyleSheet$Table" "values" "[[I" "StyleSheet") (by decide))) (fun _ h9 => h9) rfl d_S_giverOnChain_27 ?_
          refine lv_iload_n hx hb d_S_giverOnChain_30 rfl (lv_at hl 3 rfl) ?_
          refine rw_aald hx hb hK.1 hP 9 2 rfl rfl (j := j) (y := r j) (by omega) (by decide) (gOut_at (by omega)) d_S_giverOnChain_31 ?_
          refine lv_iload_n hx hb d_S_giverOnChain_32 rfl (lv_at hl 2 rfl) ?_
          refine rw_iald hx hb hK.1 hP (12 + j) 0 (cx_rowS (by omega)) rfl (j := p9) (by omega) (by decide) d_S_giverOnChain_33 ?_
          refine lv_iconst (v := -1) hx hb d_S_giverOnChain_34 (by decide) ?_
          refine lv_icmp_eq (tgt := 40) hx hb d_S_giverOnChain_35 (by decide) (fun c35 => ?_) (fun c35 => ?_)
          · skip
            refine lv_aload_n hx hb d_S_giverOnChain_40 rfl (lv_at hl 0 rfl) ?_
            refine va_get (D := D) (ci := ciSS) (v := .ref (a 3)) (C := RS) (T := TS) (N := 7) hx hb hts inS hown hK.1 hP 0 rfl rfl 2 (by decide) (hts _ wd_48) (fun _ h9 => h9) rfl d_S_giverOnChain_41 ?_
            refine lv_iload_n hx hb d_S_giverOnChain_44 rfl (lv_at hl 3 rfl) ?_
            refine rw_iald hx hb hK.1 hP 3 0 rfl rfl (j := j) (by omega) (by decide) d_S_giverOnChain_45 ?_
            refine lv_istore_n (lv' := [(3, .int (bs j)), (0, .ref (a 0)), (1, .int x), (2, .int (nI p9)), (4, .int (nI i))]) hx hb d_S_giverOnChain_46 rfl hl (by decide) rfl (fun ls hl => ?_)
            refine lv_iinc (v := nI (i + 1)) (lv' := [(4, .int (nI (i + 1))), (3, .int (bs j)), (0, .ref (a 0)), (1, .int x), (2, .int (nI p9))]) hx hb d_S_giverOnChain_47 hl (k := 4) rfl (ii_1 _) (by decide) rfl (fun ls hl => ?_)
            refine lv_goto (tgt := 5) hx hb d_S_giverOnChain_50 (by decide) ?_
            exact ih (i + 1) (bs j) ls H locs (by omega) (by omega) (by rw [hf]; exact gvF_go (by omega) hj c20 c35) hP hD hS (lv_sub hl [2, 3, 4, 1, 0] rfl)
          · skip
            refine lv_iload_n hx hb d_S_giverOnChain_38 rfl (lv_at hl 3 rfl) ?_
            exact hret _ _ _ _ _ _ _ _ d_S_giverOnChain_39 ⟨by rw [hf, gvF_hit (by omega) hj c20 c35], rfl⟩ hP hD hS (by decide) (by decide)
  exact lp _ (0) (x) ls s.heap [] (Nat.lt_succ_self _) (by decide) rfl hP hD hS (lv_sub hl [2, 3, 4, 1, 0] rfl)

set_option maxRecDepth 100000 in
set_option maxHeartbeats 4000000 in
theorem c_chainLength (l : Launch) (D : va_G) (k : Nat → ClassId) (a r t : Nat → Nat) (th kd bs us sth mk dr : Nat → Int32) (M sM : Nat → Nat → Int32) (x : Int32) (sz : Nat) : bMI l y_S_chainLength (wY y_S_chainLength b_S_chainLength 4 (some .int)) (rm9 2 0 0) D (tsK k) (cxW k a r t th kd bs us sth mk dr M sM) sz [.ref (a 0), .int x] (fun v w => v = nI (chF th bs 64 x) ∧ w = cxW k a r t th kd bs us sth mk dr M sM) 0 0 := by
  refine ent_i (cc := b_S_chainLength) (maxL := 4) (ty := .int) (by decide) (Nat.le_of_ble_eq_true rfl) (fun _ _ _ => rfl) ?_
  intro p e s m args below meth c A Q ls hx hb hml hown hts hsz hA hP hD hS hK hl hret
  refine lv_iload_n hx hb d_S_chainLength_0 rfl (lv_at hl 1 rfl) ?_
  refine lv_istore_n (lv' := [(2, .int x), (0, .ref (a 0)), (1, .int x)]) hx hb d_S_chainLength_1 rfl hl (by decide) rfl (fun ls hl => ?_)
  refine lv_iconst (v := nI 0) hx hb d_S_chainLength_2 (by decide) ?_
  refine lv_istore_n (lv' := [(3, .int (nI 0)), (2, .int x), (0, .ref (a 0)), (1, .int x)]) hx hb d_S_chainLength_3 rfl hl (by decide) rfl (fun ls hl => ?_)
  have lp : ∀ (n9 : Nat) (i : Nat) (y : Int32) (ls : Array Slot) (H : Heap) (locs : List Loc), 64 - i < n9 → (i ≤ 64) → (chF th bs 64 x = i + chF th bs (64 - i) y) → va_P D vwCl (cxW k a r t th kd bs us sth mk dr M sM) H → va_D A (cxW k a r t th kd bs us sth mk dr M sM) → va_S A s.heap H locs → lv_has ls 4 [(0, .ref (a 0)), (1, .int x), (2, .int y), (3, .int (nI i))] → W p l e (rm9 2 0 0) s m args below meth c H locs 0 0 Q (F0 m 4 ls []) := by
    intro n9
    induction n9 with
    | zero => intro i y ls H locs hm; omega
    | succ n9 ih =>
      intro i y ls H locs hm hi hf hP hD hS hl
      refine lv_iload_n hx hb d_S_chainLength_4 rfl (lv_at hl 3 rfl) ?_
      refine lv_bipush (v := nI 64) hx hb d_S_chainLength_5 (by decide) ?_
      refine lv_icmp_ge (tgt := 34) hx hb d_S_chainLength_7 (by decide) (fun c7 => ?_) (fun c7 => ?_)
      · skip
        rw [nI_leI (by omega) (by omega)] at c7
        refine lv_iload_n hx hb d_S_chainLength_34 rfl (lv_at hl 3 rfl) ?_
        exact hret _ _ _ _ _ _ _ _ d_S_chainLength_35 ⟨by rw [hf, chF_end (by omega), Nat.add_zero], rfl⟩ hP hD hS (by decide) (by decide)
      · skip
        rw [nI_leI (by omega) (by omega)] at c7
        refine lv_aload_n hx hb d_S_chainLength_10 rfl (lv_at hl 0 rfl) ?_
        refine va_get (D := D) (ci := ciSS) (v := .ref (a 1)) (C := RS) (T := TS) (N := 7) hx hb hts inS hown hK.1 hP 0 rfl rfl 0 (by decide) (hts _ wd_46) (fun _ h9 => h9) rfl d_S_chainLength_11 ?_
        refine lv_iload_n hx hb d_S_chainLength_14 rfl (lv_at hl 2 rfl) ?_
        obtain ⟨wr, hwr⟩ := cx_S (k := k) (a := a) (r := r) (t := t) (kd := kd) (bs := bs) (us := us) (sth := sth) (mk := mk) (dr := dr) (M := M) (sM := sM)
        refine cal_i (wc := tbF k (a 1) (a 8) (a 9) r 64 th) (wr := wr) (va_runVN (As := [.int y]) (rest := []) ⟨hx, hb, hml, hown, hts⟩ (c_has l D k (a 1) (a 8) (a 9) r 64 (by decide) th y H.size) (cwN9 1 hts wd_75 (hK.2.1 (.methodLinkNest "StyleSheet" 64 ⟨"StyleSheet$Table", "has", "(I)Z"⟩ "StyleSheet") (by decide)) wd_74 ws_1 wd_2 (by decide) ⟨Nat.le_of_ble_eq_true rfl, Nat.le_of_ble_eq_true rfl⟩) (prV (q0 := 0) (ci := ciTb) hK hP hD (hwr _) rfl rfl) rfl rfl hl.1 rfl (lv_room (Nat.le_of_ble_eq_true rfl)) d_S_chainLength_15 ⟨by decide, by decide⟩) (hwr _) hP hD hS hA (fun r w1 H locs hw hpd hS => ?_)
        obtain ⟨rfl, rfl⟩ := hw
        obtain ⟨hP, hD⟩ := hpd (cxW k a r t th kd bs us sth mk dr M sM) (hwr _).symm
        refine lv_if_eq (tgt := 34) hx hb d_S_chainLength_18 (by decide) (fun c18 => ?_) (fun c18 => ?_)
        · skip
          have c18 := b_of0 c18
          refine lv_iload_n hx hb d_S_chainLength_34 rfl (lv_at hl 3 rfl) ?_
          exact hret _ _ _ _ _ _ _ _ d_S_chainLength_35 ⟨by rw [hf, chF_off c18, Nat.add_zero], rfl⟩ hP hD hS (by decide) (by decide)
        · skip
          have c18 := b_of1 c18
          obtain ⟨j, hj, rfl, hjt⟩ := hsB_t (by decide) c18
          refine lv_iinc (v := nI (i + 1)) (lv' := [(3, .int (nI (i + 1))), (0, .ref (a 0)), (1, .int x), (2, .int (nI j))]) hx hb d_S_chainLength_21 hl (k := 3) rfl (ii_1 _) (by decide) rfl (fun ls hl => ?_)
          refine lv_aload_n hx hb d_S_chainLength_24 rfl (lv_at hl 1 rfl) ?_
          refine va_get (D := D) (ci := ciSS) (v := .ref (a 3)) (C := RS) (T := TS) (N := 7) hx hb hts inS hown hK.1 hP 0 rfl rfl 2 (by decide) (hts _ wd_48) (fun _ h9 => h9) rfl d_S_chainLength_25 ?_
          refine lv_iload_n hx hb d_S_chainLength_28 rfl (lv_at hl 3 rfl) ?_
          refine rw_iald hx hb hK.1 hP 3 0 rfl rfl (j := j) (by omega) (by decide) d_S_chainLength_29 ?_
          refine lv_istore_n (lv' := [(2, .int (bs j)), (3, .int (nI (i + 1))), (0, .ref (a 0)), (1, .int x)]) hx hb d_S_chainLength_30 rfl hl (by decide) rfl (fun ls hl => ?_)
          refine lv_goto (tgt := 4) hx hb d_S_chainLength_31 (by decide) ?_
          exact ih (i + 1) (bs j) ls H locs (by omega) (by omega) (by rw [hf, chF_go (by omega) hj c18]; omega) hP hD hS (lv_sub hl [2, 3, 0, 1] rfl)
  exact lp _ (0) (x) ls s.heap [] (Nat.lt_succ_self _) (by decide) (Nat.zero_add _).symm hP hD hS (lv_sub hl [2, 3, 1, 0] rfl)

set_option maxRecDepth 100000 in
set_option maxHeartbeats 4000000 in
theorem c_isOnChain (l : Launch) (D : va_G) (k : Nat → ClassId) (a r t : Nat → Nat) (th kd bs us sth mk dr : Nat → Int32) (M sM : Nat → Nat → Int32) (z x : Int32) (sz : Nat) : bMI l y_S_isOnChain (wY y_S_isOnChain b_S_isOnChain 5 (some .boolean)) (rm9 2 0 0) D (tsK k) (cxW k a r t th kd bs us sth mk dr M sM) sz [.ref (a 0), .int z, .int x] (fun v w => v = (if ocF th bs z 64 x = true then nI 1 else nI 0) ∧ w = cxW k a r t th kd bs us sth mk dr M sM) 0 0 := by
  refine ent_i (cc := b_S_isOnChain) (maxL := 5) (ty := .boolean) (by decide) (Nat.le_of_ble_eq_true rfl) (fun v w h => nr_if h.1) ?_
  intro p e s m args below meth c A Q ls hx hb hml hown hts hsz hA hP hD hS hK hl hret
  refine lv_iload_n hx hb d_S_isOnChain_0 rfl (lv_at hl 2 rfl) ?_
  refine lv_istore_n (lv' := [(3, .int x), (0, .ref (a 0)), (1, .int z), (2, .int x)]) hx hb d_S_isOnChain_1 rfl hl (by decide) rfl (fun ls hl => ?_)
  refine lv_iconst (v := nI 0) hx hb d_S_isOnChain_2 (by decide) ?_
  refine lv_istore (lv' := [(4, .int (nI 0)), (3, .int x), (0, .ref (a 0)), (1, .int z), (2, .int x)]) hx hb d_S_isOnChain_3 hl (by decide) rfl (fun ls hl => ?_)
  have lp : ∀ (n9 : Nat) (i : Nat) (y : Int32) (ls : Array Slot) (H : Heap) (locs : List Loc), 64 - i < n9 → (i ≤ 64) → (ocF th bs z 64 x = ocF th bs z (64 - i) y) → va_P D vwCl (cxW k a r t th kd bs us sth mk dr M sM) H → va_D A (cxW k a r t th kd bs us sth mk dr M sM) → va_S A s.heap H locs → lv_has ls 5 [(0, .ref (a 0)), (1, .int z), (2, .int x), (3, .int y), (4, .int (nI i))] → W p l e (rm9 2 0 0) s m args below meth c H locs 0 0 Q (F0 m 5 ls []) := by
    intro n9
    induction n9 with
    | zero => intro i y ls H locs hm; omega
    | succ n9 ih =>
      intro i y ls H locs hm hi hf hP hD hS hl
      refine lv_iload hx hb d_S_isOnChain_5 (lv_at hl 4 rfl) ?_
      refine lv_bipush (v := nI 64) hx hb d_S_isOnChain_7 (by decide) ?_
      refine lv_icmp_ge (tgt := 43) hx hb d_S_isOnChain_9 (by decide) (fun c9 => ?_) (fun c9 => ?_)
      · skip
        rw [nI_leI (by omega) (by omega)] at c9
        refine lv_iconst (v := nI 0) hx hb d_S_isOnChain_43 (by decide) ?_
        exact hret _ _ _ _ _ _ _ _ d_S_isOnChain_44 ⟨if_f (by rw [hf, ocF_end (by omega)]), rfl⟩ hP hD hS (by decide) (by decide)
      · skip
        rw [nI_leI (by omega) (by omega)] at c9
        refine lv_aload_n hx hb d_S_isOnChain_12 rfl (lv_at hl 0 rfl) ?_
        refine va_get (D := D) (ci := ciSS) (v := .ref (a 1)) (C := RS) (T := TS) (N := 7) hx hb hts inS hown hK.1 hP 0 rfl rfl 0 (by decide) (hts _ wd_46) (fun _ h9 => h9) rfl d_S_isOnChain_13 ?_
        refine lv_iload_n hx hb d_S_isOnChain_16 rfl (lv_at hl 3 rfl) ?_
        obtain ⟨wr, hwr⟩ := cx_S (k := k) (a := a) (r := r) (t := t) (kd := kd) (bs := bs) (us := us) (sth := sth) (mk := mk) (dr := dr) (M := M) (sM := sM)
        refine cal_i (wc := tbF k (a 1) (a 8) (a 9) r 64 th) (wr := wr) (va_runVN (As := [.int y]) (rest := []) ⟨hx, hb, hml, hown, hts⟩ (c_has l D k (a 1) (a 8) (a 9) r 64 (by decide) th y H.size) (cwN9 1 hts wd_75 (hK.2.1 (.methodLinkNest "StyleSheet" 64 ⟨"StyleSheet$Table", "has", "(I)Z"⟩ "StyleSheet") (by decide)) wd_74 ws_1 wd_2 (by decide) ⟨Nat.le_of_ble_eq_true rfl, Nat.le_of_ble_eq_true rfl⟩) (prV (q0 := 0) (ci := ciTb) hK hP hD (hwr _) rfl rfl) rfl rfl hl.1 rfl (lv_room (Nat.le_of_ble_eq_true rfl)) d_S_isOnChain_17 ⟨by decide, by decide⟩) (hwr _) hP hD hS hA (fun r w1 H locs hw hpd hS => ?_)
        obtain ⟨rfl, rfl⟩ := hw
        obtain ⟨hP, hD⟩ := hpd (cxW k a r t th kd bs us sth mk dr M sM) (hwr _).symm
        refine lv_if_eq (tgt := 43) hx hb d_S_isOnChain_20 (by decide) (fun c20 => ?_) (fun c20 => ?_)
        · skip
          have c20 := b_of0 c20
          refine lv_iconst (v := nI 0) hx hb d_S_isOnChain_43 (by decide) ?_
          exact hret _ _ _ _ _ _ _ _ d_S_isOnChain_44 ⟨if_f (by rw [hf, ocF_off c20]), rfl⟩ hP hD hS (by decide) (by decide)
        · skip
          have c20 := b_of1 c20
          obtain ⟨j, hj, rfl, hjt⟩ := hsB_t (by decide) c20
          refine lv_iload_n hx hb d_S_isOnChain_23 rfl (lv_at hl 3 rfl) ?_
          refine lv_iload_n hx hb d_S_isOnChain_24 rfl (lv_at hl 1 rfl) ?_
          refine lv_icmp_ne (tgt := 30) hx hb d_S_isOnChain_25 (by decide) (fun c25 => ?_) (fun c25 => ?_)
          · skip
            refine lv_aload_n hx hb d_S_isOnChain_30 rfl (lv_at hl 0 rfl) ?_
            refine va_get (D := D) (ci := ciSS) (v := .ref (a 3)) (C := RS) (T := TS) (N := 7) hx hb hts inS hown hK.1 hP 0 rfl rfl 2 (by decide) (hts _ wd_48) (fun _ h9 => h9) rfl d_S_isOnChain_31 ?_
            refine lv_iload_n hx hb d_S_isOnChain_34 rfl (lv_at hl 3 rfl) ?_
            refine rw_iald hx hb hK.1 hP 3 0 rfl rfl (j := j) (by omega) (by decide) d_S_isOnChain_35 ?_
            refine lv_istore_n (lv' := [(3, .int (bs j)), (0, .ref (a 0)), (1, .int z), (2, .int x), (4, .int (nI i))]) hx hb d_S_isOnChain_36 rfl hl (by decide) rfl (fun ls hl => ?_)
            refine lv_iinc (v := nI (i + 1)) (lv' := [(4, .int (nI (i + 1))), (3, .int (bs j)), (0, .ref (a 0)), (1, .int z), (2, .int x)]) hx hb d_S_isOnChain_37 hl (k := 4) rfl (ii_1 _) (by decide) rfl (fun ls hl => ?_)
            refine lv_goto (tgt := 5) hx hb d_S_isOnChain_40 (by decide) ?_
            exact ih (i + 1) (bs j) ls H locs (by omega) (by omega) (by rw [hf]; exact ocF_go (by omega) hj c20 c25) hP hD hS (lv_sub hl [2, 3, 4, 1, 0] rfl)
          · skip
            refine lv_iconst (v := nI 1) hx hb d_S_isOnChain_28 (by decide) ?_
            exact hret _ _ _ _ _ _ _ _ d_S_isOnChain_29 ⟨if_t (by rw [hf]; exact ocF_hit (by omega) c20 c25), rfl⟩ hP hD hS (by decide) (by decide)
  exact lp _ (0) (x) ls s.heap [] (Nat.lt_succ_self _) (by decide) rfl hP hD hS (lv_sub hl [2, 3, 4, 1, 0] rfl)

set_option maxRecDepth 100000 in
set_option maxHeartbeats 4000000 in
theorem c_othersBuiltOn (l : Launch) (D : va_G) (k : Nat → ClassId) (a r t : Nat → Nat) (th kd bs us sth mk dr : Nat → Int32) (M sM : Nat → Nat → Int32) (x : Int32) (sz : Nat) : bMI l y_S_othersBuiltOn (wY y_S_othersBuiltOn b_S_othersBuiltOn 4 (some .int)) (rm9 3 0 0) D (tsK k) (cxW k a r t th kd bs us sth mk dr M sM) sz [.ref (a 0), .int x] (fun v w => v = nI (cnF (fun i => decide (¬ nI i = x) && ocF th bs x 64 (nI i)) 64) ∧ w = cxW k a r t th kd bs us sth mk dr M sM) 0 0 := by
  refine ent_i (cc := b_S_othersBuiltOn) (maxL := 4) (ty := .int) (by decide) (Nat.le_of_ble_eq_true rfl) (fun _ _ _ => rfl) ?_
  intro p e s m args below meth c A Q ls hx hb hml hown hts hsz hA hP hD hS hK hl hret
  refine lv_iconst (v := nI 0) hx hb d_S_othersBuiltOn_0 (by decide) ?_
  refine lv_istore_n (lv' := [(2, .int (nI 0)), (0, .ref (a 0)), (1, .int x)]) hx hb d_S_othersBuiltOn_1 rfl hl (by decide) rfl (fun ls hl => ?_)
  refine lv_iconst (v := nI 0) hx hb d_S_othersBuiltOn_2 (by decide) ?_
  refine lv_istore_n (lv' := [(3, .int (nI 0)), (2, .int (nI 0)), (0, .ref (a 0)), (1, .int x)]) hx hb d_S_othersBuiltOn_3 rfl hl (by decide) rfl (fun ls hl => ?_)
  have lp : ∀ (n9 : Nat) (i : Nat) (ls : Array Slot) (H : Heap) (locs : List Loc), 64 - i < n9 → (i ≤ 64) → va_P D vwCl (cxW k a r t th kd bs us sth mk dr M sM) H → va_D A (cxW k a r t th kd bs us sth mk dr M sM) → va_S A s.heap H locs → lv_has ls 4 [(0, .ref (a 0)), (1, .int x), (2, .int (nI (cnF (fun i => decide (¬ nI i = x) && ocF th bs x 64 (nI i)) i))), (3, .int (nI i))] → W p l e (rm9 3 0 0) s m args below meth c H locs 0 0 Q (F0 m 4 ls []) := by
    intro n9
    induction n9 with
    | zero => intro i ls H locs hm; omega
    | succ n9 ih =>
      intro i ls H locs hm hi hP hD hS hl
      refine lv_iload_n hx hb d_S_othersBuiltOn_4 rfl (lv_at hl 3 rfl) ?_
      refine lv_bipush (v := nI 64) hx hb d_S_othersBuiltOn_5 (by decide) ?_
      refine lv_icmp_ge (tgt := 33) hx hb d_S_othersBuiltOn_7 (by decide) (fun c7 => ?_) (fun c7 => ?_)
      · skip
        rw [nI_leI (by omega) (by omega)] at c7
        refine lv_iload_n hx hb d_S_othersBuiltOn_33 rfl (lv_at hl 2 rfl) ?_
        exact hret _ _ _ _ _ _ _ _ d_S_othersBuiltOn_34 ⟨by rw [show i = 64 by omega], rfl⟩ hP hD hS (by decide) (by decide)
      · skip
        rw [nI_leI (by omega) (by omega)] at c7
        refine lv_iload_n hx hb d_S_othersBuiltOn_10 rfl (lv_at hl 3 rfl) ?_
        refine lv_iload_n hx hb d_S_othersBuiltOn_11 rfl (lv_at hl 1 rfl) ?_
        refine lv_icmp_eq (tgt := 27) hx hb d_S_othersBuiltOn_12 (by decide) (fun c12 => ?_) (fun c12 => ?_)
        · skip
          rw [cnF_f (f := (fun i => decide (¬ nI i = x) && ocF th bs x 64 (nI i))) (by simp [c12])] at hl
          refine lv_iinc (v := nI (i + 1)) (lv' := [(3, .int (nI (i + 1))), (0, .ref (a 0)), (1, .int x), (2, .int (nI (cnF (fun i => decide (¬ nI i = x) && ocF th bs x 64 (nI i)) (i + 1))))]) hx hb d_S_othersBuiltOn_27 hl (k := 3) rfl (ii_1 _) (by decide) rfl (fun ls hl => ?_)
          refine lv_goto (tgt := 4) hx hb d_S_othersBuiltOn_30 (by decide) ?_
          exact ih (i + 1) ls H locs (by omega) (by omega) hP hD hS (lv_sub hl [1, 2, 3, 0] rfl)
        · skip
          refine lv_aload_n hx hb d_S_othersBuiltOn_15 rfl (lv_at hl 0 rfl) ?_
          refine lv_iload_n hx hb d_S_othersBuiltOn_16 rfl (lv_at hl 1 rfl) ?_
          refine lv_iload_n hx hb d_S_othersBuiltOn_17 rfl (lv_at hl 3 rfl) ?_
          refine cal_i (wc := cxW k a r t th kd bs us sth mk dr M sM) (wr := []) (va_runV (As := [.int x, .int (nI i)]) (rest := []) ⟨hx, hb, hml, hown, hts⟩ (c_isOnChain l D k a r t th kd bs us sth mk dr M sM x (nI i) H.size) (cwV9 2 hts wd_252 wd_249 wd_251 ws_12 wd_1 (by decide) ⟨Nat.le_of_ble_eq_true rfl, Nat.le_of_ble_eq_true rfl⟩) (prV (q0 := 0) (ci := ciSS) hK hP hD (pm_nil' _) rfl rfl) rfl rfl hl.1 rfl (lv_room (Nat.le_of_ble_eq_true rfl)) d_S_othersBuiltOn_18 ⟨by decide, by decide⟩) (pm_nil' _) hP hD hS hA (fun r w1 H locs hw hpd hS => ?_)
          obtain ⟨rfl, rfl⟩ := hw
          obtain ⟨hP, hD⟩ := hpd (cxW k a r t th kd bs us sth mk dr M sM) (pm_nil _)
          refine lv_if_eq (tgt := 27) hx hb d_S_othersBuiltOn_21 (by decide) (fun c21 => ?_) (fun c21 => ?_)
          · skip
            have c21 := b_of0 c21
            rw [cnF_f (f := (fun i => decide (¬ nI i = x) && ocF th bs x 64 (nI i))) (by simp [c21])] at hl
            refine lv_iinc (v := nI (i + 1)) (lv' := [(3, .int (nI (i + 1))), (0, .ref (a 0)), (1, .int x), (2, .int (nI (cnF (fun i => decide (¬ nI i = x) && ocF th bs x 64 (nI i)) (i + 1))))]) hx hb d_S_othersBuiltOn_27 hl (k := 3) rfl (ii_1 _) (by decide) rfl (fun ls hl => ?_)
            refine lv_goto (tgt := 4) hx hb d_S_othersBuiltOn_30 (by decide) ?_
            exact ih (i + 1) ls H locs (by omega) (by omega) hP hD hS (lv_sub hl [1, 2, 3, 0] rfl)
          · skip
            have c21 := b_of1 c21
            refine lv_iinc (v := nI ((cnF (fun i => decide (¬ nI i = x) && ocF th bs x 64 (nI i)) i) + 1)) (lv' := [(2, .int (nI ((cnF (fun i => decide (¬ nI i = x) && ocF th bs x 64 (nI i)) i) + 1))), (0, .ref (a 0)), (1, .int x), (3, .int (nI i))]) hx hb d_S_othersBuiltOn_24 hl (k := 2) rfl (ii_1 _) (by decide) rfl (fun ls hl => ?_)
            rw [cnF_t (f := (fun i => decide (¬ nI i = x) && ocF th bs x 64 (nI i))) (by simp [c12, c21])] at hl
            refine lv_iinc (v := nI (i + 1)) (lv' := [(3, .int (nI (i + 1))), (2, .int (nI (cnF (fun i => decide (¬ nI i = x) && ocF th bs x 64 (nI i)) (i + 1)))), (0, .ref (a 0)), (1, .int x)]) hx hb d_S_othersBuiltOn_27 hl (k := 3) rfl (ii_1 _) (by decide) rfl (fun ls hl => ?_)
            refine lv_goto (tgt := 4) hx hb d_S_othersBuiltOn_30 (by decide) ?_
            exact ih (i + 1) ls H locs (by omega) (by omega) hP hD hS (lv_sub hl [2, 3, 1, 0] rfl)
  exact lp _ (0) ls s.heap [] (Nat.lt_succ_self _) (by decide) hP hD hS (lv_sub hl [2, 3, 1, 0] rfl)

set_option maxRecDepth 100000 in
set_option maxHeartbeats 4000000 in
theorem c_longestChain (l : Launch) (D : va_G) (k : Nat → ClassId) (a r t : Nat → Nat) (th kd bs us sth mk dr : Nat → Int32) (M sM : Nat → Nat → Int32) (sz : Nat) : bMI l y_S_longestChain (wY y_S_longestChain b_S_longestChain 3 (some .int)) (rm9 3 0 0) D (tsK k) (cxW k a r t th kd bs us sth mk dr M sM) sz [.ref (a 0)] (fun v w => v = nI (mxF (fun i => chF th bs 64 (nI i)) 64) ∧ w = cxW k a r t th kd bs us sth mk dr M sM) 0 0 := by
  refine ent_i (cc := b_S_longestChain) (maxL := 3) (ty := .int) (by decide) (Nat.le_of_ble_eq_true rfl) (fun _ _ _ => rfl) ?_
  intro p e s m args below meth c A Q ls hx hb hml hown hts hsz hA hP hD hS hK hl hret
  refine lv_iconst (v := nI 0) hx hb d_S_longestChain_0 (by decide) ?_
  refine lv_istore_n (lv' := [(1, .int (nI 0)), (0, .ref (a 0))]) hx hb d_S_longestChain_1 rfl hl (by decide) rfl (fun ls hl => ?_)
  refine lv_iconst (v := nI 0) hx hb d_S_longestChain_2 (by decide) ?_
  refine lv_istore_n (lv' := [(2, .int (nI 0)), (1, .int (nI 0)), (0, .ref (a 0))]) hx hb d_S_longestChain_3 rfl hl (by decide) rfl (fun ls hl => ?_)
  have lp : ∀ (n9 : Nat) (i : Nat) (ls : Array Slot) (H : Heap) (locs : List Loc), 64 - i < n9 → (i ≤ 64) → va_P D vwCl (cxW k a r t th kd bs us sth mk dr M sM) H → va_D A (cxW k a r t th kd bs us sth mk dr M sM) → va_S A s.heap H locs → lv_has ls 3 [(0, .ref (a 0)), (1, .int (nI (mxF (fun i => chF th bs 64 (nI i)) i))), (2, .int (nI i))] → W p l e (rm9 3 0 0) s m args below meth c H locs 0 0 Q (F0 m 4 ls []) := by
    intro n9
    induction n9 with
    | zero => intro i ls H locs hm; omega
    | succ n9 ih =>
      intro i ls H locs hm hi hP hD hS hl
      refine lv_iload_n hx hb d_S_longestChain_4 rfl (lv_at hl 2 rfl) ?_
      refine lv_bipush (v := nI 64) hx hb d_S_longestChain_5 (by decide) ?_
      refine lv_icmp_ge (tgt := 26) hx hb d_S_longestChain_7 (by decide) (fun c7 => ?_) (fun c7 => ?_)
      · skip
        rw [nI_leI (by omega) (by omega)] at c7
        refine lv_iload_n hx hb d_S_longestChain_26 rfl (lv_at hl 1 rfl) ?_
        exact hret _ _ _ _ _ _ _ _ d_S_longestChain_27 ⟨by rw [show i = 64 by omega], rfl⟩ hP hD hS (by decide) (by decide)
      · skip
        rw [nI_leI (by omega) (by omega)] at c7
        refine lv_iload_n hx hb d_S_longestChain_10 rfl (lv_at hl 1 rfl) ?_
        refine lv_aload_n hx hb d_S_longestChain_11 rfl (lv_at hl 0 rfl) ?_
        refine lv_iload_n hx hb d_S_longestChain_12 rfl (lv_at hl 2 rfl) ?_
        refine cal_i (wc := cxW k a r t th kd bs us sth mk dr M sM) (wr := []) (va_runV (As := [.int (nI i)]) (rest := [.int (nI (mxF (fun i => chF th bs 64 (nI i)) i))]) ⟨hx, hb, hml, hown, hts⟩ (c_chainLength l D k a r t th kd bs us sth mk dr M sM (nI i) H.size) (cwV9 1 hts wd_108 wd_105 wd_107 ws_7 wd_1 (by decide) ⟨Nat.le_of_ble_eq_true rfl, Nat.le_of_ble_eq_true rfl⟩) (prV (q0 := 0) (ci := ciSS) hK hP hD (pm_nil' _) rfl rfl) rfl rfl hl.1 rfl (lv_room (Nat.le_of_ble_eq_true rfl)) d_S_longestChain_13 ⟨by decide, by decide⟩) (pm_nil' _) hP hD hS hA (fun r w1 H locs hw hpd hS => ?_)
        obtain ⟨rfl, rfl⟩ := hw
        obtain ⟨hP, hD⟩ := hpd (cxW k a r t th kd bs us sth mk dr M sM) (pm_nil _)
        refine va_mmax hx hb (hml.trans hl.1.symm) hown (hts _ wd_109) (hts _ wd_110) (hts _ wd_12) (hts _ wd_111) (Nat.le_of_ble_eq_true rfl) (Nat.le_of_ble_eq_true rfl) (by decide) (by decide) d_S_longestChain_16 ?_
        rw [mx_nI (by have := mxF_le (f := (fun i => chF th bs 64 (nI i))) (b := 64) (fun i => chF_le 64 _) i; omega) (by have := chF_le (th := th) (bs := bs) 64 (nI i); omega)]
        refine lv_istore_n (lv' := [(1, .int (nI (mxF (fun i => chF th bs 64 (nI i)) (i + 1)))), (0, .ref (a 0)), (2, .int (nI i))]) hx hb d_S_longestChain_19 rfl hl (by decide) rfl (fun ls hl => ?_)
        refine lv_iinc (v := nI (i + 1)) (lv' := [(2, .int (nI (i + 1))), (1, .int (nI (mxF (fun i => chF th bs 64 (nI i)) (i + 1)))), (0, .ref (a 0))]) hx hb d_S_longestChain_20 hl (k := 2) rfl (ii_1 _) (by decide) rfl (fun ls hl => ?_)
        refine lv_goto (tgt := 4) hx hb d_S_longestChain_23 (by decide) ?_
        exact ih (i + 1) ls H locs (by omega) (by omega) hP hD hS (lv_sub hl [2, 1, 0] rfl)
  exact lp _ (0) ls s.heap [] (Nat.lt_succ_self _) (by decide) hP hD hS (lv_sub hl [2, 1, 0] rfl)

set_option maxRecDepth 100000 in
set_option maxHeartbeats 4000000 in
theorem c_valueByChain (l : Launch) (D : va_G) (k : Nat → ClassId) (a r t : Nat → Nat) (th kd bs us sth mk dr : Nat → Int32) (M sM : Nat → Nat → Int32) (x : Int32) (p9 : Nat) (hp9 : p9 < 24) (sz : Nat) : bMI l y_S_valueByChain (wY y_S_valueByChain b_S_valueByChain 4 (some .int)) (rm9 3 0 0) D (tsK k) (cxW k a r t th kd bs us sth mk dr M sM) sz [.ref (a 0), .int x, .int (nI p9)] (fun v w => v = vbF th bs M x p9 ∧ w = cxW k a r t th kd bs us sth mk dr M sM) 0 0 := by
  refine ent_i (cc := b_S_valueByChain) (maxL := 4) (ty := .int) (by decide) (Nat.le_of_ble_eq_true rfl) (fun _ _ _ => rfl) ?_
  intro p e s m args below meth c A Q ls hx hb hml hown hts hsz hA hP hD hS hK hl hret
  refine lv_aload_n hx hb d_S_valueByChain_0 rfl (lv_at hl 0 rfl) ?_
  refine lv_iload_n hx hb d_S_valueByChain_1 rfl (lv_at hl 1 rfl) ?_
  refine lv_iload_n hx hb d_S_valueByChain_2 rfl (lv_at hl 2 rfl) ?_
  refine cal_i (wc := cxW k a r t th kd bs us sth mk dr M sM) (wr := []) (va_runV (As := [.int x, .int (nI p9)]) (rest := []) ⟨hx, hb, hml, hown, hts⟩ (c_giverOnChain l D k a r t th kd bs us sth mk dr M sM x p9 hp9 s.heap.size) (cwV9 2 hts wd_289 wd_286 wd_288 ws_14 wd_1 (by decide) ⟨Nat.le_of_ble_eq_true rfl, Nat.le_of_ble_eq_true rfl⟩) (prV (q0 := 0) (ci := ciSS) hK hP hD (pm_nil' _) rfl rfl) rfl rfl hl.1 rfl (lv_room (Nat.le_of_ble_eq_true rfl)) d_S_valueByChain_3 ⟨by decide, by decide⟩) (pm_nil' _) hP hD hS hA (fun r w1 H locs hw hpd hS => ?_)
  obtain ⟨rfl, rfl⟩ := hw
  obtain ⟨hP, hD⟩ := hpd (cxW k a r t th kd bs us sth mk dr M sM) (pm_nil _)
  refine lv_istore_n (lv' := [(3, .int (gvF th bs M p9 64 x)), (0, .ref (a 0)), (1, .int x), (2, .int (nI p9))]) hx hb d_S_valueByChain_6 rfl hl (by decide) rfl (fun ls hl => ?_)
  refine lv_iload_n hx hb d_S_valueByChain_7 rfl (lv_at hl 0 rfl) ?_
  refine lv_iconst (v := -1) hx hb d_S_valueByChain_8 (by decide) ?_
  refine lv_icmp_ne (tgt := 16) hx hb d_S_valueByChain_9 (by decide) (fun c9 => ?_) (fun c9 => ?_)
  · skip
    rcases gvF_in (th := th) (bs := bs) (M := M) (p := p9) 64 x with hg | ⟨j, hj, hg, -, -⟩
    · exact absurd hg c9
    rw [hg] at hl
    refine lv_aload_n hx hb d_S_valueByChain_16 rfl (lv_at hl 1 rfl) ?_
    refine va_get (D := D) (ci := ciSS) (v := .ref (a 1)) (C := RS) (T := TS) (N := 7) hx hb hts inS hown hK.1 hP 0 rfl rfl 0 (by decide) (hts _ wd_46) (fun _ h9 => h9) rfl d_S_valueByChain_17 ?_
    refine va_getN (D := D) (ci := ciTb) (v := .ref (a 9)) (C := RT) (T := TT) (N := 2) hx hb hts inT hown hK.1 hP 1 rfl rfl 1 (by decide) (va_Nw.use rfl (hK.2.1 (.fieldLinkNest "StyleSheet" 81 "StyleSheet$Table" "values" "[[I" "StyleSheet") (by decide))) (fun _ h9 => h9) rfl d_S_valueByChain_20 ?_
    refine lv_iload_n hx hb d_S_valueByChain_23 rfl (lv_at hl 0 rfl) ?_
    refine rw_aald hx hb hK.1 hP 9 2 rfl rfl (j := j) (y := r j) (by omega) (by decide) (gOut_at (by omega)) d_S_valueByChain_24 ?_
    refine lv_iload_n hx hb d_S_valueByChain_25 rfl (lv_at hl 3 rfl) ?_
    refine rw_iald hx hb hK.1 hP (12 + j) 0 (cx_rowS (by omega)) rfl (j := p9) (by omega) (by decide) d_S_valueByChain_26 ?_
    exact hret _ _ _ _ _ _ _ _ d_S_valueByChain_27 ⟨by simp only [vbF]; rw [if_neg c9, hg, nI_clamp (by omega)], rfl⟩ hP hD hS (by decide) (by decide)
  · skip
    refine lv_iconst (v := -1) hx hb d_S_valueByChain_12 (by decide) ?_
    refine lv_goto (tgt := 27) hx hb d_S_valueByChain_13 (by decide) ?_
    exact hret _ _ _ _ _ _ _ _ d_S_valueByChain_27 ⟨by simp [vbF, c9], rfl⟩ hP hD hS (by decide) (by decide)

set_option maxRecDepth 100000 in
set_option maxHeartbeats 4000000 in
theorem c_resolvedByStyles (l : Launch) (D : va_G) (k : Nat → ClassId) (a r t : Nat → Nat) (th kd bs us sth mk dr : Nat → Int32) (M sM : Nat → Nat → Int32) (c9 q9 : Int32) (p9 : Nat) (hp9 : p9 < 24) (sz : Nat) : bMI l y_S_resolvedByStyles (wY y_S_resolvedByStyles b_S_resolvedByStyles 6 (some .int)) (rm9 4 0 0) D (tsK k) (cxW k a r t th kd bs us sth mk dr M sM) sz [.ref (a 0), .int c9, .int q9, .int (nI p9)] (fun v w => v = rbF th bs us M c9 q9 p9 ∧ w = cxW k a r t th kd bs us sth mk dr M sM) 0 0 := by
  refine ent_i (cc := b_S_resolvedByStyles) (maxL := 6) (ty := .int) (by decide) (Nat.le_of_ble_eq_true rfl) (fun _ _ _ => rfl) ?_
  intro p e s m args below meth c A Q ls hx hb hml hown hts hsz hA hP hD hS hK hl hret
  refine lv_aload_n hx hb d_S_resolvedByStyles_0 rfl (lv_at hl 0 rfl) ?_
  refine lv_iload_n hx hb d_S_resolvedByStyles_1 rfl (lv_at hl 1 rfl) ?_
  refine lv_iload_n hx hb d_S_resolvedByStyles_2 rfl (lv_at hl 3 rfl) ?_
  refine cal_i (wc := cxW k a r t th kd bs us sth mk dr M sM) (wr := []) (va_runV (As := [.int c9, .int (nI p9)]) (rest := []) ⟨hx, hb, hml, hown, hts⟩ (c_valueByChain l D k a r t th kd bs us sth mk dr M sM c9 p9 hp9 s.heap.size) (cwV9 2 hts wd_285 wd_282 wd_284 ws_13 wd_1 (by decide) ⟨Nat.le_of_ble_eq_true rfl, Nat.le_of_ble_eq_true rfl⟩) (prV (q0 := 0) (ci := ciSS) hK hP hD (pm_nil' _) rfl rfl) rfl rfl hl.1 rfl (lv_room (Nat.le_of_ble_eq_true rfl)) d_S_resolvedByStyles_3 ⟨by decide, by decide⟩) (pm_nil' _) hP hD hS hA (fun r w1 H locs hw hpd hS => ?_)
  obtain ⟨rfl, rfl⟩ := hw
  obtain ⟨hP, hD⟩ := hpd (cxW k a r t th kd bs us sth mk dr M sM) (pm_nil _)
  refine lv_istore (lv' := [(4, .int (vbF th bs M c9 p9)), (0, .ref (a 0)), (1, .int c9), (2, .int q9), (3, .int (nI p9))]) hx hb d_S_resolvedByStyles_6 hl (by decide) rfl (fun ls hl => ?_)
  refine lv_iload hx hb d_S_resolvedByStyles_8 (lv_at hl 0 rfl) ?_
  refine lv_iconst (v := -1) hx hb d_S_resolvedByStyles_10 (by decide) ?_
  refine lv_icmp_eq (tgt := 17) hx hb d_S_resolvedByStyles_11 (by decide) (fun c11 => ?_) (fun c11 => ?_)
  · skip
    refine lv_aload_n hx hb d_S_resolvedByStyles_17 rfl (lv_at hl 1 rfl) ?_
    refine lv_iload_n hx hb d_S_resolvedByStyles_18 rfl (lv_at hl 3 rfl) ?_
    refine lv_iload_n hx hb d_S_resolvedByStyles_19 rfl (lv_at hl 4 rfl) ?_
    refine cal_i (wc := cxW k a r t th kd bs us sth mk dr M sM) (wr := []) (va_runV (As := [.int q9, .int (nI p9)]) (rest := []) ⟨hx, hb, hml, hown, hts⟩ (c_valueByChain l D k a r t th kd bs us sth mk dr M sM q9 p9 hp9 H.size) (cwV9 2 hts wd_285 wd_282 wd_284 ws_13 wd_1 (by decide) ⟨Nat.le_of_ble_eq_true rfl, Nat.le_of_ble_eq_true rfl⟩) (prV (q0 := 0) (ci := ciSS) hK hP hD (pm_nil' _) rfl rfl) rfl rfl hl.1 rfl (lv_room (Nat.le_of_ble_eq_true rfl)) d_S_resolvedByStyles_20 ⟨by decide, by decide⟩) (pm_nil' _) hP hD hS hA (fun r w1 H locs hw hpd hS => ?_)
    obtain ⟨rfl, rfl⟩ := hw
    obtain ⟨hP, hD⟩ := hpd (cxW k a r t th kd bs us sth mk dr M sM) (pm_nil _)
    refine lv_istore (lv' := [(5, .int (vbF th bs M q9 p9)), (4, .int (vbF th bs M c9 p9)), (0, .ref (a 0)), (1, .int c9), (2, .int q9), (3, .int (nI p9))]) hx hb d_S_resolvedByStyles_23 hl (by decide) rfl (fun ls hl => ?_)
    refine lv_iload hx hb d_S_resolvedByStyles_25 (lv_at hl 0 rfl) ?_
    refine lv_iconst (v := -1) hx hb d_S_resolvedByStyles_27 (by decide) ?_
    refine lv_icmp_eq (tgt := 36) hx hb d_S_resolvedByStyles_28 (by decide) (fun c28 => ?_) (fun c28 => ?_)
    · skip
      refine lv_aload_n hx hb d_S_resolvedByStyles_36 rfl (lv_at hl 2 rfl) ?_
      refine va_get (D := D) (ci := ciSS) (v := .ref (a 4)) (C := RS) (T := TS) (N := 7) hx hb hts inS hown hK.1 hP 0 rfl rfl 3 (by decide) (hts _ wd_49) (fun _ h9 => h9) rfl d_S_resolvedByStyles_37 ?_
      refine lv_iload_n hx hb d_S_resolvedByStyles_40 rfl (lv_at hl 5 rfl) ?_
      refine rw_iald hx hb hK.1 hP 4 0 rfl rfl (j := p9) (by omega) (by decide) d_S_resolvedByStyles_41 ?_
      exact hret _ _ _ _ _ _ _ _ d_S_resolvedByStyles_42 ⟨by simp [rbF, c11, c28], rfl⟩ hP hD hS (by decide) (by decide)
    · skip
      refine lv_iload hx hb d_S_resolvedByStyles_31 (lv_at hl 0 rfl) ?_
      refine lv_goto (tgt := 42) hx hb d_S_resolvedByStyles_33 (by decide) ?_
      exact hret _ _ _ _ _ _ _ _ d_S_resolvedByStyles_42 ⟨by simp [rbF, c11, c28], rfl⟩ hP hD hS (by decide) (by decide)
  · skip
    refine lv_iload hx hb d_S_resolvedByStyles_14 (lv_at hl 0 rfl) ?_
    exact hret _ _ _ _ _ _ _ _ d_S_resolvedByStyles_16 ⟨by simp [rbF, c11], rfl⟩ hP hD hS (by decide) (by decide)

set_option maxRecDepth 100000 in
set_option maxHeartbeats 4000000 in
theorem c_resolved (l : Launch) (D : va_G) (k : Nat → ClassId) (a r t : Nat → Nat) (th kd bs us sth mk dr : Nat → Int32) (M sM : Nat → Nat → Int32) (j : Nat) (hj : j < 256) (c9 q9 : Int32) (p9 : Nat) (hp9 : p9 < 24) (sz : Nat) : bMI l y_S_resolved (wY y_S_resolved b_S_resolved 6 (some .int)) (rm9 5 0 0) D (tsK k) (cxW k a r t th kd bs us sth mk dr M sM) sz [.ref (a 0), .int (nI j), .int c9, .int q9, .int (nI p9)] (fun v w => v = rsF th bs us M sM j c9 q9 p9 ∧ w = cxW k a r t th kd bs us sth mk dr M sM) 0 0 := by
  refine ent_i (cc := b_S_resolved) (maxL := 6) (ty := .int) (by decide) (Nat.le_of_ble_eq_true rfl) (fun _ _ _ => rfl) ?_
  intro p e s m args below meth c A Q ls hx hb hml hown hts hsz hA hP hD hS hK hl hret
  refine lv_aload_n hx hb d_S_resolved_0 rfl (lv_at hl 0 rfl) ?_
  refine va_get (D := D) (ci := ciSS) (v := .ref (a 5)) (C := RS) (T := TS) (N := 7) hx hb hts inS hown hK.1 hP 0 rfl rfl 4 (by decide) (hts _ wd_50) (fun _ h9 => h9) rfl d_S_resolved_1 ?_
  refine va_getN (D := D) (ci := ciTb) (v := .ref (a 11)) (C := RT) (T := TT) (N := 2) hx hb hts inT hown hK.1 hP 5 rfl rfl 1 (by decide) (va_Nw.use rfl (hK.2.1 (.fieldLinkNest "StyleSheet" 81 "StyleSheet$Table" "values" "[[I" "StyleSheet") (by decide))) (fun _ h9 => h9) rfl d_S_resolved_4 ?_
  refine lv_iload_n hx hb d_S_resolved_7 rfl (lv_at hl 1 rfl) ?_
  refine rw_aald hx hb hK.1 hP 11 2 rfl rfl (j := j) (y := t j) (by omega) (by decide) (gOut_at (by omega)) d_S_resolved_8 ?_
  refine lv_iload hx hb d_S_resolved_9 (lv_at hl 4 rfl) ?_
  refine rw_iald hx hb hK.1 hP (76 + j) 0 (cx_rowT (by omega)) rfl (j := p9) (by omega) (by decide) d_S_resolved_11 ?_
  refine lv_istore (lv' := [(5, .int ((sM j) p9)), (0, .ref (a 0)), (1, .int (nI j)), (2, .int c9), (3, .int q9), (4, .int (nI p9))]) hx hb d_S_resolved_12 hl (by decide) rfl (fun ls hl => ?_)
  refine lv_iload hx hb d_S_resolved_14 (lv_at hl 0 rfl) ?_
  refine lv_iconst (v := -1) hx hb d_S_resolved_16 (by decide) ?_
  refine lv_icmp_eq (tgt := 25) hx hb d_S_resolved_17 (by decide) (fun c17 => ?_) (fun c17 => ?_)
  · skip
    refine lv_aload_n hx hb d_S_resolved_25 rfl (lv_at hl 1 rfl) ?_
    refine lv_iload_n hx hb d_S_resolved_26 rfl (lv_at hl 3 rfl) ?_
    refine lv_iload_n hx hb d_S_resolved_27 rfl (lv_at hl 4 rfl) ?_
    refine lv_iload hx hb d_S_resolved_28 (lv_at hl 5 rfl) ?_
    refine cal_i (wc := cxW k a r t th kd bs us sth mk dr M sM) (wr := []) (va_runV (As := [.int c9, .int q9, .int (nI p9)]) (rest := []) ⟨hx, hb, hml, hown, hts⟩ (c_resolvedByStyles l D k a r t th kd bs us sth mk dr M sM c9 q9 p9 hp9 s.heap.size) (cwV9 3 hts wd_360 wd_357 wd_359 ws_19 wd_1 (by decide) ⟨Nat.le_of_ble_eq_true rfl, Nat.le_of_ble_eq_true rfl⟩) (prV (q0 := 0) (ci := ciSS) hK hP hD (pm_nil' _) rfl rfl) rfl rfl hl.1 rfl (lv_room (Nat.le_of_ble_eq_true rfl)) d_S_resolved_30 ⟨by decide, by decide⟩) (pm_nil' _) hP hD hS hA (fun r w1 H locs hw hpd hS => ?_)
    obtain ⟨rfl, rfl⟩ := hw
    obtain ⟨hP, hD⟩ := hpd (cxW k a r t th kd bs us sth mk dr M sM) (pm_nil _)
    exact hret _ _ _ _ _ _ _ _ d_S_resolved_33 ⟨by simp [rsF, c17], rfl⟩ hP hD hS (by decide) (by decide)
  · skip
    refine lv_iload hx hb d_S_resolved_20 (lv_at hl 0 rfl) ?_
    refine lv_goto (tgt := 33) hx hb d_S_resolved_22 (by decide) ?_
    exact hret _ _ _ _ _ _ _ _ d_S_resolved_33 ⟨by simp [rsF, c17], rfl⟩ hP hD hS (by decide) (by decide)
end
section
/-! THROWING A CLASS WHOSE (String) CONSTRUCTOR HAS ANOTHER LINK TO THE ONE ABOVE (NoSuchElementException on this JDK: entry 13, not 7): the library's ctorThrowS and the kit's vx_throwS, followed for the first link ix with the bytes rx; only the thrown cell's class and kind are kept -/
def xtA (own : String) (ic : Nat) (X : String) (ix : Nat) (rx : ByteArray) (Y : String) (r : List String) : List Cond :=
  Bundle.throwableAtoms ++ Bundle.throwableSAtoms ++ (Bundle.passSAtoms X Y ix rx ++ Bundle.chainSAtoms Y r) ++
  [.methodLink own ic (Bundle.initS X), .instantiable X 6, .castable X X, .selects X Bundle.tFill0 Bundle.tFill0, .selects X Bundle.tFill Bundle.tFill,
   .lays X Bundle.tN "cause" "Ljava/lang/Throwable;", .lays X Bundle.tN "stackTrace" Bundle.steD, .lays X Bundle.tN "suppressedExceptions" Bundle.listD, .lays X Bundle.tN "detailMessage" "Ljava/lang/String;",
   .isRef (.static Bundle.tN "UNASSIGNED_STACK" Bundle.steD), .isRef (.static Bundle.tN "SUPPRESSED_SENTINEL" Bundle.listD),
   .fieldLink Bundle.tN 198 Bundle.tN "backtrace" "Ljava/lang/Object;", .lays Bundle.tN Bundle.tN "backtrace" "Ljava/lang/Object;", .lays X Bundle.tN "backtrace" "Ljava/lang/Object;"]
def xtS (own : String) (ic : Nat) (X : String) (ix : Nat) (rx : ByteArray) (Y : String) (r : List String) : List Cond := (xtA own ic X ix rx Y r).filter vx_no
section XT
variable {p : Program} {l : Launch} {e : Env} {R : Room} {s : State} {m₀ : MethodId} {args : Array Value} {below : List Frame} {meth : Method} {c : Code} {T9 : State} {locs : List Loc} {cells slots : Nat}
set_option maxHeartbeats 4000000 in
theorem xt_ctorS (X : Stand p l e R s m₀ args below meth c T9 locs cells slots) (hexec : p.tables.exec = Jvm.exec) (htr : e.platform.stackTraces = false) {own cls Y : String} {r : List String} {ic ix : Nat} {rx : ByteArray}
    (x0 : decode rx 0 = .ok (.aload_n 0, 1)) (x1 : decode rx 1 = .ok (.aload_n 1, 1)) (x2 : decode rx 2 = .ok (.invokespecial ix, 3)) (x5 : decode rx 5 = .ok (.return_, 1))
    (hown : s.vm.findClass own = some m₀.cls) (hcls : Bundle.fit cls = true) (hY : Bundle.fit Y = true) (hnames : ∀ n ∈ r, Bundle.fit n = true)
    (h : ∀ a ∈ xtA own ic cls ix rx Y r, a.before args s = true)
    (hlocs : ∀ x ∈ locs, ∀ cell, s.heap[x.base]? = some cell → cell.vm.isStatics = false)
    {a : Addr} {cX : ClassId} {kX : Class} (hfoundX : s.vm.findClass cls = some cX) (hkX : s.vm.classes[cX]? = some kX) (hcell : T9.heap[a]? = some (freshCell cX kX)) (hnew : s.heap.size ≤ a)
    {msg : Value} (hmsg : msg.isRef = true)
    {g : JFrame} (hg : g.method = m₀) (hsize : g.locals.size = c.maxLocals) (hlocked : g.locked = none) (hentered : g.entered = []) {rest : List Value} (hstack : g.stack = msg :: .ref a :: .ref a :: rest)
    (hd6 : decode c.code g.pc = .ok (.invokespecial ic, 3)) (hd9 : decode c.code (g.pc + 3) = .ok (.athrow, 1)) (hout : ∀ x ∈ c.exceptionTable.toList, covers x (g.pc + 3) = false)
    (hRframes : r.length + 1 + 3 < R.frames) (hRlocals : 2 * g.monitorRoom + ((Value.ref a :: rest).map fun v => v.category).sum + (13 * (r.length + 1 + 1) + 42) ≤ R.locals) (hlocks : meth.locks = false) :
    ∃ U : State, Steps p.tables e below (T9.setTop g) U ∧ U.status = .running ∧ Ended U below (.threw a) ∧ s.WarmedH U.vm ∧ s.sameButNew ({ U with vm := s.vm } : State) locs cells slots ∧
      ∃ ce : Cell, U.heap[a]? = some ce ∧ ce.vm = .none ∧ s.vm.findClass cls = some ce.cls := by
  have howns : e.platform.frameOwnsMonitors = true := by rw [X.admits.platform]
  have hfin : e.platform.finalization = false := by rw [X.admits.platform]
  have hpl : e.platform.magicAccessors = ({} : Platform).magicAccessors := by rw [X.admits.platform]
  have a' : ∀ x, x ∈ xtA own ic cls ix rx Y r → x.holds args s none s [] = true := fun x hx => h x hx
  obtain ⟨T, Z0, L, -, Yt⟩ := ThrowableC.of_atoms (args := args) howns hfin hpl (fun x hx => h x (by simp [xtA, hx]))
  obtain ⟨Z, M, LZ, LM, hnZ⟩ := Init0T.ofS_atoms (args := args) hpl L Yt (fun x hx => h x (by simp [xtA, hx]))
  obtain ⟨P1, L1, hP1m, hs1⟩ := PassC.ofS_atoms (args := args) (s := s) hpl (X := cls) (Y := Y) (Bundle.fit_spec hcls).1 (Bundle.fit_spec hY).2 x0 x1 x2 x5 (fun x hx => h x (by simp [xtA, hx]))
  obtain ⟨P', Ps', hlen', L', hL', hm', hsup, hpass⟩ := Bundle.chainS (args := args) hpl hnZ r Y hY hnames (fun x hx => h x (by simp [xtA, hx]))
  have hfound : s.vm.findClass cls = some P1.m.cls := findClass_of_methodNamed hP1m
  cases Option.some.inj (hfoundX.symm.trans hfound)
  obtain ⟨c1, kX', hc1, hk, hord, -, -, hn6⟩ := Cond.instantiable_spec (a' (.instantiable cls 6) (by simp [xtA]))
  cases Option.some.inj (hc1.symm.trans hfound)
  cases Option.some.inj (hkX.symm.trans hk)
  have hsel0 : selectMethod e.platform s.vm P1.m.cls T.fill0 = .method T.fill0 := by
    obtain ⟨c2, r2, m2, q1, q2, q3, q4, -⟩ := Cond.selects_spec (a' (.selects cls Bundle.tFill0 Bundle.tFill0) (by simp [xtA]))
    cases Option.some.inj (q1.symm.trans hfound)
    cases Option.some.inj (q2.symm.trans (State.methodFound?_of_named Yt.fill0 (by decide)))
    cases Option.some.inj (q3.symm.trans Yt.fill0)
    rw [Launch.admits_selectMethod X.admits]; exact q4
  have hselF : selectMethod e.platform s.vm P1.m.cls T.fill = .method T.fill := by
    obtain ⟨c2, r2, m2, q1, q2, q3, q4, -⟩ := Cond.selects_spec (a' (.selects cls Bundle.tFill Bundle.tFill) (by simp [xtA]))
    cases Option.some.inj (q1.symm.trans hfound)
    cases Option.some.inj (q2.symm.trans (State.methodFound?_of_named Yt.fill (by decide)))
    cases Option.some.inj (q3.symm.trans Yt.fill)
    rw [Launch.admits_selectMethod X.admits]; exact q4
  obtain ⟨cellS0, hcS0, hiss⟩ := Yt.statics
  obtain ⟨u0, hu0⟩ := Cond.staticRefV Yt.unassigned L.unassignedStatic L.statics hcS0 hiss (a' (.isRef (.static Bundle.tN "UNASSIGNED_STACK" Bundle.steD)) (by simp [xtA]))
  obtain ⟨sen, hsen⟩ := Cond.staticRefV Yt.sentinel L.sentinelStatic L.statics hcS0 hiss (a' (.isRef (.static Bundle.tN "SUPPRESSED_SENTINEL" Bundle.listD)) (by simp [xtA]))
  obtain ⟨ci198, i198, fB, hk198, hg198, ha198, hsB, -, hnB, htB, hffB⟩ := Cond.ownField (t := .object "java/lang/Object") Yt.found L.cls (by decide +kernel) (a' (.fieldLink Bundle.tN 198 Bundle.tN "backtrace" "Ljava/lang/Object;") (by simp [xtA])) (a' (.lays Bundle.tN Bundle.tN "backtrace" "Ljava/lang/Object;") (by simp [xtA])) e.platform hpl
  obtain ⟨cellS, hcS', heS, -, hkeep⟩ := X.same.2.2.2.2.2 T.aS cellS0 hcS0
  have hcellS : T9.heap[T.aS]? = some cellS := hcS'
  have hout' : ∀ i, (⟨T.aS, i⟩ : Loc) ∉ locs := fun i hmem => by
    have := hlocs _ hmem cellS0 hcS0
    rw [hiss] at this; cases this
  have hknownS : cellS.vm ≠ .unknown := by
    rw [heS]; intro hu
    rw [show cellS0.vm = .unknown from hu] at hiss
    cases hiss
  have hneS : T.aS ≠ a := Nat.ne_of_lt (Nat.lt_of_lt_of_le (Array.getElem?_eq_some_iff.mp hcS0).1 hnew)
  obtain ⟨iM, hffM⟩ := Yt.msg
  obtain ⟨tyC, dC, hdC, hdnC⟩ := Cond.laysAt hfound hk Yt.cause (a' (.lays cls Bundle.tN "cause" "Ljava/lang/Throwable;") (by simp [xtA]))
  obtain ⟨tyS, dS, hdS, hdnS⟩ := Cond.laysAt hfound hk Yt.stack (a' (.lays cls Bundle.tN "stackTrace" Bundle.steD) (by simp [xtA]))
  obtain ⟨tyP, dP, hdP, hdnP⟩ := Cond.laysAt hfound hk Yt.supp (a' (.lays cls Bundle.tN "suppressedExceptions" Bundle.listD) (by simp [xtA]))
  obtain ⟨tyM, dM, hdM, hdnM⟩ := Cond.laysAt hfound hk hffM (a' (.lays cls Bundle.tN "detailMessage" "Ljava/lang/String;") (by simp [xtA]))
  obtain ⟨tyB, dB, hdB, hdnB⟩ := Cond.laysAt hfound hk hffB (a' (.lays cls Bundle.tN "backtrace" "Ljava/lang/Object;") (by simp [xtA]))
  have bC := Cond.laysApart hdB hdC hdnB hdnC (by rw [hnB, Yt.causeName]; decide)
  have bS := Cond.laysApart hdB hdS hdnB hdnS (by rw [hnB, Yt.stackName]; decide)
  have bP := Cond.laysApart hdB hdP hdnB hdnP (by rw [hnB, Yt.suppName]; decide)
  have hskip : SkipFacts T e.platform s (fun u => u) u0 ((preparedCellV T.toThrowableT (freshCell P1.m.cls kX) a u0 sen).withEntry T9.cur) :=
    ⟨{ ci198 := ci198, i198 := i198, fBack := fB }, ⟨hk198, hg198, ha198, hsB⟩, by
      have := fresh_default (c := P1.m.cls) tyB
      rw [htB] at this
      simpa [preparedCellV, Cell.setSlot, Cell.withEntry, Array.getElem?_setIfInBounds, bC, bS, bP, bC.symm, bS.symm, bP.symm, defaultValue] using this, fun _ _ => rfl⟩
  obtain ⟨tm, methC, cdC, kC, vm₁, hnC, -, -, -, -, -, -, -, hW₁, st1⟩ := Steps.initColdS (tb := p.tables) (e := e) (below := below) (s := s) (U := T9) X.here hexec X.warmed hpl hown (t := Bundle.initS cls) rfl rfl (Bundle.fit_spec hcls).2
    (a' (.methodLink own ic (Bundle.initS cls)) (by simp [xtA])) (h (.instanceMethod (Bundle.initS cls)) (by simp [xtA, Bundle.passSAtoms])) (bytes := rx) (maxL := 2) (h (.code (Bundle.initS cls) rx 2 none) (by simp [xtA, Bundle.passSAtoms]))
    (f := g) hg (a := a) (msg := msg) (rest := .ref a :: rest) hstack hd6
  cases Option.some.inj (hnC.symm.trans hP1m)
  have X₁ := X.noted hW₁
  obtain ⟨vm₂, X₂, st2⟩ := X₁.ctorMessageOffV hexec (g := { g with stack := .ref a :: rest }) hg hsize T L Z LZ M LM (P1 :: (P' :: Ps'))
    (fun P hP => by
      rcases List.mem_cons.mp hP with rfl | hP
      · exact L1
      · rcases List.mem_cons.mp hP with rfl | hP
        · exact L'
        · exact hL' P hP) ⟨Option.some.inj (hs1.symm.trans hm'), hsup, hpass⟩ (u0 := u0) (sen := sen) (self := a) hmsg (cell := freshCell P1.m.cls kX) (cellS := cellS)
    hcell (fun _ => by simp) (by simp) rfl rfl hsel0 hselF hcellS hneS hknownS (by rw [hkeep _ (hout' _)]; exact hu0) (by rw [hkeep _ (hout' _)]; exact hsen)
    (Takes.of_laid hk hord tyC (by rw [Yt.causeType]; rfl)) (Takes.of_laid hk hord tyS (by rw [Yt.stackType]; exact fits_refV_array _ u0)) (Takes.of_laid hk hord tyP (by rw [Yt.suppType]; exact fits_refV_object _ sen))
    (Takes.of_laid hk hord tyM (by rw [Yt.msgType]; exact fits_refV_object _ ⟨msg, hmsg⟩)) Yt.objLocals hskip htr [] hd6
    (by simp only [List.length_cons, hlen']; omega) (by simp only [List.length_cons, hlen']; exact hRlocals)
  obtain ⟨hwalk, hrun, hended, hWU, hsame⟩ := X₂.athrowLeaves hexec (g := { g with stack := .ref a :: rest, pc := g.pc + 3 }) hg hlocked hentered hout (a := a) (rest := rest) rfl hd9
  have hlt : a < ((T9.setVm vm₁).setVm vm₂).heap.size := (Array.getElem?_eq_some_iff.mp hcell).1
  have hU := heapAt_setCell_self (s := (T9.setVm vm₁).setVm vm₂) (plainBareV T.toThrowableT (freshCell P1.m.cls kX) a u0 sen msg) hlt
  refine ⟨_, st1 _ (fun acts => ?_), hrun, hended, hWU, hsame.weaken (fun y hy hlt' => ?_) (Nat.le_refl _) (Nat.le_refl _), _, hU, rfl, hfound⟩
  · rw [doInvoke_state]
    exact st2 _ hwalk
  · rcases List.mem_append.mp hy with h1 | h1
    · exact h1
    · exfalso
      have hb : y.base = a := by
        simp only [List.mem_cons, List.not_mem_nil, or_false] at h1
        rcases h1 with rfl | rfl | rfl | rfl | rfl <;> rfl
      rw [hb] at hlt'
      exact Nat.not_lt.mpr hnew hlt'
end XT
section XT2
variable {p : Program} {l : Launch} {e : Env} {R : Room} {s : State} {m : MethodId} {args : Array Value} {below : List Frame} {meth : Method} {c : Code} {H : Heap} {locs : List Loc} {cells slots : Nat} {Q : State → Prop}
variable {mc ms : Nat} {free : Addr → Prop} {A0 A1 : Nat → Prop} {H0 : Heap} {a : Array Value} {ls : Array Slot} {st0 rest : List Value}
variable {Qc : Array Value → State → Outcome → State → Prop} {XC : String → State → State → Prop}
set_option maxHeartbeats 4000000 in
theorem xt_throwS {cc : ByteArray} {pc : Nat} (hexec : p.tables.exec = Jvm.exec) (hb : c.code = cc) (hl : l.stackTraces = false) {own cls text Yn : String} {r : List String} {ik is ic ix mc ms sa : Nat} {rx : ByteArray} {A : Nat → Prop}
    (x0 : decode rx 0 = .ok (.aload_n 0, 1)) (x1 : decode rx 1 = .ok (.aload_n 1, 1)) (x2 : decode rx 2 = .ok (.invokespecial ix, 3)) (x5 : decode rx 5 = .ok (.return_, 1))
    (hown : s.vm.findClass own = some m.cls) (hcls : Bundle.fit cls = true) (hY : Bundle.fit Yn = true) (hnames : ∀ n ∈ r, Bundle.fit n = true)
    (hk : (Cond.classLink own ik cls).before args s = true) (hini : (Cond.initialized cls).before args s = true) (hstr : vk_R own is text sa s) (hat : ∀ w ∈ xtS own ic cls ix rx Yn r, w.before args s = true)
    (hgood : ∀ w ∈ Cond.classLink own ik cls :: Cond.initialized cls :: xtS own ic cls ix rx Yn r, vx_ot w = true)
    (hU : vx_Zq Bundle.tN "UNASSIGNED_STACK" Bundle.steD A s s.heap) (hN : vx_Zq Bundle.tN "SUPPRESSED_SENTINEL" Bundle.listD A s s.heap) (hS : va_S A s.heap H locs) (hsize : ls.size = c.maxLocals)
    (d0 : decode cc pc = .ok (.new ik, 3)) (d3 : decode cc (pc + 3) = .ok (.dup, 1)) (d4 : decode cc (pc + 4) = .ok (.ldc is, 2)) (d6 : decode cc (pc + 6) = .ok (.invokespecial ic, 3)) (d9 : decode cc (pc + 9) = .ok (.athrow, 1))
    (hout : ∀ x ∈ c.exceptionTable.toList, covers x (pc + 9) = false)
    (hRframes : (r.length + 1) + 3 < R.frames) (hRlocals : (rest.map fun v => v.category).sum + (13 * ((r.length + 1) + 1) + 43) ≤ R.locals) (hRcells : cells + 1 ≤ R.cells) (hRslots : slots + 6 ≤ R.slots) (hlocks : meth.locks = false)
    (hx : ∀ t : State, s.vm.Alike t.vm → H.size ≤ t.heap.size → (∀ q : Nat, q < H.size → t.heap[q]? = H[q]?) → XC cls s t)
    (hf : ∀ z ∈ locs, free z.base) (hc : cells + 1 ≤ mc) (hs : slots + 6 ≤ ms) :
    W p l e R s m args below meth c H locs cells slots (vx_MQ below Qc XC args s mc ms free) (F0 m pc ls rest) := by
  intro T hT X
  have htr : e.platform.stackTraces = false := (show e.platform.stackTraces = l.stackTraces by rw [X.admits.platform]).trans hl
  have Y := vx_rebase X (R' := { frames := R.frames, locals := R.locals, cells := 1, slots := 6 }) (Nat.le_refl _) (Nat.le_refl _) hRcells hRslots
  obtain ⟨s', hA⟩ : ∃ z, z = (T.setVm s.vm).setFrames (.invoking m args :: below) := ⟨_, rfl⟩
  rw [← hA] at Y
  have hvm : s'.vm = s.vm := by rw [hA]; rfl
  have hhp : s'.heap = H := by rw [hA]; exact hT
  have hW0 : s.WarmedH s'.vm := by rw [hvm]; exact State.WarmedH.refl s
  have hat' : ∀ w ∈ xtS own ic cls ix rx Yn r, w.before args s' = true := fun w hw => vx_ot_at hW0 hvm.symm (hgood w (List.mem_cons_of_mem _ (List.mem_cons_of_mem _ hw))) (hat w hw)
  have hk' : (Cond.classLink own ik cls).before args s' = true := vx_ot_at hW0 hvm.symm (hgood _ List.mem_cons_self) hk
  have hini' : (Cond.initialized cls).before args s' = true := vx_ot_at hW0 hvm.symm (hgood _ (List.mem_cons_of_mem _ List.mem_cons_self)) hini
  have hU' : vx_Zq Bundle.tN "UNASSIGNED_STACK" Bundle.steD A s' s'.heap := by rw [hhp]; exact vx_Zq.moved hW0.alike (hU.kept hS.2.1)
  have hN' : vx_Zq Bundle.tN "SUPPRESSED_SENTINEL" Bundle.listD A s' s'.heap := by rw [hhp]; exact vx_Zq.moved hW0.alike (hN.kept hS.2.1)
  have h : ∀ w ∈ xtA own ic cls ix rx Yn r, w.before args s' = true := vx_own hat' (vx_isRefq hU'.1) (vx_isRefq hN'.1) hU'.2.word hN'.2.word
  have hown' : s'.vm.findClass own = some m.cls := by rw [hvm]; exact hown
  have hins : (Cond.instantiable cls 6).before args s' = true := h _ (by simp [xtA])
  obtain ⟨vm₁, cX, kX, hfX, hkX, -, -, X₁, st1⟩ := Y.newCold hexec (own := own) (C := cls) (index := ik) (n := 6) hown' hk' hins hini'
    (g := F0 m pc ls rest) rfl (by rw [hb]; exact d0) (Nat.le_refl _) (Nat.le_refl _)
  generalize hT1 : (T.setVm vm₁).pushCell { cls := cX, slots := kX.instanceTypes.map defaultValue, vm := .none } = T1 at X₁ st1
  have hcat : (Value.ref T.heap.size).category = 1 := rfl
  have hcellA : T1.heap[T.heap.size]? = some (freshCell cX kX) := by rw [← hT1]; exact State.heap_pushCell_size _ _
  have d3' : decode c.code (pc + 3) = .ok (.dup, 1) := by rw [hb]; exact d3
  have d4' : decode c.code (pc + 4) = .ok (.ldc is, 2) := by rw [hb]; exact d4
  have hstr' : vk_R own is text sa s' := vk_R.warm hW0 hstr
  obtain ⟨U, hsteps, hrun, hend, hW, hsame, ce, hce, hOv, hOc⟩ := xt_ctorS X₁ hexec htr (own := own) (cls := cls) (Y := Yn) (r := r) (ic := ic) x0 x1 x2 x5 hown' hcls hY hnames h (fun x hx => nomatch hx) hfX hkX hcellA (by rw [hhp, hT]; exact Nat.le_refl _) (msg := .ref sa) rfl
    (g := { method := m, pc := pc + 6, locals := ls, stack := .ref sa :: .ref T.heap.size :: .ref T.heap.size :: rest, locked := none }) rfl hsize rfl rfl (rest := rest) rfl
    (by rw [hb]; exact d6) (by rw [hb]; exact d9) hout hRframes (by simp only [List.map_cons, List.sum_cons, hcat]; omega) hlocks
  obtain ⟨f1, f2⟩ := vx_frame hsame
  rw [hhp] at f1 f2
  have hWs : s.WarmedH U.vm := State.WarmedH.trans hW0 hW
  have hcl : s.vm.findClass cls = some ce.cls := by
    have h9 := hOc
    rw [hvm] at h9
    exact h9
  have hall : s.sameButNew ({ U with vm := s.vm } : State) locs mc ms := by
    subst hA
    obtain ⟨e1, e2⟩ := hsame
    rw [State.setFrames_setFrames] at e1
    have h2 : (T.setVm s.vm).sameButNew ({ U with vm := s.vm } : State) [] (0 + 1) (0 + 6) := ⟨e1, e2⟩
    have h3 := X.same.trans h2
    rw [List.append_nil] at h3
    exact h3.mono hc hs
  refine ⟨U, ?_, .threw T.heap.size, hrun, hend, Or.inr ⟨T.heap.size, rfl, cls, ce, locs, hx U hWs.alike f1 (fun q hq => f2 q hq (fun z hz => nomatch hz)), hce, hOv, hcl, hWs, hall, hf⟩⟩
  refine st1 _ ?_
  show Steps p.tables e below (T1.setTop { method := m, pc := pc + 3, locals := ls, stack := .ref T.heap.size :: rest, locked := none }) _
  jvm_step X₁.here [X₁.here.top, hexec, d3', Value.category]
  exact X₁.ldcString hexec (own := own) (text := text) (index := is) (a := sa) hown' hstr'.1 hstr'.2
    (g := { method := m, pc := pc + 4, locals := ls, stack := .ref T.heap.size :: .ref T.heap.size :: rest, locked := none }) rfl d4' _ hsteps
end XT2
section XT3
variable {p : Program} {l : Launch} {e : Env} {R : Room} {s : State} {m : MethodId} {args : Array Value} {below : List Frame} {meth : Method} {c : Code} {H : Heap} {locs : List Loc} {cells slots : Nat} {Q : State → Prop}
variable {D : va_G} {ts : List (ClassId × FieldType)} {A : Nat → Prop} {w0 w1 wc wr : va_W} {mc ms pc : Nat} {ls : Array Slot} {st0 rest : List Value} {a : Array Value} {St : List (String × Nat × String)} {sa : Nat → Nat} {px : String → va_W → Prop} {Qc : Array Value → State → Outcome → State → Prop}
/-- throw new E("text") -/
theorem th_N {cc : ByteArray} (hQ : ∃ Qc, Q = vx_MQ below Qc (bX D A px) args s mc ms A) (hexec : p.tables.exec = Jvm.exec) (hb : c.code = cc) (hl : l.stackTraces = false) {own cls text Y : String} {r : List String} {ik is ic ix : Nat} {rx : ByteArray} (x0 : decode rx 0 = .ok (.aload_n 0, 1)) (x1 : decode rx 1 = .ok (.aload_n 1, 1)) (x2 : decode rx 2 = .ok (.invokespecial ix, 3)) (x5 : decode rx 5 = .ok (.return_, 1)) (hlocks : meth.locks = false) (htab : ∀ x ∈ c.exceptionTable.toList, False)
    (hown : s.vm.findClass own = some m.cls) (hcls : Bundle.fit cls = true) (hY : Bundle.fit Y = true) (hnames : ∀ n ∈ r, Bundle.fit n = true)
    (hk : (Cond.classLink own ik cls).before args s = true) (hini : (Cond.initialized cls).before args s = true) (hat : ∀ w ∈ xtS own ic cls ix rx Y r, w.before args s = true)
    (hgood : ∀ w ∈ Cond.classLink own ik cls :: Cond.initialized cls :: xtS own ic cls ix rx Y r, vx_ot w = true)
    (hE : bEV St sa A s s.heap) (i : Nat) (hi : St[i]? = some (own, is, text)) (hpx : px cls w1) (hP : va_P D vwCl w1 H) (hD : va_D A w1) (hS : va_S A s.heap H locs) (hsize : ls.size = c.maxLocals)
    (d0 : decode cc pc = .ok (.new ik, 3)) (d3 : decode cc (pc + 3) = .ok (.dup, 1)) (d4 : decode cc (pc + 4) = .ok (.ldc is, 2)) (d6 : decode cc (pc + 6) = .ok (.invokespecial ic, 3)) (d9 : decode cc (pc + 9) = .ok (.athrow, 1))
    (hRframes : (r.length + 1) + 3 < R.frames) (hRlocals : (rest.map fun v => v.category).sum + (13 * ((r.length + 1) + 1) + 43) ≤ R.locals) (hRcells : cells + 1 ≤ R.cells) (hRslots : slots + 6 ≤ R.slots) (hc : cells + 1 ≤ mc) (hs : slots + 6 ≤ ms) :
    W p l e R s m args below meth c H locs cells slots Q (F0 m pc ls rest) := by
  obtain ⟨Qc, rfl⟩ := hQ
  refine xt_throwS hexec hb hl x0 x1 x2 x5 hown hcls hY hnames hk hini (hE.2.2 i _ hi) hat hgood hE.1 hE.2.1 hS hsize d0 d3 d4 d6 d9 (fun x hx => (htab x hx).elim) hRframes hRlocals hRcells hRslots hlocks (fun t hvm hz hq => ⟨w1, trivial, ⟨hpx, bs_of fun q hq9 => (bs_at hP hq9).kept (hq _ (bs_at hP hq9).lt), hD⟩, Nat.le_trans hS.1 hz, fun q hq9 hA9 => (hq q (Nat.lt_of_lt_of_le hq9 hS.1)).trans (hS.2.1 q hq9 hA9)⟩) hS.2.2 hc hs
end XT3
end
section
/-! throwing: the words of a throw; what the checks ask -/
theorem xm_I : ∀ w ∈ vx_atS RS 45 "java/lang/IllegalArgumentException" ["java/lang/RuntimeException", "java/lang/Exception"], w ∈ wG ∨ w ∈ nW := by decide +kernel
theorem xa_I {args : Array Value} {s : State} (hts : ∀ w ∈ wG, w.before args s = true) (hn : ∀ w ∈ nW, va_Nw w s) : ∀ w ∈ vx_atS RS 45 "java/lang/IllegalArgumentException" ["java/lang/RuntimeException", "java/lang/Exception"], w.before args s = true := fun w hw => (xm_I w hw).elim (hts w) (fun h => va_Nw.use (nW_tab w h) (hn w h))
theorem xg_I : ∀ ik, ∀ w ∈ Cond.classLink RS ik "java/lang/IllegalArgumentException" :: Cond.initialized "java/lang/IllegalArgumentException" :: vx_atS RS 45 "java/lang/IllegalArgumentException" ["java/lang/RuntimeException", "java/lang/Exception"], vx_ot w = true := fun ik w hw => by
  rcases List.mem_cons.mp hw with rfl | hw
  · rfl
  · exact (show ∀ w ∈ Cond.initialized "java/lang/IllegalArgumentException" :: vx_atS RS 45 "java/lang/IllegalArgumentException" ["java/lang/RuntimeException", "java/lang/Exception"], vx_ot w = true by decide +kernel) w hw
theorem xm_S : ∀ w ∈ vx_atS RS 60 "java/lang/IllegalStateException" ["java/lang/RuntimeException", "java/lang/Exception"], w ∈ wG ∨ w ∈ nW := by decide +kernel
theorem xa_S {args : Array Value} {s : State} (hts : ∀ w ∈ wG, w.before args s = true) (hn : ∀ w ∈ nW, va_Nw w s) : ∀ w ∈ vx_atS RS 60 "java/lang/IllegalStateException" ["java/lang/RuntimeException", "java/lang/Exception"], w.before args s = true := fun w hw => (xm_S w hw).elim (hts w) (fun h => va_Nw.use (nW_tab w h) (hn w h))
theorem xg_S : ∀ ik, ∀ w ∈ Cond.classLink RS ik "java/lang/IllegalStateException" :: Cond.initialized "java/lang/IllegalStateException" :: vx_atS RS 60 "java/lang/IllegalStateException" ["java/lang/RuntimeException", "java/lang/Exception"], vx_ot w = true := fun ik w hw => by
  rcases List.mem_cons.mp hw with rfl | hw
  · rfl
  · exact (show ∀ w ∈ Cond.initialized "java/lang/IllegalStateException" :: vx_atS RS 60 "java/lang/IllegalStateException" ["java/lang/RuntimeException", "java/lang/Exception"], vx_ot w = true by decide +kernel) w hw
theorem xm_N : ∀ w ∈ xtS RS 134 "java/util/NoSuchElementException" 13 prog_14_method_4_code "java/lang/RuntimeException" ["java/lang/Exception"], w ∈ wG ∨ w ∈ nW := by decide +kernel
theorem xa_N {args : Array Value} {s : State} (hts : ∀ w ∈ wG, w.before args s = true) (hn : ∀ w ∈ nW, va_Nw w s) : ∀ w ∈ xtS RS 134 "java/util/NoSuchElementException" 13 prog_14_method_4_code "java/lang/RuntimeException" ["java/lang/Exception"], w.before args s = true := fun w hw => (xm_N w hw).elim (hts w) (fun h => va_Nw.use (nW_tab w h) (hn w h))
theorem xg_N : ∀ ik, ∀ w ∈ Cond.classLink RS ik "java/util/NoSuchElementException" :: Cond.initialized "java/util/NoSuchElementException" :: xtS RS 134 "java/util/NoSuchElementException" 13 prog_14_method_4_code "java/lang/RuntimeException" ["java/lang/Exception"], vx_ot w = true := fun ik w hw => by
  rcases List.mem_cons.mp hw with rfl | hw
  · rfl
  · exact (show ∀ w ∈ Cond.initialized "java/util/NoSuchElementException" :: xtS RS 134 "java/util/NoSuchElementException" 13 prog_14_method_4_code "java/lang/RuntimeException" ["java/lang/Exception"], vx_ot w = true by decide +kernel) w hw
theorem xd_0 : decode prog_14_method_4_code 0 = .ok (.aload_n 0, 1) := by decide +kernel
theorem xd_1 : decode prog_14_method_4_code 1 = .ok (.aload_n 1, 1) := by decide +kernel
theorem xd_2 : decode prog_14_method_4_code 2 = .ok (.invokespecial 13, 3) := by decide +kernel
theorem xd_5 : decode prog_14_method_4_code 5 = .ok (.return_, 1) := by decide +kernel
theorem xn_fit1 : ∀ n ∈ (["java/lang/Exception"] : List String), Bundle.fit n = true := by decide +kernel
theorem xn_fit : ∀ n ∈ (["java/lang/RuntimeException", "java/lang/Exception"] : List String), Bundle.fit n = true := by decide +kernel
def prB (x : Int32) : Bool := decide (0 ≤ x) && decide (x < nI 24)
theorem prB_t {x : Int32} (h : prB x = true) : ∃ p : Nat, p < 24 ∧ x = nI p := by
  simp only [prB, Bool.and_eq_true, decide_eq_true_eq] at h
  have h0 : ¬ x < 0 := by rw [Int32.not_lt]; exact h.1
  obtain ⟨j, hj, rfl⟩ := nI_of h0
  rw [nI_ltI hj (by decide)] at h
  exact ⟨j, h.2, rfl⟩
theorem prB_lt {x : Int32} (h : x < 0) : prB x = false := by
  have h1 : ¬ (0 : Int32) ≤ x := by rw [Int32.not_le]; exact h
  simp [prB, h1]
theorem prB_nlt {x : Int32} (h : ¬ x < nI 24) : prB x = false := by simp [prB, h]
theorem prB_ok {x : Int32} (h0 : ¬ x < 0) (h : x < nI 24) : prB x = true := by
  have h1 : (0 : Int32) ≤ x := by rw [← Int32.not_lt]; exact h0
  simp [prB, h1, h]
def vlB (p v : Int32) : Bool := decide (0 ≤ v) && decide (v ≤ grt p)
def nvB (p v : Int32) : Bool := decide (v = -1) || vlB p v
def okB (th kd : Nat → Int32) (x y : Int32) : Bool := decide (x = -1) || (hsB 64 th x && decide (kd x.toNatClampNeg = y))
theorem fdF_in {f : Nat → Bool} : ∀ (n i : Nat), fdF f n i = -1 ∨ ∃ j : Nat, i ≤ j ∧ j < i + n ∧ fdF f n i = nI j ∧ f j = true := by
  intro n
  induction n with
  | zero => intro i; exact Or.inl rfl
  | succ n ih =>
    intro i
    by_cases h : f i = true
    · exact Or.inr ⟨i, Nat.le_refl i, by omega, by simp [fdF, h], h⟩
    · have e : fdF f (n + 1) i = fdF f n (i + 1) := by simp [fdF, h]
      rw [e]
      rcases ih (i + 1) with h1 | ⟨j, h1, h2, h3, h4⟩
      · exact Or.inl h1
      · exact Or.inr ⟨j, by omega, by omega, h3, h4⟩
section RWC
variable {p : Program} {l : Launch} {e : Env} {R : Room} {s : State} {m : MethodId} {args : Array Value} {below : List Frame} {meth : Method} {c : Code} {H : Heap} {locs : List Loc} {cells slots : Nat} {Q : State → Prop}
variable {cc : ByteArray} {pc : Nat} {ls : Array Slot} {rest : List Value} {D : va_G} {cl : List vw_C} {A : Nat → Prop} {a : Nat} {tys : List (ClassId × FieldType)} {ws : va_W} {H0 : Heap}
/-- 24 ints copied -/
theorem rw_copy (hexec : p.tables.exec = Jvm.exec) (hb : c.code = cc) (hml : c.maxLocals = ls.size) {own : String} {index : Nat} (hown : s.vm.findClass own = some m.cls) (hlink : (Cond.methodLink own index arraycopyName).before args s = true) (hnat : (Cond.native arraycopyName).before args s = true) (hstat : (Cond.static arraycopyName).before args s = true) (hini : (Cond.initialized "java/lang/System").before args s = true)
    (hK : va_K D cl tys s) (hP : va_P D cl ws H) (hD : va_D A ws) (hS : va_S A H0 H locs) (q0 q1 t0 : Nat) {a0 : Nat} {c0 : ClassId} {f g : Nat → Int32} (ha0 : ws[q0]? = some (a0, .inl (c0, 24, .inl f))) (ha1 : ws[q1]? = some (a, .inl (c0, 24, .inl g))) (ht0 : tys[t0]? = some (c0, .int))
    (hframes : 1 ≤ R.frames) (hlocals : (rest.map fun v => v.category).sum + (nativeFrameWords "java/lang/System" "arraycopy" 5 + 11) ≤ R.locals) (hdg : decode cc pc = .ok (.invokestatic index, 3)) {wn : va_W} (hw : ws.set q1 (a, .inl (c0, 24, .inl (va_cpy f g 0 0 24))) = wn)
    (kk : ∀ (H1 : Heap) (locs1 : List Loc), va_P D cl wn H1 → va_D A wn → va_S A H0 H1 locs1 → W p l e R s m args below meth c H1 locs1 cells slots Q (F0 m (pc + 3) ls rest)) : W p l e R s m args below meth c H locs cells slots Q (F0 m pc ls (.int (nI 24) :: .int (nI 0) :: .ref a :: .int (nI 0) :: .ref a0 :: rest)) := by
  subst hw
  refine va_copyi hexec hb hml hown hlink hnat hstat hini hK hP hD hS q0 q1 t0 t0 ha0 ha1 ht0 ht0 rfl (by decide) (by decide) (by decide) (by decide) (by decide) (fun i _ => rfl) hframes hlocals hdg ?_
  rw [show (nI 0).toNatClampNeg = 0 by decide, show (nI 24).toNatClampNeg = 24 by decide]
  exact kk
end RWC
section CX2
variable {k : Nat → ClassId} {a r t : Nat → Nat} {th kd bs us sth mk dr : Nat → Int32} {M sM : Nat → Nat → Int32}
theorem gR_adr (c : ClassId) (r : Nat → Nat) (n : Nat) (M M' : Nat → Nat → Int32) : (gRows c r n M).map (fun q => q.1) = (gRows c r n M').map (fun q => q.1) := by
  unfold gRows
  rw [List.map_map, List.map_map]
  rfl
theorem cx_cellT {D : va_G} {H : Heap} {j : Nat} {f g : Nat → Int32} (h : ∀ p, p < 24 → f p = g p) (hP : va_P D vwCl (cxW k a r t th kd bs us sth mk dr M (va_up sM j f)) H) : va_P D vwCl (cxW k a r t th kd bs us sth mk dr M (va_up sM j g)) H := by
  refine bs_of fun q hq => ?_
  have hq2 : q ∈ cxF k a r t th kd bs us sth mk dr ++ (gRows (k 0) r 64 M ++ gRows (k 0) t 256 (va_up sM j g)) := hq
  rcases List.mem_append.mp hq2 with h1 | h1
  · exact bs_at hP (List.mem_append_left _ h1)
  · rcases List.mem_append.mp h1 with h2 | h2
    · exact bs_at hP (List.mem_append_right _ (List.mem_append_left _ h2))
    · obtain ⟨i, hi, rfl⟩ := List.mem_map.mp h2
      have h3 := bs_at hP (q := gRow (k 0) t (va_up sM j f) i) (List.mem_append_right _ (List.mem_append_right _ (List.mem_map.mpr ⟨i, hi, rfl⟩)))
      by_cases e : i = j
      · subst e
        have e1 : gRow (k 0) t (va_up sM i f) i = (t i, .inl (k 0, 24, .inl f)) := by simp [gRow, va_up]
        have e2 : gRow (k 0) t (va_up sM i g) i = (t i, .inl (k 0, 24, .inl g)) := by simp [gRow, va_up]
        rw [e1] at h3
        rw [e2]
        show H[t i]? = some (vp_cell (k 0) (24, .inl g))
        rw [← ce_eq h]
        exact h3
      · have e1 : gRow (k 0) t (va_up sM j g) i = gRow (k 0) t (va_up sM j f) i := by simp [gRow, va_up, e]
        rw [e1]
        exact h3
theorem cx_adrT {A : Nat → Prop} {sM' : Nat → Nat → Int32} (hD : va_D A (cxW k a r t th kd bs us sth mk dr M sM)) : va_D A (cxW k a r t th kd bs us sth mk dr M sM') := by
  refine bs_adr hD ?_
  show (cxF k a r t th kd bs us sth mk dr ++ (gRows (k 0) r 64 M ++ gRows (k 0) t 256 sM)).map (fun q => q.1) = (cxF k a r t th kd bs us sth mk dr ++ (gRows (k 0) r 64 M ++ gRows (k 0) t 256 sM')).map (fun q => q.1)
  rw [List.map_append, List.map_append, List.map_append, List.map_append, gR_adr (k 0) t 256 sM sM']
end CX2
def ndF (sth dr : Nat → Int32) (sM : Nat → Nat → Int32) : Int32 := fdF (fun i => decide (sth i ≠ 0) && eqF (sM i) dr 24) 256 0
def frF (th : Nat → Int32) (n : Nat) : Int32 := fdF (fun i => decide (th i = 0)) n 0

set_option maxRecDepth 100000 in
set_option maxHeartbeats 4000000 in
theorem c_requireStyle (l : Launch) (D : va_G) (k : Nat → ClassId) (a r t : Nat → Nat) (th kd bs us sth mk dr : Nat → Int32) (M sM : Nat → Nat → Int32) (sa : Nat → Nat) (hl9 : l.stackTraces = false) (x : Int32) (sz : Nat) : bXV l y_S_requireStyle (wY y_S_requireStyle b_S_requireStyle 2 none) (rm9 6 1 6) Sts sa D (tsK k) (cxW k a r t th kd bs us sth mk dr M sM) sz [.ref (a 0), .int x] (fun w => w = cxW k a r t th kd bs us sth mk dr M sM ∧ hsB 64 th x = true) (fun E w => E = "java/util/NoSuchElementException" ∧ hsB 64 th x = false ∧ w = cxW k a r t th kd bs us sth mk dr M sM) 1 6 := by
  refine ent_xv (cc := b_S_requireStyle) (maxL := 2) (by decide) (Nat.le_of_ble_eq_true rfl) ?_
  intro p e s m args below meth c A Q ls hx hb hml hown hts hsz hA hP hD hS hK hl hlk htb hE hQ hret
  refine lv_aload_n hx hb d_S_requireStyle_0 rfl (lv_at hl 0 rfl) ?_
  refine va_get (D := D) (ci := ciSS) (v := .ref (a 1)) (C := RS) (T := TS) (N := 7) hx hb hts inS hown hK.1 hP 0 rfl rfl 0 (by decide) (hts _ wd_46) (fun _ h9 => h9) rfl d_S_requireStyle_1 ?_
  refine lv_iload_n hx hb d_S_requireStyle_4 rfl (lv_at hl 1 rfl) ?_
  obtain ⟨wr, hwr⟩ := cx_S (k := k) (a := a) (r := r) (t := t) (kd := kd) (bs := bs) (us := us) (sth := sth) (mk := mk) (dr := dr) (M := M) (sM := sM)
  refine cal_i (wc := tbF k (a 1) (a 8) (a 9) r 64 th) (wr := wr) (va_runVN (As := [.int x]) (rest := []) ⟨hx, hb, hml, hown, hts⟩ (c_has l D k (a 1) (a 8) (a 9) r 64 (by decide) th x s.heap.size) (cwN9 1 hts wd_75 (hK.2.1 (.methodLinkNest "StyleSheet" 64 ⟨"StyleSheet$Table", "has", "(I)Z"⟩ "StyleSheet") (by decide)) wd_74 ws_1 wd_2 (by decide) ⟨Nat.le_of_ble_eq_true rfl, Nat.le_of_ble_eq_true rfl⟩) (prV (q0 := 0) (ci := ciTb) hK hP hD (hwr _) rfl rfl) rfl rfl hl.1 rfl (lv_room (Nat.le_of_ble_eq_true rfl)) d_S_requireStyle_5 ⟨by decide, by decide⟩) (hwr _) hP hD hS hA (fun r w1 H locs hw hpd hS => ?_)
  obtain ⟨rfl, rfl⟩ := hw
  obtain ⟨hP, hD⟩ := hpd (cxW k a r t th kd bs us sth mk dr M sM) (hwr _).symm
  refine lv_if_ne (tgt := 21) hx hb d_S_requireStyle_8 (by decide) (fun c8 => ?_) (fun c8 => ?_)
  · skip
    have c8 := b_of1 c8
    exact hret _ _ _ _ _ _ _ d_S_requireStyle_21 ⟨rfl, c8⟩ hP hD hS (by decide) (by decide)
  · skip
    have c8 := b_of0 c8
    exact th_N hQ hx hb hl9 xd_0 xd_1 xd_2 xd_5 hlk htb hown (by decide) (by decide) xn_fit1 (hts _ wd_226) (hts _ wd_10) (xa_N hts hK.2.1) (xg_N 130) hE 3 rfl ⟨rfl, c8, rfl⟩ hP hD hS (hl.1.trans hml.symm) d_S_requireStyle_11 d_S_requireStyle_14 d_S_requireStyle_15 d_S_requireStyle_17 d_S_requireStyle_20 (by decide) (by decide) (by decide) (by decide) (by decide) (by decide)

set_option maxRecDepth 100000 in
set_option maxHeartbeats 4000000 in
theorem c_requireSet (l : Launch) (D : va_G) (k : Nat → ClassId) (a r t : Nat → Nat) (th kd bs us sth mk dr : Nat → Int32) (M sM : Nat → Nat → Int32) (sa : Nat → Nat) (hl9 : l.stackTraces = false) (x : Int32) (sz : Nat) : bXV l y_S_requireSet (wY y_S_requireSet b_S_requireSet 2 none) (rm9 6 1 6) Sts sa D (tsK k) (cxW k a r t th kd bs us sth mk dr M sM) sz [.ref (a 0), .int x] (fun w => w = cxW k a r t th kd bs us sth mk dr M sM ∧ hsB 256 sth x = true) (fun E w => E = "java/util/NoSuchElementException" ∧ hsB 256 sth x = false ∧ w = cxW k a r t th kd bs us sth mk dr M sM) 1 6 := by
  refine ent_xv (cc := b_S_requireSet) (maxL := 2) (by decide) (Nat.le_of_ble_eq_true rfl) ?_
  intro p e s m args below meth c A Q ls hx hb hml hown hts hsz hA hP hD hS hK hl hlk htb hE hQ hret
  refine lv_aload_n hx hb d_S_requireSet_0 rfl (lv_at hl 0 rfl) ?_
  refine va_get (D := D) (ci := ciSS) (v := .ref (a 5)) (C := RS) (T := TS) (N := 7) hx hb hts inS hown hK.1 hP 0 rfl rfl 4 (by decide) (hts _ wd_50) (fun _ h9 => h9) rfl d_S_requireSet_1 ?_
  refine lv_iload_n hx hb d_S_requireSet_4 rfl (lv_at hl 1 rfl) ?_
  obtain ⟨wr, hwr⟩ := cx_T (k := k) (a := a) (r := r) (t := t) (th := th) (kd := kd) (bs := bs) (us := us) (mk := mk) (dr := dr) (M := M) (sM := sM)
  refine cal_i (wc := tbF k (a 5) (a 10) (a 11) t 256 sth) (wr := wr) (va_runVN (As := [.int x]) (rest := []) ⟨hx, hb, hml, hown, hts⟩ (c_has l D k (a 5) (a 10) (a 11) t 256 (by decide) sth x s.heap.size) (cwN9 1 hts wd_75 (hK.2.1 (.methodLinkNest "StyleSheet" 64 ⟨"StyleSheet$Table", "has", "(I)Z"⟩ "StyleSheet") (by decide)) wd_74 ws_1 wd_2 (by decide) ⟨Nat.le_of_ble_eq_true rfl, Nat.le_of_ble_eq_true rfl⟩) (prV (q0 := 0) (ci := ciTb) hK hP hD (hwr _) rfl rfl) rfl rfl hl.1 rfl (lv_room (Nat.le_of_ble_eq_true rfl)) d_S_requireSet_5 ⟨by decide, by decide⟩) (hwr _) hP hD hS hA (fun r w1 H locs hw hpd hS => ?_)
  obtain ⟨rfl, rfl⟩ := hw
  obtain ⟨hP, hD⟩ := hpd (cxW k a r t th kd bs us sth mk dr M sM) (hwr _).symm
  refine lv_if_ne (tgt := 21) hx hb d_S_requireSet_8 (by decide) (fun c8 => ?_) (fun c8 => ?_)
  · skip
    have c8 := b_of1 c8
    exact hret _ _ _ _ _ _ _ d_S_requireSet_21 ⟨rfl, c8⟩ hP hD hS (by decide) (by decide)
  · skip
    have c8 := b_of0 c8
    exact th_N hQ hx hb hl9 xd_0 xd_1 xd_2 xd_5 hlk htb hown (by decide) (by decide) xn_fit1 (hts _ wd_226) (hts _ wd_10) (xa_N hts hK.2.1) (xg_N 130) hE 7 rfl ⟨rfl, c8, rfl⟩ hP hD hS (hl.1.trans hml.symm) d_S_requireSet_11 d_S_requireSet_14 d_S_requireSet_15 d_S_requireSet_17 d_S_requireSet_20 (by decide) (by decide) (by decide) (by decide) (by decide) (by decide)

set_option maxRecDepth 100000 in
set_option maxHeartbeats 4000000 in
theorem c_requireNoneOrOfKind (l : Launch) (D : va_G) (k : Nat → ClassId) (a r t : Nat → Nat) (th kd bs us sth mk dr : Nat → Int32) (M sM : Nat → Nat → Int32) (sa : Nat → Nat) (hl9 : l.stackTraces = false) (x y : Int32) (sz : Nat) : bXV l y_S_requireNoneOrOfKind (wY y_S_requireNoneOrOfKind b_S_requireNoneOrOfKind 3 none) (rm9 6 1 6) Sts sa D (tsK k) (cxW k a r t th kd bs us sth mk dr M sM) sz [.ref (a 0), .int x, .int y] (fun w => w = cxW k a r t th kd bs us sth mk dr M sM ∧ okB th kd x y = true) (fun E w => E = "java/lang/IllegalArgumentException" ∧ okB th kd x y = false ∧ w = cxW k a r t th kd bs us sth mk dr M sM) 1 6 := by
  refine ent_xv (cc := b_S_requireNoneOrOfKind) (maxL := 3) (by decide) (Nat.le_of_ble_eq_true rfl) ?_
  intro p e s m args below meth c A Q ls hx hb hml hown hts hsz hA hP hD hS hK hl hlk htb hE hQ hret
  refine lv_iload_n hx hb d_S_requireNoneOrOfKind_0 rfl (lv_at hl 1 rfl) ?_
  refine lv_iconst (v := -1) hx hb d_S_requireNoneOrOfKind_1 (by decide) ?_
  refine lv_icmp_eq (tgt := 36) hx hb d_S_requireNoneOrOfKind_2 (by decide) (fun c2 => ?_) (fun c2 => ?_)
  · skip
    exact hret _ _ _ _ _ _ _ d_S_requireNoneOrOfKind_36 ⟨rfl, by simp [okB, c2]⟩ hP hD hS (by decide) (by decide)
  · skip
    refine lv_aload_n hx hb d_S_requireNoneOrOfKind_5 rfl (lv_at hl 0 rfl) ?_
    refine va_get (D := D) (ci := ciSS) (v := .ref (a 1)) (C := RS) (T := TS) (N := 7) hx hb hts inS hown hK.1 hP 0 rfl rfl 0 (by decide) (hts _ wd_46) (fun _ h9 => h9) rfl d_S_requireNoneOrOfKind_6 ?_
    refine lv_iload_n hx hb d_S_requireNoneOrOfKind_9 rfl (lv_at hl 1 rfl) ?_
    obtain ⟨wr, hwr⟩ := cx_S (k := k) (a := a) (r := r) (t := t) (kd := kd) (bs := bs) (us := us) (sth := sth) (mk := mk) (dr := dr) (M := M) (sM := sM)
    refine cal_i (wc := tbF k (a 1) (a 8) (a 9) r 64 th) (wr := wr) (va_runVN (As := [.int x]) (rest := []) ⟨hx, hb, hml, hown, hts⟩ (c_has l D k (a 1) (a 8) (a 9) r 64 (by decide) th x s.heap.size) (cwN9 1 hts wd_75 (hK.2.1 (.methodLinkNest "StyleSheet" 64 ⟨"StyleSheet$Table", "has", "(I)Z"⟩ "StyleSheet") (by decide)) wd_74 ws_1 wd_2 (by decide) ⟨Nat.le_of_ble_eq_true rfl, Nat.le_of_ble_eq_true rfl⟩) (prV (q0 := 0) (ci := ciTb) hK hP hD (hwr _) rfl rfl) rfl rfl hl.1 rfl (lv_room (Nat.le_of_ble_eq_true rfl)) d_S_requireNoneOrOfKind_10 ⟨by decide, by decide⟩) (hwr _) hP hD hS hA (fun r w1 H locs hw hpd hS => ?_)
    obtain ⟨rfl, rfl⟩ := hw
    obtain ⟨hP, hD⟩ := hpd (cxW k a r t th kd bs us sth mk dr M sM) (hwr _).symm
    refine lv_if_eq (tgt := 26) hx hb d_S_requireNoneOrOfKind_13 (by decide) (fun c13 => ?_) (fun c13 => ?_)
    · skip
      have c13 := b_of0 c13
      exact th_S hQ hx hb hl9 hlk htb hown (by decide) xn_fit (hts _ wd_121) (hts _ wd_8) (xa_I hts hK.2.1) (xg_I 41) hE 1 rfl ⟨rfl, by simp [okB, c2, c13], rfl⟩ hP hD hS (hl.1.trans hml.symm) d_S_requireNoneOrOfKind_26 d_S_requireNoneOrOfKind_29 d_S_requireNoneOrOfKind_30 d_S_requireNoneOrOfKind_32 d_S_requireNoneOrOfKind_35 (by decide) (by decide) (by decide) (by decide) (by decide) (by decide)
    · skip
      have c13 := b_of1 c13
      obtain ⟨j, hj, rfl, hjt⟩ := hsB_t (by decide) c13
      refine lv_aload_n hx hb d_S_requireNoneOrOfKind_16 rfl (lv_at hl 0 rfl) ?_
      refine va_get (D := D) (ci := ciSS) (v := .ref (a 2)) (C := RS) (T := TS) (N := 7) hx hb hts inS hown hK.1 hP 0 rfl rfl 1 (by decide) (hts _ wd_47) (fun _ h9 => h9) rfl d_S_requireNoneOrOfKind_17 ?_
      refine lv_iload_n hx hb d_S_requireNoneOrOfKind_20 rfl (lv_at hl 1 rfl) ?_
      refine rw_iald hx hb hK.1 hP 2 0 rfl rfl (j := j) (by omega) (by decide) d_S_requireNoneOrOfKind_21 ?_
      refine lv_iload_n hx hb d_S_requireNoneOrOfKind_22 rfl (lv_at hl 2 rfl) ?_
      refine lv_icmp_eq (tgt := 36) hx hb d_S_requireNoneOrOfKind_23 (by decide) (fun c23 => ?_) (fun c23 => ?_)
      · skip
        exact hret _ _ _ _ _ _ _ d_S_requireNoneOrOfKind_36 ⟨rfl, by simp [okB, c13, nI_clamp (show j < 2 ^ 31 by omega), c23]⟩ hP hD hS (by decide) (by decide)
      · skip
        exact th_S hQ hx hb hl9 hlk htb hown (by decide) xn_fit (hts _ wd_121) (hts _ wd_8) (xa_I hts hK.2.1) (xg_I 41) hE 1 rfl ⟨rfl, by simp [okB, c2, c13, nI_clamp (show j < 2 ^ 31 by omega), c23], rfl⟩ hP hD hS (hl.1.trans hml.symm) d_S_requireNoneOrOfKind_26 d_S_requireNoneOrOfKind_29 d_S_requireNoneOrOfKind_30 d_S_requireNoneOrOfKind_32 d_S_requireNoneOrOfKind_35 (by decide) (by decide) (by decide) (by decide) (by decide) (by decide)

set_option maxRecDepth 100000 in
set_option maxHeartbeats 4000000 in
theorem c_requireProperty (l : Launch) (D : va_G) (k : Nat → ClassId) (sa : Nat → Nat) (hl9 : l.stackTraces = false) (x : Int32) (sz : Nat) : bXV l y_S_requireProperty (wY y_S_requireProperty b_S_requireProperty 1 none) (rm9 6 1 6) Sts sa D (tsK k) ([]) sz [.int x] (fun w => w = [] ∧ prB x = true) (fun E w => E = "java/lang/IllegalArgumentException" ∧ prB x = false ∧ w = []) 1 6 := by
  refine ent_xv (cc := b_S_requireProperty) (maxL := 1) (by decide) (Nat.le_of_ble_eq_true rfl) ?_
  intro p e s m args below meth c A Q ls hx hb hml hown hts hsz hA hP hD hS hK hl hlk htb hE hQ hret
  refine lv_iload_n hx hb d_S_requireProperty_0 rfl (lv_at hl 0 rfl) ?_
  refine lv_if_lt (tgt := 10) hx hb d_S_requireProperty_1 (by decide) (fun c1 => ?_) (fun c1 => ?_)
  · skip
    exact th_S hQ hx hb hl9 hlk htb hown (by decide) xn_fit (hts _ wd_121) (hts _ wd_8) (xa_I hts hK.2.1) (xg_I 41) hE 4 rfl ⟨rfl, prB_lt c1, rfl⟩ hP hD hS (hl.1.trans hml.symm) d_S_requireProperty_10 d_S_requireProperty_13 d_S_requireProperty_14 d_S_requireProperty_16 d_S_requireProperty_19 (by decide) (by decide) (by decide) (by decide) (by decide) (by decide)
  · skip
    refine lv_iload_n hx hb d_S_requireProperty_4 rfl (lv_at hl 0 rfl) ?_
    refine lv_bipush (v := nI 24) hx hb d_S_requireProperty_5 (by decide) ?_
    refine lv_icmp_lt (tgt := 20) hx hb d_S_requireProperty_7 (by decide) (fun c7 => ?_) (fun c7 => ?_)
    · skip
      exact hret _ _ _ _ _ _ _ d_S_requireProperty_20 ⟨rfl, prB_ok c1 c7⟩ hP hD hS (by decide) (by decide)
    · skip
      exact th_S hQ hx hb hl9 hlk htb hown (by decide) xn_fit (hts _ wd_121) (hts _ wd_8) (xa_I hts hK.2.1) (xg_I 41) hE 4 rfl ⟨rfl, prB_nlt c7, rfl⟩ hP hD hS (hl.1.trans hml.symm) d_S_requireProperty_10 d_S_requireProperty_13 d_S_requireProperty_14 d_S_requireProperty_16 d_S_requireProperty_19 (by decide) (by decide) (by decide) (by decide) (by decide) (by decide)

set_option maxRecDepth 100000 in
set_option maxHeartbeats 4000000 in
theorem c_requireValue (l : Launch) (D : va_G) (k : Nat → ClassId) (sa : Nat → Nat) (hl9 : l.stackTraces = false) (x v : Int32) (sz : Nat) : bXV l y_S_requireValue (wY y_S_requireValue b_S_requireValue 2 none) (rm9 6 1 6) Sts sa D (tsK k) ([]) sz [.int x, .int v] (fun w => w = [] ∧ vlB x v = true) (fun E w => E = "java/lang/IllegalArgumentException" ∧ vlB x v = false ∧ w = []) 1 6 := by
  refine ent_xv (cc := b_S_requireValue) (maxL := 2) (by decide) (Nat.le_of_ble_eq_true rfl) ?_
  intro p e s m args below meth c A Q ls hx hb hml hown hts hsz hA hP hD hS hK hl hlk htb hE hQ hret
  refine lv_iload_n hx hb d_S_requireValue_0 rfl (lv_at hl 1 rfl) ?_
  refine lv_if_lt (tgt := 12) hx hb d_S_requireValue_1 (by decide) (fun c1 => ?_) (fun c1 => ?_)
  · skip
    exact th_S hQ hx hb hl9 hlk htb hown (by decide) xn_fit (hts _ wd_121) (hts _ wd_8) (xa_I hts hK.2.1) (xg_I 41) hE 5 rfl ⟨rfl, by simp [vlB]; intro h; exact absurd c1 (Int32.not_lt.mpr h), rfl⟩ hP hD hS (hl.1.trans hml.symm) d_S_requireValue_12 d_S_requireValue_15 d_S_requireValue_16 d_S_requireValue_18 d_S_requireValue_21 (by decide) (by decide) (by decide) (by decide) (by decide) (by decide)
  · skip
    refine lv_iload_n hx hb d_S_requireValue_4 rfl (lv_at hl 1 rfl) ?_
    refine lv_iload_n hx hb d_S_requireValue_5 rfl (lv_at hl 0 rfl) ?_
    refine cal_i (wc := []) (wr := []) (va_runS (As := [.int x]) (rest := [.int v]) ⟨hx, hb, hml, hown, hts⟩ (c_greatest l D k x s.heap.size) (cwS9 1 hts wd_272 wd_270 wd_271 wd_1 (by decide) ⟨Nat.le_of_ble_eq_true rfl, Nat.le_of_ble_eq_true rfl⟩) (prS hK hP hD (List.Perm.refl _)) rfl rfl hl.1 rfl (lv_room (Nat.le_of_ble_eq_true rfl)) d_S_requireValue_6 ⟨by decide, by decide⟩) (List.Perm.refl _) hP hD hS hA (fun r w1 H locs hw hpd hS => ?_)
    obtain ⟨rfl, rfl⟩ := hw
    obtain ⟨hP, hD⟩ := hpd ([]) (List.Perm.refl _)
    refine lv_icmp_le (tgt := 22) hx hb d_S_requireValue_9 (by decide) (fun c9 => ?_) (fun c9 => ?_)
    · skip
      exact hret _ _ _ _ _ _ _ d_S_requireValue_22 ⟨rfl, by simp [vlB, c9]; rw [← Int32.not_lt]; exact c1⟩ hP hD hS (by decide) (by decide)
    · skip
      exact th_S hQ hx hb hl9 hlk htb hown (by decide) xn_fit (hts _ wd_121) (hts _ wd_8) (xa_I hts hK.2.1) (xg_I 41) hE 5 rfl ⟨rfl, by simp [vlB, c9], rfl⟩ hP hD hS (hl.1.trans hml.symm) d_S_requireValue_12 d_S_requireValue_15 d_S_requireValue_16 d_S_requireValue_18 d_S_requireValue_21 (by decide) (by decide) (by decide) (by decide) (by decide) (by decide)

set_option maxRecDepth 100000 in
set_option maxHeartbeats 4000000 in
theorem c_requireNoneOrValue (l : Launch) (D : va_G) (k : Nat → ClassId) (sa : Nat → Nat) (hl9 : l.stackTraces = false) (x v : Int32) (sz : Nat) : bXV l y_S_requireNoneOrValue (wY y_S_requireNoneOrValue b_S_requireNoneOrValue 2 none) (rm9 7 1 6) Sts sa D (tsK k) ([]) sz [.int x, .int v] (fun w => w = [] ∧ nvB x v = true) (fun E w => E = "java/lang/IllegalArgumentException" ∧ nvB x v = false ∧ w = []) 1 6 := by
  refine ent_xv (cc := b_S_requireNoneOrValue) (maxL := 2) (by decide) (Nat.le_of_ble_eq_true rfl) ?_
  intro p e s m args below meth c A Q ls hx hb hml hown hts hsz hA hP hD hS hK hl hlk htb hE hQ hret
  refine lv_iload_n hx hb d_S_requireNoneOrValue_0 rfl (lv_at hl 1 rfl) ?_
  refine lv_iconst (v := -1) hx hb d_S_requireNoneOrValue_1 (by decide) ?_
  refine lv_icmp_eq (tgt := 10) hx hb d_S_requireNoneOrValue_2 (by decide) (fun c2 => ?_) (fun c2 => ?_)
  · skip
    exact hret _ _ _ _ _ _ _ d_S_requireNoneOrValue_10 ⟨rfl, by simp [nvB, c2]⟩ hP hD hS (by decide) (by decide)
  · skip
    refine lv_iload_n hx hb d_S_requireNoneOrValue_5 rfl (lv_at hl 0 rfl) ?_
    refine lv_iload_n hx hb d_S_requireNoneOrValue_6 rfl (lv_at hl 1 rfl) ?_
    refine cax_v (wc := []) (wr := []) (vx_runS (As := [.int x, .int v]) (rest := []) ⟨hx, hb, hml, hown, hts⟩ (c_requireValue l D k sa hl9 x v s.heap.size) (cwS9 2 hts wd_269 wd_267 wd_268 wd_1 (by decide) ⟨Nat.le_of_ble_eq_true rfl, Nat.le_of_ble_eq_true rfl⟩) (prSx hE hS hA hK hP hD (List.Perm.refl _)) rfl rfl hl.1 rfl (lv_room (Nat.le_of_ble_eq_true rfl)) d_S_requireNoneOrValue_7 ⟨by decide, by decide⟩) (List.Perm.refl _) hP hD hS hA (fun E9 ce9 ad9 w1 H locs hpx hpd hS hce hcv hcl => ?_) (fun w1 H locs hw hpd hS => ?_)
    · skip
      obtain ⟨rfl, h9, rfl⟩ := hpx
      obtain ⟨hP, hD⟩ := hpd ([]) (List.Perm.refl _)
      exact ps_x hQ hlk htb ⟨rfl, by simp [nvB, c2, h9], rfl⟩ hP hD hS hce hcv hcl (by decide) (by decide)
    obtain ⟨rfl, hv⟩ := hw
    obtain ⟨hP, hD⟩ := hpd ([]) (List.Perm.refl _)
    exact hret _ _ _ _ _ _ _ d_S_requireNoneOrValue_10 ⟨rfl, by simp [nvB, hv]⟩ hP hD hS (by decide) (by decide)

set_option maxRecDepth 100000 in
set_option maxHeartbeats 4000000 in
theorem c_numberOfDraft (l : Launch) (D : va_G) (k : Nat → ClassId) (a r t : Nat → Nat) (th kd bs us sth mk dr : Nat → Int32) (M sM : Nat → Nat → Int32) (sa : Nat → Nat) (hl9 : l.stackTraces = false) (sz : Nat) : bXI l y_S_numberOfDraft (wY y_S_numberOfDraft b_S_numberOfDraft 3 (some .int)) (rm9 6 1 6) Sts sa D (tsK k) (cxW k a r t th kd bs us sth mk dr M sM) sz [.ref (a 0)] (fun v w => (¬ ndF sth dr sM = -1 ∧ v = ndF sth dr sM ∧ w = cxW k a r t th kd bs us sth mk dr M sM) ∨ (ndF sth dr sM = -1 ∧ ∃ j : Nat, j < 256 ∧ frF sth 256 = nI j ∧ v = nI j ∧ w = cxW k a r t th kd bs us (upd sth j (nI 1)) mk dr M (va_up sM j dr))) (fun E w => E = "java/lang/IllegalStateException" ∧ ndF sth dr sM = -1 ∧ frF sth 256 = -1 ∧ w = cxW k a r t th kd bs us sth mk dr M sM) 1 6 := by
  refine ent_xi (cc := b_S_numberOfDraft) (maxL := 3) (ty := .int) (by decide) (Nat.le_of_ble_eq_true rfl) (fun _ _ _ => rfl) ?_
  intro p e s m args below meth c A Q ls hx hb hml hown hts hsz hA hP hD hS hK hl hlk htb hE hQ hret
  refine lv_aload_n hx hb d_S_numberOfDraft_0 rfl (lv_at hl 0 rfl) ?_
  refine va_get (D := D) (ci := ciSS) (v := .ref (a 5)) (C := RS) (T := TS) (N := 7) hx hb hts inS hown hK.1 hP 0 rfl rfl 4 (by decide) (hts _ wd_50) (fun _ h9 => h9) rfl d_S_numberOfDraft_1 ?_
  refine lv_aload_n hx hb d_S_numberOfDraft_4 rfl (lv_at hl 0 rfl) ?_
  refine va_get (D := D) (ci := ciSS) (v := .ref (a 7)) (C := RS) (T := TS) (N := 7) hx hb hts inS hown hK.1 hP 0 rfl rfl 6 (by decide) (hts _ wd_52) (fun _ h9 => h9) rfl d_S_numberOfDraft_5 ?_
  obtain ⟨wr, hwr⟩ := cx_N (k := k) (a := a) (r := r) (t := t) (th := th) (kd := kd) (bs := bs) (us := us) (mk := mk) (dr := dr) (M := M)
  refine cal_i (wc := nbW k (a 5) (a 10) (a 11) (a 7) t 256 sth dr sM) (wr := wr) (va_runVN (As := [.ref (a 7)]) (rest := []) ⟨hx, hb, hml, hown, hts⟩ (c_numberOf l D k (a 5) (a 10) (a 11) t 256 (by decide) sth sM (a 7) dr s.heap.size) (cwN9 1 hts wd_335 (hK.2.1 (.methodLinkNest "StyleSheet" 152 ⟨"StyleSheet$Table", "numberOf", "([I)I"⟩ "StyleSheet") (by decide)) wd_334 ws_18 wd_2 (by decide) ⟨Nat.le_of_ble_eq_true rfl, Nat.le_of_ble_eq_true rfl⟩) (prV (q0 := 0) (ci := ciTb) hK hP hD (hwr _ _) rfl rfl) rfl rfl hl.1 rfl (lv_room (Nat.le_of_ble_eq_true rfl)) d_S_numberOfDraft_8 ⟨by decide, by decide⟩) (hwr _ _) hP hD hS hA (fun r w1 H locs hw hpd hS => ?_)
  obtain ⟨rfl, rfl⟩ := hw
  rw [show fdF (fun i => decide (sth i ≠ 0) && eqF (sM i) dr 24) 256 0 = ndF sth dr sM from rfl]
  obtain ⟨hP, hD⟩ := hpd (cxW k a r t th kd bs us sth mk dr M sM) (hwr _ _).symm
  refine lv_istore_n (lv' := [(1, .int (ndF sth dr sM)), (0, .ref (a 0))]) hx hb d_S_numberOfDraft_11 rfl hl (by decide) rfl (fun ls hl => ?_)
  refine lv_iload_n hx hb d_S_numberOfDraft_12 rfl (lv_at hl 0 rfl) ?_
  refine lv_iconst (v := -1) hx hb d_S_numberOfDraft_13 (by decide) ?_
  refine lv_icmp_eq (tgt := 19) hx hb d_S_numberOfDraft_14 (by decide) (fun c14 => ?_) (fun c14 => ?_)
  · skip
    refine lv_aload_n hx hb d_S_numberOfDraft_19 rfl (lv_at hl 1 rfl) ?_
    refine va_get (D := D) (ci := ciSS) (v := .ref (a 5)) (C := RS) (T := TS) (N := 7) hx hb hts inS hown hK.1 hP 0 rfl rfl 4 (by decide) (hts _ wd_50) (fun _ h9 => h9) rfl d_S_numberOfDraft_20 ?_
    obtain ⟨wr, hwr⟩ := cx_T (k := k) (a := a) (r := r) (t := t) (th := th) (kd := kd) (bs := bs) (us := us) (mk := mk) (dr := dr) (M := M) (sM := sM)
    refine cal_i (wc := tbF k (a 5) (a 10) (a 11) t 256 sth) (wr := wr) (va_runVN (As := []) (rest := []) ⟨hx, hb, hml, hown, hts⟩ (c_leastFree l D k (a 5) (a 10) (a 11) t 256 (by decide) sth  H.size) (cwN9 0 hts wd_197 (hK.2.1 (.methodLinkNest "StyleSheet" 52 ⟨"StyleSheet$Table", "leastFree", "()I"⟩ "StyleSheet") (by decide)) wd_196 ws_10 wd_2 (by decide) ⟨Nat.le_of_ble_eq_true rfl, Nat.le_of_ble_eq_true rfl⟩) (prV (q0 := 0) (ci := ciTb) hK hP hD (hwr _) rfl rfl) rfl rfl hl.1 rfl (lv_room (Nat.le_of_ble_eq_true rfl)) d_S_numberOfDraft_23 ⟨by decide, by decide⟩) (hwr _) hP hD hS hA (fun r w1 H locs hw hpd hS => ?_)
    obtain ⟨rfl, rfl⟩ := hw
    rw [show fdF (fun i => decide (sth i = 0)) 256 0 = frF sth 256 from rfl]
    obtain ⟨hP, hD⟩ := hpd (cxW k a r t th kd bs us sth mk dr M sM) (hwr _).symm
    refine lv_istore_n (lv' := [(2, .int (frF sth 256)), (1, .int (ndF sth dr sM)), (0, .ref (a 0))]) hx hb d_S_numberOfDraft_26 rfl hl (by decide) rfl (fun ls hl => ?_)
    refine lv_iload_n hx hb d_S_numberOfDraft_27 rfl (lv_at hl 0 rfl) ?_
    refine lv_iconst (v := -1) hx hb d_S_numberOfDraft_28 (by decide) ?_
    refine lv_icmp_ne (tgt := 42) hx hb d_S_numberOfDraft_29 (by decide) (fun c29 => ?_) (fun c29 => ?_)
    · skip
      rcases fdF_in (f := fun i => decide (sth i = 0)) 256 0 with hg | ⟨j, -, hj, hg, hj0⟩
      · exact absurd hg c29
      have hj : j < 256 := by omega
      rw [show frF sth 256 = nI j from hg] at hl
      refine lv_aload_n hx hb d_S_numberOfDraft_42 rfl (lv_at hl 2 rfl) ?_
      refine va_get (D := D) (ci := ciSS) (v := .ref (a 5)) (C := RS) (T := TS) (N := 7) hx hb hts inS hown hK.1 hP 0 rfl rfl 4 (by decide) (hts _ wd_50) (fun _ h9 => h9) rfl d_S_numberOfDraft_43 ?_
      refine lv_iload_n hx hb d_S_numberOfDraft_46 rfl (lv_at hl 0 rfl) ?_
      obtain ⟨wr, hwr⟩ := cx_T (k := k) (a := a) (r := r) (t := t) (th := th) (kd := kd) (bs := bs) (us := us) (mk := mk) (dr := dr) (M := M) (sM := sM)
      refine cal_v (wc := tbF k (a 5) (a 10) (a 11) t 256 sth) (wr := wr) (va_runVN (As := [.int (nI j)]) (rest := []) ⟨hx, hb, hml, hown, hts⟩ (c_add l D k (a 5) (a 10) (a 11) t 256 (by decide) sth j hj H.size) (cwN9 1 hts wd_45 (hK.2.1 (.methodLinkNest "StyleSheet" 31 ⟨"StyleSheet$Table", "add", "(I)V"⟩ "StyleSheet") (by decide)) wd_44 ws_0 wd_2 (by decide) ⟨Nat.le_of_ble_eq_true rfl, Nat.le_of_ble_eq_true rfl⟩) (prV (q0 := 0) (ci := ciTb) hK hP hD (hwr _) rfl rfl) rfl rfl hl.1 rfl (lv_room (Nat.le_of_ble_eq_true rfl)) d_S_numberOfDraft_47 ⟨by decide, by decide⟩) (hwr _) hP hD hS hA (fun w1 H locs hw hpd hS => ?_)
      subst hw
      obtain ⟨hP, hD⟩ := hpd (cxW k a r t th kd bs us (upd sth j (nI 1)) mk dr M sM) (hwr _).symm
      refine lv_aload_n hx hb d_S_numberOfDraft_50 rfl (lv_at hl 2 rfl) ?_
      refine va_get (D := D) (ci := ciSS) (v := .ref (a 7)) (C := RS) (T := TS) (N := 7) hx hb hts inS hown hK.1 hP 0 rfl rfl 6 (by decide) (hts _ wd_52) (fun _ h9 => h9) rfl d_S_numberOfDraft_51 ?_
      refine lv_iconst (v := nI 0) hx hb d_S_numberOfDraft_54 (by decide) ?_
      refine lv_aload_n hx hb d_S_numberOfDraft_55 rfl (lv_at hl 2 rfl) ?_
      refine va_get (D := D) (ci := ciSS) (v := .ref (a 5)) (C := RS) (T := TS) (N := 7) hx hb hts inS hown hK.1 hP 0 rfl rfl 4 (by decide) (hts _ wd_50) (fun _ h9 => h9) rfl d_S_numberOfDraft_56 ?_
      refine va_getN (D := D) (ci := ciTb) (v := .ref (a 11)) (C := RT) (T := TT) (N := 2) hx hb hts inT hown hK.1 hP 5 rfl rfl 1 (by decide) (va_Nw.use rfl (hK.2.1 (.fieldLinkNest "StyleSheet" 81 "StyleSheet$Table" "values" "[[I" "StyleSheet") (by decide))) (fun _ h9 => h9) rfl d_S_numberOfDraft_59 ?_
      refine lv_iload_n hx hb d_S_numberOfDraft_62 rfl (lv_at hl 0 rfl) ?_
      refine rw_aald hx hb hK.1 hP 11 2 rfl rfl (j := j) (y := t j) (by omega) (by decide) (gOut_at (by omega)) d_S_numberOfDraft_63 ?_
      refine lv_iconst (v := nI 0) hx hb d_S_numberOfDraft_64 (by decide) ?_
      refine lv_bipush (v := nI 24) hx hb d_S_numberOfDraft_65 (by decide) ?_
      refine rw_copy hx hb (hml.trans hl.1.symm) hown (hts _ wd_340) (hts _ wd_342) (hts _ wd_341) (hts _ wd_11) hK.1 hP hD hS 7 (76 + j) 0 rfl (cx_rowT hj) rfl (Nat.le_of_ble_eq_true rfl) (Nat.le_of_ble_eq_true rfl) d_S_numberOfDraft_67 (cx_setT hj) (fun H locs hP hD hS => ?_)
      have hP := cx_cellT (g := dr) (fun p hp => sb_cpy0 hp) hP
      have hD := cx_adrT (sM' := va_up sM j dr) hD
      refine lv_iload_n hx hb d_S_numberOfDraft_70 rfl (lv_at hl 0 rfl) ?_
      exact hret _ _ _ _ _ _ _ _ d_S_numberOfDraft_71 (Or.inr ⟨c14, j, hj, hg, rfl, rfl⟩) hP hD hS (by decide) (by decide)
    · skip
      exact th_S hQ hx hb hl9 hlk htb hown (by decide) xn_fit (hts _ wd_198) (hts _ wd_9) (xa_S hts hK.2.1) (xg_S 56) hE 8 rfl ⟨rfl, c14, c29, rfl⟩ hP hD hS (hl.1.trans hml.symm) d_S_numberOfDraft_32 d_S_numberOfDraft_35 d_S_numberOfDraft_36 d_S_numberOfDraft_38 d_S_numberOfDraft_41 (by decide) (by decide) (by decide) (by decide) (by decide) (by decide)
  · skip
    refine lv_iload_n hx hb d_S_numberOfDraft_17 rfl (lv_at hl 0 rfl) ?_
    exact hret _ _ _ _ _ _ _ _ d_S_numberOfDraft_18 (Or.inl ⟨c14, rfl, rfl⟩) hP hD hS (by decide) (by decide)
end
section
/-! what the calls answer -/
def kdB (x : Int32) : Bool := decide (x = 0) || decide (x = nI 1)
def cdMk (th kd : Nat → Int32) (x y : Int32) : Nat := if kdB x = true then (if okB th kd y x = true then (if frF th 64 = -1 then 2 else 0) else 1) else 1
def cdDr (th : Nat → Int32) (x : Int32) : Nat := if hsB 64 th x = true then 0 else 1
def cdRb (th kd : Nat → Int32) (x y : Int32) : Nat := if hsB 64 th x = true then (if okB th kd y (kd x.toNatClampNeg) = true then 0 else 2) else 1
def cdOw (th : Nat → Int32) (x y v : Int32) : Nat := if hsB 64 th x = true then (if prB y = true then (if nvB y v = true then 0 else 2) else 2) else 1
def cdVa (th : Nat → Int32) (x y : Int32) : Nat := if hsB 64 th x = true then (if prB y = true then 0 else 2) else 1
def whB (x : Int32) : Bool := decide (x = nI 0) || (decide (x = nI 1) || (decide (x = nI 2) || (decide (x = nI 3) || decide (x = nI 4))))
def cdSt (th : Nat → Int32) (x y : Int32) : Nat := if hsB 64 th x = true then (if whB y = true then 0 else 2) else 1
def cdUs (y v : Int32) : Nat := if prB y = true then (if vlB y v = true then 0 else 1) else 1
def fuB (sth dr : Nat → Int32) (sM : Nat → Nat → Int32) : Bool := decide (ndF sth dr sM = -1) && decide (frF sth 256 = -1)
def cdGe (sth : Nat → Int32) (x y : Int32) : Nat := if hsB 256 sth x = true then (if prB y = true then 0 else 2) else 1
def cdRe (th kd sth : Nat → Int32) (x c q y : Int32) : Nat := if hsB 256 sth x = true then (if okB th kd c (nI 0) = true then (if okB th kd q (nI 1) = true then (if prB y = true then 0 else 2) else 2) else 2) else 1
def cdDi (th kd sth : Nat → Int32) (x y c q : Int32) : Nat := if hsB 256 sth x = true then (if hsB 256 sth y = true then (if okB th kd c (nI 0) = true then (if okB th kd q (nI 1) = true then 0 else 2) else 2) else 1) else 1
def cdMa (sth : Nat → Int32) (x : Int32) : Nat := if hsB 256 sth x = true then 0 else 1
def cdWi (sth : Nat → Int32) (x y v : Int32) (fu : Bool) : Nat := if hsB 256 sth x = true then (if prB y = true then (if nvB y v = true then (if fu = true then 3 else 0) else 2) else 2) else 1
def cdOv (sth : Nat → Int32) (x y : Int32) (fu : Bool) : Nat := if hsB 256 sth x = true then (if hsB 256 sth y = true then (if fu = true then 2 else 0) else 1) else 1
def cdLe (th kd sth : Nat → Int32) (x c q : Int32) (fu : Bool) : Nat := if hsB 256 sth x = true then (if okB th kd c (nI 0) = true then (if okB th kd q (nI 1) = true then (if fu = true then 3 else 0) else 2) else 2) else 1
/-- bases and count of a drop, i styles seen -/
def dbF (th : Nat → Int32) (s0 : Nat) (bs : Nat → Int32) : Nat → (Nat → Int32)
  | 0 => bs
  | i + 1 => if (decide (th i ≠ 0) && decide (dbF th s0 bs i i = nI s0)) = true then upd (dbF th s0 bs i) i (dbF th s0 bs i s0) else dbF th s0 bs i
def dnB (th : Nat → Int32) (s0 : Nat) (bs : Nat → Int32) : Nat → Bool := fun i => decide (th i ≠ 0) && decide (dbF th s0 bs i i = nI s0)
theorem dbF_t {th : Nat → Int32} {s0 : Nat} {bs : Nat → Int32} {i : Nat} (h : dnB th s0 bs i = true) : upd (dbF th s0 bs i) i (dbF th s0 bs i s0) = dbF th s0 bs (i + 1) := by
  simp only [dbF]; rw [if_pos (show (decide (th i ≠ 0) && decide (dbF th s0 bs i i = nI s0)) = true from h)]
theorem dbF_f {th : Nat → Int32} {s0 : Nat} {bs : Nat → Int32} {i : Nat} (h : dnB th s0 bs i = false) : dbF th s0 bs i = dbF th s0 bs (i + 1) := by
  simp only [dbF]; rw [if_neg (by rw [show (decide (th i ≠ 0) && decide (dbF th s0 bs i i = nI s0)) = false from h]; decide)]
/-- the first i of dr are g's -/
def pfF (g dr : Nat → Int32) (i : Nat) : Nat → Int32 := fun p => if p < i then g p else dr p
theorem pfF_0 (g dr : Nat → Int32) : pfF g dr 0 = dr := by funext p; simp [pfF]
theorem pfF_s {g dr : Nat → Int32} {i : Nat} {x : Int32} (h : x = g i) : upd (pfF g dr i) i x = pfF g dr (i + 1) := by
  subst h
  funext p
  by_cases h : p = i
  · simp [upd, pfF, h]
  · by_cases h2 : p < i
    · simp [upd, pfF, h, h2, Nat.lt_succ_of_lt h2]
    · simp [upd, pfF, h, h2, show ¬ p < i + 1 by omega]
def wiG (sM : Nat → Nat → Int32) (j p9 : Nat) (v : Int32) : Nat → Int32 := fun q => if q = p9 then v else sM j q
def ovG (sM : Nat → Nat → Int32) (j j2 : Nat) : Nat → Int32 := fun q => if sM j2 q = -1 then sM j q else sM j2 q
def leG (th bs us : Nat → Int32) (M sM : Nat → Nat → Int32) (j : Nat) (c q9 : Int32) : Nat → Int32 := fun q => if sM j q = rbF th bs us M c q9 q then -1 else sM j q
def swB (sth mk : Nat → Int32) : Nat → Bool := fun a => decide (a ≠ 0) && (decide (sth a ≠ 0) && decide (mk a = 0))
def swT (sth mk : Nat → Int32) (i : Nat) : Nat → Int32 := fun a => if a < i ∧ swB sth mk a = true then nI 0 else sth a
def swM (sth mk : Nat → Int32) (sM : Nat → Nat → Int32) (i : Nat) : Nat → Nat → Int32 := fun a => if a < i ∧ swB sth mk a = true then (fun _ => -1) else sM a
def swK (mk : Nat → Int32) (i : Nat) : Nat → Int32 := fun a => if a < i then nI 0 else mk a
theorem swT_0 (sth mk : Nat → Int32) : swT sth mk 0 = sth := by funext a; simp [swT]
theorem swM_0 (sth mk : Nat → Int32) (sM : Nat → Nat → Int32) : swM sth mk sM 0 = sM := by funext a; simp [swM]
theorem swK_0 (mk : Nat → Int32) : swK mk 0 = mk := by funext a; simp [swK]
theorem sw_lt {P : Prop} {a i : Nat} (h : a ≠ i) : (a < i + 1 ∧ P) ↔ (a < i ∧ P) := ⟨fun q => ⟨by omega, q.2⟩, fun q => ⟨by omega, q.2⟩⟩
theorem swT_t {sth mk : Nat → Int32} {i : Nat} (h : swB sth mk i = true) : upd (swT sth mk i) i (nI 0) = swT sth mk (i + 1) := by
  funext a
  by_cases e : a = i
  · subst e; simp [upd, swT, h]
  · simp only [upd, swT, if_neg e, sw_lt e]
theorem swM_t {sth mk : Nat → Int32} {sM : Nat → Nat → Int32} {i : Nat} (h : swB sth mk i = true) : va_up (swM sth mk sM i) i (fun _ => -1) = swM sth mk sM (i + 1) := by
  funext a
  by_cases e : a = i
  · subst e; simp [va_up, swM, h]
  · simp only [va_up, swM, if_neg e, sw_lt e]
theorem swT_f {sth mk : Nat → Int32} {i : Nat} (h : swB sth mk i = false) : swT sth mk i = swT sth mk (i + 1) := by
  funext a
  by_cases e : a = i
  · subst e; simp [swT, h]
  · simp only [swT, sw_lt e]
theorem swM_f {sth mk : Nat → Int32} {sM : Nat → Nat → Int32} {i : Nat} (h : swB sth mk i = false) : swM sth mk sM i = swM sth mk sM (i + 1) := by
  funext a
  by_cases e : a = i
  · subst e; simp [swM, h]
  · simp only [swM, sw_lt e]
theorem swK_s (mk : Nat → Int32) (i : Nat) : upd (swK mk i) i (nI 0) = swK mk (i + 1) := by
  funext a
  by_cases e : a = i
  · subst e; simp [upd, swK]
  · by_cases h2 : a < i
    · simp [upd, swK, e, h2, Nat.lt_succ_of_lt h2]
    · simp [upd, swK, e, h2, show ¬ a < i + 1 by omega]
theorem swT_at (sth mk : Nat → Int32) (i : Nat) : swT sth mk i i = sth i := by simp [swT]
theorem swK_at (mk : Nat → Int32) (i : Nat) : swK mk i i = mk i := by simp [swK]
theorem sw5 (x : Int32) : x = nI 0 ∨ x = nI 1 ∨ x = nI 2 ∨ x = nI 3 ∨ x = nI 4 ∨ ((x.toInt < 0 ∨ 4 < x.toInt) ∧ whB x = false) := by
  by_cases h0 : x = nI 0
  · exact Or.inl h0
  by_cases h1 : x = nI 1
  · exact Or.inr (Or.inl h1)
  by_cases h2 : x = nI 2
  · exact Or.inr (Or.inr (Or.inl h2))
  by_cases h3 : x = nI 3
  · exact Or.inr (Or.inr (Or.inr (Or.inl h3)))
  by_cases h4 : x = nI 4
  · exact Or.inr (Or.inr (Or.inr (Or.inr (Or.inl h4))))
  refine Or.inr (Or.inr (Or.inr (Or.inr (Or.inr ⟨?_, by simp [whB, h0, h1, h2, h3, h4]⟩))))
  by_cases hn : x < 0
  · left; rw [Int32.lt_iff_toInt_lt] at hn; exact hn
  · right
    obtain ⟨j, hj, rfl⟩ := nI_of hn
    rw [nI_toInt hj]
    have e : ∀ m, nI j ≠ nI m → j ≠ m := fun m h q => h (by rw [q])
    have := e 0 h0; have := e 1 h1; have := e 2 h2; have := e 3 h3; have := e 4 h4
    omega
def obF (th bs : Nat → Int32) (x : Int32) : Nat := cnF (fun i => decide (¬ nI i = x) && ocF th bs x 64 (nI i)) 64
def viF (M : Nat → Nat → Int32) (j : Nat) : Nat := cnF (fun p => decide (M j p ≠ -1)) 24
def stF (th kd bs : Nat → Int32) (M : Nat → Nat → Int32) (j : Nat) (y : Int32) : Int32 :=
  if y = nI 0 then nI (chF th bs 64 (nI j)) else if y = nI 1 then nI (obF th bs (nI j)) else if y = nI 2 then bs j else if y = nI 3 then kd j else nI (viF M j)
def coF (th bs sth : Nat → Int32) (M sM : Nat → Nat → Int32) (y : Int32) : Int32 :=
  if y = nI 0 then nI (cnF (fun i => decide (th i ≠ 0)) 64) else if y = nI 1 then nI (cnF (fun i => decide (sth i ≠ 0)) 256) else if y = nI 2 then nI (smF (fun i => cnF (fun p => decide (M i p ≠ -1)) 24) 64) else if y = nI 3 then nI (smF (fun i => cnF (fun p => decide (sM i p ≠ -1)) 24) 256) else if y = nI 4 then nI (mxF (fun i => chF th bs 64 (nI i)) 64) else -1

set_option maxRecDepth 100000 in
set_option maxHeartbeats 4000000 in
theorem c_make (l : Launch) (D : va_G) (k : Nat → ClassId) (a r t : Nat → Nat) (th kd bs us sth mk dr : Nat → Int32) (M sM : Nat → Nat → Int32) (sa : Nat → Nat) (hl9 : l.stackTraces = false) (x y : Int32) (sz : Nat) : bXI l y_S_make (wY y_S_make b_S_make 4 (some .int)) (rm9 8 2 12) Sts sa D (tsK k) (cxW k a r t th kd bs us sth mk dr M sM) sz [.ref (a 0), .int x, .int y] (fun v w => cdMk th kd x y = 0 ∧ ∃ j : Nat, j < 64 ∧ frF th 64 = nI j ∧ v = nI j ∧ w = cxW k a r t (upd th j (nI 1)) (upd kd j x) (upd bs j y) us sth mk dr M sM) (fun E w => ((E = "java/lang/IllegalArgumentException" ∧ cdMk th kd x y = 1) ∨ (E = "java/lang/IllegalStateException" ∧ cdMk th kd x y = 2)) ∧ w = cxW k a r t th kd bs us sth mk dr M sM) 2 12 := by
  refine ent_xi (cc := b_S_make) (maxL := 4) (ty := .int) (by decide) (Nat.le_of_ble_eq_true rfl) (fun _ _ _ => rfl) ?_
  intro p e s m args below meth c A Q ls hx hb hml hown hts hsz hA hP hD hS hK hl hlk htb hE hQ hret
  refine lv_iload_n hx hb d_S_make_0 rfl (lv_at hl 1 rfl) ?_
  refine lv_if_eq (tgt := 19) hx hb d_S_make_1 (by decide) (fun c1 => ?_) (fun c1 => ?_)
  · skip
    have hkd : kdB x = true := by simp [kdB, c1]
    refine lv_aload_n hx hb d_S_make_19 rfl (lv_at hl 0 rfl) ?_
    refine lv_iload_n hx hb d_S_make_20 rfl (lv_at hl 2 rfl) ?_
    refine lv_iload_n hx hb d_S_make_21 rfl (lv_at hl 1 rfl) ?_
    refine cax_v (wc := cxW k a r t th kd bs us sth mk dr M sM) (wr := []) (vx_runV (As := [.int y, .int x]) (rest := []) ⟨hx, hb, hml, hown, hts⟩ (c_requireNoneOrOfKind l D k a r t th kd bs us sth mk dr M sM sa hl9 y x s.heap.size) (cwV9 2 hts wd_192 wd_189 wd_191 ws_9 wd_1 (by decide) ⟨Nat.le_of_ble_eq_true rfl, Nat.le_of_ble_eq_true rfl⟩) (prVx (q0 := 0) (ci := ciSS) hE hS hA hK hP hD (pm_nil' _) rfl rfl) rfl rfl hl.1 rfl (lv_room (Nat.le_of_ble_eq_true rfl)) d_S_make_22 ⟨by decide, by decide⟩) (pm_nil' _) hP hD hS hA (fun E9 ce9 ad9 w1 H locs hpx hpd hS hce hcv hcl => ?_) (fun w1 H locs hw hpd hS => ?_)
    · skip
      obtain ⟨rfl, h9, rfl⟩ := hpx
      obtain ⟨hP, hD⟩ := hpd (cxW k a r t th kd bs us sth mk dr M sM) (pm_nil _)
      exact ps_x hQ hlk htb ⟨Or.inl ⟨rfl, by simp [cdMk, hkd, h9]⟩, rfl⟩ hP hD hS hce hcv hcl (by decide) (by decide)
    obtain ⟨rfl, ho⟩ := hw
    obtain ⟨hP, hD⟩ := hpd (cxW k a r t th kd bs us sth mk dr M sM) (pm_nil _)
    refine W.widen (k := 1) (n := 6) (by decide) (by decide) ?_
    refine lv_aload_n hx hb d_S_make_25 rfl (lv_at hl 0 rfl) ?_
    refine va_get (D := D) (ci := ciSS) (v := .ref (a 1)) (C := RS) (T := TS) (N := 7) hx hb hts inS hown hK.1 hP 0 rfl rfl 0 (by decide) (hts _ wd_46) (fun _ h9 => h9) rfl d_S_make_26 ?_
    obtain ⟨wr, hwr⟩ := cx_S (k := k) (a := a) (r := r) (t := t) (kd := kd) (bs := bs) (us := us) (sth := sth) (mk := mk) (dr := dr) (M := M) (sM := sM)
    refine cal_i (wc := tbF k (a 1) (a 8) (a 9) r 64 th) (wr := wr) (va_runVN (As := []) (rest := []) ⟨hx, hb, hml, hown, hts⟩ (c_leastFree l D k (a 1) (a 8) (a 9) r 64 (by decide) th  H.size) (cwN9 0 hts wd_197 (hK.2.1 (.methodLinkNest "StyleSheet" 52 ⟨"StyleSheet$Table", "leastFree", "()I"⟩ "StyleSheet") (by decide)) wd_196 ws_10 wd_2 (by decide) ⟨Nat.le_of_ble_eq_true rfl, Nat.le_of_ble_eq_true rfl⟩) (prV (q0 := 0) (ci := ciTb) hK hP hD (hwr _) rfl rfl) rfl rfl hl.1 rfl (lv_room (Nat.le_of_ble_eq_true rfl)) d_S_make_29 ⟨by decide, by decide⟩) (hwr _) hP hD hS hA (fun r w1 H locs hw hpd hS => ?_)
    obtain ⟨rfl, rfl⟩ := hw
    rw [show fdF (fun i => decide (th i = 0)) 64 0 = frF th 64 from rfl]
    obtain ⟨hP, hD⟩ := hpd (cxW k a r t th kd bs us sth mk dr M sM) (hwr _).symm
    refine lv_istore_n (lv' := [(3, .int (frF th 64)), (0, .ref (a 0)), (1, .int x), (2, .int y)]) hx hb d_S_make_32 rfl hl (by decide) rfl (fun ls hl => ?_)
    refine lv_iload_n hx hb d_S_make_33 rfl (lv_at hl 0 rfl) ?_
    refine lv_iconst (v := -1) hx hb d_S_make_34 (by decide) ?_
    refine lv_icmp_ne (tgt := 48) hx hb d_S_make_35 (by decide) (fun c35 => ?_) (fun c35 => ?_)
    · skip
      rcases fdF_in (f := fun i => decide (th i = 0)) 64 0 with hg | ⟨j, -, hj, hg, hj0⟩
      · exact absurd hg c35
      have hj : j < 64 := by omega
      rw [show frF th 64 = nI j from hg] at hl
      refine lv_aload_n hx hb d_S_make_48 rfl (lv_at hl 1 rfl) ?_
      refine va_get (D := D) (ci := ciSS) (v := .ref (a 1)) (C := RS) (T := TS) (N := 7) hx hb hts inS hown hK.1 hP 0 rfl rfl 0 (by decide) (hts _ wd_46) (fun _ h9 => h9) rfl d_S_make_49 ?_
      refine lv_iload_n hx hb d_S_make_52 rfl (lv_at hl 0 rfl) ?_
      obtain ⟨wr, hwr⟩ := cx_S (k := k) (a := a) (r := r) (t := t) (kd := kd) (bs := bs) (us := us) (sth := sth) (mk := mk) (dr := dr) (M := M) (sM := sM)
      refine cal_v (wc := tbF k (a 1) (a 8) (a 9) r 64 th) (wr := wr) (va_runVN (As := [.int (nI j)]) (rest := []) ⟨hx, hb, hml, hown, hts⟩ (c_add l D k (a 1) (a 8) (a 9) r 64 (by decide) th j hj H.size) (cwN9 1 hts wd_45 (hK.2.1 (.methodLinkNest "StyleSheet" 31 ⟨"StyleSheet$Table", "add", "(I)V"⟩ "StyleSheet") (by decide)) wd_44 ws_0 wd_2 (by decide) ⟨Nat.le_of_ble_eq_true rfl, Nat.le_of_ble_eq_true rfl⟩) (prV (q0 := 0) (ci := ciTb) hK hP hD (hwr _) rfl rfl) rfl rfl hl.1 rfl (lv_room (Nat.le_of_ble_eq_true rfl)) d_S_make_53 ⟨by decide, by decide⟩) (hwr _) hP hD hS hA (fun w1 H locs hw hpd hS => ?_)
      subst hw
      obtain ⟨hP, hD⟩ := hpd (cxW k a r t (upd th j (nI 1)) kd bs us sth mk dr M sM) (hwr _).symm
      refine lv_aload_n hx hb d_S_make_56 rfl (lv_at hl 1 rfl) ?_
      refine va_get (D := D) (ci := ciSS) (v := .ref (a 2)) (C := RS) (T := TS) (N := 7) hx hb hts inS hown hK.1 hP 0 rfl rfl 1 (by decide) (hts _ wd_47) (fun _ h9 => h9) rfl d_S_make_57 ?_
      refine lv_iload_n hx hb d_S_make_60 rfl (lv_at hl 0 rfl) ?_
      refine lv_iload_n hx hb d_S_make_61 rfl (lv_at hl 2 rfl) ?_
      refine rw_iast hx hb hK.1 hP hD hS 2 0 rfl rfl (j := j) (by omega) (by decide) d_S_make_62 (wn := cxW k a r t (upd th j (nI 1)) (upd kd j x) bs us sth mk dr M sM) rfl (fun H locs hP hD hS => ?_)
      refine lv_aload_n hx hb d_S_make_63 rfl (lv_at hl 1 rfl) ?_
      refine va_get (D := D) (ci := ciSS) (v := .ref (a 3)) (C := RS) (T := TS) (N := 7) hx hb hts inS hown hK.1 hP 0 rfl rfl 2 (by decide) (hts _ wd_48) (fun _ h9 => h9) rfl d_S_make_64 ?_
      refine lv_iload_n hx hb d_S_make_67 rfl (lv_at hl 0 rfl) ?_
      refine lv_iload_n hx hb d_S_make_68 rfl (lv_at hl 3 rfl) ?_
      refine rw_iast hx hb hK.1 hP hD hS 3 0 rfl rfl (j := j) (by omega) (by decide) d_S_make_69 (wn := cxW k a r t (upd th j (nI 1)) (upd kd j x) (upd bs j y) us sth mk dr M sM) rfl (fun H locs hP hD hS => ?_)
      refine lv_iload_n hx hb d_S_make_70 rfl (lv_at hl 0 rfl) ?_
      exact hret _ _ _ _ _ _ _ _ d_S_make_71 ⟨by simp [cdMk, hkd, ho, c35], j, hj, hg, rfl, rfl⟩ hP hD hS (by decide) (by decide)
    · skip
      exact th_S hQ hx hb hl9 hlk htb hown (by decide) xn_fit (hts _ wd_198) (hts _ wd_9) (xa_S hts hK.2.1) (xg_S 56) hE 2 rfl ⟨Or.inr (⟨rfl, by simp [cdMk, hkd, ho, c35]⟩), rfl⟩ hP hD hS (hl.1.trans hml.symm) d_S_make_38 d_S_make_41 d_S_make_42 d_S_make_44 d_S_make_47 (by decide) (by decide) (by decide) (by decide) (by decide) (by decide)
  · skip
    refine lv_iload_n hx hb d_S_make_4 rfl (lv_at hl 1 rfl) ?_
    refine lv_iconst (v := nI 1) hx hb d_S_make_5 (by decide) ?_
    refine lv_icmp_eq (tgt := 19) hx hb d_S_make_6 (by decide) (fun c6 => ?_) (fun c6 => ?_)
    · skip
      have hkd : kdB x = true := by simp [kdB, c6]
      refine lv_aload_n hx hb d_S_make_19 rfl (lv_at hl 0 rfl) ?_
      refine lv_iload_n hx hb d_S_make_20 rfl (lv_at hl 2 rfl) ?_
      refine lv_iload_n hx hb d_S_make_21 rfl (lv_at hl 1 rfl) ?_
      refine cax_v (wc := cxW k a r t th kd bs us sth mk dr M sM) (wr := []) (vx_runV (As := [.int y, .int x]) (rest := []) ⟨hx, hb, hml, hown, hts⟩ (c_requireNoneOrOfKind l D k a r t th kd bs us sth mk dr M sM sa hl9 y x s.heap.size) (cwV9 2 hts wd_192 wd_189 wd_191 ws_9 wd_1 (by decide) ⟨Nat.le_of_ble_eq_true rfl, Nat.le_of_ble_eq_true rfl⟩) (prVx (q0 := 0) (ci := ciSS) hE hS hA hK hP hD (pm_nil' _) rfl rfl) rfl rfl hl.1 rfl (lv_room (Nat.le_of_ble_eq_true rfl)) d_S_make_22 ⟨by decide, by decide⟩) (pm_nil' _) hP hD hS hA (fun E9 ce9 ad9 w1 H locs hpx hpd hS hce hcv hcl => ?_) (fun w1 H locs hw hpd hS => ?_)
      · skip
        obtain ⟨rfl, h9, rfl⟩ := hpx
        obtain ⟨hP, hD⟩ := hpd (cxW k a r t th kd bs us sth mk dr M sM) (pm_nil _)
        exact ps_x hQ hlk htb ⟨Or.inl ⟨rfl, by simp [cdMk, hkd, h9]⟩, rfl⟩ hP hD hS hce hcv hcl (by decide) (by decide)
      obtain ⟨rfl, ho⟩ := hw
      obtain ⟨hP, hD⟩ := hpd (cxW k a r t th kd bs us sth mk dr M sM) (pm_nil _)
      refine W.widen (k := 1) (n := 6) (by decide) (by decide) ?_
      refine lv_aload_n hx hb d_S_make_25 rfl (lv_at hl 0 rfl) ?_
      refine va_get (D := D) (ci := ciSS) (v := .ref (a 1)) (C := RS) (T := TS) (N := 7) hx hb hts inS hown hK.1 hP 0 rfl rfl 0 (by decide) (hts _ wd_46) (fun _ h9 => h9) rfl d_S_make_26 ?_
      obtain ⟨wr, hwr⟩ := cx_S (k := k) (a := a) (r := r) (t := t) (kd := kd) (bs := bs) (us := us) (sth := sth) (mk := mk) (dr := dr) (M := M) (sM := sM)
      refine cal_i (wc := tbF k (a 1) (a 8) (a 9) r 64 th) (wr := wr) (va_runVN (As := []) (rest := []) ⟨hx, hb, hml, hown, hts⟩ (c_leastFree l D k (a 1) (a 8) (a 9) r 64 (by decide) th  H.size) (cwN9 0 hts wd_197 (hK.2.1 (.methodLinkNest "StyleSheet" 52 ⟨"StyleSheet$Table", "leastFree", "()I"⟩ "StyleSheet") (by decide)) wd_196 ws_10 wd_2 (by decide) ⟨Nat.le_of_ble_eq_true rfl, Nat.le_of_ble_eq_true rfl⟩) (prV (q0 := 0) (ci := ciTb) hK hP hD (hwr _) rfl rfl) rfl rfl hl.1 rfl (lv_room (Nat.le_of_ble_eq_true rfl)) d_S_make_29 ⟨by decide, by decide⟩) (hwr _) hP hD hS hA (fun r w1 H locs hw hpd hS => ?_)
      obtain ⟨rfl, rfl⟩ := hw
      rw [show fdF (fun i => decide (th i = 0)) 64 0 = frF th 64 from rfl]
      obtain ⟨hP, hD⟩ := hpd (cxW k a r t th kd bs us sth mk dr M sM) (hwr _).symm
      refine lv_istore_n (lv' := [(3, .int (frF th 64)), (0, .ref (a 0)), (1, .int x), (2, .int y)]) hx hb d_S_make_32 rfl hl (by decide) rfl (fun ls hl => ?_)
      refine lv_iload_n hx hb d_S_make_33 rfl (lv_at hl 0 rfl) ?_
      refine lv_iconst (v := -1) hx hb d_S_make_34 (by decide) ?_
      refine lv_icmp_ne (tgt := 48) hx hb d_S_make_35 (by decide) (fun c35 => ?_) (fun c35 => ?_)
      · skip
        rcases fdF_in (f := fun i => decide (th i = 0)) 64 0 with hg | ⟨j, -, hj, hg, hj0⟩
        · exact absurd hg c35
        have hj : j < 64 := by omega
        rw [show frF th 64 = nI j from hg] at hl
        refine lv_aload_n hx hb d_S_make_48 rfl (lv_at hl 1 rfl) ?_
        refine va_get (D := D) (ci := ciSS) (v := .ref (a 1)) (C := RS) (T := TS) (N := 7) hx hb hts inS hown hK.1 hP 0 rfl rfl 0 (by decide) (hts _ wd_46) (fun _ h9 => h9) rfl d_S_make_49 ?_
        refine lv_iload_n hx hb d_S_make_52 rfl (lv_at hl 0 rfl) ?_
        obtain ⟨wr, hwr⟩ := cx_S (k := k) (a := a) (r := r) (t := t) (kd := kd) (bs := bs) (us := us) (sth := sth) (mk := mk) (dr := dr) (M := M) (sM := sM)
        refine cal_v (wc := tbF k (a 1) (a 8) (a 9) r 64 th) (wr := wr) (va_runVN (As := [.int (nI j)]) (rest := []) ⟨hx, hb, hml, hown, hts⟩ (c_add l D k (a 1) (a 8) (a 9) r 64 (by decide) th j hj H.size) (cwN9 1 hts wd_45 (hK.2.1 (.methodLinkNest "StyleSheet" 31 ⟨"StyleSheet$Table", "add", "(I)V"⟩ "StyleSheet") (by decide)) wd_44 ws_0 wd_2 (by decide) ⟨Nat.le_of_ble_eq_true rfl, Nat.le_of_ble_eq_true rfl⟩) (prV (q0 := 0) (ci := ciTb) hK hP hD (hwr _) rfl rfl) rfl rfl hl.1 rfl (lv_room (Nat.le_of_ble_eq_true rfl)) d_S_make_53 ⟨by decide, by decide⟩) (hwr _) hP hD hS hA (fun w1 H locs hw hpd hS => ?_)
        subst hw
        obtain ⟨hP, hD⟩ := hpd (cxW k a r t (upd th j (nI 1)) kd bs us sth mk dr M sM) (hwr _).symm
        refine lv_aload_n hx hb d_S_make_56 rfl (lv_at hl 1 rfl) ?_
        refine va_get (D := D) (ci := ciSS) (v := .ref (a 2)) (C := RS) (T := TS) (N := 7) hx hb hts inS hown hK.1 hP 0 rfl rfl 1 (by decide) (hts _ wd_47) (fun _ h9 => h9) rfl d_S_make_57 ?_
        refine lv_iload_n hx hb d_S_make_60 rfl (lv_at hl 0 rfl) ?_
        refine lv_iload_n hx hb d_S_make_61 rfl (lv_at hl 2 rfl) ?_
        refine rw_iast hx hb hK.1 hP hD hS 2 0 rfl rfl (j := j) (by omega) (by decide) d_S_make_62 (wn := cxW k a r t (upd th j (nI 1)) (upd kd j x) bs us sth mk dr M sM) rfl (fun H locs hP hD hS => ?_)
        refine lv_aload_n hx hb d_S_make_63 rfl (lv_at hl 1 rfl) ?_
        refine va_get (D := D) (ci := ciSS) (v := .ref (a 3)) (C := RS) (T := TS) (N := 7) hx hb hts inS hown hK.1 hP 0 rfl rfl 2 (by decide) (hts _ wd_48) (fun _ h9 => h9) rfl d_S_make_64 ?_
        refine lv_iload_n hx hb d_S_make_67 rfl (lv_at hl 0 rfl) ?_
        refine lv_iload_n hx hb d_S_make_68 rfl (lv_at hl 3 rfl) ?_
        refine rw_iast hx hb hK.1 hP hD hS 3 0 rfl rfl (j := j) (by omega) (by decide) d_S_make_69 (wn := cxW k a r t (upd th j (nI 1)) (upd kd j x) (upd bs j y) us sth mk dr M sM) rfl (fun H locs hP hD hS => ?_)
        refine lv_iload_n hx hb d_S_make_70 rfl (lv_at hl 0 rfl) ?_
        exact hret _ _ _ _ _ _ _ _ d_S_make_71 ⟨by simp [cdMk, hkd, ho, c35], j, hj, hg, rfl, rfl⟩ hP hD hS (by decide) (by decide)
      · skip
        exact th_S hQ hx hb hl9 hlk htb hown (by decide) xn_fit (hts _ wd_198) (hts _ wd_9) (xa_S hts hK.2.1) (xg_S 56) hE 2 rfl ⟨Or.inr (⟨rfl, by simp [cdMk, hkd, ho, c35]⟩), rfl⟩ hP hD hS (hl.1.trans hml.symm) d_S_make_38 d_S_make_41 d_S_make_42 d_S_make_44 d_S_make_47 (by decide) (by decide) (by decide) (by decide) (by decide) (by decide)
    · skip
      exact th_S hQ hx hb hl9 hlk htb hown (by decide) xn_fit (hts _ wd_121) (hts _ wd_8) (xa_I hts hK.2.1) (xg_I 41) hE 0 rfl ⟨Or.inl ⟨rfl, by simp [cdMk, kdB, c1, c6]⟩, rfl⟩ hP hD hS (hl.1.trans hml.symm) d_S_make_9 d_S_make_12 d_S_make_13 d_S_make_15 d_S_make_18 (by decide) (by decide) (by decide) (by decide) (by decide) (by decide)

set_option maxRecDepth 100000 in
set_option maxHeartbeats 4000000 in
theorem c_drop (l : Launch) (D : va_G) (k : Nat → ClassId) (a r t : Nat → Nat) (th kd bs us sth mk dr : Nat → Int32) (M sM : Nat → Nat → Int32) (sa : Nat → Nat) (hl9 : l.stackTraces = false) (x : Int32) (sz : Nat) : bXI l y_S_drop (wY y_S_drop b_S_drop 4 (some .int)) (rm9 8 1 6) Sts sa D (tsK k) (cxW k a r t th kd bs us sth mk dr M sM) sz [.ref (a 0), .int x] (fun v w => ∃ s0 : Nat, s0 < 64 ∧ x = nI s0 ∧ hsB 64 th (nI s0) = true ∧ v = nI (cnF (dnB th s0 bs) 64) ∧ w = cxW k a r t (upd th s0 (nI 0)) kd (dbF th s0 bs 64) us sth mk dr (va_up M s0 (fun _ => -1)) sM) (fun E w => ((E = "java/util/NoSuchElementException" ∧ cdDr th x = 1)) ∧ w = cxW k a r t th kd bs us sth mk dr M sM) 1 6 := by
  refine ent_xi (cc := b_S_drop) (maxL := 4) (ty := .int) (by decide) (Nat.le_of_ble_eq_true rfl) (fun _ _ _ => rfl) ?_
  intro p e s m args below meth c A Q ls hx hb hml hown hts hsz hA hP hD hS hK hl hlk htb hE hQ hret
  refine lv_aload_n hx hb d_S_drop_0 rfl (lv_at hl 0 rfl) ?_
  refine lv_iload_n hx hb d_S_drop_1 rfl (lv_at hl 1 rfl) ?_
  refine cax_v (wc := cxW k a r t th kd bs us sth mk dr M sM) (wr := []) (vx_runV (As := [.int x]) (rest := []) ⟨hx, hb, hml, hown, hts⟩ (c_requireStyle l D k a r t th kd bs us sth mk dr M sM sa hl9 x s.heap.size) (cwV9 1 hts wd_225 wd_222 wd_224 ws_11 wd_1 (by decide) ⟨Nat.le_of_ble_eq_true rfl, Nat.le_of_ble_eq_true rfl⟩) (prVx (q0 := 0) (ci := ciSS) hE hS hA hK hP hD (pm_nil' _) rfl rfl) rfl rfl hl.1 rfl (lv_room (Nat.le_of_ble_eq_true rfl)) d_S_drop_2 ⟨by decide, by decide⟩) (pm_nil' _) hP hD hS hA (fun E9 ce9 ad9 w1 H locs hpx hpd hS hce hcv hcl => ?_) (fun w1 H locs hw hpd hS => ?_)
  · skip
    obtain ⟨rfl, h9, rfl⟩ := hpx
    obtain ⟨hP, hD⟩ := hpd (cxW k a r t th kd bs us sth mk dr M sM) (pm_nil _)
    exact ps_x hQ hlk htb ⟨⟨rfl, by simp [cdDr, h9]⟩, rfl⟩ hP hD hS hce hcv hcl (by decide) (by decide)
  obtain ⟨rfl, hq⟩ := hw
  obtain ⟨hP, hD⟩ := hpd (cxW k a r t th kd bs us sth mk dr M sM) (pm_nil _)
  refine W.widen (k := 1) (n := 6) (by decide) (by decide) ?_
  obtain ⟨s0, hs0, rfl, hqt⟩ := hsB_t (by decide) hq
  refine lv_iconst (v := nI 0) hx hb d_S_drop_5 (by decide) ?_
  refine lv_istore_n (lv' := [(2, .int (nI 0)), (0, .ref (a 0)), (1, .int (nI s0))]) hx hb d_S_drop_6 rfl hl (by decide) rfl (fun ls hl => ?_)
  refine lv_iconst (v := nI 0) hx hb d_S_drop_7 (by decide) ?_
  refine lv_istore_n (lv' := [(3, .int (nI 0)), (2, .int (nI 0)), (0, .ref (a 0)), (1, .int (nI s0))]) hx hb d_S_drop_8 rfl hl (by decide) rfl (fun ls hl => ?_)
  have lp : ∀ (n9 : Nat) (i : Nat) (ls : Array Slot) (H : Heap) (locs : List Loc), 64 - i < n9 → (i ≤ 64) → va_P D vwCl (cxW k a r t th kd (dbF th s0 bs i) us sth mk dr M sM) H → va_D A (cxW k a r t th kd (dbF th s0 bs i) us sth mk dr M sM) → va_S A s.heap H locs → lv_has ls 4 [(0, .ref (a 0)), (1, .int (nI s0)), (2, .int (nI (cnF (dnB th s0 bs) i))), (3, .int (nI i))] → W p l e (rm9 8 1 6) s m args below meth c H locs 1 6 Q (F0 m 9 ls []) := by
    intro n9
    induction n9 with
    | zero => intro i ls H locs hm; omega
    | succ n9 ih =>
      intro i ls H locs hm hi hP hD hS hl
      refine lv_iload_n hx hb d_S_drop_9 rfl (lv_at hl 3 rfl) ?_
      refine lv_bipush (v := nI 64) hx hb d_S_drop_10 (by decide) ?_
      refine lv_icmp_ge (tgt := 57) hx hb d_S_drop_12 (by decide) (fun c12 => ?_) (fun c12 => ?_)
      · skip
        rw [nI_leI (by omega) (by omega)] at c12
        obtain rfl : i = 64 := by omega
        refine lv_aload_n hx hb d_S_drop_57 rfl (lv_at hl 0 rfl) ?_
        refine va_get (D := D) (ci := ciSS) (v := .ref (a 1)) (C := RS) (T := TS) (N := 7) hx hb hts inS hown hK.1 hP 0 rfl rfl 0 (by decide) (hts _ wd_46) (fun _ h9 => h9) rfl d_S_drop_58 ?_
        refine lv_iload_n hx hb d_S_drop_61 rfl (lv_at hl 1 rfl) ?_
        obtain ⟨wr, hwr⟩ := cx_SW (k := k) (a := a) (r := r) (t := t) (kd := kd) (bs := dbF th s0 bs 64) (us := us) (sth := sth) (mk := mk) (dr := dr) (sM := sM)
        refine cal_v (wc := tbW k (a 1) (a 8) (a 9) r 64 th M) (wr := wr) (va_runVN (As := [.int (nI s0)]) (rest := []) ⟨hx, hb, hml, hown, hts⟩ (c_remove l D k (a 1) (a 8) (a 9) r 64 (by decide) th M s0 hs0 H.size) (cwN9 1 hts wd_87 (hK.2.1 (.methodLinkNest "StyleSheet" 68 ⟨"StyleSheet$Table", "remove", "(I)V"⟩ "StyleSheet") (by decide)) wd_86 ws_3 wd_2 (by decide) ⟨Nat.le_of_ble_eq_true rfl, Nat.le_of_ble_eq_true rfl⟩) (prV (q0 := 0) (ci := ciTb) hK hP hD (hwr _ _) rfl rfl) rfl rfl hl.1 rfl (lv_room (Nat.le_of_ble_eq_true rfl)) d_S_drop_62 ⟨by decide, by decide⟩) (hwr _ _) hP hD hS hA (fun w1 H locs hw hpd hS => ?_)
        subst hw
        obtain ⟨hP, hD⟩ := hpd (cxW k a r t (upd th s0 (nI 0)) kd (dbF th s0 bs 64) us sth mk dr (va_up M s0 (fun _ => -1)) sM) (hwr _ _).symm
        refine lv_iload_n hx hb d_S_drop_65 rfl (lv_at hl 2 rfl) ?_
        exact hret _ _ _ _ _ _ _ _ d_S_drop_66 ⟨s0, hs0, rfl, hq, rfl, rfl⟩ hP hD hS (by decide) (by decide)
      · skip
        rw [nI_leI (by omega) (by omega)] at c12
        refine lv_aload_n hx hb d_S_drop_15 rfl (lv_at hl 0 rfl) ?_
        refine va_get (D := D) (ci := ciSS) (v := .ref (a 1)) (C := RS) (T := TS) (N := 7) hx hb hts inS hown hK.1 hP 0 rfl rfl 0 (by decide) (hts _ wd_46) (fun _ h9 => h9) rfl d_S_drop_16 ?_
        refine lv_iload_n hx hb d_S_drop_19 rfl (lv_at hl 3 rfl) ?_
        obtain ⟨wr, hwr⟩ := cx_S (k := k) (a := a) (r := r) (t := t) (kd := kd) (bs := dbF th s0 bs i) (us := us) (sth := sth) (mk := mk) (dr := dr) (M := M) (sM := sM)
        refine cal_i (wc := tbF k (a 1) (a 8) (a 9) r 64 th) (wr := wr) (va_runVN (As := [.int (nI i)]) (rest := []) ⟨hx, hb, hml, hown, hts⟩ (c_has l D k (a 1) (a 8) (a 9) r 64 (by decide) th (nI i) H.size) (cwN9 1 hts wd_75 (hK.2.1 (.methodLinkNest "StyleSheet" 64 ⟨"StyleSheet$Table", "has", "(I)Z"⟩ "StyleSheet") (by decide)) wd_74 ws_1 wd_2 (by decide) ⟨Nat.le_of_ble_eq_true rfl, Nat.le_of_ble_eq_true rfl⟩) (prV (q0 := 0) (ci := ciTb) hK hP hD (hwr _) rfl rfl) rfl rfl hl.1 rfl (lv_room (Nat.le_of_ble_eq_true rfl)) d_S_drop_20 ⟨by decide, by decide⟩) (hwr _) hP hD hS hA (fun r w1 H locs hw hpd hS => ?_)
        obtain ⟨rfl, rfl⟩ := hw
        obtain ⟨hP, hD⟩ := hpd (cxW k a r t th kd (dbF th s0 bs i) us sth mk dr M sM) (hwr _).symm
        refine lv_if_eq (tgt := 51) hx hb d_S_drop_23 (by decide) (fun c23 => ?_) (fun c23 => ?_)
        · skip
          have c23 := b_of0 c23
          rw [hsB_nI (by omega) (by decide)] at c23
          have c23 := of_decide_eq_false c23
          have hdn : dnB th s0 bs i = false := by simp [dnB, c23]
          rw [dbF_f hdn] at hP hD
          rw [cnF_f hdn] at hl
          refine lv_iinc (v := nI (i + 1)) (lv' := [(3, .int (nI (i + 1))), (0, .ref (a 0)), (1, .int (nI s0)), (2, .int (nI (cnF (dnB th s0 bs) (i + 1))))]) hx hb d_S_drop_51 hl (k := 3) rfl (ii_1 _) (by decide) rfl (fun ls hl => ?_)
          refine lv_goto (tgt := 9) hx hb d_S_drop_54 (by decide) ?_
          exact ih (i + 1) ls H locs (by omega) (by omega) hP hD hS (lv_sub hl [1, 2, 3, 0] rfl)
        · skip
          have c23 := b_of1 c23
          rw [hsB_nI (by omega) (by decide)] at c23
          have c23 := of_decide_eq_true c23
          refine lv_aload_n hx hb d_S_drop_26 rfl (lv_at hl 0 rfl) ?_
          refine va_get (D := D) (ci := ciSS) (v := .ref (a 3)) (C := RS) (T := TS) (N := 7) hx hb hts inS hown hK.1 hP 0 rfl rfl 2 (by decide) (hts _ wd_48) (fun _ h9 => h9) rfl d_S_drop_27 ?_
          refine lv_iload_n hx hb d_S_drop_30 rfl (lv_at hl 3 rfl) ?_
          refine rw_iald hx hb hK.1 hP 3 0 rfl rfl (j := i) (by omega) (by decide) d_S_drop_31 ?_
          refine lv_iload_n hx hb d_S_drop_32 rfl (lv_at hl 1 rfl) ?_
          refine lv_icmp_ne (tgt := 51) hx hb d_S_drop_33 (by decide) (fun c33 => ?_) (fun c33 => ?_)
          · skip
            have hdn : dnB th s0 bs i = false := by simp [dnB, c33]
            rw [dbF_f hdn] at hP hD
            rw [cnF_f hdn] at hl
            refine lv_iinc (v := nI (i + 1)) (lv' := [(3, .int (nI (i + 1))), (0, .ref (a 0)), (1, .int (nI s0)), (2, .int (nI (cnF (dnB th s0 bs) (i + 1))))]) hx hb d_S_drop_51 hl (k := 3) rfl (ii_1 _) (by decide) rfl (fun ls hl => ?_)
            refine lv_goto (tgt := 9) hx hb d_S_drop_54 (by decide) ?_
            exact ih (i + 1) ls H locs (by omega) (by omega) hP hD hS (lv_sub hl [1, 2, 3, 0] rfl)
          · skip
            refine lv_aload_n hx hb d_S_drop_36 rfl (lv_at hl 0 rfl) ?_
            refine va_get (D := D) (ci := ciSS) (v := .ref (a 3)) (C := RS) (T := TS) (N := 7) hx hb hts inS hown hK.1 hP 0 rfl rfl 2 (by decide) (hts _ wd_48) (fun _ h9 => h9) rfl d_S_drop_37 ?_
            refine lv_iload_n hx hb d_S_drop_40 rfl (lv_at hl 3 rfl) ?_
            refine lv_aload_n hx hb d_S_drop_41 rfl (lv_at hl 0 rfl) ?_
            refine va_get (D := D) (ci := ciSS) (v := .ref (a 3)) (C := RS) (T := TS) (N := 7) hx hb hts inS hown hK.1 hP 0 rfl rfl 2 (by decide) (hts _ wd_48) (fun _ h9 => h9) rfl d_S_drop_42 ?_
            refine lv_iload_n hx hb d_S_drop_45 rfl (lv_at hl 1 rfl) ?_
            refine rw_iald hx hb hK.1 hP 3 0 rfl rfl (j := s0) (by omega) (by decide) d_S_drop_46 ?_
            refine rw_iast hx hb hK.1 hP hD hS 3 0 rfl rfl (j := i) (by omega) (by decide) d_S_drop_47 (wn := cxW k a r t th kd (upd (dbF th s0 bs i) i ((dbF th s0 bs i) s0)) us sth mk dr M sM) rfl (fun H locs hP hD hS => ?_)
            refine lv_iinc (v := nI ((cnF (dnB th s0 bs) i) + 1)) (lv' := [(2, .int (nI ((cnF (dnB th s0 bs) i) + 1))), (0, .ref (a 0)), (1, .int (nI s0)), (3, .int (nI i))]) hx hb d_S_drop_48 hl (k := 2) rfl (ii_1 _) (by decide) rfl (fun ls hl => ?_)
            have hdn : dnB th s0 bs i = true := by simp [dnB, c23, c33]
            rw [dbF_t hdn] at hP hD
            rw [cnF_t hdn] at hl
            refine lv_iinc (v := nI (i + 1)) (lv' := [(3, .int (nI (i + 1))), (2, .int (nI (cnF (dnB th s0 bs) (i + 1)))), (0, .ref (a 0)), (1, .int (nI s0))]) hx hb d_S_drop_51 hl (k := 3) rfl (ii_1 _) (by decide) rfl (fun ls hl => ?_)
            refine lv_goto (tgt := 9) hx hb d_S_drop_54 (by decide) ?_
            exact ih (i + 1) ls H locs (by omega) (by omega) hP hD hS (lv_sub hl [2, 3, 1, 0] rfl)
  exact lp _ (0) ls H locs (Nat.lt_succ_self _) (by decide) hP hD hS (lv_sub hl [2, 3, 1, 0] rfl)

set_option maxRecDepth 100000 in
set_option maxHeartbeats 4000000 in
theorem c_rebase (l : Launch) (D : va_G) (k : Nat → ClassId) (a r t : Nat → Nat) (th kd bs us sth mk dr : Nat → Int32) (M sM : Nat → Nat → Int32) (sa : Nat → Nat) (hl9 : l.stackTraces = false) (x y : Int32) (sz : Nat) : bXI l y_S_rebase (wY y_S_rebase b_S_rebase 3 (some .boolean)) (rm9 8 2 12) Sts sa D (tsK k) (cxW k a r t th kd bs us sth mk dr M sM) sz [.ref (a 0), .int x, .int y] (fun v w => ∃ s0 : Nat, s0 < 64 ∧ x = nI s0 ∧ hsB 64 th (nI s0) = true ∧ okB th kd y (kd s0) = true ∧ ((ocF th bs (nI s0) 64 y = true ∧ v = nI 0 ∧ w = cxW k a r t th kd bs us sth mk dr M sM) ∨ (ocF th bs (nI s0) 64 y = false ∧ v = nI 1 ∧ w = cxW k a r t th kd (upd bs s0 y) us sth mk dr M sM))) (fun E w => ((E = "java/util/NoSuchElementException" ∧ cdRb th kd x y = 1) ∨ (E = "java/lang/IllegalArgumentException" ∧ cdRb th kd x y = 2)) ∧ w = cxW k a r t th kd bs us sth mk dr M sM) 2 12 := by
  refine ent_xi (cc := b_S_rebase) (maxL := 3) (ty := .boolean) (by decide) (Nat.le_of_ble_eq_true rfl) (fun v w h => by obtain ⟨_, _, _, _, _, h | h⟩ := h <;> rw [h.2.1] <;> rfl) ?_
  intro p e s m args below meth c A Q ls hx hb hml hown hts hsz hA hP hD hS hK hl hlk htb hE hQ hret
  refine lv_aload_n hx hb d_S_rebase_0 rfl (lv_at hl 0 rfl) ?_
  refine lv_iload_n hx hb d_S_rebase_1 rfl (lv_at hl 1 rfl) ?_
  refine cax_v (wc := cxW k a r t th kd bs us sth mk dr M sM) (wr := []) (vx_runV (As := [.int x]) (rest := []) ⟨hx, hb, hml, hown, hts⟩ (c_requireStyle l D k a r t th kd bs us sth mk dr M sM sa hl9 x s.heap.size) (cwV9 1 hts wd_225 wd_222 wd_224 ws_11 wd_1 (by decide) ⟨Nat.le_of_ble_eq_true rfl, Nat.le_of_ble_eq_true rfl⟩) (prVx (q0 := 0) (ci := ciSS) hE hS hA hK hP hD (pm_nil' _) rfl rfl) rfl rfl hl.1 rfl (lv_room (Nat.le_of_ble_eq_true rfl)) d_S_rebase_2 ⟨by decide, by decide⟩) (pm_nil' _) hP hD hS hA (fun E9 ce9 ad9 w1 H locs hpx hpd hS hce hcv hcl => ?_) (fun w1 H locs hw hpd hS => ?_)
  · skip
    obtain ⟨rfl, h9, rfl⟩ := hpx
    obtain ⟨hP, hD⟩ := hpd (cxW k a r t th kd bs us sth mk dr M sM) (pm_nil _)
    exact ps_x hQ hlk htb ⟨Or.inl ⟨rfl, by simp [cdRb, h9]⟩, rfl⟩ hP hD hS hce hcv hcl (by decide) (by decide)
  obtain ⟨rfl, hq⟩ := hw
  obtain ⟨hP, hD⟩ := hpd (cxW k a r t th kd bs us sth mk dr M sM) (pm_nil _)
  refine W.widen (k := 1) (n := 6) (by decide) (by decide) ?_
  obtain ⟨s0, hs0, rfl, hqt⟩ := hsB_t (by decide) hq
  refine lv_aload_n hx hb d_S_rebase_5 rfl (lv_at hl 0 rfl) ?_
  refine lv_iload_n hx hb d_S_rebase_6 rfl (lv_at hl 2 rfl) ?_
  refine lv_aload_n hx hb d_S_rebase_7 rfl (lv_at hl 0 rfl) ?_
  refine va_get (D := D) (ci := ciSS) (v := .ref (a 2)) (C := RS) (T := TS) (N := 7) hx hb hts inS hown hK.1 hP 0 rfl rfl 1 (by decide) (hts _ wd_47) (fun _ h9 => h9) rfl d_S_rebase_8 ?_
  refine lv_iload_n hx hb d_S_rebase_11 rfl (lv_at hl 1 rfl) ?_
  refine rw_iald hx hb hK.1 hP 2 0 rfl rfl (j := s0) (by omega) (by decide) d_S_rebase_12 ?_
  refine cax_v (wc := cxW k a r t th kd bs us sth mk dr M sM) (wr := []) (vx_runV (As := [.int y, .int (kd s0)]) (rest := []) ⟨hx, hb, hml, hown, hts⟩ (c_requireNoneOrOfKind l D k a r t th kd bs us sth mk dr M sM sa hl9 y (kd s0) H.size) (cwV9 2 hts wd_192 wd_189 wd_191 ws_9 wd_1 (by decide) ⟨Nat.le_of_ble_eq_true rfl, Nat.le_of_ble_eq_true rfl⟩) (prVx (q0 := 0) (ci := ciSS) hE hS hA hK hP hD (pm_nil' _) rfl rfl) rfl rfl hl.1 rfl (lv_room (Nat.le_of_ble_eq_true rfl)) d_S_rebase_13 ⟨by decide, by decide⟩) (pm_nil' _) hP hD hS hA (fun E9 ce9 ad9 w1 H locs hpx hpd hS hce hcv hcl => ?_) (fun w1 H locs hw hpd hS => ?_)
  · skip
    obtain ⟨rfl, h9, rfl⟩ := hpx
    obtain ⟨hP, hD⟩ := hpd (cxW k a r t th kd bs us sth mk dr M sM) (pm_nil _)
    exact ps_x hQ hlk htb ⟨Or.inr (⟨rfl, by simp [cdRb, hq, nI_clamp (show s0 < 2 ^ 31 by omega), h9]⟩), rfl⟩ hP hD hS hce hcv hcl (by decide) (by decide)
  obtain ⟨rfl, ho⟩ := hw
  obtain ⟨hP, hD⟩ := hpd (cxW k a r t th kd bs us sth mk dr M sM) (pm_nil _)
  refine W.widen (k := 2) (n := 12) (by decide) (by decide) ?_
  refine lv_aload_n hx hb d_S_rebase_16 rfl (lv_at hl 0 rfl) ?_
  refine lv_iload_n hx hb d_S_rebase_17 rfl (lv_at hl 1 rfl) ?_
  refine lv_iload_n hx hb d_S_rebase_18 rfl (lv_at hl 2 rfl) ?_
  refine cal_i (wc := cxW k a r t th kd bs us sth mk dr M sM) (wr := []) (va_runV (As := [.int (nI s0), .int y]) (rest := []) ⟨hx, hb, hml, hown, hts⟩ (c_isOnChain l D k a r t th kd bs us sth mk dr M sM (nI s0) y H.size) (cwV9 2 hts wd_252 wd_249 wd_251 ws_12 wd_1 (by decide) ⟨Nat.le_of_ble_eq_true rfl, Nat.le_of_ble_eq_true rfl⟩) (prV (q0 := 0) (ci := ciSS) hK hP hD (pm_nil' _) rfl rfl) rfl rfl hl.1 rfl (lv_room (Nat.le_of_ble_eq_true rfl)) d_S_rebase_19 ⟨by decide, by decide⟩) (pm_nil' _) hP hD hS hA (fun r w1 H locs hw hpd hS => ?_)
  obtain ⟨rfl, rfl⟩ := hw
  obtain ⟨hP, hD⟩ := hpd (cxW k a r t th kd bs us sth mk dr M sM) (pm_nil _)
  refine lv_if_eq (tgt := 27) hx hb d_S_rebase_22 (by decide) (fun c22 => ?_) (fun c22 => ?_)
  · skip
    have c22 := b_of0 c22
    refine lv_aload_n hx hb d_S_rebase_27 rfl (lv_at hl 0 rfl) ?_
    refine va_get (D := D) (ci := ciSS) (v := .ref (a 3)) (C := RS) (T := TS) (N := 7) hx hb hts inS hown hK.1 hP 0 rfl rfl 2 (by decide) (hts _ wd_48) (fun _ h9 => h9) rfl d_S_rebase_28 ?_
    refine lv_iload_n hx hb d_S_rebase_31 rfl (lv_at hl 1 rfl) ?_
    refine lv_iload_n hx hb d_S_rebase_32 rfl (lv_at hl 2 rfl) ?_
    refine rw_iast hx hb hK.1 hP hD hS 3 0 rfl rfl (j := s0) (by omega) (by decide) d_S_rebase_33 (wn := cxW k a r t th kd (upd bs s0 y) us sth mk dr M sM) rfl (fun H locs hP hD hS => ?_)
    refine lv_iconst (v := nI 1) hx hb d_S_rebase_34 (by decide) ?_
    exact hret _ _ _ _ _ _ _ _ d_S_rebase_35 ⟨s0, hs0, rfl, hq, ho, Or.inr ⟨c22, rfl, rfl⟩⟩ hP hD hS (by decide) (by decide)
  · skip
    have c22 := b_of1 c22
    refine lv_iconst (v := nI 0) hx hb d_S_rebase_25 (by decide) ?_
    exact hret _ _ _ _ _ _ _ _ d_S_rebase_26 ⟨s0, hs0, rfl, hq, ho, Or.inl ⟨c22, rfl, rfl⟩⟩ hP hD hS (by decide) (by decide)

set_option maxRecDepth 100000 in
set_option maxHeartbeats 4000000 in
theorem c_own (l : Launch) (D : va_G) (k : Nat → ClassId) (a r t : Nat → Nat) (th kd bs us sth mk dr : Nat → Int32) (M sM : Nat → Nat → Int32) (sa : Nat → Nat) (hl9 : l.stackTraces = false) (x y v : Int32) (sz : Nat) : bXV l y_S_own (wY y_S_own b_S_own 4 none) (rm9 8 3 18) Sts sa D (tsK k) (cxW k a r t th kd bs us sth mk dr M sM) sz [.ref (a 0), .int x, .int y, .int v] (fun w => ∃ s0 : Nat, s0 < 64 ∧ x = nI s0 ∧ hsB 64 th (nI s0) = true ∧ ∃ p9 : Nat, p9 < 24 ∧ y = nI p9 ∧ nvB (nI p9) v = true ∧ w = cxW k a r t th kd bs us sth mk dr (va_up M s0 (upd (M s0) p9 v)) sM) (fun E w => ((E = "java/util/NoSuchElementException" ∧ cdOw th x y v = 1) ∨ (E = "java/lang/IllegalArgumentException" ∧ cdOw th x y v = 2)) ∧ w = cxW k a r t th kd bs us sth mk dr M sM) 3 18 := by
  refine ent_xv (cc := b_S_own) (maxL := 4) (by decide) (Nat.le_of_ble_eq_true rfl) ?_
  intro p e s m args below meth c A Q ls hx hb hml hown hts hsz hA hP hD hS hK hl hlk htb hE hQ hret
  refine lv_aload_n hx hb d_S_own_0 rfl (lv_at hl 0 rfl) ?_
  refine lv_iload_n hx hb d_S_own_1 rfl (lv_at hl 1 rfl) ?_
  refine cax_v (wc := cxW k a r t th kd bs us sth mk dr M sM) (wr := []) (vx_runV (As := [.int x]) (rest := []) ⟨hx, hb, hml, hown, hts⟩ (c_requireStyle l D k a r t th kd bs us sth mk dr M sM sa hl9 x s.heap.size) (cwV9 1 hts wd_225 wd_222 wd_224 ws_11 wd_1 (by decide) ⟨Nat.le_of_ble_eq_true rfl, Nat.le_of_ble_eq_true rfl⟩) (prVx (q0 := 0) (ci := ciSS) hE hS hA hK hP hD (pm_nil' _) rfl rfl) rfl rfl hl.1 rfl (lv_room (Nat.le_of_ble_eq_true rfl)) d_S_own_2 ⟨by decide, by decide⟩) (pm_nil' _) hP hD hS hA (fun E9 ce9 ad9 w1 H locs hpx hpd hS hce hcv hcl => ?_) (fun w1 H locs hw hpd hS => ?_)
  · skip
    obtain ⟨rfl, h9, rfl⟩ := hpx
    obtain ⟨hP, hD⟩ := hpd (cxW k a r t th kd bs us sth mk dr M sM) (pm_nil _)
    exact ps_x hQ hlk htb ⟨Or.inl ⟨rfl, by simp [cdOw, h9]⟩, rfl⟩ hP hD hS hce hcv hcl (by decide) (by decide)
  obtain ⟨rfl, hq⟩ := hw
  obtain ⟨hP, hD⟩ := hpd (cxW k a r t th kd bs us sth mk dr M sM) (pm_nil _)
  refine W.widen (k := 1) (n := 6) (by decide) (by decide) ?_
  obtain ⟨s0, hs0, rfl, hqt⟩ := hsB_t (by decide) hq
  refine lv_iload_n hx hb d_S_own_5 rfl (lv_at hl 2 rfl) ?_
  refine cax_v (wc := []) (wr := cxW k a r t th kd bs us sth mk dr M sM) (vx_runS (As := [.int y]) (rest := []) ⟨hx, hb, hml, hown, hts⟩ (c_requireProperty l D k sa hl9 y H.size) (cwS9 1 hts wd_262 wd_260 wd_261 wd_1 (by decide) ⟨Nat.le_of_ble_eq_true rfl, Nat.le_of_ble_eq_true rfl⟩) (prSx hE hS hA hK hP hD (List.Perm.refl _)) rfl rfl hl.1 rfl (lv_room (Nat.le_of_ble_eq_true rfl)) d_S_own_6 ⟨by decide, by decide⟩) (List.Perm.refl _) hP hD hS hA (fun E9 ce9 ad9 w1 H locs hpx hpd hS hce hcv hcl => ?_) (fun w1 H locs hw hpd hS => ?_)
  · skip
    obtain ⟨rfl, h9, rfl⟩ := hpx
    obtain ⟨hP, hD⟩ := hpd (cxW k a r t th kd bs us sth mk dr M sM) (List.Perm.refl _)
    exact ps_x hQ hlk htb ⟨Or.inr (⟨rfl, by simp [cdOw, hq, h9]⟩), rfl⟩ hP hD hS hce hcv hcl (by decide) (by decide)
  obtain ⟨rfl, hp⟩ := hw
  obtain ⟨hP, hD⟩ := hpd (cxW k a r t th kd bs us sth mk dr M sM) (List.Perm.refl _)
  refine W.widen (k := 2) (n := 12) (by decide) (by decide) ?_
  refine lv_iload_n hx hb d_S_own_9 rfl (lv_at hl 2 rfl) ?_
  refine lv_iload_n hx hb d_S_own_10 rfl (lv_at hl 3 rfl) ?_
  refine cax_v (wc := []) (wr := cxW k a r t th kd bs us sth mk dr M sM) (vx_runS (As := [.int y, .int v]) (rest := []) ⟨hx, hb, hml, hown, hts⟩ (c_requireNoneOrValue l D k sa hl9 y v H.size) (cwS9 2 hts wd_266 wd_264 wd_265 wd_1 (by decide) ⟨Nat.le_of_ble_eq_true rfl, Nat.le_of_ble_eq_true rfl⟩) (prSx hE hS hA hK hP hD (List.Perm.refl _)) rfl rfl hl.1 rfl (lv_room (Nat.le_of_ble_eq_true rfl)) d_S_own_11 ⟨by decide, by decide⟩) (List.Perm.refl _) hP hD hS hA (fun E9 ce9 ad9 w1 H locs hpx hpd hS hce hcv hcl => ?_) (fun w1 H locs hw hpd hS => ?_)
  · skip
    obtain ⟨rfl, h9, rfl⟩ := hpx
    obtain ⟨hP, hD⟩ := hpd (cxW k a r t th kd bs us sth mk dr M sM) (List.Perm.refl _)
    exact ps_x hQ hlk htb ⟨Or.inr (⟨rfl, by simp [cdOw, hq, hp, h9]⟩), rfl⟩ hP hD hS hce hcv hcl (by decide) (by decide)
  obtain ⟨rfl, hv⟩ := hw
  obtain ⟨hP, hD⟩ := hpd (cxW k a r t th kd bs us sth mk dr M sM) (List.Perm.refl _)
  refine W.widen (k := 3) (n := 18) (by decide) (by decide) ?_
  obtain ⟨p9, hp9, rfl⟩ := prB_t hp
  refine lv_aload_n hx hb d_S_own_14 rfl (lv_at hl 0 rfl) ?_
  refine va_get (D := D) (ci := ciSS) (v := .ref (a 1)) (C := RS) (T := TS) (N := 7) hx hb hts inS hown hK.1 hP 0 rfl rfl 0 (by decide) (hts _ wd_46) (fun _ h9 => h9) rfl d_S_own_15 ?_
  refine va_getN (D := D) (ci := ciTb) (v := .ref (a 9)) (C := RT) (T := TT) (N := 2) hx hb hts inT hown hK.1 hP 1 rfl rfl 1 (by decide) (va_Nw.use rfl (hK.2.1 (.fieldLinkNest "StyleSheet" 81 "StyleSheet$Table" "values" "[[I" "StyleSheet") (by decide))) (fun _ h9 => h9) rfl d_S_own_18 ?_
  refine lv_iload_n hx hb d_S_own_21 rfl (lv_at hl 1 rfl) ?_
  refine rw_aald hx hb hK.1 hP 9 2 rfl rfl (j := s0) (y := r s0) (by omega) (by decide) (gOut_at (by omega)) d_S_own_22 ?_
  refine lv_iload_n hx hb d_S_own_23 rfl (lv_at hl 2 rfl) ?_
  refine lv_iload_n hx hb d_S_own_24 rfl (lv_at hl 3 rfl) ?_
  refine rw_iast hx hb hK.1 hP hD hS (12 + s0) 0 (cx_rowS (by omega)) rfl (j := p9) (by omega) (by decide) d_S_own_25 (wn := cxW k a r t th kd bs us sth mk dr (va_up M s0 (upd (M s0) p9 v)) sM) (cx_setS (by omega)) (fun H locs hP hD hS => ?_)
  exact hret _ _ _ _ _ _ _ d_S_own_26 ⟨s0, hs0, rfl, hq, p9, hp9, rfl, hv, rfl⟩ hP hD hS (by decide) (by decide)

set_option maxRecDepth 100000 in
set_option maxHeartbeats 4000000 in
theorem c_value (l : Launch) (D : va_G) (k : Nat → ClassId) (a r t : Nat → Nat) (th kd bs us sth mk dr : Nat → Int32) (M sM : Nat → Nat → Int32) (sa : Nat → Nat) (hl9 : l.stackTraces = false) (x y : Int32) (sz : Nat) : bXI l y_S_value (wY y_S_value b_S_value 3 (some .int)) (rm9 8 2 12) Sts sa D (tsK k) (cxW k a r t th kd bs us sth mk dr M sM) sz [.ref (a 0), .int x, .int y] (fun v w => ∃ s0 : Nat, s0 < 64 ∧ x = nI s0 ∧ hsB 64 th (nI s0) = true ∧ ∃ p9 : Nat, p9 < 24 ∧ y = nI p9 ∧ v = vbF th bs M (nI s0) p9 ∧ w = cxW k a r t th kd bs us sth mk dr M sM) (fun E w => ((E = "java/util/NoSuchElementException" ∧ cdVa th x y = 1) ∨ (E = "java/lang/IllegalArgumentException" ∧ cdVa th x y = 2)) ∧ w = cxW k a r t th kd bs us sth mk dr M sM) 2 12 := by
  refine ent_xi (cc := b_S_value) (maxL := 3) (ty := .int) (by decide) (Nat.le_of_ble_eq_true rfl) (fun _ _ _ => rfl) ?_
  intro p e s m args below meth c A Q ls hx hb hml hown hts hsz hA hP hD hS hK hl hlk htb hE hQ hret
  refine lv_aload_n hx hb d_S_value_0 rfl (lv_at hl 0 rfl) ?_
  refine lv_iload_n hx hb d_S_value_1 rfl (lv_at hl 1 rfl) ?_
  refine cax_v (wc := cxW k a r t th kd bs us sth mk dr M sM) (wr := []) (vx_runV (As := [.int x]) (rest := []) ⟨hx, hb, hml, hown, hts⟩ (c_requireStyle l D k a r t th kd bs us sth mk dr M sM sa hl9 x s.heap.size) (cwV9 1 hts wd_225 wd_222 wd_224 ws_11 wd_1 (by decide) ⟨Nat.le_of_ble_eq_true rfl, Nat.le_of_ble_eq_true rfl⟩) (prVx (q0 := 0) (ci := ciSS) hE hS hA hK hP hD (pm_nil' _) rfl rfl) rfl rfl hl.1 rfl (lv_room (Nat.le_of_ble_eq_true rfl)) d_S_value_2 ⟨by decide, by decide⟩) (pm_nil' _) hP hD hS hA (fun E9 ce9 ad9 w1 H locs hpx hpd hS hce hcv hcl => ?_) (fun w1 H locs hw hpd hS => ?_)
  · skip
    obtain ⟨rfl, h9, rfl⟩ := hpx
    obtain ⟨hP, hD⟩ := hpd (cxW k a r t th kd bs us sth mk dr M sM) (pm_nil _)
    exact ps_x hQ hlk htb ⟨Or.inl ⟨rfl, by simp [cdVa, h9]⟩, rfl⟩ hP hD hS hce hcv hcl (by decide) (by decide)
  obtain ⟨rfl, hq⟩ := hw
  obtain ⟨hP, hD⟩ := hpd (cxW k a r t th kd bs us sth mk dr M sM) (pm_nil _)
  refine W.widen (k := 1) (n := 6) (by decide) (by decide) ?_
  obtain ⟨s0, hs0, rfl, hqt⟩ := hsB_t (by decide) hq
  refine lv_iload_n hx hb d_S_value_5 rfl (lv_at hl 2 rfl) ?_
  refine cax_v (wc := []) (wr := cxW k a r t th kd bs us sth mk dr M sM) (vx_runS (As := [.int y]) (rest := []) ⟨hx, hb, hml, hown, hts⟩ (c_requireProperty l D k sa hl9 y H.size) (cwS9 1 hts wd_262 wd_260 wd_261 wd_1 (by decide) ⟨Nat.le_of_ble_eq_true rfl, Nat.le_of_ble_eq_true rfl⟩) (prSx hE hS hA hK hP hD (List.Perm.refl _)) rfl rfl hl.1 rfl (lv_room (Nat.le_of_ble_eq_true rfl)) d_S_value_6 ⟨by decide, by decide⟩) (List.Perm.refl _) hP hD hS hA (fun E9 ce9 ad9 w1 H locs hpx hpd hS hce hcv hcl => ?_) (fun w1 H locs hw hpd hS => ?_)
  · skip
    obtain ⟨rfl, h9, rfl⟩ := hpx
    obtain ⟨hP, hD⟩ := hpd (cxW k a r t th kd bs us sth mk dr M sM) (List.Perm.refl _)
    exact ps_x hQ hlk htb ⟨Or.inr (⟨rfl, by simp [cdVa, hq, h9]⟩), rfl⟩ hP hD hS hce hcv hcl (by decide) (by decide)
  obtain ⟨rfl, hp⟩ := hw
  obtain ⟨hP, hD⟩ := hpd (cxW k a r t th kd bs us sth mk dr M sM) (List.Perm.refl _)
  refine W.widen (k := 2) (n := 12) (by decide) (by decide) ?_
  obtain ⟨p9, hp9, rfl⟩ := prB_t hp
  refine lv_aload_n hx hb d_S_value_9 rfl (lv_at hl 0 rfl) ?_
  refine lv_iload_n hx hb d_S_value_10 rfl (lv_at hl 1 rfl) ?_
  refine lv_iload_n hx hb d_S_value_11 rfl (lv_at hl 2 rfl) ?_
  refine cal_i (wc := cxW k a r t th kd bs us sth mk dr M sM) (wr := []) (va_runV (As := [.int (nI s0), .int (nI p9)]) (rest := []) ⟨hx, hb, hml, hown, hts⟩ (c_valueByChain l D k a r t th kd bs us sth mk dr M sM (nI s0) p9 hp9 H.size) (cwV9 2 hts wd_285 wd_282 wd_284 ws_13 wd_1 (by decide) ⟨Nat.le_of_ble_eq_true rfl, Nat.le_of_ble_eq_true rfl⟩) (prV (q0 := 0) (ci := ciSS) hK hP hD (pm_nil' _) rfl rfl) rfl rfl hl.1 rfl (lv_room (Nat.le_of_ble_eq_true rfl)) d_S_value_12 ⟨by decide, by decide⟩) (pm_nil' _) hP hD hS hA (fun r w1 H locs hw hpd hS => ?_)
  obtain ⟨rfl, rfl⟩ := hw
  obtain ⟨hP, hD⟩ := hpd (cxW k a r t th kd bs us sth mk dr M sM) (pm_nil _)
  exact hret _ _ _ _ _ _ _ _ d_S_value_15 ⟨s0, hs0, rfl, hq, p9, hp9, rfl, rfl, rfl⟩ hP hD hS (by decide) (by decide)

set_option maxRecDepth 100000 in
set_option maxHeartbeats 4000000 in
theorem c_giver (l : Launch) (D : va_G) (k : Nat → ClassId) (a r t : Nat → Nat) (th kd bs us sth mk dr : Nat → Int32) (M sM : Nat → Nat → Int32) (sa : Nat → Nat) (hl9 : l.stackTraces = false) (x y : Int32) (sz : Nat) : bXI l y_S_giver (wY y_S_giver b_S_giver 3 (some .int)) (rm9 8 2 12) Sts sa D (tsK k) (cxW k a r t th kd bs us sth mk dr M sM) sz [.ref (a 0), .int x, .int y] (fun v w => ∃ s0 : Nat, s0 < 64 ∧ x = nI s0 ∧ hsB 64 th (nI s0) = true ∧ ∃ p9 : Nat, p9 < 24 ∧ y = nI p9 ∧ v = gvF th bs M p9 64 (nI s0) ∧ w = cxW k a r t th kd bs us sth mk dr M sM) (fun E w => ((E = "java/util/NoSuchElementException" ∧ cdVa th x y = 1) ∨ (E = "java/lang/IllegalArgumentException" ∧ cdVa th x y = 2)) ∧ w = cxW k a r t th kd bs us sth mk dr M sM) 2 12 := by
  refine ent_xi (cc := b_S_giver) (maxL := 3) (ty := .int) (by decide) (Nat.le_of_ble_eq_true rfl) (fun _ _ _ => rfl) ?_
  intro p e s m args below meth c A Q ls hx hb hml hown hts hsz hA hP hD hS hK hl hlk htb hE hQ hret
  refine lv_aload_n hx hb d_S_giver_0 rfl (lv_at hl 0 rfl) ?_
  refine lv_iload_n hx hb d_S_giver_1 rfl (lv_at hl 1 rfl) ?_
  refine cax_v (wc := cxW k a r t th kd bs us sth mk dr M sM) (wr := []) (vx_runV (As := [.int x]) (rest := []) ⟨hx, hb, hml, hown, hts⟩ (c_requireStyle l D k a r t th kd bs us sth mk dr M sM sa hl9 x s.heap.size) (cwV9 1 hts wd_225 wd_222 wd_224 ws_11 wd_1 (by decide) ⟨Nat.le_of_ble_eq_true rfl, Nat.le_of_ble_eq_true rfl⟩) (prVx (q0 := 0) (ci := ciSS) hE hS hA hK hP hD (pm_nil' _) rfl rfl) rfl rfl hl.1 rfl (lv_room (Nat.le_of_ble_eq_true rfl)) d_S_giver_2 ⟨by decide, by decide⟩) (pm_nil' _) hP hD hS hA (fun E9 ce9 ad9 w1 H locs hpx hpd hS hce hcv hcl => ?_) (fun w1 H locs hw hpd hS => ?_)
  · skip
    obtain ⟨rfl, h9, rfl⟩ := hpx
    obtain ⟨hP, hD⟩ := hpd (cxW k a r t th kd bs us sth mk dr M sM) (pm_nil _)
    exact ps_x hQ hlk htb ⟨Or.inl ⟨rfl, by simp [cdVa, h9]⟩, rfl⟩ hP hD hS hce hcv hcl (by decide) (by decide)
  obtain ⟨rfl, hq⟩ := hw
  obtain ⟨hP, hD⟩ := hpd (cxW k a r t th kd bs us sth mk dr M sM) (pm_nil _)
  refine W.widen (k := 1) (n := 6) (by decide) (by decide) ?_
  obtain ⟨s0, hs0, rfl, hqt⟩ := hsB_t (by decide) hq
  refine lv_iload_n hx hb d_S_giver_5 rfl (lv_at hl 2 rfl) ?_
  refine cax_v (wc := []) (wr := cxW k a r t th kd bs us sth mk dr M sM) (vx_runS (As := [.int y]) (rest := []) ⟨hx, hb, hml, hown, hts⟩ (c_requireProperty l D k sa hl9 y H.size) (cwS9 1 hts wd_262 wd_260 wd_261 wd_1 (by decide) ⟨Nat.le_of_ble_eq_true rfl, Nat.le_of_ble_eq_true rfl⟩) (prSx hE hS hA hK hP hD (List.Perm.refl _)) rfl rfl hl.1 rfl (lv_room (Nat.le_of_ble_eq_true rfl)) d_S_giver_6 ⟨by decide, by decide⟩) (List.Perm.refl _) hP hD hS hA (fun E9 ce9 ad9 w1 H locs hpx hpd hS hce hcv hcl => ?_) (fun w1 H locs hw hpd hS => ?_)
  · skip
    obtain ⟨rfl, h9, rfl⟩ := hpx
    obtain ⟨hP, hD⟩ := hpd (cxW k a r t th kd bs us sth mk dr M sM) (List.Perm.refl _)
    exact ps_x hQ hlk htb ⟨Or.inr (⟨rfl, by simp [cdVa, hq, h9]⟩), rfl⟩ hP hD hS hce hcv hcl (by decide) (by decide)
  obtain ⟨rfl, hp⟩ := hw
  obtain ⟨hP, hD⟩ := hpd (cxW k a r t th kd bs us sth mk dr M sM) (List.Perm.refl _)
  refine W.widen (k := 2) (n := 12) (by decide) (by decide) ?_
  obtain ⟨p9, hp9, rfl⟩ := prB_t hp
  refine lv_aload_n hx hb d_S_giver_9 rfl (lv_at hl 0 rfl) ?_
  refine lv_iload_n hx hb d_S_giver_10 rfl (lv_at hl 1 rfl) ?_
  refine lv_iload_n hx hb d_S_giver_11 rfl (lv_at hl 2 rfl) ?_
  refine cal_i (wc := cxW k a r t th kd bs us sth mk dr M sM) (wr := []) (va_runV (As := [.int (nI s0), .int (nI p9)]) (rest := []) ⟨hx, hb, hml, hown, hts⟩ (c_giverOnChain l D k a r t th kd bs us sth mk dr M sM (nI s0) p9 hp9 H.size) (cwV9 2 hts wd_289 wd_286 wd_288 ws_14 wd_1 (by decide) ⟨Nat.le_of_ble_eq_true rfl, Nat.le_of_ble_eq_true rfl⟩) (prV (q0 := 0) (ci := ciSS) hK hP hD (pm_nil' _) rfl rfl) rfl rfl hl.1 rfl (lv_room (Nat.le_of_ble_eq_true rfl)) d_S_giver_12 ⟨by decide, by decide⟩) (pm_nil' _) hP hD hS hA (fun r w1 H locs hw hpd hS => ?_)
  obtain ⟨rfl, rfl⟩ := hw
  obtain ⟨hP, hD⟩ := hpd (cxW k a r t th kd bs us sth mk dr M sM) (pm_nil _)
  exact hret _ _ _ _ _ _ _ _ d_S_giver_15 ⟨s0, hs0, rfl, hq, p9, hp9, rfl, rfl, rfl⟩ hP hD hS (by decide) (by decide)

set_option maxRecDepth 100000 in
set_option maxHeartbeats 4000000 in
theorem c_style (l : Launch) (D : va_G) (k : Nat → ClassId) (a r t : Nat → Nat) (th kd bs us sth mk dr : Nat → Int32) (M sM : Nat → Nat → Int32) (sa : Nat → Nat) (hl9 : l.stackTraces = false) (x y : Int32) (sz : Nat) : bXI l y_S_style (wY y_S_style b_S_style 3 (some .int)) (rm9 8 2 12) Sts sa D (tsK k) (cxW k a r t th kd bs us sth mk dr M sM) sz [.ref (a 0), .int x, .int y] (fun v w => ∃ s0 : Nat, s0 < 64 ∧ x = nI s0 ∧ hsB 64 th (nI s0) = true ∧ whB y = true ∧ v = stF th kd bs M s0 y ∧ w = cxW k a r t th kd bs us sth mk dr M sM) (fun E w => ((E = "java/util/NoSuchElementException" ∧ cdSt th x y = 1) ∨ (E = "java/lang/IllegalArgumentException" ∧ cdSt th x y = 2)) ∧ w = cxW k a r t th kd bs us sth mk dr M sM) 2 12 := by
  refine ent_xi (cc := b_S_style) (maxL := 3) (ty := .int) (by decide) (Nat.le_of_ble_eq_true rfl) (fun _ _ _ => rfl) ?_
  intro p e s m args below meth c A Q ls hx hb hml hown hts hsz hA hP hD hS hK hl hlk htb hE hQ hret
  refine lv_aload_n hx hb d_S_style_0 rfl (lv_at hl 0 rfl) ?_
  refine lv_iload_n hx hb d_S_style_1 rfl (lv_at hl 1 rfl) ?_
  refine cax_v (wc := cxW k a r t th kd bs us sth mk dr M sM) (wr := []) (vx_runV (As := [.int x]) (rest := []) ⟨hx, hb, hml, hown, hts⟩ (c_requireStyle l D k a r t th kd bs us sth mk dr M sM sa hl9 x s.heap.size) (cwV9 1 hts wd_225 wd_222 wd_224 ws_11 wd_1 (by decide) ⟨Nat.le_of_ble_eq_true rfl, Nat.le_of_ble_eq_true rfl⟩) (prVx (q0 := 0) (ci := ciSS) hE hS hA hK hP hD (pm_nil' _) rfl rfl) rfl rfl hl.1 rfl (lv_room (Nat.le_of_ble_eq_true rfl)) d_S_style_2 ⟨by decide, by decide⟩) (pm_nil' _) hP hD hS hA (fun E9 ce9 ad9 w1 H locs hpx hpd hS hce hcv hcl => ?_) (fun w1 H locs hw hpd hS => ?_)
  · skip
    obtain ⟨rfl, h9, rfl⟩ := hpx
    obtain ⟨hP, hD⟩ := hpd (cxW k a r t th kd bs us sth mk dr M sM) (pm_nil _)
    exact ps_x hQ hlk htb ⟨Or.inl ⟨rfl, by simp [cdSt, h9]⟩, rfl⟩ hP hD hS hce hcv hcl (by decide) (by decide)
  obtain ⟨rfl, hq⟩ := hw
  obtain ⟨hP, hD⟩ := hpd (cxW k a r t th kd bs us sth mk dr M sM) (pm_nil _)
  refine W.widen (k := 1) (n := 6) (by decide) (by decide) ?_
  obtain ⟨s0, hs0, rfl, hqt⟩ := hsB_t (by decide) hq
  refine lv_iload_n hx hb d_S_style_5 rfl (lv_at hl 2 rfl) ?_
  rcases sw5 y with rfl | rfl | rfl | rfl | rfl | ⟨hsw, hwh⟩
  · skip
    refine lv_tableIn (off := 34) (tgt := 40) hx hb d_S_style_6 (by decide) (by decide) (by decide) (by decide) ?_
    refine lv_aload_n hx hb d_S_style_40 rfl (lv_at hl 0 rfl) ?_
    refine lv_iload_n hx hb d_S_style_41 rfl (lv_at hl 1 rfl) ?_
    refine cal_i (wc := cxW k a r t th kd bs us sth mk dr M sM) (wr := []) (va_runV (As := [.int (nI s0)]) (rest := []) ⟨hx, hb, hml, hown, hts⟩ (c_chainLength l D k a r t th kd bs us sth mk dr M sM (nI s0) H.size) (cwV9 1 hts wd_108 wd_105 wd_107 ws_7 wd_1 (by decide) ⟨Nat.le_of_ble_eq_true rfl, Nat.le_of_ble_eq_true rfl⟩) (prV (q0 := 0) (ci := ciSS) hK hP hD (pm_nil' _) rfl rfl) rfl rfl hl.1 rfl (lv_room (Nat.le_of_ble_eq_true rfl)) d_S_style_42 ⟨by decide, by decide⟩) (pm_nil' _) hP hD hS hA (fun r w1 H locs hw hpd hS => ?_)
    obtain ⟨rfl, rfl⟩ := hw
    obtain ⟨hP, hD⟩ := hpd (cxW k a r t th kd bs us sth mk dr M sM) (pm_nil _)
    exact hret _ _ _ _ _ _ _ _ d_S_style_45 ⟨s0, hs0, rfl, hq, rfl, rfl, rfl⟩ hP hD hS (by decide) (by decide)
  · skip
    refine lv_tableIn (off := 40) (tgt := 46) hx hb d_S_style_6 (by decide) (by decide) (by decide) (by decide) ?_
    refine lv_aload_n hx hb d_S_style_46 rfl (lv_at hl 0 rfl) ?_
    refine lv_iload_n hx hb d_S_style_47 rfl (lv_at hl 1 rfl) ?_
    refine cal_i (wc := cxW k a r t th kd bs us sth mk dr M sM) (wr := []) (va_runV (As := [.int (nI s0)]) (rest := []) ⟨hx, hb, hml, hown, hts⟩ (c_othersBuiltOn l D k a r t th kd bs us sth mk dr M sM (nI s0) H.size) (cwV9 1 hts wd_307 wd_304 wd_306 ws_15 wd_1 (by decide) ⟨Nat.le_of_ble_eq_true rfl, Nat.le_of_ble_eq_true rfl⟩) (prV (q0 := 0) (ci := ciSS) hK hP hD (pm_nil' _) rfl rfl) rfl rfl hl.1 rfl (lv_room (Nat.le_of_ble_eq_true rfl)) d_S_style_48 ⟨by decide, by decide⟩) (pm_nil' _) hP hD hS hA (fun r w1 H locs hw hpd hS => ?_)
    obtain ⟨rfl, rfl⟩ := hw
    obtain ⟨hP, hD⟩ := hpd (cxW k a r t th kd bs us sth mk dr M sM) (pm_nil _)
    exact hret _ _ _ _ _ _ _ _ d_S_style_51 ⟨s0, hs0, rfl, hq, rfl, rfl, rfl⟩ hP hD hS (by decide) (by decide)
  · skip
    refine lv_tableIn (off := 46) (tgt := 52) hx hb d_S_style_6 (by decide) (by decide) (by decide) (by decide) ?_
    refine lv_aload_n hx hb d_S_style_52 rfl (lv_at hl 0 rfl) ?_
    refine va_get (D := D) (ci := ciSS) (v := .ref (a 3)) (C := RS) (T := TS) (N := 7) hx hb hts inS hown hK.1 hP 0 rfl rfl 2 (by decide) (hts _ wd_48) (fun _ h9 => h9) rfl d_S_style_53 ?_
    refine lv_iload_n hx hb d_S_style_56 rfl (lv_at hl 1 rfl) ?_
    refine rw_iald hx hb hK.1 hP 3 0 rfl rfl (j := s0) (by omega) (by decide) d_S_style_57 ?_
    exact hret _ _ _ _ _ _ _ _ d_S_style_58 ⟨s0, hs0, rfl, hq, rfl, rfl, rfl⟩ hP hD hS (by decide) (by decide)
  · skip
    refine lv_tableIn (off := 53) (tgt := 59) hx hb d_S_style_6 (by decide) (by decide) (by decide) (by decide) ?_
    refine lv_aload_n hx hb d_S_style_59 rfl (lv_at hl 0 rfl) ?_
    refine va_get (D := D) (ci := ciSS) (v := .ref (a 2)) (C := RS) (T := TS) (N := 7) hx hb hts inS hown hK.1 hP 0 rfl rfl 1 (by decide) (hts _ wd_47) (fun _ h9 => h9) rfl d_S_style_60 ?_
    refine lv_iload_n hx hb d_S_style_63 rfl (lv_at hl 1 rfl) ?_
    refine rw_iald hx hb hK.1 hP 2 0 rfl rfl (j := s0) (by omega) (by decide) d_S_style_64 ?_
    exact hret _ _ _ _ _ _ _ _ d_S_style_65 ⟨s0, hs0, rfl, hq, rfl, rfl, rfl⟩ hP hD hS (by decide) (by decide)
  · skip
    refine lv_tableIn (off := 60) (tgt := 66) hx hb d_S_style_6 (by decide) (by decide) (by decide) (by decide) ?_
    refine lv_aload_n hx hb d_S_style_66 rfl (lv_at hl 0 rfl) ?_
    refine va_get (D := D) (ci := ciSS) (v := .ref (a 1)) (C := RS) (T := TS) (N := 7) hx hb hts inS hown hK.1 hP 0 rfl rfl 0 (by decide) (hts _ wd_46) (fun _ h9 => h9) rfl d_S_style_67 ?_
    refine lv_iload_n hx hb d_S_style_70 rfl (lv_at hl 1 rfl) ?_
    obtain ⟨wr, hwr⟩ := cx_SW (k := k) (a := a) (r := r) (t := t) (kd := kd) (bs := bs) (us := us) (sth := sth) (mk := mk) (dr := dr) (sM := sM)
    refine cal_i (wc := tbW k (a 1) (a 8) (a 9) r 64 th M) (wr := wr) (va_runVN (As := [.int (nI s0)]) (rest := []) ⟨hx, hb, hml, hown, hts⟩ (c_valuesIn l D k (a 1) (a 8) (a 9) r 64 (by decide) th M s0 hs0 H.size) (cwN9 1 hts wd_79 (hK.2.1 (.methodLinkNest "StyleSheet" 99 ⟨"StyleSheet$Table", "valuesIn", "(I)I"⟩ "StyleSheet") (by decide)) wd_78 ws_2 wd_2 (by decide) ⟨Nat.le_of_ble_eq_true rfl, Nat.le_of_ble_eq_true rfl⟩) (prV (q0 := 0) (ci := ciTb) hK hP hD (hwr _ _) rfl rfl) rfl rfl hl.1 rfl (lv_room (Nat.le_of_ble_eq_true rfl)) d_S_style_71 ⟨by decide, by decide⟩) (hwr _ _) hP hD hS hA (fun r w1 H locs hw hpd hS => ?_)
    obtain ⟨rfl, rfl⟩ := hw
    obtain ⟨hP, hD⟩ := hpd (cxW k a r t th kd bs us sth mk dr M sM) (hwr _ _).symm
    exact hret _ _ _ _ _ _ _ _ d_S_style_74 ⟨s0, hs0, rfl, hq, rfl, rfl, rfl⟩ hP hD hS (by decide) (by decide)
  · skip
    refine lv_tableOut (tgt := 75) hx hb d_S_style_6 hsw (by decide) ?_
    exact th_S hQ hx hb hl9 hlk htb hown (by decide) xn_fit (hts _ wd_121) (hts _ wd_8) (xa_I hts hK.2.1) (xg_I 41) hE 6 rfl ⟨Or.inr (⟨rfl, by simp [cdSt, hq, hwh]⟩), rfl⟩ hP hD hS (hl.1.trans hml.symm) d_S_style_75 d_S_style_78 d_S_style_79 d_S_style_81 d_S_style_84 (by decide) (by decide) (by decide) (by decide) (by decide) (by decide)

set_option maxRecDepth 100000 in
set_option maxHeartbeats 4000000 in
theorem c_usual (l : Launch) (D : va_G) (k : Nat → ClassId) (a r t : Nat → Nat) (th kd bs us sth mk dr : Nat → Int32) (M sM : Nat → Nat → Int32) (sa : Nat → Nat) (hl9 : l.stackTraces = false) (y v : Int32) (sz : Nat) : bXV l y_S_usual (wY y_S_usual b_S_usual 3 none) (rm9 8 2 12) Sts sa D (tsK k) (cxW k a r t th kd bs us sth mk dr M sM) sz [.ref (a 0), .int y, .int v] (fun w => ∃ p9 : Nat, p9 < 24 ∧ y = nI p9 ∧ vlB (nI p9) v = true ∧ w = cxW k a r t th kd bs (upd us p9 v) sth mk dr M sM) (fun E w => ((E = "java/lang/IllegalArgumentException" ∧ cdUs y v = 1)) ∧ w = cxW k a r t th kd bs us sth mk dr M sM) 2 12 := by
  refine ent_xv (cc := b_S_usual) (maxL := 3) (by decide) (Nat.le_of_ble_eq_true rfl) ?_
  intro p e s m args below meth c A Q ls hx hb hml hown hts hsz hA hP hD hS hK hl hlk htb hE hQ hret
  refine lv_iload_n hx hb d_S_usual_0 rfl (lv_at hl 1 rfl) ?_
  refine cax_v (wc := []) (wr := cxW k a r t th kd bs us sth mk dr M sM) (vx_runS (As := [.int y]) (rest := []) ⟨hx, hb, hml, hown, hts⟩ (c_requireProperty l D k sa hl9 y s.heap.size) (cwS9 1 hts wd_262 wd_260 wd_261 wd_1 (by decide) ⟨Nat.le_of_ble_eq_true rfl, Nat.le_of_ble_eq_true rfl⟩) (prSx hE hS hA hK hP hD (List.Perm.refl _)) rfl rfl hl.1 rfl (lv_room (Nat.le_of_ble_eq_true rfl)) d_S_usual_1 ⟨by decide, by decide⟩) (List.Perm.refl _) hP hD hS hA (fun E9 ce9 ad9 w1 H locs hpx hpd hS hce hcv hcl => ?_) (fun w1 H locs hw hpd hS => ?_)
  · skip
    obtain ⟨rfl, h9, rfl⟩ := hpx
    obtain ⟨hP, hD⟩ := hpd (cxW k a r t th kd bs us sth mk dr M sM) (List.Perm.refl _)
    exact ps_x hQ hlk htb ⟨⟨rfl, by simp [cdUs, h9]⟩, rfl⟩ hP hD hS hce hcv hcl (by decide) (by decide)
  obtain ⟨rfl, hp⟩ := hw
  obtain ⟨hP, hD⟩ := hpd (cxW k a r t th kd bs us sth mk dr M sM) (List.Perm.refl _)
  refine W.widen (k := 1) (n := 6) (by decide) (by decide) ?_
  refine lv_iload_n hx hb d_S_usual_4 rfl (lv_at hl 1 rfl) ?_
  refine lv_iload_n hx hb d_S_usual_5 rfl (lv_at hl 2 rfl) ?_
  refine cax_v (wc := []) (wr := cxW k a r t th kd bs us sth mk dr M sM) (vx_runS (As := [.int y, .int v]) (rest := []) ⟨hx, hb, hml, hown, hts⟩ (c_requireValue l D k sa hl9 y v H.size) (cwS9 2 hts wd_269 wd_267 wd_268 wd_1 (by decide) ⟨Nat.le_of_ble_eq_true rfl, Nat.le_of_ble_eq_true rfl⟩) (prSx hE hS hA hK hP hD (List.Perm.refl _)) rfl rfl hl.1 rfl (lv_room (Nat.le_of_ble_eq_true rfl)) d_S_usual_6 ⟨by decide, by decide⟩) (List.Perm.refl _) hP hD hS hA (fun E9 ce9 ad9 w1 H locs hpx hpd hS hce hcv hcl => ?_) (fun w1 H locs hw hpd hS => ?_)
  · skip
    obtain ⟨rfl, h9, rfl⟩ := hpx
    obtain ⟨hP, hD⟩ := hpd (cxW k a r t th kd bs us sth mk dr M sM) (List.Perm.refl _)
    exact ps_x hQ hlk htb ⟨⟨rfl, by simp [cdUs, hp, h9]⟩, rfl⟩ hP hD hS hce hcv hcl (by decide) (by decide)
  obtain ⟨rfl, hv⟩ := hw
  obtain ⟨hP, hD⟩ := hpd (cxW k a r t th kd bs us sth mk dr M sM) (List.Perm.refl _)
  refine W.widen (k := 2) (n := 12) (by decide) (by decide) ?_
  obtain ⟨p9, hp9, rfl⟩ := prB_t hp
  refine lv_aload_n hx hb d_S_usual_9 rfl (lv_at hl 0 rfl) ?_
  refine va_get (D := D) (ci := ciSS) (v := .ref (a 4)) (C := RS) (T := TS) (N := 7) hx hb hts inS hown hK.1 hP 0 rfl rfl 3 (by decide) (hts _ wd_49) (fun _ h9 => h9) rfl d_S_usual_10 ?_
  refine lv_iload_n hx hb d_S_usual_13 rfl (lv_at hl 1 rfl) ?_
  refine lv_iload_n hx hb d_S_usual_14 rfl (lv_at hl 2 rfl) ?_
  refine rw_iast hx hb hK.1 hP hD hS 4 0 rfl rfl (j := p9) (by omega) (by decide) d_S_usual_15 (wn := cxW k a r t th kd bs (upd us p9 v) sth mk dr M sM) rfl (fun H locs hP hD hS => ?_)
  exact hret _ _ _ _ _ _ _ d_S_usual_16 ⟨p9, hp9, rfl, hv, rfl⟩ hP hD hS (by decide) (by decide)

set_option maxRecDepth 100000 in
set_option maxHeartbeats 4000000 in
theorem c_get (l : Launch) (D : va_G) (k : Nat → ClassId) (a r t : Nat → Nat) (th kd bs us sth mk dr : Nat → Int32) (M sM : Nat → Nat → Int32) (sa : Nat → Nat) (hl9 : l.stackTraces = false) (x y : Int32) (sz : Nat) : bXI l y_S_get (wY y_S_get b_S_get 3 (some .int)) (rm9 8 2 12) Sts sa D (tsK k) (cxW k a r t th kd bs us sth mk dr M sM) sz [.ref (a 0), .int x, .int y] (fun v w => ∃ j : Nat, j < 256 ∧ x = nI j ∧ hsB 256 sth (nI j) = true ∧ ∃ p9 : Nat, p9 < 24 ∧ y = nI p9 ∧ v = sM j p9 ∧ w = cxW k a r t th kd bs us sth mk dr M sM) (fun E w => ((E = "java/util/NoSuchElementException" ∧ cdGe sth x y = 1) ∨ (E = "java/lang/IllegalArgumentException" ∧ cdGe sth x y = 2)) ∧ w = cxW k a r t th kd bs us sth mk dr M sM) 2 12 := by
  refine ent_xi (cc := b_S_get) (maxL := 3) (ty := .int) (by decide) (Nat.le_of_ble_eq_true rfl) (fun _ _ _ => rfl) ?_
  intro p e s m args below meth c A Q ls hx hb hml hown hts hsz hA hP hD hS hK hl hlk htb hE hQ hret
  refine lv_aload_n hx hb d_S_get_0 rfl (lv_at hl 0 rfl) ?_
  refine lv_iload_n hx hb d_S_get_1 rfl (lv_at hl 1 rfl) ?_
  refine cax_v (wc := cxW k a r t th kd bs us sth mk dr M sM) (wr := []) (vx_runV (As := [.int x]) (rest := []) ⟨hx, hb, hml, hown, hts⟩ (c_requireSet l D k a r t th kd bs us sth mk dr M sM sa hl9 x s.heap.size) (cwV9 1 hts wd_326 wd_323 wd_325 ws_16 wd_1 (by decide) ⟨Nat.le_of_ble_eq_true rfl, Nat.le_of_ble_eq_true rfl⟩) (prVx (q0 := 0) (ci := ciSS) hE hS hA hK hP hD (pm_nil' _) rfl rfl) rfl rfl hl.1 rfl (lv_room (Nat.le_of_ble_eq_true rfl)) d_S_get_2 ⟨by decide, by decide⟩) (pm_nil' _) hP hD hS hA (fun E9 ce9 ad9 w1 H locs hpx hpd hS hce hcv hcl => ?_) (fun w1 H locs hw hpd hS => ?_)
  · skip
    obtain ⟨rfl, h9, rfl⟩ := hpx
    obtain ⟨hP, hD⟩ := hpd (cxW k a r t th kd bs us sth mk dr M sM) (pm_nil _)
    exact ps_x hQ hlk htb ⟨Or.inl ⟨rfl, by simp [cdGe, h9]⟩, rfl⟩ hP hD hS hce hcv hcl (by decide) (by decide)
  obtain ⟨rfl, hq⟩ := hw
  obtain ⟨hP, hD⟩ := hpd (cxW k a r t th kd bs us sth mk dr M sM) (pm_nil _)
  refine W.widen (k := 1) (n := 6) (by decide) (by decide) ?_
  obtain ⟨j, hj, rfl, hqt⟩ := hsB_t (by decide) hq
  refine lv_iload_n hx hb d_S_get_5 rfl (lv_at hl 2 rfl) ?_
  refine cax_v (wc := []) (wr := cxW k a r t th kd bs us sth mk dr M sM) (vx_runS (As := [.int y]) (rest := []) ⟨hx, hb, hml, hown, hts⟩ (c_requireProperty l D k sa hl9 y H.size) (cwS9 1 hts wd_262 wd_260 wd_261 wd_1 (by decide) ⟨Nat.le_of_ble_eq_true rfl, Nat.le_of_ble_eq_true rfl⟩) (prSx hE hS hA hK hP hD (List.Perm.refl _)) rfl rfl hl.1 rfl (lv_room (Nat.le_of_ble_eq_true rfl)) d_S_get_6 ⟨by decide, by decide⟩) (List.Perm.refl _) hP hD hS hA (fun E9 ce9 ad9 w1 H locs hpx hpd hS hce hcv hcl => ?_) (fun w1 H locs hw hpd hS => ?_)
  · skip
    obtain ⟨rfl, h9, rfl⟩ := hpx
    obtain ⟨hP, hD⟩ := hpd (cxW k a r t th kd bs us sth mk dr M sM) (List.Perm.refl _)
    exact ps_x hQ hlk htb ⟨Or.inr (⟨rfl, by simp [cdGe, hq, h9]⟩), rfl⟩ hP hD hS hce hcv hcl (by decide) (by decide)
  obtain ⟨rfl, hp⟩ := hw
  obtain ⟨hP, hD⟩ := hpd (cxW k a r t th kd bs us sth mk dr M sM) (List.Perm.refl _)
  refine W.widen (k := 2) (n := 12) (by decide) (by decide) ?_
  obtain ⟨p9, hp9, rfl⟩ := prB_t hp
  refine lv_aload_n hx hb d_S_get_9 rfl (lv_at hl 0 rfl) ?_
  refine va_get (D := D) (ci := ciSS) (v := .ref (a 5)) (C := RS) (T := TS) (N := 7) hx hb hts inS hown hK.1 hP 0 rfl rfl 4 (by decide) (hts _ wd_50) (fun _ h9 => h9) rfl d_S_get_10 ?_
  refine va_getN (D := D) (ci := ciTb) (v := .ref (a 11)) (C := RT) (T := TT) (N := 2) hx hb hts inT hown hK.1 hP 5 rfl rfl 1 (by decide) (va_Nw.use rfl (hK.2.1 (.fieldLinkNest "StyleSheet" 81 "StyleSheet$Table" "values" "[[I" "StyleSheet") (by decide))) (fun _ h9 => h9) rfl d_S_get_13 ?_
  refine lv_iload_n hx hb d_S_get_16 rfl (lv_at hl 1 rfl) ?_
  refine rw_aald hx hb hK.1 hP 11 2 rfl rfl (j := j) (y := t j) (by omega) (by decide) (gOut_at (by omega)) d_S_get_17 ?_
  refine lv_iload_n hx hb d_S_get_18 rfl (lv_at hl 2 rfl) ?_
  refine rw_iald hx hb hK.1 hP (76 + j) 0 (cx_rowT (by omega)) rfl (j := p9) (by omega) (by decide) d_S_get_19 ?_
  exact hret _ _ _ _ _ _ _ _ d_S_get_20 ⟨j, hj, rfl, hq, p9, hp9, rfl, rfl, rfl⟩ hP hD hS (by decide) (by decide)

set_option maxRecDepth 100000 in
set_option maxHeartbeats 4000000 in
theorem c_resolve (l : Launch) (D : va_G) (k : Nat → ClassId) (a r t : Nat → Nat) (th kd bs us sth mk dr : Nat → Int32) (M sM : Nat → Nat → Int32) (sa : Nat → Nat) (hl9 : l.stackTraces = false) (x c9 q9 y : Int32) (sz : Nat) : bXI l y_S_resolve (wY y_S_resolve b_S_resolve 5 (some .int)) (rm9 8 4 24) Sts sa D (tsK k) (cxW k a r t th kd bs us sth mk dr M sM) sz [.ref (a 0), .int x, .int c9, .int q9, .int y] (fun v w => ∃ j : Nat, j < 256 ∧ x = nI j ∧ hsB 256 sth (nI j) = true ∧ okB th kd c9 (nI 0) = true ∧ okB th kd q9 (nI 1) = true ∧ ∃ p9 : Nat, p9 < 24 ∧ y = nI p9 ∧ v = rsF th bs us M sM j c9 q9 p9 ∧ w = cxW k a r t th kd bs us sth mk dr M sM) (fun E w => ((E = "java/util/NoSuchElementException" ∧ cdRe th kd sth x c9 q9 y = 1) ∨ (E = "java/lang/IllegalArgumentException" ∧ cdRe th kd sth x c9 q9 y = 2)) ∧ w = cxW k a r t th kd bs us sth mk dr M sM) 4 24 := by
  refine ent_xi (cc := b_S_resolve) (maxL := 5) (ty := .int) (by decide) (Nat.le_of_ble_eq_true rfl) (fun _ _ _ => rfl) ?_
  intro p e s m args below meth c A Q ls hx hb hml hown hts hsz hA hP hD hS hK hl hlk htb hE hQ hret
  refine lv_aload_n hx hb d_S_resolve_0 rfl (lv_at hl 0 rfl) ?_
  refine lv_iload_n hx hb d_S_resolve_1 rfl (lv_at hl 1 rfl) ?_
  refine cax_v (wc := cxW k a r t th kd bs us sth mk dr M sM) (wr := []) (vx_runV (As := [.int x]) (rest := []) ⟨hx, hb, hml, hown, hts⟩ (c_requireSet l D k a r t th kd bs us sth mk dr M sM sa hl9 x s.heap.size) (cwV9 1 hts wd_326 wd_323 wd_325 ws_16 wd_1 (by decide) ⟨Nat.le_of_ble_eq_true rfl, Nat.le_of_ble_eq_true rfl⟩) (prVx (q0 := 0) (ci := ciSS) hE hS hA hK hP hD (pm_nil' _) rfl rfl) rfl rfl hl.1 rfl (lv_room (Nat.le_of_ble_eq_true rfl)) d_S_resolve_2 ⟨by decide, by decide⟩) (pm_nil' _) hP hD hS hA (fun E9 ce9 ad9 w1 H locs hpx hpd hS hce hcv hcl => ?_) (fun w1 H locs hw hpd hS => ?_)
  · skip
    obtain ⟨rfl, h9, rfl⟩ := hpx
    obtain ⟨hP, hD⟩ := hpd (cxW k a r t th kd bs us sth mk dr M sM) (pm_nil _)
    exact ps_x hQ hlk htb ⟨Or.inl ⟨rfl, by simp [cdRe, h9]⟩, rfl⟩ hP hD hS hce hcv hcl (by decide) (by decide)
  obtain ⟨rfl, hq⟩ := hw
  obtain ⟨hP, hD⟩ := hpd (cxW k a r t th kd bs us sth mk dr M sM) (pm_nil _)
  refine W.widen (k := 1) (n := 6) (by decide) (by decide) ?_
  obtain ⟨j, hj, rfl, hqt⟩ := hsB_t (by decide) hq
  refine lv_aload_n hx hb d_S_resolve_5 rfl (lv_at hl 0 rfl) ?_
  refine lv_iload_n hx hb d_S_resolve_6 rfl (lv_at hl 2 rfl) ?_
  refine lv_iconst (v := nI 0) hx hb d_S_resolve_7 (by decide) ?_
  refine cax_v (wc := cxW k a r t th kd bs us sth mk dr M sM) (wr := []) (vx_runV (As := [.int c9, .int (nI 0)]) (rest := []) ⟨hx, hb, hml, hown, hts⟩ (c_requireNoneOrOfKind l D k a r t th kd bs us sth mk dr M sM sa hl9 c9 (nI 0) H.size) (cwV9 2 hts wd_192 wd_189 wd_191 ws_9 wd_1 (by decide) ⟨Nat.le_of_ble_eq_true rfl, Nat.le_of_ble_eq_true rfl⟩) (prVx (q0 := 0) (ci := ciSS) hE hS hA hK hP hD (pm_nil' _) rfl rfl) rfl rfl hl.1 rfl (lv_room (Nat.le_of_ble_eq_true rfl)) d_S_resolve_8 ⟨by decide, by decide⟩) (pm_nil' _) hP hD hS hA (fun E9 ce9 ad9 w1 H locs hpx hpd hS hce hcv hcl => ?_) (fun w1 H locs hw hpd hS => ?_)
  · skip
    obtain ⟨rfl, h9, rfl⟩ := hpx
    obtain ⟨hP, hD⟩ := hpd (cxW k a r t th kd bs us sth mk dr M sM) (pm_nil _)
    exact ps_x hQ hlk htb ⟨Or.inr (⟨rfl, by simp [cdRe, hq, h9]⟩), rfl⟩ hP hD hS hce hcv hcl (by decide) (by decide)
  obtain ⟨rfl, hc⟩ := hw
  obtain ⟨hP, hD⟩ := hpd (cxW k a r t th kd bs us sth mk dr M sM) (pm_nil _)
  refine W.widen (k := 2) (n := 12) (by decide) (by decide) ?_
  refine lv_aload_n hx hb d_S_resolve_11 rfl (lv_at hl 0 rfl) ?_
  refine lv_iload_n hx hb d_S_resolve_12 rfl (lv_at hl 3 rfl) ?_
  refine lv_iconst (v := nI 1) hx hb d_S_resolve_13 (by decide) ?_
  refine cax_v (wc := cxW k a r t th kd bs us sth mk dr M sM) (wr := []) (vx_runV (As := [.int q9, .int (nI 1)]) (rest := []) ⟨hx, hb, hml, hown, hts⟩ (c_requireNoneOrOfKind l D k a r t th kd bs us sth mk dr M sM sa hl9 q9 (nI 1) H.size) (cwV9 2 hts wd_192 wd_189 wd_191 ws_9 wd_1 (by decide) ⟨Nat.le_of_ble_eq_true rfl, Nat.le_of_ble_eq_true rfl⟩) (prVx (q0 := 0) (ci := ciSS) hE hS hA hK hP hD (pm_nil' _) rfl rfl) rfl rfl hl.1 rfl (lv_room (Nat.le_of_ble_eq_true rfl)) d_S_resolve_14 ⟨by decide, by decide⟩) (pm_nil' _) hP hD hS hA (fun E9 ce9 ad9 w1 H locs hpx hpd hS hce hcv hcl => ?_) (fun w1 H locs hw hpd hS => ?_)
  · skip
    obtain ⟨rfl, h9, rfl⟩ := hpx
    obtain ⟨hP, hD⟩ := hpd (cxW k a r t th kd bs us sth mk dr M sM) (pm_nil _)
    exact ps_x hQ hlk htb ⟨Or.inr (⟨rfl, by simp [cdRe, hq, hc, h9]⟩), rfl⟩ hP hD hS hce hcv hcl (by decide) (by decide)
  obtain ⟨rfl, hk⟩ := hw
  obtain ⟨hP, hD⟩ := hpd (cxW k a r t th kd bs us sth mk dr M sM) (pm_nil _)
  refine W.widen (k := 3) (n := 18) (by decide) (by decide) ?_
  refine lv_iload hx hb d_S_resolve_17 (lv_at hl 4 rfl) ?_
  refine cax_v (wc := []) (wr := cxW k a r t th kd bs us sth mk dr M sM) (vx_runS (As := [.int y]) (rest := []) ⟨hx, hb, hml, hown, hts⟩ (c_requireProperty l D k sa hl9 y H.size) (cwS9 1 hts wd_262 wd_260 wd_261 wd_1 (by decide) ⟨Nat.le_of_ble_eq_true rfl, Nat.le_of_ble_eq_true rfl⟩) (prSx hE hS hA hK hP hD (List.Perm.refl _)) rfl rfl hl.1 rfl (lv_room (Nat.le_of_ble_eq_true rfl)) d_S_resolve_19 ⟨by decide, by decide⟩) (List.Perm.refl _) hP hD hS hA (fun E9 ce9 ad9 w1 H locs hpx hpd hS hce hcv hcl => ?_) (fun w1 H locs hw hpd hS => ?_)
  · skip
    obtain ⟨rfl, h9, rfl⟩ := hpx
    obtain ⟨hP, hD⟩ := hpd (cxW k a r t th kd bs us sth mk dr M sM) (List.Perm.refl _)
    exact ps_x hQ hlk htb ⟨Or.inr (⟨rfl, by simp [cdRe, hq, hc, hk, h9]⟩), rfl⟩ hP hD hS hce hcv hcl (by decide) (by decide)
  obtain ⟨rfl, hp⟩ := hw
  obtain ⟨hP, hD⟩ := hpd (cxW k a r t th kd bs us sth mk dr M sM) (List.Perm.refl _)
  refine W.widen (k := 4) (n := 24) (by decide) (by decide) ?_
  obtain ⟨p9, hp9, rfl⟩ := prB_t hp
  refine lv_aload_n hx hb d_S_resolve_22 rfl (lv_at hl 0 rfl) ?_
  refine lv_iload_n hx hb d_S_resolve_23 rfl (lv_at hl 1 rfl) ?_
  refine lv_iload_n hx hb d_S_resolve_24 rfl (lv_at hl 2 rfl) ?_
  refine lv_iload_n hx hb d_S_resolve_25 rfl (lv_at hl 3 rfl) ?_
  refine lv_iload hx hb d_S_resolve_26 (lv_at hl 4 rfl) ?_
  refine cal_i (wc := cxW k a r t th kd bs us sth mk dr M sM) (wr := []) (va_runV (As := [.int (nI j), .int c9, .int q9, .int (nI p9)]) (rest := []) ⟨hx, hb, hml, hown, hts⟩ (c_resolved l D k a r t th kd bs us sth mk dr M sM j hj c9 q9 p9 hp9 H.size) (cwV9 4 hts wd_378 wd_375 wd_377 ws_20 wd_1 (by decide) ⟨Nat.le_of_ble_eq_true rfl, Nat.le_of_ble_eq_true rfl⟩) (prV (q0 := 0) (ci := ciSS) hK hP hD (pm_nil' _) rfl rfl) rfl rfl hl.1 rfl (lv_room (Nat.le_of_ble_eq_true rfl)) d_S_resolve_28 ⟨by decide, by decide⟩) (pm_nil' _) hP hD hS hA (fun r w1 H locs hw hpd hS => ?_)
  obtain ⟨rfl, rfl⟩ := hw
  obtain ⟨hP, hD⟩ := hpd (cxW k a r t th kd bs us sth mk dr M sM) (pm_nil _)
  exact hret _ _ _ _ _ _ _ _ d_S_resolve_31 ⟨j, hj, rfl, hq, hc, hk, p9, hp9, rfl, rfl, rfl⟩ hP hD hS (by decide) (by decide)

set_option maxRecDepth 100000 in
set_option maxHeartbeats 4000000 in
theorem c_differ (l : Launch) (D : va_G) (k : Nat → ClassId) (a r t : Nat → Nat) (th kd bs us sth mk dr : Nat → Int32) (M sM : Nat → Nat → Int32) (sa : Nat → Nat) (hl9 : l.stackTraces = false) (x y c9 q9 : Int32) (sz : Nat) : bXI l y_S_differ (wY y_S_differ b_S_differ 6 (some .int)) (rm9 8 4 24) Sts sa D (tsK k) (cxW k a r t th kd bs us sth mk dr M sM) sz [.ref (a 0), .int x, .int y, .int c9, .int q9] (fun v w => ∃ j : Nat, j < 256 ∧ x = nI j ∧ hsB 256 sth (nI j) = true ∧ ∃ j2 : Nat, j2 < 256 ∧ y = nI j2 ∧ hsB 256 sth (nI j2) = true ∧ okB th kd c9 (nI 0) = true ∧ okB th kd q9 (nI 1) = true ∧ v = fdF (fun i => decide (¬ rsF th bs us M sM j c9 q9 i = rsF th bs us M sM j2 c9 q9 i)) 24 0 ∧ w = cxW k a r t th kd bs us sth mk dr M sM) (fun E w => ((E = "java/util/NoSuchElementException" ∧ cdDi th kd sth x y c9 q9 = 1) ∨ (E = "java/lang/IllegalArgumentException" ∧ cdDi th kd sth x y c9 q9 = 2)) ∧ w = cxW k a r t th kd bs us sth mk dr M sM) 4 24 := by
  refine ent_xi (cc := b_S_differ) (maxL := 6) (ty := .int) (by decide) (Nat.le_of_ble_eq_true rfl) (fun _ _ _ => rfl) ?_
  intro p e s m args below meth c A Q ls hx hb hml hown hts hsz hA hP hD hS hK hl hlk htb hE hQ hret
  refine lv_aload_n hx hb d_S_differ_0 rfl (lv_at hl 0 rfl) ?_
  refine lv_iload_n hx hb d_S_differ_1 rfl (lv_at hl 1 rfl) ?_
  refine cax_v (wc := cxW k a r t th kd bs us sth mk dr M sM) (wr := []) (vx_runV (As := [.int x]) (rest := []) ⟨hx, hb, hml, hown, hts⟩ (c_requireSet l D k a r t th kd bs us sth mk dr M sM sa hl9 x s.heap.size) (cwV9 1 hts wd_326 wd_323 wd_325 ws_16 wd_1 (by decide) ⟨Nat.le_of_ble_eq_true rfl, Nat.le_of_ble_eq_true rfl⟩) (prVx (q0 := 0) (ci := ciSS) hE hS hA hK hP hD (pm_nil' _) rfl rfl) rfl rfl hl.1 rfl (lv_room (Nat.le_of_ble_eq_true rfl)) d_S_differ_2 ⟨by decide, by decide⟩) (pm_nil' _) hP hD hS hA (fun E9 ce9 ad9 w1 H locs hpx hpd hS hce hcv hcl => ?_) (fun w1 H locs hw hpd hS => ?_)
  · skip
    obtain ⟨rfl, h9, rfl⟩ := hpx
    obtain ⟨hP, hD⟩ := hpd (cxW k a r t th kd bs us sth mk dr M sM) (pm_nil _)
    exact ps_x hQ hlk htb ⟨Or.inl ⟨rfl, by simp [cdDi, h9]⟩, rfl⟩ hP hD hS hce hcv hcl (by decide) (by decide)
  obtain ⟨rfl, hq⟩ := hw
  obtain ⟨hP, hD⟩ := hpd (cxW k a r t th kd bs us sth mk dr M sM) (pm_nil _)
  refine W.widen (k := 1) (n := 6) (by decide) (by decide) ?_
  obtain ⟨j, hj, rfl, hqt⟩ := hsB_t (by decide) hq
  refine lv_aload_n hx hb d_S_differ_5 rfl (lv_at hl 0 rfl) ?_
  refine lv_iload_n hx hb d_S_differ_6 rfl (lv_at hl 2 rfl) ?_
  refine cax_v (wc := cxW k a r t th kd bs us sth mk dr M sM) (wr := []) (vx_runV (As := [.int y]) (rest := []) ⟨hx, hb, hml, hown, hts⟩ (c_requireSet l D k a r t th kd bs us sth mk dr M sM sa hl9 y H.size) (cwV9 1 hts wd_326 wd_323 wd_325 ws_16 wd_1 (by decide) ⟨Nat.le_of_ble_eq_true rfl, Nat.le_of_ble_eq_true rfl⟩) (prVx (q0 := 0) (ci := ciSS) hE hS hA hK hP hD (pm_nil' _) rfl rfl) rfl rfl hl.1 rfl (lv_room (Nat.le_of_ble_eq_true rfl)) d_S_differ_7 ⟨by decide, by decide⟩) (pm_nil' _) hP hD hS hA (fun E9 ce9 ad9 w1 H locs hpx hpd hS hce hcv hcl => ?_) (fun w1 H locs hw hpd hS => ?_)
  · skip
    obtain ⟨rfl, h9, rfl⟩ := hpx
    obtain ⟨hP, hD⟩ := hpd (cxW k a r t th kd bs us sth mk dr M sM) (pm_nil _)
    exact ps_x hQ hlk htb ⟨Or.inl ⟨rfl, by simp [cdDi, hq, h9]⟩, rfl⟩ hP hD hS hce hcv hcl (by decide) (by decide)
  obtain ⟨rfl, hq2⟩ := hw
  obtain ⟨hP, hD⟩ := hpd (cxW k a r t th kd bs us sth mk dr M sM) (pm_nil _)
  refine W.widen (k := 2) (n := 12) (by decide) (by decide) ?_
  obtain ⟨j2, hj2, rfl, hq2t⟩ := hsB_t (by decide) hq2
  refine lv_aload_n hx hb d_S_differ_10 rfl (lv_at hl 0 rfl) ?_
  refine lv_iload_n hx hb d_S_differ_11 rfl (lv_at hl 3 rfl) ?_
  refine lv_iconst (v := nI 0) hx hb d_S_differ_12 (by decide) ?_
  refine cax_v (wc := cxW k a r t th kd bs us sth mk dr M sM) (wr := []) (vx_runV (As := [.int c9, .int (nI 0)]) (rest := []) ⟨hx, hb, hml, hown, hts⟩ (c_requireNoneOrOfKind l D k a r t th kd bs us sth mk dr M sM sa hl9 c9 (nI 0) H.size) (cwV9 2 hts wd_192 wd_189 wd_191 ws_9 wd_1 (by decide) ⟨Nat.le_of_ble_eq_true rfl, Nat.le_of_ble_eq_true rfl⟩) (prVx (q0 := 0) (ci := ciSS) hE hS hA hK hP hD (pm_nil' _) rfl rfl) rfl rfl hl.1 rfl (lv_room (Nat.le_of_ble_eq_true rfl)) d_S_differ_13 ⟨by decide, by decide⟩) (pm_nil' _) hP hD hS hA (fun E9 ce9 ad9 w1 H locs hpx hpd hS hce hcv hcl => ?_) (fun w1 H locs hw hpd hS => ?_)
  · skip
    obtain ⟨rfl, h9, rfl⟩ := hpx
    obtain ⟨hP, hD⟩ := hpd (cxW k a r t th kd bs us sth mk dr M sM) (pm_nil _)
    exact ps_x hQ hlk htb ⟨Or.inr (⟨rfl, by simp [cdDi, hq, hq2, h9]⟩), rfl⟩ hP hD hS hce hcv hcl (by decide) (by decide)
  obtain ⟨rfl, hc⟩ := hw
  obtain ⟨hP, hD⟩ := hpd (cxW k a r t th kd bs us sth mk dr M sM) (pm_nil _)
  refine W.widen (k := 3) (n := 18) (by decide) (by decide) ?_
  refine lv_aload_n hx hb d_S_differ_16 rfl (lv_at hl 0 rfl) ?_
  refine lv_iload hx hb d_S_differ_17 (lv_at hl 4 rfl) ?_
  refine lv_iconst (v := nI 1) hx hb d_S_differ_19 (by decide) ?_
  refine cax_v (wc := cxW k a r t th kd bs us sth mk dr M sM) (wr := []) (vx_runV (As := [.int q9, .int (nI 1)]) (rest := []) ⟨hx, hb, hml, hown, hts⟩ (c_requireNoneOrOfKind l D k a r t th kd bs us sth mk dr M sM sa hl9 q9 (nI 1) H.size) (cwV9 2 hts wd_192 wd_189 wd_191 ws_9 wd_1 (by decide) ⟨Nat.le_of_ble_eq_true rfl, Nat.le_of_ble_eq_true rfl⟩) (prVx (q0 := 0) (ci := ciSS) hE hS hA hK hP hD (pm_nil' _) rfl rfl) rfl rfl hl.1 rfl (lv_room (Nat.le_of_ble_eq_true rfl)) d_S_differ_20 ⟨by decide, by decide⟩) (pm_nil' _) hP hD hS hA (fun E9 ce9 ad9 w1 H locs hpx hpd hS hce hcv hcl => ?_) (fun w1 H locs hw hpd hS => ?_)
  · skip
    obtain ⟨rfl, h9, rfl⟩ := hpx
    obtain ⟨hP, hD⟩ := hpd (cxW k a r t th kd bs us sth mk dr M sM) (pm_nil _)
    exact ps_x hQ hlk htb ⟨Or.inr (⟨rfl, by simp [cdDi, hq, hq2, hc, h9]⟩), rfl⟩ hP hD hS hce hcv hcl (by decide) (by decide)
  obtain ⟨rfl, hk⟩ := hw
  obtain ⟨hP, hD⟩ := hpd (cxW k a r t th kd bs us sth mk dr M sM) (pm_nil _)
  refine W.widen (k := 4) (n := 24) (by decide) (by decide) ?_
  refine lv_iconst (v := nI 0) hx hb d_S_differ_23 (by decide) ?_
  refine lv_istore (lv' := [(5, .int (nI 0)), (0, .ref (a 0)), (1, .int (nI j)), (2, .int (nI j2)), (3, .int c9), (4, .int q9)]) hx hb d_S_differ_24 hl (by decide) rfl (fun ls hl => ?_)
  have lp : ∀ (n9 : Nat) (i : Nat) (ls : Array Slot) (H : Heap) (locs : List Loc), 24 - i < n9 → (i ≤ 24) → (fdF (fun i => decide (¬ rsF th bs us M sM j c9 q9 i = rsF th bs us M sM j2 c9 q9 i)) 24 0 = fdF (fun i => decide (¬ rsF th bs us M sM j c9 q9 i = rsF th bs us M sM j2 c9 q9 i)) (24 - i) i) → va_P D vwCl (cxW k a r t th kd bs us sth mk dr M sM) H → va_D A (cxW k a r t th kd bs us sth mk dr M sM) → va_S A s.heap H locs → lv_has ls 6 [(0, .ref (a 0)), (1, .int (nI j)), (2, .int (nI j2)), (3, .int c9), (4, .int q9), (5, .int (nI i))] → W p l e (rm9 8 4 24) s m args below meth c H locs 4 24 Q (F0 m 26 ls []) := by
    intro n9
    induction n9 with
    | zero => intro i ls H locs hm; omega
    | succ n9 ih =>
      intro i ls H locs hm hi hf hP hD hS hl
      refine lv_iload hx hb d_S_differ_26 (lv_at hl 5 rfl) ?_
      refine lv_bipush (v := nI 24) hx hb d_S_differ_28 (by decide) ?_
      refine lv_icmp_ge (tgt := 65) hx hb d_S_differ_30 (by decide) (fun c30 => ?_) (fun c30 => ?_)
      · skip
        rw [nI_leI (by omega) (by omega)] at c30
        refine lv_iconst (v := -1) hx hb d_S_differ_65 (by decide) ?_
        exact hret _ _ _ _ _ _ _ _ d_S_differ_66 ⟨j, hj, rfl, hq, j2, hj2, rfl, hq2, hc, hk, by rw [hf, fdF_end (by omega)], rfl⟩ hP hD hS (by decide) (by decide)
      · skip
        rw [nI_leI (by omega) (by omega)] at c30
        refine lv_aload_n hx hb d_S_differ_33 rfl (lv_at hl 0 rfl) ?_
        refine lv_iload_n hx hb d_S_differ_34 rfl (lv_at hl 1 rfl) ?_
        refine lv_iload_n hx hb d_S_differ_35 rfl (lv_at hl 3 rfl) ?_
        refine lv_iload hx hb d_S_differ_36 (lv_at hl 4 rfl) ?_
        refine lv_iload hx hb d_S_differ_38 (lv_at hl 5 rfl) ?_
        refine cal_i (wc := cxW k a r t th kd bs us sth mk dr M sM) (wr := []) (va_runV (As := [.int (nI j), .int c9, .int q9, .int (nI i)]) (rest := []) ⟨hx, hb, hml, hown, hts⟩ (c_resolved l D k a r t th kd bs us sth mk dr M sM j hj c9 q9 i (by omega) H.size) (cwV9 4 hts wd_378 wd_375 wd_377 ws_20 wd_1 (by decide) ⟨Nat.le_of_ble_eq_true rfl, Nat.le_of_ble_eq_true rfl⟩) (prV (q0 := 0) (ci := ciSS) hK hP hD (pm_nil' _) rfl rfl) rfl rfl hl.1 rfl (lv_room (Nat.le_of_ble_eq_true rfl)) d_S_differ_40 ⟨by decide, by decide⟩) (pm_nil' _) hP hD hS hA (fun r w1 H locs hw hpd hS => ?_)
        obtain ⟨rfl, rfl⟩ := hw
        obtain ⟨hP, hD⟩ := hpd (cxW k a r t th kd bs us sth mk dr M sM) (pm_nil _)
        refine lv_aload_n hx hb d_S_differ_43 rfl (lv_at hl 0 rfl) ?_
        refine lv_iload_n hx hb d_S_differ_44 rfl (lv_at hl 2 rfl) ?_
        refine lv_iload_n hx hb d_S_differ_45 rfl (lv_at hl 3 rfl) ?_
        refine lv_iload hx hb d_S_differ_46 (lv_at hl 4 rfl) ?_
        refine lv_iload hx hb d_S_differ_48 (lv_at hl 5 rfl) ?_
        refine cal_i (wc := cxW k a r t th kd bs us sth mk dr M sM) (wr := []) (va_runV (As := [.int (nI j2), .int c9, .int q9, .int (nI i)]) (rest := [.int (rsF th bs us M sM j c9 q9 i)]) ⟨hx, hb, hml, hown, hts⟩ (c_resolved l D k a r t th kd bs us sth mk dr M sM j2 hj2 c9 q9 i (by omega) H.size) (cwV9 4 hts wd_378 wd_375 wd_377 ws_20 wd_1 (by decide) ⟨Nat.le_of_ble_eq_true rfl, Nat.le_of_ble_eq_true rfl⟩) (prV (q0 := 0) (ci := ciSS) hK hP hD (pm_nil' _) rfl rfl) rfl rfl hl.1 rfl (lv_room (Nat.le_of_ble_eq_true rfl)) d_S_differ_50 ⟨by decide, by decide⟩) (pm_nil' _) hP hD hS hA (fun r w1 H locs hw hpd hS => ?_)
        obtain ⟨rfl, rfl⟩ := hw
        obtain ⟨hP, hD⟩ := hpd (cxW k a r t th kd bs us sth mk dr M sM) (pm_nil _)
        refine lv_icmp_eq (tgt := 59) hx hb d_S_differ_53 (by decide) (fun c53 => ?_) (fun c53 => ?_)
        · skip
          refine lv_iinc (v := nI (i + 1)) (lv' := [(5, .int (nI (i + 1))), (0, .ref (a 0)), (1, .int (nI j)), (2, .int (nI j2)), (3, .int c9), (4, .int q9)]) hx hb d_S_differ_59 hl (k := 5) rfl (ii_1 _) (by decide) rfl (fun ls hl => ?_)
          refine lv_goto (tgt := 26) hx hb d_S_differ_62 (by decide) ?_
          exact ih (i + 1) ls H locs (by omega) (by omega) (by rw [hf]; exact fdF_miss (by omega) (by simp [c53])) hP hD hS (lv_sub hl [1, 2, 3, 4, 5, 0] rfl)
        · skip
          refine lv_iload hx hb d_S_differ_56 (lv_at hl 5 rfl) ?_
          exact hret _ _ _ _ _ _ _ _ d_S_differ_58 ⟨j, hj, rfl, hq, j2, hj2, rfl, hq2, hc, hk, by rw [hf, fdF_hit (by omega) (by simp [c53])], rfl⟩ hP hD hS (by decide) (by decide)
  exact lp _ (0) ls H locs (Nat.lt_succ_self _) (by decide) rfl hP hD hS (lv_sub hl [1, 2, 3, 4, 5, 0] rfl)

set_option maxRecDepth 100000 in
set_option maxHeartbeats 4000000 in
theorem c_mark (l : Launch) (D : va_G) (k : Nat → ClassId) (a r t : Nat → Nat) (th kd bs us sth mk dr : Nat → Int32) (M sM : Nat → Nat → Int32) (sa : Nat → Nat) (hl9 : l.stackTraces = false) (x : Int32) (sz : Nat) : bXI l y_S_mark (wY y_S_mark b_S_mark 4 (some .int)) (rm9 8 1 6) Sts sa D (tsK k) (cxW k a r t th kd bs us sth mk dr M sM) sz [.ref (a 0), .int x] (fun v w => ∃ j : Nat, j < 256 ∧ x = nI j ∧ hsB 256 sth (nI j) = true ∧ v = nI (cnF (fun i => decide (upd mk j (nI 1) i ≠ 0)) 256) ∧ w = cxW k a r t th kd bs us sth (upd mk j (nI 1)) dr M sM) (fun E w => ((E = "java/util/NoSuchElementException" ∧ cdMa sth x = 1)) ∧ w = cxW k a r t th kd bs us sth mk dr M sM) 1 6 := by
  refine ent_xi (cc := b_S_mark) (maxL := 4) (ty := .int) (by decide) (Nat.le_of_ble_eq_true rfl) (fun _ _ _ => rfl) ?_
  intro p e s m args below meth c A Q ls hx hb hml hown hts hsz hA hP hD hS hK hl hlk htb hE hQ hret
  refine lv_aload_n hx hb d_S_mark_0 rfl (lv_at hl 0 rfl) ?_
  refine lv_iload_n hx hb d_S_mark_1 rfl (lv_at hl 1 rfl) ?_
  refine cax_v (wc := cxW k a r t th kd bs us sth mk dr M sM) (wr := []) (vx_runV (As := [.int x]) (rest := []) ⟨hx, hb, hml, hown, hts⟩ (c_requireSet l D k a r t th kd bs us sth mk dr M sM sa hl9 x s.heap.size) (cwV9 1 hts wd_326 wd_323 wd_325 ws_16 wd_1 (by decide) ⟨Nat.le_of_ble_eq_true rfl, Nat.le_of_ble_eq_true rfl⟩) (prVx (q0 := 0) (ci := ciSS) hE hS hA hK hP hD (pm_nil' _) rfl rfl) rfl rfl hl.1 rfl (lv_room (Nat.le_of_ble_eq_true rfl)) d_S_mark_2 ⟨by decide, by decide⟩) (pm_nil' _) hP hD hS hA (fun E9 ce9 ad9 w1 H locs hpx hpd hS hce hcv hcl => ?_) (fun w1 H locs hw hpd hS => ?_)
  · skip
    obtain ⟨rfl, h9, rfl⟩ := hpx
    obtain ⟨hP, hD⟩ := hpd (cxW k a r t th kd bs us sth mk dr M sM) (pm_nil _)
    exact ps_x hQ hlk htb ⟨⟨rfl, by simp [cdMa, h9]⟩, rfl⟩ hP hD hS hce hcv hcl (by decide) (by decide)
  obtain ⟨rfl, hq⟩ := hw
  obtain ⟨hP, hD⟩ := hpd (cxW k a r t th kd bs us sth mk dr M sM) (pm_nil _)
  refine W.widen (k := 1) (n := 6) (by decide) (by decide) ?_
  obtain ⟨j, hj, rfl, hqt⟩ := hsB_t (by decide) hq
  refine lv_aload_n hx hb d_S_mark_5 rfl (lv_at hl 0 rfl) ?_
  refine va_get (D := D) (ci := ciSS) (v := .ref (a 6)) (C := RS) (T := TS) (N := 7) hx hb hts inS hown hK.1 hP 0 rfl rfl 5 (by decide) (hts _ wd_51) (fun _ h9 => h9) rfl d_S_mark_6 ?_
  refine lv_iload_n hx hb d_S_mark_9 rfl (lv_at hl 1 rfl) ?_
  refine lv_iconst (v := nI 1) hx hb d_S_mark_10 (by decide) ?_
  refine rw_zast hx hb hK.1 hP hD hS 6 1 rfl rfl (j := j) bz_1 (by omega) (by decide) d_S_mark_11 (wn := cxW k a r t th kd bs us sth (upd mk j (nI 1)) dr M sM) rfl (fun H locs hP hD hS => ?_)
  refine lv_iconst (v := nI 0) hx hb d_S_mark_12 (by decide) ?_
  refine lv_istore_n (lv' := [(2, .int (nI 0)), (0, .ref (a 0)), (1, .int (nI j))]) hx hb d_S_mark_13 rfl hl (by decide) rfl (fun ls hl => ?_)
  refine lv_iconst (v := nI 0) hx hb d_S_mark_14 (by decide) ?_
  refine lv_istore_n (lv' := [(3, .int (nI 0)), (2, .int (nI 0)), (0, .ref (a 0)), (1, .int (nI j))]) hx hb d_S_mark_15 rfl hl (by decide) rfl (fun ls hl => ?_)
  have lp : ∀ (n9 : Nat) (i : Nat) (ls : Array Slot) (H : Heap) (locs : List Loc), 256 - i < n9 → (i ≤ 256) → va_P D vwCl (cxW k a r t th kd bs us sth (upd mk j (nI 1)) dr M sM) H → va_D A (cxW k a r t th kd bs us sth (upd mk j (nI 1)) dr M sM) → va_S A s.heap H locs → lv_has ls 4 [(0, .ref (a 0)), (1, .int (nI j)), (2, .int (nI (cnF (fun i => decide (upd mk j (nI 1) i ≠ 0)) i))), (3, .int (nI i))] → W p l e (rm9 8 1 6) s m args below meth c H locs 1 6 Q (F0 m 16 ls []) := by
    intro n9
    induction n9 with
    | zero => intro i ls H locs hm; omega
    | succ n9 ih =>
      intro i ls H locs hm hi hP hD hS hl
      refine lv_iload_n hx hb d_S_mark_16 rfl (lv_at hl 3 rfl) ?_
      refine lv_sipush (v := nI 256) hx hb d_S_mark_17 (by decide) ?_
      refine lv_icmp_ge (tgt := 41) hx hb d_S_mark_20 (by decide) (fun c20 => ?_) (fun c20 => ?_)
      · skip
        rw [nI_leI (by omega) (by omega)] at c20
        refine lv_iload_n hx hb d_S_mark_41 rfl (lv_at hl 2 rfl) ?_
        exact hret _ _ _ _ _ _ _ _ d_S_mark_42 ⟨j, hj, rfl, hq, by rw [show i = 256 by omega], rfl⟩ hP hD hS (by decide) (by decide)
      · skip
        rw [nI_leI (by omega) (by omega)] at c20
        refine lv_aload_n hx hb d_S_mark_23 rfl (lv_at hl 0 rfl) ?_
        refine va_get (D := D) (ci := ciSS) (v := .ref (a 6)) (C := RS) (T := TS) (N := 7) hx hb hts inS hown hK.1 hP 0 rfl rfl 5 (by decide) (hts _ wd_51) (fun _ h9 => h9) rfl d_S_mark_24 ?_
        refine lv_iload_n hx hb d_S_mark_27 rfl (lv_at hl 3 rfl) ?_
        refine rw_zald hx hb hK.1 hP 6 1 rfl rfl (j := i) (by omega) (by decide) d_S_mark_28 ?_
        refine lv_if_eq (tgt := 35) hx hb d_S_mark_29 (by decide) (fun c29 => ?_) (fun c29 => ?_)
        · skip
          rw [cnF_f (f := (fun i => decide (upd mk j (nI 1) i ≠ 0))) (by simp [c29])] at hl
          refine lv_iinc (v := nI (i + 1)) (lv' := [(3, .int (nI (i + 1))), (0, .ref (a 0)), (1, .int (nI j)), (2, .int (nI (cnF (fun i => decide (upd mk j (nI 1) i ≠ 0)) (i + 1))))]) hx hb d_S_mark_35 hl (k := 3) rfl (ii_1 _) (by decide) rfl (fun ls hl => ?_)
          refine lv_goto (tgt := 16) hx hb d_S_mark_38 (by decide) ?_
          exact ih (i + 1) ls H locs (by omega) (by omega) hP hD hS (lv_sub hl [1, 2, 3, 0] rfl)
        · skip
          refine lv_iinc (v := nI ((cnF (fun i => decide (upd mk j (nI 1) i ≠ 0)) i) + 1)) (lv' := [(2, .int (nI ((cnF (fun i => decide (upd mk j (nI 1) i ≠ 0)) i) + 1))), (0, .ref (a 0)), (1, .int (nI j)), (3, .int (nI i))]) hx hb d_S_mark_32 hl (k := 2) rfl (ii_1 _) (by decide) rfl (fun ls hl => ?_)
          rw [cnF_t (f := (fun i => decide (upd mk j (nI 1) i ≠ 0))) (by simp [c29])] at hl
          refine lv_iinc (v := nI (i + 1)) (lv' := [(3, .int (nI (i + 1))), (2, .int (nI (cnF (fun i => decide (upd mk j (nI 1) i ≠ 0)) (i + 1)))), (0, .ref (a 0)), (1, .int (nI j))]) hx hb d_S_mark_35 hl (k := 3) rfl (ii_1 _) (by decide) rfl (fun ls hl => ?_)
          refine lv_goto (tgt := 16) hx hb d_S_mark_38 (by decide) ?_
          exact ih (i + 1) ls H locs (by omega) (by omega) hP hD hS (lv_sub hl [2, 3, 1, 0] rfl)
  exact lp _ (0) ls H locs (Nat.lt_succ_self _) (by decide) hP hD hS (lv_sub hl [2, 3, 1, 0] rfl)
end
section
/-! with, over, lean, size, sweep, count, a new object -/

set_option maxRecDepth 100000 in
set_option maxHeartbeats 4000000 in
theorem c_with (l : Launch) (D : va_G) (k : Nat → ClassId) (a r t : Nat → Nat) (th kd bs us sth mk dr : Nat → Int32) (M sM : Nat → Nat → Int32) (sa : Nat → Nat) (hl9 : l.stackTraces = false) (x y v9 : Int32) (sz : Nat) : bXI l y_S_with (wY y_S_with b_S_with 5 (some .int)) (rm9 8 4 24) Sts sa D (tsK k) (cxW k a r t th kd bs us sth mk dr M sM) sz [.ref (a 0), .int x, .int y, .int v9] (fun v w => ∃ j : Nat, j < 256 ∧ x = nI j ∧ hsB 256 sth (nI j) = true ∧ ∃ p9 : Nat, p9 < 24 ∧ y = nI p9 ∧ nvB (nI p9) v9 = true ∧ cdWi sth x y v9 (fuB sth (pfF (wiG sM j p9 v9) dr 24) sM) = 0 ∧ ((¬ ndF sth (pfF (wiG sM j p9 v9) dr 24) sM = -1 ∧ v = ndF sth (pfF (wiG sM j p9 v9) dr 24) sM ∧ w = cxW k a r t th kd bs us sth mk (pfF (wiG sM j p9 v9) dr 24) M sM) ∨ (ndF sth (pfF (wiG sM j p9 v9) dr 24) sM = -1 ∧ ∃ j9 : Nat, j9 < 256 ∧ frF sth 256 = nI j9 ∧ v = nI j9 ∧ w = cxW k a r t th kd bs us (upd sth j9 (nI 1)) mk (pfF (wiG sM j p9 v9) dr 24) M (va_up sM j9 (pfF (wiG sM j p9 v9) dr 24))))) (fun E w => (((E = "java/util/NoSuchElementException" ∧ ∀ fu, cdWi sth x y v9 fu = 1) ∨ (E = "java/lang/IllegalArgumentException" ∧ ∀ fu, cdWi sth x y v9 fu = 2)) ∧ w = cxW k a r t th kd bs us sth mk dr M sM) ∨ (E = "java/lang/IllegalStateException" ∧ ∃ j : Nat, j < 256 ∧ x = nI j ∧ hsB 256 sth (nI j) = true ∧ ∃ p9 : Nat, p9 < 24 ∧ y = nI p9 ∧ nvB (nI p9) v9 = true ∧ cdWi sth x y v9 (fuB sth (pfF (wiG sM j p9 v9) dr 24) sM) = 3 ∧ w = cxW k a r t th kd bs us sth mk (pfF (wiG sM j p9 v9) dr 24) M sM)) 4 24 := by
  refine ent_xi (cc := b_S_with) (maxL := 5) (ty := .int) (by decide) (Nat.le_of_ble_eq_true rfl) (fun _ _ _ => rfl) ?_
  intro p e s m args below meth c A Q ls hx hb hml hown hts hsz hA hP hD hS hK hl hlk htb hE hQ hret
  refine lv_aload_n hx hb d_S_with_0 rfl (lv_at hl 0 rfl) ?_
  refine lv_iload_n hx hb d_S_with_1 rfl (lv_at hl 1 rfl) ?_
  refine cax_v (wc := cxW k a r t th kd bs us sth mk dr M sM) (wr := []) (vx_runV (As := [.int x]) (rest := []) ⟨hx, hb, hml, hown, hts⟩ (c_requireSet l D k a r t th kd bs us sth mk dr M sM sa hl9 x s.heap.size) (cwV9 1 hts wd_326 wd_323 wd_325 ws_16 wd_1 (by decide) ⟨Nat.le_of_ble_eq_true rfl, Nat.le_of_ble_eq_true rfl⟩) (prVx (q0 := 0) (ci := ciSS) hE hS hA hK hP hD (pm_nil' _) rfl rfl) rfl rfl hl.1 rfl (lv_room (Nat.le_of_ble_eq_true rfl)) d_S_with_2 ⟨by decide, by decide⟩) (pm_nil' _) hP hD hS hA (fun E9 ce9 ad9 w1 H locs hpx hpd hS hce hcv hcl => ?_) (fun w1 H locs hw hpd hS => ?_)
  · skip
    obtain ⟨rfl, h9, rfl⟩ := hpx
    obtain ⟨hP, hD⟩ := hpd (cxW k a r t th kd bs us sth mk dr M sM) (pm_nil _)
    exact ps_x hQ hlk htb (Or.inl ⟨Or.inl ⟨rfl, by intro fu; simp [cdWi, h9]⟩, rfl⟩) hP hD hS hce hcv hcl (by decide) (by decide)
  obtain ⟨rfl, hq⟩ := hw
  obtain ⟨hP, hD⟩ := hpd (cxW k a r t th kd bs us sth mk dr M sM) (pm_nil _)
  refine W.widen (k := 1) (n := 6) (by decide) (by decide) ?_
  obtain ⟨j, hj, rfl, hqt⟩ := hsB_t (by decide) hq
  refine lv_iload_n hx hb d_S_with_5 rfl (lv_at hl 2 rfl) ?_
  refine cax_v (wc := []) (wr := cxW k a r t th kd bs us sth mk dr M sM) (vx_runS (As := [.int y]) (rest := []) ⟨hx, hb, hml, hown, hts⟩ (c_requireProperty l D k sa hl9 y H.size) (cwS9 1 hts wd_262 wd_260 wd_261 wd_1 (by decide) ⟨Nat.le_of_ble_eq_true rfl, Nat.le_of_ble_eq_true rfl⟩) (prSx hE hS hA hK hP hD (List.Perm.refl _)) rfl rfl hl.1 rfl (lv_room (Nat.le_of_ble_eq_true rfl)) d_S_with_6 ⟨by decide, by decide⟩) (List.Perm.refl _) hP hD hS hA (fun E9 ce9 ad9 w1 H locs hpx hpd hS hce hcv hcl => ?_) (fun w1 H locs hw hpd hS => ?_)
  · skip
    obtain ⟨rfl, h9, rfl⟩ := hpx
    obtain ⟨hP, hD⟩ := hpd (cxW k a r t th kd bs us sth mk dr M sM) (List.Perm.refl _)
    exact ps_x hQ hlk htb (Or.inl ⟨Or.inr (⟨rfl, by intro fu; simp [cdWi, hq, h9]⟩), rfl⟩) hP hD hS hce hcv hcl (by decide) (by decide)
  obtain ⟨rfl, hp⟩ := hw
  obtain ⟨hP, hD⟩ := hpd (cxW k a r t th kd bs us sth mk dr M sM) (List.Perm.refl _)
  refine W.widen (k := 2) (n := 12) (by decide) (by decide) ?_
  refine lv_iload_n hx hb d_S_with_9 rfl (lv_at hl 2 rfl) ?_
  refine lv_iload_n hx hb d_S_with_10 rfl (lv_at hl 3 rfl) ?_
  refine cax_v (wc := []) (wr := cxW k a r t th kd bs us sth mk dr M sM) (vx_runS (As := [.int y, .int v9]) (rest := []) ⟨hx, hb, hml, hown, hts⟩ (c_requireNoneOrValue l D k sa hl9 y v9 H.size) (cwS9 2 hts wd_266 wd_264 wd_265 wd_1 (by decide) ⟨Nat.le_of_ble_eq_true rfl, Nat.le_of_ble_eq_true rfl⟩) (prSx hE hS hA hK hP hD (List.Perm.refl _)) rfl rfl hl.1 rfl (lv_room (Nat.le_of_ble_eq_true rfl)) d_S_with_11 ⟨by decide, by decide⟩) (List.Perm.refl _) hP hD hS hA (fun E9 ce9 ad9 w1 H locs hpx hpd hS hce hcv hcl => ?_) (fun w1 H locs hw hpd hS => ?_)
  · skip
    obtain ⟨rfl, h9, rfl⟩ := hpx
    obtain ⟨hP, hD⟩ := hpd (cxW k a r t th kd bs us sth mk dr M sM) (List.Perm.refl _)
    exact ps_x hQ hlk htb (Or.inl ⟨Or.inr (⟨rfl, by intro fu; simp [cdWi, hq, hp, h9]⟩), rfl⟩) hP hD hS hce hcv hcl (by decide) (by decide)
  obtain ⟨rfl, hv⟩ := hw
  obtain ⟨hP, hD⟩ := hpd (cxW k a r t th kd bs us sth mk dr M sM) (List.Perm.refl _)
  refine W.widen (k := 3) (n := 18) (by decide) (by decide) ?_
  obtain ⟨p9, hp9, rfl⟩ := prB_t hp
  rw [← pfF_0 (wiG sM j p9 v9) dr] at hP hD
  refine lv_iconst (v := nI 0) hx hb d_S_with_14 (by decide) ?_
  refine lv_istore (lv' := [(4, .int (nI 0)), (0, .ref (a 0)), (1, .int (nI j)), (2, .int (nI p9)), (3, .int v9)]) hx hb d_S_with_15 hl (by decide) rfl (fun ls hl => ?_)
  have lp : ∀ (n9 : Nat) (i : Nat) (ls : Array Slot) (H : Heap) (locs : List Loc), 24 - i < n9 → (i ≤ 24) → va_P D vwCl (cxW k a r t th kd bs us sth mk (pfF (wiG sM j p9 v9) dr i) M sM) H → va_D A (cxW k a r t th kd bs us sth mk (pfF (wiG sM j p9 v9) dr i) M sM) → va_S A s.heap H locs → lv_has ls 5 [(0, .ref (a 0)), (1, .int (nI j)), (2, .int (nI p9)), (3, .int v9), (4, .int (nI i))] → W p l e (rm9 8 4 24) s m args below meth c H locs 3 18 Q (F0 m 17 ls []) := by
    intro n9
    induction n9 with
    | zero => intro i ls H locs hm; omega
    | succ n9 ih =>
      intro i ls H locs hm hi hP hD hS hl
      refine lv_iload hx hb d_S_with_17 (lv_at hl 4 rfl) ?_
      refine lv_bipush (v := nI 24) hx hb d_S_with_19 (by decide) ?_
      refine lv_icmp_ge (tgt := 59) hx hb d_S_with_21 (by decide) (fun c21 => ?_) (fun c21 => ?_)
      · skip
        rw [nI_leI (by omega) (by omega)] at c21
        obtain rfl : i = 24 := by omega
        refine lv_aload_n hx hb d_S_with_59 rfl (lv_at hl 0 rfl) ?_
        refine cax_i (wc := cxW k a r t th kd bs us sth mk (pfF (wiG sM j p9 v9) dr 24) M sM) (wr := []) (vx_runV (As := []) (rest := []) ⟨hx, hb, hml, hown, hts⟩ (c_numberOfDraft l D k a r t th kd bs us sth mk (pfF (wiG sM j p9 v9) dr 24) M sM sa hl9 H.size) (cwV9 0 hts wd_331 wd_328 wd_330 ws_17 wd_1 (by decide) ⟨Nat.le_of_ble_eq_true rfl, Nat.le_of_ble_eq_true rfl⟩) (prVx (q0 := 0) (ci := ciSS) hE hS hA hK hP hD (pm_nil' _) rfl rfl) rfl rfl hl.1 rfl (lv_room (Nat.le_of_ble_eq_true rfl)) d_S_with_60 ⟨by decide, by decide⟩) (pm_nil' _) hP hD hS hA (fun E9 ce9 ad9 w1 H locs hpx hpd hS hce hcv hcl => ?_) (fun r w1 H locs hw hpd hS => ?_)
        · skip
          obtain ⟨rfl, h9, h8, rfl⟩ := hpx
          obtain ⟨hP, hD⟩ := hpd (cxW k a r t th kd bs us sth mk (pfF (wiG sM j p9 v9) dr 24) M sM) (pm_nil _)
          exact ps_x hQ hlk htb (Or.inr ⟨rfl, j, hj, rfl, hq, p9, hp9, rfl, hv, by simp [cdWi, hq, hp, hv, fuB, h9, h8], rfl⟩) hP hD hS hce hcv hcl (by decide) (by decide)
        · skip
          rcases hw with ⟨h7, rfl, rfl⟩ | ⟨h7, j9, hj9, h8, rfl, rfl⟩
          · obtain ⟨hP, hD⟩ := hpd (cxW k a r t th kd bs us sth mk (pfF (wiG sM j p9 v9) dr 24) M sM) (pm_nil _)
            exact hret _ _ _ _ _ _ _ _ d_S_with_63 ⟨j, hj, rfl, hq, p9, hp9, rfl, hv, by simp [cdWi, hq, hp, hv, fuB, h7], Or.inl ⟨h7, rfl, rfl⟩⟩ hP hD hS (by decide) (by decide)
          · obtain ⟨hP, hD⟩ := hpd (cxW k a r t th kd bs us (upd sth j9 (nI 1)) mk (pfF (wiG sM j p9 v9) dr 24) M (va_up sM j9 (pfF (wiG sM j p9 v9) dr 24))) (pm_nil _)
            exact hret _ _ _ _ _ _ _ _ d_S_with_63 ⟨j, hj, rfl, hq, p9, hp9, rfl, hv, by simp [cdWi, hq, hp, hv, fuB, h7, h8, ne_m1 (show j9 < 2 ^ 31 by omega)], Or.inr ⟨h7, j9, hj9, h8, rfl, rfl⟩⟩ hP hD hS (by decide) (by decide)
      · skip
        rw [nI_leI (by omega) (by omega)] at c21
        refine lv_aload_n hx hb d_S_with_24 rfl (lv_at hl 0 rfl) ?_
        refine va_get (D := D) (ci := ciSS) (v := .ref (a 7)) (C := RS) (T := TS) (N := 7) hx hb hts inS hown hK.1 hP 0 rfl rfl 6 (by decide) (hts _ wd_52) (fun _ h9 => h9) rfl d_S_with_25 ?_
        refine lv_iload hx hb d_S_with_28 (lv_at hl 4 rfl) ?_
        refine lv_iload hx hb d_S_with_30 (lv_at hl 4 rfl) ?_
        refine lv_iload_n hx hb d_S_with_32 rfl (lv_at hl 2 rfl) ?_
        refine lv_icmp_ne (tgt := 40) hx hb d_S_with_33 (by decide) (fun c33 => ?_) (fun c33 => ?_)
        · skip
          rw [nI_eq (by omega) (by omega)] at c33
          refine lv_aload_n hx hb d_S_with_40 rfl (lv_at hl 0 rfl) ?_
          refine va_get (D := D) (ci := ciSS) (v := .ref (a 5)) (C := RS) (T := TS) (N := 7) hx hb hts inS hown hK.1 hP 0 rfl rfl 4 (by decide) (hts _ wd_50) (fun _ h9 => h9) rfl d_S_with_41 ?_
          refine va_getN (D := D) (ci := ciTb) (v := .ref (a 11)) (C := RT) (T := TT) (N := 2) hx hb hts inT hown hK.1 hP 5 rfl rfl 1 (by decide) (va_Nw.use rfl (hK.2.1 (.fieldLinkNest "StyleSheet" 81 "StyleSheet$Table" "values" "[[I" "StyleSheet") (by decide))) (fun _ h9 => h9) rfl d_S_with_44 ?_
          refine lv_iload_n hx hb d_S_with_47 rfl (lv_at hl 1 rfl) ?_
          refine rw_aald hx hb hK.1 hP 11 2 rfl rfl (j := j) (y := t j) (by omega) (by decide) (gOut_at (by omega)) d_S_with_48 ?_
          refine lv_iload hx hb d_S_with_49 (lv_at hl 4 rfl) ?_
          refine rw_iald hx hb hK.1 hP (76 + j) 0 (cx_rowT (by omega)) rfl (j := i) (by omega) (by decide) d_S_with_51 ?_
          refine rw_iast hx hb hK.1 hP hD hS 7 0 rfl rfl (j := i) (by omega) (by decide) d_S_with_52 (wn := cxW k a r t th kd bs us sth mk (pfF (wiG sM j p9 v9) dr (i + 1)) M sM) (by rw [← pfF_s (g := wiG sM j p9 v9) (dr := dr) (i := i) (x := (sM j) i) (by simp [wiG, c33])]; rfl) (fun H locs hP hD hS => ?_)
          refine lv_iinc (v := nI (i + 1)) (lv' := [(4, .int (nI (i + 1))), (0, .ref (a 0)), (1, .int (nI j)), (2, .int (nI p9)), (3, .int v9)]) hx hb d_S_with_53 hl (k := 4) rfl (ii_1 _) (by decide) rfl (fun ls hl => ?_)
          refine lv_goto (tgt := 17) hx hb d_S_with_56 (by decide) ?_
          exact ih (i + 1) ls H locs (by omega) (by omega) hP hD hS (lv_sub hl [1, 2, 3, 4, 0] rfl)
        · skip
          rw [nI_eq (by omega) (by omega)] at c33
          refine lv_iload_n hx hb d_S_with_36 rfl (lv_at hl 3 rfl) ?_
          refine lv_goto (tgt := 52) hx hb d_S_with_37 (by decide) ?_
          refine rw_iast hx hb hK.1 hP hD hS 7 0 rfl rfl (j := i) (by omega) (by decide) d_S_with_52 (wn := cxW k a r t th kd bs us sth mk (pfF (wiG sM j p9 v9) dr (i + 1)) M sM) (by rw [← pfF_s (g := wiG sM j p9 v9) (dr := dr) (i := i) (x := v9) (by simp [wiG, c33])]; rfl) (fun H locs hP hD hS => ?_)
          refine lv_iinc (v := nI (i + 1)) (lv' := [(4, .int (nI (i + 1))), (0, .ref (a 0)), (1, .int (nI j)), (2, .int (nI p9)), (3, .int v9)]) hx hb d_S_with_53 hl (k := 4) rfl (ii_1 _) (by decide) rfl (fun ls hl => ?_)
          refine lv_goto (tgt := 17) hx hb d_S_with_56 (by decide) ?_
          exact ih (i + 1) ls H locs (by omega) (by omega) hP hD hS (lv_sub hl [1, 2, 3, 4, 0] rfl)
  exact lp _ (0) ls H locs (Nat.lt_succ_self _) (by decide) hP hD hS (lv_sub hl [1, 2, 3, 4, 0] rfl)

set_option maxRecDepth 100000 in
set_option maxHeartbeats 4000000 in
theorem c_over (l : Launch) (D : va_G) (k : Nat → ClassId) (a r t : Nat → Nat) (th kd bs us sth mk dr : Nat → Int32) (M sM : Nat → Nat → Int32) (sa : Nat → Nat) (hl9 : l.stackTraces = false) (x y : Int32) (sz : Nat) : bXI l y_S_over (wY y_S_over b_S_over 5 (some .int)) (rm9 8 3 18) Sts sa D (tsK k) (cxW k a r t th kd bs us sth mk dr M sM) sz [.ref (a 0), .int x, .int y] (fun v w => ∃ j : Nat, j < 256 ∧ x = nI j ∧ hsB 256 sth (nI j) = true ∧ ∃ j2 : Nat, j2 < 256 ∧ y = nI j2 ∧ hsB 256 sth (nI j2) = true ∧ cdOv sth x y (fuB sth (pfF (ovG sM j j2) dr 24) sM) = 0 ∧ ((¬ ndF sth (pfF (ovG sM j j2) dr 24) sM = -1 ∧ v = ndF sth (pfF (ovG sM j j2) dr 24) sM ∧ w = cxW k a r t th kd bs us sth mk (pfF (ovG sM j j2) dr 24) M sM) ∨ (ndF sth (pfF (ovG sM j j2) dr 24) sM = -1 ∧ ∃ j9 : Nat, j9 < 256 ∧ frF sth 256 = nI j9 ∧ v = nI j9 ∧ w = cxW k a r t th kd bs us (upd sth j9 (nI 1)) mk (pfF (ovG sM j j2) dr 24) M (va_up sM j9 (pfF (ovG sM j j2) dr 24))))) (fun E w => (((E = "java/util/NoSuchElementException" ∧ ∀ fu, cdOv sth x y fu = 1)) ∧ w = cxW k a r t th kd bs us sth mk dr M sM) ∨ (E = "java/lang/IllegalStateException" ∧ ∃ j : Nat, j < 256 ∧ x = nI j ∧ hsB 256 sth (nI j) = true ∧ ∃ j2 : Nat, j2 < 256 ∧ y = nI j2 ∧ hsB 256 sth (nI j2) = true ∧ cdOv sth x y (fuB sth (pfF (ovG sM j j2) dr 24) sM) = 2 ∧ w = cxW k a r t th kd bs us sth mk (pfF (ovG sM j j2) dr 24) M sM)) 3 18 := by
  refine ent_xi (cc := b_S_over) (maxL := 5) (ty := .int) (by decide) (Nat.le_of_ble_eq_true rfl) (fun _ _ _ => rfl) ?_
  intro p e s m args below meth c A Q ls hx hb hml hown hts hsz hA hP hD hS hK hl hlk htb hE hQ hret
  refine lv_aload_n hx hb d_S_over_0 rfl (lv_at hl 0 rfl) ?_
  refine lv_iload_n hx hb d_S_over_1 rfl (lv_at hl 1 rfl) ?_
  refine cax_v (wc := cxW k a r t th kd bs us sth mk dr M sM) (wr := []) (vx_runV (As := [.int x]) (rest := []) ⟨hx, hb, hml, hown, hts⟩ (c_requireSet l D k a r t th kd bs us sth mk dr M sM sa hl9 x s.heap.size) (cwV9 1 hts wd_326 wd_323 wd_325 ws_16 wd_1 (by decide) ⟨Nat.le_of_ble_eq_true rfl, Nat.le_of_ble_eq_true rfl⟩) (prVx (q0 := 0) (ci := ciSS) hE hS hA hK hP hD (pm_nil' _) rfl rfl) rfl rfl hl.1 rfl (lv_room (Nat.le_of_ble_eq_true rfl)) d_S_over_2 ⟨by decide, by decide⟩) (pm_nil' _) hP hD hS hA (fun E9 ce9 ad9 w1 H locs hpx hpd hS hce hcv hcl => ?_) (fun w1 H locs hw hpd hS => ?_)
  · skip
    obtain ⟨rfl, h9, rfl⟩ := hpx
    obtain ⟨hP, hD⟩ := hpd (cxW k a r t th kd bs us sth mk dr M sM) (pm_nil _)
    exact ps_x hQ hlk htb (Or.inl ⟨⟨rfl, by intro fu; simp [cdOv, h9]⟩, rfl⟩) hP hD hS hce hcv hcl (by decide) (by decide)
  obtain ⟨rfl, hq⟩ := hw
  obtain ⟨hP, hD⟩ := hpd (cxW k a r t th kd bs us sth mk dr M sM) (pm_nil _)
  refine W.widen (k := 1) (n := 6) (by decide) (by decide) ?_
  obtain ⟨j, hj, rfl, hqt⟩ := hsB_t (by decide) hq
  refine lv_aload_n hx hb d_S_over_5 rfl (lv_at hl 0 rfl) ?_
  refine lv_iload_n hx hb d_S_over_6 rfl (lv_at hl 2 rfl) ?_
  refine cax_v (wc := cxW k a r t th kd bs us sth mk dr M sM) (wr := []) (vx_runV (As := [.int y]) (rest := []) ⟨hx, hb, hml, hown, hts⟩ (c_requireSet l D k a r t th kd bs us sth mk dr M sM sa hl9 y H.size) (cwV9 1 hts wd_326 wd_323 wd_325 ws_16 wd_1 (by decide) ⟨Nat.le_of_ble_eq_true rfl, Nat.le_of_ble_eq_true rfl⟩) (prVx (q0 := 0) (ci := ciSS) hE hS hA hK hP hD (pm_nil' _) rfl rfl) rfl rfl hl.1 rfl (lv_room (Nat.le_of_ble_eq_true rfl)) d_S_over_7 ⟨by decide, by decide⟩) (pm_nil' _) hP hD hS hA (fun E9 ce9 ad9 w1 H locs hpx hpd hS hce hcv hcl => ?_) (fun w1 H locs hw hpd hS => ?_)
  · skip
    obtain ⟨rfl, h9, rfl⟩ := hpx
    obtain ⟨hP, hD⟩ := hpd (cxW k a r t th kd bs us sth mk dr M sM) (pm_nil _)
    exact ps_x hQ hlk htb (Or.inl ⟨⟨rfl, by intro fu; simp [cdOv, hq, h9]⟩, rfl⟩) hP hD hS hce hcv hcl (by decide) (by decide)
  obtain ⟨rfl, hq2⟩ := hw
  obtain ⟨hP, hD⟩ := hpd (cxW k a r t th kd bs us sth mk dr M sM) (pm_nil _)
  refine W.widen (k := 2) (n := 12) (by decide) (by decide) ?_
  obtain ⟨j2, hj2, rfl, hq2t⟩ := hsB_t (by decide) hq2
  rw [← pfF_0 (ovG sM j j2) dr] at hP hD
  refine lv_iconst (v := nI 0) hx hb d_S_over_10 (by decide) ?_
  refine lv_istore_n (lv' := [(3, .int (nI 0)), (0, .ref (a 0)), (1, .int (nI j)), (2, .int (nI j2))]) hx hb d_S_over_11 rfl hl (by decide) rfl (fun ls hl => ?_)
  have lp : ∀ (n9 : Nat) (i : Nat) (ls : Array Slot) (H : Heap) (locs : List Loc), 24 - i < n9 → (i ≤ 24) → va_P D vwCl (cxW k a r t th kd bs us sth mk (pfF (ovG sM j j2) dr i) M sM) H → va_D A (cxW k a r t th kd bs us sth mk (pfF (ovG sM j j2) dr i) M sM) → va_S A s.heap H locs → lv_has ls 5 [(0, .ref (a 0)), (1, .int (nI j)), (2, .int (nI j2)), (3, .int (nI i))] → W p l e (rm9 8 3 18) s m args below meth c H locs 2 12 Q (F0 m 12 ls []) := by
    intro n9
    induction n9 with
    | zero => intro i ls H locs hm; omega
    | succ n9 ih =>
      intro i ls H locs hm hi hP hD hS hl
      refine lv_iload_n hx hb d_S_over_12 rfl (lv_at hl 3 rfl) ?_
      refine lv_bipush (v := nI 24) hx hb d_S_over_13 (by decide) ?_
      refine lv_icmp_ge (tgt := 65) hx hb d_S_over_15 (by decide) (fun c15 => ?_) (fun c15 => ?_)
      · skip
        rw [nI_leI (by omega) (by omega)] at c15
        obtain rfl : i = 24 := by omega
        refine lv_aload_n hx hb d_S_over_65 rfl (lv_at hl 0 rfl) ?_
        refine cax_i (wc := cxW k a r t th kd bs us sth mk (pfF (ovG sM j j2) dr 24) M sM) (wr := []) (vx_runV (As := []) (rest := []) ⟨hx, hb, hml, hown, hts⟩ (c_numberOfDraft l D k a r t th kd bs us sth mk (pfF (ovG sM j j2) dr 24) M sM sa hl9 H.size) (cwV9 0 hts wd_331 wd_328 wd_330 ws_17 wd_1 (by decide) ⟨Nat.le_of_ble_eq_true rfl, Nat.le_of_ble_eq_true rfl⟩) (prVx (q0 := 0) (ci := ciSS) hE hS hA hK hP hD (pm_nil' _) rfl rfl) rfl rfl hl.1 rfl (lv_room (Nat.le_of_ble_eq_true rfl)) d_S_over_66 ⟨by decide, by decide⟩) (pm_nil' _) hP hD hS hA (fun E9 ce9 ad9 w1 H locs hpx hpd hS hce hcv hcl => ?_) (fun r w1 H locs hw hpd hS => ?_)
        · skip
          obtain ⟨rfl, h9, h8, rfl⟩ := hpx
          obtain ⟨hP, hD⟩ := hpd (cxW k a r t th kd bs us sth mk (pfF (ovG sM j j2) dr 24) M sM) (pm_nil _)
          exact ps_x hQ hlk htb (Or.inr ⟨rfl, j, hj, rfl, hq, j2, hj2, rfl, hq2, by simp [cdOv, hq, hq2, fuB, h9, h8], rfl⟩) hP hD hS hce hcv hcl (by decide) (by decide)
        · skip
          rcases hw with ⟨h7, rfl, rfl⟩ | ⟨h7, j9, hj9, h8, rfl, rfl⟩
          · obtain ⟨hP, hD⟩ := hpd (cxW k a r t th kd bs us sth mk (pfF (ovG sM j j2) dr 24) M sM) (pm_nil _)
            exact hret _ _ _ _ _ _ _ _ d_S_over_69 ⟨j, hj, rfl, hq, j2, hj2, rfl, hq2, by simp [cdOv, hq, hq2, fuB, h7], Or.inl ⟨h7, rfl, rfl⟩⟩ hP hD hS (by decide) (by decide)
          · obtain ⟨hP, hD⟩ := hpd (cxW k a r t th kd bs us (upd sth j9 (nI 1)) mk (pfF (ovG sM j j2) dr 24) M (va_up sM j9 (pfF (ovG sM j j2) dr 24))) (pm_nil _)
            exact hret _ _ _ _ _ _ _ _ d_S_over_69 ⟨j, hj, rfl, hq, j2, hj2, rfl, hq2, by simp [cdOv, hq, hq2, fuB, h7, h8, ne_m1 (show j9 < 2 ^ 31 by omega)], Or.inr ⟨h7, j9, hj9, h8, rfl, rfl⟩⟩ hP hD hS (by decide) (by decide)
      · skip
        rw [nI_leI (by omega) (by omega)] at c15
        refine lv_aload_n hx hb d_S_over_18 rfl (lv_at hl 0 rfl) ?_
        refine va_get (D := D) (ci := ciSS) (v := .ref (a 5)) (C := RS) (T := TS) (N := 7) hx hb hts inS hown hK.1 hP 0 rfl rfl 4 (by decide) (hts _ wd_50) (fun _ h9 => h9) rfl d_S_over_19 ?_
        refine va_getN (D := D) (ci := ciTb) (v := .ref (a 11)) (C := RT) (T := TT) (N := 2) hx hb hts inT hown hK.1 hP 5 rfl rfl 1 (by decide) (va_Nw.use rfl (hK.2.1 (.fieldLinkNest "StyleSheet" 81 "StyleSheet$Table" "values" "[[I" "StyleSheet") (by decide))) (fun _ h9 => h9) rfl d_S_over_22 ?_
        refine lv_iload_n hx hb d_S_over_25 rfl (lv_at hl 2 rfl) ?_
        refine rw_aald hx hb hK.1 hP 11 2 rfl rfl (j := j2) (y := t j2) (by omega) (by decide) (gOut_at (by omega)) d_S_over_26 ?_
        refine lv_iload_n hx hb d_S_over_27 rfl (lv_at hl 3 rfl) ?_
        refine rw_iald hx hb hK.1 hP (76 + j2) 0 (cx_rowT (by omega)) rfl (j := i) (by omega) (by decide) d_S_over_28 ?_
        refine lv_istore (lv' := [(4, .int ((sM j2) i)), (0, .ref (a 0)), (1, .int (nI j)), (2, .int (nI j2)), (3, .int (nI i))]) hx hb d_S_over_29 hl (by decide) rfl (fun ls hl => ?_)
        refine lv_aload_n hx hb d_S_over_31 rfl (lv_at hl 1 rfl) ?_
        refine va_get (D := D) (ci := ciSS) (v := .ref (a 7)) (C := RS) (T := TS) (N := 7) hx hb hts inS hown hK.1 hP 0 rfl rfl 6 (by decide) (hts _ wd_52) (fun _ h9 => h9) rfl d_S_over_32 ?_
        refine lv_iload_n hx hb d_S_over_35 rfl (lv_at hl 4 rfl) ?_
        refine lv_iload hx hb d_S_over_36 (lv_at hl 0 rfl) ?_
        refine lv_iconst (v := -1) hx hb d_S_over_38 (by decide) ?_
        refine lv_icmp_eq (tgt := 47) hx hb d_S_over_39 (by decide) (fun c39 => ?_) (fun c39 => ?_)
        · skip
          refine lv_aload_n hx hb d_S_over_47 rfl (lv_at hl 1 rfl) ?_
          refine va_get (D := D) (ci := ciSS) (v := .ref (a 5)) (C := RS) (T := TS) (N := 7) hx hb hts inS hown hK.1 hP 0 rfl rfl 4 (by decide) (hts _ wd_50) (fun _ h9 => h9) rfl d_S_over_48 ?_
          refine va_getN (D := D) (ci := ciTb) (v := .ref (a 11)) (C := RT) (T := TT) (N := 2) hx hb hts inT hown hK.1 hP 5 rfl rfl 1 (by decide) (va_Nw.use rfl (hK.2.1 (.fieldLinkNest "StyleSheet" 81 "StyleSheet$Table" "values" "[[I" "StyleSheet") (by decide))) (fun _ h9 => h9) rfl d_S_over_51 ?_
          refine lv_iload_n hx hb d_S_over_54 rfl (lv_at hl 2 rfl) ?_
          refine rw_aald hx hb hK.1 hP 11 2 rfl rfl (j := j) (y := t j) (by omega) (by decide) (gOut_at (by omega)) d_S_over_55 ?_
          refine lv_iload_n hx hb d_S_over_56 rfl (lv_at hl 4 rfl) ?_
          refine rw_iald hx hb hK.1 hP (76 + j) 0 (cx_rowT (by omega)) rfl (j := i) (by omega) (by decide) d_S_over_57 ?_
          refine rw_iast hx hb hK.1 hP hD hS 7 0 rfl rfl (j := i) (by omega) (by decide) d_S_over_58 (wn := cxW k a r t th kd bs us sth mk (pfF (ovG sM j j2) dr (i + 1)) M sM) (by rw [← pfF_s (g := ovG sM j j2) (dr := dr) (i := i) (x := (sM j) i) (by simp [ovG, c39])]; rfl) (fun H locs hP hD hS => ?_)
          refine lv_iinc (v := nI (i + 1)) (lv' := [(3, .int (nI (i + 1))), (4, .int ((sM j2) i)), (0, .ref (a 0)), (1, .int (nI j)), (2, .int (nI j2))]) hx hb d_S_over_59 hl (k := 4) rfl (ii_1 _) (by decide) rfl (fun ls hl => ?_)
          refine lv_goto (tgt := 12) hx hb d_S_over_62 (by decide) ?_
          exact ih (i + 1) ls H locs (by omega) (by omega) hP hD hS (lv_sub hl [2, 3, 4, 0] rfl)
        · skip
          refine lv_iload hx hb d_S_over_42 (lv_at hl 0 rfl) ?_
          refine lv_goto (tgt := 58) hx hb d_S_over_44 (by decide) ?_
          refine rw_iast hx hb hK.1 hP hD hS 7 0 rfl rfl (j := i) (by omega) (by decide) d_S_over_58 (wn := cxW k a r t th kd bs us sth mk (pfF (ovG sM j j2) dr (i + 1)) M sM) (by rw [← pfF_s (g := ovG sM j j2) (dr := dr) (i := i) (x := (sM j2) i) (by simp [ovG, c39])]; rfl) (fun H locs hP hD hS => ?_)
          refine lv_iinc (v := nI (i + 1)) (lv' := [(3, .int (nI (i + 1))), (4, .int ((sM j2) i)), (0, .ref (a 0)), (1, .int (nI j)), (2, .int (nI j2))]) hx hb d_S_over_59 hl (k := 4) rfl (ii_1 _) (by decide) rfl (fun ls hl => ?_)
          refine lv_goto (tgt := 12) hx hb d_S_over_62 (by decide) ?_
          exact ih (i + 1) ls H locs (by omega) (by omega) hP hD hS (lv_sub hl [2, 3, 4, 0] rfl)
  exact lp _ (0) ls H locs (Nat.lt_succ_self _) (by decide) hP hD hS (lv_sub hl [1, 2, 3, 0] rfl)

set_option maxRecDepth 100000 in
set_option maxHeartbeats 4000000 in
theorem c_lean (l : Launch) (D : va_G) (k : Nat → ClassId) (a r t : Nat → Nat) (th kd bs us sth mk dr : Nat → Int32) (M sM : Nat → Nat → Int32) (sa : Nat → Nat) (hl9 : l.stackTraces = false) (x c9 q9 : Int32) (sz : Nat) : bXI l y_S_lean (wY y_S_lean b_S_lean 6 (some .int)) (rm9 8 4 24) Sts sa D (tsK k) (cxW k a r t th kd bs us sth mk dr M sM) sz [.ref (a 0), .int x, .int c9, .int q9] (fun v w => ∃ j : Nat, j < 256 ∧ x = nI j ∧ hsB 256 sth (nI j) = true ∧ okB th kd c9 (nI 0) = true ∧ okB th kd q9 (nI 1) = true ∧ cdLe th kd sth x c9 q9 (fuB sth (pfF (leG th bs us M sM j c9 q9) dr 24) sM) = 0 ∧ ((¬ ndF sth (pfF (leG th bs us M sM j c9 q9) dr 24) sM = -1 ∧ v = ndF sth (pfF (leG th bs us M sM j c9 q9) dr 24) sM ∧ w = cxW k a r t th kd bs us sth mk (pfF (leG th bs us M sM j c9 q9) dr 24) M sM) ∨ (ndF sth (pfF (leG th bs us M sM j c9 q9) dr 24) sM = -1 ∧ ∃ j9 : Nat, j9 < 256 ∧ frF sth 256 = nI j9 ∧ v = nI j9 ∧ w = cxW k a r t th kd bs us (upd sth j9 (nI 1)) mk (pfF (leG th bs us M sM j c9 q9) dr 24) M (va_up sM j9 (pfF (leG th bs us M sM j c9 q9) dr 24))))) (fun E w => (((E = "java/util/NoSuchElementException" ∧ ∀ fu, cdLe th kd sth x c9 q9 fu = 1) ∨ (E = "java/lang/IllegalArgumentException" ∧ ∀ fu, cdLe th kd sth x c9 q9 fu = 2)) ∧ w = cxW k a r t th kd bs us sth mk dr M sM) ∨ (E = "java/lang/IllegalStateException" ∧ ∃ j : Nat, j < 256 ∧ x = nI j ∧ hsB 256 sth (nI j) = true ∧ okB th kd c9 (nI 0) = true ∧ okB th kd q9 (nI 1) = true ∧ cdLe th kd sth x c9 q9 (fuB sth (pfF (leG th bs us M sM j c9 q9) dr 24) sM) = 3 ∧ w = cxW k a r t th kd bs us sth mk (pfF (leG th bs us M sM j c9 q9) dr 24) M sM)) 4 24 := by
  refine ent_xi (cc := b_S_lean) (maxL := 6) (ty := .int) (by decide) (Nat.le_of_ble_eq_true rfl) (fun _ _ _ => rfl) ?_
  intro p e s m args below meth c A Q ls hx hb hml hown hts hsz hA hP hD hS hK hl hlk htb hE hQ hret
  refine lv_aload_n hx hb d_S_lean_0 rfl (lv_at hl 0 rfl) ?_
  refine lv_iload_n hx hb d_S_lean_1 rfl (lv_at hl 1 rfl) ?_
  refine cax_v (wc := cxW k a r t th kd bs us sth mk dr M sM) (wr := []) (vx_runV (As := [.int x]) (rest := []) ⟨hx, hb, hml, hown, hts⟩ (c_requireSet l D k a r t th kd bs us sth mk dr M sM sa hl9 x s.heap.size) (cwV9 1 hts wd_326 wd_323 wd_325 ws_16 wd_1 (by decide) ⟨Nat.le_of_ble_eq_true rfl, Nat.le_of_ble_eq_true rfl⟩) (prVx (q0 := 0) (ci := ciSS) hE hS hA hK hP hD (pm_nil' _) rfl rfl) rfl rfl hl.1 rfl (lv_room (Nat.le_of_ble_eq_true rfl)) d_S_lean_2 ⟨by decide, by decide⟩) (pm_nil' _) hP hD hS hA (fun E9 ce9 ad9 w1 H locs hpx hpd hS hce hcv hcl => ?_) (fun w1 H locs hw hpd hS => ?_)
  · skip
    obtain ⟨rfl, h9, rfl⟩ := hpx
    obtain ⟨hP, hD⟩ := hpd (cxW k a r t th kd bs us sth mk dr M sM) (pm_nil _)
    exact ps_x hQ hlk htb (Or.inl ⟨Or.inl ⟨rfl, by intro fu; simp [cdLe, h9]⟩, rfl⟩) hP hD hS hce hcv hcl (by decide) (by decide)
  obtain ⟨rfl, hq⟩ := hw
  obtain ⟨hP, hD⟩ := hpd (cxW k a r t th kd bs us sth mk dr M sM) (pm_nil _)
  refine W.widen (k := 1) (n := 6) (by decide) (by decide) ?_
  obtain ⟨j, hj, rfl, hqt⟩ := hsB_t (by decide) hq
  refine lv_aload_n hx hb d_S_lean_5 rfl (lv_at hl 0 rfl) ?_
  refine lv_iload_n hx hb d_S_lean_6 rfl (lv_at hl 2 rfl) ?_
  refine lv_iconst (v := nI 0) hx hb d_S_lean_7 (by decide) ?_
  refine cax_v (wc := cxW k a r t th kd bs us sth mk dr M sM) (wr := []) (vx_runV (As := [.int c9, .int (nI 0)]) (rest := []) ⟨hx, hb, hml, hown, hts⟩ (c_requireNoneOrOfKind l D k a r t th kd bs us sth mk dr M sM sa hl9 c9 (nI 0) H.size) (cwV9 2 hts wd_192 wd_189 wd_191 ws_9 wd_1 (by decide) ⟨Nat.le_of_ble_eq_true rfl, Nat.le_of_ble_eq_true rfl⟩) (prVx (q0 := 0) (ci := ciSS) hE hS hA hK hP hD (pm_nil' _) rfl rfl) rfl rfl hl.1 rfl (lv_room (Nat.le_of_ble_eq_true rfl)) d_S_lean_8 ⟨by decide, by decide⟩) (pm_nil' _) hP hD hS hA (fun E9 ce9 ad9 w1 H locs hpx hpd hS hce hcv hcl => ?_) (fun w1 H locs hw hpd hS => ?_)
  · skip
    obtain ⟨rfl, h9, rfl⟩ := hpx
    obtain ⟨hP, hD⟩ := hpd (cxW k a r t th kd bs us sth mk dr M sM) (pm_nil _)
    exact ps_x hQ hlk htb (Or.inl ⟨Or.inr (⟨rfl, by intro fu; simp [cdLe, hq, h9]⟩), rfl⟩) hP hD hS hce hcv hcl (by decide) (by decide)
  obtain ⟨rfl, hc⟩ := hw
  obtain ⟨hP, hD⟩ := hpd (cxW k a r t th kd bs us sth mk dr M sM) (pm_nil _)
  refine W.widen (k := 2) (n := 12) (by decide) (by decide) ?_
  refine lv_aload_n hx hb d_S_lean_11 rfl (lv_at hl 0 rfl) ?_
  refine lv_iload_n hx hb d_S_lean_12 rfl (lv_at hl 3 rfl) ?_
  refine lv_iconst (v := nI 1) hx hb d_S_lean_13 (by decide) ?_
  refine cax_v (wc := cxW k a r t th kd bs us sth mk dr M sM) (wr := []) (vx_runV (As := [.int q9, .int (nI 1)]) (rest := []) ⟨hx, hb, hml, hown, hts⟩ (c_requireNoneOrOfKind l D k a r t th kd bs us sth mk dr M sM sa hl9 q9 (nI 1) H.size) (cwV9 2 hts wd_192 wd_189 wd_191 ws_9 wd_1 (by decide) ⟨Nat.le_of_ble_eq_true rfl, Nat.le_of_ble_eq_true rfl⟩) (prVx (q0 := 0) (ci := ciSS) hE hS hA hK hP hD (pm_nil' _) rfl rfl) rfl rfl hl.1 rfl (lv_room (Nat.le_of_ble_eq_true rfl)) d_S_lean_14 ⟨by decide, by decide⟩) (pm_nil' _) hP hD hS hA (fun E9 ce9 ad9 w1 H locs hpx hpd hS hce hcv hcl => ?_) (fun w1 H locs hw hpd hS => ?_)
  · skip
    obtain ⟨rfl, h9, rfl⟩ := hpx
    obtain ⟨hP, hD⟩ := hpd (cxW k a r t th kd bs us sth mk dr M sM) (pm_nil _)
    exact ps_x hQ hlk htb (Or.inl ⟨Or.inr (⟨rfl, by intro fu; simp [cdLe, hq, hc, h9]⟩), rfl⟩) hP hD hS hce hcv hcl (by decide) (by decide)
  obtain ⟨rfl, hk⟩ := hw
  obtain ⟨hP, hD⟩ := hpd (cxW k a r t th kd bs us sth mk dr M sM) (pm_nil _)
  refine W.widen (k := 3) (n := 18) (by decide) (by decide) ?_
  rw [← pfF_0 (leG th bs us M sM j c9 q9) dr] at hP hD
  refine lv_iconst (v := nI 0) hx hb d_S_lean_17 (by decide) ?_
  refine lv_istore (lv' := [(4, .int (nI 0)), (0, .ref (a 0)), (1, .int (nI j)), (2, .int c9), (3, .int q9)]) hx hb d_S_lean_18 hl (by decide) rfl (fun ls hl => ?_)
  have lp : ∀ (n9 : Nat) (i : Nat) (ls : Array Slot) (H : Heap) (locs : List Loc), 24 - i < n9 → (i ≤ 24) → va_P D vwCl (cxW k a r t th kd bs us sth mk (pfF (leG th bs us M sM j c9 q9) dr i) M sM) H → va_D A (cxW k a r t th kd bs us sth mk (pfF (leG th bs us M sM j c9 q9) dr i) M sM) → va_S A s.heap H locs → lv_has ls 6 [(0, .ref (a 0)), (1, .int (nI j)), (2, .int c9), (3, .int q9), (4, .int (nI i))] → W p l e (rm9 8 4 24) s m args below meth c H locs 3 18 Q (F0 m 20 ls []) := by
    intro n9
    induction n9 with
    | zero => intro i ls H locs hm; omega
    | succ n9 ih =>
      intro i ls H locs hm hi hP hD hS hl
      refine lv_iload hx hb d_S_lean_20 (lv_at hl 4 rfl) ?_
      refine lv_bipush (v := nI 24) hx hb d_S_lean_22 (by decide) ?_
      refine lv_icmp_ge (tgt := 73) hx hb d_S_lean_24 (by decide) (fun c24 => ?_) (fun c24 => ?_)
      · skip
        rw [nI_leI (by omega) (by omega)] at c24
        obtain rfl : i = 24 := by omega
        refine lv_aload_n hx hb d_S_lean_73 rfl (lv_at hl 0 rfl) ?_
        refine cax_i (wc := cxW k a r t th kd bs us sth mk (pfF (leG th bs us M sM j c9 q9) dr 24) M sM) (wr := []) (vx_runV (As := []) (rest := []) ⟨hx, hb, hml, hown, hts⟩ (c_numberOfDraft l D k a r t th kd bs us sth mk (pfF (leG th bs us M sM j c9 q9) dr 24) M sM sa hl9 H.size) (cwV9 0 hts wd_331 wd_328 wd_330 ws_17 wd_1 (by decide) ⟨Nat.le_of_ble_eq_true rfl, Nat.le_of_ble_eq_true rfl⟩) (prVx (q0 := 0) (ci := ciSS) hE hS hA hK hP hD (pm_nil' _) rfl rfl) rfl rfl hl.1 rfl (lv_room (Nat.le_of_ble_eq_true rfl)) d_S_lean_74 ⟨by decide, by decide⟩) (pm_nil' _) hP hD hS hA (fun E9 ce9 ad9 w1 H locs hpx hpd hS hce hcv hcl => ?_) (fun r w1 H locs hw hpd hS => ?_)
        · skip
          obtain ⟨rfl, h9, h8, rfl⟩ := hpx
          obtain ⟨hP, hD⟩ := hpd (cxW k a r t th kd bs us sth mk (pfF (leG th bs us M sM j c9 q9) dr 24) M sM) (pm_nil _)
          exact ps_x hQ hlk htb (Or.inr ⟨rfl, j, hj, rfl, hq, hc, hk, by simp [cdLe, hq, hc, hk, fuB, h9, h8], rfl⟩) hP hD hS hce hcv hcl (by decide) (by decide)
        · skip
          rcases hw with ⟨h7, rfl, rfl⟩ | ⟨h7, j9, hj9, h8, rfl, rfl⟩
          · obtain ⟨hP, hD⟩ := hpd (cxW k a r t th kd bs us sth mk (pfF (leG th bs us M sM j c9 q9) dr 24) M sM) (pm_nil _)
            exact hret _ _ _ _ _ _ _ _ d_S_lean_77 ⟨j, hj, rfl, hq, hc, hk, by simp [cdLe, hq, hc, hk, fuB, h7], Or.inl ⟨h7, rfl, rfl⟩⟩ hP hD hS (by decide) (by decide)
          · obtain ⟨hP, hD⟩ := hpd (cxW k a r t th kd bs us (upd sth j9 (nI 1)) mk (pfF (leG th bs us M sM j c9 q9) dr 24) M (va_up sM j9 (pfF (leG th bs us M sM j c9 q9) dr 24))) (pm_nil _)
            exact hret _ _ _ _ _ _ _ _ d_S_lean_77 ⟨j, hj, rfl, hq, hc, hk, by simp [cdLe, hq, hc, hk, fuB, h7, h8, ne_m1 (show j9 < 2 ^ 31 by omega)], Or.inr ⟨h7, j9, hj9, h8, rfl, rfl⟩⟩ hP hD hS (by decide) (by decide)
      · skip
        rw [nI_leI (by omega) (by omega)] at c24
        refine lv_aload_n hx hb d_S_lean_27 rfl (lv_at hl 0 rfl) ?_
        refine va_get (D := D) (ci := ciSS) (v := .ref (a 5)) (C := RS) (T := TS) (N := 7) hx hb hts inS hown hK.1 hP 0 rfl rfl 4 (by decide) (hts _ wd_50) (fun _ h9 => h9) rfl d_S_lean_28 ?_
        refine va_getN (D := D) (ci := ciTb) (v := .ref (a 11)) (C := RT) (T := TT) (N := 2) hx hb hts inT hown hK.1 hP 5 rfl rfl 1 (by decide) (va_Nw.use rfl (hK.2.1 (.fieldLinkNest "StyleSheet" 81 "StyleSheet$Table" "values" "[[I" "StyleSheet") (by decide))) (fun _ h9 => h9) rfl d_S_lean_31 ?_
        refine lv_iload_n hx hb d_S_lean_34 rfl (lv_at hl 1 rfl) ?_
        refine rw_aald hx hb hK.1 hP 11 2 rfl rfl (j := j) (y := t j) (by omega) (by decide) (gOut_at (by omega)) d_S_lean_35 ?_
        refine lv_iload hx hb d_S_lean_36 (lv_at hl 4 rfl) ?_
        refine rw_iald hx hb hK.1 hP (76 + j) 0 (cx_rowT (by omega)) rfl (j := i) (by omega) (by decide) d_S_lean_38 ?_
        refine lv_istore (lv' := [(5, .int ((sM j) i)), (0, .ref (a 0)), (1, .int (nI j)), (2, .int c9), (3, .int q9), (4, .int (nI i))]) hx hb d_S_lean_39 hl (by decide) rfl (fun ls hl => ?_)
        refine lv_aload_n hx hb d_S_lean_41 rfl (lv_at hl 1 rfl) ?_
        refine va_get (D := D) (ci := ciSS) (v := .ref (a 7)) (C := RS) (T := TS) (N := 7) hx hb hts inS hown hK.1 hP 0 rfl rfl 6 (by decide) (hts _ wd_52) (fun _ h9 => h9) rfl d_S_lean_42 ?_
        refine lv_iload hx hb d_S_lean_45 (lv_at hl 5 rfl) ?_
        refine lv_iload hx hb d_S_lean_47 (lv_at hl 0 rfl) ?_
        refine lv_aload_n hx hb d_S_lean_49 rfl (lv_at hl 1 rfl) ?_
        refine lv_iload_n hx hb d_S_lean_50 rfl (lv_at hl 3 rfl) ?_
        refine lv_iload_n hx hb d_S_lean_51 rfl (lv_at hl 4 rfl) ?_
        refine lv_iload hx hb d_S_lean_52 (lv_at hl 5 rfl) ?_
        refine cal_i (wc := cxW k a r t th kd bs us sth mk (pfF (leG th bs us M sM j c9 q9) dr i) M sM) (wr := []) (va_runV (As := [.int c9, .int q9, .int (nI i)]) (rest := [.int ((sM j) i), .int (nI i), .ref (a 7)]) ⟨hx, hb, hml, hown, hts⟩ (c_resolvedByStyles l D k a r t th kd bs us sth mk (pfF (leG th bs us M sM j c9 q9) dr i) M sM c9 q9 i (by omega) H.size) (cwV9 3 hts wd_360 wd_357 wd_359 ws_19 wd_1 (by decide) ⟨Nat.le_of_ble_eq_true rfl, Nat.le_of_ble_eq_true rfl⟩) (prV (q0 := 0) (ci := ciSS) hK hP hD (pm_nil' _) rfl rfl) rfl rfl hl.1 rfl (lv_room (Nat.le_of_ble_eq_true rfl)) d_S_lean_54 ⟨by decide, by decide⟩) (pm_nil' _) hP hD hS hA (fun r w1 H locs hw hpd hS => ?_)
        obtain ⟨rfl, rfl⟩ := hw
        obtain ⟨hP, hD⟩ := hpd (cxW k a r t th kd bs us sth mk (pfF (leG th bs us M sM j c9 q9) dr i) M sM) (pm_nil _)
        refine lv_icmp_ne (tgt := 64) hx hb d_S_lean_57 (by decide) (fun c57 => ?_) (fun c57 => ?_)
        · skip
          refine lv_iload hx hb d_S_lean_64 (lv_at hl 0 rfl) ?_
          refine rw_iast hx hb hK.1 hP hD hS 7 0 rfl rfl (j := i) (by omega) (by decide) d_S_lean_66 (wn := cxW k a r t th kd bs us sth mk (pfF (leG th bs us M sM j c9 q9) dr (i + 1)) M sM) (by rw [← pfF_s (g := leG th bs us M sM j c9 q9) (dr := dr) (i := i) (x := (sM j) i) (by simp [leG, c57])]; rfl) (fun H locs hP hD hS => ?_)
          refine lv_iinc (v := nI (i + 1)) (lv' := [(4, .int (nI (i + 1))), (5, .int ((sM j) i)), (0, .ref (a 0)), (1, .int (nI j)), (2, .int c9), (3, .int q9)]) hx hb d_S_lean_67 hl (k := 5) rfl (ii_1 _) (by decide) rfl (fun ls hl => ?_)
          refine lv_goto (tgt := 20) hx hb d_S_lean_70 (by decide) ?_
          exact ih (i + 1) ls H locs (by omega) (by omega) hP hD hS (lv_sub hl [2, 3, 4, 5, 0] rfl)
        · skip
          refine lv_iconst (v := -1) hx hb d_S_lean_60 (by decide) ?_
          refine lv_goto (tgt := 66) hx hb d_S_lean_61 (by decide) ?_
          refine rw_iast hx hb hK.1 hP hD hS 7 0 rfl rfl (j := i) (by omega) (by decide) d_S_lean_66 (wn := cxW k a r t th kd bs us sth mk (pfF (leG th bs us M sM j c9 q9) dr (i + 1)) M sM) (by rw [← pfF_s (g := leG th bs us M sM j c9 q9) (dr := dr) (i := i) (x := -1) (by simp [leG, c57])]; rfl) (fun H locs hP hD hS => ?_)
          refine lv_iinc (v := nI (i + 1)) (lv' := [(4, .int (nI (i + 1))), (5, .int ((sM j) i)), (0, .ref (a 0)), (1, .int (nI j)), (2, .int c9), (3, .int q9)]) hx hb d_S_lean_67 hl (k := 5) rfl (ii_1 _) (by decide) rfl (fun ls hl => ?_)
          refine lv_goto (tgt := 20) hx hb d_S_lean_70 (by decide) ?_
          exact ih (i + 1) ls H locs (by omega) (by omega) hP hD hS (lv_sub hl [2, 3, 4, 5, 0] rfl)
  exact lp _ (0) ls H locs (Nat.lt_succ_self _) (by decide) hP hD hS (lv_sub hl [1, 2, 3, 4, 0] rfl)

set_option maxRecDepth 100000 in
set_option maxHeartbeats 4000000 in
theorem c_size (l : Launch) (D : va_G) (k : Nat → ClassId) (a r t : Nat → Nat) (th kd bs us sth mk dr : Nat → Int32) (M sM : Nat → Nat → Int32) (x : Int32) (sz : Nat) : bMI l y_S_size (wY y_S_size b_S_size 2 (some .int)) (rm9 8 0 0) D (tsK k) (cxW k a r t th kd bs us sth mk dr M sM) sz [.ref (a 0), .int x] (fun v w => v = (if hsB 256 sth x = true then nI (viF sM x.toNatClampNeg) else -1) ∧ w = cxW k a r t th kd bs us sth mk dr M sM) 0 0 := by
  refine ent_i (cc := b_S_size) (maxL := 2) (ty := .int) (by decide) (Nat.le_of_ble_eq_true rfl) (fun _ _ _ => rfl) ?_
  intro p e s m args below meth c A Q ls hx hb hml hown hts hsz hA hP hD hS hK hl hret
  refine lv_aload_n hx hb d_S_size_0 rfl (lv_at hl 0 rfl) ?_
  refine va_get (D := D) (ci := ciSS) (v := .ref (a 5)) (C := RS) (T := TS) (N := 7) hx hb hts inS hown hK.1 hP 0 rfl rfl 4 (by decide) (hts _ wd_50) (fun _ h9 => h9) rfl d_S_size_1 ?_
  refine lv_iload_n hx hb d_S_size_4 rfl (lv_at hl 1 rfl) ?_
  obtain ⟨wr, hwr⟩ := cx_T (k := k) (a := a) (r := r) (t := t) (th := th) (kd := kd) (bs := bs) (us := us) (mk := mk) (dr := dr) (M := M) (sM := sM)
  refine cal_i (wc := tbF k (a 5) (a 10) (a 11) t 256 sth) (wr := wr) (va_runVN (As := [.int x]) (rest := []) ⟨hx, hb, hml, hown, hts⟩ (c_has l D k (a 5) (a 10) (a 11) t 256 (by decide) sth x s.heap.size) (cwN9 1 hts wd_75 (hK.2.1 (.methodLinkNest "StyleSheet" 64 ⟨"StyleSheet$Table", "has", "(I)Z"⟩ "StyleSheet") (by decide)) wd_74 ws_1 wd_2 (by decide) ⟨Nat.le_of_ble_eq_true rfl, Nat.le_of_ble_eq_true rfl⟩) (prV (q0 := 0) (ci := ciTb) hK hP hD (hwr _) rfl rfl) rfl rfl hl.1 rfl (lv_room (Nat.le_of_ble_eq_true rfl)) d_S_size_5 ⟨by decide, by decide⟩) (hwr _) hP hD hS hA (fun r w1 H locs hw hpd hS => ?_)
  obtain ⟨rfl, rfl⟩ := hw
  obtain ⟨hP, hD⟩ := hpd (cxW k a r t th kd bs us sth mk dr M sM) (hwr _).symm
  refine lv_if_eq (tgt := 22) hx hb d_S_size_8 (by decide) (fun c8 => ?_) (fun c8 => ?_)
  · skip
    have c8 := b_of0 c8
    refine lv_iconst (v := -1) hx hb d_S_size_22 (by decide) ?_
    exact hret _ _ _ _ _ _ _ _ d_S_size_23 ⟨by rw [c8]; rfl, rfl⟩ hP hD hS (by decide) (by decide)
  · skip
    have c8 := b_of1 c8
    obtain ⟨j, hj, rfl, hjt⟩ := hsB_t (by decide) c8
    refine lv_aload_n hx hb d_S_size_11 rfl (lv_at hl 0 rfl) ?_
    refine va_get (D := D) (ci := ciSS) (v := .ref (a 5)) (C := RS) (T := TS) (N := 7) hx hb hts inS hown hK.1 hP 0 rfl rfl 4 (by decide) (hts _ wd_50) (fun _ h9 => h9) rfl d_S_size_12 ?_
    refine lv_iload_n hx hb d_S_size_15 rfl (lv_at hl 1 rfl) ?_
    obtain ⟨wr, hwr⟩ := cx_TW (k := k) (a := a) (r := r) (t := t) (th := th) (kd := kd) (bs := bs) (us := us) (mk := mk) (dr := dr) (M := M)
    refine cal_i (wc := tbW k (a 5) (a 10) (a 11) t 256 sth sM) (wr := wr) (va_runVN (As := [.int (nI j)]) (rest := []) ⟨hx, hb, hml, hown, hts⟩ (c_valuesIn l D k (a 5) (a 10) (a 11) t 256 (by decide) sth sM j hj H.size) (cwN9 1 hts wd_79 (hK.2.1 (.methodLinkNest "StyleSheet" 99 ⟨"StyleSheet$Table", "valuesIn", "(I)I"⟩ "StyleSheet") (by decide)) wd_78 ws_2 wd_2 (by decide) ⟨Nat.le_of_ble_eq_true rfl, Nat.le_of_ble_eq_true rfl⟩) (prV (q0 := 0) (ci := ciTb) hK hP hD (hwr _ _) rfl rfl) rfl rfl hl.1 rfl (lv_room (Nat.le_of_ble_eq_true rfl)) d_S_size_16 ⟨by decide, by decide⟩) (hwr _ _) hP hD hS hA (fun r w1 H locs hw hpd hS => ?_)
    obtain ⟨rfl, rfl⟩ := hw
    obtain ⟨hP, hD⟩ := hpd (cxW k a r t th kd bs us sth mk dr M sM) (hwr _ _).symm
    refine lv_goto (tgt := 23) hx hb d_S_size_19 (by decide) ?_
    exact hret _ _ _ _ _ _ _ _ d_S_size_23 ⟨by rw [if_pos c8, nI_clamp (by omega)]; rfl, rfl⟩ hP hD hS (by decide) (by decide)

set_option maxRecDepth 100000 in
set_option maxHeartbeats 4000000 in
theorem c_sweep (l : Launch) (D : va_G) (k : Nat → ClassId) (a r t : Nat → Nat) (th kd bs us sth mk dr : Nat → Int32) (M sM : Nat → Nat → Int32) (sz : Nat) : bMI l y_S_sweep (wY y_S_sweep b_S_sweep 3 (some .int)) (rm9 8 0 0) D (tsK k) (cxW k a r t th kd bs us sth mk dr M sM) sz [.ref (a 0)] (fun v w => v = nI (cnF (swB sth mk) 256) ∧ w = cxW k a r t th kd bs us (swT sth mk 256) (swK mk 256) dr M (swM sth mk sM 256)) 0 0 := by
  refine ent_i (cc := b_S_sweep) (maxL := 3) (ty := .int) (by decide) (Nat.le_of_ble_eq_true rfl) (fun _ _ _ => rfl) ?_
  intro p e s m args below meth c A Q ls hx hb hml hown hts hsz hA hP hD hS hK hl hret
  rw [← swT_0 sth mk, ← swM_0 sth mk sM, ← swK_0 mk] at hP hD
  refine lv_iconst (v := nI 0) hx hb d_S_sweep_0 (by decide) ?_
  refine lv_istore_n (lv' := [(1, .int (nI 0)), (0, .ref (a 0))]) hx hb d_S_sweep_1 rfl hl (by decide) rfl (fun ls hl => ?_)
  refine lv_iconst (v := nI 0) hx hb d_S_sweep_2 (by decide) ?_
  refine lv_istore_n (lv' := [(2, .int (nI 0)), (1, .int (nI 0)), (0, .ref (a 0))]) hx hb d_S_sweep_3 rfl hl (by decide) rfl (fun ls hl => ?_)
  have lp : ∀ (n9 : Nat) (i : Nat) (ls : Array Slot) (H : Heap) (locs : List Loc), 256 - i < n9 → (i ≤ 256) → va_P D vwCl (cxW k a r t th kd bs us (swT sth mk i) (swK mk i) dr M (swM sth mk sM i)) H → va_D A (cxW k a r t th kd bs us (swT sth mk i) (swK mk i) dr M (swM sth mk sM i)) → va_S A s.heap H locs → lv_has ls 3 [(0, .ref (a 0)), (1, .int (nI (cnF (swB sth mk) i))), (2, .int (nI i))] → W p l e (rm9 8 0 0) s m args below meth c H locs 0 0 Q (F0 m 4 ls []) := by
    intro n9
    induction n9 with
    | zero => intro i ls H locs hm; omega
    | succ n9 ih =>
      intro i ls H locs hm hi hP hD hS hl
      refine lv_iload_n hx hb d_S_sweep_4 rfl (lv_at hl 2 rfl) ?_
      refine lv_sipush (v := nI 256) hx hb d_S_sweep_5 (by decide) ?_
      refine lv_icmp_ge (tgt := 59) hx hb d_S_sweep_8 (by decide) (fun c8 => ?_) (fun c8 => ?_)
      · skip
        rw [nI_leI (by omega) (by omega)] at c8
        refine lv_iload_n hx hb d_S_sweep_59 rfl (lv_at hl 1 rfl) ?_
        obtain rfl : i = 256 := by omega
        exact hret _ _ _ _ _ _ _ _ d_S_sweep_60 ⟨rfl, rfl⟩ hP hD hS (by decide) (by decide)
      · skip
        rw [nI_leI (by omega) (by omega)] at c8
        refine lv_iload_n hx hb d_S_sweep_11 rfl (lv_at hl 2 rfl) ?_
        refine lv_if_eq (tgt := 46) hx hb d_S_sweep_12 (by decide) (fun c12 => ?_) (fun c12 => ?_)
        · skip
          have c12 : i = 0 := by rw [show (0 : Int32) = nI 0 from rfl, nI_eq (by omega) (by decide)] at c12; exact c12
          have hsw : swB sth mk i = false := by simp [swB, c12]
          rw [swT_f hsw, swM_f hsw] at hP hD
          rw [cnF_f hsw] at hl
          refine lv_aload_n hx hb d_S_sweep_46 rfl (lv_at hl 0 rfl) ?_
          refine va_get (D := D) (ci := ciSS) (v := .ref (a 6)) (C := RS) (T := TS) (N := 7) hx hb hts inS hown hK.1 hP 0 rfl rfl 5 (by decide) (hts _ wd_51) (fun _ h9 => h9) rfl d_S_sweep_47 ?_
          refine lv_iload_n hx hb d_S_sweep_50 rfl (lv_at hl 2 rfl) ?_
          refine lv_iconst (v := nI 0) hx hb d_S_sweep_51 (by decide) ?_
          refine rw_zast hx hb hK.1 hP hD hS 6 1 rfl rfl (j := i) bz_0 (by omega) (by decide) d_S_sweep_52 (wn := cxW k a r t th kd bs us (swT sth mk (i + 1)) (swK mk (i + 1)) dr M (swM sth mk sM (i + 1))) (by rw [← swK_s]; rfl) (fun H locs hP hD hS => ?_)
          refine lv_iinc (v := nI (i + 1)) (lv' := [(2, .int (nI (i + 1))), (0, .ref (a 0)), (1, .int (nI (cnF (swB sth mk) (i + 1))))]) hx hb d_S_sweep_53 hl (k := 2) rfl (ii_1 _) (by decide) rfl (fun ls hl => ?_)
          refine lv_goto (tgt := 4) hx hb d_S_sweep_56 (by decide) ?_
          exact ih (i + 1) ls H locs (by omega) (by omega) hP hD hS (lv_sub hl [1, 2, 0] rfl)
        · skip
          have c12 : ¬ i = 0 := by rw [show (0 : Int32) = nI 0 from rfl, nI_eq (by omega) (by decide)] at c12; exact c12
          refine lv_aload_n hx hb d_S_sweep_15 rfl (lv_at hl 0 rfl) ?_
          refine va_get (D := D) (ci := ciSS) (v := .ref (a 5)) (C := RS) (T := TS) (N := 7) hx hb hts inS hown hK.1 hP 0 rfl rfl 4 (by decide) (hts _ wd_50) (fun _ h9 => h9) rfl d_S_sweep_16 ?_
          refine lv_iload_n hx hb d_S_sweep_19 rfl (lv_at hl 2 rfl) ?_
          obtain ⟨wr, hwr⟩ := cx_T (k := k) (a := a) (r := r) (t := t) (th := th) (kd := kd) (bs := bs) (us := us) (mk := swK mk i) (dr := dr) (M := M) (sM := swM sth mk sM i)
          refine cal_i (wc := tbF k (a 5) (a 10) (a 11) t 256 (swT sth mk i)) (wr := wr) (va_runVN (As := [.int (nI i)]) (rest := []) ⟨hx, hb, hml, hown, hts⟩ (c_has l D k (a 5) (a 10) (a 11) t 256 (by decide) (swT sth mk i) (nI i) H.size) (cwN9 1 hts wd_75 (hK.2.1 (.methodLinkNest "StyleSheet" 64 ⟨"StyleSheet$Table", "has", "(I)Z"⟩ "StyleSheet") (by decide)) wd_74 ws_1 wd_2 (by decide) ⟨Nat.le_of_ble_eq_true rfl, Nat.le_of_ble_eq_true rfl⟩) (prV (q0 := 0) (ci := ciTb) hK hP hD (hwr _) rfl rfl) rfl rfl hl.1 rfl (lv_room (Nat.le_of_ble_eq_true rfl)) d_S_sweep_20 ⟨by decide, by decide⟩) (hwr _) hP hD hS hA (fun r w1 H locs hw hpd hS => ?_)
          obtain ⟨rfl, rfl⟩ := hw
          obtain ⟨hP, hD⟩ := hpd (cxW k a r t th kd bs us (swT sth mk i) (swK mk i) dr M (swM sth mk sM i)) (hwr _).symm
          refine lv_if_eq (tgt := 46) hx hb d_S_sweep_23 (by decide) (fun c23 => ?_) (fun c23 => ?_)
          · skip
            have c23 := b_of0 c23
            rw [hsB_nI (by omega) (by decide), swT_at] at c23
            have c23 := of_decide_eq_false c23
            have hsw : swB sth mk i = false := by simp [swB, c23]
            rw [swT_f hsw, swM_f hsw] at hP hD
            rw [cnF_f hsw] at hl
            refine lv_aload_n hx hb d_S_sweep_46 rfl (lv_at hl 0 rfl) ?_
            refine va_get (D := D) (ci := ciSS) (v := .ref (a 6)) (C := RS) (T := TS) (N := 7) hx hb hts inS hown hK.1 hP 0 rfl rfl 5 (by decide) (hts _ wd_51) (fun _ h9 => h9) rfl d_S_sweep_47 ?_
            refine lv_iload_n hx hb d_S_sweep_50 rfl (lv_at hl 2 rfl) ?_
            refine lv_iconst (v := nI 0) hx hb d_S_sweep_51 (by decide) ?_
            refine rw_zast hx hb hK.1 hP hD hS 6 1 rfl rfl (j := i) bz_0 (by omega) (by decide) d_S_sweep_52 (wn := cxW k a r t th kd bs us (swT sth mk (i + 1)) (swK mk (i + 1)) dr M (swM sth mk sM (i + 1))) (by rw [← swK_s]; rfl) (fun H locs hP hD hS => ?_)
            refine lv_iinc (v := nI (i + 1)) (lv' := [(2, .int (nI (i + 1))), (0, .ref (a 0)), (1, .int (nI (cnF (swB sth mk) (i + 1))))]) hx hb d_S_sweep_53 hl (k := 2) rfl (ii_1 _) (by decide) rfl (fun ls hl => ?_)
            refine lv_goto (tgt := 4) hx hb d_S_sweep_56 (by decide) ?_
            exact ih (i + 1) ls H locs (by omega) (by omega) hP hD hS (lv_sub hl [1, 2, 0] rfl)
          · skip
            have c23 := b_of1 c23
            rw [hsB_nI (by omega) (by decide), swT_at] at c23
            have c23 := of_decide_eq_true c23
            refine lv_aload_n hx hb d_S_sweep_26 rfl (lv_at hl 0 rfl) ?_
            refine va_get (D := D) (ci := ciSS) (v := .ref (a 6)) (C := RS) (T := TS) (N := 7) hx hb hts inS hown hK.1 hP 0 rfl rfl 5 (by decide) (hts _ wd_51) (fun _ h9 => h9) rfl d_S_sweep_27 ?_
            refine lv_iload_n hx hb d_S_sweep_30 rfl (lv_at hl 2 rfl) ?_
            refine rw_zald hx hb hK.1 hP 6 1 rfl rfl (j := i) (by omega) (by decide) d_S_sweep_31 ?_
            refine lv_if_ne (tgt := 46) hx hb d_S_sweep_32 (by decide) (fun c32 => ?_) (fun c32 => ?_)
            · skip
              rw [swK_at] at c32
              have hsw : swB sth mk i = false := by simp [swB, c32]
              rw [swT_f hsw, swM_f hsw] at hP hD
              rw [cnF_f hsw] at hl
              refine lv_aload_n hx hb d_S_sweep_46 rfl (lv_at hl 0 rfl) ?_
              refine va_get (D := D) (ci := ciSS) (v := .ref (a 6)) (C := RS) (T := TS) (N := 7) hx hb hts inS hown hK.1 hP 0 rfl rfl 5 (by decide) (hts _ wd_51) (fun _ h9 => h9) rfl d_S_sweep_47 ?_
              refine lv_iload_n hx hb d_S_sweep_50 rfl (lv_at hl 2 rfl) ?_
              refine lv_iconst (v := nI 0) hx hb d_S_sweep_51 (by decide) ?_
              refine rw_zast hx hb hK.1 hP hD hS 6 1 rfl rfl (j := i) bz_0 (by omega) (by decide) d_S_sweep_52 (wn := cxW k a r t th kd bs us (swT sth mk (i + 1)) (swK mk (i + 1)) dr M (swM sth mk sM (i + 1))) (by rw [← swK_s]; rfl) (fun H locs hP hD hS => ?_)
              refine lv_iinc (v := nI (i + 1)) (lv' := [(2, .int (nI (i + 1))), (0, .ref (a 0)), (1, .int (nI (cnF (swB sth mk) (i + 1))))]) hx hb d_S_sweep_53 hl (k := 2) rfl (ii_1 _) (by decide) rfl (fun ls hl => ?_)
              refine lv_goto (tgt := 4) hx hb d_S_sweep_56 (by decide) ?_
              exact ih (i + 1) ls H locs (by omega) (by omega) hP hD hS (lv_sub hl [1, 2, 0] rfl)
            · skip
              rw [swK_at] at c32
              refine lv_aload_n hx hb d_S_sweep_35 rfl (lv_at hl 0 rfl) ?_
              refine va_get (D := D) (ci := ciSS) (v := .ref (a 5)) (C := RS) (T := TS) (N := 7) hx hb hts inS hown hK.1 hP 0 rfl rfl 4 (by decide) (hts _ wd_50) (fun _ h9 => h9) rfl d_S_sweep_36 ?_
              refine lv_iload_n hx hb d_S_sweep_39 rfl (lv_at hl 2 rfl) ?_
              obtain ⟨wr, hwr⟩ := cx_TW (k := k) (a := a) (r := r) (t := t) (th := th) (kd := kd) (bs := bs) (us := us) (mk := swK mk i) (dr := dr) (M := M)
              refine cal_v (wc := tbW k (a 5) (a 10) (a 11) t 256 (swT sth mk i) (swM sth mk sM i)) (wr := wr) (va_runVN (As := [.int (nI i)]) (rest := []) ⟨hx, hb, hml, hown, hts⟩ (c_remove l D k (a 5) (a 10) (a 11) t 256 (by decide) (swT sth mk i) (swM sth mk sM i) i (by omega) H.size) (cwN9 1 hts wd_87 (hK.2.1 (.methodLinkNest "StyleSheet" 68 ⟨"StyleSheet$Table", "remove", "(I)V"⟩ "StyleSheet") (by decide)) wd_86 ws_3 wd_2 (by decide) ⟨Nat.le_of_ble_eq_true rfl, Nat.le_of_ble_eq_true rfl⟩) (prV (q0 := 0) (ci := ciTb) hK hP hD (hwr _ _) rfl rfl) rfl rfl hl.1 rfl (lv_room (Nat.le_of_ble_eq_true rfl)) d_S_sweep_40 ⟨by decide, by decide⟩) (hwr _ _) hP hD hS hA (fun w1 H locs hw hpd hS => ?_)
              subst hw
              obtain ⟨hP, hD⟩ := hpd (cxW k a r t th kd bs us (upd (swT sth mk i) i (nI 0)) (swK mk i) dr M (va_up (swM sth mk sM i) i (fun _ => -1))) (hwr _ _).symm
              refine lv_iinc (v := nI ((cnF (swB sth mk) i) + 1)) (lv' := [(1, .int (nI ((cnF (swB sth mk) i) + 1))), (0, .ref (a 0)), (2, .int (nI i))]) hx hb d_S_sweep_43 hl (k := 1) rfl (ii_1 _) (by decide) rfl (fun ls hl => ?_)
              have hsw : swB sth mk i = true := by simp [swB, c12, c23, c32]
              rw [swT_t hsw, swM_t hsw] at hP hD
              rw [cnF_t hsw] at hl
              refine lv_aload_n hx hb d_S_sweep_46 rfl (lv_at hl 1 rfl) ?_
              refine va_get (D := D) (ci := ciSS) (v := .ref (a 6)) (C := RS) (T := TS) (N := 7) hx hb hts inS hown hK.1 hP 0 rfl rfl 5 (by decide) (hts _ wd_51) (fun _ h9 => h9) rfl d_S_sweep_47 ?_
              refine lv_iload_n hx hb d_S_sweep_50 rfl (lv_at hl 2 rfl) ?_
              refine lv_iconst (v := nI 0) hx hb d_S_sweep_51 (by decide) ?_
              refine rw_zast hx hb hK.1 hP hD hS 6 1 rfl rfl (j := i) bz_0 (by omega) (by decide) d_S_sweep_52 (wn := cxW k a r t th kd bs us (swT sth mk (i + 1)) (swK mk (i + 1)) dr M (swM sth mk sM (i + 1))) (by rw [← swK_s]; rfl) (fun H locs hP hD hS => ?_)
              refine lv_iinc (v := nI (i + 1)) (lv' := [(2, .int (nI (i + 1))), (1, .int (nI (cnF (swB sth mk) (i + 1)))), (0, .ref (a 0))]) hx hb d_S_sweep_53 hl (k := 2) rfl (ii_1 _) (by decide) rfl (fun ls hl => ?_)
              refine lv_goto (tgt := 4) hx hb d_S_sweep_56 (by decide) ?_
              exact ih (i + 1) ls H locs (by omega) (by omega) hP hD hS (lv_sub hl [2, 1, 0] rfl)
  exact lp _ (0) ls s.heap [] (Nat.lt_succ_self _) (by decide) hP hD hS (lv_sub hl [2, 1, 0] rfl)

set_option maxRecDepth 100000 in
set_option maxHeartbeats 4000000 in
theorem c_count (l : Launch) (D : va_G) (k : Nat → ClassId) (a r t : Nat → Nat) (th kd bs us sth mk dr : Nat → Int32) (M sM : Nat → Nat → Int32) (y : Int32) (sz : Nat) : bMI l y_S_count (wY y_S_count b_S_count 2 (some .int)) (rm9 8 0 0) D (tsK k) (cxW k a r t th kd bs us sth mk dr M sM) sz [.ref (a 0), .int y] (fun v w => v = coF th bs sth M sM y ∧ w = cxW k a r t th kd bs us sth mk dr M sM) 0 0 := by
  refine ent_i (cc := b_S_count) (maxL := 2) (ty := .int) (by decide) (Nat.le_of_ble_eq_true rfl) (fun _ _ _ => rfl) ?_
  intro p e s m args below meth c A Q ls hx hb hml hown hts hsz hA hP hD hS hK hl hret
  refine lv_iload_n hx hb d_S_count_0 rfl (lv_at hl 1 rfl) ?_
  rcases sw5 y with rfl | rfl | rfl | rfl | rfl | ⟨hsw, hwh⟩
  · skip
    refine lv_tableIn (off := 35) (tgt := 36) hx hb d_S_count_1 (by decide) (by decide) (by decide) (by decide) ?_
    refine lv_aload_n hx hb d_S_count_36 rfl (lv_at hl 0 rfl) ?_
    refine va_get (D := D) (ci := ciSS) (v := .ref (a 1)) (C := RS) (T := TS) (N := 7) hx hb hts inS hown hK.1 hP 0 rfl rfl 0 (by decide) (hts _ wd_46) (fun _ h9 => h9) rfl d_S_count_37 ?_
    obtain ⟨wr, hwr⟩ := cx_S (k := k) (a := a) (r := r) (t := t) (kd := kd) (bs := bs) (us := us) (sth := sth) (mk := mk) (dr := dr) (M := M) (sM := sM)
    refine cal_i (wc := tbF k (a 1) (a 8) (a 9) r 64 th) (wr := wr) (va_runVN (As := []) (rest := []) ⟨hx, hb, hml, hown, hts⟩ (c_howMany l D k (a 1) (a 8) (a 9) r 64 (by decide) th  s.heap.size) (cwN9 0 hts wd_95 (hK.2.1 (.methodLinkNest "StyleSheet" 121 ⟨"StyleSheet$Table", "howMany", "()I"⟩ "StyleSheet") (by decide)) wd_94 ws_4 wd_2 (by decide) ⟨Nat.le_of_ble_eq_true rfl, Nat.le_of_ble_eq_true rfl⟩) (prV (q0 := 0) (ci := ciTb) hK hP hD (hwr _) rfl rfl) rfl rfl hl.1 rfl (lv_room (Nat.le_of_ble_eq_true rfl)) d_S_count_40 ⟨by decide, by decide⟩) (hwr _) hP hD hS hA (fun r w1 H locs hw hpd hS => ?_)
    obtain ⟨rfl, rfl⟩ := hw
    obtain ⟨hP, hD⟩ := hpd (cxW k a r t th kd bs us sth mk dr M sM) (hwr _).symm
    exact hret _ _ _ _ _ _ _ _ d_S_count_43 ⟨rfl, rfl⟩ hP hD hS (by decide) (by decide)
  · skip
    refine lv_tableIn (off := 43) (tgt := 44) hx hb d_S_count_1 (by decide) (by decide) (by decide) (by decide) ?_
    refine lv_aload_n hx hb d_S_count_44 rfl (lv_at hl 0 rfl) ?_
    refine va_get (D := D) (ci := ciSS) (v := .ref (a 5)) (C := RS) (T := TS) (N := 7) hx hb hts inS hown hK.1 hP 0 rfl rfl 4 (by decide) (hts _ wd_50) (fun _ h9 => h9) rfl d_S_count_45 ?_
    obtain ⟨wr, hwr⟩ := cx_T (k := k) (a := a) (r := r) (t := t) (th := th) (kd := kd) (bs := bs) (us := us) (mk := mk) (dr := dr) (M := M) (sM := sM)
    refine cal_i (wc := tbF k (a 5) (a 10) (a 11) t 256 sth) (wr := wr) (va_runVN (As := []) (rest := []) ⟨hx, hb, hml, hown, hts⟩ (c_howMany l D k (a 5) (a 10) (a 11) t 256 (by decide) sth  s.heap.size) (cwN9 0 hts wd_95 (hK.2.1 (.methodLinkNest "StyleSheet" 121 ⟨"StyleSheet$Table", "howMany", "()I"⟩ "StyleSheet") (by decide)) wd_94 ws_4 wd_2 (by decide) ⟨Nat.le_of_ble_eq_true rfl, Nat.le_of_ble_eq_true rfl⟩) (prV (q0 := 0) (ci := ciTb) hK hP hD (hwr _) rfl rfl) rfl rfl hl.1 rfl (lv_room (Nat.le_of_ble_eq_true rfl)) d_S_count_48 ⟨by decide, by decide⟩) (hwr _) hP hD hS hA (fun r w1 H locs hw hpd hS => ?_)
    obtain ⟨rfl, rfl⟩ := hw
    obtain ⟨hP, hD⟩ := hpd (cxW k a r t th kd bs us sth mk dr M sM) (hwr _).symm
    exact hret _ _ _ _ _ _ _ _ d_S_count_51 ⟨rfl, rfl⟩ hP hD hS (by decide) (by decide)
  · skip
    refine lv_tableIn (off := 51) (tgt := 52) hx hb d_S_count_1 (by decide) (by decide) (by decide) (by decide) ?_
    refine lv_aload_n hx hb d_S_count_52 rfl (lv_at hl 0 rfl) ?_
    refine va_get (D := D) (ci := ciSS) (v := .ref (a 1)) (C := RS) (T := TS) (N := 7) hx hb hts inS hown hK.1 hP 0 rfl rfl 0 (by decide) (hts _ wd_46) (fun _ h9 => h9) rfl d_S_count_53 ?_
    obtain ⟨wr, hwr⟩ := cx_SW (k := k) (a := a) (r := r) (t := t) (kd := kd) (bs := bs) (us := us) (sth := sth) (mk := mk) (dr := dr) (sM := sM)
    refine cal_i (wc := tbW k (a 1) (a 8) (a 9) r 64 th M) (wr := wr) (va_runVN (As := []) (rest := []) ⟨hx, hb, hml, hown, hts⟩ (c_valuesInAll l D k (a 1) (a 8) (a 9) r 64 (by decide) th M  s.heap.size) (cwN9 0 hts wd_99 (hK.2.1 (.methodLinkNest "StyleSheet" 124 ⟨"StyleSheet$Table", "valuesInAll", "()I"⟩ "StyleSheet") (by decide)) wd_98 ws_5 wd_2 (by decide) ⟨Nat.le_of_ble_eq_true rfl, Nat.le_of_ble_eq_true rfl⟩) (prV (q0 := 0) (ci := ciTb) hK hP hD (hwr _ _) rfl rfl) rfl rfl hl.1 rfl (lv_room (Nat.le_of_ble_eq_true rfl)) d_S_count_56 ⟨by decide, by decide⟩) (hwr _ _) hP hD hS hA (fun r w1 H locs hw hpd hS => ?_)
    obtain ⟨rfl, rfl⟩ := hw
    obtain ⟨hP, hD⟩ := hpd (cxW k a r t th kd bs us sth mk dr M sM) (hwr _ _).symm
    exact hret _ _ _ _ _ _ _ _ d_S_count_59 ⟨rfl, rfl⟩ hP hD hS (by decide) (by decide)
  · skip
    refine lv_tableIn (off := 59) (tgt := 60) hx hb d_S_count_1 (by decide) (by decide) (by decide) (by decide) ?_
    refine lv_aload_n hx hb d_S_count_60 rfl (lv_at hl 0 rfl) ?_
    refine va_get (D := D) (ci := ciSS) (v := .ref (a 5)) (C := RS) (T := TS) (N := 7) hx hb hts inS hown hK.1 hP 0 rfl rfl 4 (by decide) (hts _ wd_50) (fun _ h9 => h9) rfl d_S_count_61 ?_
    obtain ⟨wr, hwr⟩ := cx_TW (k := k) (a := a) (r := r) (t := t) (th := th) (kd := kd) (bs := bs) (us := us) (mk := mk) (dr := dr) (M := M)
    refine cal_i (wc := tbW k (a 5) (a 10) (a 11) t 256 sth sM) (wr := wr) (va_runVN (As := []) (rest := []) ⟨hx, hb, hml, hown, hts⟩ (c_valuesInAll l D k (a 5) (a 10) (a 11) t 256 (by decide) sth sM  s.heap.size) (cwN9 0 hts wd_99 (hK.2.1 (.methodLinkNest "StyleSheet" 124 ⟨"StyleSheet$Table", "valuesInAll", "()I"⟩ "StyleSheet") (by decide)) wd_98 ws_5 wd_2 (by decide) ⟨Nat.le_of_ble_eq_true rfl, Nat.le_of_ble_eq_true rfl⟩) (prV (q0 := 0) (ci := ciTb) hK hP hD (hwr _ _) rfl rfl) rfl rfl hl.1 rfl (lv_room (Nat.le_of_ble_eq_true rfl)) d_S_count_64 ⟨by decide, by decide⟩) (hwr _ _) hP hD hS hA (fun r w1 H locs hw hpd hS => ?_)
    obtain ⟨rfl, rfl⟩ := hw
    obtain ⟨hP, hD⟩ := hpd (cxW k a r t th kd bs us sth mk dr M sM) (hwr _ _).symm
    exact hret _ _ _ _ _ _ _ _ d_S_count_67 ⟨rfl, rfl⟩ hP hD hS (by decide) (by decide)
  · skip
    refine lv_tableIn (off := 67) (tgt := 68) hx hb d_S_count_1 (by decide) (by decide) (by decide) (by decide) ?_
    refine lv_aload_n hx hb d_S_count_68 rfl (lv_at hl 0 rfl) ?_
    refine cal_i (wc := cxW k a r t th kd bs us sth mk dr M sM) (wr := []) (va_runV (As := []) (rest := []) ⟨hx, hb, hml, hown, hts⟩ (c_longestChain l D k a r t th kd bs us sth mk dr M sM  s.heap.size) (cwV9 0 hts wd_104 wd_101 wd_103 ws_6 wd_1 (by decide) ⟨Nat.le_of_ble_eq_true rfl, Nat.le_of_ble_eq_true rfl⟩) (prV (q0 := 0) (ci := ciSS) hK hP hD (pm_nil' _) rfl rfl) rfl rfl hl.1 rfl (lv_room (Nat.le_of_ble_eq_true rfl)) d_S_count_69 ⟨by decide, by decide⟩) (pm_nil' _) hP hD hS hA (fun r w1 H locs hw hpd hS => ?_)
    obtain ⟨rfl, rfl⟩ := hw
    obtain ⟨hP, hD⟩ := hpd (cxW k a r t th kd bs us sth mk dr M sM) (pm_nil _)
    exact hret _ _ _ _ _ _ _ _ d_S_count_72 ⟨rfl, rfl⟩ hP hD hS (by decide) (by decide)
  · skip
    refine lv_tableOut (tgt := 73) hx hb d_S_count_1 hsw (by decide) ?_
    refine lv_iconst (v := -1) hx hb d_S_count_73 (by decide) ?_
    exact hret _ _ _ _ _ _ _ _ d_S_count_74 ⟨by simp only [whB, Bool.or_eq_false_iff, decide_eq_false_iff_not] at hwh; simp [coF, hwh], rfl⟩ hP hD hS (by decide) (by decide)
end
section
/-! a new StyleSheet -/
theorem pm_cm (a b : va_W) : (a ++ b).Perm (b ++ a) := List.perm_append_comm
theorem pm_ca (a b c : va_W) : (a ++ (b ++ c)).Perm (b ++ (a ++ c)) := List.perm_append_comm_assoc a b c
theorem in_perm (c0 s1 s8 s9 kd b u t5 t10 t11 mk dr : Nat × va_E) (rS rT : va_W) : (c0 :: ((((((([s1, s8, s9] ++ rS) ++ [kd]) ++ [b]) ++ [u]) ++ ([t5, t10, t11] ++ rT)) ++ [mk]) ++ [dr])).Perm ([c0, s1, kd, b, u, t5, mk, dr, s8, s9, t10, t11] ++ (rS ++ rT)) := by
  have h1 : (rS ++ ([kd, b, u, t5, t10, t11] ++ (rT ++ [mk, dr]))).Perm ([kd, b, u, t5, t10, t11] ++ (rS ++ (rT ++ [mk, dr]))) := List.perm_append_comm_assoc _ _ _
  have h2 : (rS ++ (rT ++ [mk, dr])).Perm ([mk, dr] ++ (rS ++ rT)) := by rw [← List.append_assoc]; exact List.perm_append_comm
  have h3 : ([c0, s1, s8, s9] ++ (rS ++ ([kd, b, u, t5, t10, t11] ++ (rT ++ [mk, dr])))).Perm ([c0, s1, s8, s9] ++ ([kd, b, u, t5, t10, t11] ++ ([mk, dr] ++ (rS ++ rT)))) := List.Perm.append_left _ (h1.trans (List.Perm.append_left _ h2))
  have h4 := (pm_ix (L := [c0, s1, s8, s9, kd, b, u, t5, t10, t11, mk, dr]) (L' := [c0, s1, kd, b, u, t5, mk, dr, s8, s9, t10, t11]) [0, 1, 4, 5, 6, 7, 10, 11, 2, 3, 8, 9] (show (List.range 12).Perm [0, 1, 4, 5, 6, 7, 10, 11, 2, 3, 8, 9] by decide) rfl).append_right (rS ++ rT)
  refine (List.Perm.of_eq ?_).trans (h3.trans ((List.Perm.of_eq ?_).trans h4))
  · simp only [List.append_assoc, List.cons_append, List.nil_append]
  · simp only [List.append_assoc, List.cons_append, List.nil_append]

set_option maxRecDepth 100000 in
set_option maxHeartbeats 4000000 in
theorem c_Sinit (l : Launch) (D : va_G) (k : Nat → ClassId) (x : Nat) (sz : Nat) : bMV l y_S_init (wY y_S_init b_S_init 1 none) (rm9 4 331 8756) D (tsK k) ([(x, .inr (ciSS, [.null, .null, .null, .null, .null, .null, .null]))]) sz [.ref x] (fun w => ∃ (a r t : Nat → Nat), a 0 = x ∧ w = cxW k a r t (fun _ => 0) (fun _ => 0) (fun _ => 0) (fun _ => 0) (upd (fun _ => 0) 0 (nI 1)) (fun _ => 0) (fun _ => 0) (fun _ _ => -1) (fun _ _ => -1)) 331 8756 := by
  refine ent_v (cc := b_S_init) (maxL := 1) (by decide) (Nat.le_of_ble_eq_true rfl) ?_
  intro p e s m args below meth c A Q ls hx hb hml hown hts hsz hA hP hD hS hK hl hnm hret
  refine lv_aload_n hx hb d_S_init_0 rfl (lv_at hl 0 rfl) ?_
  refine W.objInit hx hb hown (hts _ wd_18) (hts _ wd_19) (hts _ wd_20) rfl (by rw [hml]; exact hl.1) rfl d_S_init_1 (Nat.le_of_ble_eq_true rfl) (Nat.le_of_ble_eq_true rfl) ?_
  refine W.eq (g2 := F0 m 4 ls []) rfl ?_
  refine lv_aload_n hx hb d_S_init_4 rfl (lv_at hl 0 rfl) ?_
  refine va_new (ci := ciTb) (fs := [.null, .null]) (C := RT) (T := TT) (N := 2) hx hb hts inT tyT ttT hown (hts _ wd_21) (hts _ wd_22) (hts _ wd_2) hK.1 hP hD hS hA rfl (fun j hj => by rcases (show j = 0 ∨ j = 1 by omega) with rfl | rfl <;> rfl) (by decide) (by decide) d_S_init_5 (fun q5 H hP hD hS => ?_)
  have hP : va_P D vwCl ((x, .inr (ciSS, [.null, .null, .null, .null, .null, .null, .null])) :: ([(q5, .inr (ciTb, [.null, .null]))])) H := hP
  have hD : va_D A ((x, .inr (ciSS, [.null, .null, .null, .null, .null, .null, .null])) :: ([(q5, .inr (ciTb, [.null, .null]))])) := hD
  refine W.widen (k := 1) (n := 2) (by decide) (by decide) ?_
  refine lv_dup hx hb d_S_init_8 rfl ?_
  refine lv_bipush (v := nI 64) hx hb d_S_init_9 (by decide) ?_
  have hpm : ((x, Sum.inr (ciSS, [Value.null, Value.null, Value.null, Value.null, Value.null, Value.null, Value.null])) :: ([(q5, Sum.inr (ciTb, [Value.null, Value.null]))]) : va_W).Perm ([(q5, Sum.inr (ciTb, [Value.null, Value.null]))] ++ ([(x, Sum.inr (ciSS, [Value.null, Value.null, Value.null, Value.null, Value.null, Value.null, Value.null]))] : va_W)) := pm_cm ([(x, Sum.inr (ciSS, [Value.null, Value.null, Value.null, Value.null, Value.null, Value.null, Value.null]))] : va_W) [(q5, Sum.inr (ciTb, [Value.null, Value.null]))]
  refine cal_v (wc := [(q5, .inr (ciTb, [.null, .null]))]) (wr := [(x, .inr (ciSS, [.null, .null, .null, .null, .null, .null, .null]))]) (va_runIN (As := [.int (nI 64)]) (rest := [.ref q5, .ref x]) ⟨hx, hb, hml, hown, hts⟩ (c_Tinit l D k q5 64 (by decide) H.size) (cwNI9 1 hts wd_25 (hK.2.1 (.methodLinkNest "StyleSheet" 11 ⟨"StyleSheet$Table", "<init>", "(I)V"⟩ "StyleSheet") (by decide)) wd_24 wd_2 rfl (by decide) ⟨Nat.le_of_ble_eq_true rfl, Nat.le_of_ble_eq_true rfl⟩) (prS (As := [.ref q5, .int (nI 64)]) hK hP hD hpm) rfl rfl hl.1 rfl (lv_room (Nat.le_of_ble_eq_true rfl)) d_S_init_11 ⟨by decide, by decide⟩) hpm hP hD hS hA (fun w1 H locs hw hpd hS => ?_)
  obtain ⟨a11, g11, r11, rfl⟩ := hw
  obtain ⟨hP, hD⟩ := hpd ((x, .inr (ciSS, [.null, .null, .null, .null, .null, .null, .null])) :: (tbW k q5 a11 g11 r11 64 (fun _ => 0) (fun _ _ => -1))) (pm_cm _ ([(x, Sum.inr (ciSS, [Value.null, Value.null, Value.null, Value.null, Value.null, Value.null, Value.null]))] : va_W))
  refine W.widen (k := 67) (n := 1666) (by decide) (by decide) ?_
  refine va_putF (D := D) (ci := ciSS) (v := .ref q5) (ty := .object "StyleSheet$Table") (C := RS) (T := TS) (N := 7) hx hb hts inS tyS ttS nnS hown hK.1 hP hD hS 0 rfl rfl 0 (by decide) (hts _ wd_46) (fun _ h9 => h9) rfl hnm rfl (by decide +kernel) rfl rfl (Nat.le_of_ble_eq_true rfl) d_S_init_14 (fun H locs hP hD hS => ?_)
  have hP : va_P D vwCl ((x, .inr (ciSS, [.ref q5, .null, .null, .null, .null, .null, .null])) :: (tbW k q5 a11 g11 r11 64 (fun _ => 0) (fun _ _ => -1))) H := hP
  have hD : va_D A ((x, .inr (ciSS, [.ref q5, .null, .null, .null, .null, .null, .null])) :: (tbW k q5 a11 g11 r11 64 (fun _ => 0) (fun _ _ => -1))) := hD
  refine lv_aload_n hx hb d_S_init_17 rfl (lv_at hl 0 rfl) ?_
  refine lv_bipush (v := nI 64) hx hb d_S_init_18 (by decide) ?_
  refine va_newa (atype := .int) (ty := .int) (N' := 64) (a0 := (64, .inl (fun _ => 0))) hx hb (hts _ wd_41) rfl hK.1 hP hD hS hA (fun cA => rfl) (by decide) (by decide) (by decide) (by decide) (by decide) d_S_init_20 (fun q20 cA H hKn hP hD hS => ?_)
  obtain rfl : cA = k 0 := ka_eq (hKn.2 4 _ rfl).2 (hK.1.2 0 _ rfl).2
  have hP : va_P D vwCl ((x, .inr (ciSS, [.ref q5, .null, .null, .null, .null, .null, .null])) :: ((tbW k q5 a11 g11 r11 64 (fun _ => 0) (fun _ _ => -1)) ++ [(q20, .inl (k 0, 64, .inl (fun _ => 0)))])) H := hP
  have hD : va_D A ((x, .inr (ciSS, [.ref q5, .null, .null, .null, .null, .null, .null])) :: ((tbW k q5 a11 g11 r11 64 (fun _ => 0) (fun _ _ => -1)) ++ [(q20, .inl (k 0, 64, .inl (fun _ => 0)))])) := hD
  refine W.widen (k := 68) (n := 1730) (by decide) (by decide) ?_
  refine va_putF (D := D) (ci := ciSS) (v := .ref q20) (ty := .array .int) (C := RS) (T := TS) (N := 7) hx hb hts inS tyS ttS nnS hown hK.1 hP hD hS 0 rfl rfl 1 (by decide) (hts _ wd_47) (fun _ h9 => h9) rfl hnm rfl (by decide +kernel) rfl rfl (Nat.le_of_ble_eq_true rfl) d_S_init_22 (fun H locs hP hD hS => ?_)
  have hP : va_P D vwCl ((x, .inr (ciSS, [.ref q5, .ref q20, .null, .null, .null, .null, .null])) :: ((tbW k q5 a11 g11 r11 64 (fun _ => 0) (fun _ _ => -1)) ++ [(q20, .inl (k 0, 64, .inl (fun _ => 0)))])) H := hP
  have hD : va_D A ((x, .inr (ciSS, [.ref q5, .ref q20, .null, .null, .null, .null, .null])) :: ((tbW k q5 a11 g11 r11 64 (fun _ => 0) (fun _ _ => -1)) ++ [(q20, .inl (k 0, 64, .inl (fun _ => 0)))])) := hD
  refine lv_aload_n hx hb d_S_init_25 rfl (lv_at hl 0 rfl) ?_
  refine lv_bipush (v := nI 64) hx hb d_S_init_26 (by decide) ?_
  refine va_newa (atype := .int) (ty := .int) (N' := 64) (a0 := (64, .inl (fun _ => 0))) hx hb (hts _ wd_41) rfl hK.1 hP hD hS hA (fun cA => rfl) (by decide) (by decide) (by decide) (by decide) (by decide) d_S_init_28 (fun q28 cA H hKn hP hD hS => ?_)
  obtain rfl : cA = k 0 := ka_eq (hKn.2 4 _ rfl).2 (hK.1.2 0 _ rfl).2
  have hP : va_P D vwCl ((x, .inr (ciSS, [.ref q5, .ref q20, .null, .null, .null, .null, .null])) :: (((tbW k q5 a11 g11 r11 64 (fun _ => 0) (fun _ _ => -1)) ++ [(q20, .inl (k 0, 64, .inl (fun _ => 0)))]) ++ [(q28, .inl (k 0, 64, .inl (fun _ => 0)))])) H := hP
  have hD : va_D A ((x, .inr (ciSS, [.ref q5, .ref q20, .null, .null, .null, .null, .null])) :: (((tbW k q5 a11 g11 r11 64 (fun _ => 0) (fun _ _ => -1)) ++ [(q20, .inl (k 0, 64, .inl (fun _ => 0)))]) ++ [(q28, .inl (k 0, 64, .inl (fun _ => 0)))])) := hD
  refine W.widen (k := 69) (n := 1794) (by decide) (by decide) ?_
  refine va_putF (D := D) (ci := ciSS) (v := .ref q28) (ty := .array .int) (C := RS) (T := TS) (N := 7) hx hb hts inS tyS ttS nnS hown hK.1 hP hD hS 0 rfl rfl 2 (by decide) (hts _ wd_48) (fun _ h9 => h9) rfl hnm rfl (by decide +kernel) rfl rfl (Nat.le_of_ble_eq_true rfl) d_S_init_30 (fun H locs hP hD hS => ?_)
  have hP : va_P D vwCl ((x, .inr (ciSS, [.ref q5, .ref q20, .ref q28, .null, .null, .null, .null])) :: (((tbW k q5 a11 g11 r11 64 (fun _ => 0) (fun _ _ => -1)) ++ [(q20, .inl (k 0, 64, .inl (fun _ => 0)))]) ++ [(q28, .inl (k 0, 64, .inl (fun _ => 0)))])) H := hP
  have hD : va_D A ((x, .inr (ciSS, [.ref q5, .ref q20, .ref q28, .null, .null, .null, .null])) :: (((tbW k q5 a11 g11 r11 64 (fun _ => 0) (fun _ _ => -1)) ++ [(q20, .inl (k 0, 64, .inl (fun _ => 0)))]) ++ [(q28, .inl (k 0, 64, .inl (fun _ => 0)))])) := hD
  refine lv_aload_n hx hb d_S_init_33 rfl (lv_at hl 0 rfl) ?_
  refine lv_bipush (v := nI 24) hx hb d_S_init_34 (by decide) ?_
  refine va_newa (atype := .int) (ty := .int) (N' := 24) (a0 := (24, .inl (fun _ => 0))) hx hb (hts _ wd_41) rfl hK.1 hP hD hS hA (fun cA => rfl) (by decide) (by decide) (by decide) (by decide) (by decide) d_S_init_36 (fun q36 cA H hKn hP hD hS => ?_)
  obtain rfl : cA = k 0 := ka_eq (hKn.2 4 _ rfl).2 (hK.1.2 0 _ rfl).2
  have hP : va_P D vwCl ((x, .inr (ciSS, [.ref q5, .ref q20, .ref q28, .null, .null, .null, .null])) :: ((((tbW k q5 a11 g11 r11 64 (fun _ => 0) (fun _ _ => -1)) ++ [(q20, .inl (k 0, 64, .inl (fun _ => 0)))]) ++ [(q28, .inl (k 0, 64, .inl (fun _ => 0)))]) ++ [(q36, .inl (k 0, 24, .inl (fun _ => 0)))])) H := hP
  have hD : va_D A ((x, .inr (ciSS, [.ref q5, .ref q20, .ref q28, .null, .null, .null, .null])) :: ((((tbW k q5 a11 g11 r11 64 (fun _ => 0) (fun _ _ => -1)) ++ [(q20, .inl (k 0, 64, .inl (fun _ => 0)))]) ++ [(q28, .inl (k 0, 64, .inl (fun _ => 0)))]) ++ [(q36, .inl (k 0, 24, .inl (fun _ => 0)))])) := hD
  refine W.widen (k := 70) (n := 1818) (by decide) (by decide) ?_
  refine va_putF (D := D) (ci := ciSS) (v := .ref q36) (ty := .array .int) (C := RS) (T := TS) (N := 7) hx hb hts inS tyS ttS nnS hown hK.1 hP hD hS 0 rfl rfl 3 (by decide) (hts _ wd_49) (fun _ h9 => h9) rfl hnm rfl (by decide +kernel) rfl rfl (Nat.le_of_ble_eq_true rfl) d_S_init_38 (fun H locs hP hD hS => ?_)
  have hP : va_P D vwCl ((x, .inr (ciSS, [.ref q5, .ref q20, .ref q28, .ref q36, .null, .null, .null])) :: ((((tbW k q5 a11 g11 r11 64 (fun _ => 0) (fun _ _ => -1)) ++ [(q20, .inl (k 0, 64, .inl (fun _ => 0)))]) ++ [(q28, .inl (k 0, 64, .inl (fun _ => 0)))]) ++ [(q36, .inl (k 0, 24, .inl (fun _ => 0)))])) H := hP
  have hD : va_D A ((x, .inr (ciSS, [.ref q5, .ref q20, .ref q28, .ref q36, .null, .null, .null])) :: ((((tbW k q5 a11 g11 r11 64 (fun _ => 0) (fun _ _ => -1)) ++ [(q20, .inl (k 0, 64, .inl (fun _ => 0)))]) ++ [(q28, .inl (k 0, 64, .inl (fun _ => 0)))]) ++ [(q36, .inl (k 0, 24, .inl (fun _ => 0)))])) := hD
  refine lv_aload_n hx hb d_S_init_41 rfl (lv_at hl 0 rfl) ?_
  refine va_new (ci := ciTb) (fs := [.null, .null]) (C := RT) (T := TT) (N := 2) hx hb hts inT tyT ttT hown (hts _ wd_21) (hts _ wd_22) (hts _ wd_2) hK.1 hP hD hS hA rfl (fun j hj => by rcases (show j = 0 ∨ j = 1 by omega) with rfl | rfl <;> rfl) (by decide) (by decide) d_S_init_42 (fun q42 H hP hD hS => ?_)
  have hP : va_P D vwCl ((x, .inr (ciSS, [.ref q5, .ref q20, .ref q28, .ref q36, .null, .null, .null])) :: ((((tbW k q5 a11 g11 r11 64 (fun _ => 0) (fun _ _ => -1)) ++ [(q20, .inl (k 0, 64, .inl (fun _ => 0)))]) ++ [(q28, .inl (k 0, 64, .inl (fun _ => 0)))]) ++ [(q36, .inl (k 0, 24, .inl (fun _ => 0)))] ++ [(q42, .inr (ciTb, [.null, .null]))])) H := hP
  have hD : va_D A ((x, .inr (ciSS, [.ref q5, .ref q20, .ref q28, .ref q36, .null, .null, .null])) :: ((((tbW k q5 a11 g11 r11 64 (fun _ => 0) (fun _ _ => -1)) ++ [(q20, .inl (k 0, 64, .inl (fun _ => 0)))]) ++ [(q28, .inl (k 0, 64, .inl (fun _ => 0)))]) ++ [(q36, .inl (k 0, 24, .inl (fun _ => 0)))] ++ [(q42, .inr (ciTb, [.null, .null]))])) := hD
  refine W.widen (k := 71) (n := 1820) (by decide) (by decide) ?_
  refine lv_dup hx hb d_S_init_45 rfl ?_
  refine lv_sipush (v := nI 256) hx hb d_S_init_46 (by decide) ?_
  have hpm : ((x, Sum.inr (ciSS, [Value.ref q5, Value.ref q20, Value.ref q28, Value.ref q36, Value.null, Value.null, Value.null])) :: ((((tbW k q5 a11 g11 r11 64 (fun _ => 0) (fun _ _ => -1)) ++ [(q20, Sum.inl (k 0, 64, Sum.inl (fun _ => 0)))]) ++ [(q28, Sum.inl (k 0, 64, Sum.inl (fun _ => 0)))]) ++ [(q36, Sum.inl (k 0, 24, Sum.inl (fun _ => 0)))] ++ [(q42, Sum.inr (ciTb, [Value.null, Value.null]))]) : va_W).Perm ([(q42, Sum.inr (ciTb, [Value.null, Value.null]))] ++ ((x, Sum.inr (ciSS, [Value.ref q5, Value.ref q20, Value.ref q28, Value.ref q36, Value.null, Value.null, Value.null])) :: ((((tbW k q5 a11 g11 r11 64 (fun _ => 0) (fun _ _ => -1)) ++ [(q20, Sum.inl (k 0, 64, Sum.inl (fun _ => 0)))]) ++ [(q28, Sum.inl (k 0, 64, Sum.inl (fun _ => 0)))]) ++ [(q36, Sum.inl (k 0, 24, Sum.inl (fun _ => 0)))]) : va_W)) := pm_cm ((x, Sum.inr (ciSS, [Value.ref q5, Value.ref q20, Value.ref q28, Value.ref q36, Value.null, Value.null, Value.null])) :: ((((tbW k q5 a11 g11 r11 64 (fun _ => 0) (fun _ _ => -1)) ++ [(q20, Sum.inl (k 0, 64, Sum.inl (fun _ => 0)))]) ++ [(q28, Sum.inl (k 0, 64, Sum.inl (fun _ => 0)))]) ++ [(q36, Sum.inl (k 0, 24, Sum.inl (fun _ => 0)))]) : va_W) [(q42, Sum.inr (ciTb, [Value.null, Value.null]))]
  refine cal_v (wc := [(q42, .inr (ciTb, [.null, .null]))]) (wr := (x, .inr (ciSS, [.ref q5, .ref q20, .ref q28, .ref q36, .null, .null, .null])) :: ((((tbW k q5 a11 g11 r11 64 (fun _ => 0) (fun _ _ => -1)) ++ [(q20, .inl (k 0, 64, .inl (fun _ => 0)))]) ++ [(q28, .inl (k 0, 64, .inl (fun _ => 0)))]) ++ [(q36, .inl (k 0, 24, .inl (fun _ => 0)))])) (va_runIN (As := [.int (nI 256)]) (rest := [.ref q42, .ref x]) ⟨hx, hb, hml, hown, hts⟩ (c_Tinit l D k q42 256 (by decide) H.size) (cwNI9 1 hts wd_25 (hK.2.1 (.methodLinkNest "StyleSheet" 11 ⟨"StyleSheet$Table", "<init>", "(I)V"⟩ "StyleSheet") (by decide)) wd_24 wd_2 rfl (by decide) ⟨Nat.le_of_ble_eq_true rfl, Nat.le_of_ble_eq_true rfl⟩) (prS (As := [.ref q42, .int (nI 256)]) hK hP hD hpm) rfl rfl hl.1 rfl (lv_room (Nat.le_of_ble_eq_true rfl)) d_S_init_49 ⟨by decide, by decide⟩) hpm hP hD hS hA (fun w1 H locs hw hpd hS => ?_)
  obtain ⟨a49, g49, r49, rfl⟩ := hw
  obtain ⟨hP, hD⟩ := hpd ((x, .inr (ciSS, [.ref q5, .ref q20, .ref q28, .ref q36, .null, .null, .null])) :: (((((tbW k q5 a11 g11 r11 64 (fun _ => 0) (fun _ _ => -1)) ++ [(q20, .inl (k 0, 64, .inl (fun _ => 0)))]) ++ [(q28, .inl (k 0, 64, .inl (fun _ => 0)))]) ++ [(q36, .inl (k 0, 24, .inl (fun _ => 0)))]) ++ tbW k q42 a49 g49 r49 256 (fun _ => 0) (fun _ _ => -1))) (pm_cm _ ((x, Sum.inr (ciSS, [Value.ref q5, Value.ref q20, Value.ref q28, Value.ref q36, Value.null, Value.null, Value.null])) :: ((((tbW k q5 a11 g11 r11 64 (fun _ => 0) (fun _ _ => -1)) ++ [(q20, Sum.inl (k 0, 64, Sum.inl (fun _ => 0)))]) ++ [(q28, Sum.inl (k 0, 64, Sum.inl (fun _ => 0)))]) ++ [(q36, Sum.inl (k 0, 24, Sum.inl (fun _ => 0)))]) : va_W))
  refine W.widen (k := 329) (n := 8476) (by decide) (by decide) ?_
  refine va_putF (D := D) (ci := ciSS) (v := .ref q42) (ty := .object "StyleSheet$Table") (C := RS) (T := TS) (N := 7) hx hb hts inS tyS ttS nnS hown hK.1 hP hD hS 0 rfl rfl 4 (by decide) (hts _ wd_50) (fun _ h9 => h9) rfl hnm rfl (by decide +kernel) rfl rfl (Nat.le_of_ble_eq_true rfl) d_S_init_52 (fun H locs hP hD hS => ?_)
  have hP : va_P D vwCl ((x, .inr (ciSS, [.ref q5, .ref q20, .ref q28, .ref q36, .ref q42, .null, .null])) :: (((((tbW k q5 a11 g11 r11 64 (fun _ => 0) (fun _ _ => -1)) ++ [(q20, .inl (k 0, 64, .inl (fun _ => 0)))]) ++ [(q28, .inl (k 0, 64, .inl (fun _ => 0)))]) ++ [(q36, .inl (k 0, 24, .inl (fun _ => 0)))]) ++ tbW k q42 a49 g49 r49 256 (fun _ => 0) (fun _ _ => -1))) H := hP
  have hD : va_D A ((x, .inr (ciSS, [.ref q5, .ref q20, .ref q28, .ref q36, .ref q42, .null, .null])) :: (((((tbW k q5 a11 g11 r11 64 (fun _ => 0) (fun _ _ => -1)) ++ [(q20, .inl (k 0, 64, .inl (fun _ => 0)))]) ++ [(q28, .inl (k 0, 64, .inl (fun _ => 0)))]) ++ [(q36, .inl (k 0, 24, .inl (fun _ => 0)))]) ++ tbW k q42 a49 g49 r49 256 (fun _ => 0) (fun _ _ => -1))) := hD
  refine lv_aload_n hx hb d_S_init_55 rfl (lv_at hl 0 rfl) ?_
  refine va_get (D := D) (ci := ciSS) (v := .ref q42) (C := RS) (T := TS) (N := 7) hx hb hts inS hown hK.1 hP 0 rfl rfl 4 (by decide) (hts _ wd_50) (fun _ h9 => h9) rfl d_S_init_56 ?_
  refine lv_iconst (v := nI 0) hx hb d_S_init_59 (by decide) ?_
  have hpm : ((x, Sum.inr (ciSS, [Value.ref q5, Value.ref q20, Value.ref q28, Value.ref q36, Value.ref q42, Value.null, Value.null])) :: (((((tbW k q5 a11 g11 r11 64 (fun _ => 0) (fun _ _ => -1)) ++ [(q20, Sum.inl (k 0, 64, Sum.inl (fun _ => 0)))]) ++ [(q28, Sum.inl (k 0, 64, Sum.inl (fun _ => 0)))]) ++ [(q36, Sum.inl (k 0, 24, Sum.inl (fun _ => 0)))]) ++ tbW k q42 a49 g49 r49 256 (fun _ => 0) (fun _ _ => -1)) : va_W).Perm (tbF k q42 a49 g49 r49 256 (fun _ => 0) ++ (((x, Sum.inr (ciSS, [Value.ref q5, Value.ref q20, Value.ref q28, Value.ref q36, Value.ref q42, Value.null, Value.null])) :: ((((tbW k q5 a11 g11 r11 64 (fun _ => 0) (fun _ _ => -1)) ++ [(q20, Sum.inl (k 0, 64, Sum.inl (fun _ => 0)))]) ++ [(q28, Sum.inl (k 0, 64, Sum.inl (fun _ => 0)))]) ++ [(q36, Sum.inl (k 0, 24, Sum.inl (fun _ => 0)))]) : va_W) ++ gRows (k 0) r49 256 (fun _ _ => -1))) := pm_ca ((x, Sum.inr (ciSS, [Value.ref q5, Value.ref q20, Value.ref q28, Value.ref q36, Value.ref q42, Value.null, Value.null])) :: ((((tbW k q5 a11 g11 r11 64 (fun _ => 0) (fun _ _ => -1)) ++ [(q20, Sum.inl (k 0, 64, Sum.inl (fun _ => 0)))]) ++ [(q28, Sum.inl (k 0, 64, Sum.inl (fun _ => 0)))]) ++ [(q36, Sum.inl (k 0, 24, Sum.inl (fun _ => 0)))]) : va_W) (tbF k q42 a49 g49 r49 256 (fun _ => 0)) (gRows (k 0) r49 256 (fun _ _ => -1))
  refine cal_v (wc := tbF k q42 a49 g49 r49 256 (fun _ => 0)) (wr := ((x, .inr (ciSS, [.ref q5, .ref q20, .ref q28, .ref q36, .ref q42, .null, .null])) :: ((((tbW k q5 a11 g11 r11 64 (fun _ => 0) (fun _ _ => -1)) ++ [(q20, .inl (k 0, 64, .inl (fun _ => 0)))]) ++ [(q28, .inl (k 0, 64, .inl (fun _ => 0)))]) ++ [(q36, .inl (k 0, 24, .inl (fun _ => 0)))]) : va_W) ++ gRows (k 0) r49 256 (fun _ _ => -1)) (va_runVN (As := [.int (nI 0)]) (rest := []) ⟨hx, hb, hml, hown, hts⟩ (c_add l D k q42 a49 g49 r49 256 (by decide) (fun _ => 0) 0 (by decide) H.size) (cwN9 1 hts wd_45 (hK.2.1 (.methodLinkNest "StyleSheet" 31 ⟨"StyleSheet$Table", "add", "(I)V"⟩ "StyleSheet") (by decide)) wd_44 ws_0 wd_2 (by decide) ⟨Nat.le_of_ble_eq_true rfl, Nat.le_of_ble_eq_true rfl⟩) (prV (q0 := 0) (ci := ciTb) hK hP hD hpm rfl rfl) rfl rfl hl.1 rfl (lv_room (Nat.le_of_ble_eq_true rfl)) d_S_init_60 ⟨by decide, by decide⟩) hpm hP hD hS hA (fun w1 H locs hw hpd hS => ?_)
  subst hw
  obtain ⟨hP, hD⟩ := hpd ((x, .inr (ciSS, [.ref q5, .ref q20, .ref q28, .ref q36, .ref q42, .null, .null])) :: (((((tbW k q5 a11 g11 r11 64 (fun _ => 0) (fun _ _ => -1)) ++ [(q20, .inl (k 0, 64, .inl (fun _ => 0)))]) ++ [(q28, .inl (k 0, 64, .inl (fun _ => 0)))]) ++ [(q36, .inl (k 0, 24, .inl (fun _ => 0)))]) ++ tbW k q42 a49 g49 r49 256 (upd (fun _ => 0) 0 (nI 1)) (fun _ _ => -1))) (pm_ca (tbF k q42 a49 g49 r49 256 (upd (fun _ => 0) 0 (nI 1))) ((x, Sum.inr (ciSS, [Value.ref q5, Value.ref q20, Value.ref q28, Value.ref q36, Value.ref q42, Value.null, Value.null])) :: ((((tbW k q5 a11 g11 r11 64 (fun _ => 0) (fun _ _ => -1)) ++ [(q20, Sum.inl (k 0, 64, Sum.inl (fun _ => 0)))]) ++ [(q28, Sum.inl (k 0, 64, Sum.inl (fun _ => 0)))]) ++ [(q36, Sum.inl (k 0, 24, Sum.inl (fun _ => 0)))]) : va_W) (gRows (k 0) r49 256 (fun _ _ => -1)))
  refine lv_aload_n hx hb d_S_init_63 rfl (lv_at hl 0 rfl) ?_
  refine lv_sipush (v := nI 256) hx hb d_S_init_64 (by decide) ?_
  refine va_newa (atype := .boolean) (ty := .boolean) (N' := 256) (a0 := (256, .inl (fun _ => 0))) hx hb (hts _ wd_40) rfl hK.1 hP hD hS hA (fun cA => rfl) (by decide) (by decide) (by decide) (by decide) (by decide) d_S_init_67 (fun q67 cA H hKn hP hD hS => ?_)
  obtain rfl : cA = k 1 := ka_eq (hKn.2 4 _ rfl).2 (hK.1.2 1 _ rfl).2
  have hP : va_P D vwCl ((x, .inr (ciSS, [.ref q5, .ref q20, .ref q28, .ref q36, .ref q42, .null, .null])) :: ((((((tbW k q5 a11 g11 r11 64 (fun _ => 0) (fun _ _ => -1)) ++ [(q20, .inl (k 0, 64, .inl (fun _ => 0)))]) ++ [(q28, .inl (k 0, 64, .inl (fun _ => 0)))]) ++ [(q36, .inl (k 0, 24, .inl (fun _ => 0)))]) ++ tbW k q42 a49 g49 r49 256 (upd (fun _ => 0) 0 (nI 1)) (fun _ _ => -1)) ++ [(q67, .inl (k 1, 256, .inl (fun _ => 0)))])) H := hP
  have hD : va_D A ((x, .inr (ciSS, [.ref q5, .ref q20, .ref q28, .ref q36, .ref q42, .null, .null])) :: ((((((tbW k q5 a11 g11 r11 64 (fun _ => 0) (fun _ _ => -1)) ++ [(q20, .inl (k 0, 64, .inl (fun _ => 0)))]) ++ [(q28, .inl (k 0, 64, .inl (fun _ => 0)))]) ++ [(q36, .inl (k 0, 24, .inl (fun _ => 0)))]) ++ tbW k q42 a49 g49 r49 256 (upd (fun _ => 0) 0 (nI 1)) (fun _ _ => -1)) ++ [(q67, .inl (k 1, 256, .inl (fun _ => 0)))])) := hD
  refine W.widen (k := 330) (n := 8732) (by decide) (by decide) ?_
  refine va_putF (D := D) (ci := ciSS) (v := .ref q67) (ty := .array .boolean) (C := RS) (T := TS) (N := 7) hx hb hts inS tyS ttS nnS hown hK.1 hP hD hS 0 rfl rfl 5 (by decide) (hts _ wd_51) (fun _ h9 => h9) rfl hnm rfl (by decide +kernel) rfl rfl (Nat.le_of_ble_eq_true rfl) d_S_init_69 (fun H locs hP hD hS => ?_)
  have hP : va_P D vwCl ((x, .inr (ciSS, [.ref q5, .ref q20, .ref q28, .ref q36, .ref q42, .ref q67, .null])) :: ((((((tbW k q5 a11 g11 r11 64 (fun _ => 0) (fun _ _ => -1)) ++ [(q20, .inl (k 0, 64, .inl (fun _ => 0)))]) ++ [(q28, .inl (k 0, 64, .inl (fun _ => 0)))]) ++ [(q36, .inl (k 0, 24, .inl (fun _ => 0)))]) ++ tbW k q42 a49 g49 r49 256 (upd (fun _ => 0) 0 (nI 1)) (fun _ _ => -1)) ++ [(q67, .inl (k 1, 256, .inl (fun _ => 0)))])) H := hP
  have hD : va_D A ((x, .inr (ciSS, [.ref q5, .ref q20, .ref q28, .ref q36, .ref q42, .ref q67, .null])) :: ((((((tbW k q5 a11 g11 r11 64 (fun _ => 0) (fun _ _ => -1)) ++ [(q20, .inl (k 0, 64, .inl (fun _ => 0)))]) ++ [(q28, .inl (k 0, 64, .inl (fun _ => 0)))]) ++ [(q36, .inl (k 0, 24, .inl (fun _ => 0)))]) ++ tbW k q42 a49 g49 r49 256 (upd (fun _ => 0) 0 (nI 1)) (fun _ _ => -1)) ++ [(q67, .inl (k 1, 256, .inl (fun _ => 0)))])) := hD
  refine lv_aload_n hx hb d_S_init_72 rfl (lv_at hl 0 rfl) ?_
  refine lv_bipush (v := nI 24) hx hb d_S_init_73 (by decide) ?_
  refine va_newa (atype := .int) (ty := .int) (N' := 24) (a0 := (24, .inl (fun _ => 0))) hx hb (hts _ wd_41) rfl hK.1 hP hD hS hA (fun cA => rfl) (by decide) (by decide) (by decide) (by decide) (by decide) d_S_init_75 (fun q75 cA H hKn hP hD hS => ?_)
  obtain rfl : cA = k 0 := ka_eq (hKn.2 4 _ rfl).2 (hK.1.2 0 _ rfl).2
  have hP : va_P D vwCl ((x, .inr (ciSS, [.ref q5, .ref q20, .ref q28, .ref q36, .ref q42, .ref q67, .null])) :: (((((((tbW k q5 a11 g11 r11 64 (fun _ => 0) (fun _ _ => -1)) ++ [(q20, .inl (k 0, 64, .inl (fun _ => 0)))]) ++ [(q28, .inl (k 0, 64, .inl (fun _ => 0)))]) ++ [(q36, .inl (k 0, 24, .inl (fun _ => 0)))]) ++ tbW k q42 a49 g49 r49 256 (upd (fun _ => 0) 0 (nI 1)) (fun _ _ => -1)) ++ [(q67, .inl (k 1, 256, .inl (fun _ => 0)))]) ++ [(q75, .inl (k 0, 24, .inl (fun _ => 0)))])) H := hP
  have hD : va_D A ((x, .inr (ciSS, [.ref q5, .ref q20, .ref q28, .ref q36, .ref q42, .ref q67, .null])) :: (((((((tbW k q5 a11 g11 r11 64 (fun _ => 0) (fun _ _ => -1)) ++ [(q20, .inl (k 0, 64, .inl (fun _ => 0)))]) ++ [(q28, .inl (k 0, 64, .inl (fun _ => 0)))]) ++ [(q36, .inl (k 0, 24, .inl (fun _ => 0)))]) ++ tbW k q42 a49 g49 r49 256 (upd (fun _ => 0) 0 (nI 1)) (fun _ _ => -1)) ++ [(q67, .inl (k 1, 256, .inl (fun _ => 0)))]) ++ [(q75, .inl (k 0, 24, .inl (fun _ => 0)))])) := hD
  refine W.widen (k := 331) (n := 8756) (by decide) (by decide) ?_
  refine va_putF (D := D) (ci := ciSS) (v := .ref q75) (ty := .array .int) (C := RS) (T := TS) (N := 7) hx hb hts inS tyS ttS nnS hown hK.1 hP hD hS 0 rfl rfl 6 (by decide) (hts _ wd_52) (fun _ h9 => h9) rfl hnm rfl (by decide +kernel) rfl rfl (Nat.le_of_ble_eq_true rfl) d_S_init_77 (fun H locs hP hD hS => ?_)
  have hP : va_P D vwCl ((x, .inr (ciSS, [.ref q5, .ref q20, .ref q28, .ref q36, .ref q42, .ref q67, .ref q75])) :: (((((((tbW k q5 a11 g11 r11 64 (fun _ => 0) (fun _ _ => -1)) ++ [(q20, .inl (k 0, 64, .inl (fun _ => 0)))]) ++ [(q28, .inl (k 0, 64, .inl (fun _ => 0)))]) ++ [(q36, .inl (k 0, 24, .inl (fun _ => 0)))]) ++ tbW k q42 a49 g49 r49 256 (upd (fun _ => 0) 0 (nI 1)) (fun _ _ => -1)) ++ [(q67, .inl (k 1, 256, .inl (fun _ => 0)))]) ++ [(q75, .inl (k 0, 24, .inl (fun _ => 0)))])) H := hP
  have hD : va_D A ((x, .inr (ciSS, [.ref q5, .ref q20, .ref q28, .ref q36, .ref q42, .ref q67, .ref q75])) :: (((((((tbW k q5 a11 g11 r11 64 (fun _ => 0) (fun _ _ => -1)) ++ [(q20, .inl (k 0, 64, .inl (fun _ => 0)))]) ++ [(q28, .inl (k 0, 64, .inl (fun _ => 0)))]) ++ [(q36, .inl (k 0, 24, .inl (fun _ => 0)))]) ++ tbW k q42 a49 g49 r49 256 (upd (fun _ => 0) 0 (nI 1)) (fun _ _ => -1)) ++ [(q67, .inl (k 1, 256, .inl (fun _ => 0)))]) ++ [(q75, .inl (k 0, 24, .inl (fun _ => 0)))])) := hD
  have hpf := in_perm (x, .inr (ciSS, [.ref q5, .ref q20, .ref q28, .ref q36, .ref q42, .ref q67, .ref q75])) (q5, .inr (ciTb, [.ref a11, .ref g11])) (a11, .inl (k 1, 64, .inl (fun _ => 0))) (g11, .inl (k 2, 64, .inr (.inr (.inr (.inr (gOut r11 64)))))) (q20, .inl (k 0, 64, .inl (fun _ => 0))) (q28, .inl (k 0, 64, .inl (fun _ => 0))) (q36, .inl (k 0, 24, .inl (fun _ => 0))) (q42, .inr (ciTb, [.ref a49, .ref g49])) (a49, .inl (k 1, 256, .inl (upd (fun _ => 0) 0 (nI 1)))) (g49, .inl (k 2, 256, .inr (.inr (.inr (.inr (gOut r49 256)))))) (q67, .inl (k 1, 256, .inl (fun _ => 0))) (q75, .inl (k 0, 24, .inl (fun _ => 0))) (gRows (k 0) r11 64 (fun _ _ => -1)) (gRows (k 0) r49 256 (fun _ _ => -1))
  have hP : va_P D vwCl (cxW k (fun i => match i with | 0 => x | 1 => q5 | 2 => q20 | 3 => q28 | 4 => q36 | 5 => q42 | 6 => q67 | 7 => q75 | 8 => a11 | 9 => g11 | 10 => a49 | _ => g49) r11 r49 (fun _ => 0) (fun _ => 0) (fun _ => 0) (fun _ => 0) (upd (fun _ => 0) 0 (nI 1)) (fun _ => 0) (fun _ => 0) (fun _ _ => -1) (fun _ _ => -1)) H := bs_pmP hpf hP
  have hD : va_D A (cxW k (fun i => match i with | 0 => x | 1 => q5 | 2 => q20 | 3 => q28 | 4 => q36 | 5 => q42 | 6 => q67 | 7 => q75 | 8 => a11 | 9 => g11 | 10 => a49 | _ => g49) r11 r49 (fun _ => 0) (fun _ => 0) (fun _ => 0) (fun _ => 0) (upd (fun _ => 0) 0 (nI 1)) (fun _ => 0) (fun _ => 0) (fun _ _ => -1) (fun _ _ => -1)) := bs_pmD hpf hD
  exact hret _ _ _ _ _ _ _ d_S_init_80 ⟨(fun i => match i with | 0 => x | 1 => q5 | 2 => q20 | 3 => q28 | 4 => q36 | 5 => q42 | 6 => q67 | 7 => q75 | 8 => a11 | 9 => g11 | 10 => a49 | _ => g49), r11, r49, rfl, rfl⟩ hP hD hS (by decide) (by decide)
end
section
/-! THE REFERENCE BESIDE THE CLASS: what holds between their states -/
def mdW (k : Nat → ClassId) (b : Nat → Nat) (cd : Int32) (ki ba ow uu te ma va wa : Nat → Int32) : va_W :=
  [(b 0, .inr (ciMo, [.int cd, .ref (b 1), .ref (b 2), .ref (b 3), .ref (b 4), .ref (b 5), .ref (b 6), .ref (b 7), .ref (b 8)])), (b 1, .inl (k 0, 64, .inl ki)), (b 2, .inl (k 0, 64, .inl ba)), (b 3, .inl (k 0, 1536, .inl ow)), (b 4, .inl (k 0, 24, .inl uu)), (b 5, .inl (k 1, 256, .inl te)), (b 6, .inl (k 1, 256, .inl ma)), (b 7, .inl (k 0, 6144, .inl va)), (b 8, .inl (k 0, 24, .inl wa))]
/-- the chain from x ends after at most n styles that are there -/
def eN (th bs : Nat → Int32) : Nat → Int32 → Prop
  | 0, x => x = -1
  | n + 1, x => x = -1 ∨ ∃ j : Nat, j < 64 ∧ x = nI j ∧ th j ≠ 0 ∧ eN th bs n (bs j)
/-- the styles of the class: values, bases, no chain comes back -/
def RS1 (th kd bs : Nat → Int32) (M : Nat → Nat → Int32) : Prop :=
  (∀ i p, i < 64 → p < 24 → M i p = -1 ∨ ¬ M i p < 0) ∧ (∀ i p, i < 64 → p < 24 → th i = 0 → M i p = -1) ∧ (∀ i, i < 64 → th i ≠ 0 → ¬ kd i < 0) ∧
  (∀ i, i < 64 → th i ≠ 0 → bs i = -1 ∨ ∃ j : Nat, j < 64 ∧ bs i = nI j ∧ th j ≠ 0 ∧ kd j = kd i) ∧
  ∃ rk : Nat → Nat, ∀ i j, i < 64 → j < 64 → th i ≠ 0 → bs i = nI j → rk j < rk i
/-- the sets of the class -/
def RS2 (us sth mk : Nat → Int32) (sM : Nat → Nat → Int32) : Prop :=
  (∀ p, p < 24 → ¬ us p < 0) ∧ (∀ j, j < 256 → sth j = nI 0 ∨ sth j = nI 1) ∧ (∀ j p, j < 256 → p < 24 → sM j p = -1 ∨ ¬ sM j p < 0) ∧ (∀ j p, j < 256 → p < 24 → sth j = 0 → sM j p = -1) ∧ (∀ j, j < 256 → sth j = 0 → mk j = 0)
/-- the reference's styles are the class's -/
def RR1 (th kd bs : Nat → Int32) (M : Nat → Nat → Int32) (ki ba ow : Nat → Int32) : Prop :=
  (∀ i, i < 64 → (th i ≠ 0 ↔ ¬ ki i < 0)) ∧ (∀ i, i < 64 → th i ≠ 0 → ki i = kd i) ∧ (∀ i, i < 64 → th i ≠ 0 → ba i = bs i) ∧ (∀ i p, i < 64 → p < 24 → th i ≠ 0 → ow (24 * i + p) = M i p)
def RR2 (us sth mk : Nat → Int32) (sM : Nat → Nat → Int32) (uu te ma va : Nat → Int32) : Prop :=
  (∀ p, p < 24 → uu p = us p) ∧ (∀ j, j < 256 → te j = sth j) ∧ (∀ j, j < 256 → ma j = mk j) ∧ (∀ j p, j < 256 → p < 24 → sth j ≠ 0 → va (24 * j + p) = sM j p)
def RI (th kd bs us sth mk : Nat → Int32) (M sM : Nat → Nat → Int32) (ki ba ow uu te ma va : Nat → Int32) : Prop :=
  (RS1 th kd bs M ∧ RS2 us sth mk sM) ∧ RR1 th kd bs M ki ba ow ∧ RR2 us sth mk sM uu te ma va
theorem hs_m1 {n : Nat} {th : Nat → Int32} : hsB n th (-1) = false := hsB_lt (by decide)
theorem gv_m1 {th bs : Nat → Int32} {M : Nat → Nat → Int32} {p n : Nat} : gvF th bs M p n (-1) = -1 := gvF_off hs_m1
theorem eN_m1 {th bs : Nat → Int32} : ∀ n, eN th bs n (-1)
  | 0 => rfl
  | _ + 1 => Or.inl rfl
theorem php : ∀ (m n : Nat) (f : Nat → Nat), (∀ i, i ≤ n → f i < m) → (∀ i j, i < j → j ≤ n → f i ≠ f j) → n < m := by
  intro m
  induction m with
  | zero => intro n f h1 _; exact absurd (h1 0 (Nat.zero_le n)) (Nat.not_lt_zero _)
  | succ m ih =>
    intro n f h1 h2
    by_cases hk : ∃ k, k ≤ n ∧ f k = m
    · obtain ⟨k, hkn, hkm⟩ := hk
      cases n with
      | zero => omega
      | succ n =>
        have := ih n (fun i => if i < k then f i else f (i + 1)) (fun i hi => by
          show (if i < k then f i else f (i + 1)) < m
          split
          · have a := h1 i (by omega); have b := h2 i k (by omega) hkn; omega
          · have a := h1 (i + 1) (by omega); have b := h2 k (i + 1) (by omega) (by omega); omega) (fun i j hij hj => by
          show (if i < k then f i else f (i + 1)) ≠ (if j < k then f j else f (j + 1))
          split <;> split
          · exact h2 i j hij (by omega)
          · exact h2 i (j + 1) (by omega) (by omega)
          · omega
          · exact h2 (i + 1) (j + 1) (by omega) (by omega))
        omega
    · have := ih n f (fun i hi => by
        have a := h1 i hi
        by_cases e : f i = m
        · exact absurd ⟨i, hi, e⟩ hk
        · omega) h2
      omega
/-- a chain that hasn't ended after n has n + 1 styles, each lower than the one before -/
theorem eN_not {th kd bs : Nat → Int32} {rk : Nat → Nat} (hb : ∀ i, i < 64 → th i ≠ 0 → bs i = -1 ∨ ∃ j : Nat, j < 64 ∧ bs i = nI j ∧ th j ≠ 0 ∧ kd j = kd i) (hr : ∀ i j, i < 64 → j < 64 → th i ≠ 0 → bs i = nI j → rk j < rk i) :
    ∀ (n i : Nat), i < 64 → th i ≠ 0 → ¬ eN th bs n (nI i) → ∃ f : Nat → Nat, f 0 = i ∧ (∀ m, m ≤ n → f m < 64) ∧ ∀ m, m < n → rk (f (m + 1)) < rk (f m) := by
  intro n
  induction n with
  | zero => intro i hi ht _; exact ⟨fun _ => i, rfl, fun _ _ => hi, fun m hm => absurd hm (Nat.not_lt_zero m)⟩
  | succ n ih =>
    intro i hi ht h
    rcases hb i hi ht with e | ⟨j, hj, e, hjt, -⟩
    · exact absurd (Or.inr ⟨i, hi, rfl, ht, by rw [e]; exact eN_m1 n⟩) h
    · have h3 : ¬ eN th bs n (nI j) := fun q => h (Or.inr ⟨i, hi, rfl, ht, by rw [e]; exact q⟩)
      obtain ⟨f, f0, f1, f2⟩ := ih j hj hjt h3
      refine ⟨fun m => match m with | 0 => i | m + 1 => f m, rfl, ?_, ?_⟩
      · intro m hm
        cases m with
        | zero => exact hi
        | succ m => exact f1 m (by omega)
      · intro m hm
        cases m with
        | zero => show rk (f 0) < rk i; rw [f0]; exact hr i j hi hj ht e
        | succ m => exact f2 m (by omega)
theorem rk_lt {rk f : Nat → Nat} {n : Nat} (h : ∀ m, m < n → rk (f (m + 1)) < rk (f m)) : ∀ d i, i + d + 1 ≤ n → rk (f (i + d + 1)) < rk (f i) := by
  intro d
  induction d with
  | zero => intro i hi; exact h i (by omega)
  | succ d ih =>
    intro i hi
    have a := ih i (by omega)
    have b := h (i + d + 1) (by omega)
    have e : i + (d + 1) + 1 = i + d + 1 + 1 := by omega
    rw [e]
    omega
theorem eN_64 {th kd bs : Nat → Int32} {M : Nat → Nat → Int32} (h : RS1 th kd bs M) {i : Nat} (hi : i < 64) (ht : th i ≠ 0) : eN th bs 64 (nI i) := by
  obtain ⟨-, -, -, hb, rk, hr⟩ := h
  by_cases q : eN th bs 64 (nI i)
  · exact q
  · obtain ⟨f, -, f1, f2⟩ := eN_not hb hr 64 i hi ht q
    have := php 64 64 f f1 (fun a b hab hb2 e => by
      have h3 := rk_lt f2 (b - a - 1) a (by omega)
      rw [show a + (b - a - 1) + 1 = b by omega, e] at h3
      exact absurd h3 (Nat.lt_irrefl _))
    omega
theorem ki_of {n j : Nat} {x : Int32} (h : ¬ x < 0) (hx : x = -1 ∨ ∃ j : Nat, j < n ∧ x = nI j) : ∃ j : Nat, j < n ∧ x = nI j := by
  rcases hx with rfl | hx
  · exact absurd (by decide) h
  · exact hx
theorem m1_lt : (-1 : Int32) < 0 := by decide
theorem inB_ex {x : Int32} {n : Nat} (hn : n < 2 ^ 31) : (decide (nI 0 ≤ x) && decide (x ≤ nI n)) = true → ∃ j : Nat, j < n + 1 ∧ x = nI j := by
  intro h
  simp only [Bool.and_eq_true, decide_eq_true_eq] at h
  have h0 : ¬ x < 0 := by rw [Int32.not_lt]; exact h.1
  obtain ⟨j, hj, rfl⟩ := nI_of h0
  rw [nI_leI hj hn] at h
  exact ⟨j, by omega, rfl⟩
def inB (x lo hi : Int32) : Bool := decide (lo ≤ x) && decide (x ≤ hi)
theorem inB_hs {x : Int32} {n : Nat} {th : Nat → Int32} (hn : n + 1 < 2 ^ 31) (h : inB x (nI 0) (nI n) = false) : hsB (n + 1) th x = false := by
  cases e : hsB (n + 1) th x with
  | false => rfl
  | true =>
    obtain ⟨j, hj, rfl, -⟩ := hsB_t hn e
    have h1 : nI 0 ≤ nI j := nI_le (Nat.zero_le j) (by omega)
    have h2 : nI j ≤ nI n := nI_le (by omega) (by omega)
    simp [inB, h1, h2] at h
theorem inB_pr (x : Int32) : inB x (nI 0) (nI 23) = prB x := by
  cases e : prB x with
  | true =>
    obtain ⟨p, hp, rfl⟩ := prB_t e
    simp [inB, nI_le (show 0 ≤ p from Nat.zero_le p) (by omega), nI_le (show p ≤ 23 by omega) (by decide)]
  | false =>
    cases e2 : inB x (nI 0) (nI 23) with
    | false => rfl
    | true =>
      obtain ⟨j, hj, rfl⟩ := inB_ex (by decide) e2
      rw [prB_ok (nI_pos (by omega)) (nI_lt (by omega) (by decide))] at e
      cases e
end
section
/-! the reference's own words -/
theorem inB_kd (x : Int32) : inB x (nI 0) (nI 1) = kdB x := by
  cases e : kdB x with
  | true =>
    simp only [kdB, Bool.or_eq_true, decide_eq_true_eq] at e
    rcases e with rfl | rfl <;> decide
  | false =>
    cases e2 : inB x (nI 0) (nI 1) with
    | false => rfl
    | true =>
      obtain ⟨j, hj, rfl⟩ := inB_ex (by decide) e2
      rcases (show j = 0 ∨ j = 1 by omega) with rfl | rfl
      · exact absurd e (by decide)
      · exact absurd e (by decide)
theorem inB_wh (x : Int32) : inB x (nI 0) (nI 4) = whB x := by
  rcases sw5 x with rfl | rfl | rfl | rfl | rfl | ⟨h, hw⟩
  · decide
  · decide
  · decide
  · decide
  · decide
  · rw [hw]
    cases e2 : inB x (nI 0) (nI 4) with
    | false => rfl
    | true =>
      obtain ⟨j, hj, rfl⟩ := inB_ex (by decide) e2
      rw [nI_toInt (by omega)] at h
      omega
theorem eN_go {th bs : Nat → Int32} {n : Nat} {y : Int32} (he : eN th bs n y) (h : ¬ y < 0) : ∃ n' : Nat, n = n' + 1 ∧ ∃ j : Nat, j < 64 ∧ y = nI j ∧ th j ≠ 0 ∧ eN th bs n' (bs j) := by
  cases n with
  | zero => exact absurd (by rw [show y = -1 from he]; decide) h
  | succ n =>
    rcases he with rfl | ⟨j, hj, rfl, hjt, he⟩
    · exact absurd (by decide) h
    · exact ⟨n, rfl, j, hj, rfl, hjt, he⟩
theorem eN_m {th bs : Nat → Int32} {n : Nat} {y : Int32} (he : eN th bs n y) (h : y < 0) : y = -1 := by
  cases n with
  | zero => exact he
  | succ n =>
    rcases he with rfl | ⟨j, hj, rfl, hjt, he⟩
    · rfl
    · exact absurd h (nI_pos (by omega))
theorem hsB_on {j n : Nat} {th : Nat → Int32} (hj : j < n) (hn : n < 2 ^ 31) (h : th j ≠ 0) : hsB n th (nI j) = true := by rw [hsB_nI hj hn]; exact decide_eq_true h
/-- q places of row j of a flat table become g's -/
def rwF (f : Nat → Int32) (j : Nat) (g : Nat → Int32) (q : Nat) : Nat → Int32 := fun a => if 24 * j ≤ a ∧ a < 24 * j + q then g (a - 24 * j) else f a
theorem rwF_0 (f : Nat → Int32) (j : Nat) (g : Nat → Int32) : rwF f j g 0 = f := by
  funext a
  simp only [rwF]
  rw [if_neg (by omega)]
theorem rwF_s {f g : Nat → Int32} {j q : Nat} {x : Int32} (h : x = g q) : upd (rwF f j g q) (24 * j + q) x = rwF f j g (q + 1) := by
  subst h
  funext a
  simp only [upd, rwF]
  by_cases e : a = 24 * j + q
  · rw [if_pos e, if_pos (by omega), show a - 24 * j = q by omega]
  · rw [if_neg e]
    by_cases h2 : 24 * j ≤ a ∧ a < 24 * j + q
    · rw [if_pos h2, if_pos (by omega)]
    · rw [if_neg h2, if_neg (by omega)]
theorem eqF_congr {f f' g g' : Nat → Int32} : ∀ n, (∀ p, p < n → f p = f' p) → (∀ p, p < n → g p = g' p) → eqF f g n = eqF f' g' n := by
  intro n
  induction n with
  | zero => intros; rfl
  | succ n ih => intro h1 h2; simp only [eqF]; rw [ih (fun p hp => h1 p (by omega)) (fun p hp => h2 p (by omega)), h1 n (by omega), h2 n (by omega)]
theorem cnF_congr {f g : Nat → Bool} : ∀ n, (∀ p, p < n → f p = g p) → cnF f n = cnF g n := by
  intro n
  induction n with
  | zero => intros; rfl
  | succ n ih => intro h; simp only [cnF]; rw [ih (fun p hp => h p (by omega)), h n (by omega)]
theorem fdF_congr {f g : Nat → Bool} : ∀ n i, (∀ p, i ≤ p → p < i + n → f p = g p) → fdF f n i = fdF g n i := by
  intro n
  induction n with
  | zero => intros; rfl
  | succ n ih => intro i h; simp only [fdF]; rw [ih (i + 1) (fun p h1 h2 => h p (by omega) (by omega)), h i (by omega) (by omega)]

set_option maxRecDepth 100000 in
set_option maxHeartbeats 4000000 in
theorem c_Mthrown (l : Launch) (D : va_G) (k : Nat → ClassId) (b : Nat → Nat) (cd : Int32) (ki ba ow uu te ma va wa : Nat → Int32) (sz : Nat) : bMI l y_M_thrown (wY y_M_thrown b_M_thrown 1 (some .int)) (rm9 1 0 0) D (tsK k) (mdW k b cd ki ba ow uu te ma va wa) sz [.ref (b 0)] (fun v w => v = cd ∧ w = mdW k b cd ki ba ow uu te ma va wa) 0 0 := by
  refine ent_i (cc := b_M_thrown) (maxL := 1) (ty := .int) (by decide) (Nat.le_of_ble_eq_true rfl) (fun _ _ _ => rfl) ?_
  intro p e s m args below meth c A Q ls hx hb hml hown hts hsz hA hP hD hS hK hl hret
  refine lv_aload_n hx hb d_M_thrown_0 rfl (lv_at hl 0 rfl) ?_
  refine va_get (D := D) (ci := ciMo) (v := .int cd) (C := RM) (T := TM) (N := 9) hx hb hts inM hown hK.1 hP 0 rfl rfl 0 (by decide) (hts _ wd_399) (fun _ h9 => h9) rfl d_M_thrown_1 ?_
  exact hret _ _ _ _ _ _ _ _ d_M_thrown_4 ⟨rfl, rfl⟩ hP hD hS (by decide) (by decide)

set_option maxRecDepth 100000 in
set_option maxHeartbeats 4000000 in
theorem c_Min (l : Launch) (D : va_G) (k : Nat → ClassId) (x lo hi : Int32) (sz : Nat) : bMI l y_M_in (wY y_M_in b_M_in 3 (some .boolean)) (rm9 1 0 0) D (tsK k) ([]) sz [.int x, .int lo, .int hi] (fun v w => v = (if inB x lo hi = true then nI 1 else nI 0) ∧ w = []) 0 0 := by
  refine ent_i (cc := b_M_in) (maxL := 3) (ty := .boolean) (by decide) (Nat.le_of_ble_eq_true rfl) (fun v w h => nr_if h.1) ?_
  intro p e s m args below meth c A Q ls hx hb hml hown hts hsz hA hP hD hS hK hl hret
  refine lv_iload_n hx hb d_M_in_0 rfl (lv_at hl 0 rfl) ?_
  refine lv_iload_n hx hb d_M_in_1 rfl (lv_at hl 1 rfl) ?_
  refine lv_icmp_lt (tgt := 14) hx hb d_M_in_2 (by decide) (fun c2 => ?_) (fun c2 => ?_)
  · skip
    refine lv_iconst (v := nI 0) hx hb d_M_in_14 (by decide) ?_
    exact hret _ _ _ _ _ _ _ _ d_M_in_15 ⟨if_f (by simp [inB]; intro h; exact absurd c2 (Int32.not_lt.mpr h)), rfl⟩ hP hD hS (by decide) (by decide)
  · skip
    refine lv_iload_n hx hb d_M_in_5 rfl (lv_at hl 0 rfl) ?_
    refine lv_iload_n hx hb d_M_in_6 rfl (lv_at hl 2 rfl) ?_
    refine lv_icmp_gt (tgt := 14) hx hb d_M_in_7 (by decide) (fun c7 => ?_) (fun c7 => ?_)
    · skip
      refine lv_iconst (v := nI 0) hx hb d_M_in_14 (by decide) ?_
      exact hret _ _ _ _ _ _ _ _ d_M_in_15 ⟨if_f (by simp [inB]; intro _; exact c7), rfl⟩ hP hD hS (by decide) (by decide)
    · skip
      refine lv_iconst (v := nI 1) hx hb d_M_in_10 (by decide) ?_
      refine lv_goto (tgt := 15) hx hb d_M_in_11 (by decide) ?_
      exact hret _ _ _ _ _ _ _ _ d_M_in_15 ⟨if_t (by simp only [inB, Bool.and_eq_true, decide_eq_true_eq]; exact ⟨Int32.not_lt.mp c2, Int32.not_lt.mp c7⟩), rfl⟩ hP hD hS (by decide) (by decide)

set_option maxRecDepth 100000 in
set_option maxHeartbeats 4000000 in
theorem c_MisStyle (l : Launch) (D : va_G) (k : Nat → ClassId) (b : Nat → Nat) (cd : Int32) (ki ba ow uu te ma va wa : Nat → Int32) (th : Nat → Int32) (h1 : ∀ i, i < 64 → (th i ≠ 0 ↔ ¬ ki i < 0)) (x : Int32) (sz : Nat) : bMI l y_M_isStyle (wY y_M_isStyle b_M_isStyle 2 (some .boolean)) (rm9 2 0 0) D (tsK k) (mdW k b cd ki ba ow uu te ma va wa) sz [.ref (b 0), .int x] (fun v w => v = (if hsB 64 th x = true then nI 1 else nI 0) ∧ w = mdW k b cd ki ba ow uu te ma va wa) 0 0 := by
  refine ent_i (cc := b_M_isStyle) (maxL := 2) (ty := .boolean) (by decide) (Nat.le_of_ble_eq_true rfl) (fun v w h => nr_if h.1) ?_
  intro p e s m args below meth c A Q ls hx hb hml hown hts hsz hA hP hD hS hK hl hret
  refine lv_iload_n hx hb d_M_isStyle_0 rfl (lv_at hl 1 rfl) ?_
  refine lv_iconst (v := nI 0) hx hb d_M_isStyle_1 (by decide) ?_
  refine lv_bipush (v := nI 63) hx hb d_M_isStyle_2 (by decide) ?_
  refine cal_i (wc := []) (wr := mdW k b cd ki ba ow uu te ma va wa) (va_runS (As := [.int x, .int (nI 0), .int (nI 63)]) (rest := []) ⟨hx, hb, hml, hown, hts⟩ (c_Min l D k x (nI 0) (nI 63) s.heap.size) (cwS9 3 hts wd_437 wd_435 wd_436 wd_4 (by decide) ⟨Nat.le_of_ble_eq_true rfl, Nat.le_of_ble_eq_true rfl⟩) (prS hK hP hD (List.Perm.refl _)) rfl rfl hl.1 rfl (lv_room (Nat.le_of_ble_eq_true rfl)) d_M_isStyle_4 ⟨by decide, by decide⟩) (List.Perm.refl _) hP hD hS hA (fun r w1 H locs hw hpd hS => ?_)
  obtain ⟨rfl, rfl⟩ := hw
  obtain ⟨hP, hD⟩ := hpd (mdW k b cd ki ba ow uu te ma va wa) (List.Perm.refl _)
  refine lv_if_eq (tgt := 23) hx hb d_M_isStyle_7 (by decide) (fun c7 => ?_) (fun c7 => ?_)
  · skip
    have c7 := b_of0 c7
    refine lv_iconst (v := nI 0) hx hb d_M_isStyle_23 (by decide) ?_
    exact hret _ _ _ _ _ _ _ _ d_M_isStyle_24 ⟨if_f (inB_hs (n := 63) (by decide) c7), rfl⟩ hP hD hS (by decide) (by decide)
  · skip
    have c7 := b_of1 c7
    obtain ⟨j, hj, rfl⟩ := inB_ex (n := 63) (by decide) c7
    refine lv_aload_n hx hb d_M_isStyle_10 rfl (lv_at hl 0 rfl) ?_
    refine va_get (D := D) (ci := ciMo) (v := .ref (b 1)) (C := RM) (T := TM) (N := 9) hx hb hts inM hown hK.1 hP 0 rfl rfl 1 (by decide) (hts _ wd_400) (fun _ h9 => h9) rfl d_M_isStyle_11 ?_
    refine lv_iload_n hx hb d_M_isStyle_14 rfl (lv_at hl 1 rfl) ?_
    refine rw_iald hx hb hK.1 hP 1 0 rfl rfl (j := j) (by omega) (by decide) d_M_isStyle_15 ?_
    refine lv_if_lt (tgt := 23) hx hb d_M_isStyle_16 (by decide) (fun c16 => ?_) (fun c16 => ?_)
    · skip
      refine lv_iconst (v := nI 0) hx hb d_M_isStyle_23 (by decide) ?_
      exact hret _ _ _ _ _ _ _ _ d_M_isStyle_24 ⟨if_f (by rw [hsB_nI hj (by decide)]; exact decide_eq_false (fun q => (h1 j hj).mp q c16)), rfl⟩ hP hD hS (by decide) (by decide)
    · skip
      refine lv_iconst (v := nI 1) hx hb d_M_isStyle_19 (by decide) ?_
      refine lv_goto (tgt := 24) hx hb d_M_isStyle_20 (by decide) ?_
      exact hret _ _ _ _ _ _ _ _ d_M_isStyle_24 ⟨if_t (by rw [hsB_nI hj (by decide)]; exact decide_eq_true ((h1 j hj).mpr c16)), rfl⟩ hP hD hS (by decide) (by decide)

set_option maxRecDepth 100000 in
set_option maxHeartbeats 4000000 in
theorem c_MisOf (l : Launch) (D : va_G) (k : Nat → ClassId) (b : Nat → Nat) (cd : Int32) (ki ba ow uu te ma va wa : Nat → Int32) (th kd : Nat → Int32) (h1 : ∀ i, i < 64 → (th i ≠ 0 ↔ ¬ ki i < 0)) (h2 : ∀ i, i < 64 → th i ≠ 0 → ki i = kd i) (x y : Int32) (sz : Nat) : bMI l y_M_isOf (wY y_M_isOf b_M_isOf 3 (some .boolean)) (rm9 3 0 0) D (tsK k) (mdW k b cd ki ba ow uu te ma va wa) sz [.ref (b 0), .int x, .int y] (fun v w => v = (if okB th kd x y = true then nI 1 else nI 0) ∧ w = mdW k b cd ki ba ow uu te ma va wa) 0 0 := by
  refine ent_i (cc := b_M_isOf) (maxL := 3) (ty := .boolean) (by decide) (Nat.le_of_ble_eq_true rfl) (fun v w h => nr_if h.1) ?_
  intro p e s m args below meth c A Q ls hx hb hml hown hts hsz hA hP hD hS hK hl hret
  refine lv_iload_n hx hb d_M_isOf_0 rfl (lv_at hl 1 rfl) ?_
  refine lv_iconst (v := -1) hx hb d_M_isOf_1 (by decide) ?_
  refine lv_icmp_eq (tgt := 23) hx hb d_M_isOf_2 (by decide) (fun c2 => ?_) (fun c2 => ?_)
  · skip
    refine lv_iconst (v := nI 1) hx hb d_M_isOf_23 (by decide) ?_
    refine lv_goto (tgt := 28) hx hb d_M_isOf_24 (by decide) ?_
    exact hret _ _ _ _ _ _ _ _ d_M_isOf_28 ⟨if_t (by simp [okB, c2]), rfl⟩ hP hD hS (by decide) (by decide)
  · skip
    refine lv_aload_n hx hb d_M_isOf_5 rfl (lv_at hl 0 rfl) ?_
    refine lv_iload_n hx hb d_M_isOf_6 rfl (lv_at hl 1 rfl) ?_
    refine cal_i (wc := mdW k b cd ki ba ow uu te ma va wa) (wr := []) (va_runV (As := [.int x]) (rest := []) ⟨hx, hb, hml, hown, hts⟩ (c_MisStyle l D k b cd ki ba ow uu te ma va wa th h1 x s.heap.size) (cwV9 1 hts wd_445 wd_442 wd_444 ws_22 wd_4 (by decide) ⟨Nat.le_of_ble_eq_true rfl, Nat.le_of_ble_eq_true rfl⟩) (prV (q0 := 0) (ci := ciMo) hK hP hD (pm_nil' _) rfl rfl) rfl rfl hl.1 rfl (lv_room (Nat.le_of_ble_eq_true rfl)) d_M_isOf_7 ⟨by decide, by decide⟩) (pm_nil' _) hP hD hS hA (fun r w1 H locs hw hpd hS => ?_)
    obtain ⟨rfl, rfl⟩ := hw
    obtain ⟨hP, hD⟩ := hpd (mdW k b cd ki ba ow uu te ma va wa) (pm_nil _)
    refine lv_if_eq (tgt := 27) hx hb d_M_isOf_10 (by decide) (fun c10 => ?_) (fun c10 => ?_)
    · skip
      have c10 := b_of0 c10
      refine lv_iconst (v := nI 0) hx hb d_M_isOf_27 (by decide) ?_
      exact hret _ _ _ _ _ _ _ _ d_M_isOf_28 ⟨if_f (by simp [okB, c2, c10]), rfl⟩ hP hD hS (by decide) (by decide)
    · skip
      have c10 := b_of1 c10
      obtain ⟨j, hj, rfl, hjt⟩ := hsB_t (by decide) c10
      refine lv_aload_n hx hb d_M_isOf_13 rfl (lv_at hl 0 rfl) ?_
      refine va_get (D := D) (ci := ciMo) (v := .ref (b 1)) (C := RM) (T := TM) (N := 9) hx hb hts inM hown hK.1 hP 0 rfl rfl 1 (by decide) (hts _ wd_400) (fun _ h9 => h9) rfl d_M_isOf_14 ?_
      refine lv_iload_n hx hb d_M_isOf_17 rfl (lv_at hl 1 rfl) ?_
      refine rw_iald hx hb hK.1 hP 1 0 rfl rfl (j := j) (by omega) (by decide) d_M_isOf_18 ?_
      refine lv_iload_n hx hb d_M_isOf_19 rfl (lv_at hl 2 rfl) ?_
      refine lv_icmp_ne (tgt := 27) hx hb d_M_isOf_20 (by decide) (fun c20 => ?_) (fun c20 => ?_)
      · skip
        refine lv_iconst (v := nI 0) hx hb d_M_isOf_27 (by decide) ?_
        exact hret _ _ _ _ _ _ _ _ d_M_isOf_28 ⟨if_f (by rw [h2 j hj hjt] at c20; simp [okB, ne_m1 (show j < 2 ^ 31 by omega), nI_clamp (show j < 2 ^ 31 by omega), c20]), rfl⟩ hP hD hS (by decide) (by decide)
      · skip
        refine lv_iconst (v := nI 1) hx hb d_M_isOf_23 (by decide) ?_
        refine lv_goto (tgt := 28) hx hb d_M_isOf_24 (by decide) ?_
        exact hret _ _ _ _ _ _ _ _ d_M_isOf_28 ⟨if_t (by rw [h2 j hj hjt] at c20; simp [okB, c10, nI_clamp (show j < 2 ^ 31 by omega), c20]), rfl⟩ hP hD hS (by decide) (by decide)

set_option maxRecDepth 100000 in
set_option maxHeartbeats 4000000 in
theorem c_MisSet (l : Launch) (D : va_G) (k : Nat → ClassId) (b : Nat → Nat) (cd : Int32) (ki ba ow uu te ma va wa : Nat → Int32) (sth : Nat → Int32) (h3 : ∀ j, j < 256 → te j = sth j) (x : Int32) (sz : Nat) : bMI l y_M_isSet (wY y_M_isSet b_M_isSet 2 (some .boolean)) (rm9 2 0 0) D (tsK k) (mdW k b cd ki ba ow uu te ma va wa) sz [.ref (b 0), .int x] (fun v w => v = (if hsB 256 sth x = true then nI 1 else nI 0) ∧ w = mdW k b cd ki ba ow uu te ma va wa) 0 0 := by
  refine ent_i (cc := b_M_isSet) (maxL := 2) (ty := .boolean) (by decide) (Nat.le_of_ble_eq_true rfl) (fun v w h => nr_if h.1) ?_
  intro p e s m args below meth c A Q ls hx hb hml hown hts hsz hA hP hD hS hK hl hret
  refine lv_iload_n hx hb d_M_isSet_0 rfl (lv_at hl 1 rfl) ?_
  refine lv_iconst (v := nI 0) hx hb d_M_isSet_1 (by decide) ?_
  refine lv_sipush (v := nI 255) hx hb d_M_isSet_2 (by decide) ?_
  refine cal_i (wc := []) (wr := mdW k b cd ki ba ow uu te ma va wa) (va_runS (As := [.int x, .int (nI 0), .int (nI 255)]) (rest := []) ⟨hx, hb, hml, hown, hts⟩ (c_Min l D k x (nI 0) (nI 255) s.heap.size) (cwS9 3 hts wd_437 wd_435 wd_436 wd_4 (by decide) ⟨Nat.le_of_ble_eq_true rfl, Nat.le_of_ble_eq_true rfl⟩) (prS hK hP hD (List.Perm.refl _)) rfl rfl hl.1 rfl (lv_room (Nat.le_of_ble_eq_true rfl)) d_M_isSet_5 ⟨by decide, by decide⟩) (List.Perm.refl _) hP hD hS hA (fun r w1 H locs hw hpd hS => ?_)
  obtain ⟨rfl, rfl⟩ := hw
  obtain ⟨hP, hD⟩ := hpd (mdW k b cd ki ba ow uu te ma va wa) (List.Perm.refl _)
  refine lv_if_eq (tgt := 24) hx hb d_M_isSet_8 (by decide) (fun c8 => ?_) (fun c8 => ?_)
  · skip
    have c8 := b_of0 c8
    refine lv_iconst (v := nI 0) hx hb d_M_isSet_24 (by decide) ?_
    exact hret _ _ _ _ _ _ _ _ d_M_isSet_25 ⟨if_f (inB_hs (n := 255) (by decide) c8), rfl⟩ hP hD hS (by decide) (by decide)
  · skip
    have c8 := b_of1 c8
    obtain ⟨j, hj, rfl⟩ := inB_ex (n := 255) (by decide) c8
    refine lv_aload_n hx hb d_M_isSet_11 rfl (lv_at hl 0 rfl) ?_
    refine va_get (D := D) (ci := ciMo) (v := .ref (b 5)) (C := RM) (T := TM) (N := 9) hx hb hts inM hown hK.1 hP 0 rfl rfl 5 (by decide) (hts _ wd_404) (fun _ h9 => h9) rfl d_M_isSet_12 ?_
    refine lv_iload_n hx hb d_M_isSet_15 rfl (lv_at hl 1 rfl) ?_
    refine rw_zald hx hb hK.1 hP 5 1 rfl rfl (j := j) (by omega) (by decide) d_M_isSet_16 ?_
    refine lv_if_eq (tgt := 24) hx hb d_M_isSet_17 (by decide) (fun c17 => ?_) (fun c17 => ?_)
    · skip
      refine lv_iconst (v := nI 0) hx hb d_M_isSet_24 (by decide) ?_
      exact hret _ _ _ _ _ _ _ _ d_M_isSet_25 ⟨if_f (by rw [hsB_nI hj (by decide), ← h3 j hj, c17]; rfl), rfl⟩ hP hD hS (by decide) (by decide)
    · skip
      refine lv_iconst (v := nI 1) hx hb d_M_isSet_20 (by decide) ?_
      refine lv_goto (tgt := 25) hx hb d_M_isSet_21 (by decide) ?_
      exact hret _ _ _ _ _ _ _ _ d_M_isSet_25 ⟨if_t (by rw [hsB_nI hj (by decide), ← h3 j hj]; simp [c17]), rfl⟩ hP hD hS (by decide) (by decide)

set_option maxRecDepth 100000 in
set_option maxHeartbeats 4000000 in
theorem c_MisProperty (l : Launch) (D : va_G) (k : Nat → ClassId) (x : Int32) (sz : Nat) : bMI l y_M_isProperty (wY y_M_isProperty b_M_isProperty 1 (some .boolean)) (rm9 2 0 0) D (tsK k) ([]) sz [.int x] (fun v w => v = (if prB x = true then nI 1 else nI 0) ∧ w = []) 0 0 := by
  refine ent_i (cc := b_M_isProperty) (maxL := 1) (ty := .boolean) (by decide) (Nat.le_of_ble_eq_true rfl) (fun v w h => nr_if h.1) ?_
  intro p e s m args below meth c A Q ls hx hb hml hown hts hsz hA hP hD hS hK hl hret
  refine lv_iload_n hx hb d_M_isProperty_0 rfl (lv_at hl 0 rfl) ?_
  refine lv_iconst (v := nI 0) hx hb d_M_isProperty_1 (by decide) ?_
  refine lv_bipush (v := nI 23) hx hb d_M_isProperty_2 (by decide) ?_
  refine cal_i (wc := []) (wr := []) (va_runS (As := [.int x, .int (nI 0), .int (nI 23)]) (rest := []) ⟨hx, hb, hml, hown, hts⟩ (c_Min l D k x (nI 0) (nI 23) s.heap.size) (cwS9 3 hts wd_437 wd_435 wd_436 wd_4 (by decide) ⟨Nat.le_of_ble_eq_true rfl, Nat.le_of_ble_eq_true rfl⟩) (prS hK hP hD (List.Perm.refl _)) rfl rfl hl.1 rfl (lv_room (Nat.le_of_ble_eq_true rfl)) d_M_isProperty_4 ⟨by decide, by decide⟩) (List.Perm.refl _) hP hD hS hA (fun r w1 H locs hw hpd hS => ?_)
  obtain ⟨rfl, rfl⟩ := hw
  obtain ⟨hP, hD⟩ := hpd ([]) (List.Perm.refl _)
  exact hret _ _ _ _ _ _ _ _ d_M_isProperty_7 ⟨by rw [inB_pr], rfl⟩ hP hD hS (by decide) (by decide)

set_option maxRecDepth 100000 in
set_option maxHeartbeats 4000000 in
theorem c_MisValue (l : Launch) (D : va_G) (k : Nat → ClassId) (x v9 lo : Int32) (sz : Nat) : bMI l y_M_isValue (wY y_M_isValue b_M_isValue 3 (some .boolean)) (rm9 3 0 0) D (tsK k) ([]) sz [.int x, .int v9, .int lo] (fun v w => v = (if (prB x && inB v9 lo (grt x)) = true then nI 1 else nI 0) ∧ w = []) 0 0 := by
  refine ent_i (cc := b_M_isValue) (maxL := 3) (ty := .boolean) (by decide) (Nat.le_of_ble_eq_true rfl) (fun v w h => nr_if h.1) ?_
  intro p e s m args below meth c A Q ls hx hb hml hown hts hsz hA hP hD hS hK hl hret
  refine lv_iload_n hx hb d_M_isValue_0 rfl (lv_at hl 0 rfl) ?_
  refine cal_i (wc := []) (wr := []) (va_runS (As := [.int x]) (rest := []) ⟨hx, hb, hml, hown, hts⟩ (c_MisProperty l D k x s.heap.size) (cwS9 1 hts wd_467 wd_465 wd_466 wd_4 (by decide) ⟨Nat.le_of_ble_eq_true rfl, Nat.le_of_ble_eq_true rfl⟩) (prS hK hP hD (List.Perm.refl _)) rfl rfl hl.1 rfl (lv_room (Nat.le_of_ble_eq_true rfl)) d_M_isValue_1 ⟨by decide, by decide⟩) (List.Perm.refl _) hP hD hS hA (fun r w1 H locs hw hpd hS => ?_)
  obtain ⟨rfl, rfl⟩ := hw
  obtain ⟨hP, hD⟩ := hpd ([]) (List.Perm.refl _)
  refine lv_if_eq (tgt := 43) hx hb d_M_isValue_4 (by decide) (fun c4 => ?_) (fun c4 => ?_)
  · skip
    have c4 := b_of0 c4
    refine lv_iconst (v := nI 0) hx hb d_M_isValue_43 (by decide) ?_
    exact hret _ _ _ _ _ _ _ _ d_M_isValue_44 ⟨if_f (by simp [c4]), rfl⟩ hP hD hS (by decide) (by decide)
  · skip
    have c4 := b_of1 c4
    refine lv_iload_n hx hb d_M_isValue_7 rfl (lv_at hl 1 rfl) ?_
    refine lv_iload_n hx hb d_M_isValue_8 rfl (lv_at hl 2 rfl) ?_
    refine lv_iload_n hx hb d_M_isValue_9 rfl (lv_at hl 0 rfl) ?_
    refine lv_bipush (v := nI 8) hx hb d_M_isValue_10 (by decide) ?_
    refine lv_icmp_ge (tgt := 19) hx hb d_M_isValue_12 (by decide) (fun c12 => ?_) (fun c12 => ?_)
    · skip
      refine lv_iload_n hx hb d_M_isValue_19 rfl (lv_at hl 0 rfl) ?_
      refine lv_bipush (v := nI 16) hx hb d_M_isValue_20 (by decide) ?_
      refine lv_icmp_ge (tgt := 31) hx hb d_M_isValue_22 (by decide) (fun c22 => ?_) (fun c22 => ?_)
      · skip
        refine lv_ldc (v := 65535) hx hb hown (hts _ wd_468) d_M_isValue_31 ?_
        refine cal_i (wc := []) (wr := []) (va_runS (As := [.int v9, .int lo, .int 65535]) (rest := []) ⟨hx, hb, hml, hown, hts⟩ (c_Min l D k v9 lo 65535 H.size) (cwS9 3 hts wd_437 wd_435 wd_436 wd_4 (by decide) ⟨Nat.le_of_ble_eq_true rfl, Nat.le_of_ble_eq_true rfl⟩) (prS hK hP hD (List.Perm.refl _)) rfl rfl hl.1 rfl (lv_room (Nat.le_of_ble_eq_true rfl)) d_M_isValue_33 ⟨by decide, by decide⟩) (List.Perm.refl _) hP hD hS hA (fun r w1 H locs hw hpd hS => ?_)
        obtain ⟨rfl, rfl⟩ := hw
        obtain ⟨hP, hD⟩ := hpd ([]) (List.Perm.refl _)
        refine lv_if_eq (tgt := 43) hx hb d_M_isValue_36 (by decide) (fun c36 => ?_) (fun c36 => ?_)
        · skip
          have c36 := b_of0 c36
          refine lv_iconst (v := nI 0) hx hb d_M_isValue_43 (by decide) ?_
          exact hret _ _ _ _ _ _ _ _ d_M_isValue_44 ⟨if_f (by simp [grt, c12, c22, c36]), rfl⟩ hP hD hS (by decide) (by decide)
        · skip
          have c36 := b_of1 c36
          refine lv_iconst (v := nI 1) hx hb d_M_isValue_39 (by decide) ?_
          refine lv_goto (tgt := 44) hx hb d_M_isValue_40 (by decide) ?_
          exact hret _ _ _ _ _ _ _ _ d_M_isValue_44 ⟨if_t (by simp [c4, grt, c12, c22, c36]), rfl⟩ hP hD hS (by decide) (by decide)
      · skip
        refine lv_sipush (v := nI 255) hx hb d_M_isValue_25 (by decide) ?_
        refine lv_goto (tgt := 33) hx hb d_M_isValue_28 (by decide) ?_
        refine cal_i (wc := []) (wr := []) (va_runS (As := [.int v9, .int lo, .int (nI 255)]) (rest := []) ⟨hx, hb, hml, hown, hts⟩ (c_Min l D k v9 lo (nI 255) H.size) (cwS9 3 hts wd_437 wd_435 wd_436 wd_4 (by decide) ⟨Nat.le_of_ble_eq_true rfl, Nat.le_of_ble_eq_true rfl⟩) (prS hK hP hD (List.Perm.refl _)) rfl rfl hl.1 rfl (lv_room (Nat.le_of_ble_eq_true rfl)) d_M_isValue_33 ⟨by decide, by decide⟩) (List.Perm.refl _) hP hD hS hA (fun r w1 H locs hw hpd hS => ?_)
        obtain ⟨rfl, rfl⟩ := hw
        obtain ⟨hP, hD⟩ := hpd ([]) (List.Perm.refl _)
        refine lv_if_eq (tgt := 43) hx hb d_M_isValue_36 (by decide) (fun c36 => ?_) (fun c36 => ?_)
        · skip
          have c36 := b_of0 c36
          refine lv_iconst (v := nI 0) hx hb d_M_isValue_43 (by decide) ?_
          exact hret _ _ _ _ _ _ _ _ d_M_isValue_44 ⟨if_f (by simp [grt, c12, c22, c36]), rfl⟩ hP hD hS (by decide) (by decide)
        · skip
          have c36 := b_of1 c36
          refine lv_iconst (v := nI 1) hx hb d_M_isValue_39 (by decide) ?_
          refine lv_goto (tgt := 44) hx hb d_M_isValue_40 (by decide) ?_
          exact hret _ _ _ _ _ _ _ _ d_M_isValue_44 ⟨if_t (by simp [c4, grt, c12, c22, c36]), rfl⟩ hP hD hS (by decide) (by decide)
    · skip
      refine lv_iconst (v := nI 1) hx hb d_M_isValue_15 (by decide) ?_
      refine lv_goto (tgt := 33) hx hb d_M_isValue_16 (by decide) ?_
      refine cal_i (wc := []) (wr := []) (va_runS (As := [.int v9, .int lo, .int (nI 1)]) (rest := []) ⟨hx, hb, hml, hown, hts⟩ (c_Min l D k v9 lo (nI 1) H.size) (cwS9 3 hts wd_437 wd_435 wd_436 wd_4 (by decide) ⟨Nat.le_of_ble_eq_true rfl, Nat.le_of_ble_eq_true rfl⟩) (prS hK hP hD (List.Perm.refl _)) rfl rfl hl.1 rfl (lv_room (Nat.le_of_ble_eq_true rfl)) d_M_isValue_33 ⟨by decide, by decide⟩) (List.Perm.refl _) hP hD hS hA (fun r w1 H locs hw hpd hS => ?_)
      obtain ⟨rfl, rfl⟩ := hw
      obtain ⟨hP, hD⟩ := hpd ([]) (List.Perm.refl _)
      refine lv_if_eq (tgt := 43) hx hb d_M_isValue_36 (by decide) (fun c36 => ?_) (fun c36 => ?_)
      · skip
        have c36 := b_of0 c36
        refine lv_iconst (v := nI 0) hx hb d_M_isValue_43 (by decide) ?_
        exact hret _ _ _ _ _ _ _ _ d_M_isValue_44 ⟨if_f (by simp [grt, c12, c36]), rfl⟩ hP hD hS (by decide) (by decide)
      · skip
        have c36 := b_of1 c36
        refine lv_iconst (v := nI 1) hx hb d_M_isValue_39 (by decide) ?_
        refine lv_goto (tgt := 44) hx hb d_M_isValue_40 (by decide) ?_
        exact hret _ _ _ _ _ _ _ _ d_M_isValue_44 ⟨if_t (by simp [c4, grt, c12, c36]), rfl⟩ hP hD hS (by decide) (by decide)

set_option maxRecDepth 100000 in
set_option maxHeartbeats 4000000 in
theorem c_Mcomes (l : Launch) (D : va_G) (k : Nat → ClassId) (b : Nat → Nat) (cd : Int32) (ki ba ow uu te ma va wa : Nat → Int32) (th kd bs us sth mk : Nat → Int32) (M sM : Nat → Nat → Int32) (hR : RI th kd bs us sth mk M sM ki ba ow uu te ma va) (i0 : Nat) (hi0 : i0 < 64) (ht0 : th i0 ≠ 0) (s0 : Nat) (hs0 : s0 < 64) (sz : Nat) : bMI l y_M_comes (wY y_M_comes b_M_comes 4 (some .boolean)) (rm9 2 0 0) D (tsK k) (mdW k b cd ki ba ow uu te ma va wa) sz [.ref (b 0), .int (nI i0), .int (nI s0)] (fun v w => v = (if ocF th bs (nI s0) 64 (nI i0) = true then nI 1 else nI 0) ∧ w = mdW k b cd ki ba ow uu te ma va wa) 0 0 := by
  refine ent_i (cc := b_M_comes) (maxL := 4) (ty := .boolean) (by decide) (Nat.le_of_ble_eq_true rfl) (fun v w h => nr_if h.1) ?_
  intro p e s m args below meth c A Q ls hx hb hml hown hts hsz hA hP hD hS hK hl hret
  refine lv_iload_n hx hb d_M_comes_0 rfl (lv_at hl 1 rfl) ?_
  refine lv_istore_n (lv' := [(3, .int (nI i0)), (0, .ref (b 0)), (1, .int (nI i0)), (2, .int (nI s0))]) hx hb d_M_comes_1 rfl hl (by decide) rfl (fun ls hl => ?_)
  have lp : ∀ (n9 : Nat) (n : Nat) (y : Int32) (i : Nat) (ls : Array Slot), n < n9 → (i + n ≤ 64) → (eN th bs n y) → (ocF th bs (nI s0) 64 (nI i0) = ocF th bs (nI s0) (64 - i) y) → lv_has ls 4 [(0, .ref (b 0)), (1, .int (nI i0)), (2, .int (nI s0)), (3, .int y)] → W p l e (rm9 2 0 0) s m args below meth c s.heap [] 0 0 Q (F0 m 2 ls []) := by
    intro n9
    induction n9 with
    | zero => intro n y i ls hm; omega
    | succ n9 ih =>
      intro n y i ls hm hn he hf hl
      refine lv_iload_n hx hb d_M_comes_2 rfl (lv_at hl 3 rfl) ?_
      refine lv_if_lt (tgt := 21) hx hb d_M_comes_3 (by decide) (fun c3 => ?_) (fun c3 => ?_)
      · skip
        obtain rfl := eN_m he c3
        refine lv_iload_n hx hb d_M_comes_21 rfl (lv_at hl 3 rfl) ?_
        refine lv_iload_n hx hb d_M_comes_22 rfl (lv_at hl 2 rfl) ?_
        refine lv_icmp_ne (tgt := 30) hx hb d_M_comes_23 (by decide) (fun c23 => ?_) (fun c23 => ?_)
        · skip
          refine lv_iconst (v := nI 0) hx hb d_M_comes_30 (by decide) ?_
          exact hret _ _ _ _ _ _ _ _ d_M_comes_31 ⟨if_f (by rw [hf, ocF_off hs_m1]), rfl⟩ hP hD hS (by decide) (by decide)
        · skip
          refine lv_iconst (v := nI 1) hx hb d_M_comes_26 (by decide) ?_
          refine lv_goto (tgt := 31) hx hb d_M_comes_27 (by decide) ?_
          exact absurd c23.symm (ne_m1 (by omega))
      · skip
        obtain ⟨n, rfl, j, hj, rfl, hjt, he⟩ := eN_go he c3
        refine lv_iload_n hx hb d_M_comes_6 rfl (lv_at hl 3 rfl) ?_
        refine lv_iload_n hx hb d_M_comes_7 rfl (lv_at hl 2 rfl) ?_
        refine lv_icmp_eq (tgt := 21) hx hb d_M_comes_8 (by decide) (fun c8 => ?_) (fun c8 => ?_)
        · skip
          rw [nI_eq (by omega) (by omega)] at c8
          refine lv_iload_n hx hb d_M_comes_21 rfl (lv_at hl 3 rfl) ?_
          refine lv_iload_n hx hb d_M_comes_22 rfl (lv_at hl 2 rfl) ?_
          refine lv_icmp_ne (tgt := 30) hx hb d_M_comes_23 (by decide) (fun c23 => ?_) (fun c23 => ?_)
          · skip
            rw [nI_eq (by omega) (by omega)] at c23
            refine lv_iconst (v := nI 0) hx hb d_M_comes_30 (by decide) ?_
            exact absurd c8 c23
          · skip
            rw [nI_eq (by omega) (by omega)] at c23
            refine lv_iconst (v := nI 1) hx hb d_M_comes_26 (by decide) ?_
            refine lv_goto (tgt := 31) hx hb d_M_comes_27 (by decide) ?_
            exact hret _ _ _ _ _ _ _ _ d_M_comes_31 ⟨if_t (by rw [hf]; exact ocF_hit (by omega) (hsB_on hj (by decide) hjt) (by rw [c8])), rfl⟩ hP hD hS (by decide) (by decide)
        · skip
          rw [nI_eq (by omega) (by omega)] at c8
          refine lv_aload_n hx hb d_M_comes_11 rfl (lv_at hl 0 rfl) ?_
          refine va_get (D := D) (ci := ciMo) (v := .ref (b 2)) (C := RM) (T := TM) (N := 9) hx hb hts inM hown hK.1 hP 0 rfl rfl 2 (by decide) (hts _ wd_401) (fun _ h9 => h9) rfl d_M_comes_12 ?_
          refine lv_iload_n hx hb d_M_comes_15 rfl (lv_at hl 3 rfl) ?_
          refine rw_iald hx hb hK.1 hP 2 0 rfl rfl (j := j) (by omega) (by decide) d_M_comes_16 ?_
          rw [hR.2.1.2.2.1 j hj hjt]
          refine lv_istore_n (lv' := [(3, .int (bs j)), (0, .ref (b 0)), (1, .int (nI i0)), (2, .int (nI s0))]) hx hb d_M_comes_17 rfl hl (by decide) rfl (fun ls hl => ?_)
          refine lv_goto (tgt := 2) hx hb d_M_comes_18 (by decide) ?_
          exact ih (n) (bs j) (i + 1) ls (by omega) (by omega) he (by rw [hf]; exact ocF_go (by omega) hj (hsB_on hj (by decide) hjt) (fun q => c8 ((nI_eq (by omega) (by omega)).mp q))) (lv_sub hl [1, 2, 3, 0] rfl)
  exact lp _ (64) (nI i0) (0) ls (Nat.lt_succ_self _) (by decide) (eN_64 hR.1.1 hi0 ht0) rfl (lv_sub hl [1, 2, 3, 0] rfl)

set_option maxRecDepth 100000 in
set_option maxHeartbeats 4000000 in
theorem c_Mfirst (l : Launch) (D : va_G) (k : Nat → ClassId) (b : Nat → Nat) (cd : Int32) (ki ba ow uu te ma va wa : Nat → Int32) (th kd bs us sth mk : Nat → Int32) (M sM : Nat → Nat → Int32) (hR : RI th kd bs us sth mk M sM ki ba ow uu te ma va) (i0 : Nat) (hi0 : i0 < 64) (ht0 : th i0 ≠ 0) (p9 : Nat) (hp9 : p9 < 24) (sz : Nat) : bMI l y_M_first (wY y_M_first b_M_first 4 (some .int)) (rm9 2 0 0) D (tsK k) (mdW k b cd ki ba ow uu te ma va wa) sz [.ref (b 0), .int (nI i0), .int (nI p9)] (fun v w => v = gvF th bs M p9 64 (nI i0) ∧ w = mdW k b cd ki ba ow uu te ma va wa) 0 0 := by
  refine ent_i (cc := b_M_first) (maxL := 4) (ty := .int) (by decide) (Nat.le_of_ble_eq_true rfl) (fun _ _ _ => rfl) ?_
  intro p e s m args below meth c A Q ls hx hb hml hown hts hsz hA hP hD hS hK hl hret
  refine lv_iload_n hx hb d_M_first_0 rfl (lv_at hl 1 rfl) ?_
  refine lv_istore_n (lv' := [(3, .int (nI i0)), (0, .ref (b 0)), (1, .int (nI i0)), (2, .int (nI p9))]) hx hb d_M_first_1 rfl hl (by decide) rfl (fun ls hl => ?_)
  have lp : ∀ (n9 : Nat) (n : Nat) (y : Int32) (i : Nat) (ls : Array Slot), n < n9 → (i + n ≤ 64) → (eN th bs n y) → (gvF th bs M p9 64 (nI i0) = gvF th bs M p9 (64 - i) y) → lv_has ls 4 [(0, .ref (b 0)), (1, .int (nI i0)), (2, .int (nI p9)), (3, .int y)] → W p l e (rm9 2 0 0) s m args below meth c s.heap [] 0 0 Q (F0 m 2 ls []) := by
    intro n9
    induction n9 with
    | zero => intro n y i ls hm; omega
    | succ n9 ih =>
      intro n y i ls hm hn he hf hl
      refine lv_iload_n hx hb d_M_first_2 rfl (lv_at hl 3 rfl) ?_
      refine lv_if_lt (tgt := 30) hx hb d_M_first_3 (by decide) (fun c3 => ?_) (fun c3 => ?_)
      · skip
        obtain rfl := eN_m he c3
        refine lv_iload_n hx hb d_M_first_30 rfl (lv_at hl 3 rfl) ?_
        exact hret _ _ _ _ _ _ _ _ d_M_first_31 ⟨by rw [hf, gvF_off hs_m1], rfl⟩ hP hD hS (by decide) (by decide)
      · skip
        obtain ⟨n, rfl, j, hj, rfl, hjt, he⟩ := eN_go he c3
        refine lv_aload_n hx hb d_M_first_6 rfl (lv_at hl 0 rfl) ?_
        refine va_get (D := D) (ci := ciMo) (v := .ref (b 3)) (C := RM) (T := TM) (N := 9) hx hb hts inM hown hK.1 hP 0 rfl rfl 3 (by decide) (hts _ wd_402) (fun _ h9 => h9) rfl d_M_first_7 ?_
        refine lv_bipush (v := nI 24) hx hb d_M_first_10 (by decide) ?_
        refine lv_iload_n hx hb d_M_first_12 rfl (lv_at hl 3 rfl) ?_
        refine lv_imul hx hb d_M_first_13 ?_
        rw [pk_mul]
        refine lv_iload_n hx hb d_M_first_14 rfl (lv_at hl 2 rfl) ?_
        refine lv_iadd hx hb d_M_first_15 ?_
        rw [nI_add]
        refine rw_iald hx hb hK.1 hP 3 0 rfl rfl (j := ((24 * j) + p9)) (by omega) (by decide) d_M_first_16 ?_
        rw [hR.2.1.2.2.2 j p9 hj hp9 hjt]
        refine lv_if_ge (tgt := 30) hx hb d_M_first_17 (by decide) (fun c17 => ?_) (fun c17 => ?_)
        · skip
          refine lv_iload_n hx hb d_M_first_30 rfl (lv_at hl 3 rfl) ?_
          exact hret _ _ _ _ _ _ _ _ d_M_first_31 ⟨by rw [hf, gvF_hit (by omega) hj (hsB_on hj (by decide) hjt) (fun q => by rw [q] at c17; exact absurd c17 (by decide))], rfl⟩ hP hD hS (by decide) (by decide)
        · skip
          refine lv_aload_n hx hb d_M_first_20 rfl (lv_at hl 0 rfl) ?_
          refine va_get (D := D) (ci := ciMo) (v := .ref (b 2)) (C := RM) (T := TM) (N := 9) hx hb hts inM hown hK.1 hP 0 rfl rfl 2 (by decide) (hts _ wd_401) (fun _ h9 => h9) rfl d_M_first_21 ?_
          refine lv_iload_n hx hb d_M_first_24 rfl (lv_at hl 3 rfl) ?_
          refine rw_iald hx hb hK.1 hP 2 0 rfl rfl (j := j) (by omega) (by decide) d_M_first_25 ?_
          rw [hR.2.1.2.2.1 j hj hjt]
          refine lv_istore_n (lv' := [(3, .int (bs j)), (0, .ref (b 0)), (1, .int (nI i0)), (2, .int (nI p9))]) hx hb d_M_first_26 rfl hl (by decide) rfl (fun ls hl => ?_)
          refine lv_goto (tgt := 2) hx hb d_M_first_27 (by decide) ?_
          exact ih (n) (bs j) (i + 1) ls (by omega) (by omega) he (by rw [hf]; refine gvF_go (by omega) hj (hsB_on hj (by decide) hjt) ?_; rcases hR.1.1.1 j p9 hj hp9 with q | q; exact q; exact absurd (Int32.not_lt.mp q) c17) (lv_sub hl [1, 2, 3, 0] rfl)
  exact lp _ (64) (nI i0) (0) ls (Nat.lt_succ_self _) (by decide) (eN_64 hR.1.1 hi0 ht0) rfl (lv_sub hl [1, 2, 3, 0] rfl)

set_option maxRecDepth 100000 in
set_option maxHeartbeats 4000000 in
theorem c_Mchain (l : Launch) (D : va_G) (k : Nat → ClassId) (b : Nat → Nat) (cd : Int32) (ki ba ow uu te ma va wa : Nat → Int32) (th kd bs us sth mk : Nat → Int32) (M sM : Nat → Nat → Int32) (hR : RI th kd bs us sth mk M sM ki ba ow uu te ma va) (i0 : Nat) (hi0 : i0 < 64) (ht0 : th i0 ≠ 0) (sz : Nat) : bMI l y_M_chain (wY y_M_chain b_M_chain 4 (some .int)) (rm9 2 0 0) D (tsK k) (mdW k b cd ki ba ow uu te ma va wa) sz [.ref (b 0), .int (nI i0)] (fun v w => v = nI (chF th bs 64 (nI i0)) ∧ w = mdW k b cd ki ba ow uu te ma va wa) 0 0 := by
  refine ent_i (cc := b_M_chain) (maxL := 4) (ty := .int) (by decide) (Nat.le_of_ble_eq_true rfl) (fun _ _ _ => rfl) ?_
  intro p e s m args below meth c A Q ls hx hb hml hown hts hsz hA hP hD hS hK hl hret
  refine lv_iconst (v := nI 0) hx hb d_M_chain_0 (by decide) ?_
  refine lv_istore_n (lv' := [(2, .int (nI 0)), (0, .ref (b 0)), (1, .int (nI i0))]) hx hb d_M_chain_1 rfl hl (by decide) rfl (fun ls hl => ?_)
  refine lv_iload_n hx hb d_M_chain_2 rfl (lv_at hl 2 rfl) ?_
  refine lv_istore_n (lv' := [(3, .int (nI i0)), (2, .int (nI 0)), (0, .ref (b 0)), (1, .int (nI i0))]) hx hb d_M_chain_3 rfl hl (by decide) rfl (fun ls hl => ?_)
  have lp : ∀ (n9 : Nat) (n : Nat) (y : Int32) (i : Nat) (ls : Array Slot), n < n9 → (i + n ≤ 64) → (eN th bs n y) → (chF th bs 64 (nI i0) = i + chF th bs (64 - i) y) → lv_has ls 4 [(0, .ref (b 0)), (1, .int (nI i0)), (2, .int (nI i)), (3, .int y)] → W p l e (rm9 2 0 0) s m args below meth c s.heap [] 0 0 Q (F0 m 4 ls []) := by
    intro n9
    induction n9 with
    | zero => intro n y i ls hm; omega
    | succ n9 ih =>
      intro n y i ls hm hn he hf hl
      refine lv_iload_n hx hb d_M_chain_4 rfl (lv_at hl 3 rfl) ?_
      refine lv_if_lt (tgt := 21) hx hb d_M_chain_5 (by decide) (fun c5 => ?_) (fun c5 => ?_)
      · skip
        obtain rfl := eN_m he c5
        refine lv_iload_n hx hb d_M_chain_21 rfl (lv_at hl 2 rfl) ?_
        exact hret _ _ _ _ _ _ _ _ d_M_chain_22 ⟨by rw [hf, chF_off hs_m1, Nat.add_zero], rfl⟩ hP hD hS (by decide) (by decide)
      · skip
        obtain ⟨n, rfl, j, hj, rfl, hjt, he⟩ := eN_go he c5
        refine lv_iinc (v := nI (i + 1)) (lv' := [(2, .int (nI (i + 1))), (0, .ref (b 0)), (1, .int (nI i0)), (3, .int (nI j))]) hx hb d_M_chain_8 hl (k := 2) rfl (ii_1 _) (by decide) rfl (fun ls hl => ?_)
        refine lv_aload_n hx hb d_M_chain_11 rfl (lv_at hl 1 rfl) ?_
        refine va_get (D := D) (ci := ciMo) (v := .ref (b 2)) (C := RM) (T := TM) (N := 9) hx hb hts inM hown hK.1 hP 0 rfl rfl 2 (by decide) (hts _ wd_401) (fun _ h9 => h9) rfl d_M_chain_12 ?_
        refine lv_iload_n hx hb d_M_chain_15 rfl (lv_at hl 3 rfl) ?_
        refine rw_iald hx hb hK.1 hP 2 0 rfl rfl (j := j) (by omega) (by decide) d_M_chain_16 ?_
        rw [hR.2.1.2.2.1 j hj hjt]
        refine lv_istore_n (lv' := [(3, .int (bs j)), (2, .int (nI (i + 1))), (0, .ref (b 0)), (1, .int (nI i0))]) hx hb d_M_chain_17 rfl hl (by decide) rfl (fun ls hl => ?_)
        refine lv_goto (tgt := 4) hx hb d_M_chain_18 (by decide) ?_
        exact ih (n) (bs j) (i + 1) ls (by omega) (by omega) he (by rw [hf, chF_go (by omega) hj (hsB_on hj (by decide) hjt)]; omega) (lv_sub hl [2, 3, 1, 0] rfl)
  exact lp _ (64) (nI i0) (0) ls (Nat.lt_succ_self _) (by decide) (eN_64 hR.1.1 hi0 ht0) (Nat.zero_add _).symm (lv_sub hl [2, 3, 1, 0] rfl)
end
