/-! ===== The texts that the reader compares with; java.lang.String's own methods over them ===== -/
set_option maxRecDepth 20000 in
theorem kj_139 : (Cond.initialized "java/lang/String") ∈ TW := tw_in 60 (by decide +kernel) rfl
set_option maxRecDepth 20000 in
theorem kj_140 : (Cond.initialized "java/lang/StringLatin1") ∈ TW := tw_in 66 (by decide +kernel) rfl
set_option maxRecDepth 20000 in
theorem kj_141 : (Cond.initialized "jdk/internal/util/Preconditions") ∈ TW := tw_in 65 (by decide +kernel) rfl
set_option maxRecDepth 20000 in
theorem kj_515 : (Cond.methodLink "BeamSetter$Reader" (119 : Nat) ({ cls := "java/lang/String", name := "length", desc := "()I" } : MethodName)) ∈ TW := tw_in 412 (by decide +kernel) rfl
set_option maxRecDepth 20000 in
theorem kj_516 : (Cond.instanceMethod ({ cls := "java/lang/String", name := "length", desc := "()I" } : MethodName)) ∈ TW := tw_in 413 (by decide +kernel) rfl
set_option maxRecDepth 20000 in
theorem kj_517 : (Cond.selects "java/lang/String" ({ cls := "java/lang/String", name := "length", desc := "()I" } : MethodName) ({ cls := "java/lang/String", name := "length", desc := "()I" } : MethodName)) ∈ TW := tw_in 414 (by decide +kernel) rfl
set_option maxRecDepth 20000 in
theorem kj_518 : (Cond.code ({ cls := "java/lang/String", name := "length", desc := "()I" } : MethodName) prog_23_method_54_code (1 : Nat) (some FieldType.int)) ∈ TW := tw_in 415 (by decide +kernel) rfl
set_option maxRecDepth 20000 in
theorem kj_519 : (Cond.methodLink "java/lang/String" (335 : Nat) ({ cls := "java/lang/String", name := "coder", desc := "()B" } : MethodName)) ∈ TW := tw_in 416 (by decide +kernel) rfl
set_option maxRecDepth 20000 in
theorem kj_520 : (Cond.instanceMethod ({ cls := "java/lang/String", name := "coder", desc := "()B" } : MethodName)) ∈ TW := tw_in 417 (by decide +kernel) rfl
set_option maxRecDepth 20000 in
theorem kj_521 : (Cond.selects "java/lang/String" ({ cls := "java/lang/String", name := "coder", desc := "()B" } : MethodName) ({ cls := "java/lang/String", name := "coder", desc := "()B" } : MethodName)) ∈ TW := tw_in 418 (by decide +kernel) rfl
set_option maxRecDepth 20000 in
theorem kj_522 : (Cond.code ({ cls := "java/lang/String", name := "coder", desc := "()B" } : MethodName) prog_23_method_152_code (1 : Nat) (some FieldType.byte)) ∈ TW := tw_in 419 (by decide +kernel) rfl
set_option maxRecDepth 20000 in
theorem kj_523 : (Cond.fieldLink "java/lang/String" (38 : Nat) "java/lang/String" "COMPACT_STRINGS" "Z") ∈ TW := tw_in 420 (by decide +kernel) rfl
set_option maxRecDepth 20000 in
theorem kj_525 : (Cond.methodLink "BeamSetter$Reader" (123 : Nat) ({ cls := "java/lang/String", name := "charAt", desc := "(I)C" } : MethodName)) ∈ TW := tw_in 422 (by decide +kernel) rfl
set_option maxRecDepth 20000 in
theorem kj_526 : (Cond.instanceMethod ({ cls := "java/lang/String", name := "charAt", desc := "(I)C" } : MethodName)) ∈ TW := tw_in 423 (by decide +kernel) rfl
set_option maxRecDepth 20000 in
theorem kj_527 : (Cond.selects "java/lang/String" ({ cls := "java/lang/String", name := "charAt", desc := "(I)C" } : MethodName) ({ cls := "java/lang/String", name := "charAt", desc := "(I)C" } : MethodName)) ∈ TW := tw_in 424 (by decide +kernel) rfl
set_option maxRecDepth 20000 in
theorem kj_528 : (Cond.code ({ cls := "java/lang/String", name := "charAt", desc := "(I)C" } : MethodName) prog_23_method_56_code (2 : Nat) (some FieldType.char)) ∈ TW := tw_in 425 (by decide +kernel) rfl
set_option maxRecDepth 20000 in
theorem kj_529 : (Cond.methodLink "java/lang/String" (492 : Nat) ({ cls := "java/lang/String", name := "isLatin1", desc := "()Z" } : MethodName)) ∈ TW := tw_in 426 (by decide +kernel) rfl
set_option maxRecDepth 20000 in
theorem kj_530 : (Cond.instanceMethod ({ cls := "java/lang/String", name := "isLatin1", desc := "()Z" } : MethodName)) ∈ TW := tw_in 427 (by decide +kernel) rfl
set_option maxRecDepth 20000 in
theorem kj_531 : (Cond.selects "java/lang/String" ({ cls := "java/lang/String", name := "isLatin1", desc := "()Z" } : MethodName) ({ cls := "java/lang/String", name := "isLatin1", desc := "()Z" } : MethodName)) ∈ TW := tw_in 428 (by decide +kernel) rfl
set_option maxRecDepth 20000 in
theorem kj_532 : (Cond.code ({ cls := "java/lang/String", name := "isLatin1", desc := "()Z" } : MethodName) prog_23_method_154_code (1 : Nat) (some FieldType.boolean)) ∈ TW := tw_in 429 (by decide +kernel) rfl
set_option maxRecDepth 20000 in
theorem kj_533 : (Cond.methodLink "java/lang/String" (495 : Nat) ({ cls := "java/lang/StringLatin1", name := "charAt", desc := "([BI)C" } : MethodName)) ∈ TW := tw_in 430 (by decide +kernel) rfl
set_option maxRecDepth 20000 in
theorem kj_534 : (Cond.static ({ cls := "java/lang/StringLatin1", name := "charAt", desc := "([BI)C" } : MethodName)) ∈ TW := tw_in 431 (by decide +kernel) rfl
set_option maxRecDepth 20000 in
theorem kj_535 : (Cond.code ({ cls := "java/lang/StringLatin1", name := "charAt", desc := "([BI)C" } : MethodName) prog_25_method_2_code (2 : Nat) (some FieldType.char)) ∈ TW := tw_in 432 (by decide +kernel) rfl
set_option maxRecDepth 20000 in
theorem kj_536 : (Cond.methodLink "java/lang/StringLatin1" (9 : Nat) ({ cls := "java/lang/String", name := "checkIndex", desc := "(II)V" } : MethodName)) ∈ TW := tw_in 433 (by decide +kernel) rfl
set_option maxRecDepth 20000 in
theorem kj_537 : (Cond.static ({ cls := "java/lang/String", name := "checkIndex", desc := "(II)V" } : MethodName)) ∈ TW := tw_in 434 (by decide +kernel) rfl
set_option maxRecDepth 20000 in
theorem kj_538 : (Cond.code ({ cls := "java/lang/String", name := "checkIndex", desc := "(II)V" } : MethodName) prog_23_method_155_code (2 : Nat) (none : Option FieldType)) ∈ TW := tw_in 435 (by decide +kernel) rfl
set_option maxRecDepth 20000 in
theorem kj_539 : (Cond.fieldLink "java/lang/String" (1053 : Nat) "jdk/internal/util/Preconditions" "SIOOBE_FORMATTER" "Ljava/util/function/BiFunction;") ∈ TW := tw_in 436 (by decide +kernel) rfl
set_option maxRecDepth 20000 in
theorem kj_541 : (Cond.methodLink "java/lang/String" (1059 : Nat) ({ cls := "jdk/internal/util/Preconditions", name := "checkIndex", desc := "(IILjava/util/function/BiFunction;)I" } : MethodName)) ∈ TW := tw_in 438 (by decide +kernel) rfl
set_option maxRecDepth 20000 in
theorem kj_542 : (Cond.static ({ cls := "jdk/internal/util/Preconditions", name := "checkIndex", desc := "(IILjava/util/function/BiFunction;)I" } : MethodName)) ∈ TW := tw_in 439 (by decide +kernel) rfl
set_option maxRecDepth 20000 in
theorem kj_543 : (Cond.code ({ cls := "jdk/internal/util/Preconditions", name := "checkIndex", desc := "(IILjava/util/function/BiFunction;)I" } : MethodName) prog_34_method_11_code (3 : Nat) (some FieldType.int)) ∈ TW := tw_in 440 (by decide +kernel) rfl
set_option maxRecDepth 20000 in
theorem kj_1971 : (Cond.fieldLink "java/lang/String" (9 : Nat) "java/lang/String" "value" "[B") ∈ TW := tw_in 967 (by decide +kernel) rfl
set_option maxRecDepth 20000 in
theorem kj_1972 : (Cond.fieldLink "java/lang/String" (15 : Nat) "java/lang/String" "coder" "B") ∈ TW := tw_in 968 (by decide +kernel) rfl
def M_J_coder : AMeth := ((⟨"java/lang/String", "coder", "()B"⟩ : MethodName), prog_23_method_152_code, 1, (some .byte), 0, 0)
theorem dJ_coder_0 : decode prog_23_method_152_code 0 = .ok (.getstatic 38, 3) := by decide +kernel
theorem dJ_coder_3 : decode prog_23_method_152_code 3 = .ok (.ifCond .eq 10, 3) := by decide +kernel
theorem dJ_coder_6 : decode prog_23_method_152_code 6 = .ok (.aload_n 0, 1) := by decide +kernel
theorem dJ_coder_7 : decode prog_23_method_152_code 7 = .ok (.getfield 15, 3) := by decide +kernel
theorem dJ_coder_10 : decode prog_23_method_152_code 10 = .ok (.goto 4, 3) := by decide +kernel
theorem dJ_coder_14 : decode prog_23_method_152_code 14 = .ok (.ireturn, 1) := by decide +kernel
theorem ok_J_coder : am_Ok M_J_coder 0 := ⟨kj_522, kj_139, by decide +kernel, by decide +kernel, by decide +kernel, by decide +kernel⟩
def M_J_len : AMeth := ((⟨"java/lang/String", "length", "()I"⟩ : MethodName), prog_23_method_54_code, 1, (some .int), 1, 20)
theorem dJ_len_0 : decode prog_23_method_54_code 0 = .ok (.aload_n 0, 1) := by decide +kernel
theorem dJ_len_1 : decode prog_23_method_54_code 1 = .ok (.getfield 9, 3) := by decide +kernel
theorem dJ_len_4 : decode prog_23_method_54_code 4 = .ok (.arraylength, 1) := by decide +kernel
theorem dJ_len_5 : decode prog_23_method_54_code 5 = .ok (.aload_n 0, 1) := by decide +kernel
theorem dJ_len_6 : decode prog_23_method_54_code 6 = .ok (.invokevirtual 335, 3) := by decide +kernel
theorem dJ_len_9 : decode prog_23_method_54_code 9 = .ok (.ishr, 1) := by decide +kernel
theorem dJ_len_10 : decode prog_23_method_54_code 10 = .ok (.ireturn, 1) := by decide +kernel
theorem ok_J_len : am_Ok M_J_len 0 := ⟨kj_518, kj_139, by decide +kernel, by decide +kernel, by decide +kernel, by decide +kernel⟩
def M_J_isL : AMeth := ((⟨"java/lang/String", "isLatin1", "()Z"⟩ : MethodName), prog_23_method_154_code, 1, (some .boolean), 0, 0)
theorem dJ_isL_0 : decode prog_23_method_154_code 0 = .ok (.getstatic 38, 3) := by decide +kernel
theorem dJ_isL_3 : decode prog_23_method_154_code 3 = .ok (.ifCond .eq 14, 3) := by decide +kernel
theorem dJ_isL_6 : decode prog_23_method_154_code 6 = .ok (.aload_n 0, 1) := by decide +kernel
theorem dJ_isL_7 : decode prog_23_method_154_code 7 = .ok (.getfield 15, 3) := by decide +kernel
theorem dJ_isL_10 : decode prog_23_method_154_code 10 = .ok (.ifCond .ne 7, 3) := by decide +kernel
theorem dJ_isL_13 : decode prog_23_method_154_code 13 = .ok (.iconst 1, 1) := by decide +kernel
theorem dJ_isL_14 : decode prog_23_method_154_code 14 = .ok (.goto 4, 3) := by decide +kernel
theorem dJ_isL_18 : decode prog_23_method_154_code 18 = .ok (.ireturn, 1) := by decide +kernel
theorem ok_J_isL : am_Ok M_J_isL 0 := ⟨kj_532, kj_139, by decide +kernel, by decide +kernel, by decide +kernel, by decide +kernel⟩
def M_J_pci : AMeth := ((⟨"jdk/internal/util/Preconditions", "checkIndex", "(IILjava/util/function/BiFunction;)I"⟩ : MethodName), prog_34_method_11_code, 3, (some .int), 0, 0)
theorem dJ_pci_0 : decode prog_34_method_11_code 0 = .ok (.iload_n 0, 1) := by decide +kernel
theorem dJ_pci_1 : decode prog_34_method_11_code 1 = .ok (.ifCond .lt 8, 3) := by decide +kernel
theorem dJ_pci_4 : decode prog_34_method_11_code 4 = .ok (.iload_n 0, 1) := by decide +kernel
theorem dJ_pci_5 : decode prog_34_method_11_code 5 = .ok (.iload_n 1, 1) := by decide +kernel
theorem dJ_pci_6 : decode prog_34_method_11_code 6 = .ok (.if_icmp .lt 10, 3) := by decide +kernel
theorem dJ_pci_16 : decode prog_34_method_11_code 16 = .ok (.iload_n 0, 1) := by decide +kernel
theorem dJ_pci_17 : decode prog_34_method_11_code 17 = .ok (.ireturn, 1) := by decide +kernel
theorem ok_J_pci : am_Ok M_J_pci 3 := ⟨kj_543, kj_141, by decide +kernel, by decide +kernel, by decide +kernel, by decide +kernel⟩
def M_J_ci : AMeth := ((⟨"java/lang/String", "checkIndex", "(II)V"⟩ : MethodName), prog_23_method_155_code, 2, none, 1, 22)
theorem dJ_ci_0 : decode prog_23_method_155_code 0 = .ok (.iload_n 0, 1) := by decide +kernel
theorem dJ_ci_1 : decode prog_23_method_155_code 1 = .ok (.iload_n 1, 1) := by decide +kernel
theorem dJ_ci_2 : decode prog_23_method_155_code 2 = .ok (.getstatic 1053, 3) := by decide +kernel
theorem dJ_ci_5 : decode prog_23_method_155_code 5 = .ok (.invokestatic 1059, 3) := by decide +kernel
theorem dJ_ci_8 : decode prog_23_method_155_code 8 = .ok (.pop, 1) := by decide +kernel
theorem dJ_ci_9 : decode prog_23_method_155_code 9 = .ok (.return_, 1) := by decide +kernel
theorem ok_J_ci : am_Ok M_J_ci 2 := ⟨kj_538, kj_139, by decide +kernel, by decide +kernel, by decide +kernel, by decide +kernel⟩
def M_J_lca : AMeth := ((⟨"java/lang/StringLatin1", "charAt", "([BI)C"⟩ : MethodName), prog_25_method_2_code, 2, (some .char), 2, 43)
theorem dJ_lca_0 : decode prog_25_method_2_code 0 = .ok (.iload_n 1, 1) := by decide +kernel
theorem dJ_lca_1 : decode prog_25_method_2_code 1 = .ok (.aload_n 0, 1) := by decide +kernel
theorem dJ_lca_2 : decode prog_25_method_2_code 2 = .ok (.arraylength, 1) := by decide +kernel
theorem dJ_lca_3 : decode prog_25_method_2_code 3 = .ok (.invokestatic 9, 3) := by decide +kernel
theorem dJ_lca_6 : decode prog_25_method_2_code 6 = .ok (.aload_n 0, 1) := by decide +kernel
theorem dJ_lca_7 : decode prog_25_method_2_code 7 = .ok (.iload_n 1, 1) := by decide +kernel
theorem dJ_lca_8 : decode prog_25_method_2_code 8 = .ok (.baload, 1) := by decide +kernel
theorem dJ_lca_9 : decode prog_25_method_2_code 9 = .ok (.sipush 255, 3) := by decide +kernel
theorem dJ_lca_12 : decode prog_25_method_2_code 12 = .ok (.iand, 1) := by decide +kernel
theorem dJ_lca_13 : decode prog_25_method_2_code 13 = .ok (.i2c, 1) := by decide +kernel
theorem dJ_lca_14 : decode prog_25_method_2_code 14 = .ok (.ireturn, 1) := by decide +kernel
theorem ok_J_lca : am_Ok M_J_lca 2 := ⟨kj_535, kj_140, by decide +kernel, by decide +kernel, by decide +kernel, by decide +kernel⟩
def M_J_ca : AMeth := ((⟨"java/lang/String", "charAt", "(I)C"⟩ : MethodName), prog_23_method_56_code, 2, (some .char), 3, 64)
theorem dJ_ca_0 : decode prog_23_method_56_code 0 = .ok (.aload_n 0, 1) := by decide +kernel
theorem dJ_ca_1 : decode prog_23_method_56_code 1 = .ok (.invokevirtual 492, 3) := by decide +kernel
theorem dJ_ca_4 : decode prog_23_method_56_code 4 = .ok (.ifCond .eq 12, 3) := by decide +kernel
theorem dJ_ca_7 : decode prog_23_method_56_code 7 = .ok (.aload_n 0, 1) := by decide +kernel
theorem dJ_ca_8 : decode prog_23_method_56_code 8 = .ok (.getfield 9, 3) := by decide +kernel
theorem dJ_ca_11 : decode prog_23_method_56_code 11 = .ok (.iload_n 1, 1) := by decide +kernel
theorem dJ_ca_12 : decode prog_23_method_56_code 12 = .ok (.invokestatic 495, 3) := by decide +kernel
theorem dJ_ca_15 : decode prog_23_method_56_code 15 = .ok (.ireturn, 1) := by decide +kernel
theorem ok_J_ca : am_Ok M_J_ca 1 := ⟨kj_528, kj_139, by decide +kernel, by decide +kernel, by decide +kernel, by decide +kernel⟩
theorem fJ_len_6 : am_Cv M_J_len 6 M_J_coder 0 := ⟨335, dJ_len_6, kj_519, kj_520, kj_521, ok_J_coder, Nat.le_of_ble_eq_true rfl, Nat.le_of_ble_eq_true rfl⟩
theorem fJ_ca_1 : am_Cv M_J_ca 1 M_J_isL 0 := ⟨492, dJ_ca_1, kj_529, kj_530, kj_531, ok_J_isL, Nat.le_of_ble_eq_true rfl, Nat.le_of_ble_eq_true rfl⟩
theorem fJ_ci_5 : am_Cs M_J_ci 5 M_J_pci 3 := ⟨1059, dJ_ci_5, kj_541, kj_542, ok_J_pci, Nat.le_of_ble_eq_true rfl, Nat.le_of_ble_eq_true rfl⟩
theorem fJ_lca_3 : am_Cs M_J_lca 3 M_J_ci 2 := ⟨9, dJ_lca_3, kj_536, kj_537, ok_J_ci, Nat.le_of_ble_eq_true rfl, Nat.le_of_ble_eq_true rfl⟩
theorem fJ_ca_12 : am_Cs M_J_ca 12 M_J_lca 2 := ⟨495, dJ_ca_12, kj_533, kj_534, ok_J_lca, Nat.le_of_ble_eq_true rfl, Nat.le_of_ble_eq_true rfl⟩
theorem fX3_spells_7j : am_Cv M_X3_spells 7 M_J_len 0 := ⟨119, dX3_spells_7, kj_515, kj_516, kj_517, ok_J_len, Nat.le_of_ble_eq_true rfl, Nat.le_of_ble_eq_true rfl⟩
theorem fX3_spells_19j : am_Cv M_X3_spells 19 M_J_len 0 := ⟨119, dX3_spells_19, kj_515, kj_516, kj_517, ok_J_len, Nat.le_of_ble_eq_true rfl, Nat.le_of_ble_eq_true rfl⟩
theorem fX3_spells_35j : am_Cv M_X3_spells 35 M_J_ca 1 := ⟨123, dX3_spells_35, kj_525, kj_526, kj_527, ok_J_ca, Nat.le_of_ble_eq_true rfl, Nat.le_of_ble_eq_true rfl⟩

section EvTexts
variable {G : AG} {M M2 : AMeth} {pc n k : Nat} {ls ls2 st rest as : List AV} {μ μ1 μ' : Mu} {r r1 : Option AV} {Q : Option AV → Mu → Prop}
theorem tx_len : ∀ i : Nat, i < 6 → am_lens.getD i 0 < 2147483648 ∧ ((am_lens.getD i 0 : Nat) : Int) = wln i ∧ (wln i = 4 ∨ wln i = 5) := by decide +kernel
theorem tx_byt : ∀ i : Nat, i < 6 → ∀ j : Nat, j < am_lens.getD i 0 → (am_byts.getD i []).getD j 0 = Int32.ofInt (wch i j) ∧ 0 ≤ wch i j ∧ wch i j ≤ 255 := by decide +kernel
theorem tx_c : ∀ a : Nat, a < 256 → narrow .char (.int (Int32.ofInt a)) = .int (Int32.ofInt a) ∧ ((Int32.ofInt a).toUInt32 % 65536).toInt32 = Int32.ofInt a := by decide +kernel
theorem tx_cz {a : Int} (h : 0 ≤ a ∧ a ≤ 255) : narrow .char (.int (Int32.ofInt a)) = .int (Int32.ofInt a) ∧ ((Int32.ofInt a).toUInt32 % 65536).toInt32 = Int32.ofInt a := by
  obtain ⟨j, rfl⟩ : ∃ j : Nat, a = j := ⟨a.toNat, by omega⟩
  exact tx_c j (by omega)
theorem e_ldcS {i : Nat} {q : Nat × String} {z : Int} (hd : decode M.2.1 pc = .ok (.ldc q.1, 2)) (hc : M.1.cls = "BeamSetter$Reader") (hq : am_txs[i]? = some q) (hz : z = (i : Int)) (kk : Ev G M (pc + 2) ls ((3, z) :: st) μ r μ') : Ev G M pc ls st μ r μ' := by
  subst hz
  have hi : i < 6 := (List.getElem?_eq_some_iff.mp hq).1
  have h3 : am_tx3[i]? = some ("BeamSetter$Reader", q.1, q.2) := by
    unfold am_tx3
    rw [List.getElem?_append_left (by rw [List.length_map]; exact hi), List.getElem?_map, hq]
    rfl
  exact Ev.stk (fun _ _ _ _ _ _ _ _ _ _ _ _ hx hb hI k => va_ldcS hx hb (own := "BeamSetter$Reader") (by rw [← hc]; exact hI.1.2.2.2.1) (by have h9 := hI.2.2.2.2.2.1.2 i _ h3; unfold am_tk at h9; rw [if_pos hi] at h9; exact h9) hd k) kk
/-- a text of the law's own -/
theorem e_ldcL {i : Nat} {q : Nat × String} {z : Int} (hd : decode M.2.1 pc = .ok (.ldc q.1, 2)) (hc : M.1.cls = "BeamSetterLaw") (hq : lw_txs[i]? = some q) (hz : z = ((20 + i : Nat) : Int)) (kk : Ev G M (pc + 2) ls ((3, z) :: st) μ r μ') : Ev G M pc ls st μ r μ' := by
  subst hz
  have h3 : am_tx3[6 + i]? = some ("BeamSetterLaw", q.1, q.2) := by
    unfold am_tx3
    rw [List.getElem?_append_right (by rw [List.length_map]; show 6 ≤ 6 + i; omega), List.length_map, List.getElem?_map]
    show (lw_txs[6 + i - 6]?).map _ = _
    rw [show 6 + i - 6 = i by omega, hq]
    rfl
  exact Ev.stk (fun _ _ _ _ _ _ _ _ _ _ _ _ hx hb hI k => va_ldcS hx hb (own := "BeamSetterLaw") (by rw [← hc]; exact hI.1.2.2.2.1) (by have h9 := hI.2.2.2.2.2.1.2 (6 + i) _ h3; unfold am_tk at h9; rw [if_neg (by omega), show 14 + (6 + i) = 20 + i by omega] at h9; exact h9) hd k) kk
theorem e_coderK {i : Nat} {z : Int} (hd : decode M.2.1 pc = .ok (.getfield 15, 3)) (hc : M.1.cls = "java/lang/String") (hi : i < 6) (hz : z = (i : Int)) (kk : Ev G M (pc + 3) ls ((0, 0) :: st) μ r μ') : Ev G M pc ls ((3, z) :: st) μ r μ' := by
  subst hz
  exact Ev.stk (fun _ _ _ _ _ _ _ _ _ _ _ _ hx hb hI k => vk_getf (v := .int 0) hx hb (hI.2.2.2.2.2.1.1.1.1 i hi).2.1 hI.2.2.2.2.1 (own := "java/lang/String") (by rw [← hc]; exact hI.1.2.2.2.1) (hI.1.2.2.2.2.1 _ kj_1972) (fun _ h => h) hd k) kk
theorem e_valueK {i : Nat} {z : Int} (hd : decode M.2.1 pc = .ok (.getfield 9, 3)) (hc : M.1.cls = "java/lang/String") (hi : i < 6) (hz : z = (i : Int)) (kk : Ev G M (pc + 3) ls ((3, ((6 + i : Nat) : Int)) :: st) μ r μ') : Ev G M pc ls ((3, z) :: st) μ r μ' := by
  subst hz
  exact Ev.stk (fun _ _ _ _ _ _ _ _ _ _ _ _ hx hb hI k => vk_getf (v := .ref (gK G (6 + i))) hx hb (hI.2.2.2.2.2.1.1.1.1 i hi).2.2.1 hI.2.2.2.2.1 (own := "java/lang/String") (by rw [← hc]; exact hI.1.2.2.2.1) (hI.1.2.2.2.2.1 _ kj_1971) (fun _ h => h) hd k) kk
theorem e_alenK {i : Nat} {z : Int} (hd : decode M.2.1 pc = .ok (.arraylength, 1)) (hi : i < 6) (hz : z = ((6 + i : Nat) : Int)) (kk : Ev G M (pc + 1) ls ((0, wln i) :: st) μ r μ') : Ev G M pc ls ((3, z) :: st) μ r μ' := by
  subst hz
  exact Ev.stk (fun _ _ _ _ _ _ _ _ _ _ _ _ hx hb hI k => va_tlen hx hb (hI.2.2.2.2.2.1.1.1.1 i hi).2.2.2 hI.2.2.2.2.1 (v := Int32.ofInt (wln i)) (by rw [← (tx_len i hi).2.1, Int32.ofInt_eq_ofNat]) hd k) kk
theorem e_baldK {i : Nat} {z x : Int} (hd : decode M.2.1 pc = .ok (.baload, 1)) (hi : i < 6) (hz : z = ((6 + i : Nat) : Int)) (h : 0 ≤ x ∧ x < wln i) (kk : Ev G M (pc + 1) ls ((0, wch i x) :: st) μ r μ') : Ev G M pc ls ((0, x) :: (3, z) :: st) μ r μ' := by
  subst hz
  obtain ⟨j, rfl⟩ : ∃ j : Nat, x = j := ⟨x.toNat, by omega⟩
  have hl := tx_len i hi
  obtain ⟨h1, h2⟩ := am_clamp (i := (j : Int)) (n := am_lens.getD i 0) (by omega) (by omega) hl.1
  have h3 : (Int32.ofInt (j : Int)).toNatClampNeg = j := by omega
  exact Ev.stk (fun _ _ _ _ _ _ _ _ _ _ _ _ hx hb hI k => va_tb hx hb (hI.2.2.2.2.2.1.1.1.1 i hi).2.2.2 hI.2.2.2.2.1 h1 (v := .int (Int32.ofInt (wch i j))) (by show Value.int ((am_byts.getD i []).getD (Int32.ofInt (j : Int)).toNatClampNeg 0) = _; rw [h3, (tx_byt i hi j (by omega)).1]) hd k) kk
theorem e_getsC (hd : decode M.2.1 pc = .ok (.getstatic 38, 3)) (hc : M.1.cls = "java/lang/String") (kk : Ev G M (pc + 3) ls ((0, 1) :: st) μ r μ') : Ev G M pc ls st μ r μ' :=
  Ev.stk (fun _ _ _ _ _ _ _ _ _ _ _ _ hx hb hI k => va_gets (v := .int 1) hx hb hI.2.2.2.2.2.1.1.2.1 hI.2.2.2.2.1 (own := "java/lang/String") (by rw [← hc]; exact hI.1.2.2.2.1) (hI.1.2.2.2.2.1 _ kj_523) (fun _ h => h) hd k) kk
theorem e_getsF (hd : decode M.2.1 pc = .ok (.getstatic 1053, 3)) (hc : M.1.cls = "java/lang/String") (kk1 : Ev G M (pc + 3) ls ((2, -1) :: st) μ r μ') (kk2 : Ev G M (pc + 3) ls ((3, 12) :: st) μ r μ') : Ev G M pc ls st μ r μ' := by
  intro p e s m args below meth c H locs lsA hI
  have h9 : am_c G (2, -1) = .null := by simp [am_c, am_ref]
  have k1 := kk1 p e s m args below meth c H locs lsA hI
  have k2 := kk2 p e s m args below meth c H locs lsA hI
  rw [List.map_cons, h9] at k1
  rcases hI.2.2.2.2.2.1.1.2.2.1 with hZ | hZ
  · exact va_gets hI.1.1 hI.1.2.1 hZ hI.2.2.2.2.1 (own := "java/lang/String") (by rw [← hc]; exact hI.1.2.2.2.1) (hI.1.2.2.2.2.1 _ kj_539) (fun _ h => h) hd k1
  · exact va_gets hI.1.1 hI.1.2.1 hZ hI.2.2.2.2.1 (own := "java/lang/String") (by rw [← hc]; exact hI.1.2.2.2.1) (hI.1.2.2.2.2.1 _ kj_539) (fun _ h => h) hd k2
theorem e_i2c {a : Int} (hd : decode M.2.1 pc = .ok (.i2c, 1)) (ha : 0 ≤ a ∧ a ≤ 255) (kk : Ev G M (pc + 1) ls ((0, a) :: st) μ r μ') : Ev G M pc ls ((0, a) :: st) μ r μ' :=
  Ev.stk (fun _ _ _ _ _ _ _ _ _ _ _ _ hx hb hI k => lv_i2c (v := Int32.ofInt a) hx hb hd (tx_cz ha).2 k) kk
theorem e_nret {a : Int} {ty : FieldType} (hd : decode M.2.1 pc = .ok (.ireturn, 1)) (hr : M.2.2.2.1 = some ty) (hn : narrow ty (.int (Int32.ofInt a)) = .int (Int32.ofInt a)) : Ev G M pc ls [(0, a)] μ (some (0, a)) μ :=
  fun p e s m args below meth c H locs lsA hI => W.zret (v := Int32.ofInt a) hI.1.1 hI.1.2.1 (hI.1.2.2.2.2.2.1.trans hr) hn (fun t ht hW => ⟨⟨rfl, by rw [ht]; exact hI.2.2.1, va_K.moved hW.alike hI.2.1⟩, hI.2.2.2.2.1.F ht⟩) hI.2.2.2.2.1.2.2 hd hI.1.2.2.2.2.2.2
/-- a call of a text's own method -/
theorem e_callVK {i : Nat} {z : Int} (hf : am_Cv M pc M2 n) (hst : st = as.reverse ++ (3, z) :: rest) (hi : i < 6) (hz : z = (i : Int)) (hc : M2.1.cls = "java/lang/String") (hn : as.length = n) (hls : ls2 = am_args ((3, z) :: as) ++ List.replicate k (9, 0)) (hl2 : ls2.length = M2.2.2.1) (ht : am_tok as = true) (hcat : am_cs rest ≤ 8)
    (hcall : Ev G M2 0 ls2 [] μ r1 μ1) (kk : Ev G M (pc + 3) ls (r1.toList ++ rest) μ1 r μ') : Ev G M pc ls st μ r μ' := by
  obtain ⟨idx, hd, hlink, hinst, hsel, hok, hroom⟩ := hf
  intro p e s m args below meth c H locs lsA hI
  obtain ⟨hX, hK, hP, hD, hS, hE, hl⟩ := id hI
  subst hst; subst hz
  have hrec := vk_recv hE.1.1 hi hS
  have hpre := am_pre_call (as := (3, (i : Int)) :: as) hI
  have h3 : am_c G (3, (i : Int)) = .ref (gK G i) := rfl
  rw [List.map_cons, h3] at hpre
  refine am_back hI (va_runV (As := as.map (am_c G)) (rest := rest.map (am_c G)) ⟨hX.1, hX.2.1, hX.2.2.1, hX.2.2.2.1, hX.2.2.2.2.1⟩ (am_met (as := (3, (i : Int)) :: as) hok hls hl2 (by simp [am_tok, ht]) hcall H.size)
    (cwV (C := M2.1.cls) n hX.2.2.2.2.1 (am_good ?_) rfl rfl rfl ⟨rfl, hok.2.2.2⟩ hroom) ⟨hpre.1, by rw [hc]; exact hrec, hpre.2⟩ rfl (by rw [List.length_map, hn]) hl.1 ?_ (lv_room (by rw [am_cs_eq]; exact hcat)) hd ⟨Nat.zero_le _, Nat.zero_le _⟩) (fun H1 locs1 hI1 => ?_)
  · intro w hw
    rcases List.mem_append.mp hw with h | h
    · simp only [List.mem_cons, List.not_mem_nil, or_false] at h
      rcases h with rfl | rfl | rfl | rfl
      · exact hlink
      · exact hinst
      · exact hsel
      · exact hok.2.1
    · exact am_ws_in hok w h
  · show (as.reverse ++ (3, (i : Int)) :: rest).map (am_c G) = _
    rw [List.map_append, List.map_reverse, List.map_cons, h3]
  · have h9 := kk p e s m args below meth c H1 locs1 lsA hI1
    rw [List.map_append] at h9
    cases r1 <;> exact h9
theorem j_coder {i : Nat} {z : Int} (hi : i < 6) (hz : z = (i : Int)) : Ev G M_J_coder 0 [(3, z)] [] μ (some (0, 0)) μ :=
  e_getsC dJ_coder_0 rfl (e_if_eq (tgt := 13) dJ_coder_3 rfl (R32.in (by decide)) (fun h => absurd h (by decide)) (fun _ =>
    e_aload_nS dJ_coder_6 rfl rfl (e_coderK dJ_coder_7 rfl hi hz (e_goto (tgt := 14) dJ_coder_10 rfl (e_nret dJ_coder_14 rfl (by decide +kernel))))))
theorem tx_shr : am_ishr 4 0 = 4 ∧ am_ishr 5 0 = 5 := by decide +kernel
theorem j_len {i : Nat} {z : Int} (hi : i < 6) (hz : z = (i : Int)) : Ev G M_J_len 0 [(3, z)] [] μ (some (0, wln i)) μ := by
  refine e_aload_nS dJ_len_0 rfl rfl (e_valueK dJ_len_1 rfl hi hz (e_alenK dJ_len_4 hi rfl (e_aload_nS dJ_len_5 rfl rfl ?_)))
  refine e_callVK (as := []) (rest := [(0, wln i)]) (k := 0) fJ_len_6 rfl hi hz rfl rfl rfl rfl rfl (Nat.le_of_ble_eq_true rfl) (j_coder hi hz) (e_ishr dJ_len_9 ?_)
  have h9 : am_ishr (wln i) 0 = wln i := by rcases (tx_len i hi).2.2 with h | h <;> rw [h]; exact tx_shr.1; exact tx_shr.2
  rw [h9]
  exact e_ireturn dJ_len_10 rfl
theorem j_isL {i : Nat} {z : Int} (hi : i < 6) (hz : z = (i : Int)) : Ev G M_J_isL 0 [(3, z)] [] μ (some (0, 1)) μ :=
  e_getsC dJ_isL_0 rfl (e_if_eq (tgt := 17) dJ_isL_3 rfl (R32.in (by decide)) (fun h => absurd h (by decide)) (fun _ =>
    e_aload_nS dJ_isL_6 rfl rfl (e_coderK dJ_isL_7 rfl hi hz (e_if_ne (tgt := 17) dJ_isL_10 rfl (R32.in (by decide)) (fun h => absurd rfl h) (fun _ =>
      e_iconst dJ_isL_13 (e_goto (tgt := 18) dJ_isL_14 rfl (e_zreturn dJ_isL_18 rfl (Or.inr rfl))))))))
theorem j_pci {x m : Int} {v : AV} (h : 0 ≤ x ∧ x < m) (hm : m ≤ 1000) : Ev G M_J_pci 0 [(0, x), (0, m), v] [] μ (some (0, x)) μ :=
  e_iload_n dJ_pci_0 rfl rfl (e_if_lt (tgt := 9) dJ_pci_1 rfl (R32.in (by omega)) (fun q => absurd q (by omega)) (fun _ =>
    e_iload_n dJ_pci_4 rfl rfl (e_iload_n dJ_pci_5 rfl rfl (e_icmp_lt (tgt := 16) dJ_pci_6 rfl (R32.in (by omega)) (R32.in (by omega)) (fun _ =>
      e_iload_n dJ_pci_16 rfl rfl (e_ireturn dJ_pci_17 rfl)) (fun q => absurd q (by omega))))))
theorem j_ci {x m : Int} (h : 0 ≤ x ∧ x < m) (hm : m ≤ 1000) : Ev G M_J_ci 0 [(0, x), (0, m)] [] μ none μ :=
  e_iload_n dJ_ci_0 rfl rfl (e_iload_n dJ_ci_1 rfl rfl (e_getsF dJ_ci_2 rfl
    (e_callS (as := [(0, x), (0, m), (2, -1)]) (rest := []) (k := 0) fJ_ci_5 rfl rfl rfl rfl rfl (Nat.le_of_ble_eq_true rfl) (j_pci h hm) (e_pop dJ_ci_8 (show (0 : Nat) ≠ 1 by decide) (e_return dJ_ci_9 rfl)))
    (e_callS (as := [(0, x), (0, m), (3, 12)]) (rest := []) (k := 0) fJ_ci_5 rfl rfl rfl rfl rfl (Nat.le_of_ble_eq_true rfl) (j_pci h hm) (e_pop dJ_ci_8 (show (0 : Nat) ≠ 1 by decide) (e_return dJ_ci_9 rfl)))))
theorem j_lca {i : Nat} {x : Int} (hi : i < 6) (h : 0 ≤ x ∧ x < wln i) : Ev G M_J_lca 0 [(3, ((6 + i : Nat) : Int)), (0, x)] [] μ (some (0, wch i x)) μ := by
  have hl := (tx_len i hi).2
  have hb : 0 ≤ wch i x ∧ wch i x ≤ 255 := by
    obtain ⟨j, rfl⟩ : ∃ j : Nat, x = j := ⟨x.toNat, by omega⟩
    exact (tx_byt i hi j (by omega)).2
  refine e_iload_n dJ_lca_0 rfl rfl (e_aload_nS dJ_lca_1 rfl rfl (e_alenK dJ_lca_2 hi rfl ?_))
  refine e_callS (as := [(0, x), (0, wln i)]) (rest := []) (k := 0) fJ_lca_3 rfl rfl rfl rfl rfl (Nat.le_of_ble_eq_true rfl) (j_ci h (by omega)) ?_
  refine e_aload_nS dJ_lca_6 rfl rfl (e_iload_n dJ_lca_7 rfl rfl (e_baldK dJ_lca_8 hi rfl h (e_sipush dJ_lca_9 (by decide) (e_iand dJ_lca_12 ?_))))
  rw [am_iand255, show wch i x % 256 = wch i x by omega]
  exact e_i2c dJ_lca_13 hb (e_nret dJ_lca_14 rfl (tx_cz hb).1)
theorem j_ca {i : Nat} {z x : Int} (hi : i < 6) (hz : z = (i : Int)) (h : 0 ≤ x ∧ x < wln i) : Ev G M_J_ca 0 [(3, z), (0, x)] [] μ (some (0, wch i x)) μ := by
  have hl := (tx_len i hi).2
  have hb : 0 ≤ wch i x ∧ wch i x ≤ 255 := by
    obtain ⟨j, rfl⟩ : ∃ j : Nat, x = j := ⟨x.toNat, by omega⟩
    exact (tx_byt i hi j (by omega)).2
  refine e_aload_nS dJ_ca_0 rfl rfl ?_
  refine e_callVK (as := []) (rest := []) (k := 0) fJ_ca_1 rfl hi hz rfl rfl rfl rfl rfl (Nat.le_of_ble_eq_true rfl) (j_isL hi hz) ?_
  refine e_if_eq (tgt := 16) dJ_ca_4 rfl (R32.in (by decide)) (fun q => absurd q (by decide)) (fun _ => ?_)
  refine e_aload_nS dJ_ca_7 rfl rfl (e_valueK dJ_ca_8 rfl hi hz (e_iload_n dJ_ca_11 rfl rfl ?_))
  exact e_callS (as := [(3, ((6 + i : Nat) : Int)), (0, x)]) (rest := []) (k := 0) fJ_ca_12 rfl rfl rfl rfl rfl (Nat.le_of_ble_eq_true rfl) (j_lca hi h) (e_nret dJ_ca_15 rfl (tx_cz hb).1)
theorem w_ldcS {i : Nat} {q : Nat × String} {z : Int} (hd : decode M.2.1 pc = .ok (.ldc q.1, 2)) (hc : M.1.cls = "BeamSetter$Reader") (hq : am_txs[i]? = some q) (hz : z = (i : Int)) (kk : Wp G M (pc + 2) ls ((3, z) :: st) μ Q) : Wp G M pc ls st μ Q := Wp.lift (fun _ _ h => e_ldcS hd hc hq hz h) kk
theorem w_lenK {z : Int} {i : Nat} (hf : am_Cv M pc M_J_len 0) (hi : i < 6) (hz : z = (i : Int)) (hcat : am_cs rest ≤ 8) (kk : Wp G M (pc + 3) ls ((0, wln z) :: rest) μ Q) : Wp G M pc ls ((3, z) :: rest) μ Q := by
  subst hz
  exact Wp.lift (fun _ _ h => e_callVK (as := []) (k := 0) hf rfl hi rfl rfl rfl rfl rfl rfl hcat (j_len hi rfl) h) kk
theorem w_chK {z x : Int} {i : Nat} (hf : am_Cv M pc M_J_ca 1) (hi : i < 6) (hz : z = (i : Int)) (h : 0 ≤ x ∧ x < wln z) (hcat : am_cs rest ≤ 8) (kk : Wp G M (pc + 3) ls ((0, wch z x) :: rest) μ Q) : Wp G M pc ls ((0, x) :: (3, z) :: rest) μ Q := by
  subst hz
  exact Wp.lift (fun _ _ h2 => e_callVK (as := [(0, x)]) (k := 0) hf rfl hi rfl rfl rfl rfl rfl rfl hcat (j_ca hi rfl h) h2) kk
end EvTexts
