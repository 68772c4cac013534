/-! ===== The law's loop ===== -/
set_option maxHeartbeats 2000000 in
theorem law_loop {X : AX} {p : Program} {e : Env} {s : State} {m : MethodId} {args : Array Value} {below : List Frame} {meth : Method} {c : Code} {Q : State → Prop} {L : Nat} {xs : Nat → Int32} (hC : LC X s L xs) (hx : xe (GG X) s.heap.size s) (hlf : (gL (GG X)).stackTraces = false)
    (hend : ∀ (μ : Mu) (i : Int) (cells slots : Nat), cells ≤ 1103 → slots ≤ 29613 → Gv (GG X) M_LL room_1 p e s m args below meth c Q cells slots 1581 (lsL i) [] μ) :
    ∀ (r t : Nat) (μ : Mu) (p9 : Int), 6 * t ≤ L → L - 6 * t < r → INV μ p9 → Gv (GG X) M_LL room_1 p e s m args below meth c Q (75 + t) (21397 + 6 * t) 23 (lsL ((6 * t : Nat) : Int)) [] μ := by
  have hL := hC.2.2.2
  intro r
  induction r with
  | zero => intro t μ p9 h1 h2 h3; exact absurd h2 (Nat.not_lt_zero _)
  | succ r ih =>
    intro t μ p9 h1 h2 h
    refine g_iload dL_law_23 rfl ?_
    refine g_aload_nS dL_law_25 rfl rfl ?_
    refine g_slen hC.1 hC.2.1 hC.2.2.1 dL_law_26 ?_
    refine g_bipush dL_law_27 (by decide) ?_
    refine g_isub dL_law_29 ?_
    refine g_icmp_gt (tgt := 1581) dL_law_30 rfl ⟨by omega, by omega⟩ ⟨by omega, by omega⟩ (fun _ => hend μ _ _ _ (by omega) (by omega)) (fun h9 => ?_)
    have hn : 6 * t + 6 ≤ L := by omega
    refine g_aload_nS dL_law_33 rfl rfl ?_
    refine g_iload dL_law_34 rfl ?_
    refine g_sld (j := 6 * t) hC.1 hC.2.1 hC.2.2.1 (by omega) rfl (by omega) dL_law_36 ?_
    refine g_bipush dL_law_37 (by decide) ?_
    refine g_iand dL_law_39 ?_
    have hw : R32 (am_iand (xs (6 * t)).toInt 63) := am_toInt_r _
    generalize am_iand (xs (6 * t)).toInt 63 = w at hw ⊢
    have hw2 := hw.1
    have hw3 := hw.2
    have hs : ∀ (μ' : Mu) (p' : Int), INV μ' p' → Gv (GG X) M_LL room_1 p e s m args below meth c Q (75 + (t + 1)) (21397 + 6 * (t + 1)) 1575 (lsL ((6 * t : Nat) : Int)) [] μ' := fun μ' p' q2 => by
      refine g_iinc dL_law_1575 rfl (Nat.le_of_ble_eq_true rfl) rfl ?_
      refine g_goto (tgt := 23) dL_law_1578 rfl ?_
      have h8 := ih (t + 1) μ' p' (by omega) (by omega) q2
      rw [show ((6 * (t + 1) : Nat) : Int) = ((6 * t : Nat) : Int) + 6 by omega] at h8
      exact h8
    have hk : ∀ (μ' : Mu) (p' : Int), INV μ' p' → Gv (GG X) M_LL room_1 p e s m args below meth c Q (75 + t) (21397 + 6 * t) 1575 (lsL ((6 * t : Nat) : Int)) [] μ' := fun μ' p' q2 => g_widen (by omega) (by omega) (hs μ' p' q2)
    have hk1 : ∀ (μ' : Mu) (p' : Int), INV μ' p' → Gv (GG X) M_LL room_1 p e s m args below meth c Q (75 + t + 1) (21397 + 6 * t + 6) 1575 (lsL ((6 * t : Nat) : Int)) [] μ' := fun μ' p' q2 => g_widen (by omega) (by omega) (hs μ' p' q2)
    have hr : 75 + t ≤ room_1.cells ∧ 21397 + 6 * t ≤ room_1.slots := ⟨by show 75 + t ≤ 1103; omega, by show 21397 + 6 * t ≤ 29613; omega⟩
    have hr1 : 75 + t + 1 ≤ room_1.cells ∧ 21397 + 6 * t + 6 ≤ room_1.slots := ⟨by show 75 + t + 1 ≤ 1103; omega, by show 21397 + 6 * t + 6 ≤ 29613; omega⟩
    rcases (show (w < 0 ∨ 36 < w) ∨ w = 0 ∨ w = 1 ∨ w = 2 ∨ w = 3 ∨ w = 4 ∨ w = 5 ∨ w = 6 ∨ w = 7 ∨ w = 8 ∨ w = 9 ∨ w = 10 ∨ w = 11 ∨ w = 12 ∨ w = 13 ∨ w = 14 ∨ w = 15 ∨ w = 16 ∨ w = 17 ∨ w = 18 ∨ w = 19 ∨ w = 20 ∨ w = 21 ∨ w = 22 ∨ w = 23 ∨ w = 24 ∨ w = 25 ∨ w = 26 ∨ w = 27 ∨ w = 28 ∨ w = 29 ∨ w = 30 ∨ w = 31 ∨ w = 32 ∨ w = 33 ∨ w = 34 ∨ w = 35 ∨ w = 36 by omega) with q | q | q | q | q | q | q | q | q | q | q | q | q | q | q | q | q | q | q | q | q | q | q | q | q | q | q | q | q | q | q | q | q | q | q | q | q | q
    · refine g_tableOut (tgt := 1575) dL_law_40 hw q rfl ?_
      exact hk μ p9 h
    · refine g_tableIn (off := 164) (tgt := 204) dL_law_40 hw (by omega) (by omega) (by rw [q]; rfl) rfl ?_
      exact lc_feed hC hr hn h hk
    · refine g_tableIn (off := 237) (tgt := 277) dL_law_40 hw (by omega) (by omega) (by rw [q]; rfl) rfl ?_
      exact lc_text hC hr hn h hk
    · refine g_tableIn (off := 262) (tgt := 302) dL_law_40 hw (by omega) (by omega) (by rw [q]; rfl) rfl ?_
      exact lc_fault hC hr hn h hk
    · refine g_tableIn (off := 287) (tgt := 327) dL_law_40 hw (by omega) (by omega) (by rw [q]; rfl) rfl ?_
      exact lc_element hC hx hlf hr1 hn h hk1
    · refine g_tableIn (off := 355) (tgt := 395) dL_law_40 hw (by omega) (by omega) (by rw [q]; rfl) rfl ?_
      exact lc_position hC hr hn h hk
    · refine g_tableIn (off := 380) (tgt := 420) dL_law_40 hw (by omega) (by omega) (by rw [q]; rfl) rfl ?_
      exact lc_direction hC hr hn h hk
    · refine g_tableIn (off := 405) (tgt := 445) dL_law_40 hw (by omega) (by omega) (by rw [q]; rfl) rfl ?_
      exact lc_put hC hr hn h hk
    · refine g_tableIn (off := 442) (tgt := 482) dL_law_40 hw (by omega) (by omega) (by rw [q]; rfl) rfl ?_
      exact lc_undo hC hr hn h hk
    · refine g_tableIn (off := 455) (tgt := 495) dL_law_40 hw (by omega) (by omega) (by rw [q]; rfl) rfl ?_
      exact lc_group hC hx hlf hr1 hn h hk1
    · refine g_tableIn (off := 523) (tgt := 563) dL_law_40 hw (by omega) (by omega) (by rw [q]; rfl) rfl ?_
      exact lc_want hC hr hn h hk
    · refine g_tableIn (off := 548) (tgt := 588) dL_law_40 hw (by omega) (by omega) (by rw [q]; rfl) rfl ?_
      exact lc_ideal hC hr hn h hk
    · refine g_tableIn (off := 573) (tgt := 613) dL_law_40 hw (by omega) (by omega) (by rw [q]; rfl) rfl ?_
      exact lc_ugliness hC hr hn h hk
    · refine g_tableIn (off := 634) (tgt := 674) dL_law_40 hw (by omega) (by omega) (by rw [q]; rfl) rfl ?_
      exact lc_best hC hr hn h hk
    · refine g_tableIn (off := 671) (tgt := 711) dL_law_40 hw (by omega) (by omega) (by rw [q]; rfl) rfl ?_
      exact lc_ranked hC hr hn h hk
    · refine g_tableIn (off := 720) (tgt := 760) dL_law_40 hw (by omega) (by omega) (by rw [q]; rfl) rfl ?_
      exact lc_rank hC hr hn h hk
    · refine g_tableIn (off := 769) (tgt := 809) dL_law_40 hw (by omega) (by omega) (by rw [q]; rfl) rfl ?_
      exact lc_stem hC hr hn h hk
    · refine g_tableIn (off := 806) (tgt := 846) dL_law_40 hw (by omega) (by omega) (by rw [q]; rfl) rfl ?_
      exact lc_touch hC hr hn h hk
    · refine g_tableIn (off := 855) (tgt := 895) dL_law_40 hw (by omega) (by omega) (by rw [q]; rfl) rfl ?_
      exact lc_beams hC hr hn h hk
    · refine g_tableIn (off := 892) (tgt := 932) dL_law_40 hw (by omega) (by omega) (by rw [q]; rfl) rfl ?_
      exact lc_total hC hr hn h hk
    · refine g_tableIn (off := 917) (tgt := 957) dL_law_40 hw (by omega) (by omega) (by rw [q]; rfl) rfl ?_
      exact lc_ifPut hC hr hn h hk
    · refine g_tableIn (off := 966) (tgt := 1006) dL_law_40 hw (by omega) (by omega) (by rw [q]; rfl) rfl ?_
      exact lc_wish hC hr hn h hk
    · refine g_tableIn (off := 991) (tgt := 1031) dL_law_40 hw (by omega) (by omega) (by rw [q]; rfl) rfl ?_
      exact lc_ifShifted hC hr hn h hk
    · refine g_tableIn (off := 1028) (tgt := 1068) dL_law_40 hw (by omega) (by omega) (by rw [q]; rfl) rfl ?_
      exact lc_shift hC hr hn h hk
    · refine g_tableIn (off := 1041) (tgt := 1081) dL_law_40 hw (by omega) (by omega) (by rw [q]; rfl) rfl ?_
      exact lc_mirrored hC hr hn h hk
    · refine g_tableIn (off := 1066) (tgt := 1106) dL_law_40 hw (by omega) (by omega) (by rw [q]; rfl) rfl ?_
      exact lc_ifKnee hC hr hn h hk
    · refine g_tableIn (off := 1103) (tgt := 1143) dL_law_40 hw (by omega) (by omega) (by rw [q]; rfl) rfl ?_
      exact lc_ifParts hC hr hn h hk
    · refine g_tableIn (off := 1128) (tgt := 1168) dL_law_40 hw (by omega) (by omega) (by rw [q]; rfl) rfl ?_
      exact lc_alone hC hr hn h hk
    · refine g_tableIn (off := 1153) (tgt := 1193) dL_law_40 hw (by omega) (by omega) (by rw [q]; rfl) rfl ?_
      exact lc_stretches hC hr hn h hk
    · refine g_tableIn (off := 1190) (tgt := 1230) dL_law_40 hw (by omega) (by omega) (by rw [q]; rfl) rfl ?_
      exact lc_stretch hC hr hn h hk
    · refine g_tableIn (off := 1251) (tgt := 1291) dL_law_40 hw (by omega) (by omega) (by rw [q]; rfl) rfl ?_
      exact lc_level hC hr hn h hk
    · refine g_tableIn (off := 1288) (tgt := 1328) dL_law_40 hw (by omega) (by omega) (by rw [q]; rfl) rfl ?_
      exact lc_ifCut hC hr hn h hk
    · refine g_tableIn (off := 1325) (tgt := 1365) dL_law_40 hw (by omega) (by omega) (by rw [q]; rfl) rfl ?_
      exact lc_cut hC hr hn h hk
    · refine g_tableIn (off := 1350) (tgt := 1390) dL_law_40 hw (by omega) (by omega) (by rw [q]; rfl) rfl ?_
      exact lc_smooth hC hr hn h hk
    · refine g_tableIn (off := 1387) (tgt := 1427) dL_law_40 hw (by omega) (by omega) (by rw [q]; rfl) rfl ?_
      exact lc_smoothed hC hr hn h hk
    · refine g_tableIn (off := 1436) (tgt := 1476) dL_law_40 hw (by omega) (by omega) (by rw [q]; rfl) rfl ?_
      exact lc_single hC hr hn h hk
    · refine g_tableIn (off := 1473) (tgt := 1513) dL_law_40 hw (by omega) (by omega) (by rw [q]; rfl) rfl ?_
      exact lc_extreme hC hr hn h hk
    · refine g_tableIn (off := 1510) (tgt := 1550) dL_law_40 hw (by omega) (by omega) (by rw [q]; rfl) rfl ?_
      exact lc_count hC hr hn h hk
