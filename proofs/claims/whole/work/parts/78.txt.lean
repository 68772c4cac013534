set_option maxRecDepth 100000 in
set_option maxHeartbeats 4000000 in
theorem s_X8_text (X : AX) (b : Int → Int) (p : Int) (n : Int) (μ : Mu) (hp : p = 20 ∨ p = 31) (h35 : 0 ≤ μ 45 35 ∧ μ 45 35 ≤ 900) (hb : ∀ j : Int, 0 ≤ j → j < 900 → (0 ≤ b j ∧ b j ≤ 255) ∧ μ 62 j % 256 = b j) (hn32 : -2147483648 ≤ n ∧ n ≤ 2147483647) (hC : (0 ≤ n ∧ n ≤ μ 45 35) → (rdN b n n.toNat S0 0).1 = 0 → CPG (rdN b n n.toNat S0 0).2.2.1 p μ) : Wp (GG X) M_X8_text 0 [(2, 45), (0, n), (9, 0), (9, 0)] [] μ (qI 0 fun z μ' => (Fr 45 45 46 68 μ' μ) ∧ ((((n < 0 ∨ μ 45 35 < n) → z = -2 ∧ μ' = am_up μ 45 0 0) ∧ ((0 ≤ n ∧ n ≤ μ 45 35) → μ' 45 35 = 0 ∧ μ' 45 0 = 0 ∧ ((z = -1 ∧ ¬ (rdN b n n.toNat S0 0).1 = 0 ∧ μ' 45 41 = (rdN b n n.toNat S0 0).1 ∧ μ' 45 42 = (rdN b n n.toNat S0 0).2.1 ∧ TXK μ μ') ∨ (z = (rdN b n n.toNat S0 0).2.2.1 0 1 ∧ (rdN b n n.toNat S0 0).1 = 0 ∧ μ' 45 41 = 0 ∧ μ' 45 42 = -1 ∧ μ' 45 60 = 0 ∧ RJ μ' p ∧ RX μ' p))))) ∧ (μ' 62 = μ 62)) := by
  refine w_aload_n dX8_text_0 rfl rfl (by first | decide | omega) ?_
  refine w_iconst dX8_text_1 ?_
  refine w_putI (o := 45) (f := 0) fX8_text_2 rfl rfl rfl rfl rfl ?_
  refine w_iload_n dX8_text_5 rfl rfl ?_
  refine w_iconst dX8_text_6 ?_
  refine w_aload_n dX8_text_7 rfl rfl (by first | decide | omega) ?_
  refine w_getIx (o := 45) (f := 35) (x := μ 45 35) fX8_text_8 rfl rfl (Nat.le_of_ble_eq_true rfl) rfl (am_up_nk (by omega)) ?_
  refine w_callSP (as := [(0, n), (0, 0), (0, μ 45 35)]) (rest := []) (k := 0) fX8_text_11 rfl rfl rfl rfl rfl (Nat.le_of_ble_eq_true rfl) (s_X8_isIn X n 0 (μ 45 35) (am_up μ 45 0 0) (by first | omega | assumption) (by first | omega | assumption) (by first | omega | assumption)) ?_
  have hf1 := am_b_r (0 ≤ n ∧ n ≤ (μ 45 35))
  refine w_if_ne (tgt := 20) dX8_text_14 rfl (R32.in (by have := am_b_r ((0 ≤ n ∧ n ≤ (μ 45 35))); omega)) (fun c14 => ?_) (fun c14 => ?_)
  · skip
    replace c14 := am_b1 c14
    have hbb : BB b n := ⟨⟨c14.1, by omega⟩, fun j9 h1 h2 => (hb j9 h1 (by omega)).1⟩
    refine w_aload_n dX8_text_20 rfl rfl (by first | decide | omega) ?_
    refine w_iconst dX8_text_21 ?_
    refine w_putI (o := 45) (f := 35) fX8_text_22 rfl rfl rfl rfl rfl ?_
    refine w_aload_n dX8_text_25 rfl rfl (by first | decide | omega) ?_
    refine w_iload_n dX8_text_26 rfl rfl ?_
    refine w_putI (o := 45) (f := 36) fX8_text_27 rfl rfl rfl rfl rfl ?_
    refine w_aload_n dX8_text_30 rfl rfl (by first | decide | omega) ?_
    refine w_iconst dX8_text_31 ?_
    refine w_putI (o := 45) (f := 37) fX8_text_32 rfl rfl rfl rfl rfl ?_
    refine w_aload_n dX8_text_35 rfl rfl (by first | decide | omega) ?_
    refine w_iconst dX8_text_36 ?_
    refine w_putZ (o := 45) (f := 43) fX8_text_37 rfl rfl rfl rfl rfl (Or.inl rfl) ?_
    refine w_aload_n dX8_text_40 rfl rfl (by first | decide | omega) ?_
    refine w_iconst dX8_text_41 ?_
    refine w_putI (o := 45) (f := 41) fX8_text_42 rfl rfl rfl rfl rfl ?_
    refine w_aload_n dX8_text_45 rfl rfl (by first | decide | omega) ?_
    refine w_iconst dX8_text_46 ?_
    refine w_putI (o := 45) (f := 42) fX8_text_47 rfl rfl rfl rfl rfl ?_
    refine w_aload_n dX8_text_50 rfl rfl (by first | decide | omega) ?_
    refine w_iconst dX8_text_51 ?_
    refine w_putI (o := 45) (f := 44) fX8_text_52 rfl rfl rfl rfl rfl ?_
    refine w_aload_n dX8_text_55 rfl rfl (by first | decide | omega) ?_
    refine w_iconst dX8_text_56 ?_
    refine w_putI (o := 45) (f := 45) fX8_text_57 rfl rfl rfl rfl rfl ?_
    refine w_aload_n dX8_text_60 rfl rfl (by first | decide | omega) ?_
    refine w_iconst dX8_text_61 ?_
    refine w_putI (o := 45) (f := 47) fX8_text_62 rfl rfl rfl rfl rfl ?_
    refine w_aload_n dX8_text_65 rfl rfl (by first | decide | omega) ?_
    refine w_bipush dX8_text_66 (by decide) ?_
    refine w_putI (o := 45) (f := 48) fX8_text_68 rfl rfl rfl rfl rfl ?_
    refine w_aload_n dX8_text_71 rfl rfl (by first | decide | omega) ?_
    refine w_getR (o := 45) (x := 64) fX8_text_72 rfl rfl rfl rfl ?_
    refine w_iconst dX8_text_75 ?_
    refine w_bipush dX8_text_76 (by decide) ?_
    refine w_iast (o := 64) (n := 4) dX8_text_78 rfl rfl (Nat.le_of_ble_eq_true rfl) (by omega) (by omega) ?_
    refine w_aload_n dX8_text_79 rfl rfl (by first | decide | omega) ?_
    refine w_getR (o := 45) (x := 64) fX8_text_80 rfl rfl rfl rfl ?_
    refine w_iconst dX8_text_83 ?_
    refine w_bipush dX8_text_84 (by decide) ?_
    refine w_iast (o := 64) (n := 4) dX8_text_86 rfl rfl (Nat.le_of_ble_eq_true rfl) (by omega) (by omega) ?_
    refine w_aload_n dX8_text_87 rfl rfl (by first | decide | omega) ?_
    refine w_getR (o := 45) (x := 64) fX8_text_88 rfl rfl rfl rfl ?_
    refine w_iconst dX8_text_91 ?_
    refine w_bipush dX8_text_92 (by decide) ?_
    refine w_iast (o := 64) (n := 4) dX8_text_94 rfl rfl (Nat.le_of_ble_eq_true rfl) (by omega) (by omega) ?_
    refine w_aload_n dX8_text_95 rfl rfl (by first | decide | omega) ?_
    refine w_getR (o := 45) (x := 64) fX8_text_96 rfl rfl rfl rfl ?_
    refine w_iconst dX8_text_99 ?_
    refine w_bipush dX8_text_100 (by decide) ?_
    refine w_iast (o := 64) (n := 4) dX8_text_102 rfl rfl (Nat.le_of_ble_eq_true rfl) (by omega) (by omega) ?_
    have hF_μ4 : Fr 45 45 64 64 (am_up (am_up (am_up (am_up (am_up (am_up (am_up (am_up (am_up (am_up (am_up (am_up (am_up (am_up (am_up μ 45 0 0) 45 35 0) 45 36 n) 45 37 0) 45 43 0) 45 41 0) 45 42 (-1)) 45 44 4) 45 45 4) 45 47 0) 45 48 9) 64 0 24) 64 1 16) 64 2 12) 64 3 9) μ := (((((((((((((((Fr.rf.up (by omega)).up (by omega)).up (by omega)).up (by omega)).up (by omega)).up (by omega)).up (by omega)).up (by omega)).up (by omega)).up (by omega)).up (by omega)).up (by omega)).up (by omega)).up (by omega)).up (by omega))
    have h4_0 : (am_up (am_up (am_up (am_up (am_up (am_up (am_up (am_up (am_up (am_up (am_up (am_up (am_up (am_up (am_up μ 45 0 0) 45 35 0) 45 36 n) 45 37 0) 45 43 0) 45 41 0) 45 42 (-1)) 45 44 4) 45 45 4) 45 47 0) 45 48 9) 64 0 24) 64 1 16) 64 2 12) 64 3 9) 45 0 = 0 := (((congrFun (am_up_o (by first | decide | omega)) _).trans ((congrFun (am_up_o (by first | decide | omega)) _).trans ((congrFun (am_up_o (by first | decide | omega)) _).trans ((congrFun (am_up_o (by first | decide | omega)) _).trans ((am_up_nk (by omega)).trans ((am_up_nk (by omega)).trans ((am_up_nk (by omega)).trans ((am_up_nk (by omega)).trans ((am_up_nk (by omega)).trans ((am_up_nk (by omega)).trans ((am_up_nk (by omega)).trans ((am_up_nk (by omega)).trans ((am_up_nk (by omega)).trans ((am_up_nk (by omega)).trans am_up_at)))))))))))))).trans (by rfl))
    have h4_35 : (am_up (am_up (am_up (am_up (am_up (am_up (am_up (am_up (am_up (am_up (am_up (am_up (am_up (am_up (am_up μ 45 0 0) 45 35 0) 45 36 n) 45 37 0) 45 43 0) 45 41 0) 45 42 (-1)) 45 44 4) 45 45 4) 45 47 0) 45 48 9) 64 0 24) 64 1 16) 64 2 12) 64 3 9) 45 35 = 0 := (((congrFun (am_up_o (by first | decide | omega)) _).trans ((congrFun (am_up_o (by first | decide | omega)) _).trans ((congrFun (am_up_o (by first | decide | omega)) _).trans ((congrFun (am_up_o (by first | decide | omega)) _).trans ((am_up_nk (by omega)).trans ((am_up_nk (by omega)).trans ((am_up_nk (by omega)).trans ((am_up_nk (by omega)).trans ((am_up_nk (by omega)).trans ((am_up_nk (by omega)).trans ((am_up_nk (by omega)).trans ((am_up_nk (by omega)).trans ((am_up_nk (by omega)).trans am_up_at))))))))))))).trans (by rfl))
    have h4_36 : (am_up (am_up (am_up (am_up (am_up (am_up (am_up (am_up (am_up (am_up (am_up (am_up (am_up (am_up (am_up μ 45 0 0) 45 35 0) 45 36 n) 45 37 0) 45 43 0) 45 41 0) 45 42 (-1)) 45 44 4) 45 45 4) 45 47 0) 45 48 9) 64 0 24) 64 1 16) 64 2 12) 64 3 9) 45 36 = n := (((congrFun (am_up_o (by first | decide | omega)) _).trans ((congrFun (am_up_o (by first | decide | omega)) _).trans ((congrFun (am_up_o (by first | decide | omega)) _).trans ((congrFun (am_up_o (by first | decide | omega)) _).trans ((am_up_nk (by omega)).trans ((am_up_nk (by omega)).trans ((am_up_nk (by omega)).trans ((am_up_nk (by omega)).trans ((am_up_nk (by omega)).trans ((am_up_nk (by omega)).trans ((am_up_nk (by omega)).trans ((am_up_nk (by omega)).trans am_up_at)))))))))))).trans (by rfl))
    have h4_37 : (am_up (am_up (am_up (am_up (am_up (am_up (am_up (am_up (am_up (am_up (am_up (am_up (am_up (am_up (am_up μ 45 0 0) 45 35 0) 45 36 n) 45 37 0) 45 43 0) 45 41 0) 45 42 (-1)) 45 44 4) 45 45 4) 45 47 0) 45 48 9) 64 0 24) 64 1 16) 64 2 12) 64 3 9) 45 37 = 0 := (((congrFun (am_up_o (by first | decide | omega)) _).trans ((congrFun (am_up_o (by first | decide | omega)) _).trans ((congrFun (am_up_o (by first | decide | omega)) _).trans ((congrFun (am_up_o (by first | decide | omega)) _).trans ((am_up_nk (by omega)).trans ((am_up_nk (by omega)).trans ((am_up_nk (by omega)).trans ((am_up_nk (by omega)).trans ((am_up_nk (by omega)).trans ((am_up_nk (by omega)).trans ((am_up_nk (by omega)).trans am_up_at))))))))))).trans (by rfl))
    have h4_41 : (am_up (am_up (am_up (am_up (am_up (am_up (am_up (am_up (am_up (am_up (am_up (am_up (am_up (am_up (am_up μ 45 0 0) 45 35 0) 45 36 n) 45 37 0) 45 43 0) 45 41 0) 45 42 (-1)) 45 44 4) 45 45 4) 45 47 0) 45 48 9) 64 0 24) 64 1 16) 64 2 12) 64 3 9) 45 41 = 0 := (((congrFun (am_up_o (by first | decide | omega)) _).trans ((congrFun (am_up_o (by first | decide | omega)) _).trans ((congrFun (am_up_o (by first | decide | omega)) _).trans ((congrFun (am_up_o (by first | decide | omega)) _).trans ((am_up_nk (by omega)).trans ((am_up_nk (by omega)).trans ((am_up_nk (by omega)).trans ((am_up_nk (by omega)).trans ((am_up_nk (by omega)).trans am_up_at))))))))).trans (by rfl))
    have h4_42 : (am_up (am_up (am_up (am_up (am_up (am_up (am_up (am_up (am_up (am_up (am_up (am_up (am_up (am_up (am_up μ 45 0 0) 45 35 0) 45 36 n) 45 37 0) 45 43 0) 45 41 0) 45 42 (-1)) 45 44 4) 45 45 4) 45 47 0) 45 48 9) 64 0 24) 64 1 16) 64 2 12) 64 3 9) 45 42 = -1 := (((congrFun (am_up_o (by first | decide | omega)) _).trans ((congrFun (am_up_o (by first | decide | omega)) _).trans ((congrFun (am_up_o (by first | decide | omega)) _).trans ((congrFun (am_up_o (by first | decide | omega)) _).trans ((am_up_nk (by omega)).trans ((am_up_nk (by omega)).trans ((am_up_nk (by omega)).trans ((am_up_nk (by omega)).trans am_up_at)))))))).trans (by rfl))
    have h4_43 : (am_up (am_up (am_up (am_up (am_up (am_up (am_up (am_up (am_up (am_up (am_up (am_up (am_up (am_up (am_up μ 45 0 0) 45 35 0) 45 36 n) 45 37 0) 45 43 0) 45 41 0) 45 42 (-1)) 45 44 4) 45 45 4) 45 47 0) 45 48 9) 64 0 24) 64 1 16) 64 2 12) 64 3 9) 45 43 = 0 := (((congrFun (am_up_o (by first | decide | omega)) _).trans ((congrFun (am_up_o (by first | decide | omega)) _).trans ((congrFun (am_up_o (by first | decide | omega)) _).trans ((congrFun (am_up_o (by first | decide | omega)) _).trans ((am_up_nk (by omega)).trans ((am_up_nk (by omega)).trans ((am_up_nk (by omega)).trans ((am_up_nk (by omega)).trans ((am_up_nk (by omega)).trans ((am_up_nk (by omega)).trans am_up_at)))))))))).trans (by rfl))
    have h4_44 : (am_up (am_up (am_up (am_up (am_up (am_up (am_up (am_up (am_up (am_up (am_up (am_up (am_up (am_up (am_up μ 45 0 0) 45 35 0) 45 36 n) 45 37 0) 45 43 0) 45 41 0) 45 42 (-1)) 45 44 4) 45 45 4) 45 47 0) 45 48 9) 64 0 24) 64 1 16) 64 2 12) 64 3 9) 45 44 = 4 := (((congrFun (am_up_o (by first | decide | omega)) _).trans ((congrFun (am_up_o (by first | decide | omega)) _).trans ((congrFun (am_up_o (by first | decide | omega)) _).trans ((congrFun (am_up_o (by first | decide | omega)) _).trans ((am_up_nk (by omega)).trans ((am_up_nk (by omega)).trans ((am_up_nk (by omega)).trans am_up_at))))))).trans (by rfl))
    have h4_45 : (am_up (am_up (am_up (am_up (am_up (am_up (am_up (am_up (am_up (am_up (am_up (am_up (am_up (am_up (am_up μ 45 0 0) 45 35 0) 45 36 n) 45 37 0) 45 43 0) 45 41 0) 45 42 (-1)) 45 44 4) 45 45 4) 45 47 0) 45 48 9) 64 0 24) 64 1 16) 64 2 12) 64 3 9) 45 45 = 4 := (((congrFun (am_up_o (by first | decide | omega)) _).trans ((congrFun (am_up_o (by first | decide | omega)) _).trans ((congrFun (am_up_o (by first | decide | omega)) _).trans ((congrFun (am_up_o (by first | decide | omega)) _).trans ((am_up_nk (by omega)).trans ((am_up_nk (by omega)).trans am_up_at)))))).trans (by rfl))
    have h4_47 : (am_up (am_up (am_up (am_up (am_up (am_up (am_up (am_up (am_up (am_up (am_up (am_up (am_up (am_up (am_up μ 45 0 0) 45 35 0) 45 36 n) 45 37 0) 45 43 0) 45 41 0) 45 42 (-1)) 45 44 4) 45 45 4) 45 47 0) 45 48 9) 64 0 24) 64 1 16) 64 2 12) 64 3 9) 45 47 = 0 := (((congrFun (am_up_o (by first | decide | omega)) _).trans ((congrFun (am_up_o (by first | decide | omega)) _).trans ((congrFun (am_up_o (by first | decide | omega)) _).trans ((congrFun (am_up_o (by first | decide | omega)) _).trans ((am_up_nk (by omega)).trans am_up_at))))).trans (by rfl))
    have h4_48 : (am_up (am_up (am_up (am_up (am_up (am_up (am_up (am_up (am_up (am_up (am_up (am_up (am_up (am_up (am_up μ 45 0 0) 45 35 0) 45 36 n) 45 37 0) 45 43 0) 45 41 0) 45 42 (-1)) 45 44 4) 45 45 4) 45 47 0) 45 48 9) 64 0 24) 64 1 16) 64 2 12) 64 3 9) 45 48 = 9 := (((congrFun (am_up_o (by first | decide | omega)) _).trans ((congrFun (am_up_o (by first | decide | omega)) _).trans ((congrFun (am_up_o (by first | decide | omega)) _).trans ((congrFun (am_up_o (by first | decide | omega)) _).trans am_up_at)))).trans (by rfl))
    have h4f : ∀ k9 : Int, (¬ k9 = 0 ∧ ¬ k9 = 35 ∧ ¬ k9 = 36 ∧ ¬ k9 = 37 ∧ ¬ k9 = 41 ∧ ¬ k9 = 42 ∧ ¬ k9 = 43 ∧ ¬ k9 = 44 ∧ ¬ k9 = 45 ∧ ¬ k9 = 47 ∧ ¬ k9 = 48) → (am_up (am_up (am_up (am_up (am_up (am_up (am_up (am_up (am_up (am_up (am_up (am_up (am_up (am_up (am_up μ 45 0 0) 45 35 0) 45 36 n) 45 37 0) 45 43 0) 45 41 0) 45 42 (-1)) 45 44 4) 45 45 4) 45 47 0) 45 48 9) 64 0 24) 64 1 16) 64 2 12) 64 3 9) 45 k9 = μ 45 k9 := (fun k h1 => ((congrFun (am_up_o (by omega)) _).trans ((congrFun (am_up_o (by omega)) _).trans ((congrFun (am_up_o (by omega)) _).trans ((congrFun (am_up_o (by omega)) _).trans ((am_up_nk (by omega)).trans ((am_up_nk (by omega)).trans ((am_up_nk (by omega)).trans ((am_up_nk (by omega)).trans ((am_up_nk (by omega)).trans ((am_up_nk (by omega)).trans ((am_up_nk (by omega)).trans ((am_up_nk (by omega)).trans ((am_up_nk (by omega)).trans ((am_up_nk (by omega)).trans (am_up_nk (by omega)))))))))))))))))
    have h4w0 : (am_up (am_up (am_up (am_up (am_up (am_up (am_up (am_up (am_up (am_up (am_up (am_up (am_up (am_up (am_up μ 45 0 0) 45 35 0) 45 36 n) 45 37 0) 45 43 0) 45 41 0) 45 42 (-1)) 45 44 4) 45 45 4) 45 47 0) 45 48 9) 64 0 24) 64 1 16) 64 2 12) 64 3 9) 64 0 = 24 := (((am_up_nk (by omega)).trans ((am_up_nk (by omega)).trans ((am_up_nk (by omega)).trans am_up_at))).trans (by rfl))
    have h4w1 : (am_up (am_up (am_up (am_up (am_up (am_up (am_up (am_up (am_up (am_up (am_up (am_up (am_up (am_up (am_up μ 45 0 0) 45 35 0) 45 36 n) 45 37 0) 45 43 0) 45 41 0) 45 42 (-1)) 45 44 4) 45 45 4) 45 47 0) 45 48 9) 64 0 24) 64 1 16) 64 2 12) 64 3 9) 64 1 = 16 := (((am_up_nk (by omega)).trans ((am_up_nk (by omega)).trans am_up_at)).trans (by rfl))
    have h4w2 : (am_up (am_up (am_up (am_up (am_up (am_up (am_up (am_up (am_up (am_up (am_up (am_up (am_up (am_up (am_up μ 45 0 0) 45 35 0) 45 36 n) 45 37 0) 45 43 0) 45 41 0) 45 42 (-1)) 45 44 4) 45 45 4) 45 47 0) 45 48 9) 64 0 24) 64 1 16) 64 2 12) 64 3 9) 64 2 = 12 := (((am_up_nk (by omega)).trans am_up_at).trans (by rfl))
    have h4w3 : (am_up (am_up (am_up (am_up (am_up (am_up (am_up (am_up (am_up (am_up (am_up (am_up (am_up (am_up (am_up μ 45 0 0) 45 35 0) 45 36 n) 45 37 0) 45 43 0) 45 41 0) 45 42 (-1)) 45 44 4) 45 45 4) 45 47 0) 45 48 9) 64 0 24) 64 1 16) 64 2 12) 64 3 9) 64 3 = 9 := (am_up_at.trans (by rfl))
    refine Wp.mu (fun μ4 hμ4 => ?_)
    rw [← hμ4] at hF_μ4 h4_0 h4_35 h4_36 h4_37 h4_41 h4_42 h4_43 h4_44 h4_45 h4_47 h4_48 h4f h4w0 h4w1 h4w2 h4w3
    clear hμ4
    refine w_iconst dX8_text_103 ?_
    refine w_istore_n (ls' := [(2, 45), (0, n), (0, 0), (9, 0)]) dX8_text_104 rfl (Nat.le_of_ble_eq_true rfl) rfl rfl ?_
    have hL105 : ∀ (n105 : Nat) (k : Int) (μ5 : Mu), (4 - k).toNat = n105 → Fr 68 68 1 0 μ5 μ4 → (0 ≤ k ∧ k ≤ 4) → (∀ j9 : Int, 0 ≤ j9 → j9 < k → μ5 68 j9 = 0) → Wp (GG X) M_X8_text 105 [(2, 45), (0, n), (0, k), (9, 0)] [] μ5 (qI 0 fun z μ' => (Fr 45 45 46 68 μ' μ) ∧ ((((n < 0 ∨ μ 45 35 < n) → z = -2 ∧ μ' = am_up μ 45 0 0) ∧ ((0 ≤ n ∧ n ≤ μ 45 35) → μ' 45 35 = 0 ∧ μ' 45 0 = 0 ∧ ((z = -1 ∧ ¬ (rdN b n n.toNat S0 0).1 = 0 ∧ μ' 45 41 = (rdN b n n.toNat S0 0).1 ∧ μ' 45 42 = (rdN b n n.toNat S0 0).2.1 ∧ TXK μ μ') ∨ (z = (rdN b n n.toNat S0 0).2.2.1 0 1 ∧ (rdN b n n.toNat S0 0).1 = 0 ∧ μ' 45 41 = 0 ∧ μ' 45 42 = -1 ∧ μ' 45 60 = 0 ∧ RJ μ' p ∧ RX μ' p))))) ∧ (μ' 62 = μ 62)) := by
      intro n105
      induction n105 using Nat.strongRecOn with
      | ind n105 ih105 =>
        intro k μ5 hn105 hF105 hk0 h68
        refine w_iload_n dX8_text_105 rfl rfl ?_
        refine w_iconst dX8_text_106 ?_
        refine w_icmp_ge (tgt := 123) dX8_text_107 rfl (R32.in (by omega)) (R32.in (by decide)) (fun c107 => ?_) (fun c107 => ?_)
        · skip
          refine w_aload_n dX8_text_123 rfl rfl (by first | decide | omega) ?_
          refine w_iconst dX8_text_124 ?_
          refine w_putZ (o := 45) (f := 54) fX8_text_125 rfl rfl rfl rfl rfl (Or.inl rfl) ?_
          refine w_aload_n dX8_text_128 rfl rfl (by first | decide | omega) ?_
          refine w_iconst dX8_text_129 ?_
          refine w_putZ (o := 45) (f := 55) fX8_text_130 rfl rfl rfl rfl rfl (Or.inl rfl) ?_
          refine w_aload_n dX8_text_133 rfl rfl (by first | decide | omega) ?_
          refine w_iconst dX8_text_134 ?_
          refine w_putI (o := 45) (f := 50) fX8_text_135 rfl rfl rfl rfl rfl ?_
          refine w_aload_n dX8_text_138 rfl rfl (by first | decide | omega) ?_
          refine w_iconst dX8_text_139 ?_
          refine w_putI (o := 45) (f := 57) fX8_text_140 rfl rfl rfl rfl rfl ?_
          refine w_iconst dX8_text_143 ?_
          refine w_istore_n (ls' := [(2, 45), (0, n), (0, 0), (9, 0)]) dX8_text_144 rfl (Nat.le_of_ble_eq_true rfl) rfl rfl ?_
          have hF_μ6 : Fr 45 45 64 68 (am_up (am_up (am_up (am_up μ5 45 54 0) 45 55 0) 45 50 0) 45 57 0) μ := ((((((hF105.wd (by omega) (by omega)).tr (hF_μ4.wd (by omega) (by omega))).up (by omega)).up (by omega)).up (by omega)).up (by omega))
          have hP6 : RPS S0 (am_up (am_up (am_up (am_up μ5 45 54 0) 45 55 0) 45 50 0) 45 57 0) := RPS_0 ⟨(((am_up_nk (by omega)).trans ((am_up_nk (by omega)).trans ((am_up_nk (by omega)).trans ((am_up_nk (by omega)).trans (congrFun (hF105.at (by omega) (by omega)) _))))).trans (by exact h4_44)), (((am_up_nk (by omega)).trans ((am_up_nk (by omega)).trans ((am_up_nk (by omega)).trans ((am_up_nk (by omega)).trans (congrFun (hF105.at (by omega) (by omega)) _))))).trans (by exact h4_45)), (((am_up_nk (by omega)).trans ((am_up_nk (by omega)).trans ((am_up_nk (by omega)).trans ((am_up_nk (by omega)).trans (congrFun (hF105.at (by omega) (by omega)) _))))).trans (by exact h4_47)), (((am_up_nk (by omega)).trans ((am_up_nk (by omega)).trans ((am_up_nk (by omega)).trans ((am_up_nk (by omega)).trans (congrFun (hF105.at (by omega) (by omega)) _))))).trans (by exact h4_48)), (((am_up_nk (by omega)).trans am_up_at).trans (by rfl)), (((am_up_nk (by omega)).trans ((am_up_nk (by omega)).trans ((am_up_nk (by omega)).trans am_up_at))).trans (by rfl)), (((am_up_nk (by omega)).trans ((am_up_nk (by omega)).trans am_up_at)).trans (by rfl)), (am_up_at.trans (by rfl))⟩ ⟨(((congrFun (am_up_o (by first | decide | omega)) _).trans ((congrFun (am_up_o (by first | decide | omega)) _).trans ((congrFun (am_up_o (by first | decide | omega)) _).trans ((congrFun (am_up_o (by first | decide | omega)) _).trans (congrFun (hF105.at (by omega) (by omega)) _))))).trans (by exact h4w0)), (((congrFun (am_up_o (by first | decide | omega)) _).trans ((congrFun (am_up_o (by first | decide | omega)) _).trans ((congrFun (am_up_o (by first | decide | omega)) _).trans ((congrFun (am_up_o (by first | decide | omega)) _).trans (congrFun (hF105.at (by omega) (by omega)) _))))).trans (by exact h4w1)), (((congrFun (am_up_o (by first | decide | omega)) _).trans ((congrFun (am_up_o (by first | decide | omega)) _).trans ((congrFun (am_up_o (by first | decide | omega)) _).trans ((congrFun (am_up_o (by first | decide | omega)) _).trans (congrFun (hF105.at (by omega) (by omega)) _))))).trans (by exact h4w2)), (((congrFun (am_up_o (by first | decide | omega)) _).trans ((congrFun (am_up_o (by first | decide | omega)) _).trans ((congrFun (am_up_o (by first | decide | omega)) _).trans ((congrFun (am_up_o (by first | decide | omega)) _).trans (congrFun (hF105.at (by omega) (by omega)) _))))).trans (by exact h4w3))⟩ (fun k9 h1 h2 => ((congrFun (am_up_o (by omega)) _).trans ((congrFun (am_up_o (by omega)) _).trans ((congrFun (am_up_o (by omega)) _).trans ((congrFun (am_up_o (by omega)) _).trans (h68 k9 h1 (by omega)))))))
          have hR6 : RTc b n (am_up (am_up (am_up (am_up μ5 45 54 0) 45 55 0) 45 50 0) 45 57 0) := ⟨(((am_up_nk (by omega)).trans ((am_up_nk (by omega)).trans ((am_up_nk (by omega)).trans ((am_up_nk (by omega)).trans (congrFun (hF105.at (by omega) (by omega)) _))))).trans (by exact h4_36)), hbb, fun j9 h1 h2 => (congrArg (· % 256) (congrFun ((am_up_o (by omega)).trans ((am_up_o (by omega)).trans ((am_up_o (by omega)).trans ((am_up_o (by omega)).trans ((hF105.at (by omega) (by omega)).trans (hF_μ4.at (by omega) (by omega))))))) j9)).trans (hb j9 h1 (by omega)).2⟩
          have h6_0 : (am_up (am_up (am_up (am_up μ5 45 54 0) 45 55 0) 45 50 0) 45 57 0) 45 0 = 0 := (((am_up_nk (by omega)).trans ((am_up_nk (by omega)).trans ((am_up_nk (by omega)).trans ((am_up_nk (by omega)).trans (congrFun (hF105.at (by omega) (by omega)) _))))).trans (by exact h4_0))
          have h6_35 : (am_up (am_up (am_up (am_up μ5 45 54 0) 45 55 0) 45 50 0) 45 57 0) 45 35 = 0 := (((am_up_nk (by omega)).trans ((am_up_nk (by omega)).trans ((am_up_nk (by omega)).trans ((am_up_nk (by omega)).trans (congrFun (hF105.at (by omega) (by omega)) _))))).trans (by exact h4_35))
          have h6_37 : (am_up (am_up (am_up (am_up μ5 45 54 0) 45 55 0) 45 50 0) 45 57 0) 45 37 = 0 := (((am_up_nk (by omega)).trans ((am_up_nk (by omega)).trans ((am_up_nk (by omega)).trans ((am_up_nk (by omega)).trans (congrFun (hF105.at (by omega) (by omega)) _))))).trans (by exact h4_37))
          have h6_41 : (am_up (am_up (am_up (am_up μ5 45 54 0) 45 55 0) 45 50 0) 45 57 0) 45 41 = 0 := (((am_up_nk (by omega)).trans ((am_up_nk (by omega)).trans ((am_up_nk (by omega)).trans ((am_up_nk (by omega)).trans (congrFun (hF105.at (by omega) (by omega)) _))))).trans (by exact h4_41))
          have h6_42 : (am_up (am_up (am_up (am_up μ5 45 54 0) 45 55 0) 45 50 0) 45 57 0) 45 42 = -1 := (((am_up_nk (by omega)).trans ((am_up_nk (by omega)).trans ((am_up_nk (by omega)).trans ((am_up_nk (by omega)).trans (congrFun (hF105.at (by omega) (by omega)) _))))).trans (by exact h4_42))
          have h6_43 : (am_up (am_up (am_up (am_up μ5 45 54 0) 45 55 0) 45 50 0) 45 57 0) 45 43 = 0 := (((am_up_nk (by omega)).trans ((am_up_nk (by omega)).trans ((am_up_nk (by omega)).trans ((am_up_nk (by omega)).trans (congrFun (hF105.at (by omega) (by omega)) _))))).trans (by exact h4_43))
          have h6f : ∀ k9 : Int, (¬ k9 = 0 ∧ ¬ k9 = 35 ∧ ¬ k9 = 36 ∧ ¬ k9 = 37 ∧ ¬ k9 = 38 ∧ ¬ k9 = 39 ∧ ¬ k9 = 40 ∧ ¬ k9 = 41 ∧ ¬ k9 = 42 ∧ ¬ k9 = 43 ∧ ¬ k9 = 44 ∧ ¬ k9 = 45 ∧ ¬ k9 = 46 ∧ ¬ k9 = 47 ∧ ¬ k9 = 48 ∧ ¬ k9 = 49 ∧ ¬ k9 = 50 ∧ ¬ k9 = 51 ∧ ¬ k9 = 52 ∧ ¬ k9 = 53 ∧ ¬ k9 = 54 ∧ ¬ k9 = 55 ∧ ¬ k9 = 56 ∧ ¬ k9 = 57) → (am_up (am_up (am_up (am_up μ5 45 54 0) 45 55 0) 45 50 0) 45 57 0) 45 k9 = μ 45 k9 := (fun k h1 => ((am_up_nk (by omega)).trans ((am_up_nk (by omega)).trans ((am_up_nk (by omega)).trans ((am_up_nk (by omega)).trans ((congrFun (hF105.at (by omega) (by omega)) _).trans (h4f k (by omega))))))))
          refine Wp.mu (fun μ6 hμ6 => ?_)
          rw [← hμ6] at hF_μ6 hP6 hR6 h6_0 h6_35 h6_37 h6_41 h6_42 h6_43 h6f
          clear hμ6
          refine w_aload_n dX8_text_145 rfl rfl (by first | decide | omega) ?_
          refine w_callVV (o := 45) (ci := 8) (as := []) (rest := []) (k := 1) fX8_text_146 rfl rfl rfl rfl rfl rfl rfl rfl (Nat.le_of_ble_eq_true rfl) (s_X8_advance X b n μ6 hR6 (by rw [h6_37]; omega)) (fun μA hμA => ?_)
          obtain ⟨hFA, htk_A, hf_A, hR_A, hat_A⟩ := hμA
          rw [h6_37] at htk_A
          have h43A : μA 45 43 = 0 := (hf_A 43 (by omega)).trans h6_43
          have hL149 : ∀ (n149 : Nat) (σ1 : Mu) (t : Int) (l : Int) (μ7 : Mu), (n - t).toNat = n149 → Fr 45 45 63 68 μ7 μ → (0 ≤ t ∧ t ≤ n) → (0 ≤ l ∧ l ≤ t) → (TXS b n (rdN b n n.toNat S0 0) σ1 t l μ7) → (RTc b n μ7) → (∀ k9 : Int, (¬ k9 = 0 ∧ ¬ k9 = 35 ∧ ¬ k9 = 36 ∧ ¬ k9 = 37 ∧ ¬ k9 = 38 ∧ ¬ k9 = 39 ∧ ¬ k9 = 40 ∧ ¬ k9 = 41 ∧ ¬ k9 = 42 ∧ ¬ k9 = 43 ∧ ¬ k9 = 44 ∧ ¬ k9 = 45 ∧ ¬ k9 = 46 ∧ ¬ k9 = 47 ∧ ¬ k9 = 48 ∧ ¬ k9 = 49 ∧ ¬ k9 = 50 ∧ ¬ k9 = 51 ∧ ¬ k9 = 52 ∧ ¬ k9 = 53 ∧ ¬ k9 = 54 ∧ ¬ k9 = 55 ∧ ¬ k9 = 56 ∧ ¬ k9 = 57) → μ7 45 k9 = μ 45 k9) → (μ7 45 35 = 0 ∧ μ7 45 0 = 0) → Wp (GG X) M_X8_text 149 [(2, 45), (0, n), (0, l), (9, 0)] [] μ7 (qI 0 fun z μ' => (Fr 45 45 46 68 μ' μ) ∧ ((((n < 0 ∨ μ 45 35 < n) → z = -2 ∧ μ' = am_up μ 45 0 0) ∧ ((0 ≤ n ∧ n ≤ μ 45 35) → μ' 45 35 = 0 ∧ μ' 45 0 = 0 ∧ ((z = -1 ∧ ¬ (rdN b n n.toNat S0 0).1 = 0 ∧ μ' 45 41 = (rdN b n n.toNat S0 0).1 ∧ μ' 45 42 = (rdN b n n.toNat S0 0).2.1 ∧ TXK μ μ') ∨ (z = (rdN b n n.toNat S0 0).2.2.1 0 1 ∧ (rdN b n n.toNat S0 0).1 = 0 ∧ μ' 45 41 = 0 ∧ μ' 45 42 = -1 ∧ μ' 45 60 = 0 ∧ RJ μ' p ∧ RX μ' p))))) ∧ (μ' 62 = μ 62)) := by
            intro n149
            induction n149 using Nat.strongRecOn with
            | ind n149 ih149 =>
              intro σ1 t l μ7 hn149 hF149 ht hl hS hR7 h7f h735
              rcases hS with hA | hA
              · skip
                have hr39 := hA.2.2.1.r
                have hP7 : RPS σ1 μ7 := hA.2.1
                refine w_aload_n dX8_text_149 rfl rfl (by first | decide | omega) ?_
                refine w_getIx (o := 45) (f := 43) (x := 0) fX8_text_150 rfl rfl (Nat.le_of_ble_eq_true rfl) rfl hA.1 ?_
                refine w_if_ne (tgt := 173) dX8_text_153 rfl (R32.in (by decide)) (fun c153 => ?_) (fun c153 => ?_)
                · skip
                  exact absurd c153 (by decide)
                · skip
                  refine w_aload_n dX8_text_156 rfl rfl (by first | decide | omega) ?_
                  refine w_getIx (o := 45) (f := 39) (x := μ7 45 39) fX8_text_157 rfl rfl (Nat.le_of_ble_eq_true rfl) rfl rfl ?_
                  refine w_if_eq (tgt := 173) dX8_text_160 rfl (R32.in (by omega)) (fun c160 => ?_) (fun c160 => ?_)
                  · skip
                    have hE := TXS_end ht hbb hA.2.2.1 c160 hA.2.2.2.2.2
                    have hC7 : CPG σ1 p μ7 := (by rw [← hE.2]; exact (hC c14 hE.1).cg (fun o h1 => hF149.at (by omega) (by omega)))
                    refine w_aload_n dX8_text_173 rfl rfl (by first | decide | omega) ?_
                    refine w_getIx (o := 45) (f := 43) (x := 0) fX8_text_174 rfl rfl (Nat.le_of_ble_eq_true rfl) rfl hA.1 ?_
                    refine w_if_eq (tgt := 182) dX8_text_177 rfl (R32.in (by decide)) (fun c177 => ?_) (fun c177 => ?_)
                    · skip
                      refine w_aload_n dX8_text_182 rfl rfl (by first | decide | omega) ?_
                      refine w_iload_n dX8_text_183 rfl rfl ?_
                      refine w_putI (o := 45) (f := 11) fX8_text_184 rfl rfl rfl rfl rfl ?_
                      refine w_aload_n dX8_text_187 rfl rfl (by first | decide | omega) ?_
                      refine w_aload_n dX8_text_188 rfl rfl (by first | decide | omega) ?_
                      refine w_getIx (o := 45) (f := 44) (x := σ1 0 2) fX8_text_189 rfl rfl (Nat.le_of_ble_eq_true rfl) rfl ((am_up_nk (by omega)).trans hP7.bt) ?_
                      have hr3 := hP7.ok.1.2.2.1
                      refine w_putI (o := 45) (f := 1) fX8_text_192 rfl rfl rfl rfl rfl ?_
                      refine w_aload_n dX8_text_195 rfl rfl (by first | decide | omega) ?_
                      refine w_aload_n dX8_text_196 rfl rfl (by first | decide | omega) ?_
                      refine w_getIx (o := 45) (f := 45) (x := σ1 0 3) fX8_text_197 rfl rfl (Nat.le_of_ble_eq_true rfl) rfl ((am_up_nk (by omega)).trans ((am_up_nk (by omega)).trans hP7.un)) ?_
                      refine w_putI (o := 45) (f := 2) fX8_text_200 rfl rfl rfl rfl rfl ?_
                      refine w_aload_n dX8_text_203 rfl rfl (by first | decide | omega) ?_
                      refine w_aload_n dX8_text_204 rfl rfl (by first | decide | omega) ?_
                      refine w_getIx (o := 45) (f := 47) (x := σ1 0 5) fX8_text_205 rfl rfl (Nat.le_of_ble_eq_true rfl) rfl ((am_up_nk (by omega)).trans ((am_up_nk (by omega)).trans ((am_up_nk (by omega)).trans hP7.pm))) ?_
                      have hr4 := hP7.ok.1.2.2.2.2.2.1
                      refine w_putI (o := 45) (f := 4) fX8_text_208 rfl rfl rfl rfl rfl ?_
                      refine w_aload_n dX8_text_211 rfl rfl (by first | decide | omega) ?_
                      refine w_aload_n dX8_text_212 rfl rfl (by first | decide | omega) ?_
                      refine w_getIx (o := 45) (f := 48) (x := σ1 0 4) fX8_text_213 rfl rfl (Nat.le_of_ble_eq_true rfl) rfl ((am_up_nk (by omega)).trans ((am_up_nk (by omega)).trans ((am_up_nk (by omega)).trans ((am_up_nk (by omega)).trans hP7.kn)))) ?_
                      refine w_putI (o := 45) (f := 5) fX8_text_216 rfl rfl rfl rfl rfl ?_
                      refine w_aload_n dX8_text_219 rfl rfl (by first | decide | omega) ?_
                      refine w_aload_n dX8_text_220 rfl rfl (by first | decide | omega) ?_
                      refine w_getIx (o := 45) (f := 50) (x := σ1 0 0) fX8_text_221 rfl rfl (Nat.le_of_ble_eq_true rfl) rfl ((am_up_nk (by omega)).trans ((am_up_nk (by omega)).trans ((am_up_nk (by omega)).trans ((am_up_nk (by omega)).trans ((am_up_nk (by omega)).trans hP7.el))))) ?_
                      have hr5 := hP7.ok.1.1
                      refine w_putI (o := 45) (f := 7) fX8_text_224 rfl rfl rfl rfl rfl ?_
                      have hF_μ8 : Fr 45 45 63 68 (am_up (am_up (am_up (am_up (am_up (am_up μ7 45 11 l) 45 1 (σ1 0 2)) 45 2 (σ1 0 3)) 45 4 (σ1 0 5)) 45 5 (σ1 0 4)) 45 7 (σ1 0 0)) μ := ((((((hF149.up (by omega)).up (by omega)).up (by omega)).up (by omega)).up (by omega)).up (by omega))
                      have hP8 : RPS σ1 (am_up (am_up (am_up (am_up (am_up (am_up μ7 45 11 l) 45 1 (σ1 0 2)) 45 2 (σ1 0 3)) 45 4 (σ1 0 5)) 45 5 (σ1 0 4)) 45 7 (σ1 0 0)) := (RPS.cg2 hP7 (fun o h1 => ((am_up_o (by omega)).trans ((am_up_o (by omega)).trans ((am_up_o (by omega)).trans ((am_up_o (by omega)).trans ((am_up_o (by omega)).trans (am_up_o (by omega)))))))) (fun k h1 => ((am_up_nk (by omega)).trans ((am_up_nk (by omega)).trans ((am_up_nk (by omega)).trans ((am_up_nk (by omega)).trans ((am_up_nk (by omega)).trans (am_up_nk (by omega)))))))))
                      have hC8 : CPG σ1 p (am_up (am_up (am_up (am_up (am_up (am_up μ7 45 11 l) 45 1 (σ1 0 2)) 45 2 (σ1 0 3)) 45 4 (σ1 0 5)) 45 5 (σ1 0 4)) 45 7 (σ1 0 0)) := (CPG.cg hC7 (fun o h1 => ((am_up_o (by omega)).trans ((am_up_o (by omega)).trans ((am_up_o (by omega)).trans ((am_up_o (by omega)).trans ((am_up_o (by omega)).trans (am_up_o (by omega)))))))))
                      have h8_1 : (am_up (am_up (am_up (am_up (am_up (am_up μ7 45 11 l) 45 1 (σ1 0 2)) 45 2 (σ1 0 3)) 45 4 (σ1 0 5)) 45 5 (σ1 0 4)) 45 7 (σ1 0 0)) 45 1 = σ1 0 2 := (((am_up_nk (by omega)).trans ((am_up_nk (by omega)).trans ((am_up_nk (by omega)).trans ((am_up_nk (by omega)).trans am_up_at)))).trans (by rfl))
                      have h8_2 : (am_up (am_up (am_up (am_up (am_up (am_up μ7 45 11 l) 45 1 (σ1 0 2)) 45 2 (σ1 0 3)) 45 4 (σ1 0 5)) 45 5 (σ1 0 4)) 45 7 (σ1 0 0)) 45 2 = σ1 0 3 := (((am_up_nk (by omega)).trans ((am_up_nk (by omega)).trans ((am_up_nk (by omega)).trans am_up_at))).trans (by rfl))
                      have h8_4 : (am_up (am_up (am_up (am_up (am_up (am_up μ7 45 11 l) 45 1 (σ1 0 2)) 45 2 (σ1 0 3)) 45 4 (σ1 0 5)) 45 5 (σ1 0 4)) 45 7 (σ1 0 0)) 45 4 = σ1 0 5 := (((am_up_nk (by omega)).trans ((am_up_nk (by omega)).trans am_up_at)).trans (by rfl))
                      have h8_5 : (am_up (am_up (am_up (am_up (am_up (am_up μ7 45 11 l) 45 1 (σ1 0 2)) 45 2 (σ1 0 3)) 45 4 (σ1 0 5)) 45 5 (σ1 0 4)) 45 7 (σ1 0 0)) 45 5 = σ1 0 4 := (((am_up_nk (by omega)).trans am_up_at).trans (by rfl))
                      have h8_7 : (am_up (am_up (am_up (am_up (am_up (am_up μ7 45 11 l) 45 1 (σ1 0 2)) 45 2 (σ1 0 3)) 45 4 (σ1 0 5)) 45 5 (σ1 0 4)) 45 7 (σ1 0 0)) 45 7 = σ1 0 0 := (am_up_at.trans (by rfl))
                      have h8_11 : (am_up (am_up (am_up (am_up (am_up (am_up μ7 45 11 l) 45 1 (σ1 0 2)) 45 2 (σ1 0 3)) 45 4 (σ1 0 5)) 45 5 (σ1 0 4)) 45 7 (σ1 0 0)) 45 11 = l := (((am_up_nk (by omega)).trans ((am_up_nk (by omega)).trans ((am_up_nk (by omega)).trans ((am_up_nk (by omega)).trans ((am_up_nk (by omega)).trans am_up_at))))).trans (by rfl))
                      have h8_41 : (am_up (am_up (am_up (am_up (am_up (am_up μ7 45 11 l) 45 1 (σ1 0 2)) 45 2 (σ1 0 3)) 45 4 (σ1 0 5)) 45 5 (σ1 0 4)) 45 7 (σ1 0 0)) 45 41 = 0 := (((am_up_nk (by omega)).trans ((am_up_nk (by omega)).trans ((am_up_nk (by omega)).trans ((am_up_nk (by omega)).trans ((am_up_nk (by omega)).trans (am_up_nk (by omega))))))).trans (by exact hA.2.2.2.1.1))
                      have h8_42 : (am_up (am_up (am_up (am_up (am_up (am_up μ7 45 11 l) 45 1 (σ1 0 2)) 45 2 (σ1 0 3)) 45 4 (σ1 0 5)) 45 5 (σ1 0 4)) 45 7 (σ1 0 0)) 45 42 = -1 := (((am_up_nk (by omega)).trans ((am_up_nk (by omega)).trans ((am_up_nk (by omega)).trans ((am_up_nk (by omega)).trans ((am_up_nk (by omega)).trans (am_up_nk (by omega))))))).trans (by exact hA.2.2.2.1.2))
                      have h8_35 : (am_up (am_up (am_up (am_up (am_up (am_up μ7 45 11 l) 45 1 (σ1 0 2)) 45 2 (σ1 0 3)) 45 4 (σ1 0 5)) 45 5 (σ1 0 4)) 45 7 (σ1 0 0)) 45 35 = 0 := (((am_up_nk (by omega)).trans ((am_up_nk (by omega)).trans ((am_up_nk (by omega)).trans ((am_up_nk (by omega)).trans ((am_up_nk (by omega)).trans (am_up_nk (by omega))))))).trans (by exact h735.1))
                      have h8_0 : (am_up (am_up (am_up (am_up (am_up (am_up μ7 45 11 l) 45 1 (σ1 0 2)) 45 2 (σ1 0 3)) 45 4 (σ1 0 5)) 45 5 (σ1 0 4)) 45 7 (σ1 0 0)) 45 0 = 0 := (((am_up_nk (by omega)).trans ((am_up_nk (by omega)).trans ((am_up_nk (by omega)).trans ((am_up_nk (by omega)).trans ((am_up_nk (by omega)).trans (am_up_nk (by omega))))))).trans (by exact h735.2))
                      refine Wp.mu (fun μ8 hμ8 => ?_)
                      rw [← hμ8] at hF_μ8 hP8 hC8 h8_1 h8_2 h8_4 h8_5 h8_7 h8_11 h8_41 h8_42 h8_35 h8_0
                      clear hμ8
                      refine w_iconst dX8_text_227 ?_
                      refine w_istore_n (ls' := [(2, 45), (0, n), (0, l), (0, 0)]) dX8_text_228 rfl (Nat.le_of_ble_eq_true rfl) rfl rfl ?_
                      have hL229 : ∀ (n229 : Nat) (k : Int) (μ9 : Mu), (6 - k).toNat = n229 → Fr 46 46 1 0 μ9 μ8 → (0 ≤ k ∧ k ≤ 6) → (∀ j9 : Int, 0 ≤ j9 → j9 < k → μ9 46 j9 = μ8 63 j9) → Wp (GG X) M_X8_text 229 [(2, 45), (0, n), (0, l), (0, k)] [] μ9 (qI 0 fun z μ' => (Fr 45 45 46 68 μ' μ) ∧ ((((n < 0 ∨ μ 45 35 < n) → z = -2 ∧ μ' = am_up μ 45 0 0) ∧ ((0 ≤ n ∧ n ≤ μ 45 35) → μ' 45 35 = 0 ∧ μ' 45 0 = 0 ∧ ((z = -1 ∧ ¬ (rdN b n n.toNat S0 0).1 = 0 ∧ μ' 45 41 = (rdN b n n.toNat S0 0).1 ∧ μ' 45 42 = (rdN b n n.toNat S0 0).2.1 ∧ TXK μ μ') ∨ (z = (rdN b n n.toNat S0 0).2.2.1 0 1 ∧ (rdN b n n.toNat S0 0).1 = 0 ∧ μ' 45 41 = 0 ∧ μ' 45 42 = -1 ∧ μ' 45 60 = 0 ∧ RJ μ' p ∧ RX μ' p))))) ∧ (μ' 62 = μ 62)) := by
                        intro n229
                        induction n229 using Nat.strongRecOn with
                        | ind n229 ih229 =>
                          intro k μ9 hn229 hF229 hk0 h46
                          refine w_iload_n dX8_text_229 rfl rfl ?_
                          refine w_bipush dX8_text_230 (by decide) ?_
                          refine w_icmp_ge (tgt := 253) dX8_text_232 rfl (R32.in (by omega)) (R32.in (by decide)) (fun c232 => ?_) (fun c232 => ?_)
                          · skip
                            refine w_iconst dX8_text_253 ?_
                            refine w_istore_n (ls' := [(2, 45), (0, n), (0, l), (0, 0)]) dX8_text_254 rfl (Nat.le_of_ble_eq_true rfl) rfl rfl ?_
                            have hL255 : ∀ (n255 : Nat) (k : Int) (μx : Mu), (4 - k).toNat = n255 → Fr 47 47 1 0 μx μ9 → (0 ≤ k ∧ k ≤ 4) → (∀ j9 : Int, 0 ≤ j9 → j9 < k → μx 47 j9 = μ8 64 j9) → Wp (GG X) M_X8_text 255 [(2, 45), (0, n), (0, l), (0, k)] [] μx (qI 0 fun z μ' => (Fr 45 45 46 68 μ' μ) ∧ ((((n < 0 ∨ μ 45 35 < n) → z = -2 ∧ μ' = am_up μ 45 0 0) ∧ ((0 ≤ n ∧ n ≤ μ 45 35) → μ' 45 35 = 0 ∧ μ' 45 0 = 0 ∧ ((z = -1 ∧ ¬ (rdN b n n.toNat S0 0).1 = 0 ∧ μ' 45 41 = (rdN b n n.toNat S0 0).1 ∧ μ' 45 42 = (rdN b n n.toNat S0 0).2.1 ∧ TXK μ μ') ∨ (z = (rdN b n n.toNat S0 0).2.2.1 0 1 ∧ (rdN b n n.toNat S0 0).1 = 0 ∧ μ' 45 41 = 0 ∧ μ' 45 42 = -1 ∧ μ' 45 60 = 0 ∧ RJ μ' p ∧ RX μ' p))))) ∧ (μ' 62 = μ 62)) := by
                              intro n255
                              induction n255 using Nat.strongRecOn with
                              | ind n255 ih255 =>
                                intro k μx hn255 hF255 hk0 h47
                                refine w_iload_n dX8_text_255 rfl rfl ?_
                                refine w_iconst dX8_text_256 ?_
                                refine w_icmp_ge (tgt := 278) dX8_text_257 rfl (R32.in (by omega)) (R32.in (by decide)) (fun c257 => ?_) (fun c257 => ?_)
                                · skip
                                  refine w_iconst dX8_text_278 ?_
                                  refine w_istore_n (ls' := [(2, 45), (0, n), (0, l), (0, 0)]) dX8_text_279 rfl (Nat.le_of_ble_eq_true rfl) rfl rfl ?_
                                  have hL280 : ∀ (n280 : Nat) (k : Int) (μy : Mu), (64 - k).toNat = n280 → Fr 48 50 1 0 μy μx → (0 ≤ k ∧ k ≤ 64) → (∀ j9 : Int, 0 ≤ j9 → j9 < k → μy 48 j9 = μ8 65 j9) → (∀ j9 : Int, 0 ≤ j9 → j9 < k → μy 49 j9 = zbi (μ8 66 j9)) → (∀ j9 : Int, 0 ≤ j9 → j9 < k → μy 50 j9 = μ8 67 j9) → Wp (GG X) M_X8_text 280 [(2, 45), (0, n), (0, l), (0, k)] [] μy (qI 0 fun z μ' => (Fr 45 45 46 68 μ' μ) ∧ ((((n < 0 ∨ μ 45 35 < n) → z = -2 ∧ μ' = am_up μ 45 0 0) ∧ ((0 ≤ n ∧ n ≤ μ 45 35) → μ' 45 35 = 0 ∧ μ' 45 0 = 0 ∧ ((z = -1 ∧ ¬ (rdN b n n.toNat S0 0).1 = 0 ∧ μ' 45 41 = (rdN b n n.toNat S0 0).1 ∧ μ' 45 42 = (rdN b n n.toNat S0 0).2.1 ∧ TXK μ μ') ∨ (z = (rdN b n n.toNat S0 0).2.2.1 0 1 ∧ (rdN b n n.toNat S0 0).1 = 0 ∧ μ' 45 41 = 0 ∧ μ' 45 42 = -1 ∧ μ' 45 60 = 0 ∧ RJ μ' p ∧ RX μ' p))))) ∧ (μ' 62 = μ 62)) := by
                                    intro n280
                                    induction n280 using Nat.strongRecOn with
                                    | ind n280 ih280 =>
                                      intro k μy hn280 hF280 hk0 h48 h49 h50
                                      refine w_iload_n dX8_text_280 rfl rfl ?_
                                      refine w_bipush dX8_text_281 (by decide) ?_
                                      refine w_icmp_ge (tgt := 328) dX8_text_283 rfl (R32.in (by omega)) (R32.in (by decide)) (fun c283 => ?_) (fun c283 => ?_)
                                      · skip
                                        refine w_aload_n dX8_text_328 rfl rfl (by first | decide | omega) ?_
                                        refine w_iconst dX8_text_329 ?_
                                        refine w_putI (o := 45) (f := 60) fX8_text_330 rfl rfl rfl rfl rfl ?_
                                        have hF_μa : Fr 45 45 46 68 (am_up μy 45 60 0) μ := (((hF280.wd (by omega) (by omega)).tr ((hF255.wd (by omega) (by omega)).tr ((hF229.wd (by omega) (by omega)).tr (hF_μ8.wd (by omega) (by omega))))).up (by omega))
                                        have hCa : CPG σ1 p (am_up μy 45 60 0) := (CPG.cg hC8 (fun o h1 => ((am_up_o (by omega)).trans ((hF280.at (by omega) (by omega)).trans ((hF255.at (by omega) (by omega)).trans (hF229.at (by omega) (by omega)))))))
                                        have ha62 : (am_up μy 45 60 0) 62 = μ 62 := ((am_up_o (by omega)).trans ((hF280.at (by omega) (by omega)).trans ((hF255.at (by omega) (by omega)).trans ((hF229.at (by omega) (by omega)).trans (hF_μ8.at (by omega) (by omega))))))
                                        have ha_1 : (am_up μy 45 60 0) 45 1 = σ1 0 2 := (((am_up_nk (by omega)).trans ((congrFun (hF280.at (by omega) (by omega)) _).trans ((congrFun (hF255.at (by omega) (by omega)) _).trans (congrFun (hF229.at (by omega) (by omega)) _)))).trans (by exact h8_1))
                                        have ha_2 : (am_up μy 45 60 0) 45 2 = σ1 0 3 := (((am_up_nk (by omega)).trans ((congrFun (hF280.at (by omega) (by omega)) _).trans ((congrFun (hF255.at (by omega) (by omega)) _).trans (congrFun (hF229.at (by omega) (by omega)) _)))).trans (by exact h8_2))
                                        have ha_4 : (am_up μy 45 60 0) 45 4 = σ1 0 5 := (((am_up_nk (by omega)).trans ((congrFun (hF280.at (by omega) (by omega)) _).trans ((congrFun (hF255.at (by omega) (by omega)) _).trans (congrFun (hF229.at (by omega) (by omega)) _)))).trans (by exact h8_4))
                                        have ha_5 : (am_up μy 45 60 0) 45 5 = σ1 0 4 := (((am_up_nk (by omega)).trans ((congrFun (hF280.at (by omega) (by omega)) _).trans ((congrFun (hF255.at (by omega) (by omega)) _).trans (congrFun (hF229.at (by omega) (by omega)) _)))).trans (by exact h8_5))
                                        have ha_7 : (am_up μy 45 60 0) 45 7 = σ1 0 0 := (((am_up_nk (by omega)).trans ((congrFun (hF280.at (by omega) (by omega)) _).trans ((congrFun (hF255.at (by omega) (by omega)) _).trans (congrFun (hF229.at (by omega) (by omega)) _)))).trans (by exact h8_7))
                                        have ha_11 : (am_up μy 45 60 0) 45 11 = l := (((am_up_nk (by omega)).trans ((congrFun (hF280.at (by omega) (by omega)) _).trans ((congrFun (hF255.at (by omega) (by omega)) _).trans (congrFun (hF229.at (by omega) (by omega)) _)))).trans (by exact h8_11))
                                        have ha_41 : (am_up μy 45 60 0) 45 41 = 0 := (((am_up_nk (by omega)).trans ((congrFun (hF280.at (by omega) (by omega)) _).trans ((congrFun (hF255.at (by omega) (by omega)) _).trans (congrFun (hF229.at (by omega) (by omega)) _)))).trans (by exact h8_41))
                                        have ha_42 : (am_up μy 45 60 0) 45 42 = -1 := (((am_up_nk (by omega)).trans ((congrFun (hF280.at (by omega) (by omega)) _).trans ((congrFun (hF255.at (by omega) (by omega)) _).trans (congrFun (hF229.at (by omega) (by omega)) _)))).trans (by exact h8_42))
                                        have ha_35 : (am_up μy 45 60 0) 45 35 = 0 := (((am_up_nk (by omega)).trans ((congrFun (hF280.at (by omega) (by omega)) _).trans ((congrFun (hF255.at (by omega) (by omega)) _).trans (congrFun (hF229.at (by omega) (by omega)) _)))).trans (by exact h8_35))
                                        have ha_0 : (am_up μy 45 60 0) 45 0 = 0 := (((am_up_nk (by omega)).trans ((congrFun (hF280.at (by omega) (by omega)) _).trans ((congrFun (hF255.at (by omega) (by omega)) _).trans (congrFun (hF229.at (by omega) (by omega)) _)))).trans (by exact h8_0))
                                        have ha_60 : (am_up μy 45 60 0) 45 60 = 0 := (am_up_at.trans (by rfl))
                                        have ha46 : ∀ j9 : Int, 0 ≤ j9 → j9 < 6 → (am_up μy 45 60 0) 46 j9 = μ8 63 j9 := (fun j9 h1 h2 => ((congrFun (am_up_o (by omega)) _).trans ((congrFun (hF280.at (by omega) (by omega)) _).trans ((congrFun (hF255.at (by omega) (by omega)) _).trans (h46 j9 h1 (by omega))))))
                                        have ha47 : ∀ j9 : Int, 0 ≤ j9 → j9 < 4 → (am_up μy 45 60 0) 47 j9 = μ8 64 j9 := (fun j9 h1 h2 => ((congrFun (am_up_o (by omega)) _).trans ((congrFun (hF280.at (by omega) (by omega)) _).trans (h47 j9 h1 (by omega)))))
                                        have ha48 : ∀ j9 : Int, 0 ≤ j9 → j9 < 64 → (am_up μy 45 60 0) 48 j9 = μ8 65 j9 := (fun j9 h1 h2 => ((congrFun (am_up_o (by omega)) _).trans (h48 j9 h1 (by omega))))
                                        have ha49 : ∀ j9 : Int, 0 ≤ j9 → j9 < 64 → (am_up μy 45 60 0) 49 j9 = zbi (μ8 66 j9) := (fun j9 h1 h2 => ((congrFun (am_up_o (by omega)) _).trans (h49 j9 h1 (by omega))))
                                        have ha50 : ∀ j9 : Int, 0 ≤ j9 → j9 < 64 → (am_up μy 45 60 0) 50 j9 = μ8 67 j9 := (fun j9 h1 h2 => ((congrFun (am_up_o (by omega)) _).trans (h50 j9 h1 (by omega))))
                                        refine Wp.mu (fun μa hμa => ?_)
                                        rw [← hμa] at hF_μa hCa ha62 ha_1 ha_2 ha_4 ha_5 ha_7 ha_11 ha_41 ha_42 ha_35 ha_0 ha_60 ha46 ha47 ha48 ha49 ha50
                                        clear hμa
                                        have hs7a := hCa.f7
                                        have hok := hCa.ok
                                        have h00 := hok.1.1
                                        have h05 := hok.1.2.2.2.2.2.1
                                        have hrow : ∀ j9 : Int, 0 ≤ j9 → j9 < μa p 7 → μa 48 j9 = bok (μa (p + 3) j9) ∧ μa 49 j9 = μa (p + 4) j9 ∧ μa 50 j9 = μa (p + 5) j9 := fun j9 h1 h2 => by have q1 := hP8.2.2.2.2 j9 h1 (by omega); have q2 := hCa.rw (j := j9) ⟨h1, by omega⟩; have q3 := hok.2.1 j9 h1 (by omega); rw [ha48 j9 h1 (by omega), ha49 j9 h1 (by omega), ha50 j9 h1 (by omega), q1.1, q1.2.1, q1.2.2, q2.1, q2.2.1, q2.2.2.1, zbi_01 q3.2.1]; exact ⟨rfl, rfl, rfl⟩
                                        have h12a : μa 45 1 = μa p 1 ∧ μa 45 2 = μa p 2 ∧ μa 45 7 = μa p 7 := ⟨ha_1.trans hCa.f1.symm, ha_2.trans hCa.f2.symm, ha_7.trans hCa.f7.symm⟩
                                        have hkda : ∀ j9 : Int, 0 ≤ j9 → j9 < μa p 7 → μa 48 j9 = bok (μa (p + 3) j9) ∧ μa 49 j9 = μa (p + 4) j9 := fun j9 h1 h2 => ⟨(hrow j9 h1 h2).1, (hrow j9 h1 h2).2.1⟩
                                        have hRXa : RX μa p := hCa.rx (ha_11.trans hA.2.2.2.2.1.symm) ha_4 (fun k9 h1 h2 => (ha47 k9 h1 h2).trans (hP8.2.2.2.1 k9 h1 h2).1) (fun k9 h1 h2 => (ha46 k9 h1 (by omega)).trans (hP8.2.2.1 k9 h1 h2))
                                        refine w_aload_n dX8_text_333 rfl rfl (by first | decide | omega) ?_
                                        refine w_callVV (o := 45) (ci := 8) (as := []) (rest := []) (k := 5) fX8_text_334 rfl rfl rfl rfl rfl rfl rfl rfl (Nat.le_of_ble_eq_true rfl) (s_X8_laysAll X p μa hCa.pi hCa.pg hCa.hl hCa.lays h12a hkda hRXa) (fun μY hμY => ?_)
                                        obtain ⟨hFY, hg_Y, hr_Y, hf_Y⟩ := hμY
                                        refine w_aload_n dX8_text_337 rfl rfl (by first | decide | omega) ?_
                                        refine w_callVV (o := 45) (ci := 8) (as := []) (rest := []) (k := 1) fX8_text_338 rfl rfl rfl rfl rfl rfl rfl rfl (Nat.le_of_ble_eq_true rfl) (s_X8_thinksPlainly_k X μY) (fun μT hμT => ?_)
                                        obtain ⟨hFT, h56_T, h19_T, hf_T⟩ := hμT
                                        refine w_aload_n dX8_text_341 rfl rfl (by first | decide | omega) ?_
                                        refine w_getIx (o := 45) (f := 11) (x := μa 45 11) fX8_text_342 rfl rfl (Nat.le_of_ble_eq_true rfl) rfl ((hf_T _ (by omega)).trans (hf_Y _ (by omega))) ?_
                                        have e9 : ∀ o : Int, p ≤ o ∧ o ≤ p + 10 → μT o = μa o := fun o h1 => (hFT.at (by omega) (by omega)).trans (hFY.at (by omega) (by omega))
                                        have e5 : ∀ o : Int, (46 ≤ o ∧ o ≤ 50) → μT o = μa o := fun o h1 => (hFT.at (by omega) (by omega)).trans (hFY.at (by omega) (by omega))
                                        have f9 : ∀ k9 : Int, ¬ k9 = 17 → ¬ k9 = 19 → μT 45 k9 = μa 45 k9 := fun k9 h1 h2 => (hf_T k9 h2).trans (hf_Y k9 h1)
                                        have eY : ∀ o : Int, (51 ≤ o ∧ o ≤ 55) → μT o = μY o := fun o h1 => hFT.at (by omega) (by omega)
                                        have hRX9 : RX μT p := RX.cg2 hRXa (fun o h1 => by rcases h1 with q | q; exact e5 o (by omega); exact e9 o q) (fun k9 h1 => f9 k9 (by omega) (by omega))
                                        have hRJ9 : RJ μT p := by refine ⟨⟨?_, ?_, ?_, ?_, ?_, ?_⟩, fun j9 h1 h2 => ?_, fun g9 h1 h2 => ?_⟩; (rw [f9 1 (by omega) (by omega), e9 p (by omega)]; exact h12a.1); (rw [f9 2 (by omega) (by omega), e9 p (by omega)]; exact h12a.2.1); (rw [f9 5 (by omega) (by omega), e9 p (by omega)]; exact ha_5.trans hCa.f3.symm); (rw [f9 7 (by omega) (by omega), e9 p (by omega)]; exact h12a.2.2); (rw [hf_T 17 (by omega), e9 p (by omega)]; exact hg_Y.1); (rw [h19_T, hf_Y 5 (by omega), e9 p (by omega)]; exact ha_5.trans hCa.f3.symm); (rw [e9 p (by omega)] at h2; have q1 := hrow j9 h1 h2; have q2 := hr_Y j9 h1 h2; rw [h56_T j9 h1 (by omega), hFY.at (o := 50) (by omega) (by omega), e5 48 (by omega), e5 49 (by omega), e5 50 (by omega), eY 51 (by omega), eY 52 (by omega), eY 53 (by omega), e9 (p + 3) (by omega), e9 (p + 4) (by omega), e9 (p + 5) (by omega), e9 (p + 6) (by omega), e9 (p + 7) (by omega), e9 (p + 8) (by omega)]; exact ⟨q1.1, q1.2.1, q1.2.2, q2.1, q2.2.1, q2.2.2, q1.2.2⟩); (rw [e9 p (by omega)] at h2; rw [eY 54 (by omega), eY 55 (by omega), e9 (p + 9) (by omega), e9 (p + 10) (by omega)]; exact hg_Y.2 g9 h1 h2)
                                        have g9 : ∀ k9 : Int, ¬ k9 = 17 → ¬ k9 = 19 → ∀ v9 : Int, μa 45 k9 = v9 → μT 45 k9 = v9 := fun k9 h1 h2 v9 h3 => (f9 k9 h1 h2).trans h3
                                        exact w_iretI dX8_text_345 rfl ⟨((hFT.wd (by omega) (by omega)).tr ((hFY.wd (by omega) (by omega)).tr hF_μa)), (by exact ⟨fun q9 => absurd q9 (by omega), fun _ => ⟨g9 35 (by omega) (by omega) _ ha_35, g9 0 (by omega) (by omega) _ ha_0, Or.inr ⟨(by rw [ha_11, hE.2]; exact hA.2.2.2.2.1.symm), hE.1, g9 41 (by omega) (by omega) _ ha_41, g9 42 (by omega) (by omega) _ ha_42, g9 60 (by omega) (by omega) _ ha_60, hRJ9, hRX9⟩⟩⟩), (by exact (hFT.at (by omega) (by omega)).trans ((hFY.at (by omega) (by omega)).trans ha62))⟩
                                      · skip
                                        refine w_aload_n dX8_text_286 rfl rfl (by first | decide | omega) ?_
                                        refine w_getR (o := 45) (x := 48) fX8_text_287 rfl rfl rfl rfl ?_
                                        refine w_iload_n dX8_text_290 rfl rfl ?_
                                        refine w_aload_n dX8_text_291 rfl rfl (by first | decide | omega) ?_
                                        refine w_getR (o := 45) (x := 65) fX8_text_292 rfl rfl rfl rfl ?_
                                        refine w_iload_n dX8_text_295 rfl rfl ?_
                                        refine w_ialdx (o := 65) (n := 64) (x := μ8 65 k) dX8_text_296 rfl rfl (Nat.le_of_ble_eq_true rfl) (by omega) ((congrFun (hF280.at (by omega) (by omega)) _).trans ((congrFun (hF255.at (by omega) (by omega)) _).trans (congrFun (hF229.at (by omega) (by omega)) _))) ?_
                                        refine w_iast (o := 48) (n := 64) dX8_text_297 rfl rfl (Nat.le_of_ble_eq_true rfl) (by omega) (by omega) ?_
                                        refine w_aload_n dX8_text_298 rfl rfl (by first | decide | omega) ?_
                                        refine w_getR (o := 45) (x := 49) fX8_text_299 rfl rfl rfl rfl ?_
                                        refine w_iload_n dX8_text_302 rfl rfl ?_
                                        refine w_aload_n dX8_text_303 rfl rfl (by first | decide | omega) ?_
                                        refine w_getR (o := 45) (x := 66) fX8_text_304 rfl rfl rfl rfl ?_
                                        refine w_iload_n dX8_text_307 rfl rfl ?_
                                        refine w_zaldx (o := 66) (n := 64) (x := μ8 66 k) dX8_text_308 rfl rfl (Nat.le_of_ble_eq_true rfl) (by omega) ((congrFun (am_up_o (by first | decide | omega)) _).trans ((congrFun (hF280.at (by omega) (by omega)) _).trans ((congrFun (hF255.at (by omega) (by omega)) _).trans (congrFun (hF229.at (by omega) (by omega)) _)))) ?_
                                        refine w_zastM (o := 49) (n := 64) dX8_text_309 rfl rfl (Nat.le_of_ble_eq_true rfl) (by omega) (by omega) ?_
                                        refine w_aload_n dX8_text_310 rfl rfl (by first | decide | omega) ?_
                                        refine w_getR (o := 45) (x := 50) fX8_text_311 rfl rfl rfl rfl ?_
                                        refine w_iload_n dX8_text_314 rfl rfl ?_
                                        refine w_aload_n dX8_text_315 rfl rfl (by first | decide | omega) ?_
                                        refine w_getR (o := 45) (x := 67) fX8_text_316 rfl rfl rfl rfl ?_
                                        refine w_iload_n dX8_text_319 rfl rfl ?_
                                        refine w_ialdx (o := 67) (n := 64) (x := μ8 67 k) dX8_text_320 rfl rfl (Nat.le_of_ble_eq_true rfl) (by omega) ((congrFun (am_up_o (by first | decide | omega)) _).trans ((congrFun (am_up_o (by first | decide | omega)) _).trans ((congrFun (hF280.at (by omega) (by omega)) _).trans ((congrFun (hF255.at (by omega) (by omega)) _).trans (congrFun (hF229.at (by omega) (by omega)) _))))) ?_
                                        refine w_iast (o := 50) (n := 64) dX8_text_321 rfl rfl (Nat.le_of_ble_eq_true rfl) (by omega) (by omega) ?_
                                        refine w_iinc (ls' := [(2, 45), (0, n), (0, l), (0, k + 1)]) dX8_text_322 rfl (Nat.le_of_ble_eq_true rfl) rfl rfl ?_
                                        refine w_goto (tgt := 280) dX8_text_325 rfl ?_
                                        exact ih280 _ (by omega) (k + 1) (am_up (am_up (am_up μy 48 k (μ8 65 k)) 49 k (zbi (μ8 66 k))) 50 k (μ8 67 k)) rfl (((hF280.up (by omega)).up (by omega)).up (by omega)) (by first | omega | assumption) (fun j9 h1 h2 => by by_cases e : j9 = k; (rw [e]; first | exact am_up_at | exact (congrFun (am_up_o (by omega)) _).trans am_up_at | exact (congrFun (am_up_o (by omega)) _).trans ((congrFun (am_up_o (by omega)) _).trans am_up_at)); (have h9 := h48 j9 h1 (by omega); first | exact (am_up_nk e).trans h9 | exact (congrFun (am_up_o (by omega)) _).trans ((am_up_nk e).trans h9) | exact (am_up_nk e).trans ((congrFun (am_up_o (by omega)) _).trans h9) | exact (am_up_nk e).trans ((congrFun (am_up_o (by omega)) _).trans ((congrFun (am_up_o (by omega)) _).trans h9)) | exact (congrFun (am_up_o (by omega)) _).trans ((am_up_nk e).trans ((congrFun (am_up_o (by omega)) _).trans h9)) | exact (congrFun (am_up_o (by omega)) _).trans ((congrFun (am_up_o (by omega)) _).trans ((am_up_nk e).trans h9)))) (fun j9 h1 h2 => by by_cases e : j9 = k; (rw [e]; first | exact am_up_at | exact (congrFun (am_up_o (by omega)) _).trans am_up_at | exact (congrFun (am_up_o (by omega)) _).trans ((congrFun (am_up_o (by omega)) _).trans am_up_at)); (have h9 := h49 j9 h1 (by omega); first | exact (am_up_nk e).trans h9 | exact (congrFun (am_up_o (by omega)) _).trans ((am_up_nk e).trans h9) | exact (am_up_nk e).trans ((congrFun (am_up_o (by omega)) _).trans h9) | exact (am_up_nk e).trans ((congrFun (am_up_o (by omega)) _).trans ((congrFun (am_up_o (by omega)) _).trans h9)) | exact (congrFun (am_up_o (by omega)) _).trans ((am_up_nk e).trans ((congrFun (am_up_o (by omega)) _).trans h9)) | exact (congrFun (am_up_o (by omega)) _).trans ((congrFun (am_up_o (by omega)) _).trans ((am_up_nk e).trans h9)))) (fun j9 h1 h2 => by by_cases e : j9 = k; (rw [e]; first | exact am_up_at | exact (congrFun (am_up_o (by omega)) _).trans am_up_at | exact (congrFun (am_up_o (by omega)) _).trans ((congrFun (am_up_o (by omega)) _).trans am_up_at)); (have h9 := h50 j9 h1 (by omega); first | exact (am_up_nk e).trans h9 | exact (congrFun (am_up_o (by omega)) _).trans ((am_up_nk e).trans h9) | exact (am_up_nk e).trans ((congrFun (am_up_o (by omega)) _).trans h9) | exact (am_up_nk e).trans ((congrFun (am_up_o (by omega)) _).trans ((congrFun (am_up_o (by omega)) _).trans h9)) | exact (congrFun (am_up_o (by omega)) _).trans ((am_up_nk e).trans ((congrFun (am_up_o (by omega)) _).trans h9)) | exact (congrFun (am_up_o (by omega)) _).trans ((congrFun (am_up_o (by omega)) _).trans ((am_up_nk e).trans h9))))
                                  exact hL280 _ 0 μx rfl Fr.rf (by first | omega | assumption) (fun j9 h1 h2 => by omega) (fun j9 h1 h2 => by omega) (fun j9 h1 h2 => by omega)
                                · skip
                                  refine w_aload_n dX8_text_260 rfl rfl (by first | decide | omega) ?_
                                  refine w_getR (o := 45) (x := 47) fX8_text_261 rfl rfl rfl rfl ?_
                                  refine w_iload_n dX8_text_264 rfl rfl ?_
                                  refine w_aload_n dX8_text_265 rfl rfl (by first | decide | omega) ?_
                                  refine w_getR (o := 45) (x := 64) fX8_text_266 rfl rfl rfl rfl ?_
                                  refine w_iload_n dX8_text_269 rfl rfl ?_
                                  refine w_ialdx (o := 64) (n := 4) (x := μ8 64 k) dX8_text_270 rfl rfl (Nat.le_of_ble_eq_true rfl) (by omega) ((congrFun (hF255.at (by omega) (by omega)) _).trans (congrFun (hF229.at (by omega) (by omega)) _)) ?_
                                  refine w_iast (o := 47) (n := 4) dX8_text_271 rfl rfl (Nat.le_of_ble_eq_true rfl) (by omega) (by omega) ?_
                                  refine w_iinc (ls' := [(2, 45), (0, n), (0, l), (0, k + 1)]) dX8_text_272 rfl (Nat.le_of_ble_eq_true rfl) rfl rfl ?_
                                  refine w_goto (tgt := 255) dX8_text_275 rfl ?_
                                  exact ih255 _ (by omega) (k + 1) (am_up μx 47 k (μ8 64 k)) rfl (hF255.up (by omega)) (by first | omega | assumption) (fun j9 h1 h2 => by by_cases e : j9 = k; (rw [e]; first | exact am_up_at | exact (congrFun (am_up_o (by omega)) _).trans am_up_at | exact (congrFun (am_up_o (by omega)) _).trans ((congrFun (am_up_o (by omega)) _).trans am_up_at)); (have h9 := h47 j9 h1 (by omega); first | exact (am_up_nk e).trans h9 | exact (congrFun (am_up_o (by omega)) _).trans ((am_up_nk e).trans h9) | exact (am_up_nk e).trans ((congrFun (am_up_o (by omega)) _).trans h9) | exact (am_up_nk e).trans ((congrFun (am_up_o (by omega)) _).trans ((congrFun (am_up_o (by omega)) _).trans h9)) | exact (congrFun (am_up_o (by omega)) _).trans ((am_up_nk e).trans ((congrFun (am_up_o (by omega)) _).trans h9)) | exact (congrFun (am_up_o (by omega)) _).trans ((congrFun (am_up_o (by omega)) _).trans ((am_up_nk e).trans h9))))
                            exact hL255 _ 0 μ9 rfl Fr.rf (by first | omega | assumption) (fun j9 h1 h2 => by omega)
                          · skip
                            refine w_aload_n dX8_text_235 rfl rfl (by first | decide | omega) ?_
                            refine w_getR (o := 45) (x := 46) fX8_text_236 rfl rfl rfl rfl ?_
                            refine w_iload_n dX8_text_239 rfl rfl ?_
                            refine w_aload_n dX8_text_240 rfl rfl (by first | decide | omega) ?_
                            refine w_getR (o := 45) (x := 63) fX8_text_241 rfl rfl rfl rfl ?_
                            refine w_iload_n dX8_text_244 rfl rfl ?_
                            refine w_ialdx (o := 63) (n := 6) (x := μ8 63 k) dX8_text_245 rfl rfl (Nat.le_of_ble_eq_true rfl) (by omega) (congrFun (hF229.at (by omega) (by omega)) _) ?_
                            refine w_iast (o := 46) (n := 6) dX8_text_246 rfl rfl (Nat.le_of_ble_eq_true rfl) (by omega) (by omega) ?_
                            refine w_iinc (ls' := [(2, 45), (0, n), (0, l), (0, k + 1)]) dX8_text_247 rfl (Nat.le_of_ble_eq_true rfl) rfl rfl ?_
                            refine w_goto (tgt := 229) dX8_text_250 rfl ?_
                            exact ih229 _ (by omega) (k + 1) (am_up μ9 46 k (μ8 63 k)) rfl (hF229.up (by omega)) (by first | omega | assumption) (fun j9 h1 h2 => by by_cases e : j9 = k; (rw [e]; first | exact am_up_at | exact (congrFun (am_up_o (by omega)) _).trans am_up_at | exact (congrFun (am_up_o (by omega)) _).trans ((congrFun (am_up_o (by omega)) _).trans am_up_at)); (have h9 := h46 j9 h1 (by omega); first | exact (am_up_nk e).trans h9 | exact (congrFun (am_up_o (by omega)) _).trans ((am_up_nk e).trans h9) | exact (am_up_nk e).trans ((congrFun (am_up_o (by omega)) _).trans h9) | exact (am_up_nk e).trans ((congrFun (am_up_o (by omega)) _).trans ((congrFun (am_up_o (by omega)) _).trans h9)) | exact (congrFun (am_up_o (by omega)) _).trans ((am_up_nk e).trans ((congrFun (am_up_o (by omega)) _).trans h9)) | exact (congrFun (am_up_o (by omega)) _).trans ((congrFun (am_up_o (by omega)) _).trans ((am_up_nk e).trans h9))))
                      exact hL229 _ 0 μ8 rfl Fr.rf (by first | omega | assumption) (fun j9 h1 h2 => by omega)
                    · skip
                      exact absurd c177 (by decide)
                  · skip
                    have hskt := hA.2.2.1.lt c160
                    have hsk9 := sk_r b n t ht.2
                    have hnx9 := nxT_g (b := b) (n := n) (σ := σ1) (t := t) (by omega)
                    refine w_aload_n dX8_text_163 rfl rfl (by first | decide | omega) ?_
                    refine w_callVV (o := 45) (ci := 8) (as := []) (rest := []) (k := 1) fX8_text_164 rfl rfl rfl rfl rfl rfl rfl rfl (Nat.le_of_ble_eq_true rfl) (s_X8_lineHere X b n σ1 t μ7 hR7 hP7 hA.2.2.1 (by first | omega | assumption) hA.1) (fun μL hμL => ?_)
                    obtain ⟨hFL, hz_L, hf_L, hR_L⟩ := hμL
                    refine w_iinc (ls' := [(2, 45), (0, n), (0, l + 1), (9, 0)]) dX8_text_167 rfl (Nat.le_of_ble_eq_true rfl) rfl rfl ?_
                    refine w_goto (tgt := 149) dX8_text_170 rfl ?_
                    exact ih149 _ (by omega) (nxS b n σ1 t) (nxT b n σ1 t) (l + 1) μL rfl ((hFL.wd (by omega) (by omega)).tr hF149) (by omega) (by omega) (TXS_go hz_L (by omega) ht.2 hA.2.2.2.1 hA.2.2.2.2.1 hA.2.2.2.2.2) hR_L (fun k h1 => ((hf_L k (by omega)).trans (h7f k (by omega)))) ⟨(hf_L 35 (by omega)).trans h735.1, (hf_L 0 (by omega)).trans h735.2⟩
              · skip
                refine w_aload_n dX8_text_149 rfl rfl (by first | decide | omega) ?_
                refine w_getIx (o := 45) (f := 43) (x := 1) fX8_text_150 rfl rfl (Nat.le_of_ble_eq_true rfl) rfl hA.1 ?_
                refine w_if_ne (tgt := 173) dX8_text_153 rfl (R32.in (by decide)) (fun c153 => ?_) (fun c153 => ?_)
                · skip
                  refine w_aload_n dX8_text_173 rfl rfl (by first | decide | omega) ?_
                  refine w_getIx (o := 45) (f := 43) (x := 1) fX8_text_174 rfl rfl (Nat.le_of_ble_eq_true rfl) rfl hA.1 ?_
                  refine w_if_eq (tgt := 182) dX8_text_177 rfl (R32.in (by decide)) (fun c177 => ?_) (fun c177 => ?_)
                  · skip
                    exact absurd c177 (by decide)
                  · skip
                    refine w_iconst dX8_text_180 ?_
                    exact w_iretI dX8_text_181 rfl ⟨(hF149.wd (by omega) (by omega)), ⟨fun q9 => absurd q9 (by omega), fun _ => ⟨((rfl : μ7 45 35 = μ7 45 35).trans (by exact h735.1)), ((rfl : μ7 45 0 = μ7 45 0).trans (by exact h735.2)), Or.inl ⟨rfl, hA.2.1, hA.2.2.1, hA.2.2.2, hF149, fun k9 h1 => h7f k9 (by omega)⟩⟩⟩, (by exact hF149.at (by omega) (by omega))⟩
                · skip
                  exact absurd c153 (by decide)
          exact hL149 _ S0 0 0 μA rfl ((hFA.wd (by omega) (by omega)).tr (hF_μ6.wd (by omega) (by omega))) (by omega) (by omega) (Or.inl ⟨h43A, RPS.cg2 hP6 (fun o h1 => hFA.at (by omega) (by omega)) (fun k9 h1 => hf_A k9 (by omega)), htk_A, ⟨(hf_A 41 (by omega)).trans h6_41, (hf_A 42 (by omega)).trans h6_42⟩, rfl, (by rw [Int.sub_zero]; exact ⟨rfl, rfl, rfl⟩)⟩) hR_A (fun k h1 => ((hf_A k (by omega)).trans (h6f k (by omega)))) ⟨(hf_A 35 (by omega)).trans h6_35, (hf_A 0 (by omega)).trans h6_0⟩
        · skip
          refine w_aload_n dX8_text_110 rfl rfl (by first | decide | omega) ?_
          refine w_getR (o := 45) (x := 68) fX8_text_111 rfl rfl rfl rfl ?_
          refine w_iload_n dX8_text_114 rfl rfl ?_
          refine w_iconst dX8_text_115 ?_
          refine w_zast (o := 68) (n := 4) dX8_text_116 rfl rfl (Nat.le_of_ble_eq_true rfl) (by omega) (by omega) (Or.inl rfl) ?_
          refine w_iinc (ls' := [(2, 45), (0, n), (0, k + 1), (9, 0)]) dX8_text_117 rfl (Nat.le_of_ble_eq_true rfl) rfl rfl ?_
          refine w_goto (tgt := 105) dX8_text_120 rfl ?_
          exact ih105 _ (by omega) (k + 1) (am_up μ5 68 k 0) rfl (hF105.up (by omega)) (by first | omega | assumption) (fun j9 h1 h2 => by rw [up_if]; by_cases e : j9 = k; exact if_pos e; rw [if_neg e]; exact h68 j9 h1 (by omega))
    exact hL105 _ 0 μ4 rfl Fr.rf (by first | omega | assumption) (fun j9 h1 h2 => by omega)
  · skip
    replace c14 := am_b0 c14
    refine w_bipush dX8_text_17 (by decide) ?_
    exact w_iretI dX8_text_19 rfl ⟨(Fr.rf.up (by omega)), (by exact ⟨fun _ => ⟨rfl, rfl⟩, fun q9 => absurd q9 c14⟩), (by exact am_up_o (by omega))⟩
