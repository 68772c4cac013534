set_option maxRecDepth 100000 in
set_option maxHeartbeats 4000000 in
theorem s_X8_hasNearer (X : AX) (D : GDt) (f : Int) (μ : Mu) (hG : RO D f μ) : Wp (GG X) M_X8_hasNearer 0 [(2, 45), (9, 0), (9, 0), (9, 0), (9, 0)] [] μ (pP 0 (am_b (hnear D (dN D - 1) = true)) μ) := by
  have hok := hG.ok
  have hn := hok.n
  have hfr := hG.r
  refine w_iconst dX8_hasNearer_0 ?_
  refine w_istore_n (ls' := [(2, 45), (0, 0), (9, 0), (9, 0), (9, 0)]) dX8_hasNearer_1 rfl (Nat.le_of_ble_eq_true rfl) rfl rfl ?_
  refine w_aload_n dX8_hasNearer_2 rfl rfl (by first | decide | omega) ?_
  refine w_getIx (o := 45) (f := 22) (x := f) fX8_hasNearer_3 rfl rfl (Nat.le_of_ble_eq_true rfl) rfl hG.fi ?_
  refine w_iconst dX8_hasNearer_6 ?_
  refine w_iadd dX8_hasNearer_7 ?_
  refine w_istore_n (ls' := [(2, 45), (0, 0), (0, f + 1), (9, 0), (9, 0)]) dX8_hasNearer_8 rfl (Nat.le_of_ble_eq_true rfl) rfl rfl ?_
  have hL9 : ∀ (n9 : Nat) (b : Int) (i : Int), (dN D - i).toNat = n9 → (1 ≤ i ∧ i ≤ dN D - 1) → (b = 0 ∨ b = 1) → (b = am_b (hnear D i = true)) → Wp (GG X) M_X8_hasNearer 9 [(2, 45), (0, b), (0, f + i), (9, 0), (9, 0)] [] μ (pP 0 (am_b (hnear D (dN D - 1) = true)) μ) := by
    intro n9
    induction n9 using Nat.strongRecOn with
    | ind n9 ih9 =>
      intro b i hn9 hi0 hb01 hb
      refine w_iload_n dX8_hasNearer_9 rfl rfl ?_
      refine w_aload_n dX8_hasNearer_10 rfl rfl (by first | decide | omega) ?_
      refine w_getIx (o := 45) (f := 23) (x := f + (dN D - 1)) fX8_hasNearer_11 rfl rfl (Nat.le_of_ble_eq_true rfl) rfl hG.la ?_
      have hr1 := (hG.ok).n
      refine w_icmp_ge (tgt := 142) dX8_hasNearer_14 rfl (R32.in (by omega)) (R32.in (by omega)) (fun c14 => ?_) (fun c14 => ?_)
      · skip
        refine w_iload_n dX8_hasNearer_142 rfl rfl ?_
        exact w_zretP dX8_hasNearer_143 rfl (by omega) (by rw [show dN D - 1 = i by omega]; exact hb)
      · skip
        refine w_aload_n dX8_hasNearer_17 rfl rfl (by first | decide | omega) ?_
        refine w_getR (o := 45) (x := 56) fX8_hasNearer_18 rfl rfl rfl rfl ?_
        refine w_iload_n dX8_hasNearer_21 rfl rfl ?_
        refine w_ialdx (o := 56) (n := 64) (x := dH D i) dX8_hasNearer_22 rfl rfl (Nat.le_of_ble_eq_true rfl) (by omega) (hG.rw.h (by omega)) ?_
        have hr2 := (hG.rw.ok).hr (i := i) (by omega)
        refine w_aload_n dX8_hasNearer_23 rfl rfl (by first | decide | omega) ?_
        refine w_getR (o := 45) (x := 56) fX8_hasNearer_24 rfl rfl rfl rfl ?_
        refine w_aload_n dX8_hasNearer_27 rfl rfl (by first | decide | omega) ?_
        refine w_getIx (o := 45) (f := 22) (x := f) fX8_hasNearer_28 rfl rfl (Nat.le_of_ble_eq_true rfl) rfl hG.fi ?_
        refine w_ialdx (o := 56) (n := 64) (x := dH D 0) dX8_hasNearer_31 rfl rfl (Nat.le_of_ble_eq_true rfl) (by omega) (hG.rw.h0 (by omega)) ?_
        have hr3 := (hG.rw.ok).hr (i := 0) (by omega)
        refine w_icmp_le (tgt := 57) dX8_hasNearer_32 rfl (R32.in (by omega)) (R32.in (by omega)) (fun c32 => ?_) (fun c32 => ?_)
        · skip
          refine w_iconst dX8_hasNearer_57 ?_
          refine w_istore_n (ls' := [(2, 45), (0, b), (0, f + i), (0, 0), (9, 0)]) dX8_hasNearer_58 rfl (Nat.le_of_ble_eq_true rfl) rfl rfl ?_
          refine w_aload_n dX8_hasNearer_59 rfl rfl (by first | decide | omega) ?_
          refine w_getR (o := 45) (x := 56) fX8_hasNearer_60 rfl rfl rfl rfl ?_
          refine w_iload_n dX8_hasNearer_63 rfl rfl ?_
          refine w_ialdx (o := 56) (n := 64) (x := dH D i) dX8_hasNearer_64 rfl rfl (Nat.le_of_ble_eq_true rfl) (by omega) (hG.rw.h (by omega)) ?_
          refine w_aload_n dX8_hasNearer_65 rfl rfl (by first | decide | omega) ?_
          refine w_getR (o := 45) (x := 56) fX8_hasNearer_66 rfl rfl rfl rfl ?_
          refine w_aload_n dX8_hasNearer_69 rfl rfl (by first | decide | omega) ?_
          refine w_getIx (o := 45) (f := 22) (x := f) fX8_hasNearer_70 rfl rfl (Nat.le_of_ble_eq_true rfl) rfl hG.fi ?_
          refine w_ialdx (o := 56) (n := 64) (x := dH D 0) dX8_hasNearer_73 rfl rfl (Nat.le_of_ble_eq_true rfl) (by omega) (hG.rw.h0 (by omega)) ?_
          refine w_icmp_ge (tgt := 99) dX8_hasNearer_74 rfl (R32.in (by omega)) (R32.in (by omega)) (fun c74 => ?_) (fun c74 => ?_)
          · skip
            refine w_iconst dX8_hasNearer_99 ?_
            refine w_istore (ls' := [(2, 45), (0, b), (0, f + i), (0, 0), (0, 0)]) dX8_hasNearer_100 (Nat.le_of_ble_eq_true rfl) rfl rfl ?_
            refine w_iload_n dX8_hasNearer_102 rfl rfl ?_
            refine w_if_ne (tgt := 130) dX8_hasNearer_103 rfl (R32.in (by omega)) (fun c103 => ?_) (fun c103 => ?_)
            · skip
              refine w_iconst dX8_hasNearer_130 ?_
              refine w_goto (tgt := 135) dX8_hasNearer_131 rfl ?_
              refine w_istore_n (ls' := [(2, 45), (0, 1), (0, f + i), (0, 0), (0, 0)]) dX8_hasNearer_135 rfl (Nat.le_of_ble_eq_true rfl) rfl rfl ?_
              refine w_iinc (ls' := [(2, 45), (0, 1), (0, (f + i) + 1), (0, 0), (0, 0)]) dX8_hasNearer_136 rfl (Nat.le_of_ble_eq_true rfl) rfl rfl ?_
              refine w_goto (tgt := 9) dX8_hasNearer_139 rfl ?_
              refine Wp.lcg (t := 0) (a := (f + i) + 1) (b := f + (i + 1)) (ls' := [(2, 45), (0, 1), (0, f + (i + 1)), (0, 0), (0, 0)]) 2 (by omega) rfl rfl ?_
              refine Wp.fgl (ls' := [(2, 45), (0, 1), (0, f + (i + 1)), (9, 0), (0, 0)]) 3 rfl ?_
              refine Wp.fgl (ls' := [(2, 45), (0, 1), (0, f + (i + 1)), (9, 0), (9, 0)]) 4 rfl ?_
              exact ih9 _ (by omega) 1 (i + 1) rfl (by first | omega | assumption) (by omega) (by rw [← hn_am hi0.1 hb]; omega)
            · skip
              refine w_aload_n dX8_hasNearer_106 rfl rfl (by first | decide | omega) ?_
              refine w_getR (o := 45) (x := 57) fX8_hasNearer_107 rfl rfl rfl rfl ?_
              refine w_aload_n dX8_hasNearer_110 rfl rfl (by first | decide | omega) ?_
              refine w_getIx (o := 45) (f := 22) (x := f) fX8_hasNearer_111 rfl rfl (Nat.le_of_ble_eq_true rfl) rfl hG.fi ?_
              refine w_ialdx (o := 57) (n := 64) (x := way D 0) dX8_hasNearer_114 rfl rfl (Nat.le_of_ble_eq_true rfl) (by omega) (hG.rw.w0 (by omega)) ?_
              have hr4 := way_b D 0
              refine w_if_le (tgt := 125) dX8_hasNearer_115 rfl (R32.in (by omega)) (fun c115 => ?_) (fun c115 => ?_)
              · skip
                refine w_iload dX8_hasNearer_125 rfl ?_
                refine w_if_eq (tgt := 134) dX8_hasNearer_127 rfl (R32.in (by decide)) (fun c127 => ?_) (fun c127 => ?_)
                · skip
                  refine w_iconst dX8_hasNearer_134 ?_
                  refine w_istore_n (ls' := [(2, 45), (0, 0), (0, f + i), (0, 0), (0, 0)]) dX8_hasNearer_135 rfl (Nat.le_of_ble_eq_true rfl) rfl rfl ?_
                  refine w_iinc (ls' := [(2, 45), (0, 0), (0, (f + i) + 1), (0, 0), (0, 0)]) dX8_hasNearer_136 rfl (Nat.le_of_ble_eq_true rfl) rfl rfl ?_
                  refine w_goto (tgt := 9) dX8_hasNearer_139 rfl ?_
                  refine Wp.lcg (t := 0) (a := (f + i) + 1) (b := f + (i + 1)) (ls' := [(2, 45), (0, 0), (0, f + (i + 1)), (0, 0), (0, 0)]) 2 (by omega) rfl rfl ?_
                  refine Wp.fgl (ls' := [(2, 45), (0, 0), (0, f + (i + 1)), (9, 0), (0, 0)]) 3 rfl ?_
                  refine Wp.fgl (ls' := [(2, 45), (0, 0), (0, f + (i + 1)), (9, 0), (9, 0)]) 4 rfl ?_
                  exact ih9 _ (by omega) 0 (i + 1) rfl (by first | omega | assumption) (by omega) (by rw [← hn_am hi0.1 hb]; omega)
                · skip
                  refine w_iconst dX8_hasNearer_130 ?_
                  refine w_goto (tgt := 135) dX8_hasNearer_131 rfl ?_
                  refine w_istore_n (ls' := [(2, 45), (0, 1), (0, f + i), (0, 0), (0, 0)]) dX8_hasNearer_135 rfl (Nat.le_of_ble_eq_true rfl) rfl rfl ?_
                  refine w_iinc (ls' := [(2, 45), (0, 1), (0, (f + i) + 1), (0, 0), (0, 0)]) dX8_hasNearer_136 rfl (Nat.le_of_ble_eq_true rfl) rfl rfl ?_
                  refine w_goto (tgt := 9) dX8_hasNearer_139 rfl ?_
                  refine Wp.lcg (t := 0) (a := (f + i) + 1) (b := f + (i + 1)) (ls' := [(2, 45), (0, 1), (0, f + (i + 1)), (0, 0), (0, 0)]) 2 (by omega) rfl rfl ?_
                  refine Wp.fgl (ls' := [(2, 45), (0, 1), (0, f + (i + 1)), (9, 0), (0, 0)]) 3 rfl ?_
                  refine Wp.fgl (ls' := [(2, 45), (0, 1), (0, f + (i + 1)), (9, 0), (9, 0)]) 4 rfl ?_
                  exact ih9 _ (by omega) 1 (i + 1) rfl (by first | omega | assumption) (by omega) (by rw [← hn_am hi0.1 hb]; omega)
              · skip
                refine w_iload_n dX8_hasNearer_118 rfl rfl ?_
                refine w_if_eq (tgt := 134) dX8_hasNearer_119 rfl (R32.in (by decide)) (fun c119 => ?_) (fun c119 => ?_)
                · skip
                  refine w_iconst dX8_hasNearer_134 ?_
                  refine w_istore_n (ls' := [(2, 45), (0, 0), (0, f + i), (0, 0), (0, 0)]) dX8_hasNearer_135 rfl (Nat.le_of_ble_eq_true rfl) rfl rfl ?_
                  refine w_iinc (ls' := [(2, 45), (0, 0), (0, (f + i) + 1), (0, 0), (0, 0)]) dX8_hasNearer_136 rfl (Nat.le_of_ble_eq_true rfl) rfl rfl ?_
                  refine w_goto (tgt := 9) dX8_hasNearer_139 rfl ?_
                  refine Wp.lcg (t := 0) (a := (f + i) + 1) (b := f + (i + 1)) (ls' := [(2, 45), (0, 0), (0, f + (i + 1)), (0, 0), (0, 0)]) 2 (by omega) rfl rfl ?_
                  refine Wp.fgl (ls' := [(2, 45), (0, 0), (0, f + (i + 1)), (9, 0), (0, 0)]) 3 rfl ?_
                  refine Wp.fgl (ls' := [(2, 45), (0, 0), (0, f + (i + 1)), (9, 0), (9, 0)]) 4 rfl ?_
                  exact ih9 _ (by omega) 0 (i + 1) rfl (by first | omega | assumption) (by omega) (by rw [← hn_am hi0.1 hb]; omega)
                · skip
                  refine w_goto (tgt := 130) dX8_hasNearer_122 rfl ?_
                  refine w_iconst dX8_hasNearer_130 ?_
                  refine w_goto (tgt := 135) dX8_hasNearer_131 rfl ?_
                  refine w_istore_n (ls' := [(2, 45), (0, 1), (0, f + i), (0, 0), (0, 0)]) dX8_hasNearer_135 rfl (Nat.le_of_ble_eq_true rfl) rfl rfl ?_
                  refine w_iinc (ls' := [(2, 45), (0, 1), (0, (f + i) + 1), (0, 0), (0, 0)]) dX8_hasNearer_136 rfl (Nat.le_of_ble_eq_true rfl) rfl rfl ?_
                  refine w_goto (tgt := 9) dX8_hasNearer_139 rfl ?_
                  refine Wp.lcg (t := 0) (a := (f + i) + 1) (b := f + (i + 1)) (ls' := [(2, 45), (0, 1), (0, f + (i + 1)), (0, 0), (0, 0)]) 2 (by omega) rfl rfl ?_
                  refine Wp.fgl (ls' := [(2, 45), (0, 1), (0, f + (i + 1)), (9, 0), (0, 0)]) 3 rfl ?_
                  refine Wp.fgl (ls' := [(2, 45), (0, 1), (0, f + (i + 1)), (9, 0), (9, 0)]) 4 rfl ?_
                  exact ih9 _ (by omega) 1 (i + 1) rfl (by first | omega | assumption) (by omega) (by rw [← hn_am hi0.1 hb]; omega)
          · skip
            refine w_aload_n dX8_hasNearer_77 rfl rfl (by first | decide | omega) ?_
            refine w_getR (o := 45) (x := 56) fX8_hasNearer_78 rfl rfl rfl rfl ?_
            refine w_iload_n dX8_hasNearer_81 rfl rfl ?_
            refine w_ialdx (o := 56) (n := 64) (x := dH D i) dX8_hasNearer_82 rfl rfl (Nat.le_of_ble_eq_true rfl) (by omega) (hG.rw.h (by omega)) ?_
            refine w_aload_n dX8_hasNearer_83 rfl rfl (by first | decide | omega) ?_
            refine w_getR (o := 45) (x := 56) fX8_hasNearer_84 rfl rfl rfl rfl ?_
            refine w_aload_n dX8_hasNearer_87 rfl rfl (by first | decide | omega) ?_
            refine w_getIx (o := 45) (f := 23) (x := f + (dN D - 1)) fX8_hasNearer_88 rfl rfl (Nat.le_of_ble_eq_true rfl) rfl hG.la ?_
            refine w_ialdx (o := 56) (n := 64) (x := dH D (dN D - 1)) dX8_hasNearer_91 rfl rfl (Nat.le_of_ble_eq_true rfl) (by omega) (hG.rw.h (by omega)) ?_
            have hr5 := (hG.rw.ok).hr (i := (dN D - 1)) (by omega)
            refine w_icmp_ge (tgt := 99) dX8_hasNearer_92 rfl (R32.in (by omega)) (R32.in (by omega)) (fun c92 => ?_) (fun c92 => ?_)
            · skip
              refine w_iconst dX8_hasNearer_99 ?_
              refine w_istore (ls' := [(2, 45), (0, b), (0, f + i), (0, 0), (0, 0)]) dX8_hasNearer_100 (Nat.le_of_ble_eq_true rfl) rfl rfl ?_
              refine w_iload_n dX8_hasNearer_102 rfl rfl ?_
              refine w_if_ne (tgt := 130) dX8_hasNearer_103 rfl (R32.in (by omega)) (fun c103 => ?_) (fun c103 => ?_)
              · skip
                refine w_iconst dX8_hasNearer_130 ?_
                refine w_goto (tgt := 135) dX8_hasNearer_131 rfl ?_
                refine w_istore_n (ls' := [(2, 45), (0, 1), (0, f + i), (0, 0), (0, 0)]) dX8_hasNearer_135 rfl (Nat.le_of_ble_eq_true rfl) rfl rfl ?_
                refine w_iinc (ls' := [(2, 45), (0, 1), (0, (f + i) + 1), (0, 0), (0, 0)]) dX8_hasNearer_136 rfl (Nat.le_of_ble_eq_true rfl) rfl rfl ?_
                refine w_goto (tgt := 9) dX8_hasNearer_139 rfl ?_
                refine Wp.lcg (t := 0) (a := (f + i) + 1) (b := f + (i + 1)) (ls' := [(2, 45), (0, 1), (0, f + (i + 1)), (0, 0), (0, 0)]) 2 (by omega) rfl rfl ?_
                refine Wp.fgl (ls' := [(2, 45), (0, 1), (0, f + (i + 1)), (9, 0), (0, 0)]) 3 rfl ?_
                refine Wp.fgl (ls' := [(2, 45), (0, 1), (0, f + (i + 1)), (9, 0), (9, 0)]) 4 rfl ?_
                exact ih9 _ (by omega) 1 (i + 1) rfl (by first | omega | assumption) (by omega) (by rw [← hn_am hi0.1 hb]; omega)
              · skip
                refine w_aload_n dX8_hasNearer_106 rfl rfl (by first | decide | omega) ?_
                refine w_getR (o := 45) (x := 57) fX8_hasNearer_107 rfl rfl rfl rfl ?_
                refine w_aload_n dX8_hasNearer_110 rfl rfl (by first | decide | omega) ?_
                refine w_getIx (o := 45) (f := 22) (x := f) fX8_hasNearer_111 rfl rfl (Nat.le_of_ble_eq_true rfl) rfl hG.fi ?_
                refine w_ialdx (o := 57) (n := 64) (x := way D 0) dX8_hasNearer_114 rfl rfl (Nat.le_of_ble_eq_true rfl) (by omega) (hG.rw.w0 (by omega)) ?_
                have hr6 := way_b D 0
                refine w_if_le (tgt := 125) dX8_hasNearer_115 rfl (R32.in (by omega)) (fun c115 => ?_) (fun c115 => ?_)
                · skip
                  refine w_iload dX8_hasNearer_125 rfl ?_
                  refine w_if_eq (tgt := 134) dX8_hasNearer_127 rfl (R32.in (by decide)) (fun c127 => ?_) (fun c127 => ?_)
                  · skip
                    refine w_iconst dX8_hasNearer_134 ?_
                    refine w_istore_n (ls' := [(2, 45), (0, 0), (0, f + i), (0, 0), (0, 0)]) dX8_hasNearer_135 rfl (Nat.le_of_ble_eq_true rfl) rfl rfl ?_
                    refine w_iinc (ls' := [(2, 45), (0, 0), (0, (f + i) + 1), (0, 0), (0, 0)]) dX8_hasNearer_136 rfl (Nat.le_of_ble_eq_true rfl) rfl rfl ?_
                    refine w_goto (tgt := 9) dX8_hasNearer_139 rfl ?_
                    refine Wp.lcg (t := 0) (a := (f + i) + 1) (b := f + (i + 1)) (ls' := [(2, 45), (0, 0), (0, f + (i + 1)), (0, 0), (0, 0)]) 2 (by omega) rfl rfl ?_
                    refine Wp.fgl (ls' := [(2, 45), (0, 0), (0, f + (i + 1)), (9, 0), (0, 0)]) 3 rfl ?_
                    refine Wp.fgl (ls' := [(2, 45), (0, 0), (0, f + (i + 1)), (9, 0), (9, 0)]) 4 rfl ?_
                    exact ih9 _ (by omega) 0 (i + 1) rfl (by first | omega | assumption) (by omega) (by rw [← hn_am hi0.1 hb]; omega)
                  · skip
                    refine w_iconst dX8_hasNearer_130 ?_
                    refine w_goto (tgt := 135) dX8_hasNearer_131 rfl ?_
                    refine w_istore_n (ls' := [(2, 45), (0, 1), (0, f + i), (0, 0), (0, 0)]) dX8_hasNearer_135 rfl (Nat.le_of_ble_eq_true rfl) rfl rfl ?_
                    refine w_iinc (ls' := [(2, 45), (0, 1), (0, (f + i) + 1), (0, 0), (0, 0)]) dX8_hasNearer_136 rfl (Nat.le_of_ble_eq_true rfl) rfl rfl ?_
                    refine w_goto (tgt := 9) dX8_hasNearer_139 rfl ?_
                    refine Wp.lcg (t := 0) (a := (f + i) + 1) (b := f + (i + 1)) (ls' := [(2, 45), (0, 1), (0, f + (i + 1)), (0, 0), (0, 0)]) 2 (by omega) rfl rfl ?_
                    refine Wp.fgl (ls' := [(2, 45), (0, 1), (0, f + (i + 1)), (9, 0), (0, 0)]) 3 rfl ?_
                    refine Wp.fgl (ls' := [(2, 45), (0, 1), (0, f + (i + 1)), (9, 0), (9, 0)]) 4 rfl ?_
                    exact ih9 _ (by omega) 1 (i + 1) rfl (by first | omega | assumption) (by omega) (by rw [← hn_am hi0.1 hb]; omega)
                · skip
                  refine w_iload_n dX8_hasNearer_118 rfl rfl ?_
                  refine w_if_eq (tgt := 134) dX8_hasNearer_119 rfl (R32.in (by decide)) (fun c119 => ?_) (fun c119 => ?_)
                  · skip
                    refine w_iconst dX8_hasNearer_134 ?_
                    refine w_istore_n (ls' := [(2, 45), (0, 0), (0, f + i), (0, 0), (0, 0)]) dX8_hasNearer_135 rfl (Nat.le_of_ble_eq_true rfl) rfl rfl ?_
                    refine w_iinc (ls' := [(2, 45), (0, 0), (0, (f + i) + 1), (0, 0), (0, 0)]) dX8_hasNearer_136 rfl (Nat.le_of_ble_eq_true rfl) rfl rfl ?_
                    refine w_goto (tgt := 9) dX8_hasNearer_139 rfl ?_
                    refine Wp.lcg (t := 0) (a := (f + i) + 1) (b := f + (i + 1)) (ls' := [(2, 45), (0, 0), (0, f + (i + 1)), (0, 0), (0, 0)]) 2 (by omega) rfl rfl ?_
                    refine Wp.fgl (ls' := [(2, 45), (0, 0), (0, f + (i + 1)), (9, 0), (0, 0)]) 3 rfl ?_
                    refine Wp.fgl (ls' := [(2, 45), (0, 0), (0, f + (i + 1)), (9, 0), (9, 0)]) 4 rfl ?_
                    exact ih9 _ (by omega) 0 (i + 1) rfl (by first | omega | assumption) (by omega) (by rw [← hn_am hi0.1 hb]; omega)
                  · skip
                    refine w_goto (tgt := 130) dX8_hasNearer_122 rfl ?_
                    refine w_iconst dX8_hasNearer_130 ?_
                    refine w_goto (tgt := 135) dX8_hasNearer_131 rfl ?_
                    refine w_istore_n (ls' := [(2, 45), (0, 1), (0, f + i), (0, 0), (0, 0)]) dX8_hasNearer_135 rfl (Nat.le_of_ble_eq_true rfl) rfl rfl ?_
                    refine w_iinc (ls' := [(2, 45), (0, 1), (0, (f + i) + 1), (0, 0), (0, 0)]) dX8_hasNearer_136 rfl (Nat.le_of_ble_eq_true rfl) rfl rfl ?_
                    refine w_goto (tgt := 9) dX8_hasNearer_139 rfl ?_
                    refine Wp.lcg (t := 0) (a := (f + i) + 1) (b := f + (i + 1)) (ls' := [(2, 45), (0, 1), (0, f + (i + 1)), (0, 0), (0, 0)]) 2 (by omega) rfl rfl ?_
                    refine Wp.fgl (ls' := [(2, 45), (0, 1), (0, f + (i + 1)), (9, 0), (0, 0)]) 3 rfl ?_
                    refine Wp.fgl (ls' := [(2, 45), (0, 1), (0, f + (i + 1)), (9, 0), (9, 0)]) 4 rfl ?_
                    exact ih9 _ (by omega) 1 (i + 1) rfl (by first | omega | assumption) (by omega) (by rw [← hn_am hi0.1 hb]; omega)
            · skip
              refine w_iconst dX8_hasNearer_95 ?_
              refine w_goto (tgt := 100) dX8_hasNearer_96 rfl ?_
              refine w_istore (ls' := [(2, 45), (0, b), (0, f + i), (0, 0), (0, 1)]) dX8_hasNearer_100 (Nat.le_of_ble_eq_true rfl) rfl rfl ?_
              refine w_iload_n dX8_hasNearer_102 rfl rfl ?_
              refine w_if_ne (tgt := 130) dX8_hasNearer_103 rfl (R32.in (by omega)) (fun c103 => ?_) (fun c103 => ?_)
              · skip
                refine w_iconst dX8_hasNearer_130 ?_
                refine w_goto (tgt := 135) dX8_hasNearer_131 rfl ?_
                refine w_istore_n (ls' := [(2, 45), (0, 1), (0, f + i), (0, 0), (0, 1)]) dX8_hasNearer_135 rfl (Nat.le_of_ble_eq_true rfl) rfl rfl ?_
                refine w_iinc (ls' := [(2, 45), (0, 1), (0, (f + i) + 1), (0, 0), (0, 1)]) dX8_hasNearer_136 rfl (Nat.le_of_ble_eq_true rfl) rfl rfl ?_
                refine w_goto (tgt := 9) dX8_hasNearer_139 rfl ?_
                refine Wp.lcg (t := 0) (a := (f + i) + 1) (b := f + (i + 1)) (ls' := [(2, 45), (0, 1), (0, f + (i + 1)), (0, 0), (0, 1)]) 2 (by omega) rfl rfl ?_
                refine Wp.fgl (ls' := [(2, 45), (0, 1), (0, f + (i + 1)), (9, 0), (0, 1)]) 3 rfl ?_
                refine Wp.fgl (ls' := [(2, 45), (0, 1), (0, f + (i + 1)), (9, 0), (9, 0)]) 4 rfl ?_
                exact ih9 _ (by omega) 1 (i + 1) rfl (by first | omega | assumption) (by omega) (by rw [← hn_am hi0.1 hb]; omega)
              · skip
                refine w_aload_n dX8_hasNearer_106 rfl rfl (by first | decide | omega) ?_
                refine w_getR (o := 45) (x := 57) fX8_hasNearer_107 rfl rfl rfl rfl ?_
                refine w_aload_n dX8_hasNearer_110 rfl rfl (by first | decide | omega) ?_
                refine w_getIx (o := 45) (f := 22) (x := f) fX8_hasNearer_111 rfl rfl (Nat.le_of_ble_eq_true rfl) rfl hG.fi ?_
                refine w_ialdx (o := 57) (n := 64) (x := way D 0) dX8_hasNearer_114 rfl rfl (Nat.le_of_ble_eq_true rfl) (by omega) (hG.rw.w0 (by omega)) ?_
                have hr7 := way_b D 0
                refine w_if_le (tgt := 125) dX8_hasNearer_115 rfl (R32.in (by omega)) (fun c115 => ?_) (fun c115 => ?_)
                · skip
                  refine w_iload dX8_hasNearer_125 rfl ?_
                  refine w_if_eq (tgt := 134) dX8_hasNearer_127 rfl (R32.in (by decide)) (fun c127 => ?_) (fun c127 => ?_)
                  · skip
                    refine w_iconst dX8_hasNearer_134 ?_
                    refine w_istore_n (ls' := [(2, 45), (0, 0), (0, f + i), (0, 0), (0, 1)]) dX8_hasNearer_135 rfl (Nat.le_of_ble_eq_true rfl) rfl rfl ?_
                    refine w_iinc (ls' := [(2, 45), (0, 0), (0, (f + i) + 1), (0, 0), (0, 1)]) dX8_hasNearer_136 rfl (Nat.le_of_ble_eq_true rfl) rfl rfl ?_
                    refine w_goto (tgt := 9) dX8_hasNearer_139 rfl ?_
                    refine Wp.lcg (t := 0) (a := (f + i) + 1) (b := f + (i + 1)) (ls' := [(2, 45), (0, 0), (0, f + (i + 1)), (0, 0), (0, 1)]) 2 (by omega) rfl rfl ?_
                    refine Wp.fgl (ls' := [(2, 45), (0, 0), (0, f + (i + 1)), (9, 0), (0, 1)]) 3 rfl ?_
                    refine Wp.fgl (ls' := [(2, 45), (0, 0), (0, f + (i + 1)), (9, 0), (9, 0)]) 4 rfl ?_
                    exact ih9 _ (by omega) 0 (i + 1) rfl (by first | omega | assumption) (by omega) (by rw [← hn_am hi0.1 hb]; omega)
                  · skip
                    refine w_iconst dX8_hasNearer_130 ?_
                    refine w_goto (tgt := 135) dX8_hasNearer_131 rfl ?_
                    refine w_istore_n (ls' := [(2, 45), (0, 1), (0, f + i), (0, 0), (0, 1)]) dX8_hasNearer_135 rfl (Nat.le_of_ble_eq_true rfl) rfl rfl ?_
                    refine w_iinc (ls' := [(2, 45), (0, 1), (0, (f + i) + 1), (0, 0), (0, 1)]) dX8_hasNearer_136 rfl (Nat.le_of_ble_eq_true rfl) rfl rfl ?_
                    refine w_goto (tgt := 9) dX8_hasNearer_139 rfl ?_
                    refine Wp.lcg (t := 0) (a := (f + i) + 1) (b := f + (i + 1)) (ls' := [(2, 45), (0, 1), (0, f + (i + 1)), (0, 0), (0, 1)]) 2 (by omega) rfl rfl ?_
                    refine Wp.fgl (ls' := [(2, 45), (0, 1), (0, f + (i + 1)), (9, 0), (0, 1)]) 3 rfl ?_
                    refine Wp.fgl (ls' := [(2, 45), (0, 1), (0, f + (i + 1)), (9, 0), (9, 0)]) 4 rfl ?_
                    exact ih9 _ (by omega) 1 (i + 1) rfl (by first | omega | assumption) (by omega) (by rw [← hn_am hi0.1 hb]; omega)
                · skip
                  refine w_iload_n dX8_hasNearer_118 rfl rfl ?_
                  refine w_if_eq (tgt := 134) dX8_hasNearer_119 rfl (R32.in (by decide)) (fun c119 => ?_) (fun c119 => ?_)
                  · skip
                    refine w_iconst dX8_hasNearer_134 ?_
                    refine w_istore_n (ls' := [(2, 45), (0, 0), (0, f + i), (0, 0), (0, 1)]) dX8_hasNearer_135 rfl (Nat.le_of_ble_eq_true rfl) rfl rfl ?_
                    refine w_iinc (ls' := [(2, 45), (0, 0), (0, (f + i) + 1), (0, 0), (0, 1)]) dX8_hasNearer_136 rfl (Nat.le_of_ble_eq_true rfl) rfl rfl ?_
                    refine w_goto (tgt := 9) dX8_hasNearer_139 rfl ?_
                    refine Wp.lcg (t := 0) (a := (f + i) + 1) (b := f + (i + 1)) (ls' := [(2, 45), (0, 0), (0, f + (i + 1)), (0, 0), (0, 1)]) 2 (by omega) rfl rfl ?_
                    refine Wp.fgl (ls' := [(2, 45), (0, 0), (0, f + (i + 1)), (9, 0), (0, 1)]) 3 rfl ?_
                    refine Wp.fgl (ls' := [(2, 45), (0, 0), (0, f + (i + 1)), (9, 0), (9, 0)]) 4 rfl ?_
                    exact ih9 _ (by omega) 0 (i + 1) rfl (by first | omega | assumption) (by omega) (by rw [← hn_am hi0.1 hb]; omega)
                  · skip
                    refine w_goto (tgt := 130) dX8_hasNearer_122 rfl ?_
                    refine w_iconst dX8_hasNearer_130 ?_
                    refine w_goto (tgt := 135) dX8_hasNearer_131 rfl ?_
                    refine w_istore_n (ls' := [(2, 45), (0, 1), (0, f + i), (0, 0), (0, 1)]) dX8_hasNearer_135 rfl (Nat.le_of_ble_eq_true rfl) rfl rfl ?_
                    refine w_iinc (ls' := [(2, 45), (0, 1), (0, (f + i) + 1), (0, 0), (0, 1)]) dX8_hasNearer_136 rfl (Nat.le_of_ble_eq_true rfl) rfl rfl ?_
                    refine w_goto (tgt := 9) dX8_hasNearer_139 rfl ?_
                    refine Wp.lcg (t := 0) (a := (f + i) + 1) (b := f + (i + 1)) (ls' := [(2, 45), (0, 1), (0, f + (i + 1)), (0, 0), (0, 1)]) 2 (by omega) rfl rfl ?_
                    refine Wp.fgl (ls' := [(2, 45), (0, 1), (0, f + (i + 1)), (9, 0), (0, 1)]) 3 rfl ?_
                    refine Wp.fgl (ls' := [(2, 45), (0, 1), (0, f + (i + 1)), (9, 0), (9, 0)]) 4 rfl ?_
                    exact ih9 _ (by omega) 1 (i + 1) rfl (by first | omega | assumption) (by omega) (by rw [← hn_am hi0.1 hb]; omega)
        · skip
          refine w_aload_n dX8_hasNearer_35 rfl rfl (by first | decide | omega) ?_
          refine w_getR (o := 45) (x := 56) fX8_hasNearer_36 rfl rfl rfl rfl ?_
          refine w_iload_n dX8_hasNearer_39 rfl rfl ?_
          refine w_ialdx (o := 56) (n := 64) (x := dH D i) dX8_hasNearer_40 rfl rfl (Nat.le_of_ble_eq_true rfl) (by omega) (hG.rw.h (by omega)) ?_
          refine w_aload_n dX8_hasNearer_41 rfl rfl (by first | decide | omega) ?_
          refine w_getR (o := 45) (x := 56) fX8_hasNearer_42 rfl rfl rfl rfl ?_
          refine w_aload_n dX8_hasNearer_45 rfl rfl (by first | decide | omega) ?_
          refine w_getIx (o := 45) (f := 23) (x := f + (dN D - 1)) fX8_hasNearer_46 rfl rfl (Nat.le_of_ble_eq_true rfl) rfl hG.la ?_
          refine w_ialdx (o := 56) (n := 64) (x := dH D (dN D - 1)) dX8_hasNearer_49 rfl rfl (Nat.le_of_ble_eq_true rfl) (by omega) (hG.rw.h (by omega)) ?_
          have hr8 := (hG.rw.ok).hr (i := (dN D - 1)) (by omega)
          refine w_icmp_le (tgt := 57) dX8_hasNearer_50 rfl (R32.in (by omega)) (R32.in (by omega)) (fun c50 => ?_) (fun c50 => ?_)
          · skip
            refine w_iconst dX8_hasNearer_57 ?_
            refine w_istore_n (ls' := [(2, 45), (0, b), (0, f + i), (0, 0), (9, 0)]) dX8_hasNearer_58 rfl (Nat.le_of_ble_eq_true rfl) rfl rfl ?_
            refine w_aload_n dX8_hasNearer_59 rfl rfl (by first | decide | omega) ?_
            refine w_getR (o := 45) (x := 56) fX8_hasNearer_60 rfl rfl rfl rfl ?_
            refine w_iload_n dX8_hasNearer_63 rfl rfl ?_
            refine w_ialdx (o := 56) (n := 64) (x := dH D i) dX8_hasNearer_64 rfl rfl (Nat.le_of_ble_eq_true rfl) (by omega) (hG.rw.h (by omega)) ?_
            refine w_aload_n dX8_hasNearer_65 rfl rfl (by first | decide | omega) ?_
            refine w_getR (o := 45) (x := 56) fX8_hasNearer_66 rfl rfl rfl rfl ?_
            refine w_aload_n dX8_hasNearer_69 rfl rfl (by first | decide | omega) ?_
            refine w_getIx (o := 45) (f := 22) (x := f) fX8_hasNearer_70 rfl rfl (Nat.le_of_ble_eq_true rfl) rfl hG.fi ?_
            refine w_ialdx (o := 56) (n := 64) (x := dH D 0) dX8_hasNearer_73 rfl rfl (Nat.le_of_ble_eq_true rfl) (by omega) (hG.rw.h0 (by omega)) ?_
            refine w_icmp_ge (tgt := 99) dX8_hasNearer_74 rfl (R32.in (by omega)) (R32.in (by omega)) (fun c74 => ?_) (fun c74 => ?_)
            · skip
              refine w_iconst dX8_hasNearer_99 ?_
              refine w_istore (ls' := [(2, 45), (0, b), (0, f + i), (0, 0), (0, 0)]) dX8_hasNearer_100 (Nat.le_of_ble_eq_true rfl) rfl rfl ?_
              refine w_iload_n dX8_hasNearer_102 rfl rfl ?_
              refine w_if_ne (tgt := 130) dX8_hasNearer_103 rfl (R32.in (by omega)) (fun c103 => ?_) (fun c103 => ?_)
              · skip
                refine w_iconst dX8_hasNearer_130 ?_
                refine w_goto (tgt := 135) dX8_hasNearer_131 rfl ?_
                refine w_istore_n (ls' := [(2, 45), (0, 1), (0, f + i), (0, 0), (0, 0)]) dX8_hasNearer_135 rfl (Nat.le_of_ble_eq_true rfl) rfl rfl ?_
                refine w_iinc (ls' := [(2, 45), (0, 1), (0, (f + i) + 1), (0, 0), (0, 0)]) dX8_hasNearer_136 rfl (Nat.le_of_ble_eq_true rfl) rfl rfl ?_
                refine w_goto (tgt := 9) dX8_hasNearer_139 rfl ?_
                refine Wp.lcg (t := 0) (a := (f + i) + 1) (b := f + (i + 1)) (ls' := [(2, 45), (0, 1), (0, f + (i + 1)), (0, 0), (0, 0)]) 2 (by omega) rfl rfl ?_
                refine Wp.fgl (ls' := [(2, 45), (0, 1), (0, f + (i + 1)), (9, 0), (0, 0)]) 3 rfl ?_
                refine Wp.fgl (ls' := [(2, 45), (0, 1), (0, f + (i + 1)), (9, 0), (9, 0)]) 4 rfl ?_
                exact ih9 _ (by omega) 1 (i + 1) rfl (by first | omega | assumption) (by omega) (by rw [← hn_am hi0.1 hb]; omega)
              · skip
                refine w_aload_n dX8_hasNearer_106 rfl rfl (by first | decide | omega) ?_
                refine w_getR (o := 45) (x := 57) fX8_hasNearer_107 rfl rfl rfl rfl ?_
                refine w_aload_n dX8_hasNearer_110 rfl rfl (by first | decide | omega) ?_
                refine w_getIx (o := 45) (f := 22) (x := f) fX8_hasNearer_111 rfl rfl (Nat.le_of_ble_eq_true rfl) rfl hG.fi ?_
                refine w_ialdx (o := 57) (n := 64) (x := way D 0) dX8_hasNearer_114 rfl rfl (Nat.le_of_ble_eq_true rfl) (by omega) (hG.rw.w0 (by omega)) ?_
                have hr9 := way_b D 0
                refine w_if_le (tgt := 125) dX8_hasNearer_115 rfl (R32.in (by omega)) (fun c115 => ?_) (fun c115 => ?_)
                · skip
                  refine w_iload dX8_hasNearer_125 rfl ?_
                  refine w_if_eq (tgt := 134) dX8_hasNearer_127 rfl (R32.in (by decide)) (fun c127 => ?_) (fun c127 => ?_)
                  · skip
                    refine w_iconst dX8_hasNearer_134 ?_
                    refine w_istore_n (ls' := [(2, 45), (0, 0), (0, f + i), (0, 0), (0, 0)]) dX8_hasNearer_135 rfl (Nat.le_of_ble_eq_true rfl) rfl rfl ?_
                    refine w_iinc (ls' := [(2, 45), (0, 0), (0, (f + i) + 1), (0, 0), (0, 0)]) dX8_hasNearer_136 rfl (Nat.le_of_ble_eq_true rfl) rfl rfl ?_
                    refine w_goto (tgt := 9) dX8_hasNearer_139 rfl ?_
                    refine Wp.lcg (t := 0) (a := (f + i) + 1) (b := f + (i + 1)) (ls' := [(2, 45), (0, 0), (0, f + (i + 1)), (0, 0), (0, 0)]) 2 (by omega) rfl rfl ?_
                    refine Wp.fgl (ls' := [(2, 45), (0, 0), (0, f + (i + 1)), (9, 0), (0, 0)]) 3 rfl ?_
                    refine Wp.fgl (ls' := [(2, 45), (0, 0), (0, f + (i + 1)), (9, 0), (9, 0)]) 4 rfl ?_
                    exact ih9 _ (by omega) 0 (i + 1) rfl (by first | omega | assumption) (by omega) (by rw [← hn_am hi0.1 hb]; omega)
                  · skip
                    refine w_iconst dX8_hasNearer_130 ?_
                    refine w_goto (tgt := 135) dX8_hasNearer_131 rfl ?_
                    refine w_istore_n (ls' := [(2, 45), (0, 1), (0, f + i), (0, 0), (0, 0)]) dX8_hasNearer_135 rfl (Nat.le_of_ble_eq_true rfl) rfl rfl ?_
                    refine w_iinc (ls' := [(2, 45), (0, 1), (0, (f + i) + 1), (0, 0), (0, 0)]) dX8_hasNearer_136 rfl (Nat.le_of_ble_eq_true rfl) rfl rfl ?_
                    refine w_goto (tgt := 9) dX8_hasNearer_139 rfl ?_
                    refine Wp.lcg (t := 0) (a := (f + i) + 1) (b := f + (i + 1)) (ls' := [(2, 45), (0, 1), (0, f + (i + 1)), (0, 0), (0, 0)]) 2 (by omega) rfl rfl ?_
                    refine Wp.fgl (ls' := [(2, 45), (0, 1), (0, f + (i + 1)), (9, 0), (0, 0)]) 3 rfl ?_
                    refine Wp.fgl (ls' := [(2, 45), (0, 1), (0, f + (i + 1)), (9, 0), (9, 0)]) 4 rfl ?_
                    exact ih9 _ (by omega) 1 (i + 1) rfl (by first | omega | assumption) (by omega) (by rw [← hn_am hi0.1 hb]; omega)
                · skip
                  refine w_iload_n dX8_hasNearer_118 rfl rfl ?_
                  refine w_if_eq (tgt := 134) dX8_hasNearer_119 rfl (R32.in (by decide)) (fun c119 => ?_) (fun c119 => ?_)
                  · skip
                    refine w_iconst dX8_hasNearer_134 ?_
                    refine w_istore_n (ls' := [(2, 45), (0, 0), (0, f + i), (0, 0), (0, 0)]) dX8_hasNearer_135 rfl (Nat.le_of_ble_eq_true rfl) rfl rfl ?_
                    refine w_iinc (ls' := [(2, 45), (0, 0), (0, (f + i) + 1), (0, 0), (0, 0)]) dX8_hasNearer_136 rfl (Nat.le_of_ble_eq_true rfl) rfl rfl ?_
                    refine w_goto (tgt := 9) dX8_hasNearer_139 rfl ?_
                    refine Wp.lcg (t := 0) (a := (f + i) + 1) (b := f + (i + 1)) (ls' := [(2, 45), (0, 0), (0, f + (i + 1)), (0, 0), (0, 0)]) 2 (by omega) rfl rfl ?_
                    refine Wp.fgl (ls' := [(2, 45), (0, 0), (0, f + (i + 1)), (9, 0), (0, 0)]) 3 rfl ?_
                    refine Wp.fgl (ls' := [(2, 45), (0, 0), (0, f + (i + 1)), (9, 0), (9, 0)]) 4 rfl ?_
                    exact ih9 _ (by omega) 0 (i + 1) rfl (by first | omega | assumption) (by omega) (by rw [← hn_am hi0.1 hb]; omega)
                  · skip
                    refine w_goto (tgt := 130) dX8_hasNearer_122 rfl ?_
                    refine w_iconst dX8_hasNearer_130 ?_
                    refine w_goto (tgt := 135) dX8_hasNearer_131 rfl ?_
                    refine w_istore_n (ls' := [(2, 45), (0, 1), (0, f + i), (0, 0), (0, 0)]) dX8_hasNearer_135 rfl (Nat.le_of_ble_eq_true rfl) rfl rfl ?_
                    refine w_iinc (ls' := [(2, 45), (0, 1), (0, (f + i) + 1), (0, 0), (0, 0)]) dX8_hasNearer_136 rfl (Nat.le_of_ble_eq_true rfl) rfl rfl ?_
                    refine w_goto (tgt := 9) dX8_hasNearer_139 rfl ?_
                    refine Wp.lcg (t := 0) (a := (f + i) + 1) (b := f + (i + 1)) (ls' := [(2, 45), (0, 1), (0, f + (i + 1)), (0, 0), (0, 0)]) 2 (by omega) rfl rfl ?_
                    refine Wp.fgl (ls' := [(2, 45), (0, 1), (0, f + (i + 1)), (9, 0), (0, 0)]) 3 rfl ?_
                    refine Wp.fgl (ls' := [(2, 45), (0, 1), (0, f + (i + 1)), (9, 0), (9, 0)]) 4 rfl ?_
                    exact ih9 _ (by omega) 1 (i + 1) rfl (by first | omega | assumption) (by omega) (by rw [← hn_am hi0.1 hb]; omega)
            · skip
              refine w_aload_n dX8_hasNearer_77 rfl rfl (by first | decide | omega) ?_
              refine w_getR (o := 45) (x := 56) fX8_hasNearer_78 rfl rfl rfl rfl ?_
              refine w_iload_n dX8_hasNearer_81 rfl rfl ?_
              refine w_ialdx (o := 56) (n := 64) (x := dH D i) dX8_hasNearer_82 rfl rfl (Nat.le_of_ble_eq_true rfl) (by omega) (hG.rw.h (by omega)) ?_
              refine w_aload_n dX8_hasNearer_83 rfl rfl (by first | decide | omega) ?_
              refine w_getR (o := 45) (x := 56) fX8_hasNearer_84 rfl rfl rfl rfl ?_
              refine w_aload_n dX8_hasNearer_87 rfl rfl (by first | decide | omega) ?_
              refine w_getIx (o := 45) (f := 23) (x := f + (dN D - 1)) fX8_hasNearer_88 rfl rfl (Nat.le_of_ble_eq_true rfl) rfl hG.la ?_
              refine w_ialdx (o := 56) (n := 64) (x := dH D (dN D - 1)) dX8_hasNearer_91 rfl rfl (Nat.le_of_ble_eq_true rfl) (by omega) (hG.rw.h (by omega)) ?_
              refine w_icmp_ge (tgt := 99) dX8_hasNearer_92 rfl (R32.in (by omega)) (R32.in (by omega)) (fun c92 => ?_) (fun c92 => ?_)
              · skip
                refine w_iconst dX8_hasNearer_99 ?_
                refine w_istore (ls' := [(2, 45), (0, b), (0, f + i), (0, 0), (0, 0)]) dX8_hasNearer_100 (Nat.le_of_ble_eq_true rfl) rfl rfl ?_
                refine w_iload_n dX8_hasNearer_102 rfl rfl ?_
                refine w_if_ne (tgt := 130) dX8_hasNearer_103 rfl (R32.in (by omega)) (fun c103 => ?_) (fun c103 => ?_)
                · skip
                  refine w_iconst dX8_hasNearer_130 ?_
                  refine w_goto (tgt := 135) dX8_hasNearer_131 rfl ?_
                  refine w_istore_n (ls' := [(2, 45), (0, 1), (0, f + i), (0, 0), (0, 0)]) dX8_hasNearer_135 rfl (Nat.le_of_ble_eq_true rfl) rfl rfl ?_
                  refine w_iinc (ls' := [(2, 45), (0, 1), (0, (f + i) + 1), (0, 0), (0, 0)]) dX8_hasNearer_136 rfl (Nat.le_of_ble_eq_true rfl) rfl rfl ?_
                  refine w_goto (tgt := 9) dX8_hasNearer_139 rfl ?_
                  refine Wp.lcg (t := 0) (a := (f + i) + 1) (b := f + (i + 1)) (ls' := [(2, 45), (0, 1), (0, f + (i + 1)), (0, 0), (0, 0)]) 2 (by omega) rfl rfl ?_
                  refine Wp.fgl (ls' := [(2, 45), (0, 1), (0, f + (i + 1)), (9, 0), (0, 0)]) 3 rfl ?_
                  refine Wp.fgl (ls' := [(2, 45), (0, 1), (0, f + (i + 1)), (9, 0), (9, 0)]) 4 rfl ?_
                  exact ih9 _ (by omega) 1 (i + 1) rfl (by first | omega | assumption) (by omega) (by rw [← hn_am hi0.1 hb]; omega)
                · skip
                  refine w_aload_n dX8_hasNearer_106 rfl rfl (by first | decide | omega) ?_
                  refine w_getR (o := 45) (x := 57) fX8_hasNearer_107 rfl rfl rfl rfl ?_
                  refine w_aload_n dX8_hasNearer_110 rfl rfl (by first | decide | omega) ?_
                  refine w_getIx (o := 45) (f := 22) (x := f) fX8_hasNearer_111 rfl rfl (Nat.le_of_ble_eq_true rfl) rfl hG.fi ?_
                  refine w_ialdx (o := 57) (n := 64) (x := way D 0) dX8_hasNearer_114 rfl rfl (Nat.le_of_ble_eq_true rfl) (by omega) (hG.rw.w0 (by omega)) ?_
                  have hr10 := way_b D 0
                  refine w_if_le (tgt := 125) dX8_hasNearer_115 rfl (R32.in (by omega)) (fun c115 => ?_) (fun c115 => ?_)
                  · skip
                    refine w_iload dX8_hasNearer_125 rfl ?_
                    refine w_if_eq (tgt := 134) dX8_hasNearer_127 rfl (R32.in (by decide)) (fun c127 => ?_) (fun c127 => ?_)
                    · skip
                      refine w_iconst dX8_hasNearer_134 ?_
                      refine w_istore_n (ls' := [(2, 45), (0, 0), (0, f + i), (0, 0), (0, 0)]) dX8_hasNearer_135 rfl (Nat.le_of_ble_eq_true rfl) rfl rfl ?_
                      refine w_iinc (ls' := [(2, 45), (0, 0), (0, (f + i) + 1), (0, 0), (0, 0)]) dX8_hasNearer_136 rfl (Nat.le_of_ble_eq_true rfl) rfl rfl ?_
                      refine w_goto (tgt := 9) dX8_hasNearer_139 rfl ?_
                      refine Wp.lcg (t := 0) (a := (f + i) + 1) (b := f + (i + 1)) (ls' := [(2, 45), (0, 0), (0, f + (i + 1)), (0, 0), (0, 0)]) 2 (by omega) rfl rfl ?_
                      refine Wp.fgl (ls' := [(2, 45), (0, 0), (0, f + (i + 1)), (9, 0), (0, 0)]) 3 rfl ?_
                      refine Wp.fgl (ls' := [(2, 45), (0, 0), (0, f + (i + 1)), (9, 0), (9, 0)]) 4 rfl ?_
                      exact ih9 _ (by omega) 0 (i + 1) rfl (by first | omega | assumption) (by omega) (by rw [← hn_am hi0.1 hb]; omega)
                    · skip
                      refine w_iconst dX8_hasNearer_130 ?_
                      refine w_goto (tgt := 135) dX8_hasNearer_131 rfl ?_
                      refine w_istore_n (ls' := [(2, 45), (0, 1), (0, f + i), (0, 0), (0, 0)]) dX8_hasNearer_135 rfl (Nat.le_of_ble_eq_true rfl) rfl rfl ?_
                      refine w_iinc (ls' := [(2, 45), (0, 1), (0, (f + i) + 1), (0, 0), (0, 0)]) dX8_hasNearer_136 rfl (Nat.le_of_ble_eq_true rfl) rfl rfl ?_
                      refine w_goto (tgt := 9) dX8_hasNearer_139 rfl ?_
                      refine Wp.lcg (t := 0) (a := (f + i) + 1) (b := f + (i + 1)) (ls' := [(2, 45), (0, 1), (0, f + (i + 1)), (0, 0), (0, 0)]) 2 (by omega) rfl rfl ?_
                      refine Wp.fgl (ls' := [(2, 45), (0, 1), (0, f + (i + 1)), (9, 0), (0, 0)]) 3 rfl ?_
                      refine Wp.fgl (ls' := [(2, 45), (0, 1), (0, f + (i + 1)), (9, 0), (9, 0)]) 4 rfl ?_
                      exact ih9 _ (by omega) 1 (i + 1) rfl (by first | omega | assumption) (by omega) (by rw [← hn_am hi0.1 hb]; omega)
                  · skip
                    refine w_iload_n dX8_hasNearer_118 rfl rfl ?_
                    refine w_if_eq (tgt := 134) dX8_hasNearer_119 rfl (R32.in (by decide)) (fun c119 => ?_) (fun c119 => ?_)
                    · skip
                      refine w_iconst dX8_hasNearer_134 ?_
                      refine w_istore_n (ls' := [(2, 45), (0, 0), (0, f + i), (0, 0), (0, 0)]) dX8_hasNearer_135 rfl (Nat.le_of_ble_eq_true rfl) rfl rfl ?_
                      refine w_iinc (ls' := [(2, 45), (0, 0), (0, (f + i) + 1), (0, 0), (0, 0)]) dX8_hasNearer_136 rfl (Nat.le_of_ble_eq_true rfl) rfl rfl ?_
                      refine w_goto (tgt := 9) dX8_hasNearer_139 rfl ?_
                      refine Wp.lcg (t := 0) (a := (f + i) + 1) (b := f + (i + 1)) (ls' := [(2, 45), (0, 0), (0, f + (i + 1)), (0, 0), (0, 0)]) 2 (by omega) rfl rfl ?_
                      refine Wp.fgl (ls' := [(2, 45), (0, 0), (0, f + (i + 1)), (9, 0), (0, 0)]) 3 rfl ?_
                      refine Wp.fgl (ls' := [(2, 45), (0, 0), (0, f + (i + 1)), (9, 0), (9, 0)]) 4 rfl ?_
                      exact ih9 _ (by omega) 0 (i + 1) rfl (by first | omega | assumption) (by omega) (by rw [← hn_am hi0.1 hb]; omega)
                    · skip
                      refine w_goto (tgt := 130) dX8_hasNearer_122 rfl ?_
                      refine w_iconst dX8_hasNearer_130 ?_
                      refine w_goto (tgt := 135) dX8_hasNearer_131 rfl ?_
                      refine w_istore_n (ls' := [(2, 45), (0, 1), (0, f + i), (0, 0), (0, 0)]) dX8_hasNearer_135 rfl (Nat.le_of_ble_eq_true rfl) rfl rfl ?_
                      refine w_iinc (ls' := [(2, 45), (0, 1), (0, (f + i) + 1), (0, 0), (0, 0)]) dX8_hasNearer_136 rfl (Nat.le_of_ble_eq_true rfl) rfl rfl ?_
                      refine w_goto (tgt := 9) dX8_hasNearer_139 rfl ?_
                      refine Wp.lcg (t := 0) (a := (f + i) + 1) (b := f + (i + 1)) (ls' := [(2, 45), (0, 1), (0, f + (i + 1)), (0, 0), (0, 0)]) 2 (by omega) rfl rfl ?_
                      refine Wp.fgl (ls' := [(2, 45), (0, 1), (0, f + (i + 1)), (9, 0), (0, 0)]) 3 rfl ?_
                      refine Wp.fgl (ls' := [(2, 45), (0, 1), (0, f + (i + 1)), (9, 0), (9, 0)]) 4 rfl ?_
                      exact ih9 _ (by omega) 1 (i + 1) rfl (by first | omega | assumption) (by omega) (by rw [← hn_am hi0.1 hb]; omega)
              · skip
                refine w_iconst dX8_hasNearer_95 ?_
                refine w_goto (tgt := 100) dX8_hasNearer_96 rfl ?_
                refine w_istore (ls' := [(2, 45), (0, b), (0, f + i), (0, 0), (0, 1)]) dX8_hasNearer_100 (Nat.le_of_ble_eq_true rfl) rfl rfl ?_
                refine w_iload_n dX8_hasNearer_102 rfl rfl ?_
                refine w_if_ne (tgt := 130) dX8_hasNearer_103 rfl (R32.in (by omega)) (fun c103 => ?_) (fun c103 => ?_)
                · skip
                  refine w_iconst dX8_hasNearer_130 ?_
                  refine w_goto (tgt := 135) dX8_hasNearer_131 rfl ?_
                  refine w_istore_n (ls' := [(2, 45), (0, 1), (0, f + i), (0, 0), (0, 1)]) dX8_hasNearer_135 rfl (Nat.le_of_ble_eq_true rfl) rfl rfl ?_
                  refine w_iinc (ls' := [(2, 45), (0, 1), (0, (f + i) + 1), (0, 0), (0, 1)]) dX8_hasNearer_136 rfl (Nat.le_of_ble_eq_true rfl) rfl rfl ?_
                  refine w_goto (tgt := 9) dX8_hasNearer_139 rfl ?_
                  refine Wp.lcg (t := 0) (a := (f + i) + 1) (b := f + (i + 1)) (ls' := [(2, 45), (0, 1), (0, f + (i + 1)), (0, 0), (0, 1)]) 2 (by omega) rfl rfl ?_
                  refine Wp.fgl (ls' := [(2, 45), (0, 1), (0, f + (i + 1)), (9, 0), (0, 1)]) 3 rfl ?_
                  refine Wp.fgl (ls' := [(2, 45), (0, 1), (0, f + (i + 1)), (9, 0), (9, 0)]) 4 rfl ?_
                  exact ih9 _ (by omega) 1 (i + 1) rfl (by first | omega | assumption) (by omega) (by rw [← hn_am hi0.1 hb]; omega)
                · skip
                  refine w_aload_n dX8_hasNearer_106 rfl rfl (by first | decide | omega) ?_
                  refine w_getR (o := 45) (x := 57) fX8_hasNearer_107 rfl rfl rfl rfl ?_
                  refine w_aload_n dX8_hasNearer_110 rfl rfl (by first | decide | omega) ?_
                  refine w_getIx (o := 45) (f := 22) (x := f) fX8_hasNearer_111 rfl rfl (Nat.le_of_ble_eq_true rfl) rfl hG.fi ?_
                  refine w_ialdx (o := 57) (n := 64) (x := way D 0) dX8_hasNearer_114 rfl rfl (Nat.le_of_ble_eq_true rfl) (by omega) (hG.rw.w0 (by omega)) ?_
                  have hr11 := way_b D 0
                  refine w_if_le (tgt := 125) dX8_hasNearer_115 rfl (R32.in (by omega)) (fun c115 => ?_) (fun c115 => ?_)
                  · skip
                    refine w_iload dX8_hasNearer_125 rfl ?_
                    refine w_if_eq (tgt := 134) dX8_hasNearer_127 rfl (R32.in (by decide)) (fun c127 => ?_) (fun c127 => ?_)
                    · skip
                      refine w_iconst dX8_hasNearer_134 ?_
                      refine w_istore_n (ls' := [(2, 45), (0, 0), (0, f + i), (0, 0), (0, 1)]) dX8_hasNearer_135 rfl (Nat.le_of_ble_eq_true rfl) rfl rfl ?_
                      refine w_iinc (ls' := [(2, 45), (0, 0), (0, (f + i) + 1), (0, 0), (0, 1)]) dX8_hasNearer_136 rfl (Nat.le_of_ble_eq_true rfl) rfl rfl ?_
                      refine w_goto (tgt := 9) dX8_hasNearer_139 rfl ?_
                      refine Wp.lcg (t := 0) (a := (f + i) + 1) (b := f + (i + 1)) (ls' := [(2, 45), (0, 0), (0, f + (i + 1)), (0, 0), (0, 1)]) 2 (by omega) rfl rfl ?_
                      refine Wp.fgl (ls' := [(2, 45), (0, 0), (0, f + (i + 1)), (9, 0), (0, 1)]) 3 rfl ?_
                      refine Wp.fgl (ls' := [(2, 45), (0, 0), (0, f + (i + 1)), (9, 0), (9, 0)]) 4 rfl ?_
                      exact ih9 _ (by omega) 0 (i + 1) rfl (by first | omega | assumption) (by omega) (by rw [← hn_am hi0.1 hb]; omega)
                    · skip
                      refine w_iconst dX8_hasNearer_130 ?_
                      refine w_goto (tgt := 135) dX8_hasNearer_131 rfl ?_
                      refine w_istore_n (ls' := [(2, 45), (0, 1), (0, f + i), (0, 0), (0, 1)]) dX8_hasNearer_135 rfl (Nat.le_of_ble_eq_true rfl) rfl rfl ?_
                      refine w_iinc (ls' := [(2, 45), (0, 1), (0, (f + i) + 1), (0, 0), (0, 1)]) dX8_hasNearer_136 rfl (Nat.le_of_ble_eq_true rfl) rfl rfl ?_
                      refine w_goto (tgt := 9) dX8_hasNearer_139 rfl ?_
                      refine Wp.lcg (t := 0) (a := (f + i) + 1) (b := f + (i + 1)) (ls' := [(2, 45), (0, 1), (0, f + (i + 1)), (0, 0), (0, 1)]) 2 (by omega) rfl rfl ?_
                      refine Wp.fgl (ls' := [(2, 45), (0, 1), (0, f + (i + 1)), (9, 0), (0, 1)]) 3 rfl ?_
                      refine Wp.fgl (ls' := [(2, 45), (0, 1), (0, f + (i + 1)), (9, 0), (9, 0)]) 4 rfl ?_
                      exact ih9 _ (by omega) 1 (i + 1) rfl (by first | omega | assumption) (by omega) (by rw [← hn_am hi0.1 hb]; omega)
                  · skip
                    refine w_iload_n dX8_hasNearer_118 rfl rfl ?_
                    refine w_if_eq (tgt := 134) dX8_hasNearer_119 rfl (R32.in (by decide)) (fun c119 => ?_) (fun c119 => ?_)
                    · skip
                      refine w_iconst dX8_hasNearer_134 ?_
                      refine w_istore_n (ls' := [(2, 45), (0, 0), (0, f + i), (0, 0), (0, 1)]) dX8_hasNearer_135 rfl (Nat.le_of_ble_eq_true rfl) rfl rfl ?_
                      refine w_iinc (ls' := [(2, 45), (0, 0), (0, (f + i) + 1), (0, 0), (0, 1)]) dX8_hasNearer_136 rfl (Nat.le_of_ble_eq_true rfl) rfl rfl ?_
                      refine w_goto (tgt := 9) dX8_hasNearer_139 rfl ?_
                      refine Wp.lcg (t := 0) (a := (f + i) + 1) (b := f + (i + 1)) (ls' := [(2, 45), (0, 0), (0, f + (i + 1)), (0, 0), (0, 1)]) 2 (by omega) rfl rfl ?_
                      refine Wp.fgl (ls' := [(2, 45), (0, 0), (0, f + (i + 1)), (9, 0), (0, 1)]) 3 rfl ?_
                      refine Wp.fgl (ls' := [(2, 45), (0, 0), (0, f + (i + 1)), (9, 0), (9, 0)]) 4 rfl ?_
                      exact ih9 _ (by omega) 0 (i + 1) rfl (by first | omega | assumption) (by omega) (by rw [← hn_am hi0.1 hb]; omega)
                    · skip
                      refine w_goto (tgt := 130) dX8_hasNearer_122 rfl ?_
                      refine w_iconst dX8_hasNearer_130 ?_
                      refine w_goto (tgt := 135) dX8_hasNearer_131 rfl ?_
                      refine w_istore_n (ls' := [(2, 45), (0, 1), (0, f + i), (0, 0), (0, 1)]) dX8_hasNearer_135 rfl (Nat.le_of_ble_eq_true rfl) rfl rfl ?_
                      refine w_iinc (ls' := [(2, 45), (0, 1), (0, (f + i) + 1), (0, 0), (0, 1)]) dX8_hasNearer_136 rfl (Nat.le_of_ble_eq_true rfl) rfl rfl ?_
                      refine w_goto (tgt := 9) dX8_hasNearer_139 rfl ?_
                      refine Wp.lcg (t := 0) (a := (f + i) + 1) (b := f + (i + 1)) (ls' := [(2, 45), (0, 1), (0, f + (i + 1)), (0, 0), (0, 1)]) 2 (by omega) rfl rfl ?_
                      refine Wp.fgl (ls' := [(2, 45), (0, 1), (0, f + (i + 1)), (9, 0), (0, 1)]) 3 rfl ?_
                      refine Wp.fgl (ls' := [(2, 45), (0, 1), (0, f + (i + 1)), (9, 0), (9, 0)]) 4 rfl ?_
                      exact ih9 _ (by omega) 1 (i + 1) rfl (by first | omega | assumption) (by omega) (by rw [← hn_am hi0.1 hb]; omega)
          · skip
            refine w_iconst dX8_hasNearer_53 ?_
            refine w_goto (tgt := 58) dX8_hasNearer_54 rfl ?_
            refine w_istore_n (ls' := [(2, 45), (0, b), (0, f + i), (0, 1), (9, 0)]) dX8_hasNearer_58 rfl (Nat.le_of_ble_eq_true rfl) rfl rfl ?_
            refine w_aload_n dX8_hasNearer_59 rfl rfl (by first | decide | omega) ?_
            refine w_getR (o := 45) (x := 56) fX8_hasNearer_60 rfl rfl rfl rfl ?_
            refine w_iload_n dX8_hasNearer_63 rfl rfl ?_
            refine w_ialdx (o := 56) (n := 64) (x := dH D i) dX8_hasNearer_64 rfl rfl (Nat.le_of_ble_eq_true rfl) (by omega) (hG.rw.h (by omega)) ?_
            refine w_aload_n dX8_hasNearer_65 rfl rfl (by first | decide | omega) ?_
            refine w_getR (o := 45) (x := 56) fX8_hasNearer_66 rfl rfl rfl rfl ?_
            refine w_aload_n dX8_hasNearer_69 rfl rfl (by first | decide | omega) ?_
            refine w_getIx (o := 45) (f := 22) (x := f) fX8_hasNearer_70 rfl rfl (Nat.le_of_ble_eq_true rfl) rfl hG.fi ?_
            refine w_ialdx (o := 56) (n := 64) (x := dH D 0) dX8_hasNearer_73 rfl rfl (Nat.le_of_ble_eq_true rfl) (by omega) (hG.rw.h0 (by omega)) ?_
            refine w_icmp_ge (tgt := 99) dX8_hasNearer_74 rfl (R32.in (by omega)) (R32.in (by omega)) (fun c74 => ?_) (fun c74 => ?_)
            · skip
              refine w_iconst dX8_hasNearer_99 ?_
              refine w_istore (ls' := [(2, 45), (0, b), (0, f + i), (0, 1), (0, 0)]) dX8_hasNearer_100 (Nat.le_of_ble_eq_true rfl) rfl rfl ?_
              refine w_iload_n dX8_hasNearer_102 rfl rfl ?_
              refine w_if_ne (tgt := 130) dX8_hasNearer_103 rfl (R32.in (by omega)) (fun c103 => ?_) (fun c103 => ?_)
              · skip
                refine w_iconst dX8_hasNearer_130 ?_
                refine w_goto (tgt := 135) dX8_hasNearer_131 rfl ?_
                refine w_istore_n (ls' := [(2, 45), (0, 1), (0, f + i), (0, 1), (0, 0)]) dX8_hasNearer_135 rfl (Nat.le_of_ble_eq_true rfl) rfl rfl ?_
                refine w_iinc (ls' := [(2, 45), (0, 1), (0, (f + i) + 1), (0, 1), (0, 0)]) dX8_hasNearer_136 rfl (Nat.le_of_ble_eq_true rfl) rfl rfl ?_
                refine w_goto (tgt := 9) dX8_hasNearer_139 rfl ?_
                refine Wp.lcg (t := 0) (a := (f + i) + 1) (b := f + (i + 1)) (ls' := [(2, 45), (0, 1), (0, f + (i + 1)), (0, 1), (0, 0)]) 2 (by omega) rfl rfl ?_
                refine Wp.fgl (ls' := [(2, 45), (0, 1), (0, f + (i + 1)), (9, 0), (0, 0)]) 3 rfl ?_
                refine Wp.fgl (ls' := [(2, 45), (0, 1), (0, f + (i + 1)), (9, 0), (9, 0)]) 4 rfl ?_
                exact ih9 _ (by omega) 1 (i + 1) rfl (by first | omega | assumption) (by omega) (by rw [← hn_am hi0.1 hb]; omega)
              · skip
                refine w_aload_n dX8_hasNearer_106 rfl rfl (by first | decide | omega) ?_
                refine w_getR (o := 45) (x := 57) fX8_hasNearer_107 rfl rfl rfl rfl ?_
                refine w_aload_n dX8_hasNearer_110 rfl rfl (by first | decide | omega) ?_
                refine w_getIx (o := 45) (f := 22) (x := f) fX8_hasNearer_111 rfl rfl (Nat.le_of_ble_eq_true rfl) rfl hG.fi ?_
                refine w_ialdx (o := 57) (n := 64) (x := way D 0) dX8_hasNearer_114 rfl rfl (Nat.le_of_ble_eq_true rfl) (by omega) (hG.rw.w0 (by omega)) ?_
                have hr12 := way_b D 0
                refine w_if_le (tgt := 125) dX8_hasNearer_115 rfl (R32.in (by omega)) (fun c115 => ?_) (fun c115 => ?_)
                · skip
                  refine w_iload dX8_hasNearer_125 rfl ?_
                  refine w_if_eq (tgt := 134) dX8_hasNearer_127 rfl (R32.in (by decide)) (fun c127 => ?_) (fun c127 => ?_)
                  · skip
                    refine w_iconst dX8_hasNearer_134 ?_
                    refine w_istore_n (ls' := [(2, 45), (0, 0), (0, f + i), (0, 1), (0, 0)]) dX8_hasNearer_135 rfl (Nat.le_of_ble_eq_true rfl) rfl rfl ?_
                    refine w_iinc (ls' := [(2, 45), (0, 0), (0, (f + i) + 1), (0, 1), (0, 0)]) dX8_hasNearer_136 rfl (Nat.le_of_ble_eq_true rfl) rfl rfl ?_
                    refine w_goto (tgt := 9) dX8_hasNearer_139 rfl ?_
                    refine Wp.lcg (t := 0) (a := (f + i) + 1) (b := f + (i + 1)) (ls' := [(2, 45), (0, 0), (0, f + (i + 1)), (0, 1), (0, 0)]) 2 (by omega) rfl rfl ?_
                    refine Wp.fgl (ls' := [(2, 45), (0, 0), (0, f + (i + 1)), (9, 0), (0, 0)]) 3 rfl ?_
                    refine Wp.fgl (ls' := [(2, 45), (0, 0), (0, f + (i + 1)), (9, 0), (9, 0)]) 4 rfl ?_
                    exact ih9 _ (by omega) 0 (i + 1) rfl (by first | omega | assumption) (by omega) (by rw [← hn_am hi0.1 hb]; omega)
                  · skip
                    refine w_iconst dX8_hasNearer_130 ?_
                    refine w_goto (tgt := 135) dX8_hasNearer_131 rfl ?_
                    refine w_istore_n (ls' := [(2, 45), (0, 1), (0, f + i), (0, 1), (0, 0)]) dX8_hasNearer_135 rfl (Nat.le_of_ble_eq_true rfl) rfl rfl ?_
                    refine w_iinc (ls' := [(2, 45), (0, 1), (0, (f + i) + 1), (0, 1), (0, 0)]) dX8_hasNearer_136 rfl (Nat.le_of_ble_eq_true rfl) rfl rfl ?_
                    refine w_goto (tgt := 9) dX8_hasNearer_139 rfl ?_
                    refine Wp.lcg (t := 0) (a := (f + i) + 1) (b := f + (i + 1)) (ls' := [(2, 45), (0, 1), (0, f + (i + 1)), (0, 1), (0, 0)]) 2 (by omega) rfl rfl ?_
                    refine Wp.fgl (ls' := [(2, 45), (0, 1), (0, f + (i + 1)), (9, 0), (0, 0)]) 3 rfl ?_
                    refine Wp.fgl (ls' := [(2, 45), (0, 1), (0, f + (i + 1)), (9, 0), (9, 0)]) 4 rfl ?_
                    exact ih9 _ (by omega) 1 (i + 1) rfl (by first | omega | assumption) (by omega) (by rw [← hn_am hi0.1 hb]; omega)
                · skip
                  refine w_iload_n dX8_hasNearer_118 rfl rfl ?_
                  refine w_if_eq (tgt := 134) dX8_hasNearer_119 rfl (R32.in (by decide)) (fun c119 => ?_) (fun c119 => ?_)
                  · skip
                    refine w_iconst dX8_hasNearer_134 ?_
                    refine w_istore_n (ls' := [(2, 45), (0, 0), (0, f + i), (0, 1), (0, 0)]) dX8_hasNearer_135 rfl (Nat.le_of_ble_eq_true rfl) rfl rfl ?_
                    refine w_iinc (ls' := [(2, 45), (0, 0), (0, (f + i) + 1), (0, 1), (0, 0)]) dX8_hasNearer_136 rfl (Nat.le_of_ble_eq_true rfl) rfl rfl ?_
                    refine w_goto (tgt := 9) dX8_hasNearer_139 rfl ?_
                    refine Wp.lcg (t := 0) (a := (f + i) + 1) (b := f + (i + 1)) (ls' := [(2, 45), (0, 0), (0, f + (i + 1)), (0, 1), (0, 0)]) 2 (by omega) rfl rfl ?_
                    refine Wp.fgl (ls' := [(2, 45), (0, 0), (0, f + (i + 1)), (9, 0), (0, 0)]) 3 rfl ?_
                    refine Wp.fgl (ls' := [(2, 45), (0, 0), (0, f + (i + 1)), (9, 0), (9, 0)]) 4 rfl ?_
                    exact ih9 _ (by omega) 0 (i + 1) rfl (by first | omega | assumption) (by omega) (by rw [← hn_am hi0.1 hb]; omega)
                  · skip
                    refine w_goto (tgt := 130) dX8_hasNearer_122 rfl ?_
                    refine w_iconst dX8_hasNearer_130 ?_
                    refine w_goto (tgt := 135) dX8_hasNearer_131 rfl ?_
                    refine w_istore_n (ls' := [(2, 45), (0, 1), (0, f + i), (0, 1), (0, 0)]) dX8_hasNearer_135 rfl (Nat.le_of_ble_eq_true rfl) rfl rfl ?_
                    refine w_iinc (ls' := [(2, 45), (0, 1), (0, (f + i) + 1), (0, 1), (0, 0)]) dX8_hasNearer_136 rfl (Nat.le_of_ble_eq_true rfl) rfl rfl ?_
                    refine w_goto (tgt := 9) dX8_hasNearer_139 rfl ?_
                    refine Wp.lcg (t := 0) (a := (f + i) + 1) (b := f + (i + 1)) (ls' := [(2, 45), (0, 1), (0, f + (i + 1)), (0, 1), (0, 0)]) 2 (by omega) rfl rfl ?_
                    refine Wp.fgl (ls' := [(2, 45), (0, 1), (0, f + (i + 1)), (9, 0), (0, 0)]) 3 rfl ?_
                    refine Wp.fgl (ls' := [(2, 45), (0, 1), (0, f + (i + 1)), (9, 0), (9, 0)]) 4 rfl ?_
                    exact ih9 _ (by omega) 1 (i + 1) rfl (by first | omega | assumption) (by omega) (by rw [← hn_am hi0.1 hb]; omega)
            · skip
              refine w_aload_n dX8_hasNearer_77 rfl rfl (by first | decide | omega) ?_
              refine w_getR (o := 45) (x := 56) fX8_hasNearer_78 rfl rfl rfl rfl ?_
              refine w_iload_n dX8_hasNearer_81 rfl rfl ?_
              refine w_ialdx (o := 56) (n := 64) (x := dH D i) dX8_hasNearer_82 rfl rfl (Nat.le_of_ble_eq_true rfl) (by omega) (hG.rw.h (by omega)) ?_
              refine w_aload_n dX8_hasNearer_83 rfl rfl (by first | decide | omega) ?_
              refine w_getR (o := 45) (x := 56) fX8_hasNearer_84 rfl rfl rfl rfl ?_
              refine w_aload_n dX8_hasNearer_87 rfl rfl (by first | decide | omega) ?_
              refine w_getIx (o := 45) (f := 23) (x := f + (dN D - 1)) fX8_hasNearer_88 rfl rfl (Nat.le_of_ble_eq_true rfl) rfl hG.la ?_
              refine w_ialdx (o := 56) (n := 64) (x := dH D (dN D - 1)) dX8_hasNearer_91 rfl rfl (Nat.le_of_ble_eq_true rfl) (by omega) (hG.rw.h (by omega)) ?_
              refine w_icmp_ge (tgt := 99) dX8_hasNearer_92 rfl (R32.in (by omega)) (R32.in (by omega)) (fun c92 => ?_) (fun c92 => ?_)
              · skip
                refine w_iconst dX8_hasNearer_99 ?_
                refine w_istore (ls' := [(2, 45), (0, b), (0, f + i), (0, 1), (0, 0)]) dX8_hasNearer_100 (Nat.le_of_ble_eq_true rfl) rfl rfl ?_
                refine w_iload_n dX8_hasNearer_102 rfl rfl ?_
                refine w_if_ne (tgt := 130) dX8_hasNearer_103 rfl (R32.in (by omega)) (fun c103 => ?_) (fun c103 => ?_)
                · skip
                  refine w_iconst dX8_hasNearer_130 ?_
                  refine w_goto (tgt := 135) dX8_hasNearer_131 rfl ?_
                  refine w_istore_n (ls' := [(2, 45), (0, 1), (0, f + i), (0, 1), (0, 0)]) dX8_hasNearer_135 rfl (Nat.le_of_ble_eq_true rfl) rfl rfl ?_
                  refine w_iinc (ls' := [(2, 45), (0, 1), (0, (f + i) + 1), (0, 1), (0, 0)]) dX8_hasNearer_136 rfl (Nat.le_of_ble_eq_true rfl) rfl rfl ?_
                  refine w_goto (tgt := 9) dX8_hasNearer_139 rfl ?_
                  refine Wp.lcg (t := 0) (a := (f + i) + 1) (b := f + (i + 1)) (ls' := [(2, 45), (0, 1), (0, f + (i + 1)), (0, 1), (0, 0)]) 2 (by omega) rfl rfl ?_
                  refine Wp.fgl (ls' := [(2, 45), (0, 1), (0, f + (i + 1)), (9, 0), (0, 0)]) 3 rfl ?_
                  refine Wp.fgl (ls' := [(2, 45), (0, 1), (0, f + (i + 1)), (9, 0), (9, 0)]) 4 rfl ?_
                  exact ih9 _ (by omega) 1 (i + 1) rfl (by first | omega | assumption) (by omega) (by rw [← hn_am hi0.1 hb]; omega)
                · skip
                  refine w_aload_n dX8_hasNearer_106 rfl rfl (by first | decide | omega) ?_
                  refine w_getR (o := 45) (x := 57) fX8_hasNearer_107 rfl rfl rfl rfl ?_
                  refine w_aload_n dX8_hasNearer_110 rfl rfl (by first | decide | omega) ?_
                  refine w_getIx (o := 45) (f := 22) (x := f) fX8_hasNearer_111 rfl rfl (Nat.le_of_ble_eq_true rfl) rfl hG.fi ?_
                  refine w_ialdx (o := 57) (n := 64) (x := way D 0) dX8_hasNearer_114 rfl rfl (Nat.le_of_ble_eq_true rfl) (by omega) (hG.rw.w0 (by omega)) ?_
                  have hr13 := way_b D 0
                  refine w_if_le (tgt := 125) dX8_hasNearer_115 rfl (R32.in (by omega)) (fun c115 => ?_) (fun c115 => ?_)
                  · skip
                    refine w_iload dX8_hasNearer_125 rfl ?_
                    refine w_if_eq (tgt := 134) dX8_hasNearer_127 rfl (R32.in (by decide)) (fun c127 => ?_) (fun c127 => ?_)
                    · skip
                      refine w_iconst dX8_hasNearer_134 ?_
                      refine w_istore_n (ls' := [(2, 45), (0, 0), (0, f + i), (0, 1), (0, 0)]) dX8_hasNearer_135 rfl (Nat.le_of_ble_eq_true rfl) rfl rfl ?_
                      refine w_iinc (ls' := [(2, 45), (0, 0), (0, (f + i) + 1), (0, 1), (0, 0)]) dX8_hasNearer_136 rfl (Nat.le_of_ble_eq_true rfl) rfl rfl ?_
                      refine w_goto (tgt := 9) dX8_hasNearer_139 rfl ?_
                      refine Wp.lcg (t := 0) (a := (f + i) + 1) (b := f + (i + 1)) (ls' := [(2, 45), (0, 0), (0, f + (i + 1)), (0, 1), (0, 0)]) 2 (by omega) rfl rfl ?_
                      refine Wp.fgl (ls' := [(2, 45), (0, 0), (0, f + (i + 1)), (9, 0), (0, 0)]) 3 rfl ?_
                      refine Wp.fgl (ls' := [(2, 45), (0, 0), (0, f + (i + 1)), (9, 0), (9, 0)]) 4 rfl ?_
                      exact ih9 _ (by omega) 0 (i + 1) rfl (by first | omega | assumption) (by omega) (by rw [← hn_am hi0.1 hb]; omega)
                    · skip
                      refine w_iconst dX8_hasNearer_130 ?_
                      refine w_goto (tgt := 135) dX8_hasNearer_131 rfl ?_
                      refine w_istore_n (ls' := [(2, 45), (0, 1), (0, f + i), (0, 1), (0, 0)]) dX8_hasNearer_135 rfl (Nat.le_of_ble_eq_true rfl) rfl rfl ?_
                      refine w_iinc (ls' := [(2, 45), (0, 1), (0, (f + i) + 1), (0, 1), (0, 0)]) dX8_hasNearer_136 rfl (Nat.le_of_ble_eq_true rfl) rfl rfl ?_
                      refine w_goto (tgt := 9) dX8_hasNearer_139 rfl ?_
                      refine Wp.lcg (t := 0) (a := (f + i) + 1) (b := f + (i + 1)) (ls' := [(2, 45), (0, 1), (0, f + (i + 1)), (0, 1), (0, 0)]) 2 (by omega) rfl rfl ?_
                      refine Wp.fgl (ls' := [(2, 45), (0, 1), (0, f + (i + 1)), (9, 0), (0, 0)]) 3 rfl ?_
                      refine Wp.fgl (ls' := [(2, 45), (0, 1), (0, f + (i + 1)), (9, 0), (9, 0)]) 4 rfl ?_
                      exact ih9 _ (by omega) 1 (i + 1) rfl (by first | omega | assumption) (by omega) (by rw [← hn_am hi0.1 hb]; omega)
                  · skip
                    refine w_iload_n dX8_hasNearer_118 rfl rfl ?_
                    refine w_if_eq (tgt := 134) dX8_hasNearer_119 rfl (R32.in (by decide)) (fun c119 => ?_) (fun c119 => ?_)
                    · skip
                      refine w_iconst dX8_hasNearer_134 ?_
                      refine w_istore_n (ls' := [(2, 45), (0, 0), (0, f + i), (0, 1), (0, 0)]) dX8_hasNearer_135 rfl (Nat.le_of_ble_eq_true rfl) rfl rfl ?_
                      refine w_iinc (ls' := [(2, 45), (0, 0), (0, (f + i) + 1), (0, 1), (0, 0)]) dX8_hasNearer_136 rfl (Nat.le_of_ble_eq_true rfl) rfl rfl ?_
                      refine w_goto (tgt := 9) dX8_hasNearer_139 rfl ?_
                      refine Wp.lcg (t := 0) (a := (f + i) + 1) (b := f + (i + 1)) (ls' := [(2, 45), (0, 0), (0, f + (i + 1)), (0, 1), (0, 0)]) 2 (by omega) rfl rfl ?_
                      refine Wp.fgl (ls' := [(2, 45), (0, 0), (0, f + (i + 1)), (9, 0), (0, 0)]) 3 rfl ?_
                      refine Wp.fgl (ls' := [(2, 45), (0, 0), (0, f + (i + 1)), (9, 0), (9, 0)]) 4 rfl ?_
                      exact ih9 _ (by omega) 0 (i + 1) rfl (by first | omega | assumption) (by omega) (by rw [← hn_am hi0.1 hb]; omega)
                    · skip
                      refine w_goto (tgt := 130) dX8_hasNearer_122 rfl ?_
                      refine w_iconst dX8_hasNearer_130 ?_
                      refine w_goto (tgt := 135) dX8_hasNearer_131 rfl ?_
                      refine w_istore_n (ls' := [(2, 45), (0, 1), (0, f + i), (0, 1), (0, 0)]) dX8_hasNearer_135 rfl (Nat.le_of_ble_eq_true rfl) rfl rfl ?_
                      refine w_iinc (ls' := [(2, 45), (0, 1), (0, (f + i) + 1), (0, 1), (0, 0)]) dX8_hasNearer_136 rfl (Nat.le_of_ble_eq_true rfl) rfl rfl ?_
                      refine w_goto (tgt := 9) dX8_hasNearer_139 rfl ?_
                      refine Wp.lcg (t := 0) (a := (f + i) + 1) (b := f + (i + 1)) (ls' := [(2, 45), (0, 1), (0, f + (i + 1)), (0, 1), (0, 0)]) 2 (by omega) rfl rfl ?_
                      refine Wp.fgl (ls' := [(2, 45), (0, 1), (0, f + (i + 1)), (9, 0), (0, 0)]) 3 rfl ?_
                      refine Wp.fgl (ls' := [(2, 45), (0, 1), (0, f + (i + 1)), (9, 0), (9, 0)]) 4 rfl ?_
                      exact ih9 _ (by omega) 1 (i + 1) rfl (by first | omega | assumption) (by omega) (by rw [← hn_am hi0.1 hb]; omega)
              · skip
                refine w_iconst dX8_hasNearer_95 ?_
                refine w_goto (tgt := 100) dX8_hasNearer_96 rfl ?_
                refine w_istore (ls' := [(2, 45), (0, b), (0, f + i), (0, 1), (0, 1)]) dX8_hasNearer_100 (Nat.le_of_ble_eq_true rfl) rfl rfl ?_
                refine w_iload_n dX8_hasNearer_102 rfl rfl ?_
                refine w_if_ne (tgt := 130) dX8_hasNearer_103 rfl (R32.in (by omega)) (fun c103 => ?_) (fun c103 => ?_)
                · skip
                  refine w_iconst dX8_hasNearer_130 ?_
                  refine w_goto (tgt := 135) dX8_hasNearer_131 rfl ?_
                  refine w_istore_n (ls' := [(2, 45), (0, 1), (0, f + i), (0, 1), (0, 1)]) dX8_hasNearer_135 rfl (Nat.le_of_ble_eq_true rfl) rfl rfl ?_
                  refine w_iinc (ls' := [(2, 45), (0, 1), (0, (f + i) + 1), (0, 1), (0, 1)]) dX8_hasNearer_136 rfl (Nat.le_of_ble_eq_true rfl) rfl rfl ?_
                  refine w_goto (tgt := 9) dX8_hasNearer_139 rfl ?_
                  refine Wp.lcg (t := 0) (a := (f + i) + 1) (b := f + (i + 1)) (ls' := [(2, 45), (0, 1), (0, f + (i + 1)), (0, 1), (0, 1)]) 2 (by omega) rfl rfl ?_
                  refine Wp.fgl (ls' := [(2, 45), (0, 1), (0, f + (i + 1)), (9, 0), (0, 1)]) 3 rfl ?_
                  refine Wp.fgl (ls' := [(2, 45), (0, 1), (0, f + (i + 1)), (9, 0), (9, 0)]) 4 rfl ?_
                  exact ih9 _ (by omega) 1 (i + 1) rfl (by first | omega | assumption) (by omega) (by rw [← hn_am hi0.1 hb]; omega)
                · skip
                  refine w_aload_n dX8_hasNearer_106 rfl rfl (by first | decide | omega) ?_
                  refine w_getR (o := 45) (x := 57) fX8_hasNearer_107 rfl rfl rfl rfl ?_
                  refine w_aload_n dX8_hasNearer_110 rfl rfl (by first | decide | omega) ?_
                  refine w_getIx (o := 45) (f := 22) (x := f) fX8_hasNearer_111 rfl rfl (Nat.le_of_ble_eq_true rfl) rfl hG.fi ?_
                  refine w_ialdx (o := 57) (n := 64) (x := way D 0) dX8_hasNearer_114 rfl rfl (Nat.le_of_ble_eq_true rfl) (by omega) (hG.rw.w0 (by omega)) ?_
                  have hr14 := way_b D 0
                  refine w_if_le (tgt := 125) dX8_hasNearer_115 rfl (R32.in (by omega)) (fun c115 => ?_) (fun c115 => ?_)
                  · skip
                    refine w_iload dX8_hasNearer_125 rfl ?_
                    refine w_if_eq (tgt := 134) dX8_hasNearer_127 rfl (R32.in (by decide)) (fun c127 => ?_) (fun c127 => ?_)
                    · skip
                      refine w_iconst dX8_hasNearer_134 ?_
                      refine w_istore_n (ls' := [(2, 45), (0, 0), (0, f + i), (0, 1), (0, 1)]) dX8_hasNearer_135 rfl (Nat.le_of_ble_eq_true rfl) rfl rfl ?_
                      refine w_iinc (ls' := [(2, 45), (0, 0), (0, (f + i) + 1), (0, 1), (0, 1)]) dX8_hasNearer_136 rfl (Nat.le_of_ble_eq_true rfl) rfl rfl ?_
                      refine w_goto (tgt := 9) dX8_hasNearer_139 rfl ?_
                      refine Wp.lcg (t := 0) (a := (f + i) + 1) (b := f + (i + 1)) (ls' := [(2, 45), (0, 0), (0, f + (i + 1)), (0, 1), (0, 1)]) 2 (by omega) rfl rfl ?_
                      refine Wp.fgl (ls' := [(2, 45), (0, 0), (0, f + (i + 1)), (9, 0), (0, 1)]) 3 rfl ?_
                      refine Wp.fgl (ls' := [(2, 45), (0, 0), (0, f + (i + 1)), (9, 0), (9, 0)]) 4 rfl ?_
                      exact ih9 _ (by omega) 0 (i + 1) rfl (by first | omega | assumption) (by omega) (by rw [← hn_am hi0.1 hb]; omega)
                    · skip
                      refine w_iconst dX8_hasNearer_130 ?_
                      refine w_goto (tgt := 135) dX8_hasNearer_131 rfl ?_
                      refine w_istore_n (ls' := [(2, 45), (0, 1), (0, f + i), (0, 1), (0, 1)]) dX8_hasNearer_135 rfl (Nat.le_of_ble_eq_true rfl) rfl rfl ?_
                      refine w_iinc (ls' := [(2, 45), (0, 1), (0, (f + i) + 1), (0, 1), (0, 1)]) dX8_hasNearer_136 rfl (Nat.le_of_ble_eq_true rfl) rfl rfl ?_
                      refine w_goto (tgt := 9) dX8_hasNearer_139 rfl ?_
                      refine Wp.lcg (t := 0) (a := (f + i) + 1) (b := f + (i + 1)) (ls' := [(2, 45), (0, 1), (0, f + (i + 1)), (0, 1), (0, 1)]) 2 (by omega) rfl rfl ?_
                      refine Wp.fgl (ls' := [(2, 45), (0, 1), (0, f + (i + 1)), (9, 0), (0, 1)]) 3 rfl ?_
                      refine Wp.fgl (ls' := [(2, 45), (0, 1), (0, f + (i + 1)), (9, 0), (9, 0)]) 4 rfl ?_
                      exact ih9 _ (by omega) 1 (i + 1) rfl (by first | omega | assumption) (by omega) (by rw [← hn_am hi0.1 hb]; omega)
                  · skip
                    refine w_iload_n dX8_hasNearer_118 rfl rfl ?_
                    refine w_if_eq (tgt := 134) dX8_hasNearer_119 rfl (R32.in (by decide)) (fun c119 => ?_) (fun c119 => ?_)
                    · skip
                      refine w_iconst dX8_hasNearer_134 ?_
                      refine w_istore_n (ls' := [(2, 45), (0, 0), (0, f + i), (0, 1), (0, 1)]) dX8_hasNearer_135 rfl (Nat.le_of_ble_eq_true rfl) rfl rfl ?_
                      refine w_iinc (ls' := [(2, 45), (0, 0), (0, (f + i) + 1), (0, 1), (0, 1)]) dX8_hasNearer_136 rfl (Nat.le_of_ble_eq_true rfl) rfl rfl ?_
                      refine w_goto (tgt := 9) dX8_hasNearer_139 rfl ?_
                      refine Wp.lcg (t := 0) (a := (f + i) + 1) (b := f + (i + 1)) (ls' := [(2, 45), (0, 0), (0, f + (i + 1)), (0, 1), (0, 1)]) 2 (by omega) rfl rfl ?_
                      refine Wp.fgl (ls' := [(2, 45), (0, 0), (0, f + (i + 1)), (9, 0), (0, 1)]) 3 rfl ?_
                      refine Wp.fgl (ls' := [(2, 45), (0, 0), (0, f + (i + 1)), (9, 0), (9, 0)]) 4 rfl ?_
                      exact ih9 _ (by omega) 0 (i + 1) rfl (by first | omega | assumption) (by omega) (by rw [← hn_am hi0.1 hb]; omega)
                    · skip
                      refine w_goto (tgt := 130) dX8_hasNearer_122 rfl ?_
                      refine w_iconst dX8_hasNearer_130 ?_
                      refine w_goto (tgt := 135) dX8_hasNearer_131 rfl ?_
                      refine w_istore_n (ls' := [(2, 45), (0, 1), (0, f + i), (0, 1), (0, 1)]) dX8_hasNearer_135 rfl (Nat.le_of_ble_eq_true rfl) rfl rfl ?_
                      refine w_iinc (ls' := [(2, 45), (0, 1), (0, (f + i) + 1), (0, 1), (0, 1)]) dX8_hasNearer_136 rfl (Nat.le_of_ble_eq_true rfl) rfl rfl ?_
                      refine w_goto (tgt := 9) dX8_hasNearer_139 rfl ?_
                      refine Wp.lcg (t := 0) (a := (f + i) + 1) (b := f + (i + 1)) (ls' := [(2, 45), (0, 1), (0, f + (i + 1)), (0, 1), (0, 1)]) 2 (by omega) rfl rfl ?_
                      refine Wp.fgl (ls' := [(2, 45), (0, 1), (0, f + (i + 1)), (9, 0), (0, 1)]) 3 rfl ?_
                      refine Wp.fgl (ls' := [(2, 45), (0, 1), (0, f + (i + 1)), (9, 0), (9, 0)]) 4 rfl ?_
                      exact ih9 _ (by omega) 1 (i + 1) rfl (by first | omega | assumption) (by omega) (by rw [← hn_am hi0.1 hb]; omega)
  exact hL9 _ 0 1 rfl (by first | omega | assumption) (by first | omega | assumption) rfl

set_option maxRecDepth 100000 in
set_option maxHeartbeats 4000000 in
theorem s_X8_wantOf (X : AX) (D : GDt) (f : Int) (μ : Mu) (hG : RO D f μ) : Wp (GG X) M_X8_wantOf 0 [(2, 45), (9, 0)] [] μ (pP 0 (want D) μ) := by
  have hok := hG.ok
  have hn := hok.n
  have hfr := hG.r
  refine w_aload_n dX8_wantOf_0 rfl rfl (by first | decide | omega) ?_
  refine w_getIx (o := 45) (f := 21) (x := am_b (¬ klow D = 99)) fX8_wantOf_1 rfl rfl (Nat.le_of_ble_eq_true rfl) rfl hG.rw.kn ?_
  refine w_if_ne (tgt := 16) dX8_wantOf_4 rfl (R32.in (by have := am_b_r ((¬ klow D = 99)); omega)) (fun c4 => ?_) (fun c4 => ?_)
  · skip
    replace c4 := am_b1 c4
    refine w_aload_n dX8_wantOf_16 rfl rfl (by first | decide | omega) ?_
    refine w_getR (o := 45) (x := 56) fX8_wantOf_17 rfl rfl rfl rfl ?_
    refine w_aload_n dX8_wantOf_20 rfl rfl (by first | decide | omega) ?_
    refine w_getIx (o := 45) (f := 23) (x := f + (dN D - 1)) fX8_wantOf_21 rfl rfl (Nat.le_of_ble_eq_true rfl) rfl hG.la ?_
    have hr1 := (hG.ok).n
    refine w_ialdx (o := 56) (n := 64) (x := dH D (dN D - 1)) dX8_wantOf_24 rfl rfl (Nat.le_of_ble_eq_true rfl) (by omega) (hG.rw.h (by omega)) ?_
    have hr2 := (hG.rw.ok).hr (i := (dN D - 1)) (by omega)
    refine w_aload_n dX8_wantOf_25 rfl rfl (by first | decide | omega) ?_
    refine w_getR (o := 45) (x := 56) fX8_wantOf_26 rfl rfl rfl rfl ?_
    refine w_aload_n dX8_wantOf_29 rfl rfl (by first | decide | omega) ?_
    refine w_getIx (o := 45) (f := 22) (x := f) fX8_wantOf_30 rfl rfl (Nat.le_of_ble_eq_true rfl) rfl hG.fi ?_
    refine w_ialdx (o := 56) (n := 64) (x := dH D 0) dX8_wantOf_33 rfl rfl (Nat.le_of_ble_eq_true rfl) (by omega) (hG.rw.h0 (by omega)) ?_
    have hr3 := (hG.rw.ok).hr (i := 0) (by omega)
    refine w_isub dX8_wantOf_34 ?_
    refine w_istore_n (ls' := [(2, 45), (0, (dH D (dN D - 1)) - (dH D 0))]) dX8_wantOf_35 rfl (Nat.le_of_ble_eq_true rfl) rfl rfl ?_
    refine w_iload_n dX8_wantOf_36 rfl rfl ?_
    refine w_bipush dX8_wantOf_37 (by decide) ?_
    refine w_icmp_ge (tgt := 47) dX8_wantOf_39 rfl (R32.in (by omega)) (R32.in (by decide)) (fun c39 => ?_) (fun c39 => ?_)
    · skip
      refine w_iload_n dX8_wantOf_47 rfl rfl ?_
      refine w_iconst dX8_wantOf_48 ?_
      refine w_icmp_le (tgt := 56) dX8_wantOf_49 rfl (R32.in (by omega)) (R32.in (by decide)) (fun c49 => ?_) (fun c49 => ?_)
      · skip
        refine w_iload_n dX8_wantOf_56 rfl rfl ?_
        exact w_iretP dX8_wantOf_57 rfl (by unfold want; rw [if_neg (by first | exact (fun q => c11 q.2) | exact (fun q => by omega))]; omega)
      · skip
        refine w_iconst dX8_wantOf_52 ?_
        refine w_goto (tgt := 57) dX8_wantOf_53 rfl ?_
        exact w_iretP dX8_wantOf_57 rfl (by unfold want; rw [if_neg (by first | exact (fun q => c11 q.2) | exact (fun q => by omega))]; omega)
    · skip
      refine w_bipush dX8_wantOf_42 (by decide) ?_
      refine w_goto (tgt := 57) dX8_wantOf_44 rfl ?_
      exact w_iretP dX8_wantOf_57 rfl (by unfold want; rw [if_neg (by first | exact (fun q => c11 q.2) | exact (fun q => by omega))]; omega)
  · skip
    replace c4 := am_b0 c4
    refine w_aload_n dX8_wantOf_7 rfl rfl (by first | decide | omega) ?_
    refine w_callVP (o := 45) (ci := 8) (as := []) (rest := []) (k := 4) fX8_wantOf_8 rfl rfl rfl rfl rfl rfl rfl rfl (Nat.le_of_ble_eq_true rfl) (s_X8_hasNearer X D f μ hG) ?_
    have hf4 := am_b_r (hnear D (dN D - 1) = true)
    refine w_if_eq (tgt := 16) dX8_wantOf_11 rfl (R32.in (by have := am_b_r ((hnear D (dN D - 1) = true)); omega)) (fun c11 => ?_) (fun c11 => ?_)
    · skip
      replace c11 := am_b0 c11
      refine w_aload_n dX8_wantOf_16 rfl rfl (by first | decide | omega) ?_
      refine w_getR (o := 45) (x := 56) fX8_wantOf_17 rfl rfl rfl rfl ?_
      refine w_aload_n dX8_wantOf_20 rfl rfl (by first | decide | omega) ?_
      refine w_getIx (o := 45) (f := 23) (x := f + (dN D - 1)) fX8_wantOf_21 rfl rfl (Nat.le_of_ble_eq_true rfl) rfl hG.la ?_
      have hr5 := (hG.ok).n
      refine w_ialdx (o := 56) (n := 64) (x := dH D (dN D - 1)) dX8_wantOf_24 rfl rfl (Nat.le_of_ble_eq_true rfl) (by omega) (hG.rw.h (by omega)) ?_
      have hr6 := (hG.rw.ok).hr (i := (dN D - 1)) (by omega)
      refine w_aload_n dX8_wantOf_25 rfl rfl (by first | decide | omega) ?_
      refine w_getR (o := 45) (x := 56) fX8_wantOf_26 rfl rfl rfl rfl ?_
      refine w_aload_n dX8_wantOf_29 rfl rfl (by first | decide | omega) ?_
      refine w_getIx (o := 45) (f := 22) (x := f) fX8_wantOf_30 rfl rfl (Nat.le_of_ble_eq_true rfl) rfl hG.fi ?_
      refine w_ialdx (o := 56) (n := 64) (x := dH D 0) dX8_wantOf_33 rfl rfl (Nat.le_of_ble_eq_true rfl) (by omega) (hG.rw.h0 (by omega)) ?_
      have hr7 := (hG.rw.ok).hr (i := 0) (by omega)
      refine w_isub dX8_wantOf_34 ?_
      refine w_istore_n (ls' := [(2, 45), (0, (dH D (dN D - 1)) - (dH D 0))]) dX8_wantOf_35 rfl (Nat.le_of_ble_eq_true rfl) rfl rfl ?_
      refine w_iload_n dX8_wantOf_36 rfl rfl ?_
      refine w_bipush dX8_wantOf_37 (by decide) ?_
      refine w_icmp_ge (tgt := 47) dX8_wantOf_39 rfl (R32.in (by omega)) (R32.in (by decide)) (fun c39 => ?_) (fun c39 => ?_)
      · skip
        refine w_iload_n dX8_wantOf_47 rfl rfl ?_
        refine w_iconst dX8_wantOf_48 ?_
        refine w_icmp_le (tgt := 56) dX8_wantOf_49 rfl (R32.in (by omega)) (R32.in (by decide)) (fun c49 => ?_) (fun c49 => ?_)
        · skip
          refine w_iload_n dX8_wantOf_56 rfl rfl ?_
          exact w_iretP dX8_wantOf_57 rfl (by unfold want; rw [if_neg (by first | exact (fun q => c11 q.2) | exact (fun q => by omega))]; omega)
        · skip
          refine w_iconst dX8_wantOf_52 ?_
          refine w_goto (tgt := 57) dX8_wantOf_53 rfl ?_
          exact w_iretP dX8_wantOf_57 rfl (by unfold want; rw [if_neg (by first | exact (fun q => c11 q.2) | exact (fun q => by omega))]; omega)
      · skip
        refine w_bipush dX8_wantOf_42 (by decide) ?_
        refine w_goto (tgt := 57) dX8_wantOf_44 rfl ?_
        exact w_iretP dX8_wantOf_57 rfl (by unfold want; rw [if_neg (by first | exact (fun q => c11 q.2) | exact (fun q => by omega))]; omega)
    · skip
      replace c11 := am_b1 c11
      refine w_iconst dX8_wantOf_14 ?_
      exact w_iretP dX8_wantOf_15 rfl (by unfold want; exact (if_pos ⟨by omega, c11⟩).symm)

set_option maxRecDepth 100000 in
set_option maxHeartbeats 4000000 in
theorem s_X8_slopeOf (X : AX) (D : GDt) (f : Int) (l : Int) (r : Int) (μ : Mu) (hG : RO D f μ) (hlr : (-60 ≤ l ∧ l ≤ 60) ∧ (-60 ≤ r ∧ r ≤ 60) ∧ (-8 ≤ r - l ∧ r - l ≤ 8)) : Wp (GG X) M_X8_slopeOf 0 [(2, 45), (0, l), (0, r), (9, 0), (9, 0), (9, 0)] [] μ (pP 0 (slp D (r - l)) μ) := by
  have hok := hG.ok
  have hn := hok.n
  have hfr := hG.r
  refine w_aload_n dX8_slopeOf_0 rfl rfl (by first | decide | omega) ?_
  refine w_callVP (o := 45) (ci := 8) (as := []) (rest := []) (k := 1) fX8_slopeOf_1 rfl rfl rfl rfl rfl rfl rfl rfl (Nat.le_of_ble_eq_true rfl) (s_X8_wantOf X D f μ hG) ?_
  have hf1 := want_r D
  refine w_istore_n (ls' := [(2, 45), (0, l), (0, r), (0, want D), (9, 0), (9, 0)]) dX8_slopeOf_4 rfl (Nat.le_of_ble_eq_true rfl) rfl rfl ?_
  refine w_iload_n dX8_slopeOf_5 rfl rfl ?_
  refine w_iload_n dX8_slopeOf_6 rfl rfl ?_
  refine w_isub dX8_slopeOf_7 ?_
  refine w_istore (ls' := [(2, 45), (0, l), (0, r), (0, want D), (0, r - l), (9, 0)]) dX8_slopeOf_8 (Nat.le_of_ble_eq_true rfl) rfl rfl ?_
  refine w_iload_n dX8_slopeOf_10 rfl rfl ?_
  refine w_if_le (tgt := 19) dX8_slopeOf_11 rfl (R32.in (by omega)) (fun c11 => ?_) (fun c11 => ?_)
  · skip
    refine w_iload_n dX8_slopeOf_19 rfl rfl ?_
    refine w_if_ge (tgt := 32) dX8_slopeOf_20 rfl (R32.in (by omega)) (fun c20 => ?_) (fun c20 => ?_)
    · skip
      refine w_iconst dX8_slopeOf_32 ?_
      refine w_istore (ls' := [(2, 45), (0, l), (0, r), (0, want D), (0, r - l), (0, 0)]) dX8_slopeOf_33 (Nat.le_of_ble_eq_true rfl) rfl rfl ?_
      refine w_bipush dX8_slopeOf_35 (by decide) ?_
      refine w_iload dX8_slopeOf_37 rfl ?_
      refine w_iload_n dX8_slopeOf_39 rfl rfl ?_
      refine w_isub dX8_slopeOf_40 ?_
      refine w_callSP (as := [(0, (r - l) - (want D))]) (rest := [(0, 6)]) (k := 0) fX8_slopeOf_41 rfl rfl rfl rfl rfl (Nat.le_of_ble_eq_true rfl) (s_X8_far X ((r - l) - (want D)) μ (by first | omega | assumption)) ?_
      have hf2 := ab_f ((r - l) - (want D))
      refine w_imul dX8_slopeOf_44 ?_
      refine w_iload dX8_slopeOf_45 rfl ?_
      refine w_if_eq (tgt := 55) dX8_slopeOf_47 rfl (R32.in (by decide)) (fun c47 => ?_) (fun c47 => ?_)
      · skip
        refine w_iconst dX8_slopeOf_55 ?_
        refine w_iadd dX8_slopeOf_56 ?_
        exact w_iretP dX8_slopeOf_57 rfl (by unfold slp ab; simp only [mulneg]; omega)
      · skip
        refine w_bipush dX8_slopeOf_50 (by decide) ?_
        refine w_goto (tgt := 56) dX8_slopeOf_52 rfl ?_
        refine w_iadd dX8_slopeOf_56 ?_
        exact w_iretP dX8_slopeOf_57 rfl (by unfold slp ab; simp only [mulneg]; omega)
    · skip
      refine w_iload dX8_slopeOf_23 rfl ?_
      refine w_if_le (tgt := 32) dX8_slopeOf_25 rfl (R32.in (by omega)) (fun c25 => ?_) (fun c25 => ?_)
      · skip
        refine w_iconst dX8_slopeOf_32 ?_
        refine w_istore (ls' := [(2, 45), (0, l), (0, r), (0, want D), (0, r - l), (0, 0)]) dX8_slopeOf_33 (Nat.le_of_ble_eq_true rfl) rfl rfl ?_
        refine w_bipush dX8_slopeOf_35 (by decide) ?_
        refine w_iload dX8_slopeOf_37 rfl ?_
        refine w_iload_n dX8_slopeOf_39 rfl rfl ?_
        refine w_isub dX8_slopeOf_40 ?_
        refine w_callSP (as := [(0, (r - l) - (want D))]) (rest := [(0, 6)]) (k := 0) fX8_slopeOf_41 rfl rfl rfl rfl rfl (Nat.le_of_ble_eq_true rfl) (s_X8_far X ((r - l) - (want D)) μ (by first | omega | assumption)) ?_
        have hf3 := ab_f ((r - l) - (want D))
        refine w_imul dX8_slopeOf_44 ?_
        refine w_iload dX8_slopeOf_45 rfl ?_
        refine w_if_eq (tgt := 55) dX8_slopeOf_47 rfl (R32.in (by decide)) (fun c47 => ?_) (fun c47 => ?_)
        · skip
          refine w_iconst dX8_slopeOf_55 ?_
          refine w_iadd dX8_slopeOf_56 ?_
          exact w_iretP dX8_slopeOf_57 rfl (by unfold slp ab; simp only [mulneg]; omega)
        · skip
          refine w_bipush dX8_slopeOf_50 (by decide) ?_
          refine w_goto (tgt := 56) dX8_slopeOf_52 rfl ?_
          refine w_iadd dX8_slopeOf_56 ?_
          exact w_iretP dX8_slopeOf_57 rfl (by unfold slp ab; simp only [mulneg]; omega)
      · skip
        refine w_iconst dX8_slopeOf_28 ?_
        refine w_goto (tgt := 33) dX8_slopeOf_29 rfl ?_
        refine w_istore (ls' := [(2, 45), (0, l), (0, r), (0, want D), (0, r - l), (0, 1)]) dX8_slopeOf_33 (Nat.le_of_ble_eq_true rfl) rfl rfl ?_
        refine w_bipush dX8_slopeOf_35 (by decide) ?_
        refine w_iload dX8_slopeOf_37 rfl ?_
        refine w_iload_n dX8_slopeOf_39 rfl rfl ?_
        refine w_isub dX8_slopeOf_40 ?_
        refine w_callSP (as := [(0, (r - l) - (want D))]) (rest := [(0, 6)]) (k := 0) fX8_slopeOf_41 rfl rfl rfl rfl rfl (Nat.le_of_ble_eq_true rfl) (s_X8_far X ((r - l) - (want D)) μ (by first | omega | assumption)) ?_
        have hf4 := ab_f ((r - l) - (want D))
        refine w_imul dX8_slopeOf_44 ?_
        refine w_iload dX8_slopeOf_45 rfl ?_
        refine w_if_eq (tgt := 55) dX8_slopeOf_47 rfl (R32.in (by decide)) (fun c47 => ?_) (fun c47 => ?_)
        · skip
          refine w_iconst dX8_slopeOf_55 ?_
          refine w_iadd dX8_slopeOf_56 ?_
          exact w_iretP dX8_slopeOf_57 rfl (by unfold slp ab; simp only [mulneg]; omega)
        · skip
          refine w_bipush dX8_slopeOf_50 (by decide) ?_
          refine w_goto (tgt := 56) dX8_slopeOf_52 rfl ?_
          refine w_iadd dX8_slopeOf_56 ?_
          exact w_iretP dX8_slopeOf_57 rfl (by unfold slp ab; simp only [mulneg]; omega)
  · skip
    refine w_iload dX8_slopeOf_14 rfl ?_
    refine w_if_lt (tgt := 28) dX8_slopeOf_16 rfl (R32.in (by omega)) (fun c16 => ?_) (fun c16 => ?_)
    · skip
      refine w_iconst dX8_slopeOf_28 ?_
      refine w_goto (tgt := 33) dX8_slopeOf_29 rfl ?_
      refine w_istore (ls' := [(2, 45), (0, l), (0, r), (0, want D), (0, r - l), (0, 1)]) dX8_slopeOf_33 (Nat.le_of_ble_eq_true rfl) rfl rfl ?_
      refine w_bipush dX8_slopeOf_35 (by decide) ?_
      refine w_iload dX8_slopeOf_37 rfl ?_
      refine w_iload_n dX8_slopeOf_39 rfl rfl ?_
      refine w_isub dX8_slopeOf_40 ?_
      refine w_callSP (as := [(0, (r - l) - (want D))]) (rest := [(0, 6)]) (k := 0) fX8_slopeOf_41 rfl rfl rfl rfl rfl (Nat.le_of_ble_eq_true rfl) (s_X8_far X ((r - l) - (want D)) μ (by first | omega | assumption)) ?_
      have hf5 := ab_f ((r - l) - (want D))
      refine w_imul dX8_slopeOf_44 ?_
      refine w_iload dX8_slopeOf_45 rfl ?_
      refine w_if_eq (tgt := 55) dX8_slopeOf_47 rfl (R32.in (by decide)) (fun c47 => ?_) (fun c47 => ?_)
      · skip
        refine w_iconst dX8_slopeOf_55 ?_
        refine w_iadd dX8_slopeOf_56 ?_
        exact w_iretP dX8_slopeOf_57 rfl (by unfold slp ab; simp only [mulneg]; omega)
      · skip
        refine w_bipush dX8_slopeOf_50 (by decide) ?_
        refine w_goto (tgt := 56) dX8_slopeOf_52 rfl ?_
        refine w_iadd dX8_slopeOf_56 ?_
        exact w_iretP dX8_slopeOf_57 rfl (by unfold slp ab; simp only [mulneg]; omega)
    · skip
      refine w_iload_n dX8_slopeOf_19 rfl rfl ?_
      refine w_if_ge (tgt := 32) dX8_slopeOf_20 rfl (R32.in (by omega)) (fun c20 => ?_) (fun c20 => ?_)
      · skip
        refine w_iconst dX8_slopeOf_32 ?_
        refine w_istore (ls' := [(2, 45), (0, l), (0, r), (0, want D), (0, r - l), (0, 0)]) dX8_slopeOf_33 (Nat.le_of_ble_eq_true rfl) rfl rfl ?_
        refine w_bipush dX8_slopeOf_35 (by decide) ?_
        refine w_iload dX8_slopeOf_37 rfl ?_
        refine w_iload_n dX8_slopeOf_39 rfl rfl ?_
        refine w_isub dX8_slopeOf_40 ?_
        refine w_callSP (as := [(0, (r - l) - (want D))]) (rest := [(0, 6)]) (k := 0) fX8_slopeOf_41 rfl rfl rfl rfl rfl (Nat.le_of_ble_eq_true rfl) (s_X8_far X ((r - l) - (want D)) μ (by first | omega | assumption)) ?_
        have hf6 := ab_f ((r - l) - (want D))
        refine w_imul dX8_slopeOf_44 ?_
        refine w_iload dX8_slopeOf_45 rfl ?_
        refine w_if_eq (tgt := 55) dX8_slopeOf_47 rfl (R32.in (by decide)) (fun c47 => ?_) (fun c47 => ?_)
        · skip
          refine w_iconst dX8_slopeOf_55 ?_
          refine w_iadd dX8_slopeOf_56 ?_
          exact w_iretP dX8_slopeOf_57 rfl (by unfold slp ab; simp only [mulneg]; omega)
        · skip
          refine w_bipush dX8_slopeOf_50 (by decide) ?_
          refine w_goto (tgt := 56) dX8_slopeOf_52 rfl ?_
          refine w_iadd dX8_slopeOf_56 ?_
          exact w_iretP dX8_slopeOf_57 rfl (by unfold slp ab; simp only [mulneg]; omega)
      · skip
        refine w_iload dX8_slopeOf_23 rfl ?_
        refine w_if_le (tgt := 32) dX8_slopeOf_25 rfl (R32.in (by omega)) (fun c25 => ?_) (fun c25 => ?_)
        · skip
          refine w_iconst dX8_slopeOf_32 ?_
          refine w_istore (ls' := [(2, 45), (0, l), (0, r), (0, want D), (0, r - l), (0, 0)]) dX8_slopeOf_33 (Nat.le_of_ble_eq_true rfl) rfl rfl ?_
          refine w_bipush dX8_slopeOf_35 (by decide) ?_
          refine w_iload dX8_slopeOf_37 rfl ?_
          refine w_iload_n dX8_slopeOf_39 rfl rfl ?_
          refine w_isub dX8_slopeOf_40 ?_
          refine w_callSP (as := [(0, (r - l) - (want D))]) (rest := [(0, 6)]) (k := 0) fX8_slopeOf_41 rfl rfl rfl rfl rfl (Nat.le_of_ble_eq_true rfl) (s_X8_far X ((r - l) - (want D)) μ (by first | omega | assumption)) ?_
          have hf7 := ab_f ((r - l) - (want D))
          refine w_imul dX8_slopeOf_44 ?_
          refine w_iload dX8_slopeOf_45 rfl ?_
          refine w_if_eq (tgt := 55) dX8_slopeOf_47 rfl (R32.in (by decide)) (fun c47 => ?_) (fun c47 => ?_)
          · skip
            refine w_iconst dX8_slopeOf_55 ?_
            refine w_iadd dX8_slopeOf_56 ?_
            exact w_iretP dX8_slopeOf_57 rfl (by unfold slp ab; simp only [mulneg]; omega)
          · skip
            refine w_bipush dX8_slopeOf_50 (by decide) ?_
            refine w_goto (tgt := 56) dX8_slopeOf_52 rfl ?_
            refine w_iadd dX8_slopeOf_56 ?_
            exact w_iretP dX8_slopeOf_57 rfl (by unfold slp ab; simp only [mulneg]; omega)
        · skip
          refine w_iconst dX8_slopeOf_28 ?_
          refine w_goto (tgt := 33) dX8_slopeOf_29 rfl ?_
          refine w_istore (ls' := [(2, 45), (0, l), (0, r), (0, want D), (0, r - l), (0, 1)]) dX8_slopeOf_33 (Nat.le_of_ble_eq_true rfl) rfl rfl ?_
          refine w_bipush dX8_slopeOf_35 (by decide) ?_
          refine w_iload dX8_slopeOf_37 rfl ?_
          refine w_iload_n dX8_slopeOf_39 rfl rfl ?_
          refine w_isub dX8_slopeOf_40 ?_
          refine w_callSP (as := [(0, (r - l) - (want D))]) (rest := [(0, 6)]) (k := 0) fX8_slopeOf_41 rfl rfl rfl rfl rfl (Nat.le_of_ble_eq_true rfl) (s_X8_far X ((r - l) - (want D)) μ (by first | omega | assumption)) ?_
          have hf8 := ab_f ((r - l) - (want D))
          refine w_imul dX8_slopeOf_44 ?_
          refine w_iload dX8_slopeOf_45 rfl ?_
          refine w_if_eq (tgt := 55) dX8_slopeOf_47 rfl (R32.in (by decide)) (fun c47 => ?_) (fun c47 => ?_)
          · skip
            refine w_iconst dX8_slopeOf_55 ?_
            refine w_iadd dX8_slopeOf_56 ?_
            exact w_iretP dX8_slopeOf_57 rfl (by unfold slp ab; simp only [mulneg]; omega)
          · skip
            refine w_bipush dX8_slopeOf_50 (by decide) ?_
            refine w_goto (tgt := 56) dX8_slopeOf_52 rfl ?_
            refine w_iadd dX8_slopeOf_56 ?_
            exact w_iretP dX8_slopeOf_57 rfl (by unfold slp ab; simp only [mulneg]; omega)

set_option maxRecDepth 100000 in
set_option maxHeartbeats 4000000 in
theorem s_X8_touchAt (X : AX) (h : Int) (μ : Mu) (hh : -100 ≤ h ∧ h ≤ 100) : Wp (GG X) M_X8_touchAt 0 [(0, h)] [] μ (pP 0 (tat h) μ) := by
  refine w_iload_n dX8_touchAt_0 rfl rfl ?_
  refine w_bipush dX8_touchAt_1 (by decide) ?_
  refine w_bipush dX8_touchAt_3 (by decide) ?_
  refine w_callSP (as := [(0, h), (0, -9), (0, 9)]) (rest := []) (k := 0) fX8_touchAt_5 rfl rfl rfl rfl rfl (Nat.le_of_ble_eq_true rfl) (s_X8_isIn X h (-9) 9 μ (by first | omega | assumption) (by first | omega | assumption) (by first | omega | assumption)) ?_
  have hf1 := am_b_r ((-9) ≤ h ∧ h ≤ 9)
  refine w_if_eq (tgt := 20) dX8_touchAt_8 rfl (R32.in (by have := am_b_r (((-9) ≤ h ∧ h ≤ 9)); omega)) (fun c8 => ?_) (fun c8 => ?_)
  · skip
    replace c8 := am_b0 c8
    refine w_iconst dX8_touchAt_20 ?_
    exact w_iretP dX8_touchAt_21 rfl (by unfold tat; omega)
  · skip
    replace c8 := am_b1 c8
    refine w_iload_n dX8_touchAt_11 rfl rfl ?_
    refine w_bipush dX8_touchAt_12 (by decide) ?_
    refine w_iadd dX8_touchAt_14 ?_
    refine w_iconst dX8_touchAt_15 ?_
    refine w_iremP dX8_touchAt_16 (by omega) ?_
    refine w_goto (tgt := 21) dX8_touchAt_17 rfl ?_
    exact w_iretP dX8_touchAt_21 rfl (by unfold tat; omega)

set_option maxRecDepth 100000 in
set_option maxHeartbeats 4000000 in
theorem s_X8_beamAt (X : AX) (D : GDt) (f : Int) (i : Int) (h : Int) (k : Int) (μ : Mu) (hG : RO D f μ) (hi : 0 ≤ i ∧ i < dN D) (hh : -60 ≤ h ∧ h ≤ 60) (hk : 0 ≤ k ∧ k ≤ 3) : Wp (GG X) M_X8_beamAt 0 [(2, 45), (0, f + i), (0, h), (0, k)] [] μ (pP 0 (h - way D i * 3 * k) μ) := by
  have hok := hG.ok
  have hn := hok.n
  have hfr := hG.r
  have hm := am_mul_b (a := 3 * k) (b := way D i) (A := 9) (B := 1) (by omega) (way_b D i)
  have hm2 : -9 ≤ way D i * 3 * k ∧ way D i * 3 * k ≤ 9 := (by rcases way_r D i with q | q <;> rw [q] <;> omega)
  refine w_iload_n dX8_beamAt_0 rfl rfl ?_
  refine w_iconst dX8_beamAt_1 ?_
  refine w_iload_n dX8_beamAt_2 rfl rfl ?_
  refine w_imul dX8_beamAt_3 ?_
  refine w_aload_n dX8_beamAt_4 rfl rfl (by first | decide | omega) ?_
  refine w_getR (o := 45) (x := 57) fX8_beamAt_5 rfl rfl rfl rfl ?_
  refine w_iload_n dX8_beamAt_8 rfl rfl ?_
  refine w_ialdx (o := 57) (n := 64) (x := way D i) dX8_beamAt_9 rfl rfl (Nat.le_of_ble_eq_true rfl) (by omega) (hG.rw.w (by omega)) ?_
  have hr1 := way_b D i
  refine w_imul dX8_beamAt_10 ?_
  refine w_isub dX8_beamAt_11 ?_
  exact w_iretP dX8_beamAt_12 rfl (by rcases way_r D i with q | q <;> rw [q] <;> omega)

set_option maxRecDepth 100000 in
set_option maxHeartbeats 4000000 in
theorem s_X8_endCost (X : AX) (D : GDt) (f : Int) (i : Int) (h : Int) (t : Int) (μ : Mu) (hG : RO D f μ) (hi : 0 ≤ i ∧ i < dN D) (hh : -60 ≤ h ∧ h ≤ 60) (ht : -60 ≤ t ∧ t ≤ 60) : Wp (GG X) M_X8_endCost 0 [(2, 45), (0, f + i), (0, h), (0, t), (9, 0), (9, 0), (9, 0)] [] μ (pP 0 (eco D i h (t - h)) μ) := by
  have hok := hG.ok
  have hn := hok.n
  have hfr := hG.r
  have hbr := hok.br hi
  refine w_iconst dX8_endCost_0 ?_
  refine w_istore (ls' := [(2, 45), (0, f + i), (0, h), (0, t), (0, 0), (9, 0), (9, 0)]) dX8_endCost_1 (Nat.le_of_ble_eq_true rfl) rfl rfl ?_
  refine w_iconst dX8_endCost_3 ?_
  refine w_istore (ls' := [(2, 45), (0, f + i), (0, h), (0, t), (0, 0), (0, 0), (9, 0)]) dX8_endCost_4 (Nat.le_of_ble_eq_true rfl) rfl rfl ?_
  have hL6 : ∀ (n6 : Nat) (m : Int) (k : Int), (3 - k).toNat = n6 → (0 ≤ k ∧ k ≤ dB D i) → (m = ecs D i h (t - h) k) → Wp (GG X) M_X8_endCost 6 [(2, 45), (0, f + i), (0, h), (0, t), (0, m), (0, k), (9, 0)] [] μ (pP 0 (eco D i h (t - h)) μ) := by
    intro n6
    induction n6 using Nat.strongRecOn with
    | ind n6 ih6 =>
      intro m k hn6 hk0 hm
      have hmr := ecs_r D i h (t - h) hk0.1
      have hm2 : -9 ≤ way D i * 3 * k ∧ way D i * 3 * k ≤ 9 := (by rcases way_r D i with q | q <;> rw [q] <;> omega)
      refine w_iload dX8_endCost_6 rfl ?_
      refine w_aload_n dX8_endCost_8 rfl rfl (by first | decide | omega) ?_
      refine w_getR (o := 45) (x := 48) fX8_endCost_9 rfl rfl rfl rfl ?_
      refine w_iload_n dX8_endCost_12 rfl rfl ?_
      refine w_ialdx (o := 48) (n := 64) (x := dB D i) dX8_endCost_13 rfl rfl (Nat.le_of_ble_eq_true rfl) (by omega) (hG.rw.b (by omega)) ?_
      have hr1 := (hG.rw.ok).br (i := i) (by omega)
      refine w_callSP (as := [(0, dB D i)]) (rest := [(0, k)]) (k := 0) fX8_endCost_14 rfl rfl rfl rfl rfl (Nat.le_of_ble_eq_true rfl) (s_X8_beamsOf X (dB D i) μ) ?_
      refine w_icmp_ge (tgt := 96) dX8_endCost_17 rfl (R32.in (by omega)) (R32.in (by omega)) (fun c17 => ?_) (fun c17 => ?_)
      · skip
        refine w_iload dX8_endCost_96 rfl ?_
        exact w_iretP dX8_endCost_98 rfl (by have he : k = dB D i := (by omega); subst he; exact hm)
      · skip
        refine w_aload_n dX8_endCost_20 rfl rfl (by first | decide | omega) ?_
        refine w_iload_n dX8_endCost_21 rfl rfl ?_
        refine w_iload_n dX8_endCost_22 rfl rfl ?_
        refine w_iload dX8_endCost_23 rfl ?_
        refine w_callVP (o := 45) (ci := 8) (as := [(0, f + i), (0, h), (0, k)]) (rest := []) (k := 0) fX8_endCost_25 rfl rfl rfl rfl rfl rfl rfl rfl (Nat.le_of_ble_eq_true rfl) (s_X8_beamAt X D f i h k μ hG (by first | omega | assumption) (by first | omega | assumption) (by first | omega | assumption)) ?_
        refine w_callSP (as := [(0, h - way D i * 3 * k)]) (rest := []) (k := 0) fX8_endCost_28 rfl rfl rfl rfl rfl (Nat.le_of_ble_eq_true rfl) (s_X8_touchAt X (h - way D i * 3 * k) μ (by first | omega | assumption)) ?_
        have hf2 := tat_f (h - way D i * 3 * k)
        refine w_istore (ls' := [(2, 45), (0, f + i), (0, h), (0, t), (0, m), (0, k), (0, tat (h - way D i * 3 * k))]) dX8_endCost_31 (Nat.le_of_ble_eq_true rfl) rfl rfl ?_
        refine w_iload dX8_endCost_33 rfl ?_
        refine w_if_ne (tgt := 53) dX8_endCost_35 rfl (R32.in (by omega)) (fun c35 => ?_) (fun c35 => ?_)
        · skip
          refine w_iload dX8_endCost_53 rfl ?_
          refine w_iconst dX8_endCost_55 ?_
          refine w_icmp_ne (tgt := 67) dX8_endCost_56 rfl (R32.in (by omega)) (R32.in (by decide)) (fun c56 => ?_) (fun c56 => ?_)
          · skip
            refine w_iload dX8_endCost_67 rfl ?_
            refine w_iconst dX8_endCost_69 ?_
            refine w_icmp_ne (tgt := 76) dX8_endCost_70 rfl (R32.in (by omega)) (R32.in (by decide)) (fun c70 => ?_) (fun c70 => ?_)
            · skip
              refine w_iload dX8_endCost_76 rfl ?_
              refine w_iconst dX8_endCost_78 ?_
              refine w_icmp_ne (tgt := 90) dX8_endCost_79 rfl (R32.in (by omega)) (R32.in (by decide)) (fun c79 => ?_) (fun c79 => ?_)
              · skip
                refine w_iinc (ls' := [(2, 45), (0, f + i), (0, h), (0, t), (0, m), (0, k + 1), (0, tat (h - way D i * 3 * k))]) dX8_endCost_90 rfl (Nat.le_of_ble_eq_true rfl) rfl rfl ?_
                refine w_goto (tgt := 6) dX8_endCost_93 rfl ?_
                refine Wp.fgl (ls' := [(2, 45), (0, f + i), (0, h), (0, t), (0, m), (0, k + 1), (9, 0)]) 6 rfl ?_
                exact ih6 _ (by omega) m (k + 1) rfl (by first | omega | assumption) (by rw [ecs_s hk0.1]; unfold tco; unfold tat at *; omega)
              · skip
                refine w_iload_n dX8_endCost_82 rfl rfl ?_
                refine w_iload_n dX8_endCost_83 rfl rfl ?_
                refine w_icmp_le (tgt := 90) dX8_endCost_84 rfl (R32.in (by omega)) (R32.in (by omega)) (fun c84 => ?_) (fun c84 => ?_)
                · skip
                  refine w_iinc (ls' := [(2, 45), (0, f + i), (0, h), (0, t), (0, m), (0, k + 1), (0, tat (h - way D i * 3 * k))]) dX8_endCost_90 rfl (Nat.le_of_ble_eq_true rfl) rfl rfl ?_
                  refine w_goto (tgt := 6) dX8_endCost_93 rfl ?_
                  refine Wp.fgl (ls' := [(2, 45), (0, f + i), (0, h), (0, t), (0, m), (0, k + 1), (9, 0)]) 6 rfl ?_
                  exact ih6 _ (by omega) m (k + 1) rfl (by first | omega | assumption) (by rw [ecs_s hk0.1]; unfold tco; unfold tat at *; omega)
                · skip
                  refine w_iinc (ls' := [(2, 45), (0, f + i), (0, h), (0, t), (0, m + 8), (0, k), (0, tat (h - way D i * 3 * k))]) dX8_endCost_87 rfl (Nat.le_of_ble_eq_true rfl) rfl rfl ?_
                  refine w_iinc (ls' := [(2, 45), (0, f + i), (0, h), (0, t), (0, m + 8), (0, k + 1), (0, tat (h - way D i * 3 * k))]) dX8_endCost_90 rfl (Nat.le_of_ble_eq_true rfl) rfl rfl ?_
                  refine w_goto (tgt := 6) dX8_endCost_93 rfl ?_
                  refine Wp.fgl (ls' := [(2, 45), (0, f + i), (0, h), (0, t), (0, m + 8), (0, k + 1), (9, 0)]) 6 rfl ?_
                  exact ih6 _ (by omega) (m + 8) (k + 1) rfl (by first | omega | assumption) (by rw [ecs_s hk0.1]; unfold tco; unfold tat at *; omega)
            · skip
              refine w_iinc (ls' := [(2, 45), (0, f + i), (0, h), (0, t), (0, m + 25), (0, k), (0, tat (h - way D i * 3 * k))]) dX8_endCost_73 rfl (Nat.le_of_ble_eq_true rfl) rfl rfl ?_
              refine w_iload dX8_endCost_76 rfl ?_
              refine w_iconst dX8_endCost_78 ?_
              refine w_icmp_ne (tgt := 90) dX8_endCost_79 rfl (R32.in (by omega)) (R32.in (by decide)) (fun c79 => ?_) (fun c79 => ?_)
              · skip
                refine w_iinc (ls' := [(2, 45), (0, f + i), (0, h), (0, t), (0, m + 25), (0, k + 1), (0, tat (h - way D i * 3 * k))]) dX8_endCost_90 rfl (Nat.le_of_ble_eq_true rfl) rfl rfl ?_
                refine w_goto (tgt := 6) dX8_endCost_93 rfl ?_
                refine Wp.fgl (ls' := [(2, 45), (0, f + i), (0, h), (0, t), (0, m + 25), (0, k + 1), (9, 0)]) 6 rfl ?_
                exact ih6 _ (by omega) (m + 25) (k + 1) rfl (by first | omega | assumption) (by rw [ecs_s hk0.1]; unfold tco; unfold tat at *; omega)
              · skip
                refine w_iload_n dX8_endCost_82 rfl rfl ?_
                refine w_iload_n dX8_endCost_83 rfl rfl ?_
                refine w_icmp_le (tgt := 90) dX8_endCost_84 rfl (R32.in (by omega)) (R32.in (by omega)) (fun c84 => ?_) (fun c84 => ?_)
                · skip
                  refine w_iinc (ls' := [(2, 45), (0, f + i), (0, h), (0, t), (0, m + 25), (0, k + 1), (0, tat (h - way D i * 3 * k))]) dX8_endCost_90 rfl (Nat.le_of_ble_eq_true rfl) rfl rfl ?_
                  refine w_goto (tgt := 6) dX8_endCost_93 rfl ?_
                  refine Wp.fgl (ls' := [(2, 45), (0, f + i), (0, h), (0, t), (0, m + 25), (0, k + 1), (9, 0)]) 6 rfl ?_
                  exact ih6 _ (by omega) (m + 25) (k + 1) rfl (by first | omega | assumption) (by rw [ecs_s hk0.1]; unfold tco; unfold tat at *; omega)
                · skip
                  refine w_iinc (ls' := [(2, 45), (0, f + i), (0, h), (0, t), (0, (m + 25) + 8), (0, k), (0, tat (h - way D i * 3 * k))]) dX8_endCost_87 rfl (Nat.le_of_ble_eq_true rfl) rfl rfl ?_
                  refine w_iinc (ls' := [(2, 45), (0, f + i), (0, h), (0, t), (0, (m + 25) + 8), (0, k + 1), (0, tat (h - way D i * 3 * k))]) dX8_endCost_90 rfl (Nat.le_of_ble_eq_true rfl) rfl rfl ?_
                  refine w_goto (tgt := 6) dX8_endCost_93 rfl ?_
                  refine Wp.fgl (ls' := [(2, 45), (0, f + i), (0, h), (0, t), (0, (m + 25) + 8), (0, k + 1), (9, 0)]) 6 rfl ?_
                  exact ih6 _ (by omega) ((m + 25) + 8) (k + 1) rfl (by first | omega | assumption) (by rw [ecs_s hk0.1]; unfold tco; unfold tat at *; omega)
          · skip
            refine w_iload_n dX8_endCost_59 rfl rfl ?_
            refine w_iload_n dX8_endCost_60 rfl rfl ?_
            refine w_icmp_ge (tgt := 67) dX8_endCost_61 rfl (R32.in (by omega)) (R32.in (by omega)) (fun c61 => ?_) (fun c61 => ?_)
            · skip
              refine w_iload dX8_endCost_67 rfl ?_
              refine w_iconst dX8_endCost_69 ?_
              refine w_icmp_ne (tgt := 76) dX8_endCost_70 rfl (R32.in (by omega)) (R32.in (by decide)) (fun c70 => ?_) (fun c70 => ?_)
              · skip
                refine w_iload dX8_endCost_76 rfl ?_
                refine w_iconst dX8_endCost_78 ?_
                refine w_icmp_ne (tgt := 90) dX8_endCost_79 rfl (R32.in (by omega)) (R32.in (by decide)) (fun c79 => ?_) (fun c79 => ?_)
                · skip
                  refine w_iinc (ls' := [(2, 45), (0, f + i), (0, h), (0, t), (0, m), (0, k + 1), (0, tat (h - way D i * 3 * k))]) dX8_endCost_90 rfl (Nat.le_of_ble_eq_true rfl) rfl rfl ?_
                  refine w_goto (tgt := 6) dX8_endCost_93 rfl ?_
                  refine Wp.fgl (ls' := [(2, 45), (0, f + i), (0, h), (0, t), (0, m), (0, k + 1), (9, 0)]) 6 rfl ?_
                  exact ih6 _ (by omega) m (k + 1) rfl (by first | omega | assumption) (by rw [ecs_s hk0.1]; unfold tco; unfold tat at *; omega)
                · skip
                  refine w_iload_n dX8_endCost_82 rfl rfl ?_
                  refine w_iload_n dX8_endCost_83 rfl rfl ?_
                  refine w_icmp_le (tgt := 90) dX8_endCost_84 rfl (R32.in (by omega)) (R32.in (by omega)) (fun c84 => ?_) (fun c84 => ?_)
                  · skip
                    refine w_iinc (ls' := [(2, 45), (0, f + i), (0, h), (0, t), (0, m), (0, k + 1), (0, tat (h - way D i * 3 * k))]) dX8_endCost_90 rfl (Nat.le_of_ble_eq_true rfl) rfl rfl ?_
                    refine w_goto (tgt := 6) dX8_endCost_93 rfl ?_
                    refine Wp.fgl (ls' := [(2, 45), (0, f + i), (0, h), (0, t), (0, m), (0, k + 1), (9, 0)]) 6 rfl ?_
                    exact ih6 _ (by omega) m (k + 1) rfl (by first | omega | assumption) (by rw [ecs_s hk0.1]; unfold tco; unfold tat at *; omega)
                  · skip
                    refine w_iinc (ls' := [(2, 45), (0, f + i), (0, h), (0, t), (0, m + 8), (0, k), (0, tat (h - way D i * 3 * k))]) dX8_endCost_87 rfl (Nat.le_of_ble_eq_true rfl) rfl rfl ?_
                    refine w_iinc (ls' := [(2, 45), (0, f + i), (0, h), (0, t), (0, m + 8), (0, k + 1), (0, tat (h - way D i * 3 * k))]) dX8_endCost_90 rfl (Nat.le_of_ble_eq_true rfl) rfl rfl ?_
                    refine w_goto (tgt := 6) dX8_endCost_93 rfl ?_
                    refine Wp.fgl (ls' := [(2, 45), (0, f + i), (0, h), (0, t), (0, m + 8), (0, k + 1), (9, 0)]) 6 rfl ?_
                    exact ih6 _ (by omega) (m + 8) (k + 1) rfl (by first | omega | assumption) (by rw [ecs_s hk0.1]; unfold tco; unfold tat at *; omega)
              · skip
                refine w_iinc (ls' := [(2, 45), (0, f + i), (0, h), (0, t), (0, m + 25), (0, k), (0, tat (h - way D i * 3 * k))]) dX8_endCost_73 rfl (Nat.le_of_ble_eq_true rfl) rfl rfl ?_
                refine w_iload dX8_endCost_76 rfl ?_
                refine w_iconst dX8_endCost_78 ?_
                refine w_icmp_ne (tgt := 90) dX8_endCost_79 rfl (R32.in (by omega)) (R32.in (by decide)) (fun c79 => ?_) (fun c79 => ?_)
                · skip
                  refine w_iinc (ls' := [(2, 45), (0, f + i), (0, h), (0, t), (0, m + 25), (0, k + 1), (0, tat (h - way D i * 3 * k))]) dX8_endCost_90 rfl (Nat.le_of_ble_eq_true rfl) rfl rfl ?_
                  refine w_goto (tgt := 6) dX8_endCost_93 rfl ?_
                  refine Wp.fgl (ls' := [(2, 45), (0, f + i), (0, h), (0, t), (0, m + 25), (0, k + 1), (9, 0)]) 6 rfl ?_
                  exact ih6 _ (by omega) (m + 25) (k + 1) rfl (by first | omega | assumption) (by rw [ecs_s hk0.1]; unfold tco; unfold tat at *; omega)
                · skip
                  refine w_iload_n dX8_endCost_82 rfl rfl ?_
                  refine w_iload_n dX8_endCost_83 rfl rfl ?_
                  refine w_icmp_le (tgt := 90) dX8_endCost_84 rfl (R32.in (by omega)) (R32.in (by omega)) (fun c84 => ?_) (fun c84 => ?_)
                  · skip
                    refine w_iinc (ls' := [(2, 45), (0, f + i), (0, h), (0, t), (0, m + 25), (0, k + 1), (0, tat (h - way D i * 3 * k))]) dX8_endCost_90 rfl (Nat.le_of_ble_eq_true rfl) rfl rfl ?_
                    refine w_goto (tgt := 6) dX8_endCost_93 rfl ?_
                    refine Wp.fgl (ls' := [(2, 45), (0, f + i), (0, h), (0, t), (0, m + 25), (0, k + 1), (9, 0)]) 6 rfl ?_
                    exact ih6 _ (by omega) (m + 25) (k + 1) rfl (by first | omega | assumption) (by rw [ecs_s hk0.1]; unfold tco; unfold tat at *; omega)
                  · skip
                    refine w_iinc (ls' := [(2, 45), (0, f + i), (0, h), (0, t), (0, (m + 25) + 8), (0, k), (0, tat (h - way D i * 3 * k))]) dX8_endCost_87 rfl (Nat.le_of_ble_eq_true rfl) rfl rfl ?_
                    refine w_iinc (ls' := [(2, 45), (0, f + i), (0, h), (0, t), (0, (m + 25) + 8), (0, k + 1), (0, tat (h - way D i * 3 * k))]) dX8_endCost_90 rfl (Nat.le_of_ble_eq_true rfl) rfl rfl ?_
                    refine w_goto (tgt := 6) dX8_endCost_93 rfl ?_
                    refine Wp.fgl (ls' := [(2, 45), (0, f + i), (0, h), (0, t), (0, (m + 25) + 8), (0, k + 1), (9, 0)]) 6 rfl ?_
                    exact ih6 _ (by omega) ((m + 25) + 8) (k + 1) rfl (by first | omega | assumption) (by rw [ecs_s hk0.1]; unfold tco; unfold tat at *; omega)
            · skip
              refine w_iinc (ls' := [(2, 45), (0, f + i), (0, h), (0, t), (0, m + 8), (0, k), (0, tat (h - way D i * 3 * k))]) dX8_endCost_64 rfl (Nat.le_of_ble_eq_true rfl) rfl rfl ?_
              refine w_iload dX8_endCost_67 rfl ?_
              refine w_iconst dX8_endCost_69 ?_
              refine w_icmp_ne (tgt := 76) dX8_endCost_70 rfl (R32.in (by omega)) (R32.in (by decide)) (fun c70 => ?_) (fun c70 => ?_)
              · skip
                refine w_iload dX8_endCost_76 rfl ?_
                refine w_iconst dX8_endCost_78 ?_
                refine w_icmp_ne (tgt := 90) dX8_endCost_79 rfl (R32.in (by omega)) (R32.in (by decide)) (fun c79 => ?_) (fun c79 => ?_)
                · skip
                  refine w_iinc (ls' := [(2, 45), (0, f + i), (0, h), (0, t), (0, m + 8), (0, k + 1), (0, tat (h - way D i * 3 * k))]) dX8_endCost_90 rfl (Nat.le_of_ble_eq_true rfl) rfl rfl ?_
                  refine w_goto (tgt := 6) dX8_endCost_93 rfl ?_
                  refine Wp.fgl (ls' := [(2, 45), (0, f + i), (0, h), (0, t), (0, m + 8), (0, k + 1), (9, 0)]) 6 rfl ?_
                  exact ih6 _ (by omega) (m + 8) (k + 1) rfl (by first | omega | assumption) (by rw [ecs_s hk0.1]; unfold tco; unfold tat at *; omega)
                · skip
                  refine w_iload_n dX8_endCost_82 rfl rfl ?_
                  refine w_iload_n dX8_endCost_83 rfl rfl ?_
                  refine w_icmp_le (tgt := 90) dX8_endCost_84 rfl (R32.in (by omega)) (R32.in (by omega)) (fun c84 => ?_) (fun c84 => ?_)
                  · skip
                    refine w_iinc (ls' := [(2, 45), (0, f + i), (0, h), (0, t), (0, m + 8), (0, k + 1), (0, tat (h - way D i * 3 * k))]) dX8_endCost_90 rfl (Nat.le_of_ble_eq_true rfl) rfl rfl ?_
                    refine w_goto (tgt := 6) dX8_endCost_93 rfl ?_
                    refine Wp.fgl (ls' := [(2, 45), (0, f + i), (0, h), (0, t), (0, m + 8), (0, k + 1), (9, 0)]) 6 rfl ?_
                    exact ih6 _ (by omega) (m + 8) (k + 1) rfl (by first | omega | assumption) (by rw [ecs_s hk0.1]; unfold tco; unfold tat at *; omega)
                  · skip
                    refine w_iinc (ls' := [(2, 45), (0, f + i), (0, h), (0, t), (0, (m + 8) + 8), (0, k), (0, tat (h - way D i * 3 * k))]) dX8_endCost_87 rfl (Nat.le_of_ble_eq_true rfl) rfl rfl ?_
                    refine w_iinc (ls' := [(2, 45), (0, f + i), (0, h), (0, t), (0, (m + 8) + 8), (0, k + 1), (0, tat (h - way D i * 3 * k))]) dX8_endCost_90 rfl (Nat.le_of_ble_eq_true rfl) rfl rfl ?_
                    refine w_goto (tgt := 6) dX8_endCost_93 rfl ?_
                    refine Wp.fgl (ls' := [(2, 45), (0, f + i), (0, h), (0, t), (0, (m + 8) + 8), (0, k + 1), (9, 0)]) 6 rfl ?_
                    exact ih6 _ (by omega) ((m + 8) + 8) (k + 1) rfl (by first | omega | assumption) (by rw [ecs_s hk0.1]; unfold tco; unfold tat at *; omega)
              · skip
                refine w_iinc (ls' := [(2, 45), (0, f + i), (0, h), (0, t), (0, (m + 8) + 25), (0, k), (0, tat (h - way D i * 3 * k))]) dX8_endCost_73 rfl (Nat.le_of_ble_eq_true rfl) rfl rfl ?_
                refine w_iload dX8_endCost_76 rfl ?_
                refine w_iconst dX8_endCost_78 ?_
                refine w_icmp_ne (tgt := 90) dX8_endCost_79 rfl (R32.in (by omega)) (R32.in (by decide)) (fun c79 => ?_) (fun c79 => ?_)
                · skip
                  refine w_iinc (ls' := [(2, 45), (0, f + i), (0, h), (0, t), (0, (m + 8) + 25), (0, k + 1), (0, tat (h - way D i * 3 * k))]) dX8_endCost_90 rfl (Nat.le_of_ble_eq_true rfl) rfl rfl ?_
                  refine w_goto (tgt := 6) dX8_endCost_93 rfl ?_
                  refine Wp.fgl (ls' := [(2, 45), (0, f + i), (0, h), (0, t), (0, (m + 8) + 25), (0, k + 1), (9, 0)]) 6 rfl ?_
                  exact ih6 _ (by omega) ((m + 8) + 25) (k + 1) rfl (by first | omega | assumption) (by rw [ecs_s hk0.1]; unfold tco; unfold tat at *; omega)
                · skip
                  refine w_iload_n dX8_endCost_82 rfl rfl ?_
                  refine w_iload_n dX8_endCost_83 rfl rfl ?_
                  refine w_icmp_le (tgt := 90) dX8_endCost_84 rfl (R32.in (by omega)) (R32.in (by omega)) (fun c84 => ?_) (fun c84 => ?_)
                  · skip
                    refine w_iinc (ls' := [(2, 45), (0, f + i), (0, h), (0, t), (0, (m + 8) + 25), (0, k + 1), (0, tat (h - way D i * 3 * k))]) dX8_endCost_90 rfl (Nat.le_of_ble_eq_true rfl) rfl rfl ?_
                    refine w_goto (tgt := 6) dX8_endCost_93 rfl ?_
                    refine Wp.fgl (ls' := [(2, 45), (0, f + i), (0, h), (0, t), (0, (m + 8) + 25), (0, k + 1), (9, 0)]) 6 rfl ?_
                    exact ih6 _ (by omega) ((m + 8) + 25) (k + 1) rfl (by first | omega | assumption) (by rw [ecs_s hk0.1]; unfold tco; unfold tat at *; omega)
                  · skip
                    refine w_iinc (ls' := [(2, 45), (0, f + i), (0, h), (0, t), (0, ((m + 8) + 25) + 8), (0, k), (0, tat (h - way D i * 3 * k))]) dX8_endCost_87 rfl (Nat.le_of_ble_eq_true rfl) rfl rfl ?_
                    refine w_iinc (ls' := [(2, 45), (0, f + i), (0, h), (0, t), (0, ((m + 8) + 25) + 8), (0, k + 1), (0, tat (h - way D i * 3 * k))]) dX8_endCost_90 rfl (Nat.le_of_ble_eq_true rfl) rfl rfl ?_
                    refine w_goto (tgt := 6) dX8_endCost_93 rfl ?_
                    refine Wp.fgl (ls' := [(2, 45), (0, f + i), (0, h), (0, t), (0, ((m + 8) + 25) + 8), (0, k + 1), (9, 0)]) 6 rfl ?_
                    exact ih6 _ (by omega) (((m + 8) + 25) + 8) (k + 1) rfl (by first | omega | assumption) (by rw [ecs_s hk0.1]; unfold tco; unfold tat at *; omega)
        · skip
          refine w_iload dX8_endCost_38 rfl ?_
          refine w_iload_n dX8_endCost_40 rfl rfl ?_
          refine w_iload_n dX8_endCost_41 rfl rfl ?_
          refine w_icmp_ne (tgt := 49) dX8_endCost_42 rfl (R32.in (by omega)) (R32.in (by omega)) (fun c42 => ?_) (fun c42 => ?_)
          · skip
            refine w_iconst dX8_endCost_49 ?_
            refine w_iadd dX8_endCost_50 ?_
            refine w_istore (ls' := [(2, 45), (0, f + i), (0, h), (0, t), (0, m + 1), (0, k), (0, tat (h - way D i * 3 * k))]) dX8_endCost_51 (Nat.le_of_ble_eq_true rfl) rfl rfl ?_
            refine w_iload dX8_endCost_53 rfl ?_
            refine w_iconst dX8_endCost_55 ?_
            refine w_icmp_ne (tgt := 67) dX8_endCost_56 rfl (R32.in (by omega)) (R32.in (by decide)) (fun c56 => ?_) (fun c56 => ?_)
            · skip
              refine w_iload dX8_endCost_67 rfl ?_
              refine w_iconst dX8_endCost_69 ?_
              refine w_icmp_ne (tgt := 76) dX8_endCost_70 rfl (R32.in (by omega)) (R32.in (by decide)) (fun c70 => ?_) (fun c70 => ?_)
              · skip
                refine w_iload dX8_endCost_76 rfl ?_
                refine w_iconst dX8_endCost_78 ?_
                refine w_icmp_ne (tgt := 90) dX8_endCost_79 rfl (R32.in (by omega)) (R32.in (by decide)) (fun c79 => ?_) (fun c79 => ?_)
                · skip
                  refine w_iinc (ls' := [(2, 45), (0, f + i), (0, h), (0, t), (0, m + 1), (0, k + 1), (0, tat (h - way D i * 3 * k))]) dX8_endCost_90 rfl (Nat.le_of_ble_eq_true rfl) rfl rfl ?_
                  refine w_goto (tgt := 6) dX8_endCost_93 rfl ?_
                  refine Wp.fgl (ls' := [(2, 45), (0, f + i), (0, h), (0, t), (0, m + 1), (0, k + 1), (9, 0)]) 6 rfl ?_
                  exact ih6 _ (by omega) (m + 1) (k + 1) rfl (by first | omega | assumption) (by rw [ecs_s hk0.1]; unfold tco; unfold tat at *; omega)
                · skip
                  refine w_iload_n dX8_endCost_82 rfl rfl ?_
                  refine w_iload_n dX8_endCost_83 rfl rfl ?_
                  refine w_icmp_le (tgt := 90) dX8_endCost_84 rfl (R32.in (by omega)) (R32.in (by omega)) (fun c84 => ?_) (fun c84 => ?_)
                  · skip
                    refine w_iinc (ls' := [(2, 45), (0, f + i), (0, h), (0, t), (0, m + 1), (0, k + 1), (0, tat (h - way D i * 3 * k))]) dX8_endCost_90 rfl (Nat.le_of_ble_eq_true rfl) rfl rfl ?_
                    refine w_goto (tgt := 6) dX8_endCost_93 rfl ?_
                    refine Wp.fgl (ls' := [(2, 45), (0, f + i), (0, h), (0, t), (0, m + 1), (0, k + 1), (9, 0)]) 6 rfl ?_
                    exact ih6 _ (by omega) (m + 1) (k + 1) rfl (by first | omega | assumption) (by rw [ecs_s hk0.1]; unfold tco; unfold tat at *; omega)
                  · skip
                    refine w_iinc (ls' := [(2, 45), (0, f + i), (0, h), (0, t), (0, (m + 1) + 8), (0, k), (0, tat (h - way D i * 3 * k))]) dX8_endCost_87 rfl (Nat.le_of_ble_eq_true rfl) rfl rfl ?_
                    refine w_iinc (ls' := [(2, 45), (0, f + i), (0, h), (0, t), (0, (m + 1) + 8), (0, k + 1), (0, tat (h - way D i * 3 * k))]) dX8_endCost_90 rfl (Nat.le_of_ble_eq_true rfl) rfl rfl ?_
                    refine w_goto (tgt := 6) dX8_endCost_93 rfl ?_
                    refine Wp.fgl (ls' := [(2, 45), (0, f + i), (0, h), (0, t), (0, (m + 1) + 8), (0, k + 1), (9, 0)]) 6 rfl ?_
                    exact ih6 _ (by omega) ((m + 1) + 8) (k + 1) rfl (by first | omega | assumption) (by rw [ecs_s hk0.1]; unfold tco; unfold tat at *; omega)
              · skip
                refine w_iinc (ls' := [(2, 45), (0, f + i), (0, h), (0, t), (0, (m + 1) + 25), (0, k), (0, tat (h - way D i * 3 * k))]) dX8_endCost_73 rfl (Nat.le_of_ble_eq_true rfl) rfl rfl ?_
                refine w_iload dX8_endCost_76 rfl ?_
                refine w_iconst dX8_endCost_78 ?_
                refine w_icmp_ne (tgt := 90) dX8_endCost_79 rfl (R32.in (by omega)) (R32.in (by decide)) (fun c79 => ?_) (fun c79 => ?_)
                · skip
                  refine w_iinc (ls' := [(2, 45), (0, f + i), (0, h), (0, t), (0, (m + 1) + 25), (0, k + 1), (0, tat (h - way D i * 3 * k))]) dX8_endCost_90 rfl (Nat.le_of_ble_eq_true rfl) rfl rfl ?_
                  refine w_goto (tgt := 6) dX8_endCost_93 rfl ?_
                  refine Wp.fgl (ls' := [(2, 45), (0, f + i), (0, h), (0, t), (0, (m + 1) + 25), (0, k + 1), (9, 0)]) 6 rfl ?_
                  exact ih6 _ (by omega) ((m + 1) + 25) (k + 1) rfl (by first | omega | assumption) (by rw [ecs_s hk0.1]; unfold tco; unfold tat at *; omega)
                · skip
                  refine w_iload_n dX8_endCost_82 rfl rfl ?_
                  refine w_iload_n dX8_endCost_83 rfl rfl ?_
                  refine w_icmp_le (tgt := 90) dX8_endCost_84 rfl (R32.in (by omega)) (R32.in (by omega)) (fun c84 => ?_) (fun c84 => ?_)
                  · skip
                    refine w_iinc (ls' := [(2, 45), (0, f + i), (0, h), (0, t), (0, (m + 1) + 25), (0, k + 1), (0, tat (h - way D i * 3 * k))]) dX8_endCost_90 rfl (Nat.le_of_ble_eq_true rfl) rfl rfl ?_
                    refine w_goto (tgt := 6) dX8_endCost_93 rfl ?_
                    refine Wp.fgl (ls' := [(2, 45), (0, f + i), (0, h), (0, t), (0, (m + 1) + 25), (0, k + 1), (9, 0)]) 6 rfl ?_
                    exact ih6 _ (by omega) ((m + 1) + 25) (k + 1) rfl (by first | omega | assumption) (by rw [ecs_s hk0.1]; unfold tco; unfold tat at *; omega)
                  · skip
                    refine w_iinc (ls' := [(2, 45), (0, f + i), (0, h), (0, t), (0, ((m + 1) + 25) + 8), (0, k), (0, tat (h - way D i * 3 * k))]) dX8_endCost_87 rfl (Nat.le_of_ble_eq_true rfl) rfl rfl ?_
                    refine w_iinc (ls' := [(2, 45), (0, f + i), (0, h), (0, t), (0, ((m + 1) + 25) + 8), (0, k + 1), (0, tat (h - way D i * 3 * k))]) dX8_endCost_90 rfl (Nat.le_of_ble_eq_true rfl) rfl rfl ?_
                    refine w_goto (tgt := 6) dX8_endCost_93 rfl ?_
                    refine Wp.fgl (ls' := [(2, 45), (0, f + i), (0, h), (0, t), (0, ((m + 1) + 25) + 8), (0, k + 1), (9, 0)]) 6 rfl ?_
                    exact ih6 _ (by omega) (((m + 1) + 25) + 8) (k + 1) rfl (by first | omega | assumption) (by rw [ecs_s hk0.1]; unfold tco; unfold tat at *; omega)
            · skip
              refine w_iload_n dX8_endCost_59 rfl rfl ?_
              refine w_iload_n dX8_endCost_60 rfl rfl ?_
              refine w_icmp_ge (tgt := 67) dX8_endCost_61 rfl (R32.in (by omega)) (R32.in (by omega)) (fun c61 => ?_) (fun c61 => ?_)
              · skip
                refine w_iload dX8_endCost_67 rfl ?_
                refine w_iconst dX8_endCost_69 ?_
                refine w_icmp_ne (tgt := 76) dX8_endCost_70 rfl (R32.in (by omega)) (R32.in (by decide)) (fun c70 => ?_) (fun c70 => ?_)
                · skip
                  refine w_iload dX8_endCost_76 rfl ?_
                  refine w_iconst dX8_endCost_78 ?_
                  refine w_icmp_ne (tgt := 90) dX8_endCost_79 rfl (R32.in (by omega)) (R32.in (by decide)) (fun c79 => ?_) (fun c79 => ?_)
                  · skip
                    refine w_iinc (ls' := [(2, 45), (0, f + i), (0, h), (0, t), (0, m + 1), (0, k + 1), (0, tat (h - way D i * 3 * k))]) dX8_endCost_90 rfl (Nat.le_of_ble_eq_true rfl) rfl rfl ?_
                    refine w_goto (tgt := 6) dX8_endCost_93 rfl ?_
                    refine Wp.fgl (ls' := [(2, 45), (0, f + i), (0, h), (0, t), (0, m + 1), (0, k + 1), (9, 0)]) 6 rfl ?_
                    exact ih6 _ (by omega) (m + 1) (k + 1) rfl (by first | omega | assumption) (by rw [ecs_s hk0.1]; unfold tco; unfold tat at *; omega)
                  · skip
                    refine w_iload_n dX8_endCost_82 rfl rfl ?_
                    refine w_iload_n dX8_endCost_83 rfl rfl ?_
                    refine w_icmp_le (tgt := 90) dX8_endCost_84 rfl (R32.in (by omega)) (R32.in (by omega)) (fun c84 => ?_) (fun c84 => ?_)
                    · skip
                      refine w_iinc (ls' := [(2, 45), (0, f + i), (0, h), (0, t), (0, m + 1), (0, k + 1), (0, tat (h - way D i * 3 * k))]) dX8_endCost_90 rfl (Nat.le_of_ble_eq_true rfl) rfl rfl ?_
                      refine w_goto (tgt := 6) dX8_endCost_93 rfl ?_
                      refine Wp.fgl (ls' := [(2, 45), (0, f + i), (0, h), (0, t), (0, m + 1), (0, k + 1), (9, 0)]) 6 rfl ?_
                      exact ih6 _ (by omega) (m + 1) (k + 1) rfl (by first | omega | assumption) (by rw [ecs_s hk0.1]; unfold tco; unfold tat at *; omega)
                    · skip
                      refine w_iinc (ls' := [(2, 45), (0, f + i), (0, h), (0, t), (0, (m + 1) + 8), (0, k), (0, tat (h - way D i * 3 * k))]) dX8_endCost_87 rfl (Nat.le_of_ble_eq_true rfl) rfl rfl ?_
                      refine w_iinc (ls' := [(2, 45), (0, f + i), (0, h), (0, t), (0, (m + 1) + 8), (0, k + 1), (0, tat (h - way D i * 3 * k))]) dX8_endCost_90 rfl (Nat.le_of_ble_eq_true rfl) rfl rfl ?_
                      refine w_goto (tgt := 6) dX8_endCost_93 rfl ?_
                      refine Wp.fgl (ls' := [(2, 45), (0, f + i), (0, h), (0, t), (0, (m + 1) + 8), (0, k + 1), (9, 0)]) 6 rfl ?_
                      exact ih6 _ (by omega) ((m + 1) + 8) (k + 1) rfl (by first | omega | assumption) (by rw [ecs_s hk0.1]; unfold tco; unfold tat at *; omega)
                · skip
                  refine w_iinc (ls' := [(2, 45), (0, f + i), (0, h), (0, t), (0, (m + 1) + 25), (0, k), (0, tat (h - way D i * 3 * k))]) dX8_endCost_73 rfl (Nat.le_of_ble_eq_true rfl) rfl rfl ?_
                  refine w_iload dX8_endCost_76 rfl ?_
                  refine w_iconst dX8_endCost_78 ?_
                  refine w_icmp_ne (tgt := 90) dX8_endCost_79 rfl (R32.in (by omega)) (R32.in (by decide)) (fun c79 => ?_) (fun c79 => ?_)
                  · skip
                    refine w_iinc (ls' := [(2, 45), (0, f + i), (0, h), (0, t), (0, (m + 1) + 25), (0, k + 1), (0, tat (h - way D i * 3 * k))]) dX8_endCost_90 rfl (Nat.le_of_ble_eq_true rfl) rfl rfl ?_
                    refine w_goto (tgt := 6) dX8_endCost_93 rfl ?_
                    refine Wp.fgl (ls' := [(2, 45), (0, f + i), (0, h), (0, t), (0, (m + 1) + 25), (0, k + 1), (9, 0)]) 6 rfl ?_
                    exact ih6 _ (by omega) ((m + 1) + 25) (k + 1) rfl (by first | omega | assumption) (by rw [ecs_s hk0.1]; unfold tco; unfold tat at *; omega)
                  · skip
                    refine w_iload_n dX8_endCost_82 rfl rfl ?_
                    refine w_iload_n dX8_endCost_83 rfl rfl ?_
                    refine w_icmp_le (tgt := 90) dX8_endCost_84 rfl (R32.in (by omega)) (R32.in (by omega)) (fun c84 => ?_) (fun c84 => ?_)
                    · skip
                      refine w_iinc (ls' := [(2, 45), (0, f + i), (0, h), (0, t), (0, (m + 1) + 25), (0, k + 1), (0, tat (h - way D i * 3 * k))]) dX8_endCost_90 rfl (Nat.le_of_ble_eq_true rfl) rfl rfl ?_
                      refine w_goto (tgt := 6) dX8_endCost_93 rfl ?_
                      refine Wp.fgl (ls' := [(2, 45), (0, f + i), (0, h), (0, t), (0, (m + 1) + 25), (0, k + 1), (9, 0)]) 6 rfl ?_
                      exact ih6 _ (by omega) ((m + 1) + 25) (k + 1) rfl (by first | omega | assumption) (by rw [ecs_s hk0.1]; unfold tco; unfold tat at *; omega)
                    · skip
                      refine w_iinc (ls' := [(2, 45), (0, f + i), (0, h), (0, t), (0, ((m + 1) + 25) + 8), (0, k), (0, tat (h - way D i * 3 * k))]) dX8_endCost_87 rfl (Nat.le_of_ble_eq_true rfl) rfl rfl ?_
                      refine w_iinc (ls' := [(2, 45), (0, f + i), (0, h), (0, t), (0, ((m + 1) + 25) + 8), (0, k + 1), (0, tat (h - way D i * 3 * k))]) dX8_endCost_90 rfl (Nat.le_of_ble_eq_true rfl) rfl rfl ?_
                      refine w_goto (tgt := 6) dX8_endCost_93 rfl ?_
                      refine Wp.fgl (ls' := [(2, 45), (0, f + i), (0, h), (0, t), (0, ((m + 1) + 25) + 8), (0, k + 1), (9, 0)]) 6 rfl ?_
                      exact ih6 _ (by omega) (((m + 1) + 25) + 8) (k + 1) rfl (by first | omega | assumption) (by rw [ecs_s hk0.1]; unfold tco; unfold tat at *; omega)
              · skip
                refine w_iinc (ls' := [(2, 45), (0, f + i), (0, h), (0, t), (0, (m + 1) + 8), (0, k), (0, tat (h - way D i * 3 * k))]) dX8_endCost_64 rfl (Nat.le_of_ble_eq_true rfl) rfl rfl ?_
                refine w_iload dX8_endCost_67 rfl ?_
                refine w_iconst dX8_endCost_69 ?_
                refine w_icmp_ne (tgt := 76) dX8_endCost_70 rfl (R32.in (by omega)) (R32.in (by decide)) (fun c70 => ?_) (fun c70 => ?_)
                · skip
                  refine w_iload dX8_endCost_76 rfl ?_
                  refine w_iconst dX8_endCost_78 ?_
                  refine w_icmp_ne (tgt := 90) dX8_endCost_79 rfl (R32.in (by omega)) (R32.in (by decide)) (fun c79 => ?_) (fun c79 => ?_)
                  · skip
                    refine w_iinc (ls' := [(2, 45), (0, f + i), (0, h), (0, t), (0, (m + 1) + 8), (0, k + 1), (0, tat (h - way D i * 3 * k))]) dX8_endCost_90 rfl (Nat.le_of_ble_eq_true rfl) rfl rfl ?_
                    refine w_goto (tgt := 6) dX8_endCost_93 rfl ?_
                    refine Wp.fgl (ls' := [(2, 45), (0, f + i), (0, h), (0, t), (0, (m + 1) + 8), (0, k + 1), (9, 0)]) 6 rfl ?_
                    exact ih6 _ (by omega) ((m + 1) + 8) (k + 1) rfl (by first | omega | assumption) (by rw [ecs_s hk0.1]; unfold tco; unfold tat at *; omega)
                  · skip
                    refine w_iload_n dX8_endCost_82 rfl rfl ?_
                    refine w_iload_n dX8_endCost_83 rfl rfl ?_
                    refine w_icmp_le (tgt := 90) dX8_endCost_84 rfl (R32.in (by omega)) (R32.in (by omega)) (fun c84 => ?_) (fun c84 => ?_)
                    · skip
                      refine w_iinc (ls' := [(2, 45), (0, f + i), (0, h), (0, t), (0, (m + 1) + 8), (0, k + 1), (0, tat (h - way D i * 3 * k))]) dX8_endCost_90 rfl (Nat.le_of_ble_eq_true rfl) rfl rfl ?_
                      refine w_goto (tgt := 6) dX8_endCost_93 rfl ?_
                      refine Wp.fgl (ls' := [(2, 45), (0, f + i), (0, h), (0, t), (0, (m + 1) + 8), (0, k + 1), (9, 0)]) 6 rfl ?_
                      exact ih6 _ (by omega) ((m + 1) + 8) (k + 1) rfl (by first | omega | assumption) (by rw [ecs_s hk0.1]; unfold tco; unfold tat at *; omega)
                    · skip
                      refine w_iinc (ls' := [(2, 45), (0, f + i), (0, h), (0, t), (0, ((m + 1) + 8) + 8), (0, k), (0, tat (h - way D i * 3 * k))]) dX8_endCost_87 rfl (Nat.le_of_ble_eq_true rfl) rfl rfl ?_
                      refine w_iinc (ls' := [(2, 45), (0, f + i), (0, h), (0, t), (0, ((m + 1) + 8) + 8), (0, k + 1), (0, tat (h - way D i * 3 * k))]) dX8_endCost_90 rfl (Nat.le_of_ble_eq_true rfl) rfl rfl ?_
                      refine w_goto (tgt := 6) dX8_endCost_93 rfl ?_
                      refine Wp.fgl (ls' := [(2, 45), (0, f + i), (0, h), (0, t), (0, ((m + 1) + 8) + 8), (0, k + 1), (9, 0)]) 6 rfl ?_
                      exact ih6 _ (by omega) (((m + 1) + 8) + 8) (k + 1) rfl (by first | omega | assumption) (by rw [ecs_s hk0.1]; unfold tco; unfold tat at *; omega)
                · skip
                  refine w_iinc (ls' := [(2, 45), (0, f + i), (0, h), (0, t), (0, ((m + 1) + 8) + 25), (0, k), (0, tat (h - way D i * 3 * k))]) dX8_endCost_73 rfl (Nat.le_of_ble_eq_true rfl) rfl rfl ?_
                  refine w_iload dX8_endCost_76 rfl ?_
                  refine w_iconst dX8_endCost_78 ?_
                  refine w_icmp_ne (tgt := 90) dX8_endCost_79 rfl (R32.in (by omega)) (R32.in (by decide)) (fun c79 => ?_) (fun c79 => ?_)
                  · skip
                    refine w_iinc (ls' := [(2, 45), (0, f + i), (0, h), (0, t), (0, ((m + 1) + 8) + 25), (0, k + 1), (0, tat (h - way D i * 3 * k))]) dX8_endCost_90 rfl (Nat.le_of_ble_eq_true rfl) rfl rfl ?_
                    refine w_goto (tgt := 6) dX8_endCost_93 rfl ?_
                    refine Wp.fgl (ls' := [(2, 45), (0, f + i), (0, h), (0, t), (0, ((m + 1) + 8) + 25), (0, k + 1), (9, 0)]) 6 rfl ?_
                    exact ih6 _ (by omega) (((m + 1) + 8) + 25) (k + 1) rfl (by first | omega | assumption) (by rw [ecs_s hk0.1]; unfold tco; unfold tat at *; omega)
                  · skip
                    refine w_iload_n dX8_endCost_82 rfl rfl ?_
                    refine w_iload_n dX8_endCost_83 rfl rfl ?_
                    refine w_icmp_le (tgt := 90) dX8_endCost_84 rfl (R32.in (by omega)) (R32.in (by omega)) (fun c84 => ?_) (fun c84 => ?_)
                    · skip
                      refine w_iinc (ls' := [(2, 45), (0, f + i), (0, h), (0, t), (0, ((m + 1) + 8) + 25), (0, k + 1), (0, tat (h - way D i * 3 * k))]) dX8_endCost_90 rfl (Nat.le_of_ble_eq_true rfl) rfl rfl ?_
                      refine w_goto (tgt := 6) dX8_endCost_93 rfl ?_
                      refine Wp.fgl (ls' := [(2, 45), (0, f + i), (0, h), (0, t), (0, ((m + 1) + 8) + 25), (0, k + 1), (9, 0)]) 6 rfl ?_
                      exact ih6 _ (by omega) (((m + 1) + 8) + 25) (k + 1) rfl (by first | omega | assumption) (by rw [ecs_s hk0.1]; unfold tco; unfold tat at *; omega)
                    · skip
                      refine w_iinc (ls' := [(2, 45), (0, f + i), (0, h), (0, t), (0, (((m + 1) + 8) + 25) + 8), (0, k), (0, tat (h - way D i * 3 * k))]) dX8_endCost_87 rfl (Nat.le_of_ble_eq_true rfl) rfl rfl ?_
                      refine w_iinc (ls' := [(2, 45), (0, f + i), (0, h), (0, t), (0, (((m + 1) + 8) + 25) + 8), (0, k + 1), (0, tat (h - way D i * 3 * k))]) dX8_endCost_90 rfl (Nat.le_of_ble_eq_true rfl) rfl rfl ?_
                      refine w_goto (tgt := 6) dX8_endCost_93 rfl ?_
                      refine Wp.fgl (ls' := [(2, 45), (0, f + i), (0, h), (0, t), (0, (((m + 1) + 8) + 25) + 8), (0, k + 1), (9, 0)]) 6 rfl ?_
                      exact ih6 _ (by omega) ((((m + 1) + 8) + 25) + 8) (k + 1) rfl (by first | omega | assumption) (by rw [ecs_s hk0.1]; unfold tco; unfold tat at *; omega)
          · skip
            refine w_iconst dX8_endCost_45 ?_
            refine w_goto (tgt := 50) dX8_endCost_46 rfl ?_
            refine w_iadd dX8_endCost_50 ?_
            refine w_istore (ls' := [(2, 45), (0, f + i), (0, h), (0, t), (0, m + 2), (0, k), (0, tat (h - way D i * 3 * k))]) dX8_endCost_51 (Nat.le_of_ble_eq_true rfl) rfl rfl ?_
            refine w_iload dX8_endCost_53 rfl ?_
            refine w_iconst dX8_endCost_55 ?_
            refine w_icmp_ne (tgt := 67) dX8_endCost_56 rfl (R32.in (by omega)) (R32.in (by decide)) (fun c56 => ?_) (fun c56 => ?_)
            · skip
              refine w_iload dX8_endCost_67 rfl ?_
              refine w_iconst dX8_endCost_69 ?_
              refine w_icmp_ne (tgt := 76) dX8_endCost_70 rfl (R32.in (by omega)) (R32.in (by decide)) (fun c70 => ?_) (fun c70 => ?_)
              · skip
                refine w_iload dX8_endCost_76 rfl ?_
                refine w_iconst dX8_endCost_78 ?_
                refine w_icmp_ne (tgt := 90) dX8_endCost_79 rfl (R32.in (by omega)) (R32.in (by decide)) (fun c79 => ?_) (fun c79 => ?_)
                · skip
                  refine w_iinc (ls' := [(2, 45), (0, f + i), (0, h), (0, t), (0, m + 2), (0, k + 1), (0, tat (h - way D i * 3 * k))]) dX8_endCost_90 rfl (Nat.le_of_ble_eq_true rfl) rfl rfl ?_
                  refine w_goto (tgt := 6) dX8_endCost_93 rfl ?_
                  refine Wp.fgl (ls' := [(2, 45), (0, f + i), (0, h), (0, t), (0, m + 2), (0, k + 1), (9, 0)]) 6 rfl ?_
                  exact ih6 _ (by omega) (m + 2) (k + 1) rfl (by first | omega | assumption) (by rw [ecs_s hk0.1]; unfold tco; unfold tat at *; omega)
                · skip
                  refine w_iload_n dX8_endCost_82 rfl rfl ?_
                  refine w_iload_n dX8_endCost_83 rfl rfl ?_
                  refine w_icmp_le (tgt := 90) dX8_endCost_84 rfl (R32.in (by omega)) (R32.in (by omega)) (fun c84 => ?_) (fun c84 => ?_)
                  · skip
                    refine w_iinc (ls' := [(2, 45), (0, f + i), (0, h), (0, t), (0, m + 2), (0, k + 1), (0, tat (h - way D i * 3 * k))]) dX8_endCost_90 rfl (Nat.le_of_ble_eq_true rfl) rfl rfl ?_
                    refine w_goto (tgt := 6) dX8_endCost_93 rfl ?_
                    refine Wp.fgl (ls' := [(2, 45), (0, f + i), (0, h), (0, t), (0, m + 2), (0, k + 1), (9, 0)]) 6 rfl ?_
                    exact ih6 _ (by omega) (m + 2) (k + 1) rfl (by first | omega | assumption) (by rw [ecs_s hk0.1]; unfold tco; unfold tat at *; omega)
                  · skip
                    refine w_iinc (ls' := [(2, 45), (0, f + i), (0, h), (0, t), (0, (m + 2) + 8), (0, k), (0, tat (h - way D i * 3 * k))]) dX8_endCost_87 rfl (Nat.le_of_ble_eq_true rfl) rfl rfl ?_
                    refine w_iinc (ls' := [(2, 45), (0, f + i), (0, h), (0, t), (0, (m + 2) + 8), (0, k + 1), (0, tat (h - way D i * 3 * k))]) dX8_endCost_90 rfl (Nat.le_of_ble_eq_true rfl) rfl rfl ?_
                    refine w_goto (tgt := 6) dX8_endCost_93 rfl ?_
                    refine Wp.fgl (ls' := [(2, 45), (0, f + i), (0, h), (0, t), (0, (m + 2) + 8), (0, k + 1), (9, 0)]) 6 rfl ?_
                    exact ih6 _ (by omega) ((m + 2) + 8) (k + 1) rfl (by first | omega | assumption) (by rw [ecs_s hk0.1]; unfold tco; unfold tat at *; omega)
              · skip
                refine w_iinc (ls' := [(2, 45), (0, f + i), (0, h), (0, t), (0, (m + 2) + 25), (0, k), (0, tat (h - way D i * 3 * k))]) dX8_endCost_73 rfl (Nat.le_of_ble_eq_true rfl) rfl rfl ?_
                refine w_iload dX8_endCost_76 rfl ?_
                refine w_iconst dX8_endCost_78 ?_
                refine w_icmp_ne (tgt := 90) dX8_endCost_79 rfl (R32.in (by omega)) (R32.in (by decide)) (fun c79 => ?_) (fun c79 => ?_)
                · skip
                  refine w_iinc (ls' := [(2, 45), (0, f + i), (0, h), (0, t), (0, (m + 2) + 25), (0, k + 1), (0, tat (h - way D i * 3 * k))]) dX8_endCost_90 rfl (Nat.le_of_ble_eq_true rfl) rfl rfl ?_
                  refine w_goto (tgt := 6) dX8_endCost_93 rfl ?_
                  refine Wp.fgl (ls' := [(2, 45), (0, f + i), (0, h), (0, t), (0, (m + 2) + 25), (0, k + 1), (9, 0)]) 6 rfl ?_
                  exact ih6 _ (by omega) ((m + 2) + 25) (k + 1) rfl (by first | omega | assumption) (by rw [ecs_s hk0.1]; unfold tco; unfold tat at *; omega)
                · skip
                  refine w_iload_n dX8_endCost_82 rfl rfl ?_
                  refine w_iload_n dX8_endCost_83 rfl rfl ?_
                  refine w_icmp_le (tgt := 90) dX8_endCost_84 rfl (R32.in (by omega)) (R32.in (by omega)) (fun c84 => ?_) (fun c84 => ?_)
                  · skip
                    refine w_iinc (ls' := [(2, 45), (0, f + i), (0, h), (0, t), (0, (m + 2) + 25), (0, k + 1), (0, tat (h - way D i * 3 * k))]) dX8_endCost_90 rfl (Nat.le_of_ble_eq_true rfl) rfl rfl ?_
                    refine w_goto (tgt := 6) dX8_endCost_93 rfl ?_
                    refine Wp.fgl (ls' := [(2, 45), (0, f + i), (0, h), (0, t), (0, (m + 2) + 25), (0, k + 1), (9, 0)]) 6 rfl ?_
                    exact ih6 _ (by omega) ((m + 2) + 25) (k + 1) rfl (by first | omega | assumption) (by rw [ecs_s hk0.1]; unfold tco; unfold tat at *; omega)
                  · skip
                    refine w_iinc (ls' := [(2, 45), (0, f + i), (0, h), (0, t), (0, ((m + 2) + 25) + 8), (0, k), (0, tat (h - way D i * 3 * k))]) dX8_endCost_87 rfl (Nat.le_of_ble_eq_true rfl) rfl rfl ?_
                    refine w_iinc (ls' := [(2, 45), (0, f + i), (0, h), (0, t), (0, ((m + 2) + 25) + 8), (0, k + 1), (0, tat (h - way D i * 3 * k))]) dX8_endCost_90 rfl (Nat.le_of_ble_eq_true rfl) rfl rfl ?_
                    refine w_goto (tgt := 6) dX8_endCost_93 rfl ?_
                    refine Wp.fgl (ls' := [(2, 45), (0, f + i), (0, h), (0, t), (0, ((m + 2) + 25) + 8), (0, k + 1), (9, 0)]) 6 rfl ?_
                    exact ih6 _ (by omega) (((m + 2) + 25) + 8) (k + 1) rfl (by first | omega | assumption) (by rw [ecs_s hk0.1]; unfold tco; unfold tat at *; omega)
            · skip
              refine w_iload_n dX8_endCost_59 rfl rfl ?_
              refine w_iload_n dX8_endCost_60 rfl rfl ?_
              refine w_icmp_ge (tgt := 67) dX8_endCost_61 rfl (R32.in (by omega)) (R32.in (by omega)) (fun c61 => ?_) (fun c61 => ?_)
              · skip
                refine w_iload dX8_endCost_67 rfl ?_
                refine w_iconst dX8_endCost_69 ?_
                refine w_icmp_ne (tgt := 76) dX8_endCost_70 rfl (R32.in (by omega)) (R32.in (by decide)) (fun c70 => ?_) (fun c70 => ?_)
                · skip
                  refine w_iload dX8_endCost_76 rfl ?_
                  refine w_iconst dX8_endCost_78 ?_
                  refine w_icmp_ne (tgt := 90) dX8_endCost_79 rfl (R32.in (by omega)) (R32.in (by decide)) (fun c79 => ?_) (fun c79 => ?_)
                  · skip
                    refine w_iinc (ls' := [(2, 45), (0, f + i), (0, h), (0, t), (0, m + 2), (0, k + 1), (0, tat (h - way D i * 3 * k))]) dX8_endCost_90 rfl (Nat.le_of_ble_eq_true rfl) rfl rfl ?_
                    refine w_goto (tgt := 6) dX8_endCost_93 rfl ?_
                    refine Wp.fgl (ls' := [(2, 45), (0, f + i), (0, h), (0, t), (0, m + 2), (0, k + 1), (9, 0)]) 6 rfl ?_
                    exact ih6 _ (by omega) (m + 2) (k + 1) rfl (by first | omega | assumption) (by rw [ecs_s hk0.1]; unfold tco; unfold tat at *; omega)
                  · skip
                    refine w_iload_n dX8_endCost_82 rfl rfl ?_
                    refine w_iload_n dX8_endCost_83 rfl rfl ?_
                    refine w_icmp_le (tgt := 90) dX8_endCost_84 rfl (R32.in (by omega)) (R32.in (by omega)) (fun c84 => ?_) (fun c84 => ?_)
                    · skip
                      refine w_iinc (ls' := [(2, 45), (0, f + i), (0, h), (0, t), (0, m + 2), (0, k + 1), (0, tat (h - way D i * 3 * k))]) dX8_endCost_90 rfl (Nat.le_of_ble_eq_true rfl) rfl rfl ?_
                      refine w_goto (tgt := 6) dX8_endCost_93 rfl ?_
                      refine Wp.fgl (ls' := [(2, 45), (0, f + i), (0, h), (0, t), (0, m + 2), (0, k + 1), (9, 0)]) 6 rfl ?_
                      exact ih6 _ (by omega) (m + 2) (k + 1) rfl (by first | omega | assumption) (by rw [ecs_s hk0.1]; unfold tco; unfold tat at *; omega)
                    · skip
                      refine w_iinc (ls' := [(2, 45), (0, f + i), (0, h), (0, t), (0, (m + 2) + 8), (0, k), (0, tat (h - way D i * 3 * k))]) dX8_endCost_87 rfl (Nat.le_of_ble_eq_true rfl) rfl rfl ?_
                      refine w_iinc (ls' := [(2, 45), (0, f + i), (0, h), (0, t), (0, (m + 2) + 8), (0, k + 1), (0, tat (h - way D i * 3 * k))]) dX8_endCost_90 rfl (Nat.le_of_ble_eq_true rfl) rfl rfl ?_
                      refine w_goto (tgt := 6) dX8_endCost_93 rfl ?_
                      refine Wp.fgl (ls' := [(2, 45), (0, f + i), (0, h), (0, t), (0, (m + 2) + 8), (0, k + 1), (9, 0)]) 6 rfl ?_
                      exact ih6 _ (by omega) ((m + 2) + 8) (k + 1) rfl (by first | omega | assumption) (by rw [ecs_s hk0.1]; unfold tco; unfold tat at *; omega)
                · skip
                  refine w_iinc (ls' := [(2, 45), (0, f + i), (0, h), (0, t), (0, (m + 2) + 25), (0, k), (0, tat (h - way D i * 3 * k))]) dX8_endCost_73 rfl (Nat.le_of_ble_eq_true rfl) rfl rfl ?_
                  refine w_iload dX8_endCost_76 rfl ?_
                  refine w_iconst dX8_endCost_78 ?_
                  refine w_icmp_ne (tgt := 90) dX8_endCost_79 rfl (R32.in (by omega)) (R32.in (by decide)) (fun c79 => ?_) (fun c79 => ?_)
                  · skip
                    refine w_iinc (ls' := [(2, 45), (0, f + i), (0, h), (0, t), (0, (m + 2) + 25), (0, k + 1), (0, tat (h - way D i * 3 * k))]) dX8_endCost_90 rfl (Nat.le_of_ble_eq_true rfl) rfl rfl ?_
                    refine w_goto (tgt := 6) dX8_endCost_93 rfl ?_
                    refine Wp.fgl (ls' := [(2, 45), (0, f + i), (0, h), (0, t), (0, (m + 2) + 25), (0, k + 1), (9, 0)]) 6 rfl ?_
                    exact ih6 _ (by omega) ((m + 2) + 25) (k + 1) rfl (by first | omega | assumption) (by rw [ecs_s hk0.1]; unfold tco; unfold tat at *; omega)
                  · skip
                    refine w_iload_n dX8_endCost_82 rfl rfl ?_
                    refine w_iload_n dX8_endCost_83 rfl rfl ?_
                    refine w_icmp_le (tgt := 90) dX8_endCost_84 rfl (R32.in (by omega)) (R32.in (by omega)) (fun c84 => ?_) (fun c84 => ?_)
                    · skip
                      refine w_iinc (ls' := [(2, 45), (0, f + i), (0, h), (0, t), (0, (m + 2) + 25), (0, k + 1), (0, tat (h - way D i * 3 * k))]) dX8_endCost_90 rfl (Nat.le_of_ble_eq_true rfl) rfl rfl ?_
                      refine w_goto (tgt := 6) dX8_endCost_93 rfl ?_
                      refine Wp.fgl (ls' := [(2, 45), (0, f + i), (0, h), (0, t), (0, (m + 2) + 25), (0, k + 1), (9, 0)]) 6 rfl ?_
                      exact ih6 _ (by omega) ((m + 2) + 25) (k + 1) rfl (by first | omega | assumption) (by rw [ecs_s hk0.1]; unfold tco; unfold tat at *; omega)
                    · skip
                      refine w_iinc (ls' := [(2, 45), (0, f + i), (0, h), (0, t), (0, ((m + 2) + 25) + 8), (0, k), (0, tat (h - way D i * 3 * k))]) dX8_endCost_87 rfl (Nat.le_of_ble_eq_true rfl) rfl rfl ?_
                      refine w_iinc (ls' := [(2, 45), (0, f + i), (0, h), (0, t), (0, ((m + 2) + 25) + 8), (0, k + 1), (0, tat (h - way D i * 3 * k))]) dX8_endCost_90 rfl (Nat.le_of_ble_eq_true rfl) rfl rfl ?_
                      refine w_goto (tgt := 6) dX8_endCost_93 rfl ?_
                      refine Wp.fgl (ls' := [(2, 45), (0, f + i), (0, h), (0, t), (0, ((m + 2) + 25) + 8), (0, k + 1), (9, 0)]) 6 rfl ?_
                      exact ih6 _ (by omega) (((m + 2) + 25) + 8) (k + 1) rfl (by first | omega | assumption) (by rw [ecs_s hk0.1]; unfold tco; unfold tat at *; omega)
              · skip
                refine w_iinc (ls' := [(2, 45), (0, f + i), (0, h), (0, t), (0, (m + 2) + 8), (0, k), (0, tat (h - way D i * 3 * k))]) dX8_endCost_64 rfl (Nat.le_of_ble_eq_true rfl) rfl rfl ?_
                refine w_iload dX8_endCost_67 rfl ?_
                refine w_iconst dX8_endCost_69 ?_
                refine w_icmp_ne (tgt := 76) dX8_endCost_70 rfl (R32.in (by omega)) (R32.in (by decide)) (fun c70 => ?_) (fun c70 => ?_)
                · skip
                  refine w_iload dX8_endCost_76 rfl ?_
                  refine w_iconst dX8_endCost_78 ?_
                  refine w_icmp_ne (tgt := 90) dX8_endCost_79 rfl (R32.in (by omega)) (R32.in (by decide)) (fun c79 => ?_) (fun c79 => ?_)
                  · skip
                    refine w_iinc (ls' := [(2, 45), (0, f + i), (0, h), (0, t), (0, (m + 2) + 8), (0, k + 1), (0, tat (h - way D i * 3 * k))]) dX8_endCost_90 rfl (Nat.le_of_ble_eq_true rfl) rfl rfl ?_
                    refine w_goto (tgt := 6) dX8_endCost_93 rfl ?_
                    refine Wp.fgl (ls' := [(2, 45), (0, f + i), (0, h), (0, t), (0, (m + 2) + 8), (0, k + 1), (9, 0)]) 6 rfl ?_
                    exact ih6 _ (by omega) ((m + 2) + 8) (k + 1) rfl (by first | omega | assumption) (by rw [ecs_s hk0.1]; unfold tco; unfold tat at *; omega)
                  · skip
                    refine w_iload_n dX8_endCost_82 rfl rfl ?_
                    refine w_iload_n dX8_endCost_83 rfl rfl ?_
                    refine w_icmp_le (tgt := 90) dX8_endCost_84 rfl (R32.in (by omega)) (R32.in (by omega)) (fun c84 => ?_) (fun c84 => ?_)
                    · skip
                      refine w_iinc (ls' := [(2, 45), (0, f + i), (0, h), (0, t), (0, (m + 2) + 8), (0, k + 1), (0, tat (h - way D i * 3 * k))]) dX8_endCost_90 rfl (Nat.le_of_ble_eq_true rfl) rfl rfl ?_
                      refine w_goto (tgt := 6) dX8_endCost_93 rfl ?_
                      refine Wp.fgl (ls' := [(2, 45), (0, f + i), (0, h), (0, t), (0, (m + 2) + 8), (0, k + 1), (9, 0)]) 6 rfl ?_
                      exact ih6 _ (by omega) ((m + 2) + 8) (k + 1) rfl (by first | omega | assumption) (by rw [ecs_s hk0.1]; unfold tco; unfold tat at *; omega)
                    · skip
                      refine w_iinc (ls' := [(2, 45), (0, f + i), (0, h), (0, t), (0, ((m + 2) + 8) + 8), (0, k), (0, tat (h - way D i * 3 * k))]) dX8_endCost_87 rfl (Nat.le_of_ble_eq_true rfl) rfl rfl ?_
                      refine w_iinc (ls' := [(2, 45), (0, f + i), (0, h), (0, t), (0, ((m + 2) + 8) + 8), (0, k + 1), (0, tat (h - way D i * 3 * k))]) dX8_endCost_90 rfl (Nat.le_of_ble_eq_true rfl) rfl rfl ?_
                      refine w_goto (tgt := 6) dX8_endCost_93 rfl ?_
                      refine Wp.fgl (ls' := [(2, 45), (0, f + i), (0, h), (0, t), (0, ((m + 2) + 8) + 8), (0, k + 1), (9, 0)]) 6 rfl ?_
                      exact ih6 _ (by omega) (((m + 2) + 8) + 8) (k + 1) rfl (by first | omega | assumption) (by rw [ecs_s hk0.1]; unfold tco; unfold tat at *; omega)
                · skip
                  refine w_iinc (ls' := [(2, 45), (0, f + i), (0, h), (0, t), (0, ((m + 2) + 8) + 25), (0, k), (0, tat (h - way D i * 3 * k))]) dX8_endCost_73 rfl (Nat.le_of_ble_eq_true rfl) rfl rfl ?_
                  refine w_iload dX8_endCost_76 rfl ?_
                  refine w_iconst dX8_endCost_78 ?_
                  refine w_icmp_ne (tgt := 90) dX8_endCost_79 rfl (R32.in (by omega)) (R32.in (by decide)) (fun c79 => ?_) (fun c79 => ?_)
                  · skip
                    refine w_iinc (ls' := [(2, 45), (0, f + i), (0, h), (0, t), (0, ((m + 2) + 8) + 25), (0, k + 1), (0, tat (h - way D i * 3 * k))]) dX8_endCost_90 rfl (Nat.le_of_ble_eq_true rfl) rfl rfl ?_
                    refine w_goto (tgt := 6) dX8_endCost_93 rfl ?_
                    refine Wp.fgl (ls' := [(2, 45), (0, f + i), (0, h), (0, t), (0, ((m + 2) + 8) + 25), (0, k + 1), (9, 0)]) 6 rfl ?_
                    exact ih6 _ (by omega) (((m + 2) + 8) + 25) (k + 1) rfl (by first | omega | assumption) (by rw [ecs_s hk0.1]; unfold tco; unfold tat at *; omega)
                  · skip
                    refine w_iload_n dX8_endCost_82 rfl rfl ?_
                    refine w_iload_n dX8_endCost_83 rfl rfl ?_
                    refine w_icmp_le (tgt := 90) dX8_endCost_84 rfl (R32.in (by omega)) (R32.in (by omega)) (fun c84 => ?_) (fun c84 => ?_)
                    · skip
                      refine w_iinc (ls' := [(2, 45), (0, f + i), (0, h), (0, t), (0, ((m + 2) + 8) + 25), (0, k + 1), (0, tat (h - way D i * 3 * k))]) dX8_endCost_90 rfl (Nat.le_of_ble_eq_true rfl) rfl rfl ?_
                      refine w_goto (tgt := 6) dX8_endCost_93 rfl ?_
                      refine Wp.fgl (ls' := [(2, 45), (0, f + i), (0, h), (0, t), (0, ((m + 2) + 8) + 25), (0, k + 1), (9, 0)]) 6 rfl ?_
                      exact ih6 _ (by omega) (((m + 2) + 8) + 25) (k + 1) rfl (by first | omega | assumption) (by rw [ecs_s hk0.1]; unfold tco; unfold tat at *; omega)
                    · skip
                      refine w_iinc (ls' := [(2, 45), (0, f + i), (0, h), (0, t), (0, (((m + 2) + 8) + 25) + 8), (0, k), (0, tat (h - way D i * 3 * k))]) dX8_endCost_87 rfl (Nat.le_of_ble_eq_true rfl) rfl rfl ?_
                      refine w_iinc (ls' := [(2, 45), (0, f + i), (0, h), (0, t), (0, (((m + 2) + 8) + 25) + 8), (0, k + 1), (0, tat (h - way D i * 3 * k))]) dX8_endCost_90 rfl (Nat.le_of_ble_eq_true rfl) rfl rfl ?_
                      refine w_goto (tgt := 6) dX8_endCost_93 rfl ?_
                      refine Wp.fgl (ls' := [(2, 45), (0, f + i), (0, h), (0, t), (0, (((m + 2) + 8) + 25) + 8), (0, k + 1), (9, 0)]) 6 rfl ?_
                      exact ih6 _ (by omega) ((((m + 2) + 8) + 25) + 8) (k + 1) rfl (by first | omega | assumption) (by rw [ecs_s hk0.1]; unfold tco; unfold tat at *; omega)
  exact hL6 _ 0 0 rfl (by first | omega | assumption) rfl

set_option maxRecDepth 100000 in
set_option maxHeartbeats 4000000 in
theorem s_X8_staffOf (X : AX) (D : GDt) (f : Int) (l : Int) (r : Int) (μ : Mu) (hG : RO D f μ) (hlr : (-60 ≤ l ∧ l ≤ 60) ∧ (-60 ≤ r ∧ r ≤ 60) ∧ (-8 ≤ r - l ∧ r - l ≤ 8)) : Wp (GG X) M_X8_staffOf 0 [(2, 45), (0, l), (0, r)] [] μ (pP 0 (stf D (r - l) l) μ) := by
  have hok := hG.ok
  have hn := hok.n
  have hfr := hG.r
  refine w_aload_n dX8_staffOf_0 rfl rfl (by first | decide | omega) ?_
  refine w_aload_n dX8_staffOf_1 rfl rfl (by first | decide | omega) ?_
  refine w_getIx (o := 45) (f := 22) (x := f) fX8_staffOf_2 rfl rfl (Nat.le_of_ble_eq_true rfl) rfl hG.fi ?_
  refine Wp.topE (b := f + 0) (by omega) ?_
  refine w_iload_n dX8_staffOf_5 rfl rfl ?_
  refine w_iload_n dX8_staffOf_6 rfl rfl ?_
  refine w_callVP (o := 45) (ci := 8) (as := [(0, f + 0), (0, l), (0, r)]) (rest := []) (k := 3) fX8_staffOf_7 rfl rfl rfl rfl rfl rfl rfl rfl (Nat.le_of_ble_eq_true rfl) (s_X8_endCost X D f 0 l r μ hG (by first | omega | assumption) (by first | omega | assumption) (by first | omega | assumption)) ?_
  have hf1 := eco_fr D 0 l (r - l) (by assumption) (by omega)
  refine w_aload_n dX8_staffOf_10 rfl rfl (by first | decide | omega) ?_
  refine w_aload_n dX8_staffOf_11 rfl rfl (by first | decide | omega) ?_
  refine w_getIx (o := 45) (f := 23) (x := f + (dN D - 1)) fX8_staffOf_12 rfl rfl (Nat.le_of_ble_eq_true rfl) rfl hG.la ?_
  have hr2 := (hG.ok).n
  refine w_iload_n dX8_staffOf_15 rfl rfl ?_
  refine w_iload_n dX8_staffOf_16 rfl rfl ?_
  refine w_callVP (o := 45) (ci := 8) (as := [(0, f + (dN D - 1)), (0, r), (0, l)]) (rest := [(0, eco D 0 l (r - l))]) (k := 3) fX8_staffOf_17 rfl rfl rfl rfl rfl rfl rfl rfl (Nat.le_of_ble_eq_true rfl) (s_X8_endCost X D f (dN D - 1) r l μ hG (by first | omega | assumption) (by first | omega | assumption) (by first | omega | assumption)) ?_
  have hf3 := eco_fr D (dN D - 1) r (l - r) (by assumption) (by omega)
  refine w_iadd dX8_staffOf_20 ?_
  exact w_iretP dX8_staffOf_21 rfl (by unfold stf; rw [show l + (r - l) = r by omega, show -(r - l) = l - r by omega])

set_option maxRecDepth 100000 in
set_option maxHeartbeats 4000000 in
theorem s_X8_uglinessOf (X : AX) (D : GDt) (f : Int) (l : Int) (r : Int) (μ : Mu) (hG : RO D f μ) (hlr : (-60 ≤ l ∧ l ≤ 60) ∧ (-60 ≤ r ∧ r ≤ 60) ∧ (-8 ≤ r - l ∧ r - l ≤ 8)) : Wp (GG X) M_X8_uglinessOf 0 [(2, 45), (0, l), (0, r)] [] μ (pP 0 (ugl D (r - l) l) μ) := by
  have hok := hG.ok
  have hn := hok.n
  have hfr := hG.r
  refine w_aload_n dX8_uglinessOf_0 rfl rfl (by first | decide | omega) ?_
  refine w_iload_n dX8_uglinessOf_1 rfl rfl ?_
  refine w_iload_n dX8_uglinessOf_2 rfl rfl ?_
  refine w_callVP (o := 45) (ci := 8) (as := [(0, l), (0, r)]) (rest := []) (k := 3) fX8_uglinessOf_3 rfl rfl rfl rfl rfl rfl rfl rfl (Nat.le_of_ble_eq_true rfl) (s_X8_stemsOf X D f l r μ hG (by first | omega | assumption)) ?_
  have hf1 := stm_f D (r - l) l (by assumption) (by omega) (by omega)
  refine w_aload_n dX8_uglinessOf_6 rfl rfl (by first | decide | omega) ?_
  refine w_iload_n dX8_uglinessOf_7 rfl rfl ?_
  refine w_iload_n dX8_uglinessOf_8 rfl rfl ?_
  refine w_callVP (o := 45) (ci := 8) (as := [(0, l), (0, r)]) (rest := [(0, stm D (r - l) l)]) (k := 3) fX8_uglinessOf_9 rfl rfl rfl rfl rfl rfl rfl rfl (Nat.le_of_ble_eq_true rfl) (s_X8_slopeOf X D f l r μ hG (by first | omega | assumption)) ?_
  have hf2 := slp_f D (r - l) (by omega)
  refine w_iadd dX8_uglinessOf_12 ?_
  refine w_aload_n dX8_uglinessOf_13 rfl rfl (by first | decide | omega) ?_
  refine w_iload_n dX8_uglinessOf_14 rfl rfl ?_
  refine w_iload_n dX8_uglinessOf_15 rfl rfl ?_
  refine w_callVP (o := 45) (ci := 8) (as := [(0, l), (0, r)]) (rest := [(0, (stm D (r - l) l) + (slp D (r - l)))]) (k := 0) fX8_uglinessOf_16 rfl rfl rfl rfl rfl rfl rfl rfl (Nat.le_of_ble_eq_true rfl) (s_X8_staffOf X D f l r μ hG (by first | omega | assumption)) ?_
  have hf3 := stf_f D (r - l) l (by assumption)
  refine w_iadd dX8_uglinessOf_19 ?_
  exact w_iretP dX8_uglinessOf_20 rfl (by rfl)

set_option maxRecDepth 100000 in
set_option maxHeartbeats 4000000 in
theorem s_X8_lengthsOf (X : AX) (D : GDt) (f : Int) (l : Int) (r : Int) (μ : Mu) (hG : RO D f μ) (hlr : (-60 ≤ l ∧ l ≤ 60) ∧ (-60 ≤ r ∧ r ≤ 60) ∧ (-8 ≤ r - l ∧ r - l ≤ 8)) : Wp (GG X) M_X8_lengthsOf 0 [(2, 45), (0, l), (0, r), (9, 0), (9, 0)] [] μ (pP 0 (lns D (r - l) l) μ) := by
  have hok := hG.ok
  have hn := hok.n
  have hfr := hG.r
  refine w_iconst dX8_lengthsOf_0 ?_
  refine w_istore_n (ls' := [(2, 45), (0, l), (0, r), (0, 0), (9, 0)]) dX8_lengthsOf_1 rfl (Nat.le_of_ble_eq_true rfl) rfl rfl ?_
  refine w_aload_n dX8_lengthsOf_2 rfl rfl (by first | decide | omega) ?_
  refine w_getIx (o := 45) (f := 22) (x := f) fX8_lengthsOf_3 rfl rfl (Nat.le_of_ble_eq_true rfl) rfl hG.fi ?_
  refine w_istore (ls' := [(2, 45), (0, l), (0, r), (0, 0), (0, f)]) dX8_lengthsOf_6 (Nat.le_of_ble_eq_true rfl) rfl rfl ?_
  have hL8 : ∀ (n8 : Nat) (m : Int) (i : Int), (dN D - i).toNat = n8 → (0 ≤ i ∧ i ≤ dN D) → (m = bsu D (r - l) i + wsu D i * l * spn D) → Wp (GG X) M_X8_lengthsOf 8 [(2, 45), (0, l), (0, r), (0, m), (0, f + i)] [] μ (pP 0 (lns D (r - l) l) μ) := by
    intro n8
    induction n8 using Nat.strongRecOn with
    | ind n8 ih8 =>
      intro m i hn8 hi0 hm
      have hmr := lnsr_i hok hi0 hlr
      refine w_iload dX8_lengthsOf_8 rfl ?_
      refine w_aload_n dX8_lengthsOf_10 rfl rfl (by first | decide | omega) ?_
      refine w_getIx (o := 45) (f := 23) (x := f + (dN D - 1)) fX8_lengthsOf_11 rfl rfl (Nat.le_of_ble_eq_true rfl) rfl hG.la ?_
      have hr1 := (hG.ok).n
      refine w_icmp_gt (tgt := 34) dX8_lengthsOf_14 rfl (R32.in (by omega)) (R32.in (by omega)) (fun c14 => ?_) (fun c14 => ?_)
      · skip
        refine w_iload_n dX8_lengthsOf_34 rfl rfl ?_
        exact w_iretP dX8_lengthsOf_35 rfl (by have he : i = dN D := (by omega); subst he; exact hm)
      · skip
        refine w_iload_n dX8_lengthsOf_17 rfl rfl ?_
        refine w_aload_n dX8_lengthsOf_18 rfl rfl (by first | decide | omega) ?_
        refine w_iload dX8_lengthsOf_19 rfl ?_
        refine w_iload_n dX8_lengthsOf_21 rfl rfl ?_
        refine w_iload_n dX8_lengthsOf_22 rfl rfl ?_
        refine w_callVP (o := 45) (ci := 8) (as := [(0, f + i), (0, l), (0, r)]) (rest := [(0, m)]) (k := 1) fX8_lengthsOf_23 rfl rfl rfl rfl rfl rfl rfl rfl (Nat.le_of_ble_eq_true rfl) (s_X8_lengthAt X D f i l r μ hG (by first | omega | assumption) (by first | omega | assumption)) ?_
        have hf2 := len_fr D l r i (by assumption) (by omega) (by omega)
        refine w_iadd dX8_lengthsOf_26 ?_
        refine w_istore_n (ls' := [(2, 45), (0, l), (0, r), (0, m + (len D (r - l) l i)), (0, f + i)]) dX8_lengthsOf_27 rfl (Nat.le_of_ble_eq_true rfl) rfl rfl ?_
        refine w_iinc (ls' := [(2, 45), (0, l), (0, r), (0, m + (len D (r - l) l i)), (0, (f + i) + 1)]) dX8_lengthsOf_28 rfl (Nat.le_of_ble_eq_true rfl) rfl rfl ?_
        refine w_goto (tgt := 8) dX8_lengthsOf_31 rfl ?_
        refine Wp.lcg (t := 0) (a := (f + i) + 1) (b := f + (i + 1)) (ls' := [(2, 45), (0, l), (0, r), (0, m + (len D (r - l) l i)), (0, f + (i + 1))]) 4 (by omega) rfl rfl ?_
        exact ih8 _ (by omega) (m + (len D (r - l) l i)) (i + 1) rfl (by first | omega | assumption) (by rw [bsu_s hi0.1, wsu_s hi0.1, Int.add_mul, Int.add_mul]; unfold len; omega)
  refine Wp.lcg (t := 0) (a := f) (b := f + 0) (ls' := [(2, 45), (0, l), (0, r), (0, 0), (0, f + 0)]) 4 (by omega) rfl rfl ?_
  exact hL8 _ 0 0 rfl (by first | omega | assumption) (by rw [show wsu D 0 = 0 from rfl, Int.zero_mul, Int.zero_mul]; rfl)
