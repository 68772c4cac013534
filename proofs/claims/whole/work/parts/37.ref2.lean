set_option maxRecDepth 100000 in
set_option maxHeartbeats 4000000 in
theorem s_X8_heightAt (X : AX) (D : GDt) (f : Int) (i : Int) (l : Int) (r : Int) (μ : Mu) (hG : RO D f μ) (hi : 0 ≤ i ∧ i < dN D) (hlr : (-60 ≤ l ∧ l ≤ 60) ∧ (-60 ≤ r ∧ r ≤ 60) ∧ (-8 ≤ r - l ∧ r - l ≤ 8)) : Wp (GG X) M_X8_heightAt 0 [(2, 45), (0, f + i), (0, l), (0, r), (9, 0)] [] μ (pP 0 (l * (spn D - dX D i) + r * dX D i) μ) := by
  have hok := hG.ok
  have hn := hok.n
  have hfr := hG.r
  have hsp := hok.sp
  have hx := hG.rw.x hi
  have hxs := hok.xs hi
  have hhg := hgt_fr D l r i hok hi hlr
  refine w_aload_n dX8_heightAt_0 rfl rfl (by first | decide | omega) ?_
  refine w_getR (o := 45) (x := 52) fX8_heightAt_1 rfl rfl rfl rfl ?_
  refine w_iload_n dX8_heightAt_4 rfl rfl ?_
  refine w_ialdx (o := 52) (n := 64) (x := μ 52 (f + i)) dX8_heightAt_5 rfl rfl (Nat.le_of_ble_eq_true rfl) (by omega) rfl ?_
  have hr1 := (hG.ok).xs (i := i) (by omega)
  refine w_aload_n dX8_heightAt_6 rfl rfl (by first | decide | omega) ?_
  refine w_getR (o := 45) (x := 52) fX8_heightAt_7 rfl rfl rfl rfl ?_
  refine w_aload_n dX8_heightAt_10 rfl rfl (by first | decide | omega) ?_
  refine w_getIx (o := 45) (f := 22) (x := f) fX8_heightAt_11 rfl rfl (Nat.le_of_ble_eq_true rfl) rfl hG.fi ?_
  refine w_ialdx (o := 52) (n := 64) (x := μ 52 f) dX8_heightAt_14 rfl rfl (Nat.le_of_ble_eq_true rfl) (by omega) rfl ?_
  have hr2 := (hG.ok).xs (i := 0) (by omega)
  refine w_isub dX8_heightAt_15 ?_
  refine Wp.topE (b := dX D i) hx ?_
  refine w_istore (ls' := [(2, 45), (0, f + i), (0, l), (0, r), (0, dX D i)]) dX8_heightAt_16 (Nat.le_of_ble_eq_true rfl) rfl rfl ?_
  refine w_iload_n dX8_heightAt_18 rfl rfl ?_
  refine w_aload_n dX8_heightAt_19 rfl rfl (by first | decide | omega) ?_
  refine w_getIx (o := 45) (f := 24) (x := spn D) fX8_heightAt_20 rfl rfl (Nat.le_of_ble_eq_true rfl) rfl hG.sp ?_
  have hr3 := (hG.ok).sp
  refine w_iload dX8_heightAt_23 rfl ?_
  refine w_isub dX8_heightAt_25 ?_
  refine w_imul dX8_heightAt_26 ?_
  refine w_iload_n dX8_heightAt_27 rfl rfl ?_
  refine w_iload dX8_heightAt_28 rfl ?_
  refine w_imul dX8_heightAt_30 ?_
  refine w_iadd dX8_heightAt_31 ?_
  exact w_iretP dX8_heightAt_32 rfl (by rfl)

set_option maxRecDepth 100000 in
set_option maxHeartbeats 4000000 in
theorem s_X8_lengthAt (X : AX) (D : GDt) (f : Int) (i : Int) (l : Int) (r : Int) (μ : Mu) (hG : RO D f μ) (hi : 0 ≤ i ∧ i < dN D) (hlr : (-60 ≤ l ∧ l ≤ 60) ∧ (-60 ≤ r ∧ r ≤ 60) ∧ (-8 ≤ r - l ∧ r - l ≤ 8)) : Wp (GG X) M_X8_lengthAt 0 [(2, 45), (0, f + i), (0, l), (0, r), (9, 0)] [] μ (pP 0 (len D (r - l) l i) μ) := by
  have hok := hG.ok
  have hn := hok.n
  have hfr := hG.r
  have hsp := hok.sp
  have hhg := hgt_fr D l r i hok hi hlr
  have hhr := hok.hr hi
  have hm := am_mul_b (a := 2 * dH D i) (b := spn D) (A := 24) (B := 2520) (by omega) (by omega)
  refine w_aload_n dX8_lengthAt_0 rfl rfl (by first | decide | omega) ?_
  refine w_iload_n dX8_lengthAt_1 rfl rfl ?_
  refine w_iload_n dX8_lengthAt_2 rfl rfl ?_
  refine w_iload_n dX8_lengthAt_3 rfl rfl ?_
  refine w_callVP (o := 45) (ci := 8) (as := [(0, f + i), (0, l), (0, r)]) (rest := []) (k := 1) fX8_lengthAt_4 rfl rfl rfl rfl rfl rfl rfl rfl (Nat.le_of_ble_eq_true rfl) (s_X8_heightAt X D f i l r μ hG (by first | omega | assumption) (by first | omega | assumption)) ?_
  refine w_iconst dX8_lengthAt_7 ?_
  refine w_aload_n dX8_lengthAt_8 rfl rfl (by first | decide | omega) ?_
  refine w_getR (o := 45) (x := 56) fX8_lengthAt_9 rfl rfl rfl rfl ?_
  refine w_iload_n dX8_lengthAt_12 rfl rfl ?_
  refine w_ialdx (o := 56) (n := 64) (x := dH D i) dX8_lengthAt_13 rfl rfl (Nat.le_of_ble_eq_true rfl) (by omega) (hG.rw.h (by omega)) ?_
  have hr1 := (hG.rw.ok).hr (i := i) (by omega)
  refine w_imul dX8_lengthAt_14 ?_
  refine w_aload_n dX8_lengthAt_15 rfl rfl (by first | decide | omega) ?_
  refine w_getIx (o := 45) (f := 24) (x := spn D) fX8_lengthAt_16 rfl rfl (Nat.le_of_ble_eq_true rfl) rfl hG.sp ?_
  have hr2 := (hG.ok).sp
  refine w_imul dX8_lengthAt_19 ?_
  refine w_isub dX8_lengthAt_20 ?_
  refine w_istore (ls' := [(2, 45), (0, f + i), (0, l), (0, r), (0, (l * (spn D - dX D i) + r * dX D i) - ((2 * (dH D i)) * (spn D)))]) dX8_lengthAt_21 (Nat.le_of_ble_eq_true rfl) rfl rfl ?_
  refine w_aload_n dX8_lengthAt_23 rfl rfl (by first | decide | omega) ?_
  refine w_getR (o := 45) (x := 57) fX8_lengthAt_24 rfl rfl rfl rfl ?_
  refine w_iload_n dX8_lengthAt_27 rfl rfl ?_
  refine w_ialdx (o := 57) (n := 64) (x := way D i) dX8_lengthAt_28 rfl rfl (Nat.le_of_ble_eq_true rfl) (by omega) (hG.rw.w (by omega)) ?_
  have hr3 := way_b D i
  refine w_if_le (tgt := 37) dX8_lengthAt_29 rfl (R32.in (by omega)) (fun c29 => ?_) (fun c29 => ?_)
  · skip
    refine w_iload dX8_lengthAt_37 rfl ?_
    refine w_ineg dX8_lengthAt_39 ?_
    exact w_iretP dX8_lengthAt_40 rfl (by rw [← len_lr]; rcases way_r D i with q | q <;> rw [q] <;> omega)
  · skip
    refine w_iload dX8_lengthAt_32 rfl ?_
    refine w_goto (tgt := 40) dX8_lengthAt_34 rfl ?_
    exact w_iretP dX8_lengthAt_40 rfl (by rw [← len_lr]; rcases way_r D i with q | q <;> rw [q] <;> omega)

set_option maxRecDepth 100000 in
set_option maxHeartbeats 4000000 in
theorem s_X8_idealOf (X : AX) (D : GDt) (f : Int) (i : Int) (μ : Mu) (hG : RO D f μ) (hi : 0 ≤ i ∧ i < dN D) : Wp (GG X) M_X8_idealOf 0 [(2, 45), (0, f + i), (9, 0), (9, 0)] [] μ (pP 0 (ideal D i) μ) := by
  have hok := hG.ok
  have hn := hok.n
  have hfr := hG.r
  have hhr := hok.hr hi
  have hbr := hok.br hi
  have hm := am_mul_b (a := -2 * dH D i) (b := way D i) (A := 24) (B := 1) (by omega) (way_b D i)
  refine w_aload_n dX8_idealOf_0 rfl rfl (by first | decide | omega) ?_
  refine w_getR (o := 45) (x := 48) fX8_idealOf_1 rfl rfl rfl rfl ?_
  refine w_iload_n dX8_idealOf_4 rfl rfl ?_
  refine w_ialdx (o := 48) (n := 64) (x := dB D i) dX8_idealOf_5 rfl rfl (Nat.le_of_ble_eq_true rfl) (by omega) (hG.rw.b (by omega)) ?_
  have hr1 := (hG.rw.ok).br (i := i) (by omega)
  refine w_iconst dX8_idealOf_6 ?_
  refine w_icmp_ne (tgt := 15) dX8_idealOf_7 rfl (R32.in (by omega)) (R32.in (by decide)) (fun c7 => ?_) (fun c7 => ?_)
  · skip
    refine w_aload_n dX8_idealOf_15 rfl rfl (by first | decide | omega) ?_
    refine w_getR (o := 45) (x := 48) fX8_idealOf_16 rfl rfl rfl rfl ?_
    refine w_iload_n dX8_idealOf_19 rfl rfl ?_
    refine w_ialdx (o := 48) (n := 64) (x := dB D i) dX8_idealOf_20 rfl rfl (Nat.le_of_ble_eq_true rfl) (by omega) (hG.rw.b (by omega)) ?_
    refine w_iconst dX8_idealOf_21 ?_
    refine w_icmp_ne (tgt := 30) dX8_idealOf_22 rfl (R32.in (by omega)) (R32.in (by decide)) (fun c22 => ?_) (fun c22 => ?_)
    · skip
      refine w_bipush dX8_idealOf_30 (by decide) ?_
      refine w_istore_n (ls' := [(2, 45), (0, f + i), (0, 17), (9, 0)]) dX8_idealOf_32 rfl (Nat.le_of_ble_eq_true rfl) rfl rfl ?_
      refine w_bipush dX8_idealOf_33 (by decide) ?_
      refine w_aload_n dX8_idealOf_35 rfl rfl (by first | decide | omega) ?_
      refine w_getR (o := 45) (x := 56) fX8_idealOf_36 rfl rfl rfl rfl ?_
      refine w_iload_n dX8_idealOf_39 rfl rfl ?_
      refine w_ialdx (o := 56) (n := 64) (x := dH D i) dX8_idealOf_40 rfl rfl (Nat.le_of_ble_eq_true rfl) (by omega) (hG.rw.h (by omega)) ?_
      have hr2 := (hG.rw.ok).hr (i := i) (by omega)
      refine w_imul dX8_idealOf_41 ?_
      refine w_aload_n dX8_idealOf_42 rfl rfl (by first | decide | omega) ?_
      refine w_getR (o := 45) (x := 57) fX8_idealOf_43 rfl rfl rfl rfl ?_
      refine w_iload_n dX8_idealOf_46 rfl rfl ?_
      refine w_ialdx (o := 57) (n := 64) (x := way D i) dX8_idealOf_47 rfl rfl (Nat.le_of_ble_eq_true rfl) (by omega) (hG.rw.w (by omega)) ?_
      have hr3 := way_b D i
      refine w_imul dX8_idealOf_48 ?_
      refine w_istore_n (ls' := [(2, 45), (0, f + i), (0, 17), (0, ((-2) * (dH D i)) * (way D i))]) dX8_idealOf_49 rfl (Nat.le_of_ble_eq_true rfl) rfl rfl ?_
      refine w_iload_n dX8_idealOf_50 rfl rfl ?_
      refine w_iload_n dX8_idealOf_51 rfl rfl ?_
      refine w_icmp_le (tgt := 59) dX8_idealOf_52 rfl (R32.in (by omega)) (R32.in (by decide)) (fun c52 => ?_) (fun c52 => ?_)
      · skip
        refine w_iload_n dX8_idealOf_59 rfl rfl ?_
        exact w_iretP dX8_idealOf_60 rfl (by have q := way_r D i; unfold ideal idl usu ab; generalize way D i = w at *; rcases q with q | q <;> subst q <;> omega)
      · skip
        refine w_iload_n dX8_idealOf_55 rfl rfl ?_
        refine w_goto (tgt := 60) dX8_idealOf_56 rfl ?_
        exact w_iretP dX8_idealOf_60 rfl (by have q := way_r D i; unfold ideal idl usu ab; generalize way D i = w at *; rcases q with q | q <;> subst q <;> omega)
    · skip
      refine w_bipush dX8_idealOf_25 (by decide) ?_
      refine w_goto (tgt := 32) dX8_idealOf_27 rfl ?_
      refine w_istore_n (ls' := [(2, 45), (0, f + i), (0, 15), (9, 0)]) dX8_idealOf_32 rfl (Nat.le_of_ble_eq_true rfl) rfl rfl ?_
      refine w_bipush dX8_idealOf_33 (by decide) ?_
      refine w_aload_n dX8_idealOf_35 rfl rfl (by first | decide | omega) ?_
      refine w_getR (o := 45) (x := 56) fX8_idealOf_36 rfl rfl rfl rfl ?_
      refine w_iload_n dX8_idealOf_39 rfl rfl ?_
      refine w_ialdx (o := 56) (n := 64) (x := dH D i) dX8_idealOf_40 rfl rfl (Nat.le_of_ble_eq_true rfl) (by omega) (hG.rw.h (by omega)) ?_
      have hr4 := (hG.rw.ok).hr (i := i) (by omega)
      refine w_imul dX8_idealOf_41 ?_
      refine w_aload_n dX8_idealOf_42 rfl rfl (by first | decide | omega) ?_
      refine w_getR (o := 45) (x := 57) fX8_idealOf_43 rfl rfl rfl rfl ?_
      refine w_iload_n dX8_idealOf_46 rfl rfl ?_
      refine w_ialdx (o := 57) (n := 64) (x := way D i) dX8_idealOf_47 rfl rfl (Nat.le_of_ble_eq_true rfl) (by omega) (hG.rw.w (by omega)) ?_
      have hr5 := way_b D i
      refine w_imul dX8_idealOf_48 ?_
      refine w_istore_n (ls' := [(2, 45), (0, f + i), (0, 15), (0, ((-2) * (dH D i)) * (way D i))]) dX8_idealOf_49 rfl (Nat.le_of_ble_eq_true rfl) rfl rfl ?_
      refine w_iload_n dX8_idealOf_50 rfl rfl ?_
      refine w_iload_n dX8_idealOf_51 rfl rfl ?_
      refine w_icmp_le (tgt := 59) dX8_idealOf_52 rfl (R32.in (by omega)) (R32.in (by decide)) (fun c52 => ?_) (fun c52 => ?_)
      · skip
        refine w_iload_n dX8_idealOf_59 rfl rfl ?_
        exact w_iretP dX8_idealOf_60 rfl (by have q := way_r D i; unfold ideal idl usu ab; generalize way D i = w at *; rcases q with q | q <;> subst q <;> omega)
      · skip
        refine w_iload_n dX8_idealOf_55 rfl rfl ?_
        refine w_goto (tgt := 60) dX8_idealOf_56 rfl ?_
        exact w_iretP dX8_idealOf_60 rfl (by have q := way_r D i; unfold ideal idl usu ab; generalize way D i = w at *; rcases q with q | q <;> subst q <;> omega)
  · skip
    refine w_bipush dX8_idealOf_10 (by decide) ?_
    refine w_goto (tgt := 32) dX8_idealOf_12 rfl ?_
    refine w_istore_n (ls' := [(2, 45), (0, f + i), (0, 14), (9, 0)]) dX8_idealOf_32 rfl (Nat.le_of_ble_eq_true rfl) rfl rfl ?_
    refine w_bipush dX8_idealOf_33 (by decide) ?_
    refine w_aload_n dX8_idealOf_35 rfl rfl (by first | decide | omega) ?_
    refine w_getR (o := 45) (x := 56) fX8_idealOf_36 rfl rfl rfl rfl ?_
    refine w_iload_n dX8_idealOf_39 rfl rfl ?_
    refine w_ialdx (o := 56) (n := 64) (x := dH D i) dX8_idealOf_40 rfl rfl (Nat.le_of_ble_eq_true rfl) (by omega) (hG.rw.h (by omega)) ?_
    have hr6 := (hG.rw.ok).hr (i := i) (by omega)
    refine w_imul dX8_idealOf_41 ?_
    refine w_aload_n dX8_idealOf_42 rfl rfl (by first | decide | omega) ?_
    refine w_getR (o := 45) (x := 57) fX8_idealOf_43 rfl rfl rfl rfl ?_
    refine w_iload_n dX8_idealOf_46 rfl rfl ?_
    refine w_ialdx (o := 57) (n := 64) (x := way D i) dX8_idealOf_47 rfl rfl (Nat.le_of_ble_eq_true rfl) (by omega) (hG.rw.w (by omega)) ?_
    have hr7 := way_b D i
    refine w_imul dX8_idealOf_48 ?_
    refine w_istore_n (ls' := [(2, 45), (0, f + i), (0, 14), (0, ((-2) * (dH D i)) * (way D i))]) dX8_idealOf_49 rfl (Nat.le_of_ble_eq_true rfl) rfl rfl ?_
    refine w_iload_n dX8_idealOf_50 rfl rfl ?_
    refine w_iload_n dX8_idealOf_51 rfl rfl ?_
    refine w_icmp_le (tgt := 59) dX8_idealOf_52 rfl (R32.in (by omega)) (R32.in (by decide)) (fun c52 => ?_) (fun c52 => ?_)
    · skip
      refine w_iload_n dX8_idealOf_59 rfl rfl ?_
      exact w_iretP dX8_idealOf_60 rfl (by have q := way_r D i; unfold ideal idl usu ab; generalize way D i = w at *; rcases q with q | q <;> subst q <;> omega)
    · skip
      refine w_iload_n dX8_idealOf_55 rfl rfl ?_
      refine w_goto (tgt := 60) dX8_idealOf_56 rfl ?_
      exact w_iretP dX8_idealOf_60 rfl (by have q := way_r D i; unfold ideal idl usu ab; generalize way D i = w at *; rcases q with q | q <;> subst q <;> omega)

set_option maxRecDepth 100000 in
set_option maxHeartbeats 4000000 in
theorem s_X8_isAllowed (X : AX) (D : GDt) (f : Int) (l : Int) (r : Int) (μ : Mu) (hG : RO D f μ) (hlr : (-60 ≤ l ∧ l ≤ 60) ∧ (-60 ≤ r ∧ r ≤ 60) ∧ (-8 ≤ r - l ∧ r - l ≤ 8)) : Wp (GG X) M_X8_isAllowed 0 [(2, 45), (0, l), (0, r), (9, 0), (9, 0)] [] μ (pP 0 (am_b (alwB D (r - l) l = true)) μ) := by
  have hok := hG.ok
  have hn := hok.n
  have hfr := hG.r
  have hsp := hok.sp
  refine w_aload_n dX8_isAllowed_0 rfl rfl (by first | decide | omega) ?_
  refine w_getIx (o := 45) (f := 22) (x := f) fX8_isAllowed_1 rfl rfl (Nat.le_of_ble_eq_true rfl) rfl hG.fi ?_
  refine w_istore_n (ls' := [(2, 45), (0, l), (0, r), (0, f), (9, 0)]) dX8_isAllowed_4 rfl (Nat.le_of_ble_eq_true rfl) rfl rfl ?_
  have hL5 : ∀ (n5 : Nat) (i : Int), (dN D - i).toNat = n5 → (0 ≤ i ∧ i ≤ dN D) → (alwI D (r - l) l i = true) → Wp (GG X) M_X8_isAllowed 5 [(2, 45), (0, l), (0, r), (0, f + i), (9, 0)] [] μ (pP 0 (am_b (alwB D (r - l) l = true)) μ) := by
    intro n5
    induction n5 using Nat.strongRecOn with
    | ind n5 ih5 =>
      intro i hn5 hi0 hA
      refine w_iload_n dX8_isAllowed_5 rfl rfl ?_
      refine w_aload_n dX8_isAllowed_6 rfl rfl (by first | decide | omega) ?_
      refine w_getIx (o := 45) (f := 23) (x := f + (dN D - 1)) fX8_isAllowed_7 rfl rfl (Nat.le_of_ble_eq_true rfl) rfl hG.la ?_
      have hr1 := (hG.ok).n
      refine w_icmp_gt (tgt := 82) dX8_isAllowed_10 rfl (R32.in (by omega)) (R32.in (by omega)) (fun c10 => ?_) (fun c10 => ?_)
      · skip
        refine w_iconst dX8_isAllowed_82 ?_
        exact w_zretP dX8_isAllowed_83 rfl (Or.inr rfl) (by have he : i = dN D := (by omega); subst he; exact am_b_t hA)
      · skip
        have hbr := hok.br (i := i) (by omega)
        refine w_aload_n dX8_isAllowed_13 rfl rfl (by first | decide | omega) ?_
        refine w_getR (o := 45) (x := 48) fX8_isAllowed_14 rfl rfl rfl rfl ?_
        refine w_iload_n dX8_isAllowed_17 rfl rfl ?_
        refine w_ialdx (o := 48) (n := 64) (x := dB D i) dX8_isAllowed_18 rfl rfl (Nat.le_of_ble_eq_true rfl) (by omega) (hG.rw.b (by omega)) ?_
        have hr2 := (hG.rw.ok).br (i := i) (by omega)
        refine w_iconst dX8_isAllowed_19 ?_
        refine w_icmp_ne (tgt := 28) dX8_isAllowed_20 rfl (R32.in (by omega)) (R32.in (by decide)) (fun c20 => ?_) (fun c20 => ?_)
        · skip
          refine w_aload_n dX8_isAllowed_28 rfl rfl (by first | decide | omega) ?_
          refine w_getR (o := 45) (x := 48) fX8_isAllowed_29 rfl rfl rfl rfl ?_
          refine w_iload_n dX8_isAllowed_32 rfl rfl ?_
          refine w_ialdx (o := 48) (n := 64) (x := dB D i) dX8_isAllowed_33 rfl rfl (Nat.le_of_ble_eq_true rfl) (by omega) (hG.rw.b (by omega)) ?_
          refine w_iconst dX8_isAllowed_34 ?_
          refine w_icmp_ne (tgt := 43) dX8_isAllowed_35 rfl (R32.in (by omega)) (R32.in (by decide)) (fun c35 => ?_) (fun c35 => ?_)
          · skip
            refine w_bipush dX8_isAllowed_43 (by decide) ?_
            refine w_istore (ls' := [(2, 45), (0, l), (0, r), (0, f + i), (0, 13)]) dX8_isAllowed_45 (Nat.le_of_ble_eq_true rfl) rfl rfl ?_
            refine w_aload_n dX8_isAllowed_47 rfl rfl (by first | decide | omega) ?_
            refine w_iload_n dX8_isAllowed_48 rfl rfl ?_
            refine w_iload_n dX8_isAllowed_49 rfl rfl ?_
            refine w_iload_n dX8_isAllowed_50 rfl rfl ?_
            refine w_callVP (o := 45) (ci := 8) (as := [(0, f + i), (0, l), (0, r)]) (rest := []) (k := 1) fX8_isAllowed_51 rfl rfl rfl rfl rfl rfl rfl rfl (Nat.le_of_ble_eq_true rfl) (s_X8_lengthAt X D f i l r μ hG (by first | omega | assumption) (by first | omega | assumption)) ?_
            have hf3 := len_fr D l r i (by assumption) (by omega) (by omega)
            refine w_iload dX8_isAllowed_54 rfl ?_
            refine w_aload_n dX8_isAllowed_56 rfl rfl (by first | decide | omega) ?_
            refine w_getIx (o := 45) (f := 24) (x := spn D) fX8_isAllowed_57 rfl rfl (Nat.le_of_ble_eq_true rfl) rfl hG.sp ?_
            have hr4 := (hG.ok).sp
            refine w_imul dX8_isAllowed_60 ?_
            refine w_bipush dX8_isAllowed_61 (by decide) ?_
            refine w_aload_n dX8_isAllowed_63 rfl rfl (by first | decide | omega) ?_
            refine w_getIx (o := 45) (f := 24) (x := spn D) fX8_isAllowed_64 rfl rfl (Nat.le_of_ble_eq_true rfl) rfl hG.sp ?_
            refine w_imul dX8_isAllowed_67 ?_
            refine w_callSP (as := [(0, len D (r - l) l i), (0, 13 * (spn D)), (0, 44 * (spn D))]) (rest := []) (k := 0) fX8_isAllowed_68 rfl rfl rfl rfl rfl (Nat.le_of_ble_eq_true rfl) (s_X8_isIn X (len D (r - l) l i) (13 * (spn D)) (44 * (spn D)) μ (by first | omega | assumption) (by first | omega | assumption) (by first | omega | assumption)) ?_
            have hf5 := am_b_r ((13 * (spn D)) ≤ (len D (r - l) l i) ∧ (len D (r - l) l i) ≤ (44 * (spn D)))
            refine w_if_ne (tgt := 76) dX8_isAllowed_71 rfl (R32.in (by have := am_b_r (((13 * (spn D)) ≤ (len D (r - l) l i) ∧ (len D (r - l) l i) ≤ (44 * (spn D)))); omega)) (fun c71 => ?_) (fun c71 => ?_)
            · skip
              replace c71 := am_b1 c71
              refine w_iinc (ls' := [(2, 45), (0, l), (0, r), (0, (f + i) + 1), (0, 13)]) dX8_isAllowed_76 rfl (Nat.le_of_ble_eq_true rfl) rfl rfl ?_
              refine w_goto (tgt := 5) dX8_isAllowed_79 rfl ?_
              refine Wp.lcg (t := 0) (a := (f + i) + 1) (b := f + (i + 1)) (ls' := [(2, 45), (0, l), (0, r), (0, f + (i + 1)), (0, 13)]) 3 (by omega) rfl rfl ?_
              refine Wp.fgl (ls' := [(2, 45), (0, l), (0, r), (0, f + (i + 1)), (9, 0)]) 4 rfl ?_
              exact ih5 _ (by omega) (i + 1) rfl (by first | omega | assumption) (by first | exact alwI_in (t := 10) hi0.1 (by unfold lst; omega) c71 hA | exact alwI_in (t := 11) hi0.1 (by unfold lst; omega) c71 hA | exact alwI_in (t := 13) hi0.1 (by unfold lst; omega) c71 hA)
            · skip
              replace c71 := am_b0 c71
              refine w_iconst dX8_isAllowed_74 ?_
              exact w_zretP dX8_isAllowed_75 rfl (Or.inl rfl) (by exact am_b_f (by first | exact alwB_out (t := 10) (i := i) (by omega) (by unfold lst; omega) c71 | exact alwB_out (t := 11) (i := i) (by omega) (by unfold lst; omega) c71 | exact alwB_out (t := 13) (i := i) (by omega) (by unfold lst; omega) c71))
          · skip
            refine w_bipush dX8_isAllowed_38 (by decide) ?_
            refine w_goto (tgt := 45) dX8_isAllowed_40 rfl ?_
            refine w_istore (ls' := [(2, 45), (0, l), (0, r), (0, f + i), (0, 11)]) dX8_isAllowed_45 (Nat.le_of_ble_eq_true rfl) rfl rfl ?_
            refine w_aload_n dX8_isAllowed_47 rfl rfl (by first | decide | omega) ?_
            refine w_iload_n dX8_isAllowed_48 rfl rfl ?_
            refine w_iload_n dX8_isAllowed_49 rfl rfl ?_
            refine w_iload_n dX8_isAllowed_50 rfl rfl ?_
            refine w_callVP (o := 45) (ci := 8) (as := [(0, f + i), (0, l), (0, r)]) (rest := []) (k := 1) fX8_isAllowed_51 rfl rfl rfl rfl rfl rfl rfl rfl (Nat.le_of_ble_eq_true rfl) (s_X8_lengthAt X D f i l r μ hG (by first | omega | assumption) (by first | omega | assumption)) ?_
            have hf6 := len_fr D l r i (by assumption) (by omega) (by omega)
            refine w_iload dX8_isAllowed_54 rfl ?_
            refine w_aload_n dX8_isAllowed_56 rfl rfl (by first | decide | omega) ?_
            refine w_getIx (o := 45) (f := 24) (x := spn D) fX8_isAllowed_57 rfl rfl (Nat.le_of_ble_eq_true rfl) rfl hG.sp ?_
            have hr7 := (hG.ok).sp
            refine w_imul dX8_isAllowed_60 ?_
            refine w_bipush dX8_isAllowed_61 (by decide) ?_
            refine w_aload_n dX8_isAllowed_63 rfl rfl (by first | decide | omega) ?_
            refine w_getIx (o := 45) (f := 24) (x := spn D) fX8_isAllowed_64 rfl rfl (Nat.le_of_ble_eq_true rfl) rfl hG.sp ?_
            refine w_imul dX8_isAllowed_67 ?_
            refine w_callSP (as := [(0, len D (r - l) l i), (0, 11 * (spn D)), (0, 44 * (spn D))]) (rest := []) (k := 0) fX8_isAllowed_68 rfl rfl rfl rfl rfl (Nat.le_of_ble_eq_true rfl) (s_X8_isIn X (len D (r - l) l i) (11 * (spn D)) (44 * (spn D)) μ (by first | omega | assumption) (by first | omega | assumption) (by first | omega | assumption)) ?_
            have hf8 := am_b_r ((11 * (spn D)) ≤ (len D (r - l) l i) ∧ (len D (r - l) l i) ≤ (44 * (spn D)))
            refine w_if_ne (tgt := 76) dX8_isAllowed_71 rfl (R32.in (by have := am_b_r (((11 * (spn D)) ≤ (len D (r - l) l i) ∧ (len D (r - l) l i) ≤ (44 * (spn D)))); omega)) (fun c71 => ?_) (fun c71 => ?_)
            · skip
              replace c71 := am_b1 c71
              refine w_iinc (ls' := [(2, 45), (0, l), (0, r), (0, (f + i) + 1), (0, 11)]) dX8_isAllowed_76 rfl (Nat.le_of_ble_eq_true rfl) rfl rfl ?_
              refine w_goto (tgt := 5) dX8_isAllowed_79 rfl ?_
              refine Wp.lcg (t := 0) (a := (f + i) + 1) (b := f + (i + 1)) (ls' := [(2, 45), (0, l), (0, r), (0, f + (i + 1)), (0, 11)]) 3 (by omega) rfl rfl ?_
              refine Wp.fgl (ls' := [(2, 45), (0, l), (0, r), (0, f + (i + 1)), (9, 0)]) 4 rfl ?_
              exact ih5 _ (by omega) (i + 1) rfl (by first | omega | assumption) (by first | exact alwI_in (t := 10) hi0.1 (by unfold lst; omega) c71 hA | exact alwI_in (t := 11) hi0.1 (by unfold lst; omega) c71 hA | exact alwI_in (t := 13) hi0.1 (by unfold lst; omega) c71 hA)
            · skip
              replace c71 := am_b0 c71
              refine w_iconst dX8_isAllowed_74 ?_
              exact w_zretP dX8_isAllowed_75 rfl (Or.inl rfl) (by exact am_b_f (by first | exact alwB_out (t := 10) (i := i) (by omega) (by unfold lst; omega) c71 | exact alwB_out (t := 11) (i := i) (by omega) (by unfold lst; omega) c71 | exact alwB_out (t := 13) (i := i) (by omega) (by unfold lst; omega) c71))
        · skip
          refine w_bipush dX8_isAllowed_23 (by decide) ?_
          refine w_goto (tgt := 45) dX8_isAllowed_25 rfl ?_
          refine w_istore (ls' := [(2, 45), (0, l), (0, r), (0, f + i), (0, 10)]) dX8_isAllowed_45 (Nat.le_of_ble_eq_true rfl) rfl rfl ?_
          refine w_aload_n dX8_isAllowed_47 rfl rfl (by first | decide | omega) ?_
          refine w_iload_n dX8_isAllowed_48 rfl rfl ?_
          refine w_iload_n dX8_isAllowed_49 rfl rfl ?_
          refine w_iload_n dX8_isAllowed_50 rfl rfl ?_
          refine w_callVP (o := 45) (ci := 8) (as := [(0, f + i), (0, l), (0, r)]) (rest := []) (k := 1) fX8_isAllowed_51 rfl rfl rfl rfl rfl rfl rfl rfl (Nat.le_of_ble_eq_true rfl) (s_X8_lengthAt X D f i l r μ hG (by first | omega | assumption) (by first | omega | assumption)) ?_
          have hf9 := len_fr D l r i (by assumption) (by omega) (by omega)
          refine w_iload dX8_isAllowed_54 rfl ?_
          refine w_aload_n dX8_isAllowed_56 rfl rfl (by first | decide | omega) ?_
          refine w_getIx (o := 45) (f := 24) (x := spn D) fX8_isAllowed_57 rfl rfl (Nat.le_of_ble_eq_true rfl) rfl hG.sp ?_
          have hr10 := (hG.ok).sp
          refine w_imul dX8_isAllowed_60 ?_
          refine w_bipush dX8_isAllowed_61 (by decide) ?_
          refine w_aload_n dX8_isAllowed_63 rfl rfl (by first | decide | omega) ?_
          refine w_getIx (o := 45) (f := 24) (x := spn D) fX8_isAllowed_64 rfl rfl (Nat.le_of_ble_eq_true rfl) rfl hG.sp ?_
          refine w_imul dX8_isAllowed_67 ?_
          refine w_callSP (as := [(0, len D (r - l) l i), (0, 10 * (spn D)), (0, 44 * (spn D))]) (rest := []) (k := 0) fX8_isAllowed_68 rfl rfl rfl rfl rfl (Nat.le_of_ble_eq_true rfl) (s_X8_isIn X (len D (r - l) l i) (10 * (spn D)) (44 * (spn D)) μ (by first | omega | assumption) (by first | omega | assumption) (by first | omega | assumption)) ?_
          have hf11 := am_b_r ((10 * (spn D)) ≤ (len D (r - l) l i) ∧ (len D (r - l) l i) ≤ (44 * (spn D)))
          refine w_if_ne (tgt := 76) dX8_isAllowed_71 rfl (R32.in (by have := am_b_r (((10 * (spn D)) ≤ (len D (r - l) l i) ∧ (len D (r - l) l i) ≤ (44 * (spn D)))); omega)) (fun c71 => ?_) (fun c71 => ?_)
          · skip
            replace c71 := am_b1 c71
            refine w_iinc (ls' := [(2, 45), (0, l), (0, r), (0, (f + i) + 1), (0, 10)]) dX8_isAllowed_76 rfl (Nat.le_of_ble_eq_true rfl) rfl rfl ?_
            refine w_goto (tgt := 5) dX8_isAllowed_79 rfl ?_
            refine Wp.lcg (t := 0) (a := (f + i) + 1) (b := f + (i + 1)) (ls' := [(2, 45), (0, l), (0, r), (0, f + (i + 1)), (0, 10)]) 3 (by omega) rfl rfl ?_
            refine Wp.fgl (ls' := [(2, 45), (0, l), (0, r), (0, f + (i + 1)), (9, 0)]) 4 rfl ?_
            exact ih5 _ (by omega) (i + 1) rfl (by first | omega | assumption) (by first | exact alwI_in (t := 10) hi0.1 (by unfold lst; omega) c71 hA | exact alwI_in (t := 11) hi0.1 (by unfold lst; omega) c71 hA | exact alwI_in (t := 13) hi0.1 (by unfold lst; omega) c71 hA)
          · skip
            replace c71 := am_b0 c71
            refine w_iconst dX8_isAllowed_74 ?_
            exact w_zretP dX8_isAllowed_75 rfl (Or.inl rfl) (by exact am_b_f (by first | exact alwB_out (t := 10) (i := i) (by omega) (by unfold lst; omega) c71 | exact alwB_out (t := 11) (i := i) (by omega) (by unfold lst; omega) c71 | exact alwB_out (t := 13) (i := i) (by omega) (by unfold lst; omega) c71))
  refine Wp.lcg (t := 0) (a := f) (b := f + 0) (ls' := [(2, 45), (0, l), (0, r), (0, f + 0), (9, 0)]) 3 (by omega) rfl rfl ?_
  exact hL5 _ 0 rfl (by first | omega | assumption) rfl

set_option maxRecDepth 100000 in
set_option maxHeartbeats 4000000 in
theorem s_X8_stemsOf (X : AX) (D : GDt) (f : Int) (l : Int) (r : Int) (μ : Mu) (hG : RO D f μ) (hlr : (-60 ≤ l ∧ l ≤ 60) ∧ (-60 ≤ r ∧ r ≤ 60) ∧ (-8 ≤ r - l ∧ r - l ≤ 8)) : Wp (GG X) M_X8_stemsOf 0 [(2, 45), (0, l), (0, r), (9, 0), (9, 0), (9, 0)] [] μ (pP 0 (stm D (r - l) l) μ) := by
  have hok := hG.ok
  have hn := hok.n
  have hfr := hG.r
  have hsp := hok.sp
  refine w_iconst dX8_stemsOf_0 ?_
  refine w_istore_n (ls' := [(2, 45), (0, l), (0, r), (0, 0), (9, 0), (9, 0)]) dX8_stemsOf_1 rfl (Nat.le_of_ble_eq_true rfl) rfl rfl ?_
  refine w_aload_n dX8_stemsOf_2 rfl rfl (by first | decide | omega) ?_
  refine w_getIx (o := 45) (f := 22) (x := f) fX8_stemsOf_3 rfl rfl (Nat.le_of_ble_eq_true rfl) rfl hG.fi ?_
  refine w_istore (ls' := [(2, 45), (0, l), (0, r), (0, 0), (0, f), (9, 0)]) dX8_stemsOf_6 (Nat.le_of_ble_eq_true rfl) rfl rfl ?_
  have hL8 : ∀ (n8 : Nat) (m : Int) (i : Int), (dN D - i).toNat = n8 → (0 ≤ i ∧ i ≤ dN D) → (m = ssu D (r - l) l i) → Wp (GG X) M_X8_stemsOf 8 [(2, 45), (0, l), (0, r), (0, m), (0, f + i), (9, 0)] [] μ (pP 0 (stm D (r - l) l) μ) := by
    intro n8
    induction n8 using Nat.strongRecOn with
    | ind n8 ih8 =>
      intro m i hn8 hi0 hm
      have hmr := ssu_r (s := r - l) (l := l) hok (by omega) (by omega) hi0
      refine w_iload dX8_stemsOf_8 rfl ?_
      refine w_aload_n dX8_stemsOf_10 rfl rfl (by first | decide | omega) ?_
      refine w_getIx (o := 45) (f := 23) (x := f + (dN D - 1)) fX8_stemsOf_11 rfl rfl (Nat.le_of_ble_eq_true rfl) rfl hG.la ?_
      have hr1 := (hG.ok).n
      refine w_icmp_gt (tgt := 63) dX8_stemsOf_14 rfl (R32.in (by omega)) (R32.in (by omega)) (fun c14 => ?_) (fun c14 => ?_)
      · skip
        refine w_iload_n dX8_stemsOf_63 rfl rfl ?_
        refine w_aload_n dX8_stemsOf_64 rfl rfl (by first | decide | omega) ?_
        refine w_getIx (o := 45) (f := 24) (x := spn D) fX8_stemsOf_65 rfl rfl (Nat.le_of_ble_eq_true rfl) rfl hG.sp ?_
        have hr2 := (hG.ok).sp
        refine w_idivP dX8_stemsOf_68 (by omega) ?_
        exact w_iretP dX8_stemsOf_69 rfl (by have he : i = dN D := (by omega); subst he; rw [hm]; rfl)
      · skip
        have hir := ids_r (i := i) hok (by omega)
        refine w_aload_n dX8_stemsOf_17 rfl rfl (by first | decide | omega) ?_
        refine w_iload dX8_stemsOf_18 rfl ?_
        refine w_iload_n dX8_stemsOf_20 rfl rfl ?_
        refine w_iload_n dX8_stemsOf_21 rfl rfl ?_
        refine w_callVP (o := 45) (ci := 8) (as := [(0, f + i), (0, l), (0, r)]) (rest := []) (k := 1) fX8_stemsOf_22 rfl rfl rfl rfl rfl rfl rfl rfl (Nat.le_of_ble_eq_true rfl) (s_X8_lengthAt X D f i l r μ hG (by first | omega | assumption) (by first | omega | assumption)) ?_
        have hf3 := len_fr D l r i (by assumption) (by omega) (by omega)
        refine w_aload_n dX8_stemsOf_25 rfl rfl (by first | decide | omega) ?_
        refine w_iload dX8_stemsOf_26 rfl ?_
        refine w_callVP (o := 45) (ci := 8) (as := [(0, f + i)]) (rest := [(0, len D (r - l) l i)]) (k := 2) fX8_stemsOf_28 rfl rfl rfl rfl rfl rfl rfl rfl (Nat.le_of_ble_eq_true rfl) (s_X8_idealOf X D f i μ hG (by first | omega | assumption)) ?_
        have hf4 := ideal_f D i (by assumption) (by omega)
        refine w_aload_n dX8_stemsOf_31 rfl rfl (by first | decide | omega) ?_
        refine w_getIx (o := 45) (f := 24) (x := spn D) fX8_stemsOf_32 rfl rfl (Nat.le_of_ble_eq_true rfl) rfl hG.sp ?_
        have hr5 := (hG.ok).sp
        refine w_imul dX8_stemsOf_35 ?_
        refine w_isub dX8_stemsOf_36 ?_
        refine w_istore (ls' := [(2, 45), (0, l), (0, r), (0, m), (0, f + i), (0, (len D (r - l) l i) - ((ideal D i) * (spn D)))]) dX8_stemsOf_37 (Nat.le_of_ble_eq_true rfl) rfl rfl ?_
        refine w_iload_n dX8_stemsOf_39 rfl rfl ?_
        refine w_iload dX8_stemsOf_40 rfl ?_
        refine w_if_ge (tgt := 53) dX8_stemsOf_42 rfl (R32.in (by omega)) (fun c42 => ?_) (fun c42 => ?_)
        · skip
          refine w_iload dX8_stemsOf_53 rfl ?_
          refine w_iadd dX8_stemsOf_55 ?_
          refine w_istore_n (ls' := [(2, 45), (0, l), (0, r), (0, m + ((len D (r - l) l i) - ((ideal D i) * (spn D)))), (0, f + i), (0, (len D (r - l) l i) - ((ideal D i) * (spn D)))]) dX8_stemsOf_56 rfl (Nat.le_of_ble_eq_true rfl) rfl rfl ?_
          refine w_iinc (ls' := [(2, 45), (0, l), (0, r), (0, m + ((len D (r - l) l i) - ((ideal D i) * (spn D)))), (0, (f + i) + 1), (0, (len D (r - l) l i) - ((ideal D i) * (spn D)))]) dX8_stemsOf_57 rfl (Nat.le_of_ble_eq_true rfl) rfl rfl ?_
          refine w_goto (tgt := 8) dX8_stemsOf_60 rfl ?_
          refine Wp.lcg (t := 0) (a := (f + i) + 1) (b := f + (i + 1)) (ls' := [(2, 45), (0, l), (0, r), (0, m + ((len D (r - l) l i) - ((ideal D i) * (spn D)))), (0, f + (i + 1)), (0, (len D (r - l) l i) - ((ideal D i) * (spn D)))]) 4 (by omega) rfl rfl ?_
          refine Wp.fgl (ls' := [(2, 45), (0, l), (0, r), (0, m + ((len D (r - l) l i) - ((ideal D i) * (spn D)))), (0, f + (i + 1)), (9, 0)]) 5 rfl ?_
          exact ih8 _ (by omega) (m + ((len D (r - l) l i) - ((ideal D i) * (spn D)))) (i + 1) rfl (by first | omega | assumption) (by rw [ssu_s hi0.1]; unfold offc; omega)
        · skip
          refine w_bipush dX8_stemsOf_45 (by decide) ?_
          refine w_iload dX8_stemsOf_47 rfl ?_
          refine w_imul dX8_stemsOf_49 ?_
          refine w_goto (tgt := 55) dX8_stemsOf_50 rfl ?_
          refine w_iadd dX8_stemsOf_55 ?_
          refine w_istore_n (ls' := [(2, 45), (0, l), (0, r), (0, m + ((-2) * ((len D (r - l) l i) - ((ideal D i) * (spn D))))), (0, f + i), (0, (len D (r - l) l i) - ((ideal D i) * (spn D)))]) dX8_stemsOf_56 rfl (Nat.le_of_ble_eq_true rfl) rfl rfl ?_
          refine w_iinc (ls' := [(2, 45), (0, l), (0, r), (0, m + ((-2) * ((len D (r - l) l i) - ((ideal D i) * (spn D))))), (0, (f + i) + 1), (0, (len D (r - l) l i) - ((ideal D i) * (spn D)))]) dX8_stemsOf_57 rfl (Nat.le_of_ble_eq_true rfl) rfl rfl ?_
          refine w_goto (tgt := 8) dX8_stemsOf_60 rfl ?_
          refine Wp.lcg (t := 0) (a := (f + i) + 1) (b := f + (i + 1)) (ls' := [(2, 45), (0, l), (0, r), (0, m + ((-2) * ((len D (r - l) l i) - ((ideal D i) * (spn D))))), (0, f + (i + 1)), (0, (len D (r - l) l i) - ((ideal D i) * (spn D)))]) 4 (by omega) rfl rfl ?_
          refine Wp.fgl (ls' := [(2, 45), (0, l), (0, r), (0, m + ((-2) * ((len D (r - l) l i) - ((ideal D i) * (spn D))))), (0, f + (i + 1)), (9, 0)]) 5 rfl ?_
          exact ih8 _ (by omega) (m + ((-2) * ((len D (r - l) l i) - ((ideal D i) * (spn D))))) (i + 1) rfl (by first | omega | assumption) (by rw [ssu_s hi0.1]; unfold offc; omega)
  refine Wp.lcg (t := 0) (a := f) (b := f + 0) (ls' := [(2, 45), (0, l), (0, r), (0, 0), (0, f + 0), (9, 0)]) 4 (by omega) rfl rfl ?_
  exact hL8 _ 0 0 rfl (by first | omega | assumption) rfl
