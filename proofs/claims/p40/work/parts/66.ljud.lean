/-! ===== The law's ways of stems; how it judges a setting ===== -/
def wayP (D : GDt) (nn : Nat) (G : AG) (μ : Mu) : AG → Option AV → Mu → Prop := fun G' r μ' => ∃ q : Nat, G' = ax G (20, nn) q ∧ r = some (2, 47) ∧ (∀ i : Int, 0 ≤ i → i < dN D → μ' 47 i = way D i) ∧ ∀ o : Int, o ≠ 47 → μ' o = μ o
/-- a row that tells how a setting is judged -/
def rowJ (μ : Mu) (o : Int) (D : GDt) (l r : Int) : Prop := (μ o 0 = stm D (r - l) l ∧ μ o 1 = slp D (r - l)) ∧ (μ o 2 = stf D (r - l) l ∧ μ o 3 = lns D (r - l) l)
def judP (D : GDt) (l r : Int) (L : Nat) (G : AG) (μ : Mu) : AG → Option AV → Mu → Prop := fun G' rr μ' =>
  (¬ alw D (r - l) l ∧ G' = G ∧ rr = some (2, -1) ∧ μ' = μ) ∨ (alw D (r - l) l ∧ ∃ q : Nat, G' = ax G (23, 4) q ∧ rr = some (2, (L : Int)) ∧ rowJ μ' (L : Int) D l r ∧ ∀ o : Int, o ≠ (L : Int) → μ' o = μ o)

set_option maxRecDepth 100000 in
set_option maxHeartbeats 4000000 in
theorem s_L_ways (G : AG) (D : GDt) (nn : Nat) (μ : Mu) (hlen : (gS G).length = 47) (hs45 : (gS G)[45]? = some (20, nn)) (hw : wfm G μ) (hH : LH G D nn μ) : Gx (xK G M_L_ways 1 8 (wayP D nn G μ)) G M_L_ways 0 0 0 [(3, 13), (2, 45), (9, 0), (9, 0), (9, 0), (9, 0), (9, 0), (9, 0), (9, 0), (9, 0), (9, 0), (9, 0), (9, 0), (9, 0)] [] μ := by
  have hok := hH.ok
  have hn := hok.n
  have hnn := hH.n_n
  have hkn := hH.kn
  have hkk := hok.k
  have hk4 := hkn.2
  refine x_aload_n dL_ways_0 rfl rfl (by first | decide | omega) ?_
  refine x_alen (o := 45) (n := nn) (t := 0) (f := nn) dL_ways_1 rfl hs45 (Nat.le_of_ble_eq_true rfl) rfl ?_
  refine Gx.topE (b := dN D) hnn.1 ?_
  refine x_istore_n (ls' := [(3, 13), (2, 45), (0, dN D), (9, 0), (9, 0), (9, 0), (9, 0), (9, 0), (9, 0), (9, 0), (9, 0), (9, 0), (9, 0), (9, 0)]) dL_ways_2 rfl (Nat.le_of_ble_eq_true rfl) rfl rfl ?_
  refine x_iconst dL_ways_3 ?_
  refine x_istore_n (ls' := [(3, 13), (2, 45), (0, dN D), (0, 0), (9, 0), (9, 0), (9, 0), (9, 0), (9, 0), (9, 0), (9, 0), (9, 0), (9, 0), (9, 0)]) dL_ways_4 rfl (Nat.le_of_ble_eq_true rfl) rfl rfl ?_
  refine x_iconst dL_ways_5 ?_
  refine x_istore (ls' := [(3, 13), (2, 45), (0, dN D), (0, 0), (0, 0), (9, 0), (9, 0), (9, 0), (9, 0), (9, 0), (9, 0), (9, 0), (9, 0), (9, 0)]) dL_ways_6 (Nat.le_of_ble_eq_true rfl) rfl rfl ?_
  refine x_iconst dL_ways_8 ?_
  refine x_istore (ls' := [(3, 13), (2, 45), (0, dN D), (0, 0), (0, 0), (0, 0), (9, 0), (9, 0), (9, 0), (9, 0), (9, 0), (9, 0), (9, 0), (9, 0)]) dL_ways_9 (Nat.le_of_ble_eq_true rfl) rfl rfl ?_
  refine x_iconst dL_ways_11 ?_
  refine x_istore (ls' := [(3, 13), (2, 45), (0, dN D), (0, 0), (0, 0), (0, 0), (0, 0), (9, 0), (9, 0), (9, 0), (9, 0), (9, 0), (9, 0), (9, 0)]) dL_ways_12 (Nat.le_of_ble_eq_true rfl) rfl rfl ?_
  have hL14 : ∀ (n14 : Nat) (g : Int) (b : Int) (e : Int) (i : Int), (dN D - i).toNat = n14 → (0 ≤ i ∧ i ≤ dN D) → (lkI D i g b e) → Gx (xK G M_L_ways 1 8 (wayP D nn G μ)) G M_L_ways 0 0 14 [(3, 13), (2, 45), (0, dN D), (0, g), (0, b), (0, e), (0, i), (9, 0), (9, 0), (9, 0), (9, 0), (9, 0), (9, 0), (9, 0)] [] μ := by
    intro n14
    induction n14 using Nat.strongRecOn with
    | ind n14 ih14 =>
      intro g b e i hn14 hi0 hlk
      have hbd := lkI_b hok hlk
      refine x_iload dL_ways_14 rfl ?_
      refine x_iload_n dL_ways_16 rfl rfl ?_
      refine x_icmp_ge (tgt := 155) dL_ways_17 rfl (R32.in (by omega)) (R32.in (by omega)) (fun c17 => ?_) (fun c17 => ?_)
      · skip
        have hle := lkI_end hok (show lkI D (dN D) g b e by rw [show dN D = i by omega]; exact hlk)
        refine x_iload_n dL_ways_155 rfl rfl ?_
        refine x_newaI (N := nn) xK_A ⟨show 0 + 1 ≤ 1 by omega, show 0 + nn ≤ 8 by omega⟩ dL_ways_156 k_97 (by omega) (by omega) hw (by rw [hlen]; exact ⟨nt_no (by decide), ⟨fun _ => (by omega), ⟨nt_no (by decide), ⟨nt_no (by decide), ⟨nt_no (by decide), ⟨nt_no (by decide), ⟨nt_no (by decide), ⟨nt_no (by decide), ⟨nt_no (by decide), ⟨nt_no (by decide), ⟨nt_no (by decide), ⟨nt_no (by decide), ⟨nt_no (by decide), ⟨nt_no (by decide), trivial⟩⟩⟩⟩⟩⟩⟩⟩⟩⟩⟩⟩⟩⟩) (by rw [hlen]; exact trivial) (fun q47 => ?_)
        rw [hlen]
        refine Gx.cg (ls' := [(3, 13), (2, 45), (0, dN D), (0, g), (0, b), (0, e), (0, i), (9, 0), (9, 0), (9, 0), (9, 0), (9, 0), (9, 0), (9, 0)]) (st' := [(2, 47)]) (μ' := am_nw μ 47) ?_ rfl rfl rfl
        refine Gx.mu (fun μn47 hμn47 => ?_)
        have hFμn47 : Fr 47 47 1 0 μn47 μ := (by subst hμn47; exact fun o h1 h2 => am_nw_o (by omega))
        clear hμn47
        refine Gx.widen (cs2 := 1) (ss2 := 8) (by omega) (by omega) ?_
        have hs45 := (Xt.ax G (20, nn) q47).sh hs45
        have hs47 : (gS (ax G (20, nn) q47))[47]? = some (20, nn) := (by have h9 := @ax_sh G (20, nn) q47; rw [hlen] at h9; exact h9)
        refine x_astore (ls' := [(3, 13), (2, 45), (0, dN D), (0, g), (0, b), (0, e), (2, 47), (9, 0), (9, 0), (9, 0), (9, 0), (9, 0), (9, 0), (9, 0)]) dL_ways_158 (Nat.le_of_ble_eq_true rfl) rfl (by first | decide | omega) rfl ?_
        refine x_iconst dL_ways_160 ?_
        refine x_istore (ls' := [(3, 13), (2, 45), (0, dN D), (0, g), (0, b), (0, e), (2, 47), (0, 0), (9, 0), (9, 0), (9, 0), (9, 0), (9, 0), (9, 0)]) dL_ways_161 (Nat.le_of_ble_eq_true rfl) rfl rfl ?_
        refine x_iconst dL_ways_163 ?_
        refine x_istore (ls' := [(3, 13), (2, 45), (0, dN D), (0, g), (0, b), (0, e), (2, 47), (0, 0), (0, 0), (9, 0), (9, 0), (9, 0), (9, 0), (9, 0)]) dL_ways_164 (Nat.le_of_ble_eq_true rfl) rfl rfl ?_
        refine x_iconst dL_ways_166 ?_
        refine x_istore (ls' := [(3, 13), (2, 45), (0, dN D), (0, g), (0, b), (0, e), (2, 47), (0, 0), (0, 0), (0, 0), (9, 0), (9, 0), (9, 0), (9, 0)]) dL_ways_167 (Nat.le_of_ble_eq_true rfl) rfl rfl ?_
        refine x_aload_n dL_ways_169 rfl rfl (by first | decide | omega) ?_
        refine x_astore (ls' := [(3, 13), (2, 45), (0, dN D), (0, g), (0, b), (0, e), (2, 47), (0, 0), (0, 0), (0, 0), (2, 45), (9, 0), (9, 0), (9, 0)]) dL_ways_170 (Nat.le_of_ble_eq_true rfl) rfl (by first | decide | omega) rfl ?_
        refine x_aload dL_ways_172 rfl (by first | decide | omega) ?_
        refine x_alen (o := 45) (n := nn) (t := 0) (f := nn) dL_ways_174 rfl hs45 (Nat.le_of_ble_eq_true rfl) rfl ?_
        refine x_istore (ls' := [(3, 13), (2, 45), (0, dN D), (0, g), (0, b), (0, e), (2, 47), (0, 0), (0, 0), (0, 0), (2, 45), (0, (nn : Int)), (9, 0), (9, 0)]) dL_ways_175 (Nat.le_of_ble_eq_true rfl) rfl rfl ?_
        refine x_iconst dL_ways_177 ?_
        refine x_istore (ls' := [(3, 13), (2, 45), (0, dN D), (0, g), (0, b), (0, e), (2, 47), (0, 0), (0, 0), (0, 0), (2, 45), (0, (nn : Int)), (0, 0), (9, 0)]) dL_ways_178 (Nat.le_of_ble_eq_true rfl) rfl rfl ?_
        have hL180 : ∀ (n180 : Nat) (a : Int) (b9 : Int) (c : Int) (j : Int), (dN D - j).toNat = n180 → (0 ≤ j ∧ j ≤ dN D) → (a = hiD D j) → (b9 = loD D j) → (c = suD D j) → Gx (xK G M_L_ways 1 8 (wayP D nn G μ)) (ax G (20, nn) q47) M_L_ways 1 8 180 [(3, 13), (2, 45), (0, dN D), (0, g), (0, b), (0, e), (2, 47), (0, a), (0, b9), (0, c), (2, 45), (0, dN D), (0, j), (9, 0)] [] μn47 := by
          intro n180
          induction n180 using Nat.strongRecOn with
          | ind n180 ih180 =>
            intro a b9 c j hn180 hj0 ha hb hc
            have hr9 := hls_r hok hj0
            refine x_iload dL_ways_180 rfl ?_
            refine x_iload dL_ways_182 rfl ?_
            refine x_icmp_ge (tgt := 226) dL_ways_184 rfl (R32.in (by omega)) (R32.in (by omega)) (fun c184 => ?_) (fun c184 => ?_)
            · skip
              have hje : j = dN D := by omega
              rw [hje] at ha hb hc hr9
              refine x_iload dL_ways_226 rfl ?_
              refine x_iload dL_ways_228 rfl ?_
              have hJ230_1 : ∀ z1_0 : Int, z1_0 = (if a = b9 then (if c = 0 then (if (dH D 0) < 0 then 1 else -1) else (if c ≤ 0 then 1 else -1)) else (if a ≤ b9 then 1 else -1)) → Gx (xK G M_L_ways 1 8 (wayP D nn G μ)) (ax G (20, nn) q47) M_L_ways 1 8 277 [(3, 13), (2, 45), (0, dN D), (0, g), (0, b), (0, e), (2, 47), (0, a), (0, b9), (0, c), (2, 45), (0, dN D), (0, j), (9, 0)] [(0, z1_0)] μn47 := by
                intro z1_0 hz1_0
                refine Gx.topE (b := cway D) (cway_is ha hb hc rfl (by omega)) ?_
                refine x_istore (ls' := [(3, 13), (2, 45), (0, dN D), (0, g), (0, b), (0, e), (2, 47), (0, a), (0, b9), (0, c), (0, cway D), (0, dN D), (0, j), (9, 0)]) dL_ways_277 (Nat.le_of_ble_eq_true rfl) rfl rfl ?_
                refine x_iconst dL_ways_279 ?_
                refine x_istore (ls' := [(3, 13), (2, 45), (0, dN D), (0, g), (0, b), (0, e), (2, 47), (0, a), (0, b9), (0, c), (0, cway D), (0, 0), (0, j), (9, 0)]) dL_ways_280 (Nat.le_of_ble_eq_true rfl) rfl rfl ?_
                have hL282 : ∀ (n282 : Nat) (t : Int) (μ9 : Mu), (dN D - t).toNat = n282 → Fr 47 47 1 0 μ9 μ → (0 ≤ t ∧ t ≤ dN D) → (∀ j : Int, 0 ≤ j → j < t → μ9 47 j = way D j) → Gx (xK G M_L_ways 1 8 (wayP D nn G μ)) (ax G (20, nn) q47) M_L_ways 1 8 282 [(3, 13), (2, 45), (0, dN D), (0, g), (0, b), (0, e), (2, 47), (0, a), (0, b9), (0, c), (0, cway D), (0, t), (9, 0), (9, 0)] [] μ9 := by
                  intro n282
                  induction n282 using Nat.strongRecOn with
                  | ind n282 ih282 =>
                    intro t μ9 hn282 hF282 ht0 hw9
                    refine x_iload dL_ways_282 rfl ?_
                    refine x_iload_n dL_ways_284 rfl rfl ?_
                    refine x_icmp_ge (tgt := 322) dL_ways_285 rfl (R32.in (by omega)) (R32.in (by omega)) (fun c285 => ?_) (fun c285 => ?_)
                    · skip
                      refine x_aload dL_ways_322 rfl (by first | decide | omega) ?_
                      exact x_aret dL_ways_324 rfl (Or.inr ⟨_, rfl⟩) ⟨by omega, by omega⟩ (Xt.ax G (20, nn) q47) (⟨q47, rfl, rfl, (fun i h0 h1 => hw9 i h0 (by omega)), (fun o ho => hF282.at (by omega) (by omega))⟩)
                    · skip
                      refine x_aload dL_ways_288 rfl (by first | decide | omega) ?_
                      refine x_iload dL_ways_290 rfl ?_
                      refine x_iload_n dL_ways_292 rfl rfl ?_
                      refine x_if_ne (tgt := 301) dL_ways_293 rfl (R32.in (by omega)) (fun c293 => ?_) (fun c293 => ?_)
                      · skip
                        refine x_aload_n dL_ways_301 rfl rfl (by first | decide | omega) ?_
                        refine x_iload dL_ways_302 rfl ?_
                        refine x_ialdx (o := 45) (n := nn) (x := dH D t) dL_ways_304 rfl hs45 (by omega) (by omega) ((congrFun (hF282.at (by omega) (by omega)) _).trans (hH.p (by omega))) ?_
                        have hr1 := (hH.ok).hr (i := t) (by omega)
                        refine x_iload dL_ways_305 rfl ?_
                        refine x_icmp_le (tgt := 314) dL_ways_307 rfl (R32.in (by omega)) (R32.in (by omega)) (fun c307 => ?_) (fun c307 => ?_)
                        · skip
                          refine x_iconst dL_ways_314 ?_
                          refine x_iast (o := 47) (n := nn) dL_ways_315 rfl hs47 (by omega) (by omega) (by omega) ?_
                          refine x_iinc (ls' := [(3, 13), (2, 45), (0, dN D), (0, g), (0, b), (0, e), (2, 47), (0, a), (0, b9), (0, c), (0, cway D), (0, t + 1), (9, 0), (9, 0)]) dL_ways_316 rfl (Nat.le_of_ble_eq_true rfl) rfl rfl ?_
                          refine x_goto (tgt := 282) dL_ways_319 rfl ?_
                          exact ih282 _ (by omega) (t + 1) (am_up μ9 47 t 1) rfl (hF282.up (by omega)) (by first | omega | assumption) (fillr hw9 (by unfold way; omega))
                        · skip
                          refine x_iconst dL_ways_310 ?_
                          refine x_goto (tgt := 315) dL_ways_311 rfl ?_
                          refine x_iast (o := 47) (n := nn) dL_ways_315 rfl hs47 (by omega) (by omega) (by omega) ?_
                          refine x_iinc (ls' := [(3, 13), (2, 45), (0, dN D), (0, g), (0, b), (0, e), (2, 47), (0, a), (0, b9), (0, c), (0, cway D), (0, t + 1), (9, 0), (9, 0)]) dL_ways_316 rfl (Nat.le_of_ble_eq_true rfl) rfl rfl ?_
                          refine x_goto (tgt := 282) dL_ways_319 rfl ?_
                          exact ih282 _ (by omega) (t + 1) (am_up μ9 47 t (-1)) rfl (hF282.up (by omega)) (by first | omega | assumption) (fillr hw9 (by unfold way; omega))
                      · skip
                        refine x_iload dL_ways_296 rfl ?_
                        refine x_goto (tgt := 315) dL_ways_298 rfl ?_
                        refine x_iast (o := 47) (n := nn) dL_ways_315 rfl hs47 (by omega) (by omega) (by omega) ?_
                        refine x_iinc (ls' := [(3, 13), (2, 45), (0, dN D), (0, g), (0, b), (0, e), (2, 47), (0, a), (0, b9), (0, c), (0, cway D), (0, t + 1), (9, 0), (9, 0)]) dL_ways_316 rfl (Nat.le_of_ble_eq_true rfl) rfl rfl ?_
                        refine x_goto (tgt := 282) dL_ways_319 rfl ?_
                        exact ih282 _ (by omega) (t + 1) (am_up μ9 47 t (cway D)) rfl (hF282.up (by omega)) (by first | omega | assumption) (fillr hw9 (by unfold way; omega))
                refine Gx.fgl (ls' := [(3, 13), (2, 45), (0, dN D), (0, g), (0, b), (0, e), (2, 47), (0, a), (0, b9), (0, c), (0, cway D), (0, 0), (9, 0), (9, 0)]) 12 rfl ?_
                exact hL282 _ 0 μn47 rfl hFμn47 (by first | omega | assumption) (fun j h1 h2 => by omega)
              refine x_icmp_eq (tgt := 248) dL_ways_230 rfl (R32.in (by omega)) (R32.in (by omega)) (fun c230 => ?_) (fun c230 => ?_)
              · skip
                refine x_iload dL_ways_248 rfl ?_
                refine x_if_eq (tgt := 266) dL_ways_250 rfl (R32.in (by omega)) (fun c250 => ?_) (fun c250 => ?_)
                · skip
                  refine x_aload_n dL_ways_266 rfl rfl (by first | decide | omega) ?_
                  refine x_iconst dL_ways_267 ?_
                  refine x_ialdx (o := 45) (n := nn) (x := dH D 0) dL_ways_268 rfl hs45 (by omega) (by omega) ((congrFun (hFμn47.at (by omega) (by omega)) _).trans (hH.p (by omega))) ?_
                  have hr2 := (hH.ok).hr (i := 0) (by omega)
                  refine x_if_lt (tgt := 276) dL_ways_269 rfl (R32.in (by omega)) (fun c269 => ?_) (fun c269 => ?_)
                  · skip
                    refine x_iconst dL_ways_276 ?_
                    exact hJ230_1 _ (by first | omega | simp [*])
                  · skip
                    refine x_iconst dL_ways_272 ?_
                    refine x_goto (tgt := 277) dL_ways_273 rfl ?_
                    exact hJ230_1 _ (by first | omega | simp [*])
                · skip
                  refine x_iload dL_ways_253 rfl ?_
                  refine x_if_le (tgt := 262) dL_ways_255 rfl (R32.in (by omega)) (fun c255 => ?_) (fun c255 => ?_)
                  · skip
                    refine x_iconst dL_ways_262 ?_
                    refine x_goto (tgt := 277) dL_ways_263 rfl ?_
                    exact hJ230_1 _ (by first | omega | simp [*])
                  · skip
                    refine x_iconst dL_ways_258 ?_
                    refine x_goto (tgt := 277) dL_ways_259 rfl ?_
                    exact hJ230_1 _ (by first | omega | simp [*])
              · skip
                refine x_iload dL_ways_233 rfl ?_
                refine x_iload dL_ways_235 rfl ?_
                refine x_icmp_le (tgt := 244) dL_ways_237 rfl (R32.in (by omega)) (R32.in (by omega)) (fun c237 => ?_) (fun c237 => ?_)
                · skip
                  refine x_iconst dL_ways_244 ?_
                  refine x_goto (tgt := 277) dL_ways_245 rfl ?_
                  exact hJ230_1 _ (by first | omega | simp [*])
                · skip
                  refine x_iconst dL_ways_240 ?_
                  refine x_goto (tgt := 277) dL_ways_241 rfl ?_
                  exact hJ230_1 _ (by first | omega | simp [*])
            · skip
              refine x_aload dL_ways_187 rfl (by first | decide | omega) ?_
              refine x_iload dL_ways_189 rfl ?_
              refine x_ialdx (o := 45) (n := nn) (x := dH D j) dL_ways_191 rfl hs45 (by omega) (by omega) ((congrFun (hFμn47.at (by omega) (by omega)) _).trans (hH.p (by omega))) ?_
              have hr3 := (hH.ok).hr (i := j) (by omega)
              refine x_istore (ls' := [(3, 13), (2, 45), (0, dN D), (0, g), (0, b), (0, e), (2, 47), (0, a), (0, b9), (0, c), (2, 45), (0, dN D), (0, j), (0, dH D j)]) dL_ways_192 (Nat.le_of_ble_eq_true rfl) rfl rfl ?_
              refine x_iload dL_ways_194 rfl ?_
              refine x_iload dL_ways_196 rfl ?_
              refine x_max fL_ways_198 (R32.in (by omega)) (R32.in (by omega)) (Nat.le_of_ble_eq_true rfl) ⟨Nat.le_of_ble_eq_true rfl, Nat.le_of_ble_eq_true rfl, show 1 ≤ 1 by omega, show 8 ≤ 8 by omega⟩ ?_
              refine x_istore (ls' := [(3, 13), (2, 45), (0, dN D), (0, g), (0, b), (0, e), (2, 47), (0, max a (dH D j)), (0, b9), (0, c), (2, 45), (0, dN D), (0, j), (0, dH D j)]) dL_ways_201 (Nat.le_of_ble_eq_true rfl) rfl rfl ?_
              refine x_iload dL_ways_203 rfl ?_
              refine x_iload dL_ways_205 rfl ?_
              refine x_ineg dL_ways_207 ?_
              refine x_max fL_ways_208 (R32.in (by omega)) (R32.in (by omega)) (Nat.le_of_ble_eq_true rfl) ⟨Nat.le_of_ble_eq_true rfl, Nat.le_of_ble_eq_true rfl, show 1 ≤ 1 by omega, show 8 ≤ 8 by omega⟩ ?_
              refine x_istore (ls' := [(3, 13), (2, 45), (0, dN D), (0, g), (0, b), (0, e), (2, 47), (0, max a (dH D j)), (0, max b9 (-(dH D j))), (0, c), (2, 45), (0, dN D), (0, j), (0, dH D j)]) dL_ways_211 (Nat.le_of_ble_eq_true rfl) rfl rfl ?_
              refine x_iload dL_ways_213 rfl ?_
              refine x_iload dL_ways_215 rfl ?_
              refine x_iadd dL_ways_217 ?_
              refine x_istore (ls' := [(3, 13), (2, 45), (0, dN D), (0, g), (0, b), (0, e), (2, 47), (0, max a (dH D j)), (0, max b9 (-(dH D j))), (0, c + (dH D j)), (2, 45), (0, dN D), (0, j), (0, dH D j)]) dL_ways_218 (Nat.le_of_ble_eq_true rfl) rfl rfl ?_
              refine x_iinc (ls' := [(3, 13), (2, 45), (0, dN D), (0, g), (0, b), (0, e), (2, 47), (0, max a (dH D j)), (0, max b9 (-(dH D j))), (0, c + (dH D j)), (2, 45), (0, dN D), (0, j + 1), (0, dH D j)]) dL_ways_220 rfl (Nat.le_of_ble_eq_true rfl) rfl rfl ?_
              refine x_goto (tgt := 180) dL_ways_223 rfl ?_
              refine Gx.fgl (ls' := [(3, 13), (2, 45), (0, dN D), (0, g), (0, b), (0, e), (2, 47), (0, max a (dH D j)), (0, max b9 (-(dH D j))), (0, c + (dH D j)), (2, 45), (0, dN D), (0, j + 1), (9, 0)]) 13 rfl ?_
              exact ih180 _ (by omega) (max a (dH D j)) (max b9 (-(dH D j))) (c + (dH D j)) (j + 1) rfl (by first | omega | assumption) (by rw [hiD_s hj0.1, ha]) (by rw [loD_s hj0.1, hb]) (by rw [suD_s hj0.1, hc])
        refine Gx.lcg (t := 0) (a := (nn : Int)) (b := dN D) (ls' := [(3, 13), (2, 45), (0, dN D), (0, g), (0, b), (0, e), (2, 47), (0, 0), (0, 0), (0, 0), (2, 45), (0, dN D), (0, 0), (9, 0)]) 11 (by omega) rfl rfl ?_
        exact hL180 _ 0 0 0 0 rfl (by first | omega | assumption) rfl rfl rfl
      · skip
        refine x_bipush dL_ways_20 (by decide) ?_
        refine x_istore (ls' := [(3, 13), (2, 45), (0, dN D), (0, g), (0, b), (0, e), (0, i), (0, 99), (9, 0), (9, 0), (9, 0), (9, 0), (9, 0), (9, 0)]) dL_ways_22 (Nat.le_of_ble_eq_true rfl) rfl rfl ?_
        refine x_iconst dL_ways_24 ?_
        refine x_istore (ls' := [(3, 13), (2, 45), (0, dN D), (0, g), (0, b), (0, e), (0, i), (0, 99), (0, 0), (9, 0), (9, 0), (9, 0), (9, 0), (9, 0)]) dL_ways_25 (Nat.le_of_ble_eq_true rfl) rfl rfl ?_
        have hL27 : ∀ (n27 : Nat) (x : Int) (k : Int), (dN D - k).toNat = n27 → (0 ≤ k ∧ k ≤ dN D) → (x = nxI D (dH D i) k) → Gx (xK G M_L_ways 1 8 (wayP D nn G μ)) G M_L_ways 0 0 27 [(3, 13), (2, 45), (0, dN D), (0, g), (0, b), (0, e), (0, i), (0, x), (0, k), (9, 0), (9, 0), (9, 0), (9, 0), (9, 0)] [] μ := by
          intro n27
          induction n27 using Nat.strongRecOn with
          | ind n27 ih27 =>
            intro x k hn27 hk0 hxk
            have hxr := nxI_r hok (p := dH D i) hk0
            refine x_iload dL_ways_27 rfl ?_
            refine x_iload_n dL_ways_29 rfl rfl ?_
            refine x_icmp_ge (tgt := 61) dL_ways_30 rfl (R32.in (by omega)) (R32.in (by omega)) (fun c30 => ?_) (fun c30 => ?_)
            · skip
              refine x_iload dL_ways_61 rfl ?_
              refine x_aload_n dL_ways_63 rfl rfl (by first | decide | omega) ?_
              refine x_iload dL_ways_64 rfl ?_
              refine x_ialdx (o := 45) (n := nn) (x := dH D i) dL_ways_66 rfl hs45 (by omega) (by omega) (hH.p (by omega)) ?_
              have hr4 := (hH.ok).hr (i := i) (by omega)
              refine x_isub dL_ways_67 ?_
              refine x_istore (ls' := [(3, 13), (2, 45), (0, dN D), (0, g), (0, b), (0, e), (0, i), (0, x), (0, x - (dH D i)), (9, 0), (9, 0), (9, 0), (9, 0), (9, 0)]) dL_ways_68 (Nat.le_of_ble_eq_true rfl) rfl rfl ?_
              refine x_iload dL_ways_70 rfl ?_
              refine x_aload_n dL_ways_72 rfl rfl (by first | decide | omega) ?_
              refine x_iload dL_ways_73 rfl ?_
              refine x_ialdx (o := 45) (n := nn) (x := dH D i) dL_ways_75 rfl hs45 (by omega) (by omega) (hH.p (by omega)) ?_
              refine x_iadd dL_ways_76 ?_
              refine x_abs fL_ways_77 (R32.in (by omega)) (Nat.le_of_ble_eq_true rfl) ⟨Nat.le_of_ble_eq_true rfl, Nat.le_of_ble_eq_true rfl, show 0 ≤ 1 by omega, show 0 ≤ 8 by omega⟩ ?_
              refine x_istore (ls' := [(3, 13), (2, 45), (0, dN D), (0, g), (0, b), (0, e), (0, i), (0, x), (0, x - (dH D i)), (0, if 0 ≤ x + (dH D i) then x + (dH D i) else -(x + (dH D i))), (9, 0), (9, 0), (9, 0), (9, 0)]) dL_ways_80 (Nat.le_of_ble_eq_true rfl) rfl rfl ?_
              have hx : x = nxt D i := (by rw [hxk, show k = dN D by omega]; rfl)
              have hxr2 := nxt_r hok (i := i) (by omega)
              refine x_iload dL_ways_82 rfl ?_
              refine x_bipush dL_ways_84 (by decide) ?_
              refine x_icmp_eq (tgt := 149) dL_ways_86 rfl (R32.in (by omega)) (R32.in (by decide)) (fun c86 => ?_) (fun c86 => ?_)
              · skip
                refine x_iinc (ls' := [(3, 13), (2, 45), (0, dN D), (0, g), (0, b), (0, e), (0, i + 1), (0, x), (0, x - (dH D i)), (0, if 0 ≤ x + (dH D i) then x + (dH D i) else -(x + (dH D i))), (9, 0), (9, 0), (9, 0), (9, 0)]) dL_ways_149 rfl (Nat.le_of_ble_eq_true rfl) rfl rfl ?_
                refine x_goto (tgt := 14) dL_ways_152 rfl ?_
                refine Gx.fgl (ls' := [(3, 13), (2, 45), (0, dN D), (0, g), (0, b), (0, e), (0, i + 1), (9, 0), (0, x - (dH D i)), (0, if 0 ≤ x + (dH D i) then x + (dH D i) else -(x + (dH D i))), (9, 0), (9, 0), (9, 0), (9, 0)]) 7 rfl ?_
                refine Gx.fgl (ls' := [(3, 13), (2, 45), (0, dN D), (0, g), (0, b), (0, e), (0, i + 1), (9, 0), (9, 0), (0, if 0 ≤ x + (dH D i) then x + (dH D i) else -(x + (dH D i))), (9, 0), (9, 0), (9, 0), (9, 0)]) 8 rfl ?_
                refine Gx.fgl (ls' := [(3, 13), (2, 45), (0, dN D), (0, g), (0, b), (0, e), (0, i + 1), (9, 0), (9, 0), (9, 0), (9, 0), (9, 0), (9, 0), (9, 0)]) 9 rfl ?_
                exact ih14 _ (by omega) g b e (i + 1) rfl (by first | omega | assumption) (by first | exact lkI_s1 hok (by omega) hx hlk (by omega) | exact lkI_s2 hok (by omega) hx hlk (by omega) (by omega) (by unfold ab; omega) | exact lkI_s3 hok (by omega) hx hlk (by omega) (by omega) (by omega) (by unfold ab; omega) (by unfold ab; omega))
              · skip
                refine x_iload dL_ways_89 rfl ?_
                refine x_aload_nS dL_ways_91 rfl rfl ?_
                refine x_callSP (as := [(3, 13)]) (rest := [(0, x - (dH D i))]) (k := 0) fL_ways_92.g ⟨Nat.le_of_ble_eq_true rfl, Nat.le_of_ble_eq_true rfl⟩ ⟨show 0 ≤ 1 by omega, show 0 ≤ 8 by omega⟩ xK_A hw rfl rfl rfl rfl rfl (Nat.le_of_ble_eq_true rfl) ⟨nt_no (by decide), trivial⟩ (by decide) (s_L_knee G μ hk4) ?_
                have hf5 := lkn_r G
                refine x_icmp_lt (tgt := 149) dL_ways_95 rfl (R32.in (by omega)) (R32.in (by omega)) (fun c95 => ?_) (fun c95 => ?_)
                · skip
                  refine x_iinc (ls' := [(3, 13), (2, 45), (0, dN D), (0, g), (0, b), (0, e), (0, i + 1), (0, x), (0, x - (dH D i)), (0, if 0 ≤ x + (dH D i) then x + (dH D i) else -(x + (dH D i))), (9, 0), (9, 0), (9, 0), (9, 0)]) dL_ways_149 rfl (Nat.le_of_ble_eq_true rfl) rfl rfl ?_
                  refine x_goto (tgt := 14) dL_ways_152 rfl ?_
                  refine Gx.fgl (ls' := [(3, 13), (2, 45), (0, dN D), (0, g), (0, b), (0, e), (0, i + 1), (9, 0), (0, x - (dH D i)), (0, if 0 ≤ x + (dH D i) then x + (dH D i) else -(x + (dH D i))), (9, 0), (9, 0), (9, 0), (9, 0)]) 7 rfl ?_
                  refine Gx.fgl (ls' := [(3, 13), (2, 45), (0, dN D), (0, g), (0, b), (0, e), (0, i + 1), (9, 0), (9, 0), (0, if 0 ≤ x + (dH D i) then x + (dH D i) else -(x + (dH D i))), (9, 0), (9, 0), (9, 0), (9, 0)]) 8 rfl ?_
                  refine Gx.fgl (ls' := [(3, 13), (2, 45), (0, dN D), (0, g), (0, b), (0, e), (0, i + 1), (9, 0), (9, 0), (9, 0), (9, 0), (9, 0), (9, 0), (9, 0)]) 9 rfl ?_
                  exact ih14 _ (by omega) g b e (i + 1) rfl (by first | omega | assumption) (by first | exact lkI_s1 hok (by omega) hx hlk (by omega) | exact lkI_s2 hok (by omega) hx hlk (by omega) (by omega) (by unfold ab; omega) | exact lkI_s3 hok (by omega) hx hlk (by omega) (by omega) (by omega) (by unfold ab; omega) (by unfold ab; omega))
                · skip
                  refine x_iload dL_ways_98 rfl ?_
                  refine x_iload_n dL_ways_100 rfl rfl ?_
                  refine x_icmp_ge (tgt := 107) dL_ways_101 rfl (R32.in (by omega)) (R32.in (by omega)) (fun c101 => ?_) (fun c101 => ?_)
                  · skip
                    refine x_iload dL_ways_107 rfl ?_
                    refine x_iload_n dL_ways_109 rfl rfl ?_
                    refine x_icmp_gt (tgt := 136) dL_ways_110 rfl (R32.in (by omega)) (R32.in (by omega)) (fun c110 => ?_) (fun c110 => ?_)
                    · skip
                      refine x_iload dL_ways_136 rfl ?_
                      refine x_istore_n (ls' := [(3, 13), (2, 45), (0, dN D), (0, x - (dH D i)), (0, b), (0, e), (0, i), (0, x), (0, x - (dH D i)), (0, if 0 ≤ x + (dH D i) then x + (dH D i) else -(x + (dH D i))), (9, 0), (9, 0), (9, 0), (9, 0)]) dL_ways_138 rfl (Nat.le_of_ble_eq_true rfl) rfl rfl ?_
                      refine x_aload_n dL_ways_139 rfl rfl (by first | decide | omega) ?_
                      refine x_iload dL_ways_140 rfl ?_
                      refine x_ialdx (o := 45) (n := nn) (x := dH D i) dL_ways_142 rfl hs45 (by omega) (by omega) (hH.p (by omega)) ?_
                      refine x_istore (ls' := [(3, 13), (2, 45), (0, dN D), (0, x - (dH D i)), (0, dH D i), (0, e), (0, i), (0, x), (0, x - (dH D i)), (0, if 0 ≤ x + (dH D i) then x + (dH D i) else -(x + (dH D i))), (9, 0), (9, 0), (9, 0), (9, 0)]) dL_ways_143 (Nat.le_of_ble_eq_true rfl) rfl rfl ?_
                      refine x_iload dL_ways_145 rfl ?_
                      refine x_istore (ls' := [(3, 13), (2, 45), (0, dN D), (0, x - (dH D i)), (0, dH D i), (0, if 0 ≤ x + (dH D i) then x + (dH D i) else -(x + (dH D i))), (0, i), (0, x), (0, x - (dH D i)), (0, if 0 ≤ x + (dH D i) then x + (dH D i) else -(x + (dH D i))), (9, 0), (9, 0), (9, 0), (9, 0)]) dL_ways_147 (Nat.le_of_ble_eq_true rfl) rfl rfl ?_
                      refine x_iinc (ls' := [(3, 13), (2, 45), (0, dN D), (0, x - (dH D i)), (0, dH D i), (0, if 0 ≤ x + (dH D i) then x + (dH D i) else -(x + (dH D i))), (0, i + 1), (0, x), (0, x - (dH D i)), (0, if 0 ≤ x + (dH D i) then x + (dH D i) else -(x + (dH D i))), (9, 0), (9, 0), (9, 0), (9, 0)]) dL_ways_149 rfl (Nat.le_of_ble_eq_true rfl) rfl rfl ?_
                      refine x_goto (tgt := 14) dL_ways_152 rfl ?_
                      refine Gx.fgl (ls' := [(3, 13), (2, 45), (0, dN D), (0, x - (dH D i)), (0, dH D i), (0, if 0 ≤ x + (dH D i) then x + (dH D i) else -(x + (dH D i))), (0, i + 1), (9, 0), (0, x - (dH D i)), (0, if 0 ≤ x + (dH D i) then x + (dH D i) else -(x + (dH D i))), (9, 0), (9, 0), (9, 0), (9, 0)]) 7 rfl ?_
                      refine Gx.fgl (ls' := [(3, 13), (2, 45), (0, dN D), (0, x - (dH D i)), (0, dH D i), (0, if 0 ≤ x + (dH D i) then x + (dH D i) else -(x + (dH D i))), (0, i + 1), (9, 0), (9, 0), (0, if 0 ≤ x + (dH D i) then x + (dH D i) else -(x + (dH D i))), (9, 0), (9, 0), (9, 0), (9, 0)]) 8 rfl ?_
                      refine Gx.fgl (ls' := [(3, 13), (2, 45), (0, dN D), (0, x - (dH D i)), (0, dH D i), (0, if 0 ≤ x + (dH D i) then x + (dH D i) else -(x + (dH D i))), (0, i + 1), (9, 0), (9, 0), (9, 0), (9, 0), (9, 0), (9, 0), (9, 0)]) 9 rfl ?_
                      exact ih14 _ (by omega) (x - (dH D i)) (dH D i) (if 0 ≤ x + (dH D i) then x + (dH D i) else -(x + (dH D i))) (i + 1) rfl (by first | omega | assumption) (by first | exact lkI_s1 hok (by omega) hx hlk (by omega) | exact lkI_s2 hok (by omega) hx hlk (by omega) (by omega) (by unfold ab; omega) | exact lkI_s3 hok (by omega) hx hlk (by omega) (by omega) (by omega) (by unfold ab; omega) (by unfold ab; omega))
                    · skip
                      refine x_iload dL_ways_113 rfl ?_
                      refine x_iload dL_ways_115 rfl ?_
                      refine x_icmp_lt (tgt := 136) dL_ways_117 rfl (R32.in (by omega)) (R32.in (by omega)) (fun c117 => ?_) (fun c117 => ?_)
                      · skip
                        refine x_iload dL_ways_136 rfl ?_
                        refine x_istore_n (ls' := [(3, 13), (2, 45), (0, dN D), (0, x - (dH D i)), (0, b), (0, e), (0, i), (0, x), (0, x - (dH D i)), (0, if 0 ≤ x + (dH D i) then x + (dH D i) else -(x + (dH D i))), (9, 0), (9, 0), (9, 0), (9, 0)]) dL_ways_138 rfl (Nat.le_of_ble_eq_true rfl) rfl rfl ?_
                        refine x_aload_n dL_ways_139 rfl rfl (by first | decide | omega) ?_
                        refine x_iload dL_ways_140 rfl ?_
                        refine x_ialdx (o := 45) (n := nn) (x := dH D i) dL_ways_142 rfl hs45 (by omega) (by omega) (hH.p (by omega)) ?_
                        refine x_istore (ls' := [(3, 13), (2, 45), (0, dN D), (0, x - (dH D i)), (0, dH D i), (0, e), (0, i), (0, x), (0, x - (dH D i)), (0, if 0 ≤ x + (dH D i) then x + (dH D i) else -(x + (dH D i))), (9, 0), (9, 0), (9, 0), (9, 0)]) dL_ways_143 (Nat.le_of_ble_eq_true rfl) rfl rfl ?_
                        refine x_iload dL_ways_145 rfl ?_
                        refine x_istore (ls' := [(3, 13), (2, 45), (0, dN D), (0, x - (dH D i)), (0, dH D i), (0, if 0 ≤ x + (dH D i) then x + (dH D i) else -(x + (dH D i))), (0, i), (0, x), (0, x - (dH D i)), (0, if 0 ≤ x + (dH D i) then x + (dH D i) else -(x + (dH D i))), (9, 0), (9, 0), (9, 0), (9, 0)]) dL_ways_147 (Nat.le_of_ble_eq_true rfl) rfl rfl ?_
                        refine x_iinc (ls' := [(3, 13), (2, 45), (0, dN D), (0, x - (dH D i)), (0, dH D i), (0, if 0 ≤ x + (dH D i) then x + (dH D i) else -(x + (dH D i))), (0, i + 1), (0, x), (0, x - (dH D i)), (0, if 0 ≤ x + (dH D i) then x + (dH D i) else -(x + (dH D i))), (9, 0), (9, 0), (9, 0), (9, 0)]) dL_ways_149 rfl (Nat.le_of_ble_eq_true rfl) rfl rfl ?_
                        refine x_goto (tgt := 14) dL_ways_152 rfl ?_
                        refine Gx.fgl (ls' := [(3, 13), (2, 45), (0, dN D), (0, x - (dH D i)), (0, dH D i), (0, if 0 ≤ x + (dH D i) then x + (dH D i) else -(x + (dH D i))), (0, i + 1), (9, 0), (0, x - (dH D i)), (0, if 0 ≤ x + (dH D i) then x + (dH D i) else -(x + (dH D i))), (9, 0), (9, 0), (9, 0), (9, 0)]) 7 rfl ?_
                        refine Gx.fgl (ls' := [(3, 13), (2, 45), (0, dN D), (0, x - (dH D i)), (0, dH D i), (0, if 0 ≤ x + (dH D i) then x + (dH D i) else -(x + (dH D i))), (0, i + 1), (9, 0), (9, 0), (0, if 0 ≤ x + (dH D i) then x + (dH D i) else -(x + (dH D i))), (9, 0), (9, 0), (9, 0), (9, 0)]) 8 rfl ?_
                        refine Gx.fgl (ls' := [(3, 13), (2, 45), (0, dN D), (0, x - (dH D i)), (0, dH D i), (0, if 0 ≤ x + (dH D i) then x + (dH D i) else -(x + (dH D i))), (0, i + 1), (9, 0), (9, 0), (9, 0), (9, 0), (9, 0), (9, 0), (9, 0)]) 9 rfl ?_
                        exact ih14 _ (by omega) (x - (dH D i)) (dH D i) (if 0 ≤ x + (dH D i) then x + (dH D i) else -(x + (dH D i))) (i + 1) rfl (by first | omega | assumption) (by first | exact lkI_s1 hok (by omega) hx hlk (by omega) | exact lkI_s2 hok (by omega) hx hlk (by omega) (by omega) (by unfold ab; omega) | exact lkI_s3 hok (by omega) hx hlk (by omega) (by omega) (by omega) (by unfold ab; omega) (by unfold ab; omega))
                      · skip
                        refine x_iload dL_ways_120 rfl ?_
                        refine x_iload dL_ways_122 rfl ?_
                        refine x_icmp_ne (tgt := 149) dL_ways_124 rfl (R32.in (by omega)) (R32.in (by omega)) (fun c124 => ?_) (fun c124 => ?_)
                        · skip
                          refine x_iinc (ls' := [(3, 13), (2, 45), (0, dN D), (0, g), (0, b), (0, e), (0, i + 1), (0, x), (0, x - (dH D i)), (0, if 0 ≤ x + (dH D i) then x + (dH D i) else -(x + (dH D i))), (9, 0), (9, 0), (9, 0), (9, 0)]) dL_ways_149 rfl (Nat.le_of_ble_eq_true rfl) rfl rfl ?_
                          refine x_goto (tgt := 14) dL_ways_152 rfl ?_
                          refine Gx.fgl (ls' := [(3, 13), (2, 45), (0, dN D), (0, g), (0, b), (0, e), (0, i + 1), (9, 0), (0, x - (dH D i)), (0, if 0 ≤ x + (dH D i) then x + (dH D i) else -(x + (dH D i))), (9, 0), (9, 0), (9, 0), (9, 0)]) 7 rfl ?_
                          refine Gx.fgl (ls' := [(3, 13), (2, 45), (0, dN D), (0, g), (0, b), (0, e), (0, i + 1), (9, 0), (9, 0), (0, if 0 ≤ x + (dH D i) then x + (dH D i) else -(x + (dH D i))), (9, 0), (9, 0), (9, 0), (9, 0)]) 8 rfl ?_
                          refine Gx.fgl (ls' := [(3, 13), (2, 45), (0, dN D), (0, g), (0, b), (0, e), (0, i + 1), (9, 0), (9, 0), (9, 0), (9, 0), (9, 0), (9, 0), (9, 0)]) 9 rfl ?_
                          exact ih14 _ (by omega) g b e (i + 1) rfl (by first | omega | assumption) (by first | exact lkI_s1 hok (by omega) hx hlk (by omega) | exact lkI_s2 hok (by omega) hx hlk (by omega) (by omega) (by unfold ab; omega) | exact lkI_s3 hok (by omega) hx hlk (by omega) (by omega) (by omega) (by unfold ab; omega) (by unfold ab; omega))
                        · skip
                          refine x_aload_n dL_ways_127 rfl rfl (by first | decide | omega) ?_
                          refine x_iload dL_ways_128 rfl ?_
                          refine x_ialdx (o := 45) (n := nn) (x := dH D i) dL_ways_130 rfl hs45 (by omega) (by omega) (hH.p (by omega)) ?_
                          refine x_iload dL_ways_131 rfl ?_
                          refine x_icmp_ge (tgt := 149) dL_ways_133 rfl (R32.in (by omega)) (R32.in (by omega)) (fun c133 => ?_) (fun c133 => ?_)
                          · skip
                            refine x_iinc (ls' := [(3, 13), (2, 45), (0, dN D), (0, g), (0, b), (0, e), (0, i + 1), (0, x), (0, x - (dH D i)), (0, if 0 ≤ x + (dH D i) then x + (dH D i) else -(x + (dH D i))), (9, 0), (9, 0), (9, 0), (9, 0)]) dL_ways_149 rfl (Nat.le_of_ble_eq_true rfl) rfl rfl ?_
                            refine x_goto (tgt := 14) dL_ways_152 rfl ?_
                            refine Gx.fgl (ls' := [(3, 13), (2, 45), (0, dN D), (0, g), (0, b), (0, e), (0, i + 1), (9, 0), (0, x - (dH D i)), (0, if 0 ≤ x + (dH D i) then x + (dH D i) else -(x + (dH D i))), (9, 0), (9, 0), (9, 0), (9, 0)]) 7 rfl ?_
                            refine Gx.fgl (ls' := [(3, 13), (2, 45), (0, dN D), (0, g), (0, b), (0, e), (0, i + 1), (9, 0), (9, 0), (0, if 0 ≤ x + (dH D i) then x + (dH D i) else -(x + (dH D i))), (9, 0), (9, 0), (9, 0), (9, 0)]) 8 rfl ?_
                            refine Gx.fgl (ls' := [(3, 13), (2, 45), (0, dN D), (0, g), (0, b), (0, e), (0, i + 1), (9, 0), (9, 0), (9, 0), (9, 0), (9, 0), (9, 0), (9, 0)]) 9 rfl ?_
                            exact ih14 _ (by omega) g b e (i + 1) rfl (by first | omega | assumption) (by first | exact lkI_s1 hok (by omega) hx hlk (by omega) | exact lkI_s2 hok (by omega) hx hlk (by omega) (by omega) (by unfold ab; omega) | exact lkI_s3 hok (by omega) hx hlk (by omega) (by omega) (by omega) (by unfold ab; omega) (by unfold ab; omega))
                          · skip
                            refine x_iload dL_ways_136 rfl ?_
                            refine x_istore_n (ls' := [(3, 13), (2, 45), (0, dN D), (0, x - (dH D i)), (0, b), (0, e), (0, i), (0, x), (0, x - (dH D i)), (0, if 0 ≤ x + (dH D i) then x + (dH D i) else -(x + (dH D i))), (9, 0), (9, 0), (9, 0), (9, 0)]) dL_ways_138 rfl (Nat.le_of_ble_eq_true rfl) rfl rfl ?_
                            refine x_aload_n dL_ways_139 rfl rfl (by first | decide | omega) ?_
                            refine x_iload dL_ways_140 rfl ?_
                            refine x_ialdx (o := 45) (n := nn) (x := dH D i) dL_ways_142 rfl hs45 (by omega) (by omega) (hH.p (by omega)) ?_
                            refine x_istore (ls' := [(3, 13), (2, 45), (0, dN D), (0, x - (dH D i)), (0, dH D i), (0, e), (0, i), (0, x), (0, x - (dH D i)), (0, if 0 ≤ x + (dH D i) then x + (dH D i) else -(x + (dH D i))), (9, 0), (9, 0), (9, 0), (9, 0)]) dL_ways_143 (Nat.le_of_ble_eq_true rfl) rfl rfl ?_
                            refine x_iload dL_ways_145 rfl ?_
                            refine x_istore (ls' := [(3, 13), (2, 45), (0, dN D), (0, x - (dH D i)), (0, dH D i), (0, if 0 ≤ x + (dH D i) then x + (dH D i) else -(x + (dH D i))), (0, i), (0, x), (0, x - (dH D i)), (0, if 0 ≤ x + (dH D i) then x + (dH D i) else -(x + (dH D i))), (9, 0), (9, 0), (9, 0), (9, 0)]) dL_ways_147 (Nat.le_of_ble_eq_true rfl) rfl rfl ?_
                            refine x_iinc (ls' := [(3, 13), (2, 45), (0, dN D), (0, x - (dH D i)), (0, dH D i), (0, if 0 ≤ x + (dH D i) then x + (dH D i) else -(x + (dH D i))), (0, i + 1), (0, x), (0, x - (dH D i)), (0, if 0 ≤ x + (dH D i) then x + (dH D i) else -(x + (dH D i))), (9, 0), (9, 0), (9, 0), (9, 0)]) dL_ways_149 rfl (Nat.le_of_ble_eq_true rfl) rfl rfl ?_
                            refine x_goto (tgt := 14) dL_ways_152 rfl ?_
                            refine Gx.fgl (ls' := [(3, 13), (2, 45), (0, dN D), (0, x - (dH D i)), (0, dH D i), (0, if 0 ≤ x + (dH D i) then x + (dH D i) else -(x + (dH D i))), (0, i + 1), (9, 0), (0, x - (dH D i)), (0, if 0 ≤ x + (dH D i) then x + (dH D i) else -(x + (dH D i))), (9, 0), (9, 0), (9, 0), (9, 0)]) 7 rfl ?_
                            refine Gx.fgl (ls' := [(3, 13), (2, 45), (0, dN D), (0, x - (dH D i)), (0, dH D i), (0, if 0 ≤ x + (dH D i) then x + (dH D i) else -(x + (dH D i))), (0, i + 1), (9, 0), (9, 0), (0, if 0 ≤ x + (dH D i) then x + (dH D i) else -(x + (dH D i))), (9, 0), (9, 0), (9, 0), (9, 0)]) 8 rfl ?_
                            refine Gx.fgl (ls' := [(3, 13), (2, 45), (0, dN D), (0, x - (dH D i)), (0, dH D i), (0, if 0 ≤ x + (dH D i) then x + (dH D i) else -(x + (dH D i))), (0, i + 1), (9, 0), (9, 0), (9, 0), (9, 0), (9, 0), (9, 0), (9, 0)]) 9 rfl ?_
                            exact ih14 _ (by omega) (x - (dH D i)) (dH D i) (if 0 ≤ x + (dH D i) then x + (dH D i) else -(x + (dH D i))) (i + 1) rfl (by first | omega | assumption) (by first | exact lkI_s1 hok (by omega) hx hlk (by omega) | exact lkI_s2 hok (by omega) hx hlk (by omega) (by omega) (by unfold ab; omega) | exact lkI_s3 hok (by omega) hx hlk (by omega) (by omega) (by omega) (by unfold ab; omega) (by unfold ab; omega))
                  · skip
                    refine x_goto (tgt := 149) dL_ways_104 rfl ?_
                    refine x_iinc (ls' := [(3, 13), (2, 45), (0, dN D), (0, g), (0, b), (0, e), (0, i + 1), (0, x), (0, x - (dH D i)), (0, if 0 ≤ x + (dH D i) then x + (dH D i) else -(x + (dH D i))), (9, 0), (9, 0), (9, 0), (9, 0)]) dL_ways_149 rfl (Nat.le_of_ble_eq_true rfl) rfl rfl ?_
                    refine x_goto (tgt := 14) dL_ways_152 rfl ?_
                    refine Gx.fgl (ls' := [(3, 13), (2, 45), (0, dN D), (0, g), (0, b), (0, e), (0, i + 1), (9, 0), (0, x - (dH D i)), (0, if 0 ≤ x + (dH D i) then x + (dH D i) else -(x + (dH D i))), (9, 0), (9, 0), (9, 0), (9, 0)]) 7 rfl ?_
                    refine Gx.fgl (ls' := [(3, 13), (2, 45), (0, dN D), (0, g), (0, b), (0, e), (0, i + 1), (9, 0), (9, 0), (0, if 0 ≤ x + (dH D i) then x + (dH D i) else -(x + (dH D i))), (9, 0), (9, 0), (9, 0), (9, 0)]) 8 rfl ?_
                    refine Gx.fgl (ls' := [(3, 13), (2, 45), (0, dN D), (0, g), (0, b), (0, e), (0, i + 1), (9, 0), (9, 0), (9, 0), (9, 0), (9, 0), (9, 0), (9, 0)]) 9 rfl ?_
                    exact ih14 _ (by omega) g b e (i + 1) rfl (by first | omega | assumption) (by first | exact lkI_s1 hok (by omega) hx hlk (by omega) | exact lkI_s2 hok (by omega) hx hlk (by omega) (by omega) (by unfold ab; omega) | exact lkI_s3 hok (by omega) hx hlk (by omega) (by omega) (by omega) (by unfold ab; omega) (by unfold ab; omega))
            · skip
              refine x_aload_n dL_ways_33 rfl rfl (by first | decide | omega) ?_
              refine x_iload dL_ways_34 rfl ?_
              refine x_ialdx (o := 45) (n := nn) (x := dH D k) dL_ways_36 rfl hs45 (by omega) (by omega) (hH.p (by omega)) ?_
              have hr6 := (hH.ok).hr (i := k) (by omega)
              refine x_aload_n dL_ways_37 rfl rfl (by first | decide | omega) ?_
              refine x_iload dL_ways_38 rfl ?_
              refine x_ialdx (o := 45) (n := nn) (x := dH D i) dL_ways_40 rfl hs45 (by omega) (by omega) (hH.p (by omega)) ?_
              have hr7 := (hH.ok).hr (i := i) (by omega)
              refine x_icmp_le (tgt := 55) dL_ways_41 rfl (R32.in (by omega)) (R32.in (by omega)) (fun c41 => ?_) (fun c41 => ?_)
              · skip
                refine x_iinc (ls' := [(3, 13), (2, 45), (0, dN D), (0, g), (0, b), (0, e), (0, i), (0, x), (0, k + 1), (9, 0), (9, 0), (9, 0), (9, 0), (9, 0)]) dL_ways_55 rfl (Nat.le_of_ble_eq_true rfl) rfl rfl ?_
                refine x_goto (tgt := 27) dL_ways_58 rfl ?_
                exact ih27 _ (by omega) x (k + 1) rfl (by first | omega | assumption) (by rw [nxI_s hk0.1]; omega)
              · skip
                refine x_iload dL_ways_44 rfl ?_
                refine x_aload_n dL_ways_46 rfl rfl (by first | decide | omega) ?_
                refine x_iload dL_ways_47 rfl ?_
                refine x_ialdx (o := 45) (n := nn) (x := dH D k) dL_ways_49 rfl hs45 (by omega) (by omega) (hH.p (by omega)) ?_
                refine x_min fL_ways_50 (R32.in (by omega)) (R32.in (by omega)) (Nat.le_of_ble_eq_true rfl) ⟨Nat.le_of_ble_eq_true rfl, Nat.le_of_ble_eq_true rfl, show 0 ≤ 1 by omega, show 0 ≤ 8 by omega⟩ ?_
                refine x_istore (ls' := [(3, 13), (2, 45), (0, dN D), (0, g), (0, b), (0, e), (0, i), (0, min x (dH D k)), (0, k), (9, 0), (9, 0), (9, 0), (9, 0), (9, 0)]) dL_ways_53 (Nat.le_of_ble_eq_true rfl) rfl rfl ?_
                refine x_iinc (ls' := [(3, 13), (2, 45), (0, dN D), (0, g), (0, b), (0, e), (0, i), (0, min x (dH D k)), (0, k + 1), (9, 0), (9, 0), (9, 0), (9, 0), (9, 0)]) dL_ways_55 rfl (Nat.le_of_ble_eq_true rfl) rfl rfl ?_
                refine x_goto (tgt := 27) dL_ways_58 rfl ?_
                exact ih27 _ (by omega) (min x (dH D k)) (k + 1) rfl (by first | omega | assumption) (by rw [nxI_s hk0.1]; omega)
        exact hL27 _ 99 0 rfl (by first | omega | assumption) rfl
  exact hL14 _ 0 0 0 0 rfl (by first | omega | assumption) lkI_0

theorem s_J6_signum_0f7a4 (G : AG) (z : Int) (μ : Mu) (hz : -32 ≤ z ∧ z ≤ 32) : Wp G M_J6_signum_0f7a4 0 [(0, z)] [] μ (pP 0 (sgn z) μ) := by
  refine w_iload_n dJ6_signum_0f7a4_0 rfl rfl ?_
  refine w_bipush dJ6_signum_0f7a4_1 (by decide) ?_
  refine w_ishr dJ6_signum_0f7a4_3 ?_
  refine w_iload_n dJ6_signum_0f7a4_4 rfl rfl ?_
  refine w_ineg dJ6_signum_0f7a4_5 ?_
  refine w_bipush dJ6_signum_0f7a4_6 (by decide) ?_
  refine Wp.lift (fun _ _ h9 => Ev.stk (st2 := [(0, am_iushr (-z) 31), (0, am_ishr z 31)]) (fun _ _ _ _ _ _ _ _ _ _ _ _ hx hb hI k => lv_iushr (v := Int32.ofInt (am_iushr (-z) 31)) hx hb dJ6_signum_0f7a4_8 (Int32.ofInt_toInt _).symm k) h9) ?_
  refine w_ior dJ6_signum_0f7a4_9 ?_
  exact w_iretP dJ6_signum_0f7a4_10 rfl (sgn_e hz)
