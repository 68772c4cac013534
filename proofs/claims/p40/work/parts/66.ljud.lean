/-! ===== The law's ways of stems; how it judges a setting ===== -/
def wayP (D : GDt) (nn : Nat) (G : AG) (μ : Mu) : AG → Option AV → Mu → Prop := fun G' r μ' => ∃ q : Nat, G' = ax G (20, nn) q ∧ r = some (2, 47) ∧ (∀ i : Int, 0 ≤ i → i < dN D → μ' 47 i = way D i) ∧ ∀ o : Int, o ≠ 47 → μ' o = μ o
/-- a row that tells how a setting is judged -/
def rowJ (μ : Mu) (o : Int) (D : GDt) (l r : Int) : Prop := (μ o 0 = stm D (r - l) l ∧ μ o 1 = slp D (r - l)) ∧ (μ o 2 = stf D (r - l) l ∧ μ o 3 = lns D (r - l) l)
def judP (D : GDt) (l r : Int) (L : Nat) (G : AG) (μ : Mu) : AG → Option AV → Mu → Prop := fun G' rr μ' =>
  (¬ alw D (r - l) l ∧ G' = G ∧ rr = some (2, -1) ∧ μ' = μ) ∨ (alw D (r - l) l ∧ ∃ q : Nat, G' = ax G (23, 4) q ∧ rr = some (2, (L : Int)) ∧ rowJ μ' (L : Int) D l r ∧ ∀ o : Int, o ≠ (L : Int) → μ' o = μ o)

set_option maxRecDepth 100000 in
set_option maxHeartbeats 4000000 in
theorem s_L_ways (G : AG) (D : GDt) (nn : Nat) (μ : Mu) (hlen : (gS G).length = 47) (hs45 : (gS G)[45]? = some (20, nn)) (hw : wfm G μ) (hH : LH G D nn μ) : Gx (xK G M_L_ways 1 8 (wayP D nn G μ)) G M_L_ways 0 0 0 [(3, 13), (2, 45), (9, 0), (9, 0), (9, 0), (9, 0), (9, 0), (9, 0), (9, 0), (9, 0), (9, 0), (9, 0), (9, 0), (9, 0)] [] μ := by
  have hok := hH.ok
  have hn := hok.n
  have hnn := hH.nn
  have hkn := hH.kn
  have hkk := hok.k
  refine x_aload_n dL_ways_0 rfl rfl (by first | decide | omega) ?_
  refine x_alen (o := 45) (n := nn) (t := 0) (f := nn) dL_ways_1 rfl hs45 (Nat.le_of_ble_eq_true rfl) rfl ?_
  refine Gx.topE (b := dN D) hnn.1 ?_
  refine x_istore_n (ls' := [(3, 13), (2, 45), (0, dN D), (9, 0), (9, 0), (9, 0), (9, 0), (9, 0), (9, 0), (9, 0), (9, 0), (9, 0), (9, 0), (9, 0)]) dL_ways_2 rfl (Nat.le_of_ble_eq_true rfl) rfl rfl ?_
  refine x_iconst dL_ways_3 ?_
  refine x_istore_n (ls' := [(3, 13), (2, 45), (0, dN D), (0, 0), (9, 0), (9, 0), (9, 0), (9, 0), (9, 0), (9, 0), (9, 0), (9, 0), (9, 0), (9, 0)]) dL_ways_4 rfl (Nat.le_of_ble_eq_true rfl) rfl rfl ?_
  refine x_iconst dL_ways_5 ?_
  refine x_istore (ls' := [(3, 13), (2, 45), (0, dN D), (0, 0), (0, 0), (9, 0), (9, 0), (9, 0), (9, 0), (9, 0), (9, 0), (9, 0), (9, 0), (9, 0)]) dL_ways_6 (Nat.le_of_ble_eq_true rfl) rfl rfl ?_
  refine x_iconst dL_ways_8 ?_
  refine x_istore (ls' := [(3, 13), (2, 45), (0, dN D), (0, 0), (0, 0), (0, 0), (9, 0), (9, 0), (9, 0), (9, 0), (9, 0), (9, 0), (9, 0), (9, 0)]) dL_ways_9 (Nat.le_of_ble_eq_true rfl) rfl rfl ?_
  refine x_iconst dL_ways_11 ?_
  refine x_istore (ls' := [(3, 13), (2, 45), (0, dN D), (0, 0), (0, 0), (0, 0), (0, 0), (9, 0), (9, 0), (9, 0), (9, 0), (9, 0), (9, 0), (9, 0)]) dL_ways_12 (Nat.le_of_ble_eq_true rfl) rfl rfl ?_
  have hL14 : ∀ (n14 : Nat) (g : Int) (b : Int) (e : Int) (i : Int), (dN D - i).toNat = n14 → (0 ≤ i ∧ i ≤ dN D) → (lkI D i g b e) → Gx (xK G M_L_ways 1 8 (wayP D nn G μ)) G M_L_ways 0 0 14 [(3, 13), (2, 45), (0, dN D), (0, g), (0, b), (0, e), (0, i), (9, 0), (9, 0), (9, 0), (9, 0), (9, 0), (9, 0), (9, 0)] [] μ := by
    intro n14
    induction n14 using Nat.strongRecOn with
    | ind n14 ih14 =>
      intro g b e i hn14 hi0 hlk
      have hbd := lkI_b hok hlk
      refine x_iload dL_ways_14 rfl ?_
      refine x_iload_n dL_ways_16 rfl rfl ?_
      refine x_icmp_ge (tgt := 155) dL_ways_17 rfl (R32.in (by omega)) (R32.in (by omega)) (fun c17 => ?_) (fun c17 => ?_)
      · skip
        have hle := lkI_end hok (show lkI D (dN D) g b e by rw [show dN D = i by omega]; exact hlk)
        refine x_iload_n dL_ways_155 rfl rfl ?_
        refine x_newaI (N := nn) xK_A ⟨show 0 + 1 ≤ 1 by omega, show 0 + nn ≤ 8 by omega⟩ dL_ways_156 k_97 (by omega) (by omega) hw (by rw [hlen]; exact ⟨fun h => absurd h (by decide), ⟨fun _ => (by omega), ⟨fun h => absurd h (by decide), ⟨fun h => absurd h (by decide), ⟨fun h => absurd h (by decide), ⟨fun h => absurd h (by decide), ⟨fun h => absurd h (by decide), ⟨fun h => absurd h (by decide), ⟨fun h => absurd h (by decide), ⟨fun h => absurd h (by decide), ⟨fun h => absurd h (by decide), ⟨fun h => absurd h (by decide), ⟨fun h => absurd h (by decide), ⟨fun h => absurd h (by decide), trivial⟩⟩⟩⟩⟩⟩⟩⟩⟩⟩⟩⟩⟩⟩) (by rw [hlen]; exact trivial) (fun q47 => ?_)
        rw [hlen]
        refine Gx.cg (ls' := [(3, 13), (2, 45), (0, dN D), (0, g), (0, b), (0, e), (0, i), (9, 0), (9, 0), (9, 0), (9, 0), (9, 0), (9, 0), (9, 0)]) (st' := [(2, 47)]) (μ' := am_nw μ 47) ?_ rfl rfl rfl
        refine Gx.mu (fun μn47 hμn47 => ?_)
        have hFμn47 : Fr 47 47 1 0 μn47 μ := (by subst hμn47; exact fun o h1 h2 => am_nw_o (by omega))
        clear hμn47
        refine Gx.widen (cs2 := 1) (ss2 := 8) (by omega) (by omega) ?_
        have hs45 := (Xt.ax G (20, nn) q47).sh hs45
        have hs47 : (gS (ax G (20, nn) q47))[47]? = some (20, nn) := (by have h9 := @ax_sh G (20, nn) q47; rw [hlen] at h9; exact h9)
        refine x_astore (ls' := [(3, 13), (2, 45), (0, dN D), (0, g), (0, b), (0, e), (2, 47), (9, 0), (9, 0), (9, 0), (9, 0), (9, 0), (9, 0), (9, 0)]) dL_ways_158 (Nat.le_of_ble_eq_true rfl) rfl (by first | decide | omega) rfl ?_
        refine x_iconst dL_ways_160 ?_
        refine x_istore (ls' := [(3, 13), (2, 45), (0, dN D), (0, g), (0, b), (0, e), (2, 47), (0, 0), (9, 0), (9, 0), (9, 0), (9, 0), (9, 0), (9, 0)]) dL_ways_161 (Nat.le_of_ble_eq_true rfl) rfl rfl ?_
        refine x_iconst dL_ways_163 ?_
        refine x_istore (ls' := [(3, 13), (2, 45), (0, dN D), (0, g), (0, b), (0, e), (2, 47), (0, 0), (0, 0), (9, 0), (9, 0), (9, 0), (9, 0), (9, 0)]) dL_ways_164 (Nat.le_of_ble_eq_true rfl) rfl rfl ?_
        refine x_iconst dL_ways_166 ?_
        refine x_istore (ls' := [(3, 13), (2, 45), (0, dN D), (0, g), (0, b), (0, e), (2, 47), (0, 0), (0, 0), (0, 0), (9, 0), (9, 0), (9, 0), (9, 0)]) dL_ways_167 (Nat.le_of_ble_eq_true rfl) rfl rfl ?_
        refine x_aload_n dL_ways_169 rfl rfl (by first | decide | omega) ?_
        refine x_astore (ls' := [(3, 13), (2, 45), (0, dN D), (0, g), (0, b), (0, e), (2, 47), (0, 0), (0, 0), (0, 0), (2, 45), (9, 0), (9, 0), (9, 0)]) dL_ways_170 (Nat.le_of_ble_eq_true rfl) rfl (by first | decide | omega) rfl ?_
        refine x_aload dL_ways_172 rfl (by first | decide | omega) ?_
        refine x_alen (o := 45) (n := nn) (t := 0) (f := nn) dL_ways_174 rfl hs45 (Nat.le_of_ble_eq_true rfl) rfl ?_
        refine x_istore (ls' := [(3, 13), (2, 45), (0, dN D), (0, g), (0, b), (0, e), (2, 47), (0, 0), (0, 0), (0, 0), (2, 45), (0, (nn : Int)), (9, 0), (9, 0)]) dL_ways_175 (Nat.le_of_ble_eq_true rfl) rfl rfl ?_
        refine x_iconst dL_ways_177 ?_
        refine x_istore (ls' := [(3, 13), (2, 45), (0, dN D), (0, g), (0, b), (0, e), (2, 47), (0, 0), (0, 0), (0, 0), (2, 45), (0, (nn : Int)), (0, 0), (9, 0)]) dL_ways_178 (Nat.le_of_ble_eq_true rfl) rfl rfl ?_
        have hL180 : ∀ (n180 : Nat) (a : Int) (b9 : Int) (c : Int) (j : Int), (dN D - j).toNat = n180 → (0 ≤ j ∧ j ≤ dN D) → (a = hiD D j) → (b9 = loD D j) → (c = suD D j) → Gx (xK G M_L_ways 1 8 (wayP D nn G μ)) (ax G (20, nn) q47) M_L_ways 1 8 180 [(3, 13), (2, 45), (0, dN D), (0, g), (0, b), (0, e), (2, 47), (0, a), (0, b9), (0, c), (2, 45), (0, dN D), (0, j), (9, 0)] [] μn47 := by
          intro n180
          induction n180 using Nat.strongRecOn with
          | ind n180 ih180 =>
            intro a b9 c j hn180 hj0 ha hb hc
            have hr9 := hls_r hok hj0
            refine x_iload dL_ways_180 rfl ?_
            refine x_iload dL_ways_182 rfl ?_
            refine x_icmp_ge (tgt := 226) dL_ways_184 rfl (R32.in (by omega)) (R32.in (by omega)) (fun c184 => ?_) (fun c184 => ?_)
            · skip
              have hje : j = dN D := by omega
              rw [hje] at ha hb hc
              refine x_iload dL_ways_226 rfl ?_
              refine x_iload dL_ways_228 rfl ?_
              have hJ230_1 : ∀ z1_0 : Int, z1_0 = (if a = b9 then (if c = 0 then (if (dH D 0) < 0 then 1 else -1) else (if c ≤ 0 then 1 else -1)) else (if a ≤ b9 then 1 else -1)) → Gx (xK G M_L_ways 1 8 (wayP D nn G μ)) (ax G (20, nn) q47) M_L_ways 1 8 277 [(3, 13), (2, 45), (0, dN D), (0, g), (0, b), (0, e), (2, 47), (0, a), (0, b9), (0, c), (2, 45), (0, dN D), (0, j), (9, 0)] [(0, z1_0)] μn47 := by
                intro z1_0 hz1_0
                refine Gx.topE (b := cway D) (cway_is ha hb hc rfl (by omega)) ?_
                refine x_istore (ls' := [(3, 13), (2, 45), (0, dN D), (0, g), (0, b), (0, e), (2, 47), (0, a), (0, b9), (0, c), (0, cway D), (0, dN D), (0, j), (9, 0)]) dL_ways_277 (Nat.le_of_ble_eq_true rfl) rfl rfl ?_
                refine x_iconst dL_ways_279 ?_
                refine x_istore (ls' := [(3, 13), (2, 45), (0, dN D), (0, g), (0, b), (0, e), (2, 47), (0, a), (0, b9), (0, c), (0, cway D), (0, 0), (0, j), (9, 0)]) dL_ways_280 (Nat.le_of_ble_eq_true rfl) rfl rfl ?_
                have hL282 : ∀ (n282 : Nat) (t : Int) (μ9 : Mu), (dN D - t).toNat = n282 → Fr 47 47 1 0 μ9 μ → (0 ≤ t ∧ t ≤ dN D) → (∀ j : Int, 0 ≤ j → j < t → μ9 47 j = way D j) → Gx (xK G M_L_ways 1 8 (wayP D nn G μ)) (ax G (20, nn) q47) M_L_ways 1 8 282 [(3, 13), (2, 45), (0, dN D), (0, g), (0, b), (0, e), (2, 47), (0, a), (0, b9), (0, c), (0, cway D), (0, t), (9, 0), (9, 0)] [] μ9 := by
                  intro n282
                  induction n282 using Nat.strongRecOn with
                  | ind n282 ih282 =>
                    intro t μ9 hn282 hF282 ht0 hw9
                    refine x_iload dL_ways_282 rfl ?_
                    refine x_iload_n dL_ways_284 rfl rfl ?_
                    refine x_icmp_ge (tgt := 322) dL_ways_285 rfl (R32.in (by omega)) (R32.in (by omega)) (fun c285 => ?_) (fun c285 => ?_)
                    · skip
                      refine x_aload dL_ways_322 rfl (by first | decide | omega) ?_
                      exact x_aret dL_ways_324 rfl (Or.inr ⟨_, rfl⟩) ⟨by omega, by omega⟩ (Xt.ax G (20, nn) q47) (⟨q47, rfl, rfl, (fun i h0 h1 => hw9 i h0 (by omega)), (fun o ho => hF282.at (by omega) (by omega))⟩)
                    · skip
                      refine x_aload dL_ways_288 rfl (by first | decide | omega) ?_
                      refine x_iload dL_ways_290 rfl ?_
                      refine x_iload_n dL_ways_292 rfl rfl ?_
                      refine x_if_ne (tgt := 301) dL_ways_293 rfl (R32.in (by omega)) (fun c293 => ?_) (fun c293 => ?_)
                      · skip
                        refine x_aload_n dL_ways_301 rfl rfl (by first | decide | omega) ?_
                        refine x_iload dL_ways_302 rfl ?_
                        refine x_ialdx (o := 45) (n := nn) (x := dH D t) dL_ways_304 rfl hs45 (by omega) (by omega) ((congrFun (hF282.at (by omega) (by omega)) _).trans (hH.p (by omega))) ?_
                        have hr1 := (hH.ok).hr (i := t) (by omega)
                        refine x_iload dL_ways_305 rfl ?_
                        refine x_icmp_le (tgt := 314) dL_ways_307 rfl (R32.in (by omega)) (R32.in (by omega)) (fun c307 => ?_) (fun c307 => ?_)
                        · skip
                          refine x_iconst dL_ways_314 ?_
                          refine x_iast (o := 47) (n := nn) dL_ways_315 rfl hs47 (by omega) (by omega) (by omega) ?_
                          refine x_iinc (ls' := [(3, 13), (2, 45), (0, dN D), (0, g), (0, b), (0, e), (2, 47), (0, a), (0, b9), (0, c), (0, cway D), (0, t + 1), (9, 0), (9, 0)]) dL_ways_316 rfl (Nat.le_of_ble_eq_true rfl) rfl rfl ?_
                          refine x_goto (tgt := 282) dL_ways_319 rfl ?_
                          exact ih282 _ (by omega) (t + 1) (am_up μ9 47 t 1) rfl (hF282.up (by omega)) (by first | omega | assumption) (fillr hw9 (by unfold way; omega))
                        · skip
                          refine x_iconst dL_ways_310 ?_
                          refine x_goto (tgt := 315) dL_ways_311 rfl ?_
                          refine x_iast (o := 47) (n := nn) dL_ways_315 rfl hs47 (by omega) (by omega) (by omega) ?_
                          refine x_iinc (ls' := [(3, 13), (2, 45), (0, dN D), (0, g), (0, b), (0, e), (2, 47), (0, a), (0, b9), (0, c), (0, cway D), (0, t + 1), (9, 0), (9, 0)]) dL_ways_316 rfl (Nat.le_of_ble_eq_true rfl) rfl rfl ?_
                          refine x_goto (tgt := 282) dL_ways_319 rfl ?_
                          exact ih282 _ (by omega) (t + 1) (am_up μ9 47 t (-1)) rfl (hF282.up (by omega)) (by first | omega | assumption) (fillr hw9 (by unfold way; omega))
                      · skip
                        refine x_iload dL_ways_296 rfl ?_
                        refine x_goto (tgt := 315) dL_ways_298 rfl ?_
                        refine x_iast (o := 47) (n := nn) dL_ways_315 rfl hs47 (by omega) (by omega) (by omega) ?_
                        refine x_iinc (ls' := [(3, 13), (2, 45), (0, dN D), (0, g), (0, b), (0, e), (2, 47), (0, a), (0, b9), (0, c), (0, cway D), (0, t + 1), (9, 0), (9, 0)]) dL_ways_316 rfl (Nat.le_of_ble_eq_true rfl) rfl rfl ?_
                        refine x_goto (tgt := 282) dL_ways_319 rfl ?_
                        exact ih282 _ (by omega) (t + 1) (am_up μ9 47 t (cway D)) rfl (hF282.up (by omega)) (by first | omega | assumption) (fillr hw9 (by unfold way; omega))
                refine Gx.fgl (ls' := [(3, 13), (2, 45), (0, dN D), (0, g), (0, b), (0, e), (2, 47), (0, a), (0, b9), (0, c), (0, cway D), (0, 0), (9, 0), (9, 0)]) 12 rfl ?_
                exact hL282 _ 0 μn47 rfl hFμn47 (by first | omega | assumption) (fun j h1 h2 => by omega)
              refine x_icmp_eq (tgt := 248) dL_ways_230 rfl (R32.in (by omega)) (R32.in (by omega)) (fun c230 => ?_) (fun c230 => ?_)
              · skip
                refine x_iload dL_ways_248 rfl ?_
                refine x_if_eq (tgt := 266) dL_ways_250 rfl (R32.in (by omega)) (fun c250 => ?_) (fun c250 => ?_)
                · skip
                  refine x_aload_n dL_ways_266 rfl rfl (by first | decide | omega) ?_
                  refine x_iconst dL_ways_267 ?_
                  refine x_ialdx (o := 45) (n := nn) (x := dH D 0) dL_ways_268 rfl hs45 (by omega) (by omega) ((congrFun (hFμn47.at (by omega) (by omega)) _).trans (hH.p (by omega))) ?_
                  have hr2 := (hH.ok).hr (i := 0) (by omega)
                  refine x_if_lt (tgt := 276) dL_ways_269 rfl (R32.in (by omega)) (fun c269 => ?_) (fun c269 => ?_)
                  · skip
                    refine x_iconst dL_ways_276 ?_
                    exact hJ230_1 _ (by first | omega | simp [*])
                  · skip
                    refine x_iconst dL_ways_272 ?_
                    refine x_goto (tgt := 277) dL_ways_273 rfl ?_
                    exact hJ230_1 _ (by first | omega | simp [*])
                · skip
                  refine x_iload dL_ways_253 rfl ?_
                  refine x_if_le (tgt := 262) dL_ways_255 rfl (R32.in (by omega)) (fun c255 => ?_) (fun c255 => ?_)
                  · skip
                    refine x_iconst dL_ways_262 ?_
                    refine x_goto (tgt := 277) dL_ways_263 rfl ?_
                    exact hJ230_1 _ (by first | omega | simp [*])
                  · skip
                    refine x_iconst dL_ways_258 ?_
                    refine x_goto (tgt := 277) dL_ways_259 rfl ?_
                    exact hJ230_1 _ (by first | omega | simp [*])
              · skip
                refine x_iload dL_ways_233 rfl ?_
                refine x_iload dL_ways_235 rfl ?_
                refine x_icmp_le (tgt := 244) dL_ways_237 rfl (R32.in (by omega)) (R32.in (by omega)) (fun c237 => ?_) (fun c237 => ?_)
                · skip
                  refine x_iconst dL_ways_244 ?_
                  refine x_goto (tgt := 277) dL_ways_245 rfl ?_
                  exact hJ230_1 _ (by first | omega | simp [*])
                · skip
                  refine x_iconst dL_ways_240 ?_
                  refine x_goto (tgt := 277) dL_ways_241 rfl ?_
                  exact hJ230_1 _ (by first | omega | simp [*])
            · skip
              refine x_aload dL_ways_187 rfl (by first | decide | omega) ?_
              refine x_iload dL_ways_189 rfl ?_
              refine x_ialdx (o := 45) (n := nn) (x := dH D j) dL_ways_191 rfl hs45 (by omega) (by omega) ((congrFun (hFμn47.at (by omega) (by omega)) _).trans (hH.p (by omega))) ?_
              have hr3 := (hH.ok).hr (i := j) (by omega)
              refine x_istore (ls' := [(3, 13), (2, 45), (0, dN D), (0, g), (0, b), (0, e), (2, 47), (0, a), (0, b9), (0, c), (2, 45), (0, dN D), (0, j), (0, dH D j)]) dL_ways_192 (Nat.le_of_ble_eq_true rfl) rfl rfl ?_
              refine x_iload dL_ways_194 rfl ?_
              refine x_iload dL_ways_196 rfl ?_
              refine x_max fL_ways_198 (R32.in (by omega)) (R32.in (by omega)) (Nat.le_of_ble_eq_true rfl) ⟨Nat.le_of_ble_eq_true rfl, Nat.le_of_ble_eq_true rfl, show 1 ≤ 1 by omega, show 8 ≤ 8 by omega⟩ ?_
              refine x_istore (ls' := [(3, 13), (2, 45), (0, dN D), (0, g), (0, b), (0, e), (2, 47), (0, max a (dH D j)), (0, b9), (0, c), (2, 45), (0, dN D), (0, j), (0, dH D j)]) dL_ways_201 (Nat.le_of_ble_eq_true rfl) rfl rfl ?_
              refine x_iload dL_ways_203 rfl ?_
              refine x_iload dL_ways_205 rfl ?_
              refine x_ineg dL_ways_207 ?_
              refine x_max fL_ways_208 (R32.in (by omega)) (R32.in (by omega)) (Nat.le_of_ble_eq_true rfl) ⟨Nat.le_of_ble_eq_true rfl, Nat.le_of_ble_eq_true rfl, show 1 ≤ 1 by omega, show 8 ≤ 8 by omega⟩ ?_
              refine x_istore (ls' := [(3, 13), (2, 45), (0, dN D), (0, g), (0, b), (0, e), (2, 47), (0, max a (dH D j)), (0, max b9 (-(dH D j))), (0, c), (2, 45), (0, dN D), (0, j), (0, dH D j)]) dL_ways_211 (Nat.le_of_ble_eq_true rfl) rfl rfl ?_
              refine x_iload dL_ways_213 rfl ?_
              refine x_iload dL_ways_215 rfl ?_
              refine x_iadd dL_ways_217 ?_
              refine x_istore (ls' := [(3, 13), (2, 45), (0, dN D), (0, g), (0, b), (0, e), (2, 47), (0, max a (dH D j)), (0, max b9 (-(dH D j))), (0, c + (dH D j)), (2, 45), (0, dN D), (0, j), (0, dH D j)]) dL_ways_218 (Nat.le_of_ble_eq_true rfl) rfl rfl ?_
              refine x_iinc (ls' := [(3, 13), (2, 45), (0, dN D), (0, g), (0, b), (0, e), (2, 47), (0, max a (dH D j)), (0, max b9 (-(dH D j))), (0, c + (dH D j)), (2, 45), (0, dN D), (0, j + 1), (0, dH D j)]) dL_ways_220 rfl (Nat.le_of_ble_eq_true rfl) rfl rfl ?_
              refine x_goto (tgt := 180) dL_ways_223 rfl ?_
              refine Gx.fgl (ls' := [(3, 13), (2, 45), (0, dN D), (0, g), (0, b), (0, e), (2, 47), (0, max a (dH D j)), (0, max b9 (-(dH D j))), (0, c + (dH D j)), (2, 45), (0, dN D), (0, j + 1), (9, 0)]) 13 rfl ?_
              exact ih180 _ (by omega) (max a (dH D j)) (max b9 (-(dH D j))) (c + (dH D j)) (j + 1) rfl (by first | omega | assumption) (by rw [hiD_s hj0.1, ha]) (by rw [loD_s hj0.1, hb]) (by rw [suD_s hj0.1, hc])
        refine Gx.lcg (t := 0) (a := (nn : Int)) (b := dN D) (ls' := [(3, 13), (2, 45), (0, dN D), (0, g), (0, b), (0, e), (2, 47), (0, 0), (0, 0), (0, 0), (2, 45), (0, dN D), (0, 0), (9, 0)]) 11 (by omega) rfl rfl ?_
        exact hL180 _ 0 0 0 0 rfl (by first | omega | assumption) rfl rfl rfl
      · skip
        refine x_bipush dL_ways_20 (by decide) ?_
        refine x_istore (ls' := [(3, 13), (2, 45), (0, dN D), (0, g), (0, b), (0, e), (0, i), (0, 99), (9, 0), (9, 0), (9, 0), (9, 0), (9, 0), (9, 0)]) dL_ways_22 (Nat.le_of_ble_eq_true rfl) rfl rfl ?_
        refine x_iconst dL_ways_24 ?_
        refine x_istore (ls' := [(3, 13), (2, 45), (0, dN D), (0, g), (0, b), (0, e), (0, i), (0, 99), (0, 0), (9, 0), (9, 0), (9, 0), (9, 0), (9, 0)]) dL_ways_25 (Nat.le_of_ble_eq_true rfl) rfl rfl ?_
        have hL27 : ∀ (n27 : Nat) (x : Int) (k : Int), (dN D - k).toNat = n27 → (0 ≤ k ∧ k ≤ dN D) → (x = nxI D (dH D i) k) → Gx (xK G M_L_ways 1 8 (wayP D nn G μ)) G M_L_ways 0 0 27 [(3, 13), (2, 45), (0, dN D), (0, g), (0, b), (0, e), (0, i), (0, x), (0, k), (9, 0), (9, 0), (9, 0), (9, 0), (9, 0)] [] μ := by
          intro n27
          induction n27 using Nat.strongRecOn with
          | ind n27 ih27 =>
            intro x k hn27 hk0 hxk
            have hxr := nxI_r hok (p := dH D i) hk0
            refine x_iload dL_ways_27 rfl ?_
            refine x_iload_n dL_ways_29 rfl rfl ?_
            refine x_icmp_ge (tgt := 61) dL_ways_30 rfl (R32.in (by omega)) (R32.in (by omega)) (fun c30 => ?_) (fun c30 => ?_)
            · skip
              refine x_iload dL_ways_61 rfl ?_
              refine x_aload_n dL_ways_63 rfl rfl (by first | decide | omega) ?_
              refine x_iload dL_ways_64 rfl ?_
              refine x_ialdx (o := 45) (n := nn) (x := dH D i) dL_ways_66 rfl hs45 (by omega) (by omega) (hH.p (by omega)) ?_
              have hr4 := (hH.ok).hr (i := i) (by omega)
              refine x_isub dL_ways_67 ?_
              refine x_istore (ls' := [(3, 13), (2, 45), (0, dN D), (0, g), (0, b), (0, e), (0, i), (0, x), (0, x - (dH D i)), (9, 0), (9, 0), (9, 0), (9, 0), (9, 0)]) dL_ways_68 (Nat.le_of_ble_eq_true rfl) rfl rfl ?_
              refine x_iload dL_ways_70 rfl ?_
              refine x_aload_n dL_ways_72 rfl rfl (by first | decide | omega) ?_
              refine x_iload dL_ways_73 rfl ?_
              refine x_ialdx (o := 45) (n := nn) (x := dH D i) dL_ways_75 rfl hs45 (by omega) (by omega) (hH.p (by omega)) ?_
              refine x_iadd dL_ways_76 ?_
              refine x_abs fL_ways_77 (R32.in (by omega)) (Nat.le_of_ble_eq_true rfl) ⟨Nat.le_of_ble_eq_true rfl, Nat.le_of_ble_eq_true rfl, show 0 ≤ 1 by omega, show 0 ≤ 8 by omega⟩ ?_
              refine x_istore (ls' := [(3, 13), (2, 45), (0, dN D), (0, g), (0, b), (0, e), (0, i), (0, x), (0, x - (dH D i)), (0, if 0 ≤ x + (dH D i) then x + (dH D i) else -(x + (dH D i))), (9, 0), (9, 0), (9, 0), (9, 0)]) dL_ways_80 (Nat.le_of_ble_eq_true rfl) rfl rfl ?_
              have hx : x = nxt D i := (by rw [hxk, show k = dN D by omega]; rfl)
              have hxr2 := nxt_r hok (i := i) (by omega)
              refine x_iload dL_ways_82 rfl ?_
              refine x_bipush dL_ways_84 (by decide) ?_
              refine x_icmp_eq (tgt := 149) dL_ways_86 rfl (R32.in (by omega)) (R32.in (by decide)) (fun c86 => ?_) (fun c86 => ?_)
              · skip
                refine x_iinc (ls' := [(3, 13), (2, 45), (0, dN D), (0, g), (0, b), (0, e), (0, i + 1), (0, x), (0, x - (dH D i)), (0, if 0 ≤ x + (dH D i) then x + (dH D i) else -(x + (dH D i))), (9, 0), (9, 0), (9, 0), (9, 0)]) dL_ways_149 rfl (Nat.le_of_ble_eq_true rfl) rfl rfl ?_
                refine x_goto (tgt := 14) dL_ways_152 rfl ?_
                refine Gx.fgl (ls' := [(3, 13), (2, 45), (0, dN D), (0, g), (0, b), (0, e), (0, i + 1), (9, 0), (0, x - (dH D i)), (0, if 0 ≤ x + (dH D i) then x + (dH D i) else -(x + (dH D i))), (9, 0), (9, 0), (9, 0), (9, 0)]) 7 rfl ?_
                refine Gx.fgl (ls' := [(3, 13), (2, 45), (0, dN D), (0, g), (0, b), (0, e), (0, i + 1), (9, 0), (9, 0), (0, if 0 ≤ x + (dH D i) then x + (dH D i) else -(x + (dH D i))), (9, 0), (9, 0), (9, 0), (9, 0)]) 8 rfl ?_
                refine Gx.fgl (ls' := [(3, 13), (2, 45), (0, dN D), (0, g), (0, b), (0, e), (0, i + 1), (9, 0), (9, 0), (9, 0), (9, 0), (9, 0), (9, 0), (9, 0)]) 9 rfl ?_
                exact ih14 _ (by omega) g b e (i + 1) rfl (by first | omega | assumption) (by first | exact lkI_s1 hok (by omega) hx hlk (by omega) | exact lkI_s2 hok (by omega) hx hlk (by omega) (by omega) (by unfold ab; omega) | exact lkI_s3 hok (by omega) hx hlk (by omega) (by omega) (by omega) (by unfold ab; omega) (by unfold ab; omega))
              · skip
                refine x_iload dL_ways_89 rfl ?_
                refine x_aload_nS dL_ways_91 rfl rfl ?_
                refine x_callSP (as := [(3, 13)]) (rest := [(0, x - (dH D i))]) (k := 0) fL_ways_92.g ⟨Nat.le_of_ble_eq_true rfl, Nat.le_of_ble_eq_true rfl⟩ ⟨show 0 ≤ 1 by omega, show 0 ≤ 8 by omega⟩ xK_A hw rfl rfl rfl rfl rfl (Nat.le_of_ble_eq_true rfl) ⟨fun h => absurd h (by decide), trivial⟩ (by decide) (s_L_knee G μ hk4) ?_
                have hf5 := lkn_r G
                refine x_icmp_lt (tgt := 149) dL_ways_95 rfl (R32.in (by omega)) (R32.in (by omega)) (fun c95 => ?_) (fun c95 => ?_)
                · skip
                  refine x_iinc (ls' := [(3, 13), (2, 45), (0, dN D), (0, g), (0, b), (0, e), (0, i + 1), (0, x), (0, x - (dH D i)), (0, if 0 ≤ x + (dH D i) then x + (dH D i) else -(x + (dH D i))), (9, 0), (9, 0), (9, 0), (9, 0)]) dL_ways_149 rfl (Nat.le_of_ble_eq_true rfl) rfl rfl ?_
                  refine x_goto (tgt := 14) dL_ways_152 rfl ?_
                  refine Gx.fgl (ls' := [(3, 13), (2, 45), (0, dN D), (0, g), (0, b), (0, e), (0, i + 1), (9, 0), (0, x - (dH D i)), (0, if 0 ≤ x + (dH D i) then x + (dH D i) else -(x + (dH D i))), (9, 0), (9, 0), (9, 0), (9, 0)]) 7 rfl ?_
                  refine Gx.fgl (ls' := [(3, 13), (2, 45), (0, dN D), (0, g), (0, b), (0, e), (0, i + 1), (9, 0), (9, 0), (0, if 0 ≤ x + (dH D i) then x + (dH D i) else -(x + (dH D i))), (9, 0), (9, 0), (9, 0), (9, 0)]) 8 rfl ?_
                  refine Gx.fgl (ls' := [(3, 13), (2, 45), (0, dN D), (0, g), (0, b), (0, e), (0, i + 1), (9, 0), (9, 0), (9, 0), (9, 0), (9, 0), (9, 0), (9, 0)]) 9 rfl ?_
                  exact ih14 _ (by omega) g b e (i + 1) rfl (by first | omega | assumption) (by first | exact lkI_s1 hok (by omega) hx hlk (by omega) | exact lkI_s2 hok (by omega) hx hlk (by omega) (by omega) (by unfold ab; omega) | exact lkI_s3 hok (by omega) hx hlk (by omega) (by omega) (by omega) (by unfold ab; omega) (by unfold ab; omega))
                · skip
                  refine x_iload dL_ways_98 rfl ?_
                  refine x_iload_n dL_ways_100 rfl rfl ?_
                  refine x_icmp_ge (tgt := 107) dL_ways_101 rfl (R32.in (by omega)) (R32.in (by omega)) (fun c101 => ?_) (fun c101 => ?_)
                  · skip
                    refine x_iload dL_ways_107 rfl ?_
                    refine x_iload_n dL_ways_109 rfl rfl ?_
                    refine x_icmp_gt (tgt := 136) dL_ways_110 rfl (R32.in (by omega)) (R32.in (by omega)) (fun c110 => ?_) (fun c110 => ?_)
                    · skip
                      refine x_iload dL_ways_136 rfl ?_
                      refine x_istore_n (ls' := [(3, 13), (2, 45), (0, dN D), (0, x - (dH D i)), (0, b), (0, e), (0, i), (0, x), (0, x - (dH D i)), (0, if 0 ≤ x + (dH D i) then x + (dH D i) else -(x + (dH D i))), (9, 0), (9, 0), (9, 0), (9, 0)]) dL_ways_138 rfl (Nat.le_of_ble_eq_true rfl) rfl rfl ?_
                      refine x_aload_n dL_ways_139 rfl rfl (by first | decide | omega) ?_
                      refine x_iload dL_ways_140 rfl ?_
                      refine x_ialdx (o := 45) (n := nn) (x := dH D i) dL_ways_142 rfl hs45 (by omega) (by omega) (hH.p (by omega)) ?_
                      refine x_istore (ls' := [(3, 13), (2, 45), (0, dN D), (0, x - (dH D i)), (0, dH D i), (0, e), (0, i), (0, x), (0, x - (dH D i)), (0, if 0 ≤ x + (dH D i) then x + (dH D i) else -(x + (dH D i))), (9, 0), (9, 0), (9, 0), (9, 0)]) dL_ways_143 (Nat.le_of_ble_eq_true rfl) rfl rfl ?_
                      refine x_iload dL_ways_145 rfl ?_
                      refine x_istore (ls' := [(3, 13), (2, 45), (0, dN D), (0, x - (dH D i)), (0, dH D i), (0, if 0 ≤ x + (dH D i) then x + (dH D i) else -(x + (dH D i))), (0, i), (0, x), (0, x - (dH D i)), (0, if 0 ≤ x + (dH D i) then x + (dH D i) else -(x + (dH D i))), (9, 0), (9, 0), (9, 0), (9, 0)]) dL_ways_147 (Nat.le_of_ble_eq_true rfl) rfl rfl ?_
                      refine x_iinc (ls' := [(3, 13), (2, 45), (0, dN D), (0, x - (dH D i)), (0, dH D i), (0, if 0 ≤ x + (dH D i) then x + (dH D i) else -(x + (dH D i))), (0, i + 1), (0, x), (0, x - (dH D i)), (0, if 0 ≤ x + (dH D i) then x + (dH D i) else -(x + (dH D i))), (9, 0), (9, 0), (9, 0), (9, 0)]) dL_ways_149 rfl (Nat.le_of_ble_eq_true rfl) rfl rfl ?_
                      refine x_goto (tgt := 14) dL_ways_152 rfl ?_
                      refine Gx.fgl (ls' := [(3, 13), (2, 45), (0, dN D), (0, x - (dH D i)), (0, dH D i), (0, if 0 ≤ x + (dH D i) then x + (dH D i) else -(x + (dH D i))), (0, i + 1), (9, 0), (0, x - (dH D i)), (0, if 0 ≤ x + (dH D i) then x + (dH D i) else -(x + (dH D i))), (9, 0), (9, 0), (9, 0), (9, 0)]) 7 rfl ?_
                      refine Gx.fgl (ls' := [(3, 13), (2, 45), (0, dN D), (0, x - (dH D i)), (0, dH D i), (0, if 0 ≤ x + (dH D i) then x + (dH D i) else -(x + (dH D i))), (0, i + 1), (9, 0), (9, 0), (0, if 0 ≤ x + (dH D i) then x + (dH D i) else -(x + (dH D i))), (9, 0), (9, 0), (9, 0), (9, 0)]) 8 rfl ?_
                      refine Gx.fgl (ls' := [(3, 13), (2, 45), (0, dN D), (0, x - (dH D i)), (0, dH D i), (0, if 0 ≤ x + (dH D i) then x + (dH D i) else -(x + (dH D i))), (0, i + 1), (9, 0), (9, 0), (9, 0), (9, 0), (9, 0), (9, 0), (9, 0)]) 9 rfl ?_
                      exact ih14 _ (by omega) (x - (dH D i)) (dH D i) (if 0 ≤ x + (dH D i) then x + (dH D i) else -(x + (dH D i))) (i + 1) rfl (by first | omega | assumption) (by first | exact lkI_s1 hok (by omega) hx hlk (by omega) | exact lkI_s2 hok (by omega) hx hlk (by omega) (by omega) (by unfold ab; omega) | exact lkI_s3 hok (by omega) hx hlk (by omega) (by omega) (by omega) (by unfold ab; omega) (by unfold ab; omega))
                    · skip
                      refine x_iload dL_ways_113 rfl ?_
                      refine x_iload dL_ways_115 rfl ?_
                      refine x_icmp_lt (tgt := 136) dL_ways_117 rfl (R32.in (by omega)) (R32.in (by omega)) (fun c117 => ?_) (fun c117 => ?_)
                      · skip
                        refine x_iload dL_ways_136 rfl ?_
                        refine x_istore_n (ls' := [(3, 13), (2, 45), (0, dN D), (0, x - (dH D i)), (0, b), (0, e), (0, i), (0, x), (0, x - (dH D i)), (0, if 0 ≤ x + (dH D i) then x + (dH D i) else -(x + (dH D i))), (9, 0), (9, 0), (9, 0), (9, 0)]) dL_ways_138 rfl (Nat.le_of_ble_eq_true rfl) rfl rfl ?_
                        refine x_aload_n dL_ways_139 rfl rfl (by first | decide | omega) ?_
                        refine x_iload dL_ways_140 rfl ?_
                        refine x_ialdx (o := 45) (n := nn) (x := dH D i) dL_ways_142 rfl hs45 (by omega) (by omega) (hH.p (by omega)) ?_
                        refine x_istore (ls' := [(3, 13), (2, 45), (0, dN D), (0, x - (dH D i)), (0, dH D i), (0, e), (0, i), (0, x), (0, x - (dH D i)), (0, if 0 ≤ x + (dH D i) then x + (dH D i) else -(x + (dH D i))), (9, 0), (9, 0), (9, 0), (9, 0)]) dL_ways_143 (Nat.le_of_ble_eq_true rfl) rfl rfl ?_
                        refine x_iload dL_ways_145 rfl ?_
                        refine x_istore (ls' := [(3, 13), (2, 45), (0, dN D), (0, x - (dH D i)), (0, dH D i), (0, if 0 ≤ x + (dH D i) then x + (dH D i) else -(x + (dH D i))), (0, i), (0, x), (0, x - (dH D i)), (0, if 0 ≤ x + (dH D i) then x + (dH D i) else -(x + (dH D i))), (9, 0), (9, 0), (9, 0), (9, 0)]) dL_ways_147 (Nat.le_of_ble_eq_true rfl) rfl rfl ?_
                        refine x_iinc (ls' := [(3, 13), (2, 45), (0, dN D), (0, x - (dH D i)), (0, dH D i), (0, if 0 ≤ x + (dH D i) then x + (dH D i) else -(x + (dH D i))), (0, i + 1), (0, x), (0, x - (dH D i)), (0, if 0 ≤ x + (dH D i) then x + (dH D i) else -(x + (dH D i))), (9, 0), (9, 0), (9, 0), (9, 0)]) dL_ways_149 rfl (Nat.le_of_ble_eq_true rfl) rfl rfl ?_
                        refine x_goto (tgt := 14) dL_ways_152 rfl ?_
                        refine Gx.fgl (ls' := [(3, 13), (2, 45), (0, dN D), (0, x - (dH D i)), (0, dH D i), (0, if 0 ≤ x + (dH D i) then x + (dH D i) else -(x + (dH D i))), (0, i + 1), (9, 0), (0, x - (dH D i)), (0, if 0 ≤ x + (dH D i) then x + (dH D i) else -(x + (dH D i))), (9, 0), (9, 0), (9, 0), (9, 0)]) 7 rfl ?_
                        refine Gx.fgl (ls' := [(3, 13), (2, 45), (0, dN D), (0, x - (dH D i)), (0, dH D i), (0, if 0 ≤ x + (dH D i) then x + (dH D i) else -(x + (dH D i))), (0, i + 1), (9, 0), (9, 0), (0, if 0 ≤ x + (dH D i) then x + (dH D i) else -(x + (dH D i))), (9, 0), (9, 0), (9, 0), (9, 0)]) 8 rfl ?_
                        refine Gx.fgl (ls' := [(3, 13), (2, 45), (0, dN D), (0, x - (dH D i)), (0, dH D i), (0, if 0 ≤ x + (dH D i) then x + (dH D i) else -(x + (dH D i))), (0, i + 1), (9, 0), (9, 0), (9, 0), (9, 0), (9, 0), (9, 0), (9, 0)]) 9 rfl ?_
                        exact ih14 _ (by omega) (x - (dH D i)) (dH D i) (if 0 ≤ x + (dH D i) then x + (dH D i) else -(x + (dH D i))) (i + 1) rfl (by first | omega | assumption) (by first | exact lkI_s1 hok (by omega) hx hlk (by omega) | exact lkI_s2 hok (by omega) hx hlk (by omega) (by omega) (by unfold ab; omega) | exact lkI_s3 hok (by omega) hx hlk (by omega) (by omega) (by omega) (by unfold ab; omega) (by unfold ab; omega))
                      · skip
                        refine x_iload dL_ways_120 rfl ?_
                        refine x_iload dL_ways_122 rfl ?_
                        refine x_icmp_ne (tgt := 149) dL_ways_124 rfl (R32.in (by omega)) (R32.in (by omega)) (fun c124 => ?_) (fun c124 => ?_)
                        · skip
                          refine x_iinc (ls' := [(3, 13), (2, 45), (0, dN D), (0, g), (0, b), (0, e), (0, i + 1), (0, x), (0, x - (dH D i)), (0, if 0 ≤ x + (dH D i) then x + (dH D i) else -(x + (dH D i))), (9, 0), (9, 0), (9, 0), (9, 0)]) dL_ways_149 rfl (Nat.le_of_ble_eq_true rfl) rfl rfl ?_
                          refine x_goto (tgt := 14) dL_ways_152 rfl ?_
                          refine Gx.fgl (ls' := [(3, 13), (2, 45), (0, dN D), (0, g), (0, b), (0, e), (0, i + 1), (9, 0), (0, x - (dH D i)), (0, if 0 ≤ x + (dH D i) then x + (dH D i) else -(x + (dH D i))), (9, 0), (9, 0), (9, 0), (9, 0)]) 7 rfl ?_
                          refine Gx.fgl (ls' := [(3, 13), (2, 45), (0, dN D), (0, g), (0, b), (0, e), (0, i + 1), (9, 0), (9, 0), (0, if 0 ≤ x + (dH D i) then x + (dH D i) else -(x + (dH D i))), (9, 0), (9, 0), (9, 0), (9, 0)]) 8 rfl ?_
                          refine Gx.fgl (ls' := [(3, 13), (2, 45), (0, dN D), (0, g), (0, b), (0, e), (0, i + 1), (9, 0), (9, 0), (9, 0), (9, 0), (9, 0), (9, 0), (9, 0)]) 9 rfl ?_
                          exact ih14 _ (by omega) g b e (i + 1) rfl (by first | omega | assumption) (by first | exact lkI_s1 hok (by omega) hx hlk (by omega) | exact lkI_s2 hok (by omega) hx hlk (by omega) (by omega) (by unfold ab; omega) | exact lkI_s3 hok (by omega) hx hlk (by omega) (by omega) (by omega) (by unfold ab; omega) (by unfold ab; omega))
                        · skip
                          refine x_aload_n dL_ways_127 rfl rfl (by first | decide | omega) ?_
                          refine x_iload dL_ways_128 rfl ?_
                          refine x_ialdx (o := 45) (n := nn) (x := dH D i) dL_ways_130 rfl hs45 (by omega) (by omega) (hH.p (by omega)) ?_
                          refine x_iload dL_ways_131 rfl ?_
                          refine x_icmp_ge (tgt := 149) dL_ways_133 rfl (R32.in (by omega)) (R32.in (by omega)) (fun c133 => ?_) (fun c133 => ?_)
                          · skip
                            refine x_iinc (ls' := [(3, 13), (2, 45), (0, dN D), (0, g), (0, b), (0, e), (0, i + 1), (0, x), (0, x - (dH D i)), (0, if 0 ≤ x + (dH D i) then x + (dH D i) else -(x + (dH D i))), (9, 0), (9, 0), (9, 0), (9, 0)]) dL_ways_149 rfl (Nat.le_of_ble_eq_true rfl) rfl rfl ?_
                            refine x_goto (tgt := 14) dL_ways_152 rfl ?_
                            refine Gx.fgl (ls' := [(3, 13), (2, 45), (0, dN D), (0, g), (0, b), (0, e), (0, i + 1), (9, 0), (0, x - (dH D i)), (0, if 0 ≤ x + (dH D i) then x + (dH D i) else -(x + (dH D i))), (9, 0), (9, 0), (9, 0), (9, 0)]) 7 rfl ?_
                            refine Gx.fgl (ls' := [(3, 13), (2, 45), (0, dN D), (0, g), (0, b), (0, e), (0, i + 1), (9, 0), (9, 0), (0, if 0 ≤ x + (dH D i) then x + (dH D i) else -(x + (dH D i))), (9, 0), (9, 0), (9, 0), (9, 0)]) 8 rfl ?_
                            refine Gx.fgl (ls' := [(3, 13), (2, 45), (0, dN D), (0, g), (0, b), (0, e), (0, i + 1), (9, 0), (9, 0), (9, 0), (9, 0), (9, 0), (9, 0), (9, 0)]) 9 rfl ?_
                            exact ih14 _ (by omega) g b e (i + 1) rfl (by first | omega | assumption) (by first | exact lkI_s1 hok (by omega) hx hlk (by omega) | exact lkI_s2 hok (by omega) hx hlk (by omega) (by omega) (by unfold ab; omega) | exact lkI_s3 hok (by omega) hx hlk (by omega) (by omega) (by omega) (by unfold ab; omega) (by unfold ab; omega))
                          · skip
                            refine x_iload dL_ways_136 rfl ?_
                            refine x_istore_n (ls' := [(3, 13), (2, 45), (0, dN D), (0, x - (dH D i)), (0, b), (0, e), (0, i), (0, x), (0, x - (dH D i)), (0, if 0 ≤ x + (dH D i) then x + (dH D i) else -(x + (dH D i))), (9, 0), (9, 0), (9, 0), (9, 0)]) dL_ways_138 rfl (Nat.le_of_ble_eq_true rfl) rfl rfl ?_
                            refine x_aload_n dL_ways_139 rfl rfl (by first | decide | omega) ?_
                            refine x_iload dL_ways_140 rfl ?_
                            refine x_ialdx (o := 45) (n := nn) (x := dH D i) dL_ways_142 rfl hs45 (by omega) (by omega) (hH.p (by omega)) ?_
                            refine x_istore (ls' := [(3, 13), (2, 45), (0, dN D), (0, x - (dH D i)), (0, dH D i), (0, e), (0, i), (0, x), (0, x - (dH D i)), (0, if 0 ≤ x + (dH D i) then x + (dH D i) else -(x + (dH D i))), (9, 0), (9, 0), (9, 0), (9, 0)]) dL_ways_143 (Nat.le_of_ble_eq_true rfl) rfl rfl ?_
                            refine x_iload dL_ways_145 rfl ?_
                            refine x_istore (ls' := [(3, 13), (2, 45), (0, dN D), (0, x - (dH D i)), (0, dH D i), (0, if 0 ≤ x + (dH D i) then x + (dH D i) else -(x + (dH D i))), (0, i), (0, x), (0, x - (dH D i)), (0, if 0 ≤ x + (dH D i) then x + (dH D i) else -(x + (dH D i))), (9, 0), (9, 0), (9, 0), (9, 0)]) dL_ways_147 (Nat.le_of_ble_eq_true rfl) rfl rfl ?_
                            refine x_iinc (ls' := [(3, 13), (2, 45), (0, dN D), (0, x - (dH D i)), (0, dH D i), (0, if 0 ≤ x + (dH D i) then x + (dH D i) else -(x + (dH D i))), (0, i + 1), (0, x), (0, x - (dH D i)), (0, if 0 ≤ x + (dH D i) then x + (dH D i) else -(x + (dH D i))), (9, 0), (9, 0), (9, 0), (9, 0)]) dL_ways_149 rfl (Nat.le_of_ble_eq_true rfl) rfl rfl ?_
                            refine x_goto (tgt := 14) dL_ways_152 rfl ?_
                            refine Gx.fgl (ls' := [(3, 13), (2, 45), (0, dN D), (0, x - (dH D i)), (0, dH D i), (0, if 0 ≤ x + (dH D i) then x + (dH D i) else -(x + (dH D i))), (0, i + 1), (9, 0), (0, x - (dH D i)), (0, if 0 ≤ x + (dH D i) then x + (dH D i) else -(x + (dH D i))), (9, 0), (9, 0), (9, 0), (9, 0)]) 7 rfl ?_
                            refine Gx.fgl (ls' := [(3, 13), (2, 45), (0, dN D), (0, x - (dH D i)), (0, dH D i), (0, if 0 ≤ x + (dH D i) then x + (dH D i) else -(x + (dH D i))), (0, i + 1), (9, 0), (9, 0), (0, if 0 ≤ x + (dH D i) then x + (dH D i) else -(x + (dH D i))), (9, 0), (9, 0), (9, 0), (9, 0)]) 8 rfl ?_
                            refine Gx.fgl (ls' := [(3, 13), (2, 45), (0, dN D), (0, x - (dH D i)), (0, dH D i), (0, if 0 ≤ x + (dH D i) then x + (dH D i) else -(x + (dH D i))), (0, i + 1), (9, 0), (9, 0), (9, 0), (9, 0), (9, 0), (9, 0), (9, 0)]) 9 rfl ?_
                            exact ih14 _ (by omega) (x - (dH D i)) (dH D i) (if 0 ≤ x + (dH D i) then x + (dH D i) else -(x + (dH D i))) (i + 1) rfl (by first | omega | assumption) (by first | exact lkI_s1 hok (by omega) hx hlk (by omega) | exact lkI_s2 hok (by omega) hx hlk (by omega) (by omega) (by unfold ab; omega) | exact lkI_s3 hok (by omega) hx hlk (by omega) (by omega) (by omega) (by unfold ab; omega) (by unfold ab; omega))
                  · skip
                    refine x_goto (tgt := 149) dL_ways_104 rfl ?_
                    refine x_iinc (ls' := [(3, 13), (2, 45), (0, dN D), (0, g), (0, b), (0, e), (0, i + 1), (0, x), (0, x - (dH D i)), (0, if 0 ≤ x + (dH D i) then x + (dH D i) else -(x + (dH D i))), (9, 0), (9, 0), (9, 0), (9, 0)]) dL_ways_149 rfl (Nat.le_of_ble_eq_true rfl) rfl rfl ?_
                    refine x_goto (tgt := 14) dL_ways_152 rfl ?_
                    refine Gx.fgl (ls' := [(3, 13), (2, 45), (0, dN D), (0, g), (0, b), (0, e), (0, i + 1), (9, 0), (0, x - (dH D i)), (0, if 0 ≤ x + (dH D i) then x + (dH D i) else -(x + (dH D i))), (9, 0), (9, 0), (9, 0), (9, 0)]) 7 rfl ?_
                    refine Gx.fgl (ls' := [(3, 13), (2, 45), (0, dN D), (0, g), (0, b), (0, e), (0, i + 1), (9, 0), (9, 0), (0, if 0 ≤ x + (dH D i) then x + (dH D i) else -(x + (dH D i))), (9, 0), (9, 0), (9, 0), (9, 0)]) 8 rfl ?_
                    refine Gx.fgl (ls' := [(3, 13), (2, 45), (0, dN D), (0, g), (0, b), (0, e), (0, i + 1), (9, 0), (9, 0), (9, 0), (9, 0), (9, 0), (9, 0), (9, 0)]) 9 rfl ?_
                    exact ih14 _ (by omega) g b e (i + 1) rfl (by first | omega | assumption) (by first | exact lkI_s1 hok (by omega) hx hlk (by omega) | exact lkI_s2 hok (by omega) hx hlk (by omega) (by omega) (by unfold ab; omega) | exact lkI_s3 hok (by omega) hx hlk (by omega) (by omega) (by omega) (by unfold ab; omega) (by unfold ab; omega))
            · skip
              refine x_aload_n dL_ways_33 rfl rfl (by first | decide | omega) ?_
              refine x_iload dL_ways_34 rfl ?_
              refine x_ialdx (o := 45) (n := nn) (x := dH D k) dL_ways_36 rfl hs45 (by omega) (by omega) (hH.p (by omega)) ?_
              have hr6 := (hH.ok).hr (i := k) (by omega)
              refine x_aload_n dL_ways_37 rfl rfl (by first | decide | omega) ?_
              refine x_iload dL_ways_38 rfl ?_
              refine x_ialdx (o := 45) (n := nn) (x := dH D i) dL_ways_40 rfl hs45 (by omega) (by omega) (hH.p (by omega)) ?_
              have hr7 := (hH.ok).hr (i := i) (by omega)
              refine x_icmp_le (tgt := 55) dL_ways_41 rfl (R32.in (by omega)) (R32.in (by omega)) (fun c41 => ?_) (fun c41 => ?_)
              · skip
                refine x_iinc (ls' := [(3, 13), (2, 45), (0, dN D), (0, g), (0, b), (0, e), (0, i), (0, x), (0, k + 1), (9, 0), (9, 0), (9, 0), (9, 0), (9, 0)]) dL_ways_55 rfl (Nat.le_of_ble_eq_true rfl) rfl rfl ?_
                refine x_goto (tgt := 27) dL_ways_58 rfl ?_
                exact ih27 _ (by omega) x (k + 1) rfl (by first | omega | assumption) (by rw [nxI_s hk0.1]; omega)
              · skip
                refine x_iload dL_ways_44 rfl ?_
                refine x_aload_n dL_ways_46 rfl rfl (by first | decide | omega) ?_
                refine x_iload dL_ways_47 rfl ?_
                refine x_ialdx (o := 45) (n := nn) (x := dH D k) dL_ways_49 rfl hs45 (by omega) (by omega) (hH.p (by omega)) ?_
                refine x_min fL_ways_50 (R32.in (by omega)) (R32.in (by omega)) (Nat.le_of_ble_eq_true rfl) ⟨Nat.le_of_ble_eq_true rfl, Nat.le_of_ble_eq_true rfl, show 0 ≤ 1 by omega, show 0 ≤ 8 by omega⟩ ?_
                refine x_istore (ls' := [(3, 13), (2, 45), (0, dN D), (0, g), (0, b), (0, e), (0, i), (0, min x (dH D k)), (0, k), (9, 0), (9, 0), (9, 0), (9, 0), (9, 0)]) dL_ways_53 (Nat.le_of_ble_eq_true rfl) rfl rfl ?_
                refine x_iinc (ls' := [(3, 13), (2, 45), (0, dN D), (0, g), (0, b), (0, e), (0, i), (0, min x (dH D k)), (0, k + 1), (9, 0), (9, 0), (9, 0), (9, 0), (9, 0)]) dL_ways_55 rfl (Nat.le_of_ble_eq_true rfl) rfl rfl ?_
                refine x_goto (tgt := 27) dL_ways_58 rfl ?_
                exact ih27 _ (by omega) (min x (dH D k)) (k + 1) rfl (by first | omega | assumption) (by rw [nxI_s hk0.1]; omega)
        exact hL27 _ 99 0 rfl (by first | omega | assumption) rfl
  exact hL14 _ 0 0 0 0 rfl (by first | omega | assumption) lkI_0

theorem s_J6_signum_0f7a4 (G : AG) (z : Int) (μ : Mu) (hz : -32 ≤ z ∧ z ≤ 32) : Wp G M_J6_signum_0f7a4 0 [(0, z)] [] μ (pP 0 (sgn z) μ) := by
  refine w_iload_n dJ6_signum_0f7a4_0 rfl rfl ?_
  refine w_bipush dJ6_signum_0f7a4_1 (by decide) ?_
  refine w_ishr dJ6_signum_0f7a4_3 ?_
  refine w_iload_n dJ6_signum_0f7a4_4 rfl rfl ?_
  refine w_ineg dJ6_signum_0f7a4_5 ?_
  refine w_bipush dJ6_signum_0f7a4_6 (by decide) ?_
  refine Wp.lift (fun _ _ h9 => Ev.stk (st2 := [(0, am_iushr (-z) 31), (0, am_ishr z 31)]) (fun _ _ _ _ _ _ _ _ _ _ _ _ hx hb hI k => lv_iushr (v := Int32.ofInt (am_iushr (-z) 31)) hx hb dJ6_signum_0f7a4_8 (Int32.ofInt_toInt _).symm k) h9) ?_
  refine w_ior dJ6_signum_0f7a4_9 ?_
  exact w_iretP dJ6_signum_0f7a4_10 rfl (sgn_e hz)

set_option maxRecDepth 100000 in
set_option maxHeartbeats 4000000 in
theorem s_L_judged (G : AG) (D : GDt) (nn : Nat) (L : Nat) (l : Int) (r : Int) (μ : Mu) (hlen : (gS G).length = L) (hL : 48 ≤ L ∧ L ≤ 60) (hs45 : (gS G)[45]? = some (20, nn)) (hs46 : (gS G)[46]? = some (20, nn)) (hs47 : (gS G)[47]? = some (20, nn)) (hw : wfm G μ) (hD : LD G D nn μ) (hW : LW D μ) (hlr : (-60 ≤ l ∧ l ≤ 60) ∧ (-60 ≤ r ∧ r ≤ 60) ∧ (-8 ≤ r - l ∧ r - l ≤ 8)) : Gx (xK G M_L_judged 1 4 (judP D l r L G μ)) G M_L_judged 0 0 0 [(3, 13), (2, 45), (2, 47), (2, 46), (0, l), (0, r), (9, 0), (9, 0), (9, 0), (9, 0), (9, 0), (9, 0), (9, 0), (9, 0), (9, 0), (9, 0), (9, 0), (9, 0), (9, 0), (9, 0), (9, 0), (9, 0), (9, 0), (9, 0), (9, 0)] [] μ := by
  have hok := hD.ok
  have hn := hok.n
  have hnn := hD.nn
  have hkn := hD.kn
  have hsp := hok.sp
  refine x_aload_n dL_judged_0 rfl rfl (by first | decide | omega) ?_
  refine x_alen (o := 45) (n := nn) (t := 0) (f := nn) dL_judged_1 rfl hs45 (Nat.le_of_ble_eq_true rfl) rfl ?_
  refine Gx.topE (b := dN D) hnn.1 ?_
  refine x_istore (ls' := [(3, 13), (2, 45), (2, 47), (2, 46), (0, l), (0, r), (0, dN D), (9, 0), (9, 0), (9, 0), (9, 0), (9, 0), (9, 0), (9, 0), (9, 0), (9, 0), (9, 0), (9, 0), (9, 0), (9, 0), (9, 0), (9, 0), (9, 0), (9, 0), (9, 0)]) dL_judged_2 (Nat.le_of_ble_eq_true rfl) rfl rfl ?_
  refine x_aload_n dL_judged_4 rfl rfl (by first | decide | omega) ?_
  refine x_iload dL_judged_5 rfl ?_
  refine x_iconst dL_judged_7 ?_
  refine x_isub dL_judged_8 ?_
  refine x_ialdx (o := 46) (n := nn) (x := dX D ((dN D) - 1)) dL_judged_9 rfl hs46 (by omega) (by omega) (hD.x (by omega)) ?_
  have hr1 := (hD.ok).xs (i := ((dN D) - 1)) (by omega)
  refine Gx.topE (b := spn D) rfl ?_
  refine x_i2l dL_judged_10 (R32.in (by omega)) ?_
  refine x_lstore (ls' := [(3, 13), (2, 45), (2, 47), (2, 46), (0, l), (0, r), (0, dN D), (1, spn D), (9, 0), (9, 0), (9, 0), (9, 0), (9, 0), (9, 0), (9, 0), (9, 0), (9, 0), (9, 0), (9, 0), (9, 0), (9, 0), (9, 0), (9, 0), (9, 0), (9, 0)]) dL_judged_11 (Nat.le_of_ble_eq_true rfl) rfl rfl ?_
  refine x_lconst (v := 0) dL_judged_13 (by decide) ?_
  refine x_lstore (ls' := [(3, 13), (2, 45), (2, 47), (2, 46), (0, l), (0, r), (0, dN D), (1, spn D), (9, 0), (1, 0), (9, 0), (9, 0), (9, 0), (9, 0), (9, 0), (9, 0), (9, 0), (9, 0), (9, 0), (9, 0), (9, 0), (9, 0), (9, 0), (9, 0), (9, 0)]) dL_judged_14 (Nat.le_of_ble_eq_true rfl) rfl rfl ?_
  refine x_lconst (v := 0) dL_judged_16 (by decide) ?_
  refine x_lstore (ls' := [(3, 13), (2, 45), (2, 47), (2, 46), (0, l), (0, r), (0, dN D), (1, spn D), (9, 0), (1, 0), (9, 0), (1, 0), (9, 0), (9, 0), (9, 0), (9, 0), (9, 0), (9, 0), (9, 0), (9, 0), (9, 0), (9, 0), (9, 0), (9, 0), (9, 0)]) dL_judged_17 (Nat.le_of_ble_eq_true rfl) rfl rfl ?_
  refine x_iconst dL_judged_19 ?_
  refine x_istore (ls' := [(3, 13), (2, 45), (2, 47), (2, 46), (0, l), (0, r), (0, dN D), (1, spn D), (9, 0), (1, 0), (9, 0), (1, 0), (9, 0), (0, 0), (9, 0), (9, 0), (9, 0), (9, 0), (9, 0), (9, 0), (9, 0), (9, 0), (9, 0), (9, 0), (9, 0)]) dL_judged_20 (Nat.le_of_ble_eq_true rfl) rfl rfl ?_
  have hL22 : ∀ (n22 : Nat) (st9 : Int) (al : Int) (i : Int), (dN D - i).toNat = n22 → (0 ≤ i ∧ i ≤ dN D) → (st9 = ssu D (r - l) l i) → (al = lsu D (r - l) l i) → (∀ j : Int, 0 ≤ j → j < i → okN D (r - l) l j) → Gx (xK G M_L_judged 1 4 (judP D l r L G μ)) G M_L_judged 0 0 22 [(3, 13), (2, 45), (2, 47), (2, 46), (0, l), (0, r), (0, dN D), (1, spn D), (9, 0), (1, st9), (9, 0), (1, al), (9, 0), (0, i), (9, 0), (9, 0), (9, 0), (9, 0), (9, 0), (9, 0), (9, 0), (9, 0), (9, 0), (9, 0), (9, 0)] [] μ := by
    intro n22
    induction n22 using Nat.strongRecOn with
    | ind n22 ih22 =>
      intro st9 al i hn22 hi0 hst9 hal9 hok9
      have hsr := ssu_r (s := r - l) (l := l) hok (by omega) (by omega) hi0
      have hlr8 := lsu_r hok hi0 hlr
      refine x_iload dL_judged_22 rfl ?_
      refine x_iload dL_judged_24 rfl ?_
      refine x_icmp_ge (tgt := 244) dL_judged_26 rfl (R32.in (by omega)) (R32.in (by omega)) (fun c26 => ?_) (fun c26 => ?_)
      · skip
        refine x_bipush dL_judged_244 (by decide) ?_
        refine x_iconst dL_judged_246 ?_
        refine x_aload_n dL_judged_247 rfl rfl (by first | decide | omega) ?_
        refine x_iload dL_judged_248 rfl ?_
        refine x_iconst dL_judged_250 ?_
        refine x_isub dL_judged_251 ?_
        refine x_ialdx (o := 45) (n := nn) (x := dH D ((dN D) - 1)) dL_judged_252 rfl hs45 (by omega) (by omega) (hD.p (by omega)) ?_
        have hr2 := (hD.ok).hr (i := ((dN D) - 1)) (by omega)
        refine x_aload_n dL_judged_253 rfl rfl (by first | decide | omega) ?_
        refine x_iconst dL_judged_254 ?_
        refine x_ialdx (o := 45) (n := nn) (x := dH D 0) dL_judged_255 rfl hs45 (by omega) (by omega) (hD.p (by omega)) ?_
        have hr3 := (hD.ok).hr (i := 0) (by omega)
        refine x_isub dL_judged_256 ?_
        refine x_min fL_judged_257 (R32.in (by decide)) (R32.in (by omega)) (Nat.le_of_ble_eq_true rfl) ⟨Nat.le_of_ble_eq_true rfl, Nat.le_of_ble_eq_true rfl, show 0 ≤ 1 by omega, show 0 ≤ 4 by omega⟩ ?_
        refine x_max fL_judged_260 (R32.in (by decide)) (R32.in (by omega)) (Nat.le_of_ble_eq_true rfl) ⟨Nat.le_of_ble_eq_true rfl, Nat.le_of_ble_eq_true rfl, show 0 ≤ 1 by omega, show 0 ≤ 4 by omega⟩ ?_
        refine x_istore (ls' := [(3, 13), (2, 45), (2, 47), (2, 46), (0, l), (0, r), (0, dN D), (1, spn D), (9, 0), (1, st9), (9, 0), (1, al), (9, 0), (0, max (-5) (min 5 ((dH D ((dN D) - 1)) - (dH D 0)))), (9, 0), (9, 0), (9, 0), (9, 0), (9, 0), (9, 0), (9, 0), (9, 0), (9, 0), (9, 0), (9, 0)]) dL_judged_263 (Nat.le_of_ble_eq_true rfl) rfl rfl ?_
        refine x_iconst dL_judged_265 ?_
        refine x_istore (ls' := [(3, 13), (2, 45), (2, 47), (2, 46), (0, l), (0, r), (0, dN D), (1, spn D), (9, 0), (1, st9), (9, 0), (1, al), (9, 0), (0, max (-5) (min 5 ((dH D ((dN D) - 1)) - (dH D 0)))), (0, 1), (9, 0), (9, 0), (9, 0), (9, 0), (9, 0), (9, 0), (9, 0), (9, 0), (9, 0), (9, 0)]) dL_judged_266 (Nat.le_of_ble_eq_true rfl) rfl rfl ?_
        have hL268 : ∀ (n268 : Nat) (w : Int) (j : Int), (dN D - j).toNat = n268 → (1 ≤ j ∧ j ≤ dN D - 1) → (w = wnt D j) → Gx (xK G M_L_judged 1 4 (judP D l r L G μ)) G M_L_judged 0 0 268 [(3, 13), (2, 45), (2, 47), (2, 46), (0, l), (0, r), (0, dN D), (1, spn D), (9, 0), (1, st9), (9, 0), (1, al), (9, 0), (0, w), (0, j), (9, 0), (9, 0), (9, 0), (9, 0), (9, 0), (9, 0), (9, 0), (9, 0), (9, 0), (9, 0)] [] μ := by
          intro n268
          induction n268 using Nat.strongRecOn with
          | ind n268 ih268 =>
            intro w j hn268 hj0 hwn
            have hwr := wnt_r D j
            refine x_iload dL_judged_268 rfl ?_
            refine x_iload dL_judged_270 rfl ?_
            refine x_iconst dL_judged_272 ?_
            refine x_isub dL_judged_273 ?_
            refine x_icmp_ge (tgt := 340) dL_judged_274 rfl (R32.in (by omega)) (R32.in (by omega)) (fun c274 => ?_) (fun c274 => ?_)
            · skip
              have hwant : w = want D := (by first | (rw [want_w, show dN D - 1 = j by omega]; exact hwn) | (rw [want_w, wnt_k (by omega)]; rw [wnt_k (by omega)] at hwn; exact hwn))
              refine x_bipush dL_judged_340 (by decide) ?_
              refine x_iload dL_judged_342 rfl ?_
              refine x_iload dL_judged_344 rfl ?_
              refine x_isub dL_judged_346 ?_
              refine x_iload dL_judged_347 rfl ?_
              refine x_isub dL_judged_349 ?_
              refine x_abs fL_judged_350 (R32.in (by omega)) (Nat.le_of_ble_eq_true rfl) ⟨Nat.le_of_ble_eq_true rfl, Nat.le_of_ble_eq_true rfl, show 0 ≤ 1 by omega, show 0 ≤ 4 by omega⟩ ?_
              refine x_imul dL_judged_353 ?_
              refine x_iload dL_judged_354 rfl ?_
              refine x_iload dL_judged_356 rfl ?_
              refine x_isub dL_judged_358 ?_
              refine x_callSP (as := [(0, r - l)]) (rest := [(0, 6 * (if 0 ≤ (r - l) - w then (r - l) - w else -((r - l) - w)))]) (k := 0) fL_judged_359.g ⟨Nat.le_of_ble_eq_true rfl, Nat.le_of_ble_eq_true rfl⟩ ⟨show 0 ≤ 1 by omega, show 0 ≤ 4 by omega⟩ xK_A hw rfl rfl rfl rfl rfl (Nat.le_of_ble_eq_true rfl) ⟨fun h => absurd h (by decide), trivial⟩ (by decide) (s_J6_signum_0f7a4 G (r - l) μ (by first | omega | assumption)) ?_
              have hf4 := sgn_r (r - l)
              refine x_iload dL_judged_362 rfl ?_
              refine x_callSP (as := [(0, w)]) (rest := [(0, sgn (r - l)), (0, 6 * (if 0 ≤ (r - l) - w then (r - l) - w else -((r - l) - w)))]) (k := 0) fL_judged_364.g ⟨Nat.le_of_ble_eq_true rfl, Nat.le_of_ble_eq_true rfl⟩ ⟨show 0 ≤ 1 by omega, show 0 ≤ 4 by omega⟩ xK_A hw rfl rfl rfl rfl rfl (Nat.le_of_ble_eq_true rfl) ⟨fun h => absurd h (by decide), trivial⟩ (by decide) (s_J6_signum_0f7a4 G w μ (by first | omega | assumption)) ?_
              have hf5 := sgn_r w
              refine x_imul dL_judged_367 ?_
              have hJ368_1 : ∀ z1_0 : Int, z1_0 = (if 0 ≤ ((sgn (r - l)) * (sgn w)) then 0 else 20) → Gx (xK G M_L_judged 1 4 (judP D l r L G μ)) G M_L_judged 0 0 377 [(3, 13), (2, 45), (2, 47), (2, 46), (0, l), (0, r), (0, dN D), (1, spn D), (9, 0), (1, st9), (9, 0), (1, al), (9, 0), (0, w), (0, j), (9, 0), (9, 0), (9, 0), (9, 0), (9, 0), (9, 0), (9, 0), (9, 0), (9, 0), (9, 0)] [(0, z1_0), (0, 6 * (if 0 ≤ (r - l) - w then (r - l) - w else -((r - l) - w)))] μ := by
                intro z1_0 hz1_0
                refine x_iadd dL_judged_377 ?_
                refine Gx.topE (b := slp D (r - l)) (by rw [← jslp (by omega) rfl]; omega) ?_
                refine x_i2l dL_judged_378 (R32.in (by omega)) ?_
                refine x_lstore (ls' := [(3, 13), (2, 45), (2, 47), (2, 46), (0, l), (0, r), (0, dN D), (1, spn D), (9, 0), (1, st9), (9, 0), (1, al), (9, 0), (0, w), (1, slp D (r - l)), (9, 0), (9, 0), (9, 0), (9, 0), (9, 0), (9, 0), (9, 0), (9, 0), (9, 0), (9, 0)]) dL_judged_379 (Nat.le_of_ble_eq_true rfl) rfl rfl ?_
                refine x_lconst (v := 0) dL_judged_381 (by decide) ?_
                refine x_lstore (ls' := [(3, 13), (2, 45), (2, 47), (2, 46), (0, l), (0, r), (0, dN D), (1, spn D), (9, 0), (1, st9), (9, 0), (1, al), (9, 0), (0, w), (1, slp D (r - l)), (9, 0), (1, 0), (9, 0), (9, 0), (9, 0), (9, 0), (9, 0), (9, 0), (9, 0), (9, 0)]) dL_judged_382 (Nat.le_of_ble_eq_true rfl) rfl rfl ?_
                refine x_iconst dL_judged_384 ?_
                refine x_istore (ls' := [(3, 13), (2, 45), (2, 47), (2, 46), (0, l), (0, r), (0, dN D), (1, spn D), (9, 0), (1, st9), (9, 0), (1, al), (9, 0), (0, w), (1, slp D (r - l)), (9, 0), (1, 0), (9, 0), (0, 0), (9, 0), (9, 0), (9, 0), (9, 0), (9, 0), (9, 0)]) dL_judged_385 (Nat.le_of_ble_eq_true rfl) rfl rfl ?_
                have hL387 : ∀ (n387 : Nat) (sf : Int) (e : Int), (2 - e).toNat = n387 → (0 ≤ e ∧ e ≤ 2) → (0 ≤ sf ∧ sf ≤ 75 * e) → (sf = stfE D l r e) → Gx (xK G M_L_judged 1 4 (judP D l r L G μ)) G M_L_judged 0 0 387 [(3, 13), (2, 45), (2, 47), (2, 46), (0, l), (0, r), (0, dN D), (1, spn D), (9, 0), (1, st9), (9, 0), (1, al), (9, 0), (0, w), (1, slp D (r - l)), (9, 0), (1, sf), (9, 0), (0, e), (9, 0), (9, 0), (9, 0), (9, 0), (9, 0), (9, 0)] [] μ := by
                  intro n387
                  induction n387 using Nat.strongRecOn with
                  | ind n387 ih387 =>
                    intro sf e hn387 he0 hsfr hsf
                    refine x_iload dL_judged_387 rfl ?_
                    refine x_iconst dL_judged_389 ?_
                    refine x_icmp_ge (tgt := 577) dL_judged_390 rfl (R32.in (by omega)) (R32.in (by decide)) (fun c390 => ?_) (fun c390 => ?_)
                    · skip
                      have hal : alw D (r - l) l := (fun j h0 h1 => hok9 j h0 (by omega))
                      have hie : i = dN D := (by omega)
                      have hll : ((L : Nat) : Int) = ((gS G).length : Int) := (by rw [hlen])
                      refine x_iconst dL_judged_577 ?_
                      refine x_newaL (N := 4) xK_A ⟨show 0 + 1 ≤ 1 by omega, show 0 + 4 ≤ 4 by omega⟩ dL_judged_578 k_182 rfl (by decide) hw (by rw [hlen]; exact ⟨fun h => absurd h (by decide), ⟨fun _ => (by omega), ⟨fun _ => (by omega), ⟨fun _ => (by omega), ⟨fun h => absurd h (by decide), ⟨fun h => absurd h (by decide), ⟨fun h => absurd h (by decide), ⟨fun h => absurd h (by decide), ⟨fun h => absurd h (by decide), ⟨fun h => absurd h (by decide), ⟨fun h => absurd h (by decide), ⟨fun h => absurd h (by decide), ⟨fun h => absurd h (by decide), ⟨fun h => absurd h (by decide), ⟨fun h => absurd h (by decide), ⟨fun h => absurd h (by decide), ⟨fun h => absurd h (by decide), ⟨fun h => absurd h (by decide), ⟨fun h => absurd h (by decide), ⟨fun h => absurd h (by decide), ⟨fun h => absurd h (by decide), ⟨fun h => absurd h (by decide), ⟨fun h => absurd h (by decide), ⟨fun h => absurd h (by decide), ⟨fun h => absurd h (by decide), trivial⟩⟩⟩⟩⟩⟩⟩⟩⟩⟩⟩⟩⟩⟩⟩⟩⟩⟩⟩⟩⟩⟩⟩⟩⟩) trivial (fun q => ?_)
                      rw [← hll]
                      have hsL : (gS (ax G (23, 4) q))[L]? = some (23, 4) := (by have h9 := @ax_sh G (23, 4) q; rw [hlen] at h9; exact h9)
                      have hm0 : ∀ o : Int, o ≠ (L : Int) → am_nw μ (gS G).length o = μ o := (fun o ho => am_nw_o (by omega))
                      refine Gx.mu (fun μ0 hμ0 => ?_)
                      rw [← hμ0] at hm0
                      clear hμ0
                      refine x_dup dL_judged_580 (by simp) ?_
                      refine x_iconst dL_judged_581 ?_
                      refine x_lload dL_judged_582 rfl ?_
                      refine x_lload dL_judged_584 rfl ?_
                      have hsr := ssu_r (s := r - l) (l := l) hok (by omega) (by omega) hi0
                      have hss := hok.sp
                      refine x_ldivP dL_judged_586 (by omega) ?_
                      refine x_last (o := L) (n := 4) dL_judged_587 rfl hsL (Nat.le_of_ble_eq_true rfl) (by decide) (by decide) ?_
                      refine x_dup dL_judged_588 (by simp) ?_
                      refine x_iconst dL_judged_589 ?_
                      refine x_lload dL_judged_590 rfl ?_
                      refine x_last (o := L) (n := 4) dL_judged_592 rfl hsL (Nat.le_of_ble_eq_true rfl) (by decide) (by decide) ?_
                      refine x_dup dL_judged_593 (by simp) ?_
                      refine x_iconst dL_judged_594 ?_
                      refine x_lload dL_judged_595 rfl ?_
                      refine x_last (o := L) (n := 4) dL_judged_597 rfl hsL (Nat.le_of_ble_eq_true rfl) (by decide) (by decide) ?_
                      refine x_dup dL_judged_598 (by simp) ?_
                      refine x_iconst dL_judged_599 ?_
                      refine x_lload dL_judged_600 rfl ?_
                      refine x_last (o := L) (n := 4) dL_judged_602 rfl hsL (Nat.le_of_ble_eq_true rfl) (by decide) (by decide) ?_
                      refine x_aret dL_judged_603 rfl (Or.inr ⟨_, rfl⟩) ⟨by omega, by omega⟩ (Xt.ax G (23, 4) q) (Or.inr ⟨hal, q, rfl, rfl, ⟨⟨?_, ?_⟩, ⟨?_, ?_⟩⟩, fun o ho => ?_⟩)
                      · rw [am_up_nk (by decide), am_up_nk (by decide), am_up_nk (by decide), am_up_at]; unfold stm; rw [hst9, hie]
                      · rw [am_up_nk (by decide), am_up_nk (by decide), am_up_at]
                      · rw [am_up_nk (by decide), am_up_at, hsf]; rw [show e = 2 by omega]; rfl
                      · rw [am_up_at, hal9, hie]; exact lsu_e D (r - l) l (by omega)
                      · rw [am_up_o ho, am_up_o ho, am_up_o ho, am_up_o ho]; exact hm0 o ho
                    · skip
                      refine x_iload dL_judged_393 rfl ?_
                      have hJ395_2 : ∀ z2_0 : Int, z2_0 = (if ¬ e = 0 then (dN D) - 1 else 0) → Gx (xK G M_L_judged 1 4 (judP D l r L G μ)) G M_L_judged 0 0 406 [(3, 13), (2, 45), (2, 47), (2, 46), (0, l), (0, r), (0, dN D), (1, spn D), (9, 0), (1, st9), (9, 0), (1, al), (9, 0), (0, w), (1, slp D (r - l)), (9, 0), (1, sf), (9, 0), (0, e), (9, 0), (9, 0), (9, 0), (9, 0), (9, 0), (9, 0)] [(0, z2_0)] μ := by
                        intro z2_0 hz2_0
                        refine Gx.topE (b := eI D e) (by unfold eI; omega) ?_
                        refine x_istore (ls' := [(3, 13), (2, 45), (2, 47), (2, 46), (0, l), (0, r), (0, dN D), (1, spn D), (9, 0), (1, st9), (9, 0), (1, al), (9, 0), (0, w), (1, slp D (r - l)), (9, 0), (1, sf), (9, 0), (0, e), (0, eI D e), (9, 0), (9, 0), (9, 0), (9, 0), (9, 0)]) dL_judged_406 (Nat.le_of_ble_eq_true rfl) rfl rfl ?_
                        refine x_iload dL_judged_408 rfl ?_
                        have hJ410_3 : ∀ z3_0 : Int, z3_0 = (if ¬ e = 0 then r else l) → Gx (xK G M_L_judged 1 4 (judP D l r L G μ)) G M_L_judged 0 0 420 [(3, 13), (2, 45), (2, 47), (2, 46), (0, l), (0, r), (0, dN D), (1, spn D), (9, 0), (1, st9), (9, 0), (1, al), (9, 0), (0, w), (1, slp D (r - l)), (9, 0), (1, sf), (9, 0), (0, e), (0, eI D e), (9, 0), (9, 0), (9, 0), (9, 0), (9, 0)] [(0, z3_0)] μ := by
                          intro z3_0 hz3_0
                          refine Gx.topE (b := eO l r e) (by unfold eO; omega) ?_
                          refine x_istore (ls' := [(3, 13), (2, 45), (2, 47), (2, 46), (0, l), (0, r), (0, dN D), (1, spn D), (9, 0), (1, st9), (9, 0), (1, al), (9, 0), (0, w), (1, slp D (r - l)), (9, 0), (1, sf), (9, 0), (0, e), (0, eI D e), (0, eO l r e), (9, 0), (9, 0), (9, 0), (9, 0)]) dL_judged_420 (Nat.le_of_ble_eq_true rfl) rfl rfl ?_
                          refine x_iload dL_judged_422 rfl ?_
                          have hJ424_4 : ∀ z4_0 : Int, z4_0 = (if ¬ e = 0 then l else r) → Gx (xK G M_L_judged 1 4 (judP D l r L G μ)) G M_L_judged 0 0 434 [(3, 13), (2, 45), (2, 47), (2, 46), (0, l), (0, r), (0, dN D), (1, spn D), (9, 0), (1, st9), (9, 0), (1, al), (9, 0), (0, w), (1, slp D (r - l)), (9, 0), (1, sf), (9, 0), (0, e), (0, eI D e), (0, eO l r e), (9, 0), (9, 0), (9, 0), (9, 0)] [(0, z4_0)] μ := by
                            intro z4_0 hz4_0
                            refine Gx.topE (b := eT l r e) (by unfold eT; omega) ?_
                            refine x_istore (ls' := [(3, 13), (2, 45), (2, 47), (2, 46), (0, l), (0, r), (0, dN D), (1, spn D), (9, 0), (1, st9), (9, 0), (1, al), (9, 0), (0, w), (1, slp D (r - l)), (9, 0), (1, sf), (9, 0), (0, e), (0, eI D e), (0, eO l r e), (0, eT l r e), (9, 0), (9, 0), (9, 0)]) dL_judged_434 (Nat.le_of_ble_eq_true rfl) rfl rfl ?_
                            refine x_iconst dL_judged_436 ?_
                            refine x_istore (ls' := [(3, 13), (2, 45), (2, 47), (2, 46), (0, l), (0, r), (0, dN D), (1, spn D), (9, 0), (1, st9), (9, 0), (1, al), (9, 0), (0, w), (1, slp D (r - l)), (9, 0), (1, sf), (9, 0), (0, e), (0, eI D e), (0, eO l r e), (0, eT l r e), (0, 0), (9, 0), (9, 0)]) dL_judged_437 (Nat.le_of_ble_eq_true rfl) rfl rfl ?_
                            have hL439 : ∀ (n439 : Nat) (m : Int) (k : Int), (3 - k).toNat = n439 → (0 ≤ k ∧ k ≤ dB D (eI D e)) → (m = sf + ecs D (eI D e) (eO l r e) (eT l r e - eO l r e) k) → Gx (xK G M_L_judged 1 4 (judP D l r L G μ)) G M_L_judged 0 0 439 [(3, 13), (2, 45), (2, 47), (2, 46), (0, l), (0, r), (0, dN D), (1, spn D), (9, 0), (1, st9), (9, 0), (1, al), (9, 0), (0, w), (1, slp D (r - l)), (9, 0), (1, m), (9, 0), (0, e), (0, eI D e), (0, eO l r e), (0, eT l r e), (0, k), (9, 0), (9, 0)] [] μ := by
                              intro n439
                              induction n439 using Nat.strongRecOn with
                              | ind n439 ih439 =>
                                intro m k hn439 hk0 hm
                                have hei := eI_r hok e
                                have hbr := hok.br hei
                                have hmr := ecs_r D (eI D e) (eO l r e) (eT l r e - eO l r e) hk0.1
                                have hot := eOT l r e
                                have hot2 := hot.2 ⟨hlr.1, hlr.2.1⟩
                                have hm2 : -9 ≤ way D (eI D e) * 3 * k ∧ way D (eI D e) * 3 * k ≤ 9 := (by rcases way_r D (eI D e) with q | q <;> rw [q] <;> omega)
                                have hm3 := way3 D (eI D e) k
                                refine x_iload dL_judged_439 rfl ?_
                                refine x_aload_nS dL_judged_441 rfl rfl ?_
                                refine x_iload dL_judged_442 rfl ?_
                                refine x_callSP (as := [(3, 13), (0, eI D e)]) (rest := [(0, k)]) (k := 0) fL_judged_444.g ⟨Nat.le_of_ble_eq_true rfl, Nat.le_of_ble_eq_true rfl⟩ ⟨show 0 ≤ 1 by omega, show 0 ≤ 4 by omega⟩ xK_A hw rfl rfl rfl rfl rfl (Nat.le_of_ble_eq_true rfl) ⟨fun h => absurd h (by decide), ⟨fun h => absurd h (by decide), trivial⟩⟩ (by decide) (s_L_kind G (eI D e) μ hk4 (by first | omega | assumption)) ?_
                                have hf6 := lkd_r G (eI D e)
                                refine x_icmp_ge (tgt := 571) dL_judged_447 rfl (R32.in (by omega)) (R32.in (by omega)) (fun c447 => ?_) (fun c447 => ?_)
                                · skip
                                  refine x_iinc (ls' := [(3, 13), (2, 45), (2, 47), (2, 46), (0, l), (0, r), (0, dN D), (1, spn D), (9, 0), (1, st9), (9, 0), (1, al), (9, 0), (0, w), (1, slp D (r - l)), (9, 0), (1, m), (9, 0), (0, e + 1), (0, eI D e), (0, eO l r e), (0, eT l r e), (0, k), (9, 0), (9, 0)]) dL_judged_571 rfl (Nat.le_of_ble_eq_true rfl) rfl rfl ?_
                                  refine x_goto (tgt := 387) dL_judged_574 rfl ?_
                                  refine Gx.fgl (ls' := [(3, 13), (2, 45), (2, 47), (2, 46), (0, l), (0, r), (0, dN D), (1, spn D), (9, 0), (1, st9), (9, 0), (1, al), (9, 0), (0, w), (1, slp D (r - l)), (9, 0), (1, m), (9, 0), (0, e + 1), (9, 0), (0, eO l r e), (0, eT l r e), (0, k), (9, 0), (9, 0)]) 19 rfl ?_
                                  refine Gx.fgl (ls' := [(3, 13), (2, 45), (2, 47), (2, 46), (0, l), (0, r), (0, dN D), (1, spn D), (9, 0), (1, st9), (9, 0), (1, al), (9, 0), (0, w), (1, slp D (r - l)), (9, 0), (1, m), (9, 0), (0, e + 1), (9, 0), (9, 0), (0, eT l r e), (0, k), (9, 0), (9, 0)]) 20 rfl ?_
                                  refine Gx.fgl (ls' := [(3, 13), (2, 45), (2, 47), (2, 46), (0, l), (0, r), (0, dN D), (1, spn D), (9, 0), (1, st9), (9, 0), (1, al), (9, 0), (0, w), (1, slp D (r - l)), (9, 0), (1, m), (9, 0), (0, e + 1), (9, 0), (9, 0), (9, 0), (0, k), (9, 0), (9, 0)]) 21 rfl ?_
                                  refine Gx.fgl (ls' := [(3, 13), (2, 45), (2, 47), (2, 46), (0, l), (0, r), (0, dN D), (1, spn D), (9, 0), (1, st9), (9, 0), (1, al), (9, 0), (0, w), (1, slp D (r - l)), (9, 0), (1, m), (9, 0), (0, e + 1), (9, 0), (9, 0), (9, 0), (9, 0), (9, 0), (9, 0)]) 22 rfl ?_
                                  exact ih387 _ (by omega) m (e + 1) rfl (by first | omega | assumption) (by have := eco_fr D (eI D e) (eO l r e) (eT l r e - eO l r e) hok (eI_r hok e); omega) (by rw [stfE_s (by omega), ← hsf, ← hke]; exact hm)
                                · skip
                                  refine x_iload dL_judged_450 rfl ?_
                                  refine x_iconst dL_judged_452 ?_
                                  refine x_iload dL_judged_453 rfl ?_
                                  refine x_imul dL_judged_455 ?_
                                  refine x_aload_n dL_judged_456 rfl rfl (by first | decide | omega) ?_
                                  refine x_iload dL_judged_457 rfl ?_
                                  refine x_ialdx (o := 47) (n := nn) (x := way D (eI D e)) dL_judged_459 rfl hs47 (by omega) (by omega) (hW _ (by omega) (by omega)) ?_
                                  have hr7 := way_b D (eI D e)
                                  refine x_imul dL_judged_460 ?_
                                  refine x_isub dL_judged_461 ?_
                                  refine Gx.topE (b := eO l r e - way D (eI D e) * 3 * k) (by rw [way3]) ?_
                                  refine x_istore (ls' := [(3, 13), (2, 45), (2, 47), (2, 46), (0, l), (0, r), (0, dN D), (1, spn D), (9, 0), (1, st9), (9, 0), (1, al), (9, 0), (0, w), (1, slp D (r - l)), (9, 0), (1, m), (9, 0), (0, e), (0, eI D e), (0, eO l r e), (0, eT l r e), (0, k), (0, eO l r e - way D (eI D e) * 3 * k), (9, 0)]) dL_judged_462 (Nat.le_of_ble_eq_true rfl) rfl rfl ?_
                                  refine x_iload dL_judged_464 rfl ?_
                                  refine x_bipush dL_judged_466 (by decide) ?_
                                  refine x_icmp_lt (tgt := 565) dL_judged_468 rfl (R32.in (by omega)) (R32.in (by decide)) (fun c468 => ?_) (fun c468 => ?_)
                                  · skip
                                    refine x_iinc (ls' := [(3, 13), (2, 45), (2, 47), (2, 46), (0, l), (0, r), (0, dN D), (1, spn D), (9, 0), (1, st9), (9, 0), (1, al), (9, 0), (0, w), (1, slp D (r - l)), (9, 0), (1, m), (9, 0), (0, e), (0, eI D e), (0, eO l r e), (0, eT l r e), (0, k + 1), (0, eO l r e - way D (eI D e) * 3 * k), (9, 0)]) dL_judged_565 rfl (Nat.le_of_ble_eq_true rfl) rfl rfl ?_
                                    refine x_goto (tgt := 439) dL_judged_568 rfl ?_
                                    refine Gx.fgl (ls' := [(3, 13), (2, 45), (2, 47), (2, 46), (0, l), (0, r), (0, dN D), (1, spn D), (9, 0), (1, st9), (9, 0), (1, al), (9, 0), (0, w), (1, slp D (r - l)), (9, 0), (1, m), (9, 0), (0, e), (0, eI D e), (0, eO l r e), (0, eT l r e), (0, k + 1), (9, 0), (9, 0)]) 23 rfl ?_
                                    exact ih439 _ (by omega) m (k + 1) rfl (by omega) (by rw [ecs_s hk0.1]; unfold tco; omega)
                                  · skip
                                    refine x_iload dL_judged_471 rfl ?_
                                    refine x_bipush dL_judged_473 (by decide) ?_
                                    refine x_icmp_le (tgt := 481) dL_judged_475 rfl (R32.in (by omega)) (R32.in (by decide)) (fun c475 => ?_) (fun c475 => ?_)
                                    · skip
                                      refine x_iload dL_judged_481 rfl ?_
                                      refine x_iconst dL_judged_483 ?_
                                      refine x_callSP (as := [(0, eO l r e - way D (eI D e) * 3 * k), (0, 4)]) (rest := []) (k := 1) fL_judged_484.g ⟨Nat.le_of_ble_eq_true rfl, Nat.le_of_ble_eq_true rfl⟩ ⟨show 0 ≤ 1 by omega, show 0 ≤ 4 by omega⟩ xK_A hw rfl rfl rfl rfl rfl (Nat.le_of_ble_eq_true rfl) ⟨fun h => absurd h (by decide), ⟨fun h => absurd h (by decide), trivial⟩⟩ (by decide) (s_J9_floorMod_7cf53 G (eO l r e - way D (eI D e) * 3 * k) 4 μ (by first | omega | assumption) (by first | omega | assumption)) ?_
                                      refine x_istore (ls' := [(3, 13), (2, 45), (2, 47), (2, 46), (0, l), (0, r), (0, dN D), (1, spn D), (9, 0), (1, st9), (9, 0), (1, al), (9, 0), (0, w), (1, slp D (r - l)), (9, 0), (1, m), (9, 0), (0, e), (0, eI D e), (0, eO l r e), (0, eT l r e), (0, k), (0, eO l r e - way D (eI D e) * 3 * k), (0, (eO l r e - way D (eI D e) * 3 * k) % 4)]) dL_judged_487 (Nat.le_of_ble_eq_true rfl) rfl rfl ?_
                                      refine x_lload dL_judged_489 rfl ?_
                                      refine x_iload dL_judged_491 rfl ?_
                                      refine x_iconst dL_judged_493 ?_
                                      refine x_icmp_ne (tgt := 503) dL_judged_494 rfl (R32.in (by omega)) (R32.in (by decide)) (fun c494 => ?_) (fun c494 => ?_)
                                      · skip
                                        refine x_iload dL_judged_503 rfl ?_
                                        refine x_if_ne (tgt := 525) dL_judged_505 rfl (R32.in (by omega)) (fun c505 => ?_) (fun c505 => ?_)
                                        · skip
                                          refine x_iload dL_judged_525 rfl ?_
                                          refine x_iconst dL_judged_527 ?_
                                          refine x_icmp_ne (tgt := 548) dL_judged_528 rfl (R32.in (by omega)) (R32.in (by decide)) (fun c528 => ?_) (fun c528 => ?_)
                                          · skip
                                            refine x_iload dL_judged_548 rfl ?_
                                            refine x_iload dL_judged_550 rfl ?_
                                            refine x_icmp_le (tgt := 561) dL_judged_552 rfl (R32.in (by omega)) (R32.in (by omega)) (fun c552 => ?_) (fun c552 => ?_)
                                            · skip
                                              refine x_lconst (v := 0) dL_judged_561 (by decide) ?_
                                              refine x_ladd dL_judged_562 ?_
                                              refine x_lstore (ls' := [(3, 13), (2, 45), (2, 47), (2, 46), (0, l), (0, r), (0, dN D), (1, spn D), (9, 0), (1, st9), (9, 0), (1, al), (9, 0), (0, w), (1, slp D (r - l)), (9, 0), (1, m + 0), (9, 0), (0, e), (0, eI D e), (0, eO l r e), (0, eT l r e), (0, k), (0, eO l r e - way D (eI D e) * 3 * k), (0, (eO l r e - way D (eI D e) * 3 * k) % 4)]) dL_judged_563 (Nat.le_of_ble_eq_true rfl) rfl rfl ?_
                                              refine x_iinc (ls' := [(3, 13), (2, 45), (2, 47), (2, 46), (0, l), (0, r), (0, dN D), (1, spn D), (9, 0), (1, st9), (9, 0), (1, al), (9, 0), (0, w), (1, slp D (r - l)), (9, 0), (1, m + 0), (9, 0), (0, e), (0, eI D e), (0, eO l r e), (0, eT l r e), (0, k + 1), (0, eO l r e - way D (eI D e) * 3 * k), (0, (eO l r e - way D (eI D e) * 3 * k) % 4)]) dL_judged_565 rfl (Nat.le_of_ble_eq_true rfl) rfl rfl ?_
                                              refine x_goto (tgt := 439) dL_judged_568 rfl ?_
                                              refine Gx.fgl (ls' := [(3, 13), (2, 45), (2, 47), (2, 46), (0, l), (0, r), (0, dN D), (1, spn D), (9, 0), (1, st9), (9, 0), (1, al), (9, 0), (0, w), (1, slp D (r - l)), (9, 0), (1, m + 0), (9, 0), (0, e), (0, eI D e), (0, eO l r e), (0, eT l r e), (0, k + 1), (9, 0), (0, (eO l r e - way D (eI D e) * 3 * k) % 4)]) 23 rfl ?_
                                              refine Gx.fgl (ls' := [(3, 13), (2, 45), (2, 47), (2, 46), (0, l), (0, r), (0, dN D), (1, spn D), (9, 0), (1, st9), (9, 0), (1, al), (9, 0), (0, w), (1, slp D (r - l)), (9, 0), (1, m + 0), (9, 0), (0, e), (0, eI D e), (0, eO l r e), (0, eT l r e), (0, k + 1), (9, 0), (9, 0)]) 24 rfl ?_
                                              exact ih439 _ (by omega) (m + 0) (k + 1) rfl (by omega) (by rw [ecs_s hk0.1]; unfold tco; omega)
                                            · skip
                                              refine x_ldc2 (n := 8) dL_judged_555 k_1069 (by decide) ?_
                                              refine x_goto (tgt := 562) dL_judged_558 rfl ?_
                                              refine x_ladd dL_judged_562 ?_
                                              refine x_lstore (ls' := [(3, 13), (2, 45), (2, 47), (2, 46), (0, l), (0, r), (0, dN D), (1, spn D), (9, 0), (1, st9), (9, 0), (1, al), (9, 0), (0, w), (1, slp D (r - l)), (9, 0), (1, m + 8), (9, 0), (0, e), (0, eI D e), (0, eO l r e), (0, eT l r e), (0, k), (0, eO l r e - way D (eI D e) * 3 * k), (0, (eO l r e - way D (eI D e) * 3 * k) % 4)]) dL_judged_563 (Nat.le_of_ble_eq_true rfl) rfl rfl ?_
                                              refine x_iinc (ls' := [(3, 13), (2, 45), (2, 47), (2, 46), (0, l), (0, r), (0, dN D), (1, spn D), (9, 0), (1, st9), (9, 0), (1, al), (9, 0), (0, w), (1, slp D (r - l)), (9, 0), (1, m + 8), (9, 0), (0, e), (0, eI D e), (0, eO l r e), (0, eT l r e), (0, k + 1), (0, eO l r e - way D (eI D e) * 3 * k), (0, (eO l r e - way D (eI D e) * 3 * k) % 4)]) dL_judged_565 rfl (Nat.le_of_ble_eq_true rfl) rfl rfl ?_
                                              refine x_goto (tgt := 439) dL_judged_568 rfl ?_
                                              refine Gx.fgl (ls' := [(3, 13), (2, 45), (2, 47), (2, 46), (0, l), (0, r), (0, dN D), (1, spn D), (9, 0), (1, st9), (9, 0), (1, al), (9, 0), (0, w), (1, slp D (r - l)), (9, 0), (1, m + 8), (9, 0), (0, e), (0, eI D e), (0, eO l r e), (0, eT l r e), (0, k + 1), (9, 0), (0, (eO l r e - way D (eI D e) * 3 * k) % 4)]) 23 rfl ?_
                                              refine Gx.fgl (ls' := [(3, 13), (2, 45), (2, 47), (2, 46), (0, l), (0, r), (0, dN D), (1, spn D), (9, 0), (1, st9), (9, 0), (1, al), (9, 0), (0, w), (1, slp D (r - l)), (9, 0), (1, m + 8), (9, 0), (0, e), (0, eI D e), (0, eO l r e), (0, eT l r e), (0, k + 1), (9, 0), (9, 0)]) 24 rfl ?_
                                              exact ih439 _ (by omega) (m + 8) (k + 1) rfl (by omega) (by rw [ecs_s hk0.1]; unfold tco; omega)
                                          · skip
                                            refine x_iload dL_judged_531 rfl ?_
                                            refine x_iload dL_judged_533 rfl ?_
                                            refine x_icmp_ge (tgt := 544) dL_judged_535 rfl (R32.in (by omega)) (R32.in (by omega)) (fun c535 => ?_) (fun c535 => ?_)
                                            · skip
                                              refine x_lconst (v := 0) dL_judged_544 (by decide) ?_
                                              refine x_goto (tgt := 562) dL_judged_545 rfl ?_
                                              refine x_ladd dL_judged_562 ?_
                                              refine x_lstore (ls' := [(3, 13), (2, 45), (2, 47), (2, 46), (0, l), (0, r), (0, dN D), (1, spn D), (9, 0), (1, st9), (9, 0), (1, al), (9, 0), (0, w), (1, slp D (r - l)), (9, 0), (1, m + 0), (9, 0), (0, e), (0, eI D e), (0, eO l r e), (0, eT l r e), (0, k), (0, eO l r e - way D (eI D e) * 3 * k), (0, (eO l r e - way D (eI D e) * 3 * k) % 4)]) dL_judged_563 (Nat.le_of_ble_eq_true rfl) rfl rfl ?_
                                              refine x_iinc (ls' := [(3, 13), (2, 45), (2, 47), (2, 46), (0, l), (0, r), (0, dN D), (1, spn D), (9, 0), (1, st9), (9, 0), (1, al), (9, 0), (0, w), (1, slp D (r - l)), (9, 0), (1, m + 0), (9, 0), (0, e), (0, eI D e), (0, eO l r e), (0, eT l r e), (0, k + 1), (0, eO l r e - way D (eI D e) * 3 * k), (0, (eO l r e - way D (eI D e) * 3 * k) % 4)]) dL_judged_565 rfl (Nat.le_of_ble_eq_true rfl) rfl rfl ?_
                                              refine x_goto (tgt := 439) dL_judged_568 rfl ?_
                                              refine Gx.fgl (ls' := [(3, 13), (2, 45), (2, 47), (2, 46), (0, l), (0, r), (0, dN D), (1, spn D), (9, 0), (1, st9), (9, 0), (1, al), (9, 0), (0, w), (1, slp D (r - l)), (9, 0), (1, m + 0), (9, 0), (0, e), (0, eI D e), (0, eO l r e), (0, eT l r e), (0, k + 1), (9, 0), (0, (eO l r e - way D (eI D e) * 3 * k) % 4)]) 23 rfl ?_
                                              refine Gx.fgl (ls' := [(3, 13), (2, 45), (2, 47), (2, 46), (0, l), (0, r), (0, dN D), (1, spn D), (9, 0), (1, st9), (9, 0), (1, al), (9, 0), (0, w), (1, slp D (r - l)), (9, 0), (1, m + 0), (9, 0), (0, e), (0, eI D e), (0, eO l r e), (0, eT l r e), (0, k + 1), (9, 0), (9, 0)]) 24 rfl ?_
                                              exact ih439 _ (by omega) (m + 0) (k + 1) rfl (by omega) (by rw [ecs_s hk0.1]; unfold tco; omega)
                                            · skip
                                              refine x_ldc2 (n := 8) dL_judged_538 k_1069 (by decide) ?_
                                              refine x_goto (tgt := 562) dL_judged_541 rfl ?_
                                              refine x_ladd dL_judged_562 ?_
                                              refine x_lstore (ls' := [(3, 13), (2, 45), (2, 47), (2, 46), (0, l), (0, r), (0, dN D), (1, spn D), (9, 0), (1, st9), (9, 0), (1, al), (9, 0), (0, w), (1, slp D (r - l)), (9, 0), (1, m + 8), (9, 0), (0, e), (0, eI D e), (0, eO l r e), (0, eT l r e), (0, k), (0, eO l r e - way D (eI D e) * 3 * k), (0, (eO l r e - way D (eI D e) * 3 * k) % 4)]) dL_judged_563 (Nat.le_of_ble_eq_true rfl) rfl rfl ?_
                                              refine x_iinc (ls' := [(3, 13), (2, 45), (2, 47), (2, 46), (0, l), (0, r), (0, dN D), (1, spn D), (9, 0), (1, st9), (9, 0), (1, al), (9, 0), (0, w), (1, slp D (r - l)), (9, 0), (1, m + 8), (9, 0), (0, e), (0, eI D e), (0, eO l r e), (0, eT l r e), (0, k + 1), (0, eO l r e - way D (eI D e) * 3 * k), (0, (eO l r e - way D (eI D e) * 3 * k) % 4)]) dL_judged_565 rfl (Nat.le_of_ble_eq_true rfl) rfl rfl ?_
                                              refine x_goto (tgt := 439) dL_judged_568 rfl ?_
                                              refine Gx.fgl (ls' := [(3, 13), (2, 45), (2, 47), (2, 46), (0, l), (0, r), (0, dN D), (1, spn D), (9, 0), (1, st9), (9, 0), (1, al), (9, 0), (0, w), (1, slp D (r - l)), (9, 0), (1, m + 8), (9, 0), (0, e), (0, eI D e), (0, eO l r e), (0, eT l r e), (0, k + 1), (9, 0), (0, (eO l r e - way D (eI D e) * 3 * k) % 4)]) 23 rfl ?_
                                              refine Gx.fgl (ls' := [(3, 13), (2, 45), (2, 47), (2, 46), (0, l), (0, r), (0, dN D), (1, spn D), (9, 0), (1, st9), (9, 0), (1, al), (9, 0), (0, w), (1, slp D (r - l)), (9, 0), (1, m + 8), (9, 0), (0, e), (0, eI D e), (0, eO l r e), (0, eT l r e), (0, k + 1), (9, 0), (9, 0)]) 24 rfl ?_
                                              exact ih439 _ (by omega) (m + 8) (k + 1) rfl (by omega) (by rw [ecs_s hk0.1]; unfold tco; omega)
                                        · skip
                                          refine x_iload dL_judged_508 rfl ?_
                                          refine x_iload dL_judged_510 rfl ?_
                                          refine x_icmp_ne (tgt := 521) dL_judged_512 rfl (R32.in (by omega)) (R32.in (by omega)) (fun c512 => ?_) (fun c512 => ?_)
                                          · skip
                                            refine x_lconst (v := 1) dL_judged_521 (by decide) ?_
                                            refine x_goto (tgt := 562) dL_judged_522 rfl ?_
                                            refine x_ladd dL_judged_562 ?_
                                            refine x_lstore (ls' := [(3, 13), (2, 45), (2, 47), (2, 46), (0, l), (0, r), (0, dN D), (1, spn D), (9, 0), (1, st9), (9, 0), (1, al), (9, 0), (0, w), (1, slp D (r - l)), (9, 0), (1, m + 1), (9, 0), (0, e), (0, eI D e), (0, eO l r e), (0, eT l r e), (0, k), (0, eO l r e - way D (eI D e) * 3 * k), (0, (eO l r e - way D (eI D e) * 3 * k) % 4)]) dL_judged_563 (Nat.le_of_ble_eq_true rfl) rfl rfl ?_
                                            refine x_iinc (ls' := [(3, 13), (2, 45), (2, 47), (2, 46), (0, l), (0, r), (0, dN D), (1, spn D), (9, 0), (1, st9), (9, 0), (1, al), (9, 0), (0, w), (1, slp D (r - l)), (9, 0), (1, m + 1), (9, 0), (0, e), (0, eI D e), (0, eO l r e), (0, eT l r e), (0, k + 1), (0, eO l r e - way D (eI D e) * 3 * k), (0, (eO l r e - way D (eI D e) * 3 * k) % 4)]) dL_judged_565 rfl (Nat.le_of_ble_eq_true rfl) rfl rfl ?_
                                            refine x_goto (tgt := 439) dL_judged_568 rfl ?_
                                            refine Gx.fgl (ls' := [(3, 13), (2, 45), (2, 47), (2, 46), (0, l), (0, r), (0, dN D), (1, spn D), (9, 0), (1, st9), (9, 0), (1, al), (9, 0), (0, w), (1, slp D (r - l)), (9, 0), (1, m + 1), (9, 0), (0, e), (0, eI D e), (0, eO l r e), (0, eT l r e), (0, k + 1), (9, 0), (0, (eO l r e - way D (eI D e) * 3 * k) % 4)]) 23 rfl ?_
                                            refine Gx.fgl (ls' := [(3, 13), (2, 45), (2, 47), (2, 46), (0, l), (0, r), (0, dN D), (1, spn D), (9, 0), (1, st9), (9, 0), (1, al), (9, 0), (0, w), (1, slp D (r - l)), (9, 0), (1, m + 1), (9, 0), (0, e), (0, eI D e), (0, eO l r e), (0, eT l r e), (0, k + 1), (9, 0), (9, 0)]) 24 rfl ?_
                                            exact ih439 _ (by omega) (m + 1) (k + 1) rfl (by omega) (by rw [ecs_s hk0.1]; unfold tco; omega)
                                          · skip
                                            refine x_ldc2 (n := 2) dL_judged_515 k_1057 (by decide) ?_
                                            refine x_goto (tgt := 562) dL_judged_518 rfl ?_
                                            refine x_ladd dL_judged_562 ?_
                                            refine x_lstore (ls' := [(3, 13), (2, 45), (2, 47), (2, 46), (0, l), (0, r), (0, dN D), (1, spn D), (9, 0), (1, st9), (9, 0), (1, al), (9, 0), (0, w), (1, slp D (r - l)), (9, 0), (1, m + 2), (9, 0), (0, e), (0, eI D e), (0, eO l r e), (0, eT l r e), (0, k), (0, eO l r e - way D (eI D e) * 3 * k), (0, (eO l r e - way D (eI D e) * 3 * k) % 4)]) dL_judged_563 (Nat.le_of_ble_eq_true rfl) rfl rfl ?_
                                            refine x_iinc (ls' := [(3, 13), (2, 45), (2, 47), (2, 46), (0, l), (0, r), (0, dN D), (1, spn D), (9, 0), (1, st9), (9, 0), (1, al), (9, 0), (0, w), (1, slp D (r - l)), (9, 0), (1, m + 2), (9, 0), (0, e), (0, eI D e), (0, eO l r e), (0, eT l r e), (0, k + 1), (0, eO l r e - way D (eI D e) * 3 * k), (0, (eO l r e - way D (eI D e) * 3 * k) % 4)]) dL_judged_565 rfl (Nat.le_of_ble_eq_true rfl) rfl rfl ?_
                                            refine x_goto (tgt := 439) dL_judged_568 rfl ?_
                                            refine Gx.fgl (ls' := [(3, 13), (2, 45), (2, 47), (2, 46), (0, l), (0, r), (0, dN D), (1, spn D), (9, 0), (1, st9), (9, 0), (1, al), (9, 0), (0, w), (1, slp D (r - l)), (9, 0), (1, m + 2), (9, 0), (0, e), (0, eI D e), (0, eO l r e), (0, eT l r e), (0, k + 1), (9, 0), (0, (eO l r e - way D (eI D e) * 3 * k) % 4)]) 23 rfl ?_
                                            refine Gx.fgl (ls' := [(3, 13), (2, 45), (2, 47), (2, 46), (0, l), (0, r), (0, dN D), (1, spn D), (9, 0), (1, st9), (9, 0), (1, al), (9, 0), (0, w), (1, slp D (r - l)), (9, 0), (1, m + 2), (9, 0), (0, e), (0, eI D e), (0, eO l r e), (0, eT l r e), (0, k + 1), (9, 0), (9, 0)]) 24 rfl ?_
                                            exact ih439 _ (by omega) (m + 2) (k + 1) rfl (by omega) (by rw [ecs_s hk0.1]; unfold tco; omega)
                                      · skip
                                        refine x_ldc2 (n := 25) dL_judged_497 k_1068 (by decide) ?_
                                        refine x_goto (tgt := 562) dL_judged_500 rfl ?_
                                        refine x_ladd dL_judged_562 ?_
                                        refine x_lstore (ls' := [(3, 13), (2, 45), (2, 47), (2, 46), (0, l), (0, r), (0, dN D), (1, spn D), (9, 0), (1, st9), (9, 0), (1, al), (9, 0), (0, w), (1, slp D (r - l)), (9, 0), (1, m + 25), (9, 0), (0, e), (0, eI D e), (0, eO l r e), (0, eT l r e), (0, k), (0, eO l r e - way D (eI D e) * 3 * k), (0, (eO l r e - way D (eI D e) * 3 * k) % 4)]) dL_judged_563 (Nat.le_of_ble_eq_true rfl) rfl rfl ?_
                                        refine x_iinc (ls' := [(3, 13), (2, 45), (2, 47), (2, 46), (0, l), (0, r), (0, dN D), (1, spn D), (9, 0), (1, st9), (9, 0), (1, al), (9, 0), (0, w), (1, slp D (r - l)), (9, 0), (1, m + 25), (9, 0), (0, e), (0, eI D e), (0, eO l r e), (0, eT l r e), (0, k + 1), (0, eO l r e - way D (eI D e) * 3 * k), (0, (eO l r e - way D (eI D e) * 3 * k) % 4)]) dL_judged_565 rfl (Nat.le_of_ble_eq_true rfl) rfl rfl ?_
                                        refine x_goto (tgt := 439) dL_judged_568 rfl ?_
                                        refine Gx.fgl (ls' := [(3, 13), (2, 45), (2, 47), (2, 46), (0, l), (0, r), (0, dN D), (1, spn D), (9, 0), (1, st9), (9, 0), (1, al), (9, 0), (0, w), (1, slp D (r - l)), (9, 0), (1, m + 25), (9, 0), (0, e), (0, eI D e), (0, eO l r e), (0, eT l r e), (0, k + 1), (9, 0), (0, (eO l r e - way D (eI D e) * 3 * k) % 4)]) 23 rfl ?_
                                        refine Gx.fgl (ls' := [(3, 13), (2, 45), (2, 47), (2, 46), (0, l), (0, r), (0, dN D), (1, spn D), (9, 0), (1, st9), (9, 0), (1, al), (9, 0), (0, w), (1, slp D (r - l)), (9, 0), (1, m + 25), (9, 0), (0, e), (0, eI D e), (0, eO l r e), (0, eT l r e), (0, k + 1), (9, 0), (9, 0)]) 24 rfl ?_
                                        exact ih439 _ (by omega) (m + 25) (k + 1) rfl (by omega) (by rw [ecs_s hk0.1]; unfold tco; omega)
                                    · skip
                                      refine x_goto (tgt := 565) dL_judged_478 rfl ?_
                                      refine x_iinc (ls' := [(3, 13), (2, 45), (2, 47), (2, 46), (0, l), (0, r), (0, dN D), (1, spn D), (9, 0), (1, st9), (9, 0), (1, al), (9, 0), (0, w), (1, slp D (r - l)), (9, 0), (1, m), (9, 0), (0, e), (0, eI D e), (0, eO l r e), (0, eT l r e), (0, k + 1), (0, eO l r e - way D (eI D e) * 3 * k), (9, 0)]) dL_judged_565 rfl (Nat.le_of_ble_eq_true rfl) rfl rfl ?_
                                      refine x_goto (tgt := 439) dL_judged_568 rfl ?_
                                      refine Gx.fgl (ls' := [(3, 13), (2, 45), (2, 47), (2, 46), (0, l), (0, r), (0, dN D), (1, spn D), (9, 0), (1, st9), (9, 0), (1, al), (9, 0), (0, w), (1, slp D (r - l)), (9, 0), (1, m), (9, 0), (0, e), (0, eI D e), (0, eO l r e), (0, eT l r e), (0, k + 1), (9, 0), (9, 0)]) 23 rfl ?_
                                      exact ih439 _ (by omega) m (k + 1) rfl (by omega) (by rw [ecs_s hk0.1]; unfold tco; omega)
                            exact hL439 _ sf 0 rfl ⟨by decide, by have := hok.br (eI_r hok e); omega⟩ (by show sf = sf + 0; omega)
                          refine x_if_ne (tgt := 432) dL_judged_424 rfl (R32.in (by omega)) (fun c424 => ?_) (fun c424 => ?_)
                          · skip
                            refine x_iload dL_judged_432 rfl ?_
                            exact hJ424_4 _ (by first | omega | simp [*])
                          · skip
                            refine x_iload dL_judged_427 rfl ?_
                            refine x_goto (tgt := 434) dL_judged_429 rfl ?_
                            exact hJ424_4 _ (by first | omega | simp [*])
                        refine x_if_ne (tgt := 418) dL_judged_410 rfl (R32.in (by omega)) (fun c410 => ?_) (fun c410 => ?_)
                        · skip
                          refine x_iload dL_judged_418 rfl ?_
                          exact hJ410_3 _ (by first | omega | simp [*])
                        · skip
                          refine x_iload dL_judged_413 rfl ?_
                          refine x_goto (tgt := 420) dL_judged_415 rfl ?_
                          exact hJ410_3 _ (by first | omega | simp [*])
                      refine x_if_ne (tgt := 402) dL_judged_395 rfl (R32.in (by omega)) (fun c395 => ?_) (fun c395 => ?_)
                      · skip
                        refine x_iload dL_judged_402 rfl ?_
                        refine x_iconst dL_judged_404 ?_
                        refine x_isub dL_judged_405 ?_
                        exact hJ395_2 _ (by first | omega | simp [*])
                      · skip
                        refine x_iconst dL_judged_398 ?_
                        refine x_goto (tgt := 406) dL_judged_399 rfl ?_
                        exact hJ395_2 _ (by first | omega | simp [*])
                exact hL387 _ 0 0 rfl (by first | omega | assumption) (by decide) rfl
              refine x_if_ge (tgt := 376) dL_judged_368 rfl (R32.in (by omega)) (fun c368 => ?_) (fun c368 => ?_)
              · skip
                refine x_iconst dL_judged_376 ?_
                exact hJ368_1 _ (by first | omega | simp [*])
              · skip
                refine x_bipush dL_judged_371 (by decide) ?_
                refine x_goto (tgt := 377) dL_judged_373 rfl ?_
                exact hJ368_1 _ (by first | omega | simp [*])
            · skip
              refine x_aload_n dL_judged_277 rfl rfl (by first | decide | omega) ?_
              refine x_callSP (as := [(2, 47)]) (rest := []) (k := 4) fL_judged_278.g ⟨Nat.le_of_ble_eq_true rfl, Nat.le_of_ble_eq_true rfl⟩ ⟨show 0 ≤ 1 by omega, show 0 ≤ 4 by omega⟩ xK_A hw rfl rfl rfl rfl rfl (Nat.le_of_ble_eq_true rfl) ⟨fun _ => (by omega), trivial⟩ (by decide) (s_L_isKneed G nn μ hs47 (by first | omega | assumption) (by first | assumption | omega)) ?_
              refine x_if_ne (tgt := 340) dL_judged_281 rfl (R32.in (by omega)) (fun c281 => ?_) (fun c281 => ?_)
              · skip
                have hwant : w = want D := (by first | (rw [want_w, show dN D - 1 = j by omega]; exact hwn) | (rw [want_w, wnt_k (by omega)]; rw [wnt_k (by omega)] at hwn; exact hwn))
                refine x_bipush dL_judged_340 (by decide) ?_
                refine x_iload dL_judged_342 rfl ?_
                refine x_iload dL_judged_344 rfl ?_
                refine x_isub dL_judged_346 ?_
                refine x_iload dL_judged_347 rfl ?_
                refine x_isub dL_judged_349 ?_
                refine x_abs fL_judged_350 (R32.in (by omega)) (Nat.le_of_ble_eq_true rfl) ⟨Nat.le_of_ble_eq_true rfl, Nat.le_of_ble_eq_true rfl, show 0 ≤ 1 by omega, show 0 ≤ 4 by omega⟩ ?_
                refine x_imul dL_judged_353 ?_
                refine x_iload dL_judged_354 rfl ?_
                refine x_iload dL_judged_356 rfl ?_
                refine x_isub dL_judged_358 ?_
                refine x_callSP (as := [(0, r - l)]) (rest := [(0, 6 * (if 0 ≤ (r - l) - w then (r - l) - w else -((r - l) - w)))]) (k := 0) fL_judged_359.g ⟨Nat.le_of_ble_eq_true rfl, Nat.le_of_ble_eq_true rfl⟩ ⟨show 0 ≤ 1 by omega, show 0 ≤ 4 by omega⟩ xK_A hw rfl rfl rfl rfl rfl (Nat.le_of_ble_eq_true rfl) ⟨fun h => absurd h (by decide), trivial⟩ (by decide) (s_J6_signum_0f7a4 G (r - l) μ (by first | omega | assumption)) ?_
                have hf8 := sgn_r (r - l)
                refine x_iload dL_judged_362 rfl ?_
                refine x_callSP (as := [(0, w)]) (rest := [(0, sgn (r - l)), (0, 6 * (if 0 ≤ (r - l) - w then (r - l) - w else -((r - l) - w)))]) (k := 0) fL_judged_364.g ⟨Nat.le_of_ble_eq_true rfl, Nat.le_of_ble_eq_true rfl⟩ ⟨show 0 ≤ 1 by omega, show 0 ≤ 4 by omega⟩ xK_A hw rfl rfl rfl rfl rfl (Nat.le_of_ble_eq_true rfl) ⟨fun h => absurd h (by decide), trivial⟩ (by decide) (s_J6_signum_0f7a4 G w μ (by first | omega | assumption)) ?_
                have hf9 := sgn_r w
                refine x_imul dL_judged_367 ?_
                have hJ368_5 : ∀ z5_0 : Int, z5_0 = (if 0 ≤ ((sgn (r - l)) * (sgn w)) then 0 else 20) → Gx (xK G M_L_judged 1 4 (judP D l r L G μ)) G M_L_judged 0 0 377 [(3, 13), (2, 45), (2, 47), (2, 46), (0, l), (0, r), (0, dN D), (1, spn D), (9, 0), (1, st9), (9, 0), (1, al), (9, 0), (0, w), (0, j), (9, 0), (9, 0), (9, 0), (9, 0), (9, 0), (9, 0), (9, 0), (9, 0), (9, 0), (9, 0)] [(0, z5_0), (0, 6 * (if 0 ≤ (r - l) - w then (r - l) - w else -((r - l) - w)))] μ := by
                  intro z5_0 hz5_0
                  refine x_iadd dL_judged_377 ?_
                  refine Gx.topE (b := slp D (r - l)) (by rw [← jslp (by omega) rfl]; omega) ?_
                  refine x_i2l dL_judged_378 (R32.in (by omega)) ?_
                  refine x_lstore (ls' := [(3, 13), (2, 45), (2, 47), (2, 46), (0, l), (0, r), (0, dN D), (1, spn D), (9, 0), (1, st9), (9, 0), (1, al), (9, 0), (0, w), (1, slp D (r - l)), (9, 0), (9, 0), (9, 0), (9, 0), (9, 0), (9, 0), (9, 0), (9, 0), (9, 0), (9, 0)]) dL_judged_379 (Nat.le_of_ble_eq_true rfl) rfl rfl ?_
                  refine x_lconst (v := 0) dL_judged_381 (by decide) ?_
                  refine x_lstore (ls' := [(3, 13), (2, 45), (2, 47), (2, 46), (0, l), (0, r), (0, dN D), (1, spn D), (9, 0), (1, st9), (9, 0), (1, al), (9, 0), (0, w), (1, slp D (r - l)), (9, 0), (1, 0), (9, 0), (9, 0), (9, 0), (9, 0), (9, 0), (9, 0), (9, 0), (9, 0)]) dL_judged_382 (Nat.le_of_ble_eq_true rfl) rfl rfl ?_
                  refine x_iconst dL_judged_384 ?_
                  refine x_istore (ls' := [(3, 13), (2, 45), (2, 47), (2, 46), (0, l), (0, r), (0, dN D), (1, spn D), (9, 0), (1, st9), (9, 0), (1, al), (9, 0), (0, w), (1, slp D (r - l)), (9, 0), (1, 0), (9, 0), (0, 0), (9, 0), (9, 0), (9, 0), (9, 0), (9, 0), (9, 0)]) dL_judged_385 (Nat.le_of_ble_eq_true rfl) rfl rfl ?_
                  have hL387 : ∀ (n387 : Nat) (sf : Int) (e : Int), (2 - e).toNat = n387 → (0 ≤ e ∧ e ≤ 2) → (0 ≤ sf ∧ sf ≤ 75 * e) → (sf = stfE D l r e) → Gx (xK G M_L_judged 1 4 (judP D l r L G μ)) G M_L_judged 0 0 387 [(3, 13), (2, 45), (2, 47), (2, 46), (0, l), (0, r), (0, dN D), (1, spn D), (9, 0), (1, st9), (9, 0), (1, al), (9, 0), (0, w), (1, slp D (r - l)), (9, 0), (1, sf), (9, 0), (0, e), (9, 0), (9, 0), (9, 0), (9, 0), (9, 0), (9, 0)] [] μ := by
                    intro n387
                    induction n387 using Nat.strongRecOn with
                    | ind n387 ih387 =>
                      intro sf e hn387 he0 hsfr hsf
                      refine x_iload dL_judged_387 rfl ?_
                      refine x_iconst dL_judged_389 ?_
                      refine x_icmp_ge (tgt := 577) dL_judged_390 rfl (R32.in (by omega)) (R32.in (by decide)) (fun c390 => ?_) (fun c390 => ?_)
                      · skip
                        have hal : alw D (r - l) l := (fun j h0 h1 => hok9 j h0 (by omega))
                        have hie : i = dN D := (by omega)
                        have hll : ((L : Nat) : Int) = ((gS G).length : Int) := (by rw [hlen])
                        refine x_iconst dL_judged_577 ?_
                        refine x_newaL (N := 4) xK_A ⟨show 0 + 1 ≤ 1 by omega, show 0 + 4 ≤ 4 by omega⟩ dL_judged_578 k_182 rfl (by decide) hw (by rw [hlen]; exact ⟨fun h => absurd h (by decide), ⟨fun _ => (by omega), ⟨fun _ => (by omega), ⟨fun _ => (by omega), ⟨fun h => absurd h (by decide), ⟨fun h => absurd h (by decide), ⟨fun h => absurd h (by decide), ⟨fun h => absurd h (by decide), ⟨fun h => absurd h (by decide), ⟨fun h => absurd h (by decide), ⟨fun h => absurd h (by decide), ⟨fun h => absurd h (by decide), ⟨fun h => absurd h (by decide), ⟨fun h => absurd h (by decide), ⟨fun h => absurd h (by decide), ⟨fun h => absurd h (by decide), ⟨fun h => absurd h (by decide), ⟨fun h => absurd h (by decide), ⟨fun h => absurd h (by decide), ⟨fun h => absurd h (by decide), ⟨fun h => absurd h (by decide), ⟨fun h => absurd h (by decide), ⟨fun h => absurd h (by decide), ⟨fun h => absurd h (by decide), ⟨fun h => absurd h (by decide), trivial⟩⟩⟩⟩⟩⟩⟩⟩⟩⟩⟩⟩⟩⟩⟩⟩⟩⟩⟩⟩⟩⟩⟩⟩⟩) trivial (fun q => ?_)
                        rw [← hll]
                        have hsL : (gS (ax G (23, 4) q))[L]? = some (23, 4) := (by have h9 := @ax_sh G (23, 4) q; rw [hlen] at h9; exact h9)
                        have hm0 : ∀ o : Int, o ≠ (L : Int) → am_nw μ (gS G).length o = μ o := (fun o ho => am_nw_o (by omega))
                        refine Gx.mu (fun μ0 hμ0 => ?_)
                        rw [← hμ0] at hm0
                        clear hμ0
                        refine x_dup dL_judged_580 (by simp) ?_
                        refine x_iconst dL_judged_581 ?_
                        refine x_lload dL_judged_582 rfl ?_
                        refine x_lload dL_judged_584 rfl ?_
                        have hsr := ssu_r (s := r - l) (l := l) hok (by omega) (by omega) hi0
                        have hss := hok.sp
                        refine x_ldivP dL_judged_586 (by omega) ?_
                        refine x_last (o := L) (n := 4) dL_judged_587 rfl hsL (Nat.le_of_ble_eq_true rfl) (by decide) (by decide) ?_
                        refine x_dup dL_judged_588 (by simp) ?_
                        refine x_iconst dL_judged_589 ?_
                        refine x_lload dL_judged_590 rfl ?_
                        refine x_last (o := L) (n := 4) dL_judged_592 rfl hsL (Nat.le_of_ble_eq_true rfl) (by decide) (by decide) ?_
                        refine x_dup dL_judged_593 (by simp) ?_
                        refine x_iconst dL_judged_594 ?_
                        refine x_lload dL_judged_595 rfl ?_
                        refine x_last (o := L) (n := 4) dL_judged_597 rfl hsL (Nat.le_of_ble_eq_true rfl) (by decide) (by decide) ?_
                        refine x_dup dL_judged_598 (by simp) ?_
                        refine x_iconst dL_judged_599 ?_
                        refine x_lload dL_judged_600 rfl ?_
                        refine x_last (o := L) (n := 4) dL_judged_602 rfl hsL (Nat.le_of_ble_eq_true rfl) (by decide) (by decide) ?_
                        refine x_aret dL_judged_603 rfl (Or.inr ⟨_, rfl⟩) ⟨by omega, by omega⟩ (Xt.ax G (23, 4) q) (Or.inr ⟨hal, q, rfl, rfl, ⟨⟨?_, ?_⟩, ⟨?_, ?_⟩⟩, fun o ho => ?_⟩)
                        · rw [am_up_nk (by decide), am_up_nk (by decide), am_up_nk (by decide), am_up_at]; unfold stm; rw [hst9, hie]
                        · rw [am_up_nk (by decide), am_up_nk (by decide), am_up_at]
                        · rw [am_up_nk (by decide), am_up_at, hsf]; rw [show e = 2 by omega]; rfl
                        · rw [am_up_at, hal9, hie]; exact lsu_e D (r - l) l (by omega)
                        · rw [am_up_o ho, am_up_o ho, am_up_o ho, am_up_o ho]; exact hm0 o ho
                      · skip
                        refine x_iload dL_judged_393 rfl ?_
                        have hJ395_6 : ∀ z6_0 : Int, z6_0 = (if ¬ e = 0 then (dN D) - 1 else 0) → Gx (xK G M_L_judged 1 4 (judP D l r L G μ)) G M_L_judged 0 0 406 [(3, 13), (2, 45), (2, 47), (2, 46), (0, l), (0, r), (0, dN D), (1, spn D), (9, 0), (1, st9), (9, 0), (1, al), (9, 0), (0, w), (1, slp D (r - l)), (9, 0), (1, sf), (9, 0), (0, e), (9, 0), (9, 0), (9, 0), (9, 0), (9, 0), (9, 0)] [(0, z6_0)] μ := by
                          intro z6_0 hz6_0
                          refine Gx.topE (b := eI D e) (by unfold eI; omega) ?_
                          refine x_istore (ls' := [(3, 13), (2, 45), (2, 47), (2, 46), (0, l), (0, r), (0, dN D), (1, spn D), (9, 0), (1, st9), (9, 0), (1, al), (9, 0), (0, w), (1, slp D (r - l)), (9, 0), (1, sf), (9, 0), (0, e), (0, eI D e), (9, 0), (9, 0), (9, 0), (9, 0), (9, 0)]) dL_judged_406 (Nat.le_of_ble_eq_true rfl) rfl rfl ?_
                          refine x_iload dL_judged_408 rfl ?_
                          have hJ410_7 : ∀ z7_0 : Int, z7_0 = (if ¬ e = 0 then r else l) → Gx (xK G M_L_judged 1 4 (judP D l r L G μ)) G M_L_judged 0 0 420 [(3, 13), (2, 45), (2, 47), (2, 46), (0, l), (0, r), (0, dN D), (1, spn D), (9, 0), (1, st9), (9, 0), (1, al), (9, 0), (0, w), (1, slp D (r - l)), (9, 0), (1, sf), (9, 0), (0, e), (0, eI D e), (9, 0), (9, 0), (9, 0), (9, 0), (9, 0)] [(0, z7_0)] μ := by
                            intro z7_0 hz7_0
                            refine Gx.topE (b := eO l r e) (by unfold eO; omega) ?_
                            refine x_istore (ls' := [(3, 13), (2, 45), (2, 47), (2, 46), (0, l), (0, r), (0, dN D), (1, spn D), (9, 0), (1, st9), (9, 0), (1, al), (9, 0), (0, w), (1, slp D (r - l)), (9, 0), (1, sf), (9, 0), (0, e), (0, eI D e), (0, eO l r e), (9, 0), (9, 0), (9, 0), (9, 0)]) dL_judged_420 (Nat.le_of_ble_eq_true rfl) rfl rfl ?_
                            refine x_iload dL_judged_422 rfl ?_
                            have hJ424_8 : ∀ z8_0 : Int, z8_0 = (if ¬ e = 0 then l else r) → Gx (xK G M_L_judged 1 4 (judP D l r L G μ)) G M_L_judged 0 0 434 [(3, 13), (2, 45), (2, 47), (2, 46), (0, l), (0, r), (0, dN D), (1, spn D), (9, 0), (1, st9), (9, 0), (1, al), (9, 0), (0, w), (1, slp D (r - l)), (9, 0), (1, sf), (9, 0), (0, e), (0, eI D e), (0, eO l r e), (9, 0), (9, 0), (9, 0), (9, 0)] [(0, z8_0)] μ := by
                              intro z8_0 hz8_0
                              refine Gx.topE (b := eT l r e) (by unfold eT; omega) ?_
                              refine x_istore (ls' := [(3, 13), (2, 45), (2, 47), (2, 46), (0, l), (0, r), (0, dN D), (1, spn D), (9, 0), (1, st9), (9, 0), (1, al), (9, 0), (0, w), (1, slp D (r - l)), (9, 0), (1, sf), (9, 0), (0, e), (0, eI D e), (0, eO l r e), (0, eT l r e), (9, 0), (9, 0), (9, 0)]) dL_judged_434 (Nat.le_of_ble_eq_true rfl) rfl rfl ?_
                              refine x_iconst dL_judged_436 ?_
                              refine x_istore (ls' := [(3, 13), (2, 45), (2, 47), (2, 46), (0, l), (0, r), (0, dN D), (1, spn D), (9, 0), (1, st9), (9, 0), (1, al), (9, 0), (0, w), (1, slp D (r - l)), (9, 0), (1, sf), (9, 0), (0, e), (0, eI D e), (0, eO l r e), (0, eT l r e), (0, 0), (9, 0), (9, 0)]) dL_judged_437 (Nat.le_of_ble_eq_true rfl) rfl rfl ?_
                              have hL439 : ∀ (n439 : Nat) (m : Int) (k : Int), (3 - k).toNat = n439 → (0 ≤ k ∧ k ≤ dB D (eI D e)) → (m = sf + ecs D (eI D e) (eO l r e) (eT l r e - eO l r e) k) → Gx (xK G M_L_judged 1 4 (judP D l r L G μ)) G M_L_judged 0 0 439 [(3, 13), (2, 45), (2, 47), (2, 46), (0, l), (0, r), (0, dN D), (1, spn D), (9, 0), (1, st9), (9, 0), (1, al), (9, 0), (0, w), (1, slp D (r - l)), (9, 0), (1, m), (9, 0), (0, e), (0, eI D e), (0, eO l r e), (0, eT l r e), (0, k), (9, 0), (9, 0)] [] μ := by
                                intro n439
                                induction n439 using Nat.strongRecOn with
                                | ind n439 ih439 =>
                                  intro m k hn439 hk0 hm
                                  have hei := eI_r hok e
                                  have hbr := hok.br hei
                                  have hmr := ecs_r D (eI D e) (eO l r e) (eT l r e - eO l r e) hk0.1
                                  have hot := eOT l r e
                                  have hot2 := hot.2 ⟨hlr.1, hlr.2.1⟩
                                  have hm2 : -9 ≤ way D (eI D e) * 3 * k ∧ way D (eI D e) * 3 * k ≤ 9 := (by rcases way_r D (eI D e) with q | q <;> rw [q] <;> omega)
                                  have hm3 := way3 D (eI D e) k
                                  refine x_iload dL_judged_439 rfl ?_
                                  refine x_aload_nS dL_judged_441 rfl rfl ?_
                                  refine x_iload dL_judged_442 rfl ?_
                                  refine x_callSP (as := [(3, 13), (0, eI D e)]) (rest := [(0, k)]) (k := 0) fL_judged_444.g ⟨Nat.le_of_ble_eq_true rfl, Nat.le_of_ble_eq_true rfl⟩ ⟨show 0 ≤ 1 by omega, show 0 ≤ 4 by omega⟩ xK_A hw rfl rfl rfl rfl rfl (Nat.le_of_ble_eq_true rfl) ⟨fun h => absurd h (by decide), ⟨fun h => absurd h (by decide), trivial⟩⟩ (by decide) (s_L_kind G (eI D e) μ hk4 (by first | omega | assumption)) ?_
                                  have hf10 := lkd_r G (eI D e)
                                  refine x_icmp_ge (tgt := 571) dL_judged_447 rfl (R32.in (by omega)) (R32.in (by omega)) (fun c447 => ?_) (fun c447 => ?_)
                                  · skip
                                    refine x_iinc (ls' := [(3, 13), (2, 45), (2, 47), (2, 46), (0, l), (0, r), (0, dN D), (1, spn D), (9, 0), (1, st9), (9, 0), (1, al), (9, 0), (0, w), (1, slp D (r - l)), (9, 0), (1, m), (9, 0), (0, e + 1), (0, eI D e), (0, eO l r e), (0, eT l r e), (0, k), (9, 0), (9, 0)]) dL_judged_571 rfl (Nat.le_of_ble_eq_true rfl) rfl rfl ?_
                                    refine x_goto (tgt := 387) dL_judged_574 rfl ?_
                                    refine Gx.fgl (ls' := [(3, 13), (2, 45), (2, 47), (2, 46), (0, l), (0, r), (0, dN D), (1, spn D), (9, 0), (1, st9), (9, 0), (1, al), (9, 0), (0, w), (1, slp D (r - l)), (9, 0), (1, m), (9, 0), (0, e + 1), (9, 0), (0, eO l r e), (0, eT l r e), (0, k), (9, 0), (9, 0)]) 19 rfl ?_
                                    refine Gx.fgl (ls' := [(3, 13), (2, 45), (2, 47), (2, 46), (0, l), (0, r), (0, dN D), (1, spn D), (9, 0), (1, st9), (9, 0), (1, al), (9, 0), (0, w), (1, slp D (r - l)), (9, 0), (1, m), (9, 0), (0, e + 1), (9, 0), (9, 0), (0, eT l r e), (0, k), (9, 0), (9, 0)]) 20 rfl ?_
                                    refine Gx.fgl (ls' := [(3, 13), (2, 45), (2, 47), (2, 46), (0, l), (0, r), (0, dN D), (1, spn D), (9, 0), (1, st9), (9, 0), (1, al), (9, 0), (0, w), (1, slp D (r - l)), (9, 0), (1, m), (9, 0), (0, e + 1), (9, 0), (9, 0), (9, 0), (0, k), (9, 0), (9, 0)]) 21 rfl ?_
                                    refine Gx.fgl (ls' := [(3, 13), (2, 45), (2, 47), (2, 46), (0, l), (0, r), (0, dN D), (1, spn D), (9, 0), (1, st9), (9, 0), (1, al), (9, 0), (0, w), (1, slp D (r - l)), (9, 0), (1, m), (9, 0), (0, e + 1), (9, 0), (9, 0), (9, 0), (9, 0), (9, 0), (9, 0)]) 22 rfl ?_
                                    exact ih387 _ (by omega) m (e + 1) rfl (by first | omega | assumption) (by have := eco_fr D (eI D e) (eO l r e) (eT l r e - eO l r e) hok (eI_r hok e); omega) (by rw [stfE_s (by omega), ← hsf, ← hke]; exact hm)
                                  · skip
                                    refine x_iload dL_judged_450 rfl ?_
                                    refine x_iconst dL_judged_452 ?_
                                    refine x_iload dL_judged_453 rfl ?_
                                    refine x_imul dL_judged_455 ?_
                                    refine x_aload_n dL_judged_456 rfl rfl (by first | decide | omega) ?_
                                    refine x_iload dL_judged_457 rfl ?_
                                    refine x_ialdx (o := 47) (n := nn) (x := way D (eI D e)) dL_judged_459 rfl hs47 (by omega) (by omega) (hW _ (by omega) (by omega)) ?_
                                    have hr11 := way_b D (eI D e)
                                    refine x_imul dL_judged_460 ?_
                                    refine x_isub dL_judged_461 ?_
                                    refine Gx.topE (b := eO l r e - way D (eI D e) * 3 * k) (by rw [way3]) ?_
                                    refine x_istore (ls' := [(3, 13), (2, 45), (2, 47), (2, 46), (0, l), (0, r), (0, dN D), (1, spn D), (9, 0), (1, st9), (9, 0), (1, al), (9, 0), (0, w), (1, slp D (r - l)), (9, 0), (1, m), (9, 0), (0, e), (0, eI D e), (0, eO l r e), (0, eT l r e), (0, k), (0, eO l r e - way D (eI D e) * 3 * k), (9, 0)]) dL_judged_462 (Nat.le_of_ble_eq_true rfl) rfl rfl ?_
                                    refine x_iload dL_judged_464 rfl ?_
                                    refine x_bipush dL_judged_466 (by decide) ?_
                                    refine x_icmp_lt (tgt := 565) dL_judged_468 rfl (R32.in (by omega)) (R32.in (by decide)) (fun c468 => ?_) (fun c468 => ?_)
                                    · skip
                                      refine x_iinc (ls' := [(3, 13), (2, 45), (2, 47), (2, 46), (0, l), (0, r), (0, dN D), (1, spn D), (9, 0), (1, st9), (9, 0), (1, al), (9, 0), (0, w), (1, slp D (r - l)), (9, 0), (1, m), (9, 0), (0, e), (0, eI D e), (0, eO l r e), (0, eT l r e), (0, k + 1), (0, eO l r e - way D (eI D e) * 3 * k), (9, 0)]) dL_judged_565 rfl (Nat.le_of_ble_eq_true rfl) rfl rfl ?_
                                      refine x_goto (tgt := 439) dL_judged_568 rfl ?_
                                      refine Gx.fgl (ls' := [(3, 13), (2, 45), (2, 47), (2, 46), (0, l), (0, r), (0, dN D), (1, spn D), (9, 0), (1, st9), (9, 0), (1, al), (9, 0), (0, w), (1, slp D (r - l)), (9, 0), (1, m), (9, 0), (0, e), (0, eI D e), (0, eO l r e), (0, eT l r e), (0, k + 1), (9, 0), (9, 0)]) 23 rfl ?_
                                      exact ih439 _ (by omega) m (k + 1) rfl (by omega) (by rw [ecs_s hk0.1]; unfold tco; omega)
                                    · skip
                                      refine x_iload dL_judged_471 rfl ?_
                                      refine x_bipush dL_judged_473 (by decide) ?_
                                      refine x_icmp_le (tgt := 481) dL_judged_475 rfl (R32.in (by omega)) (R32.in (by decide)) (fun c475 => ?_) (fun c475 => ?_)
                                      · skip
                                        refine x_iload dL_judged_481 rfl ?_
                                        refine x_iconst dL_judged_483 ?_
                                        refine x_callSP (as := [(0, eO l r e - way D (eI D e) * 3 * k), (0, 4)]) (rest := []) (k := 1) fL_judged_484.g ⟨Nat.le_of_ble_eq_true rfl, Nat.le_of_ble_eq_true rfl⟩ ⟨show 0 ≤ 1 by omega, show 0 ≤ 4 by omega⟩ xK_A hw rfl rfl rfl rfl rfl (Nat.le_of_ble_eq_true rfl) ⟨fun h => absurd h (by decide), ⟨fun h => absurd h (by decide), trivial⟩⟩ (by decide) (s_J9_floorMod_7cf53 G (eO l r e - way D (eI D e) * 3 * k) 4 μ (by first | omega | assumption) (by first | omega | assumption)) ?_
                                        refine x_istore (ls' := [(3, 13), (2, 45), (2, 47), (2, 46), (0, l), (0, r), (0, dN D), (1, spn D), (9, 0), (1, st9), (9, 0), (1, al), (9, 0), (0, w), (1, slp D (r - l)), (9, 0), (1, m), (9, 0), (0, e), (0, eI D e), (0, eO l r e), (0, eT l r e), (0, k), (0, eO l r e - way D (eI D e) * 3 * k), (0, (eO l r e - way D (eI D e) * 3 * k) % 4)]) dL_judged_487 (Nat.le_of_ble_eq_true rfl) rfl rfl ?_
                                        refine x_lload dL_judged_489 rfl ?_
                                        refine x_iload dL_judged_491 rfl ?_
                                        refine x_iconst dL_judged_493 ?_
                                        refine x_icmp_ne (tgt := 503) dL_judged_494 rfl (R32.in (by omega)) (R32.in (by decide)) (fun c494 => ?_) (fun c494 => ?_)
                                        · skip
                                          refine x_iload dL_judged_503 rfl ?_
                                          refine x_if_ne (tgt := 525) dL_judged_505 rfl (R32.in (by omega)) (fun c505 => ?_) (fun c505 => ?_)
                                          · skip
                                            refine x_iload dL_judged_525 rfl ?_
                                            refine x_iconst dL_judged_527 ?_
                                            refine x_icmp_ne (tgt := 548) dL_judged_528 rfl (R32.in (by omega)) (R32.in (by decide)) (fun c528 => ?_) (fun c528 => ?_)
                                            · skip
                                              refine x_iload dL_judged_548 rfl ?_
                                              refine x_iload dL_judged_550 rfl ?_
                                              refine x_icmp_le (tgt := 561) dL_judged_552 rfl (R32.in (by omega)) (R32.in (by omega)) (fun c552 => ?_) (fun c552 => ?_)
                                              · skip
                                                refine x_lconst (v := 0) dL_judged_561 (by decide) ?_
                                                refine x_ladd dL_judged_562 ?_
                                                refine x_lstore (ls' := [(3, 13), (2, 45), (2, 47), (2, 46), (0, l), (0, r), (0, dN D), (1, spn D), (9, 0), (1, st9), (9, 0), (1, al), (9, 0), (0, w), (1, slp D (r - l)), (9, 0), (1, m + 0), (9, 0), (0, e), (0, eI D e), (0, eO l r e), (0, eT l r e), (0, k), (0, eO l r e - way D (eI D e) * 3 * k), (0, (eO l r e - way D (eI D e) * 3 * k) % 4)]) dL_judged_563 (Nat.le_of_ble_eq_true rfl) rfl rfl ?_
                                                refine x_iinc (ls' := [(3, 13), (2, 45), (2, 47), (2, 46), (0, l), (0, r), (0, dN D), (1, spn D), (9, 0), (1, st9), (9, 0), (1, al), (9, 0), (0, w), (1, slp D (r - l)), (9, 0), (1, m + 0), (9, 0), (0, e), (0, eI D e), (0, eO l r e), (0, eT l r e), (0, k + 1), (0, eO l r e - way D (eI D e) * 3 * k), (0, (eO l r e - way D (eI D e) * 3 * k) % 4)]) dL_judged_565 rfl (Nat.le_of_ble_eq_true rfl) rfl rfl ?_
                                                refine x_goto (tgt := 439) dL_judged_568 rfl ?_
                                                refine Gx.fgl (ls' := [(3, 13), (2, 45), (2, 47), (2, 46), (0, l), (0, r), (0, dN D), (1, spn D), (9, 0), (1, st9), (9, 0), (1, al), (9, 0), (0, w), (1, slp D (r - l)), (9, 0), (1, m + 0), (9, 0), (0, e), (0, eI D e), (0, eO l r e), (0, eT l r e), (0, k + 1), (9, 0), (0, (eO l r e - way D (eI D e) * 3 * k) % 4)]) 23 rfl ?_
                                                refine Gx.fgl (ls' := [(3, 13), (2, 45), (2, 47), (2, 46), (0, l), (0, r), (0, dN D), (1, spn D), (9, 0), (1, st9), (9, 0), (1, al), (9, 0), (0, w), (1, slp D (r - l)), (9, 0), (1, m + 0), (9, 0), (0, e), (0, eI D e), (0, eO l r e), (0, eT l r e), (0, k + 1), (9, 0), (9, 0)]) 24 rfl ?_
                                                exact ih439 _ (by omega) (m + 0) (k + 1) rfl (by omega) (by rw [ecs_s hk0.1]; unfold tco; omega)
                                              · skip
                                                refine x_ldc2 (n := 8) dL_judged_555 k_1069 (by decide) ?_
                                                refine x_goto (tgt := 562) dL_judged_558 rfl ?_
                                                refine x_ladd dL_judged_562 ?_
                                                refine x_lstore (ls' := [(3, 13), (2, 45), (2, 47), (2, 46), (0, l), (0, r), (0, dN D), (1, spn D), (9, 0), (1, st9), (9, 0), (1, al), (9, 0), (0, w), (1, slp D (r - l)), (9, 0), (1, m + 8), (9, 0), (0, e), (0, eI D e), (0, eO l r e), (0, eT l r e), (0, k), (0, eO l r e - way D (eI D e) * 3 * k), (0, (eO l r e - way D (eI D e) * 3 * k) % 4)]) dL_judged_563 (Nat.le_of_ble_eq_true rfl) rfl rfl ?_
                                                refine x_iinc (ls' := [(3, 13), (2, 45), (2, 47), (2, 46), (0, l), (0, r), (0, dN D), (1, spn D), (9, 0), (1, st9), (9, 0), (1, al), (9, 0), (0, w), (1, slp D (r - l)), (9, 0), (1, m + 8), (9, 0), (0, e), (0, eI D e), (0, eO l r e), (0, eT l r e), (0, k + 1), (0, eO l r e - way D (eI D e) * 3 * k), (0, (eO l r e - way D (eI D e) * 3 * k) % 4)]) dL_judged_565 rfl (Nat.le_of_ble_eq_true rfl) rfl rfl ?_
                                                refine x_goto (tgt := 439) dL_judged_568 rfl ?_
                                                refine Gx.fgl (ls' := [(3, 13), (2, 45), (2, 47), (2, 46), (0, l), (0, r), (0, dN D), (1, spn D), (9, 0), (1, st9), (9, 0), (1, al), (9, 0), (0, w), (1, slp D (r - l)), (9, 0), (1, m + 8), (9, 0), (0, e), (0, eI D e), (0, eO l r e), (0, eT l r e), (0, k + 1), (9, 0), (0, (eO l r e - way D (eI D e) * 3 * k) % 4)]) 23 rfl ?_
                                                refine Gx.fgl (ls' := [(3, 13), (2, 45), (2, 47), (2, 46), (0, l), (0, r), (0, dN D), (1, spn D), (9, 0), (1, st9), (9, 0), (1, al), (9, 0), (0, w), (1, slp D (r - l)), (9, 0), (1, m + 8), (9, 0), (0, e), (0, eI D e), (0, eO l r e), (0, eT l r e), (0, k + 1), (9, 0), (9, 0)]) 24 rfl ?_
                                                exact ih439 _ (by omega) (m + 8) (k + 1) rfl (by omega) (by rw [ecs_s hk0.1]; unfold tco; omega)
                                            · skip
                                              refine x_iload dL_judged_531 rfl ?_
                                              refine x_iload dL_judged_533 rfl ?_
                                              refine x_icmp_ge (tgt := 544) dL_judged_535 rfl (R32.in (by omega)) (R32.in (by omega)) (fun c535 => ?_) (fun c535 => ?_)
                                              · skip
                                                refine x_lconst (v := 0) dL_judged_544 (by decide) ?_
                                                refine x_goto (tgt := 562) dL_judged_545 rfl ?_
                                                refine x_ladd dL_judged_562 ?_
                                                refine x_lstore (ls' := [(3, 13), (2, 45), (2, 47), (2, 46), (0, l), (0, r), (0, dN D), (1, spn D), (9, 0), (1, st9), (9, 0), (1, al), (9, 0), (0, w), (1, slp D (r - l)), (9, 0), (1, m + 0), (9, 0), (0, e), (0, eI D e), (0, eO l r e), (0, eT l r e), (0, k), (0, eO l r e - way D (eI D e) * 3 * k), (0, (eO l r e - way D (eI D e) * 3 * k) % 4)]) dL_judged_563 (Nat.le_of_ble_eq_true rfl) rfl rfl ?_
                                                refine x_iinc (ls' := [(3, 13), (2, 45), (2, 47), (2, 46), (0, l), (0, r), (0, dN D), (1, spn D), (9, 0), (1, st9), (9, 0), (1, al), (9, 0), (0, w), (1, slp D (r - l)), (9, 0), (1, m + 0), (9, 0), (0, e), (0, eI D e), (0, eO l r e), (0, eT l r e), (0, k + 1), (0, eO l r e - way D (eI D e) * 3 * k), (0, (eO l r e - way D (eI D e) * 3 * k) % 4)]) dL_judged_565 rfl (Nat.le_of_ble_eq_true rfl) rfl rfl ?_
                                                refine x_goto (tgt := 439) dL_judged_568 rfl ?_
                                                refine Gx.fgl (ls' := [(3, 13), (2, 45), (2, 47), (2, 46), (0, l), (0, r), (0, dN D), (1, spn D), (9, 0), (1, st9), (9, 0), (1, al), (9, 0), (0, w), (1, slp D (r - l)), (9, 0), (1, m + 0), (9, 0), (0, e), (0, eI D e), (0, eO l r e), (0, eT l r e), (0, k + 1), (9, 0), (0, (eO l r e - way D (eI D e) * 3 * k) % 4)]) 23 rfl ?_
                                                refine Gx.fgl (ls' := [(3, 13), (2, 45), (2, 47), (2, 46), (0, l), (0, r), (0, dN D), (1, spn D), (9, 0), (1, st9), (9, 0), (1, al), (9, 0), (0, w), (1, slp D (r - l)), (9, 0), (1, m + 0), (9, 0), (0, e), (0, eI D e), (0, eO l r e), (0, eT l r e), (0, k + 1), (9, 0), (9, 0)]) 24 rfl ?_
                                                exact ih439 _ (by omega) (m + 0) (k + 1) rfl (by omega) (by rw [ecs_s hk0.1]; unfold tco; omega)
                                              · skip
                                                refine x_ldc2 (n := 8) dL_judged_538 k_1069 (by decide) ?_
                                                refine x_goto (tgt := 562) dL_judged_541 rfl ?_
                                                refine x_ladd dL_judged_562 ?_
                                                refine x_lstore (ls' := [(3, 13), (2, 45), (2, 47), (2, 46), (0, l), (0, r), (0, dN D), (1, spn D), (9, 0), (1, st9), (9, 0), (1, al), (9, 0), (0, w), (1, slp D (r - l)), (9, 0), (1, m + 8), (9, 0), (0, e), (0, eI D e), (0, eO l r e), (0, eT l r e), (0, k), (0, eO l r e - way D (eI D e) * 3 * k), (0, (eO l r e - way D (eI D e) * 3 * k) % 4)]) dL_judged_563 (Nat.le_of_ble_eq_true rfl) rfl rfl ?_
                                                refine x_iinc (ls' := [(3, 13), (2, 45), (2, 47), (2, 46), (0, l), (0, r), (0, dN D), (1, spn D), (9, 0), (1, st9), (9, 0), (1, al), (9, 0), (0, w), (1, slp D (r - l)), (9, 0), (1, m + 8), (9, 0), (0, e), (0, eI D e), (0, eO l r e), (0, eT l r e), (0, k + 1), (0, eO l r e - way D (eI D e) * 3 * k), (0, (eO l r e - way D (eI D e) * 3 * k) % 4)]) dL_judged_565 rfl (Nat.le_of_ble_eq_true rfl) rfl rfl ?_
                                                refine x_goto (tgt := 439) dL_judged_568 rfl ?_
                                                refine Gx.fgl (ls' := [(3, 13), (2, 45), (2, 47), (2, 46), (0, l), (0, r), (0, dN D), (1, spn D), (9, 0), (1, st9), (9, 0), (1, al), (9, 0), (0, w), (1, slp D (r - l)), (9, 0), (1, m + 8), (9, 0), (0, e), (0, eI D e), (0, eO l r e), (0, eT l r e), (0, k + 1), (9, 0), (0, (eO l r e - way D (eI D e) * 3 * k) % 4)]) 23 rfl ?_
                                                refine Gx.fgl (ls' := [(3, 13), (2, 45), (2, 47), (2, 46), (0, l), (0, r), (0, dN D), (1, spn D), (9, 0), (1, st9), (9, 0), (1, al), (9, 0), (0, w), (1, slp D (r - l)), (9, 0), (1, m + 8), (9, 0), (0, e), (0, eI D e), (0, eO l r e), (0, eT l r e), (0, k + 1), (9, 0), (9, 0)]) 24 rfl ?_
                                                exact ih439 _ (by omega) (m + 8) (k + 1) rfl (by omega) (by rw [ecs_s hk0.1]; unfold tco; omega)
                                          · skip
                                            refine x_iload dL_judged_508 rfl ?_
                                            refine x_iload dL_judged_510 rfl ?_
                                            refine x_icmp_ne (tgt := 521) dL_judged_512 rfl (R32.in (by omega)) (R32.in (by omega)) (fun c512 => ?_) (fun c512 => ?_)
                                            · skip
                                              refine x_lconst (v := 1) dL_judged_521 (by decide) ?_
                                              refine x_goto (tgt := 562) dL_judged_522 rfl ?_
                                              refine x_ladd dL_judged_562 ?_
                                              refine x_lstore (ls' := [(3, 13), (2, 45), (2, 47), (2, 46), (0, l), (0, r), (0, dN D), (1, spn D), (9, 0), (1, st9), (9, 0), (1, al), (9, 0), (0, w), (1, slp D (r - l)), (9, 0), (1, m + 1), (9, 0), (0, e), (0, eI D e), (0, eO l r e), (0, eT l r e), (0, k), (0, eO l r e - way D (eI D e) * 3 * k), (0, (eO l r e - way D (eI D e) * 3 * k) % 4)]) dL_judged_563 (Nat.le_of_ble_eq_true rfl) rfl rfl ?_
                                              refine x_iinc (ls' := [(3, 13), (2, 45), (2, 47), (2, 46), (0, l), (0, r), (0, dN D), (1, spn D), (9, 0), (1, st9), (9, 0), (1, al), (9, 0), (0, w), (1, slp D (r - l)), (9, 0), (1, m + 1), (9, 0), (0, e), (0, eI D e), (0, eO l r e), (0, eT l r e), (0, k + 1), (0, eO l r e - way D (eI D e) * 3 * k), (0, (eO l r e - way D (eI D e) * 3 * k) % 4)]) dL_judged_565 rfl (Nat.le_of_ble_eq_true rfl) rfl rfl ?_
                                              refine x_goto (tgt := 439) dL_judged_568 rfl ?_
                                              refine Gx.fgl (ls' := [(3, 13), (2, 45), (2, 47), (2, 46), (0, l), (0, r), (0, dN D), (1, spn D), (9, 0), (1, st9), (9, 0), (1, al), (9, 0), (0, w), (1, slp D (r - l)), (9, 0), (1, m + 1), (9, 0), (0, e), (0, eI D e), (0, eO l r e), (0, eT l r e), (0, k + 1), (9, 0), (0, (eO l r e - way D (eI D e) * 3 * k) % 4)]) 23 rfl ?_
                                              refine Gx.fgl (ls' := [(3, 13), (2, 45), (2, 47), (2, 46), (0, l), (0, r), (0, dN D), (1, spn D), (9, 0), (1, st9), (9, 0), (1, al), (9, 0), (0, w), (1, slp D (r - l)), (9, 0), (1, m + 1), (9, 0), (0, e), (0, eI D e), (0, eO l r e), (0, eT l r e), (0, k + 1), (9, 0), (9, 0)]) 24 rfl ?_
                                              exact ih439 _ (by omega) (m + 1) (k + 1) rfl (by omega) (by rw [ecs_s hk0.1]; unfold tco; omega)
                                            · skip
                                              refine x_ldc2 (n := 2) dL_judged_515 k_1057 (by decide) ?_
                                              refine x_goto (tgt := 562) dL_judged_518 rfl ?_
                                              refine x_ladd dL_judged_562 ?_
                                              refine x_lstore (ls' := [(3, 13), (2, 45), (2, 47), (2, 46), (0, l), (0, r), (0, dN D), (1, spn D), (9, 0), (1, st9), (9, 0), (1, al), (9, 0), (0, w), (1, slp D (r - l)), (9, 0), (1, m + 2), (9, 0), (0, e), (0, eI D e), (0, eO l r e), (0, eT l r e), (0, k), (0, eO l r e - way D (eI D e) * 3 * k), (0, (eO l r e - way D (eI D e) * 3 * k) % 4)]) dL_judged_563 (Nat.le_of_ble_eq_true rfl) rfl rfl ?_
                                              refine x_iinc (ls' := [(3, 13), (2, 45), (2, 47), (2, 46), (0, l), (0, r), (0, dN D), (1, spn D), (9, 0), (1, st9), (9, 0), (1, al), (9, 0), (0, w), (1, slp D (r - l)), (9, 0), (1, m + 2), (9, 0), (0, e), (0, eI D e), (0, eO l r e), (0, eT l r e), (0, k + 1), (0, eO l r e - way D (eI D e) * 3 * k), (0, (eO l r e - way D (eI D e) * 3 * k) % 4)]) dL_judged_565 rfl (Nat.le_of_ble_eq_true rfl) rfl rfl ?_
                                              refine x_goto (tgt := 439) dL_judged_568 rfl ?_
                                              refine Gx.fgl (ls' := [(3, 13), (2, 45), (2, 47), (2, 46), (0, l), (0, r), (0, dN D), (1, spn D), (9, 0), (1, st9), (9, 0), (1, al), (9, 0), (0, w), (1, slp D (r - l)), (9, 0), (1, m + 2), (9, 0), (0, e), (0, eI D e), (0, eO l r e), (0, eT l r e), (0, k + 1), (9, 0), (0, (eO l r e - way D (eI D e) * 3 * k) % 4)]) 23 rfl ?_
                                              refine Gx.fgl (ls' := [(3, 13), (2, 45), (2, 47), (2, 46), (0, l), (0, r), (0, dN D), (1, spn D), (9, 0), (1, st9), (9, 0), (1, al), (9, 0), (0, w), (1, slp D (r - l)), (9, 0), (1, m + 2), (9, 0), (0, e), (0, eI D e), (0, eO l r e), (0, eT l r e), (0, k + 1), (9, 0), (9, 0)]) 24 rfl ?_
                                              exact ih439 _ (by omega) (m + 2) (k + 1) rfl (by omega) (by rw [ecs_s hk0.1]; unfold tco; omega)
                                        · skip
                                          refine x_ldc2 (n := 25) dL_judged_497 k_1068 (by decide) ?_
                                          refine x_goto (tgt := 562) dL_judged_500 rfl ?_
                                          refine x_ladd dL_judged_562 ?_
                                          refine x_lstore (ls' := [(3, 13), (2, 45), (2, 47), (2, 46), (0, l), (0, r), (0, dN D), (1, spn D), (9, 0), (1, st9), (9, 0), (1, al), (9, 0), (0, w), (1, slp D (r - l)), (9, 0), (1, m + 25), (9, 0), (0, e), (0, eI D e), (0, eO l r e), (0, eT l r e), (0, k), (0, eO l r e - way D (eI D e) * 3 * k), (0, (eO l r e - way D (eI D e) * 3 * k) % 4)]) dL_judged_563 (Nat.le_of_ble_eq_true rfl) rfl rfl ?_
                                          refine x_iinc (ls' := [(3, 13), (2, 45), (2, 47), (2, 46), (0, l), (0, r), (0, dN D), (1, spn D), (9, 0), (1, st9), (9, 0), (1, al), (9, 0), (0, w), (1, slp D (r - l)), (9, 0), (1, m + 25), (9, 0), (0, e), (0, eI D e), (0, eO l r e), (0, eT l r e), (0, k + 1), (0, eO l r e - way D (eI D e) * 3 * k), (0, (eO l r e - way D (eI D e) * 3 * k) % 4)]) dL_judged_565 rfl (Nat.le_of_ble_eq_true rfl) rfl rfl ?_
                                          refine x_goto (tgt := 439) dL_judged_568 rfl ?_
                                          refine Gx.fgl (ls' := [(3, 13), (2, 45), (2, 47), (2, 46), (0, l), (0, r), (0, dN D), (1, spn D), (9, 0), (1, st9), (9, 0), (1, al), (9, 0), (0, w), (1, slp D (r - l)), (9, 0), (1, m + 25), (9, 0), (0, e), (0, eI D e), (0, eO l r e), (0, eT l r e), (0, k + 1), (9, 0), (0, (eO l r e - way D (eI D e) * 3 * k) % 4)]) 23 rfl ?_
                                          refine Gx.fgl (ls' := [(3, 13), (2, 45), (2, 47), (2, 46), (0, l), (0, r), (0, dN D), (1, spn D), (9, 0), (1, st9), (9, 0), (1, al), (9, 0), (0, w), (1, slp D (r - l)), (9, 0), (1, m + 25), (9, 0), (0, e), (0, eI D e), (0, eO l r e), (0, eT l r e), (0, k + 1), (9, 0), (9, 0)]) 24 rfl ?_
                                          exact ih439 _ (by omega) (m + 25) (k + 1) rfl (by omega) (by rw [ecs_s hk0.1]; unfold tco; omega)
                                      · skip
                                        refine x_goto (tgt := 565) dL_judged_478 rfl ?_
                                        refine x_iinc (ls' := [(3, 13), (2, 45), (2, 47), (2, 46), (0, l), (0, r), (0, dN D), (1, spn D), (9, 0), (1, st9), (9, 0), (1, al), (9, 0), (0, w), (1, slp D (r - l)), (9, 0), (1, m), (9, 0), (0, e), (0, eI D e), (0, eO l r e), (0, eT l r e), (0, k + 1), (0, eO l r e - way D (eI D e) * 3 * k), (9, 0)]) dL_judged_565 rfl (Nat.le_of_ble_eq_true rfl) rfl rfl ?_
                                        refine x_goto (tgt := 439) dL_judged_568 rfl ?_
                                        refine Gx.fgl (ls' := [(3, 13), (2, 45), (2, 47), (2, 46), (0, l), (0, r), (0, dN D), (1, spn D), (9, 0), (1, st9), (9, 0), (1, al), (9, 0), (0, w), (1, slp D (r - l)), (9, 0), (1, m), (9, 0), (0, e), (0, eI D e), (0, eO l r e), (0, eT l r e), (0, k + 1), (9, 0), (9, 0)]) 23 rfl ?_
                                        exact ih439 _ (by omega) m (k + 1) rfl (by omega) (by rw [ecs_s hk0.1]; unfold tco; omega)
                              exact hL439 _ sf 0 rfl ⟨by decide, by have := hok.br (eI_r hok e); omega⟩ (by show sf = sf + 0; omega)
                            refine x_if_ne (tgt := 432) dL_judged_424 rfl (R32.in (by omega)) (fun c424 => ?_) (fun c424 => ?_)
                            · skip
                              refine x_iload dL_judged_432 rfl ?_
                              exact hJ424_8 _ (by first | omega | simp [*])
                            · skip
                              refine x_iload dL_judged_427 rfl ?_
                              refine x_goto (tgt := 434) dL_judged_429 rfl ?_
                              exact hJ424_8 _ (by first | omega | simp [*])
                          refine x_if_ne (tgt := 418) dL_judged_410 rfl (R32.in (by omega)) (fun c410 => ?_) (fun c410 => ?_)
                          · skip
                            refine x_iload dL_judged_418 rfl ?_
                            exact hJ410_7 _ (by first | omega | simp [*])
                          · skip
                            refine x_iload dL_judged_413 rfl ?_
                            refine x_goto (tgt := 420) dL_judged_415 rfl ?_
                            exact hJ410_7 _ (by first | omega | simp [*])
                        refine x_if_ne (tgt := 402) dL_judged_395 rfl (R32.in (by omega)) (fun c395 => ?_) (fun c395 => ?_)
                        · skip
                          refine x_iload dL_judged_402 rfl ?_
                          refine x_iconst dL_judged_404 ?_
                          refine x_isub dL_judged_405 ?_
                          exact hJ395_6 _ (by first | omega | simp [*])
                        · skip
                          refine x_iconst dL_judged_398 ?_
                          refine x_goto (tgt := 406) dL_judged_399 rfl ?_
                          exact hJ395_6 _ (by first | omega | simp [*])
                  exact hL387 _ 0 0 rfl (by first | omega | assumption) (by decide) rfl
                refine x_if_ge (tgt := 376) dL_judged_368 rfl (R32.in (by omega)) (fun c368 => ?_) (fun c368 => ?_)
                · skip
                  refine x_iconst dL_judged_376 ?_
                  exact hJ368_5 _ (by first | omega | simp [*])
                · skip
                  refine x_bipush dL_judged_371 (by decide) ?_
                  refine x_goto (tgt := 377) dL_judged_373 rfl ?_
                  exact hJ368_5 _ (by first | omega | simp [*])
              · skip
                refine x_aload_n dL_judged_284 rfl rfl (by first | decide | omega) ?_
                refine x_iconst dL_judged_285 ?_
                refine x_ialdx (o := 47) (n := nn) (x := way D 0) dL_judged_286 rfl hs47 (by omega) (by omega) (hW _ (by omega) (by omega)) ?_
                have hr12 := way_b D 0
                refine x_if_le (tgt := 312) dL_judged_287 rfl (R32.in (by omega)) (fun c287 => ?_) (fun c287 => ?_)
                · skip
                  refine x_aload_n dL_judged_312 rfl rfl (by first | decide | omega) ?_
                  refine x_iload dL_judged_313 rfl ?_
                  refine x_ialdx (o := 45) (n := nn) (x := dH D j) dL_judged_315 rfl hs45 (by omega) (by omega) (hD.p (by omega)) ?_
                  have hr13 := (hD.ok).hr (i := j) (by omega)
                  refine x_aload_n dL_judged_316 rfl rfl (by first | decide | omega) ?_
                  refine x_iconst dL_judged_317 ?_
                  refine x_ialdx (o := 45) (n := nn) (x := dH D 0) dL_judged_318 rfl hs45 (by omega) (by omega) (hD.p (by omega)) ?_
                  refine x_aload_n dL_judged_319 rfl rfl (by first | decide | omega) ?_
                  refine x_iload dL_judged_320 rfl ?_
                  refine x_iconst dL_judged_322 ?_
                  refine x_isub dL_judged_323 ?_
                  refine x_ialdx (o := 45) (n := nn) (x := dH D ((dN D) - 1)) dL_judged_324 rfl hs45 (by omega) (by omega) (hD.p (by omega)) ?_
                  refine x_min fL_judged_325 (R32.in (by omega)) (R32.in (by omega)) (Nat.le_of_ble_eq_true rfl) ⟨Nat.le_of_ble_eq_true rfl, Nat.le_of_ble_eq_true rfl, show 0 ≤ 1 by omega, show 0 ≤ 4 by omega⟩ ?_
                  refine x_icmp_ge (tgt := 334) dL_judged_328 rfl (R32.in (by omega)) (R32.in (by omega)) (fun c328 => ?_) (fun c328 => ?_)
                  · skip
                    refine x_iinc (ls' := [(3, 13), (2, 45), (2, 47), (2, 46), (0, l), (0, r), (0, dN D), (1, spn D), (9, 0), (1, st9), (9, 0), (1, al), (9, 0), (0, w), (0, j + 1), (9, 0), (9, 0), (9, 0), (9, 0), (9, 0), (9, 0), (9, 0), (9, 0), (9, 0), (9, 0)]) dL_judged_334 rfl (Nat.le_of_ble_eq_true rfl) rfl rfl ?_
                    refine x_goto (tgt := 268) dL_judged_337 rfl ?_
                    exact ih268 _ (by omega) w (j + 1) rfl (by first | omega | assumption) (by rw [wnt_s (by omega) hj0.1]; omega)
                  · skip
                    refine x_iconst dL_judged_331 ?_
                    refine x_istore (ls' := [(3, 13), (2, 45), (2, 47), (2, 46), (0, l), (0, r), (0, dN D), (1, spn D), (9, 0), (1, st9), (9, 0), (1, al), (9, 0), (0, 0), (0, j), (9, 0), (9, 0), (9, 0), (9, 0), (9, 0), (9, 0), (9, 0), (9, 0), (9, 0), (9, 0)]) dL_judged_332 (Nat.le_of_ble_eq_true rfl) rfl rfl ?_
                    refine x_iinc (ls' := [(3, 13), (2, 45), (2, 47), (2, 46), (0, l), (0, r), (0, dN D), (1, spn D), (9, 0), (1, st9), (9, 0), (1, al), (9, 0), (0, 0), (0, j + 1), (9, 0), (9, 0), (9, 0), (9, 0), (9, 0), (9, 0), (9, 0), (9, 0), (9, 0), (9, 0)]) dL_judged_334 rfl (Nat.le_of_ble_eq_true rfl) rfl rfl ?_
                    refine x_goto (tgt := 268) dL_judged_337 rfl ?_
                    exact ih268 _ (by omega) 0 (j + 1) rfl (by first | omega | assumption) (by rw [wnt_s (by omega) hj0.1]; omega)
                · skip
                  refine x_aload_n dL_judged_290 rfl rfl (by first | decide | omega) ?_
                  refine x_iload dL_judged_291 rfl ?_
                  refine x_ialdx (o := 45) (n := nn) (x := dH D j) dL_judged_293 rfl hs45 (by omega) (by omega) (hD.p (by omega)) ?_
                  have hr14 := (hD.ok).hr (i := j) (by omega)
                  refine x_aload_n dL_judged_294 rfl rfl (by first | decide | omega) ?_
                  refine x_iconst dL_judged_295 ?_
                  refine x_ialdx (o := 45) (n := nn) (x := dH D 0) dL_judged_296 rfl hs45 (by omega) (by omega) (hD.p (by omega)) ?_
                  refine x_aload_n dL_judged_297 rfl rfl (by first | decide | omega) ?_
                  refine x_iload dL_judged_298 rfl ?_
                  refine x_iconst dL_judged_300 ?_
                  refine x_isub dL_judged_301 ?_
                  refine x_ialdx (o := 45) (n := nn) (x := dH D ((dN D) - 1)) dL_judged_302 rfl hs45 (by omega) (by omega) (hD.p (by omega)) ?_
                  refine x_max fL_judged_303 (R32.in (by omega)) (R32.in (by omega)) (Nat.le_of_ble_eq_true rfl) ⟨Nat.le_of_ble_eq_true rfl, Nat.le_of_ble_eq_true rfl, show 0 ≤ 1 by omega, show 0 ≤ 4 by omega⟩ ?_
                  refine x_icmp_le (tgt := 334) dL_judged_306 rfl (R32.in (by omega)) (R32.in (by omega)) (fun c306 => ?_) (fun c306 => ?_)
                  · skip
                    refine x_iinc (ls' := [(3, 13), (2, 45), (2, 47), (2, 46), (0, l), (0, r), (0, dN D), (1, spn D), (9, 0), (1, st9), (9, 0), (1, al), (9, 0), (0, w), (0, j + 1), (9, 0), (9, 0), (9, 0), (9, 0), (9, 0), (9, 0), (9, 0), (9, 0), (9, 0), (9, 0)]) dL_judged_334 rfl (Nat.le_of_ble_eq_true rfl) rfl rfl ?_
                    refine x_goto (tgt := 268) dL_judged_337 rfl ?_
                    exact ih268 _ (by omega) w (j + 1) rfl (by first | omega | assumption) (by rw [wnt_s (by omega) hj0.1]; omega)
                  · skip
                    refine x_goto (tgt := 331) dL_judged_309 rfl ?_
                    refine x_iconst dL_judged_331 ?_
                    refine x_istore (ls' := [(3, 13), (2, 45), (2, 47), (2, 46), (0, l), (0, r), (0, dN D), (1, spn D), (9, 0), (1, st9), (9, 0), (1, al), (9, 0), (0, 0), (0, j), (9, 0), (9, 0), (9, 0), (9, 0), (9, 0), (9, 0), (9, 0), (9, 0), (9, 0), (9, 0)]) dL_judged_332 (Nat.le_of_ble_eq_true rfl) rfl rfl ?_
                    refine x_iinc (ls' := [(3, 13), (2, 45), (2, 47), (2, 46), (0, l), (0, r), (0, dN D), (1, spn D), (9, 0), (1, st9), (9, 0), (1, al), (9, 0), (0, 0), (0, j + 1), (9, 0), (9, 0), (9, 0), (9, 0), (9, 0), (9, 0), (9, 0), (9, 0), (9, 0), (9, 0)]) dL_judged_334 rfl (Nat.le_of_ble_eq_true rfl) rfl rfl ?_
                    refine x_goto (tgt := 268) dL_judged_337 rfl ?_
                    exact ih268 _ (by omega) 0 (j + 1) rfl (by first | omega | assumption) (by rw [wnt_s (by omega) hj0.1]; omega)
        exact hL268 _ (max (-5) (min 5 ((dH D ((dN D) - 1)) - (dH D 0)))) 1 rfl (by first | omega | assumption) (by rw [wnt_1])
      · skip
        refine x_iload dL_judged_29 rfl ?_
        refine x_i2l dL_judged_31 (R32.in (by omega)) ?_
        refine x_lload dL_judged_32 rfl ?_
        refine x_aload_n dL_judged_34 rfl rfl (by first | decide | omega) ?_
        refine x_iload dL_judged_35 rfl ?_
        refine x_ialdx (o := 46) (n := nn) (x := dX D i) dL_judged_37 rfl hs46 (by omega) (by omega) (hD.x (by omega)) ?_
        have hr15 := (hD.ok).xs (i := i) (by omega)
        refine x_i2l dL_judged_38 (R32.in (by omega)) ?_
        refine x_lsub dL_judged_39 ?_
        refine x_lmul dL_judged_40 ?_
        refine x_iload dL_judged_41 rfl ?_
        refine x_i2l dL_judged_43 (R32.in (by omega)) ?_
        refine x_aload_n dL_judged_44 rfl rfl (by first | decide | omega) ?_
        refine x_iload dL_judged_45 rfl ?_
        refine x_ialdx (o := 46) (n := nn) (x := dX D i) dL_judged_47 rfl hs46 (by omega) (by omega) (hD.x (by omega)) ?_
        refine x_i2l dL_judged_48 (R32.in (by omega)) ?_
        refine x_lmul dL_judged_49 ?_
        refine x_ladd dL_judged_50 ?_
        refine x_ldc2 (n := 2) dL_judged_51 k_1057 (by decide) ?_
        refine x_aload_n dL_judged_54 rfl rfl (by first | decide | omega) ?_
        refine x_iload dL_judged_55 rfl ?_
        refine x_ialdx (o := 45) (n := nn) (x := dH D i) dL_judged_57 rfl hs45 (by omega) (by omega) (hD.p (by omega)) ?_
        have hr16 := (hD.ok).hr (i := i) (by omega)
        refine x_i2l dL_judged_58 (R32.in (by omega)) ?_
        refine x_lmul dL_judged_59 ?_
        refine x_lload dL_judged_60 rfl ?_
        refine x_lmul dL_judged_62 ?_
        refine x_lsub dL_judged_63 ?_
        have hb64 := am_mul_b (a := l) (b := spn D - dX D i) (A := 60) (B := 2520) (by omega) (by omega)
        refine x_lstore (ls' := [(3, 13), (2, 45), (2, 47), (2, 46), (0, l), (0, r), (0, dN D), (1, spn D), (9, 0), (1, st9), (9, 0), (1, al), (9, 0), (0, i), (1, ((l * ((spn D) - (dX D i))) + (r * (dX D i))) - ((2 * (dH D i)) * (spn D))), (9, 0), (9, 0), (9, 0), (9, 0), (9, 0), (9, 0), (9, 0), (9, 0), (9, 0), (9, 0)]) dL_judged_64 (Nat.le_of_ble_eq_true rfl) rfl rfl ?_
        refine x_aload_n dL_judged_66 rfl rfl (by first | decide | omega) ?_
        refine x_iload dL_judged_67 rfl ?_
        refine x_ialdx (o := 47) (n := nn) (x := way D i) dL_judged_69 rfl hs47 (by omega) (by omega) (hW _ (by omega) (by omega)) ?_
        have hr17 := way_b D i
        have hJ70_9 : ∀ z9_0 : Int, z9_0 = (if (way D i) ≤ 0 then -(((l * ((spn D) - (dX D i))) + (r * (dX D i))) - ((2 * (dH D i)) * (spn D))) else ((l * ((spn D) - (dX D i))) + (r * (dX D i))) - ((2 * (dH D i)) * (spn D))) → Gx (xK G M_L_judged 1 4 (judP D l r L G μ)) G M_L_judged 0 0 81 [(3, 13), (2, 45), (2, 47), (2, 46), (0, l), (0, r), (0, dN D), (1, spn D), (9, 0), (1, st9), (9, 0), (1, al), (9, 0), (0, i), (1, ((l * ((spn D) - (dX D i))) + (r * (dX D i))) - ((2 * (dH D i)) * (spn D))), (9, 0), (9, 0), (9, 0), (9, 0), (9, 0), (9, 0), (9, 0), (9, 0), (9, 0), (9, 0)] [(1, z9_0)] μ := by
          intro z9_0 hz9_0
          refine Gx.topE (b := len D (r - l) l i) (by have h9 := jlen (D := D) l r i (e := l * (spn D - dX D i) + r * dX D i - 2 * dH D i * spn D) rfl; omega) ?_
          refine x_lstore (ls' := [(3, 13), (2, 45), (2, 47), (2, 46), (0, l), (0, r), (0, dN D), (1, spn D), (9, 0), (1, st9), (9, 0), (1, al), (9, 0), (0, i), (1, ((l * ((spn D) - (dX D i))) + (r * (dX D i))) - ((2 * (dH D i)) * (spn D))), (9, 0), (1, len D (r - l) l i), (9, 0), (9, 0), (9, 0), (9, 0), (9, 0), (9, 0), (9, 0), (9, 0)]) dL_judged_81 (Nat.le_of_ble_eq_true rfl) rfl rfl ?_
          have hbr := hok.br (i := i) (by omega)
          have hhr := hok.hr (i := i) (by omega)
          have hlr9 := len_fr D l r i hok (by omega) hlr
          have hj1 := jb1 hok (i := i) (by omega)
          have hj2 := jb2 hok (i := i) (by omega)
          refine x_aload_nS dL_judged_83 rfl rfl ?_
          refine x_iload dL_judged_84 rfl ?_
          refine x_callSP (as := [(3, 13), (0, i)]) (rest := []) (k := 0) fL_judged_86.g ⟨Nat.le_of_ble_eq_true rfl, Nat.le_of_ble_eq_true rfl⟩ ⟨show 0 ≤ 1 by omega, show 0 ≤ 4 by omega⟩ xK_A hw rfl rfl rfl rfl rfl (Nat.le_of_ble_eq_true rfl) ⟨fun h => absurd h (by decide), ⟨fun h => absurd h (by decide), trivial⟩⟩ (by decide) (s_L_kind G i μ hk4 (by first | omega | assumption)) ?_
          have hf18 := lkd_r G i
          refine Gx.topE (b := dB D i) (hD.b (by omega)) ?_
          refine x_istore (ls' := [(3, 13), (2, 45), (2, 47), (2, 46), (0, l), (0, r), (0, dN D), (1, spn D), (9, 0), (1, st9), (9, 0), (1, al), (9, 0), (0, i), (1, ((l * ((spn D) - (dX D i))) + (r * (dX D i))) - ((2 * (dH D i)) * (spn D))), (9, 0), (1, len D (r - l) l i), (9, 0), (0, dB D i), (9, 0), (9, 0), (9, 0), (9, 0), (9, 0), (9, 0)]) dL_judged_89 (Nat.le_of_ble_eq_true rfl) rfl rfl ?_
          refine x_lload dL_judged_91 rfl ?_
          refine x_lload dL_judged_93 rfl ?_
          refine x_iload dL_judged_95 rfl ?_
          refine x_iconst dL_judged_97 ?_
          have hJ98_10 : ∀ z10_0 : Int, z10_0 = (if ¬ (dB D i) = 1 then (if ¬ (dB D i) = 2 then 13 else 11) else 10) → Gx (xK G M_L_judged 1 4 (judP D l r L G μ)) G M_L_judged 0 0 119 [(3, 13), (2, 45), (2, 47), (2, 46), (0, l), (0, r), (0, dN D), (1, spn D), (9, 0), (1, st9), (9, 0), (1, al), (9, 0), (0, i), (1, ((l * ((spn D) - (dX D i))) + (r * (dX D i))) - ((2 * (dH D i)) * (spn D))), (9, 0), (1, len D (r - l) l i), (9, 0), (0, dB D i), (9, 0), (9, 0), (9, 0), (9, 0), (9, 0), (9, 0)] [(0, z10_0), (1, spn D), (1, len D (r - l) l i)] μ := by
            intro z10_0 hz10_0
            refine Gx.topE (b := lst (dB D i)) (by first | exact jlst hbr | (rw [← jlst hbr]; omega)) ?_
            refine x_i2l dL_judged_119 (R32.in (by omega)) ?_
            refine x_lmul dL_judged_120 ?_
            refine x_lc_lt (tgt := 137) dL_judged_121 dL_judged_122 rfl (R64.in (by omega)) (R64.in (by omega)) (fun c122 => ?_) (fun c122 => ?_)
            · skip
              refine x_null dL_judged_137 ?_
              exact x_aret dL_judged_138 rfl (Or.inr ⟨_, rfl⟩) ⟨by omega, by omega⟩ Xt.rf (Or.inl ⟨(fun hal => by have h9 := hal i hi0.1 (by omega); unfold okN at h9; omega), rfl, rfl, rfl⟩)
            · skip
              refine x_lload dL_judged_125 rfl ?_
              refine x_ldc2 (n := 44) dL_judged_127 k_1058 (by decide) ?_
              refine x_lload dL_judged_130 rfl ?_
              refine x_lmul dL_judged_132 ?_
              refine x_lc_le (tgt := 139) dL_judged_133 dL_judged_134 rfl (R64.in (by omega)) (R64.in (by omega)) (fun c134 => ?_) (fun c134 => ?_)
              · skip
                refine x_iload dL_judged_139 rfl ?_
                refine x_iconst dL_judged_141 ?_
                have hJ142_11 : ∀ z11_0 : Int, z11_0 = (if ¬ (dB D i) = 1 then (if ¬ (dB D i) = 2 then 17 else 15) else 14) → Gx (xK G M_L_judged 1 4 (judP D l r L G μ)) G M_L_judged 0 0 163 [(3, 13), (2, 45), (2, 47), (2, 46), (0, l), (0, r), (0, dN D), (1, spn D), (9, 0), (1, st9), (9, 0), (1, al), (9, 0), (0, i), (1, ((l * ((spn D) - (dX D i))) + (r * (dX D i))) - ((2 * (dH D i)) * (spn D))), (9, 0), (1, len D (r - l) l i), (9, 0), (0, dB D i), (9, 0), (9, 0), (9, 0), (9, 0), (9, 0), (9, 0)] [(0, z11_0)] μ := by
                  intro z11_0 hz11_0
                  refine Gx.topE (b := usu (dB D i)) (by first | exact jusu hbr | (rw [← jusu hbr]; omega)) ?_
                  refine x_aload_n dL_judged_163 rfl rfl (by first | decide | omega) ?_
                  refine x_iload dL_judged_164 rfl ?_
                  refine x_ialdx (o := 47) (n := nn) (x := way D i) dL_judged_166 rfl hs47 (by omega) (by omega) (hW _ (by omega) (by omega)) ?_
                  have hJ167_12 : ∀ z12_0 : Int, z12_0 = (if (way D i) ≤ 0 then 2 * (dH D i) else (-2) * (dH D i)) → Gx (xK G M_L_judged 1 4 (judP D l r L G μ)) G M_L_judged 0 0 186 [(3, 13), (2, 45), (2, 47), (2, 46), (0, l), (0, r), (0, dN D), (1, spn D), (9, 0), (1, st9), (9, 0), (1, al), (9, 0), (0, i), (1, ((l * ((spn D) - (dX D i))) + (r * (dX D i))) - ((2 * (dH D i)) * (spn D))), (9, 0), (1, len D (r - l) l i), (9, 0), (0, dB D i), (9, 0), (9, 0), (9, 0), (9, 0), (9, 0), (9, 0)] [(0, z12_0), (0, usu (dB D i))] μ := by
                    intro z12_0 hz12_0
                    refine x_max fL_judged_186 (R32.in (by omega)) (R32.in (by omega)) (Nat.le_of_ble_eq_true rfl) ⟨Nat.le_of_ble_eq_true rfl, Nat.le_of_ble_eq_true rfl, show 0 ≤ 1 by omega, show 0 ≤ 4 by omega⟩ ?_
                    refine Gx.topE (b := ideal D i) (jidl hhr (by constructor <;> intro q9 <;> omega)) ?_
                    refine x_i2l dL_judged_189 (R32.in (by omega)) ?_
                    refine x_lstore (ls' := [(3, 13), (2, 45), (2, 47), (2, 46), (0, l), (0, r), (0, dN D), (1, spn D), (9, 0), (1, st9), (9, 0), (1, al), (9, 0), (0, i), (1, ((l * ((spn D) - (dX D i))) + (r * (dX D i))) - ((2 * (dH D i)) * (spn D))), (9, 0), (1, len D (r - l) l i), (9, 0), (0, dB D i), (1, ideal D i), (9, 0), (9, 0), (9, 0), (9, 0), (9, 0)]) dL_judged_190 (Nat.le_of_ble_eq_true rfl) rfl rfl ?_
                    refine x_lload dL_judged_192 rfl ?_
                    refine x_lload dL_judged_194 rfl ?_
                    refine x_lload dL_judged_196 rfl ?_
                    refine x_lload dL_judged_198 rfl ?_
                    refine x_lmul dL_judged_200 ?_
                    refine x_lc_ge (tgt := 220) dL_judged_201 dL_judged_202 rfl (R64.in (by omega)) (R64.in (by omega)) (fun c202 => ?_) (fun c202 => ?_)
                    · skip
                      refine x_lload dL_judged_220 rfl ?_
                      refine x_lload dL_judged_222 rfl ?_
                      refine x_lload dL_judged_224 rfl ?_
                      refine x_lmul dL_judged_226 ?_
                      refine x_lsub dL_judged_227 ?_
                      refine x_ladd dL_judged_228 ?_
                      refine x_lstore (ls' := [(3, 13), (2, 45), (2, 47), (2, 46), (0, l), (0, r), (0, dN D), (1, spn D), (9, 0), (1, st9 + ((len D (r - l) l i) - ((ideal D i) * (spn D)))), (9, 0), (1, al), (9, 0), (0, i), (1, ((l * ((spn D) - (dX D i))) + (r * (dX D i))) - ((2 * (dH D i)) * (spn D))), (9, 0), (1, len D (r - l) l i), (9, 0), (0, dB D i), (1, ideal D i), (9, 0), (9, 0), (9, 0), (9, 0), (9, 0)]) dL_judged_229 (Nat.le_of_ble_eq_true rfl) rfl rfl ?_
                      refine x_lload dL_judged_231 rfl ?_
                      refine x_lload dL_judged_233 rfl ?_
                      refine x_ladd dL_judged_235 ?_
                      refine x_lstore (ls' := [(3, 13), (2, 45), (2, 47), (2, 46), (0, l), (0, r), (0, dN D), (1, spn D), (9, 0), (1, st9 + ((len D (r - l) l i) - ((ideal D i) * (spn D)))), (9, 0), (1, al + (len D (r - l) l i)), (9, 0), (0, i), (1, ((l * ((spn D) - (dX D i))) + (r * (dX D i))) - ((2 * (dH D i)) * (spn D))), (9, 0), (1, len D (r - l) l i), (9, 0), (0, dB D i), (1, ideal D i), (9, 0), (9, 0), (9, 0), (9, 0), (9, 0)]) dL_judged_236 (Nat.le_of_ble_eq_true rfl) rfl rfl ?_
                      refine x_iinc (ls' := [(3, 13), (2, 45), (2, 47), (2, 46), (0, l), (0, r), (0, dN D), (1, spn D), (9, 0), (1, st9 + ((len D (r - l) l i) - ((ideal D i) * (spn D)))), (9, 0), (1, al + (len D (r - l) l i)), (9, 0), (0, i + 1), (1, ((l * ((spn D) - (dX D i))) + (r * (dX D i))) - ((2 * (dH D i)) * (spn D))), (9, 0), (1, len D (r - l) l i), (9, 0), (0, dB D i), (1, ideal D i), (9, 0), (9, 0), (9, 0), (9, 0), (9, 0)]) dL_judged_238 rfl (Nat.le_of_ble_eq_true rfl) rfl rfl ?_
                      refine x_goto (tgt := 22) dL_judged_241 rfl ?_
                      refine Gx.fgl (ls' := [(3, 13), (2, 45), (2, 47), (2, 46), (0, l), (0, r), (0, dN D), (1, spn D), (9, 0), (1, st9 + ((len D (r - l) l i) - ((ideal D i) * (spn D)))), (9, 0), (1, al + (len D (r - l) l i)), (9, 0), (0, i + 1), (9, 0), (9, 0), (1, len D (r - l) l i), (9, 0), (0, dB D i), (1, ideal D i), (9, 0), (9, 0), (9, 0), (9, 0), (9, 0)]) 14 rfl ?_
                      refine Gx.fgl (ls' := [(3, 13), (2, 45), (2, 47), (2, 46), (0, l), (0, r), (0, dN D), (1, spn D), (9, 0), (1, st9 + ((len D (r - l) l i) - ((ideal D i) * (spn D)))), (9, 0), (1, al + (len D (r - l) l i)), (9, 0), (0, i + 1), (9, 0), (9, 0), (9, 0), (9, 0), (0, dB D i), (1, ideal D i), (9, 0), (9, 0), (9, 0), (9, 0), (9, 0)]) 16 rfl ?_
                      refine Gx.fgl (ls' := [(3, 13), (2, 45), (2, 47), (2, 46), (0, l), (0, r), (0, dN D), (1, spn D), (9, 0), (1, st9 + ((len D (r - l) l i) - ((ideal D i) * (spn D)))), (9, 0), (1, al + (len D (r - l) l i)), (9, 0), (0, i + 1), (9, 0), (9, 0), (9, 0), (9, 0), (9, 0), (1, ideal D i), (9, 0), (9, 0), (9, 0), (9, 0), (9, 0)]) 18 rfl ?_
                      refine Gx.fgl (ls' := [(3, 13), (2, 45), (2, 47), (2, 46), (0, l), (0, r), (0, dN D), (1, spn D), (9, 0), (1, st9 + ((len D (r - l) l i) - ((ideal D i) * (spn D)))), (9, 0), (1, al + (len D (r - l) l i)), (9, 0), (0, i + 1), (9, 0), (9, 0), (9, 0), (9, 0), (9, 0), (9, 0), (9, 0), (9, 0), (9, 0), (9, 0), (9, 0)]) 19 rfl ?_
                      exact ih22 _ (by omega) (st9 + ((len D (r - l) l i) - ((ideal D i) * (spn D)))) (al + (len D (r - l) l i)) (i + 1) rfl (by first | omega | assumption) (by rw [ssu_s hi0.1, hst9]; first | rw [joff (by omega)] | rw [joff' (by omega)]) (by rw [lsu_s hi0.1, hal9]) (fun j h1 h2 => by by_cases hji : j = i; · subst hji; exact ⟨by omega, by omega⟩; · exact hok9 j h1 (by omega))
                    · skip
                      refine x_ldc2 (n := 2) dL_judged_205 k_1057 (by decide) ?_
                      refine x_lload dL_judged_208 rfl ?_
                      refine x_lload dL_judged_210 rfl ?_
                      refine x_lmul dL_judged_212 ?_
                      refine x_lload dL_judged_213 rfl ?_
                      refine x_lsub dL_judged_215 ?_
                      refine x_lmul dL_judged_216 ?_
                      refine x_goto (tgt := 228) dL_judged_217 rfl ?_
                      refine x_ladd dL_judged_228 ?_
                      refine x_lstore (ls' := [(3, 13), (2, 45), (2, 47), (2, 46), (0, l), (0, r), (0, dN D), (1, spn D), (9, 0), (1, st9 + (2 * (((ideal D i) * (spn D)) - (len D (r - l) l i)))), (9, 0), (1, al), (9, 0), (0, i), (1, ((l * ((spn D) - (dX D i))) + (r * (dX D i))) - ((2 * (dH D i)) * (spn D))), (9, 0), (1, len D (r - l) l i), (9, 0), (0, dB D i), (1, ideal D i), (9, 0), (9, 0), (9, 0), (9, 0), (9, 0)]) dL_judged_229 (Nat.le_of_ble_eq_true rfl) rfl rfl ?_
                      refine x_lload dL_judged_231 rfl ?_
                      refine x_lload dL_judged_233 rfl ?_
                      refine x_ladd dL_judged_235 ?_
                      refine x_lstore (ls' := [(3, 13), (2, 45), (2, 47), (2, 46), (0, l), (0, r), (0, dN D), (1, spn D), (9, 0), (1, st9 + (2 * (((ideal D i) * (spn D)) - (len D (r - l) l i)))), (9, 0), (1, al + (len D (r - l) l i)), (9, 0), (0, i), (1, ((l * ((spn D) - (dX D i))) + (r * (dX D i))) - ((2 * (dH D i)) * (spn D))), (9, 0), (1, len D (r - l) l i), (9, 0), (0, dB D i), (1, ideal D i), (9, 0), (9, 0), (9, 0), (9, 0), (9, 0)]) dL_judged_236 (Nat.le_of_ble_eq_true rfl) rfl rfl ?_
                      refine x_iinc (ls' := [(3, 13), (2, 45), (2, 47), (2, 46), (0, l), (0, r), (0, dN D), (1, spn D), (9, 0), (1, st9 + (2 * (((ideal D i) * (spn D)) - (len D (r - l) l i)))), (9, 0), (1, al + (len D (r - l) l i)), (9, 0), (0, i + 1), (1, ((l * ((spn D) - (dX D i))) + (r * (dX D i))) - ((2 * (dH D i)) * (spn D))), (9, 0), (1, len D (r - l) l i), (9, 0), (0, dB D i), (1, ideal D i), (9, 0), (9, 0), (9, 0), (9, 0), (9, 0)]) dL_judged_238 rfl (Nat.le_of_ble_eq_true rfl) rfl rfl ?_
                      refine x_goto (tgt := 22) dL_judged_241 rfl ?_
                      refine Gx.fgl (ls' := [(3, 13), (2, 45), (2, 47), (2, 46), (0, l), (0, r), (0, dN D), (1, spn D), (9, 0), (1, st9 + (2 * (((ideal D i) * (spn D)) - (len D (r - l) l i)))), (9, 0), (1, al + (len D (r - l) l i)), (9, 0), (0, i + 1), (9, 0), (9, 0), (1, len D (r - l) l i), (9, 0), (0, dB D i), (1, ideal D i), (9, 0), (9, 0), (9, 0), (9, 0), (9, 0)]) 14 rfl ?_
                      refine Gx.fgl (ls' := [(3, 13), (2, 45), (2, 47), (2, 46), (0, l), (0, r), (0, dN D), (1, spn D), (9, 0), (1, st9 + (2 * (((ideal D i) * (spn D)) - (len D (r - l) l i)))), (9, 0), (1, al + (len D (r - l) l i)), (9, 0), (0, i + 1), (9, 0), (9, 0), (9, 0), (9, 0), (0, dB D i), (1, ideal D i), (9, 0), (9, 0), (9, 0), (9, 0), (9, 0)]) 16 rfl ?_
                      refine Gx.fgl (ls' := [(3, 13), (2, 45), (2, 47), (2, 46), (0, l), (0, r), (0, dN D), (1, spn D), (9, 0), (1, st9 + (2 * (((ideal D i) * (spn D)) - (len D (r - l) l i)))), (9, 0), (1, al + (len D (r - l) l i)), (9, 0), (0, i + 1), (9, 0), (9, 0), (9, 0), (9, 0), (9, 0), (1, ideal D i), (9, 0), (9, 0), (9, 0), (9, 0), (9, 0)]) 18 rfl ?_
                      refine Gx.fgl (ls' := [(3, 13), (2, 45), (2, 47), (2, 46), (0, l), (0, r), (0, dN D), (1, spn D), (9, 0), (1, st9 + (2 * (((ideal D i) * (spn D)) - (len D (r - l) l i)))), (9, 0), (1, al + (len D (r - l) l i)), (9, 0), (0, i + 1), (9, 0), (9, 0), (9, 0), (9, 0), (9, 0), (9, 0), (9, 0), (9, 0), (9, 0), (9, 0), (9, 0)]) 19 rfl ?_
                      exact ih22 _ (by omega) (st9 + (2 * (((ideal D i) * (spn D)) - (len D (r - l) l i)))) (al + (len D (r - l) l i)) (i + 1) rfl (by first | omega | assumption) (by rw [ssu_s hi0.1, hst9]; first | rw [joff (by omega)] | rw [joff' (by omega)]) (by rw [lsu_s hi0.1, hal9]) (fun j h1 h2 => by by_cases hji : j = i; · subst hji; exact ⟨by omega, by omega⟩; · exact hok9 j h1 (by omega))
                  refine x_if_le (tgt := 180) dL_judged_167 rfl (R32.in (by omega)) (fun c167 => ?_) (fun c167 => ?_)
                  · skip
                    refine x_iconst dL_judged_180 ?_
                    refine x_aload_n dL_judged_181 rfl rfl (by first | decide | omega) ?_
                    refine x_iload dL_judged_182 rfl ?_
                    refine x_ialdx (o := 45) (n := nn) (x := dH D i) dL_judged_184 rfl hs45 (by omega) (by omega) (hD.p (by omega)) ?_
                    refine x_imul dL_judged_185 ?_
                    exact hJ167_12 _ (by first | omega | simp [*])
                  · skip
                    refine x_bipush dL_judged_170 (by decide) ?_
                    refine x_aload_n dL_judged_172 rfl rfl (by first | decide | omega) ?_
                    refine x_iload dL_judged_173 rfl ?_
                    refine x_ialdx (o := 45) (n := nn) (x := dH D i) dL_judged_175 rfl hs45 (by omega) (by omega) (hD.p (by omega)) ?_
                    refine x_imul dL_judged_176 ?_
                    refine x_goto (tgt := 186) dL_judged_177 rfl ?_
                    exact hJ167_12 _ (by first | omega | simp [*])
                refine x_icmp_ne (tgt := 150) dL_judged_142 rfl (R32.in (by omega)) (R32.in (by decide)) (fun c142 => ?_) (fun c142 => ?_)
                · skip
                  refine x_iload dL_judged_150 rfl ?_
                  refine x_iconst dL_judged_152 ?_
                  refine x_icmp_ne (tgt := 161) dL_judged_153 rfl (R32.in (by omega)) (R32.in (by decide)) (fun c153 => ?_) (fun c153 => ?_)
                  · skip
                    refine x_bipush dL_judged_161 (by decide) ?_
                    exact hJ142_11 _ (by first | omega | simp [*])
                  · skip
                    refine x_bipush dL_judged_156 (by decide) ?_
                    refine x_goto (tgt := 163) dL_judged_158 rfl ?_
                    exact hJ142_11 _ (by first | omega | simp [*])
                · skip
                  refine x_bipush dL_judged_145 (by decide) ?_
                  refine x_goto (tgt := 163) dL_judged_147 rfl ?_
                  exact hJ142_11 _ (by first | omega | simp [*])
              · skip
                refine x_null dL_judged_137 ?_
                exact x_aret dL_judged_138 rfl (Or.inr ⟨_, rfl⟩) ⟨by omega, by omega⟩ Xt.rf (Or.inl ⟨(fun hal => by have h9 := hal i hi0.1 (by omega); unfold okN at h9; omega), rfl, rfl, rfl⟩)
          refine x_icmp_ne (tgt := 106) dL_judged_98 rfl (R32.in (by omega)) (R32.in (by decide)) (fun c98 => ?_) (fun c98 => ?_)
          · skip
            refine x_iload dL_judged_106 rfl ?_
            refine x_iconst dL_judged_108 ?_
            refine x_icmp_ne (tgt := 117) dL_judged_109 rfl (R32.in (by omega)) (R32.in (by decide)) (fun c109 => ?_) (fun c109 => ?_)
            · skip
              refine x_bipush dL_judged_117 (by decide) ?_
              exact hJ98_10 _ (by first | omega | simp [*])
            · skip
              refine x_bipush dL_judged_112 (by decide) ?_
              refine x_goto (tgt := 119) dL_judged_114 rfl ?_
              exact hJ98_10 _ (by first | omega | simp [*])
          · skip
            refine x_bipush dL_judged_101 (by decide) ?_
            refine x_goto (tgt := 119) dL_judged_103 rfl ?_
            exact hJ98_10 _ (by first | omega | simp [*])
        refine x_if_le (tgt := 78) dL_judged_70 rfl (R32.in (by omega)) (fun c70 => ?_) (fun c70 => ?_)
        · skip
          refine x_lload dL_judged_78 rfl ?_
          refine x_lneg dL_judged_80 ?_
          exact hJ70_9 _ (by first | omega | simp [*])
        · skip
          refine x_lload dL_judged_73 rfl ?_
          refine x_goto (tgt := 81) dL_judged_75 rfl ?_
          exact hJ70_9 _ (by first | omega | simp [*])
  exact hL22 _ 0 0 0 rfl (by first | omega | assumption) rfl rfl (fun j h1 h2 => by omega)
