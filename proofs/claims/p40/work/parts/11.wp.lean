/-! ===== The judgement with a property of the end; its rows out of those of Ev ===== -/
def Wp (G : AG) (M : AMeth) (pc : Nat) (ls st : List AV) (μ : Mu) (Q : Option AV → Mu → Prop) : Prop := ∃ r μ', Ev G M pc ls st μ r μ' ∧ Q r μ'
def pP (t : Nat) (x : Int) (μ : Mu) : Option AV → Mu → Prop := fun r μ' => r = some (t, x) ∧ μ' = μ
def qI (t : Nat) (P : Int → Mu → Prop) : Option AV → Mu → Prop := fun r μ' => ∃ z, r = some (t, z) ∧ P z μ'
def qV (P : Mu → Prop) : Option AV → Mu → Prop := fun r μ' => r = none ∧ P μ'
section WpRows
variable {G : AG} {M M2 : AMeth} {pc pc2 : Nat} {ls ls2 st st2 rest as : List AV} {μ μ2 : Mu} {Q Q2 : Option AV → Mu → Prop} {k n : Nat}
theorem Wp.lift (h : ∀ r μ', Ev G M pc2 ls2 st2 μ2 r μ' → Ev G M pc ls st μ r μ') (kk : Wp G M pc2 ls2 st2 μ2 Q) : Wp G M pc ls st μ Q := by
  obtain ⟨r, μ', h1, h2⟩ := kk
  exact ⟨r, μ', h r μ' h1, h2⟩
theorem Wp.mono (h : Wp G M pc ls st μ Q) (hq : ∀ r μ', Q r μ' → Q2 r μ') : Wp G M pc ls st μ Q2 := by
  obtain ⟨r, μ', h1, h2⟩ := h
  exact ⟨r, μ', h1, hq r μ' h2⟩
theorem Wp.top {t : Nat} {a : Int} (h : ∀ v, v = a → Wp G M pc ls ((t, v) :: st) μ Q) : Wp G M pc ls ((t, a) :: st) μ Q := h a rfl
theorem Wp.topE {t : Nat} {a b : Int} (e : a = b) (h : Wp G M pc ls ((t, b) :: st) μ Q) : Wp G M pc ls ((t, a) :: st) μ Q := by subst e; exact h
theorem Wp.mu (h : ∀ μ1, μ1 = μ → Wp G M pc ls st μ1 Q) : Wp G M pc ls st μ Q := h μ rfl
theorem Wp.cg {ls' st' : List AV} {μ' : Mu} (h : Wp G M pc ls' st' μ' Q) (h1 : μ = μ') (h2 : ls = ls') (h3 : st = st') : Wp G M pc ls st μ Q := by subst h1; subst h2; subst h3; exact h
/-- a local that is wanted no more -/
theorem Wp.fg (i : Nat) (h : Wp G M pc (ls.set i (9, 0)) st μ Q) : Wp G M pc ls st μ Q := by
  refine Wp.lift (fun r μ' h2 => ?_) h
  intro p e s m args below meth c H locs lsA hI
  refine h2 p e s m args below meth c H locs lsA ⟨hI.1, hI.2.1, hI.2.2.1, hI.2.2.2.1, hI.2.2.2.2.1, hI.2.2.2.2.2.1, lv_mono hI.2.2.2.2.2.2 (fun q hq => ?_)⟩
  obtain ⟨j, v, h1, h3, rfl⟩ := am_l_of _ _ hq
  have hj : i ≠ j := by
    rintro rfl
    have hl : i < ls.length := by
      have := (List.getElem?_eq_some_iff.mp h1).1
      simpa using this
    rw [List.getElem?_set_self hl] at h1
    cases h1
    simp at h3
  rw [List.getElem?_set_ne hj] at h1
  simpa using am_l_mem h3 ls 0 j h1
theorem Wp.lcg {ls' : List AV} {t : Nat} {a b : Int} (i : Nat) (e : a = b) (hl : ls[i]? = some (t, a)) (h : ls.set i (t, b) = ls') (kk : Wp G M pc ls' st μ Q) : Wp G M pc ls st μ Q := by
  subst e; subst h
  have h2 : ls.set i (t, a) = ls := by
    apply List.ext_getElem?
    intro j
    by_cases hj : i = j
    · subst hj; rw [List.getElem?_set_self (List.getElem?_eq_some_iff.mp hl).1, hl]
    · rw [List.getElem?_set_ne hj]
  rw [h2] at kk
  exact kk
theorem Wp.fgl {ls' : List AV} (i : Nat) (e : ls.set i (9, 0) = ls') (h : Wp G M pc ls' st μ Q) : Wp G M pc ls st μ Q := by subst e; exact Wp.fg i h
theorem Wp.toP {t : Nat} {x x2 : Int} (h : Wp G M pc ls st μ (pP t x μ2)) (e : x = x2) : Wp G M pc ls st μ (pP t x2 μ2) := by subst e; exact h

theorem w_iconst {n : Int} (hd : decode M.2.1 pc = .ok (.iconst n, 1)) (kk : Wp G M (pc + 1) ls ((0, n) :: st) μ Q) : Wp G M pc ls st μ Q := Wp.lift (fun _ _ hq9 => e_iconst hd hq9) kk
theorem w_bipush {n : Int} (hd : decode M.2.1 pc = .ok (.bipush n, 2)) (hn : (Int8.ofInt n).toInt32 = Int32.ofInt n) (kk : Wp G M (pc + 2) ls ((0, n) :: st) μ Q) : Wp G M pc ls st μ Q := Wp.lift (fun _ _ hq9 => e_bipush hd hn hq9) kk
theorem w_sipush {n : Int} (hd : decode M.2.1 pc = .ok (.sipush n, 3)) (hn : (Int16.ofInt n).toInt32 = Int32.ofInt n) (kk : Wp G M (pc + 3) ls ((0, n) :: st) μ Q) : Wp G M pc ls st μ Q := Wp.lift (fun _ _ hq9 => e_sipush hd hn hq9) kk
theorem w_ldc {i : Nat} {v : Int32} {n : Int} (hd : decode M.2.1 pc = .ok (.ldc i, 2)) (hw : Cond.constant M.1.cls i v ∈ TW) (hn : Int32.ofInt n = v) (kk : Wp G M (pc + 2) ls ((0, n) :: st) μ Q) : Wp G M pc ls st μ Q := Wp.lift (fun _ _ hq9 => e_ldc hd hw hn hq9) kk
theorem w_ldcw {i : Nat} {v : Int32} {n : Int} (hd : decode M.2.1 pc = .ok (.ldc_w i, 3)) (hw : Cond.constant M.1.cls i v ∈ TW) (hn : Int32.ofInt n = v) (kk : Wp G M (pc + 3) ls ((0, n) :: st) μ Q) : Wp G M pc ls st μ Q := Wp.lift (fun _ _ hq9 => e_ldcw hd hw hn hq9) kk
theorem w_ldc2 {i : Nat} {v : Int64} {n : Int} (hd : decode M.2.1 pc = .ok (.ldc2_w i, 3)) (hw : Cond.constantLong M.1.cls i v ∈ TW) (hn : Int64.ofInt n = v) (kk : Wp G M (pc + 3) ls ((1, n) :: st) μ Q) : Wp G M pc ls st μ Q := Wp.lift (fun _ _ hq9 => e_ldc2 hd hw hn hq9) kk
theorem w_iload_n {k : Fin 4} {i : Nat} {x : Int} (hd : decode M.2.1 pc = .ok (.iload_n k, 1)) (hi : (k : Nat) = i) (hl : ls[i]? = some (0, x)) (kk : Wp G M (pc + 1) ls ((0, x) :: st) μ Q) : Wp G M pc ls st μ Q := Wp.lift (fun _ _ hq9 => e_iload_n hd hi hl hq9) kk
theorem w_iload {i : Nat} {x : Int} (hd : decode M.2.1 pc = .ok (.iload i, 2)) (hl : ls[i]? = some (0, x)) (kk : Wp G M (pc + 2) ls ((0, x) :: st) μ Q) : Wp G M pc ls st μ Q := Wp.lift (fun _ _ hq9 => e_iload hd hl hq9) kk
theorem w_lload_n {k : Fin 4} {i : Nat} {x : Int} (hd : decode M.2.1 pc = .ok (.lload_n k, 1)) (hi : (k : Nat) = i) (hl : ls[i]? = some (1, x)) (kk : Wp G M (pc + 1) ls ((1, x) :: st) μ Q) : Wp G M pc ls st μ Q := Wp.lift (fun _ _ hq9 => e_lload_n hd hi hl hq9) kk
theorem w_lload {i : Nat} {x : Int} (hd : decode M.2.1 pc = .ok (.lload i, 2)) (hl : ls[i]? = some (1, x)) (kk : Wp G M (pc + 2) ls ((1, x) :: st) μ Q) : Wp G M pc ls st μ Q := Wp.lift (fun _ _ hq9 => e_lload hd hl hq9) kk
theorem w_aload_n {k : Fin 4} {i : Nat} {x : Int} (hd : decode M.2.1 pc = .ok (.aload_n k, 1)) (hi : (k : Nat) = i) (hl : ls[i]? = some (2, x)) (h0 : 0 ≤ x) (kk : Wp G M (pc + 1) ls ((2, x) :: st) μ Q) : Wp G M pc ls st μ Q := Wp.lift (fun _ _ hq9 => e_aload_n hd hi hl h0 hq9) kk
theorem w_aload {i : Nat} {x : Int} (hd : decode M.2.1 pc = .ok (.aload i, 2)) (hl : ls[i]? = some (2, x)) (h0 : 0 ≤ x) (kk : Wp G M (pc + 2) ls ((2, x) :: st) μ Q) : Wp G M pc ls st μ Q := Wp.lift (fun _ _ hq9 => e_aload hd hl h0 hq9) kk
theorem w_aload_nS {k : Fin 4} {i : Nat} {x : Int} (hd : decode M.2.1 pc = .ok (.aload_n k, 1)) (hi : (k : Nat) = i) (hl : ls[i]? = some (3, x)) (kk : Wp G M (pc + 1) ls ((3, x) :: st) μ Q) : Wp G M pc ls st μ Q := Wp.lift (fun _ _ hq9 => e_aload_nS hd hi hl hq9) kk
theorem w_istore_n {ls' : List AV} {k : Fin 4} {i : Nat} {x : Int} (hd : decode M.2.1 pc = .ok (.istore_n k, 1)) (hi : (k : Nat) = i) (hn : i < M.2.2.1) (hp : am_pre ls i = true) (hls : (ls.set i (0, x)) = ls') (kk : Wp G M (pc + 1) ls' st μ Q) : Wp G M pc ls ((0, x) :: st) μ Q := by subst hls; exact Wp.lift (fun _ _ hq9 => e_istore_n hd hi hn hp hq9) kk
theorem w_istore {ls' : List AV} {i : Nat} {x : Int} (hd : decode M.2.1 pc = .ok (.istore i, 2)) (hn : i < M.2.2.1) (hp : am_pre ls i = true) (hls : (ls.set i (0, x)) = ls') (kk : Wp G M (pc + 2) ls' st μ Q) : Wp G M pc ls ((0, x) :: st) μ Q := by subst hls; exact Wp.lift (fun _ _ hq9 => e_istore hd hn hp hq9) kk
theorem w_lstore_n {ls' : List AV} {k : Fin 4} {i : Nat} {x : Int} (hd : decode M.2.1 pc = .ok (.lstore_n k, 1)) (hi : (k : Nat) = i) (hn : i + 1 < M.2.2.1) (hp : am_pre ls i = true) (hls : ((ls.set i (1, x)).set (i + 1) (9, 0)) = ls') (kk : Wp G M (pc + 1) ls' st μ Q) : Wp G M pc ls ((1, x) :: st) μ Q := by subst hls; exact Wp.lift (fun _ _ hq9 => e_lstore_n hd hi hn hp hq9) kk
theorem w_lstore {ls' : List AV} {i : Nat} {x : Int} (hd : decode M.2.1 pc = .ok (.lstore i, 2)) (hn : i + 1 < M.2.2.1) (hp : am_pre ls i = true) (hls : ((ls.set i (1, x)).set (i + 1) (9, 0)) = ls') (kk : Wp G M (pc + 2) ls' st μ Q) : Wp G M pc ls ((1, x) :: st) μ Q := by subst hls; exact Wp.lift (fun _ _ hq9 => e_lstore hd hn hp hq9) kk
theorem w_astore_n {ls' : List AV} {k : Fin 4} {i : Nat} {x : Int} (hd : decode M.2.1 pc = .ok (.astore_n k, 1)) (hi : (k : Nat) = i) (hn : i < M.2.2.1) (hp : am_pre ls i = true) (h0 : 0 ≤ x) (hls : (ls.set i (2, x)) = ls') (kk : Wp G M (pc + 1) ls' st μ Q) : Wp G M pc ls ((2, x) :: st) μ Q := by subst hls; exact Wp.lift (fun _ _ hq9 => e_astore_n hd hi hn hp h0 hq9) kk
theorem w_iinc {ls' : List AV} {i : Nat} {x n : Int} (hd : decode M.2.1 pc = .ok (.iinc i n, 3)) (hl : ls[i]? = some (0, x)) (hn : i < M.2.2.1) (hp : am_pre ls i = true) (hls : (ls.set i (0, x + n)) = ls') (kk : Wp G M (pc + 3) ls' st μ Q) : Wp G M pc ls st μ Q := by subst hls; exact Wp.lift (fun _ _ hq9 => e_iinc hd hl hn hp hq9) kk
theorem w_iadd {a b : Int} (hd : decode M.2.1 pc = .ok (.iadd, 1)) (kk : Wp G M (pc + 1) ls ((0, a + b) :: st) μ Q) : Wp G M pc ls ((0, b) :: (0, a) :: st) μ Q := Wp.lift (fun _ _ hq9 => e_iadd hd hq9) kk
theorem w_isub {a b : Int} (hd : decode M.2.1 pc = .ok (.isub, 1)) (kk : Wp G M (pc + 1) ls ((0, a - b) :: st) μ Q) : Wp G M pc ls ((0, b) :: (0, a) :: st) μ Q := Wp.lift (fun _ _ hq9 => e_isub hd hq9) kk
theorem w_imul {a b : Int} (hd : decode M.2.1 pc = .ok (.imul, 1)) (kk : Wp G M (pc + 1) ls ((0, a * b) :: st) μ Q) : Wp G M pc ls ((0, b) :: (0, a) :: st) μ Q := Wp.lift (fun _ _ hq9 => e_imul hd hq9) kk
theorem w_ladd {a b : Int} (hd : decode M.2.1 pc = .ok (.ladd, 1)) (kk : Wp G M (pc + 1) ls ((1, a + b) :: st) μ Q) : Wp G M pc ls ((1, b) :: (1, a) :: st) μ Q := Wp.lift (fun _ _ hq9 => e_ladd hd hq9) kk
theorem w_ineg {a : Int} (hd : decode M.2.1 pc = .ok (.ineg, 1)) (kk : Wp G M (pc + 1) ls ((0, -a) :: st) μ Q) : Wp G M pc ls ((0, a) :: st) μ Q := Wp.lift (fun _ _ hq9 => e_ineg hd hq9) kk
theorem w_idiv {a b : Int} (hd : decode M.2.1 pc = .ok (.idiv, 1)) (ha : R32 a) (hb0 : R32 b) (h0 : b ≠ 0) (kk : Wp G M (pc + 1) ls ((0, a.tdiv b) :: st) μ Q) : Wp G M pc ls ((0, b) :: (0, a) :: st) μ Q := Wp.lift (fun _ _ hq9 => e_idiv hd ha hb0 h0 hq9) kk
theorem w_irem {a b : Int} (hd : decode M.2.1 pc = .ok (.irem, 1)) (ha : R32 a) (hb0 : R32 b) (h0 : b ≠ 0) (kk : Wp G M (pc + 1) ls ((0, a.tmod b) :: st) μ Q) : Wp G M pc ls ((0, b) :: (0, a) :: st) μ Q := Wp.lift (fun _ _ hq9 => e_irem hd ha hb0 h0 hq9) kk
theorem w_iand {a b : Int} (hd : decode M.2.1 pc = .ok (.iand, 1)) (kk : Wp G M (pc + 1) ls ((0, am_iand a b) :: st) μ Q) : Wp G M pc ls ((0, b) :: (0, a) :: st) μ Q := Wp.lift (fun _ _ hq9 => e_iand hd hq9) kk
theorem w_ior {a b : Int} (hd : decode M.2.1 pc = .ok (.ior, 1)) (kk : Wp G M (pc + 1) ls ((0, am_ior a b) :: st) μ Q) : Wp G M pc ls ((0, b) :: (0, a) :: st) μ Q := Wp.lift (fun _ _ hq9 => e_ior hd hq9) kk
theorem w_ishl {a b : Int} (hd : decode M.2.1 pc = .ok (.ishl, 1)) (kk : Wp G M (pc + 1) ls ((0, am_ishl a b) :: st) μ Q) : Wp G M pc ls ((0, b) :: (0, a) :: st) μ Q := Wp.lift (fun _ _ hq9 => e_ishl hd hq9) kk
theorem w_ishr {a b : Int} (hd : decode M.2.1 pc = .ok (.ishr, 1)) (kk : Wp G M (pc + 1) ls ((0, am_ishr a b) :: st) μ Q) : Wp G M pc ls ((0, b) :: (0, a) :: st) μ Q := Wp.lift (fun _ _ hq9 => e_ishr hd hq9) kk
theorem w_land {a b : Int} (hd : decode M.2.1 pc = .ok (.land, 1)) (kk : Wp G M (pc + 1) ls ((1, am_land a b) :: st) μ Q) : Wp G M pc ls ((1, b) :: (1, a) :: st) μ Q := Wp.lift (fun _ _ hq9 => e_land hd hq9) kk
theorem w_lshl {a b : Int} (hd : decode M.2.1 pc = .ok (.lshl, 1)) (kk : Wp G M (pc + 1) ls ((1, am_lshl a b) :: st) μ Q) : Wp G M pc ls ((0, b) :: (1, a) :: st) μ Q := Wp.lift (fun _ _ hq9 => e_lshl hd hq9) kk
theorem w_lshr {a b : Int} (hd : decode M.2.1 pc = .ok (.lshr, 1)) (kk : Wp G M (pc + 1) ls ((1, am_lshr a b) :: st) μ Q) : Wp G M pc ls ((0, b) :: (1, a) :: st) μ Q := Wp.lift (fun _ _ hq9 => e_lshr hd hq9) kk
theorem w_i2l {a : Int} (hd : decode M.2.1 pc = .ok (.i2l, 1)) (ha : R32 a) (kk : Wp G M (pc + 1) ls ((1, a) :: st) μ Q) : Wp G M pc ls ((0, a) :: st) μ Q := Wp.lift (fun _ _ hq9 => e_i2l hd ha hq9) kk
theorem w_l2i {a : Int} (hd : decode M.2.1 pc = .ok (.l2i, 1)) (kk : Wp G M (pc + 1) ls ((0, a) :: st) μ Q) : Wp G M pc ls ((1, a) :: st) μ Q := Wp.lift (fun _ _ hq9 => e_l2i hd hq9) kk
theorem w_i2b {a : Int} (hd : decode M.2.1 pc = .ok (.i2b, 1)) (kk : Wp G M (pc + 1) ls ((0, am_i2b a) :: st) μ Q) : Wp G M pc ls ((0, a) :: st) μ Q := Wp.lift (fun _ _ hq9 => e_i2b hd hq9) kk
theorem w_lcmp {a b : Int} (hd : decode M.2.1 pc = .ok (.lcmp, 1)) (ha : R64 a) (hb0 : R64 b) (kk : Wp G M (pc + 1) ls ((0, am_cmp a b) :: st) μ Q) : Wp G M pc ls ((1, b) :: (1, a) :: st) μ Q := Wp.lift (fun _ _ hq9 => e_lcmp hd ha hb0 hq9) kk
theorem w_dup {v : AV} (hd : decode M.2.1 pc = .ok (.dup, 1)) (hv : v.1 ≠ 1) (kk : Wp G M (pc + 1) ls (v :: v :: st) μ Q) : Wp G M pc ls (v :: st) μ Q := Wp.lift (fun _ _ hq9 => e_dup hd hv hq9) kk
theorem w_pop {v : AV} (hd : decode M.2.1 pc = .ok (.pop, 1)) (hv : v.1 ≠ 1) (kk : Wp G M (pc + 1) ls (st) μ Q) : Wp G M pc ls (v :: st) μ Q := Wp.lift (fun _ _ hq9 => e_pop hd hv hq9) kk
theorem w_goto {off : Int} {tgt : Nat} (hd : decode M.2.1 pc = .ok (.goto off, 3)) (ht : (pc : Int) + off = (tgt : Int)) (kk : Wp G M tgt ls st μ Q) : Wp G M pc ls st μ Q := Wp.lift (fun _ _ hq9 => e_goto hd ht hq9) kk
theorem w_icmp_eq {a b off : Int} {tgt : Nat} (hd : decode M.2.1 pc = .ok (.if_icmp .eq off, 3)) (ht : (pc : Int) + off = (tgt : Int)) (ha : R32 a) (hb0 : R32 b) (kt : a = b → Wp G M tgt ls st μ Q) (kf : ¬ a = b → Wp G M (pc + 3) ls st μ Q) : Wp G M pc ls ((0, b) :: (0, a) :: st) μ Q := by
  by_cases hc : a = b
  · obtain ⟨r, μ', h1, h2⟩ := kt hc
    exact ⟨r, μ', e_icmp_eq hd ht ha hb0 (fun _ => h1) (fun n => absurd hc (by omega)), h2⟩
  · obtain ⟨r, μ', h1, h2⟩ := kf (by omega)
    exact ⟨r, μ', e_icmp_eq hd ht ha hb0 (fun n => absurd n hc) (fun _ => h1), h2⟩
theorem w_if_eq {a off : Int} {tgt : Nat} (hd : decode M.2.1 pc = .ok (.ifCond .eq off, 3)) (ht : (pc : Int) + off = (tgt : Int)) (ha : R32 a) (kt : a = 0 → Wp G M tgt ls st μ Q) (kf : ¬ a = 0 → Wp G M (pc + 3) ls st μ Q) : Wp G M pc ls ((0, a) :: st) μ Q := by
  by_cases hc : a = 0
  · obtain ⟨r, μ', h1, h2⟩ := kt hc
    exact ⟨r, μ', e_if_eq hd ht ha (fun _ => h1) (fun n => absurd hc (by omega)), h2⟩
  · obtain ⟨r, μ', h1, h2⟩ := kf (by omega)
    exact ⟨r, μ', e_if_eq hd ht ha (fun n => absurd n hc) (fun _ => h1), h2⟩
theorem w_icmp_ne {a b off : Int} {tgt : Nat} (hd : decode M.2.1 pc = .ok (.if_icmp .ne off, 3)) (ht : (pc : Int) + off = (tgt : Int)) (ha : R32 a) (hb0 : R32 b) (kt : ¬ a = b → Wp G M tgt ls st μ Q) (kf : a = b → Wp G M (pc + 3) ls st μ Q) : Wp G M pc ls ((0, b) :: (0, a) :: st) μ Q := by
  by_cases hc : ¬ a = b
  · obtain ⟨r, μ', h1, h2⟩ := kt hc
    exact ⟨r, μ', e_icmp_ne hd ht ha hb0 (fun _ => h1) (fun n => absurd hc (by omega)), h2⟩
  · obtain ⟨r, μ', h1, h2⟩ := kf (by omega)
    exact ⟨r, μ', e_icmp_ne hd ht ha hb0 (fun n => absurd n hc) (fun _ => h1), h2⟩
theorem w_if_ne {a off : Int} {tgt : Nat} (hd : decode M.2.1 pc = .ok (.ifCond .ne off, 3)) (ht : (pc : Int) + off = (tgt : Int)) (ha : R32 a) (kt : ¬ a = 0 → Wp G M tgt ls st μ Q) (kf : a = 0 → Wp G M (pc + 3) ls st μ Q) : Wp G M pc ls ((0, a) :: st) μ Q := by
  by_cases hc : ¬ a = 0
  · obtain ⟨r, μ', h1, h2⟩ := kt hc
    exact ⟨r, μ', e_if_ne hd ht ha (fun _ => h1) (fun n => absurd hc (by omega)), h2⟩
  · obtain ⟨r, μ', h1, h2⟩ := kf (by omega)
    exact ⟨r, μ', e_if_ne hd ht ha (fun n => absurd n hc) (fun _ => h1), h2⟩
theorem w_icmp_lt {a b off : Int} {tgt : Nat} (hd : decode M.2.1 pc = .ok (.if_icmp .lt off, 3)) (ht : (pc : Int) + off = (tgt : Int)) (ha : R32 a) (hb0 : R32 b) (kt : a < b → Wp G M tgt ls st μ Q) (kf : b ≤ a → Wp G M (pc + 3) ls st μ Q) : Wp G M pc ls ((0, b) :: (0, a) :: st) μ Q := by
  by_cases hc : a < b
  · obtain ⟨r, μ', h1, h2⟩ := kt hc
    exact ⟨r, μ', e_icmp_lt hd ht ha hb0 (fun _ => h1) (fun n => absurd hc (by omega)), h2⟩
  · obtain ⟨r, μ', h1, h2⟩ := kf (by omega)
    exact ⟨r, μ', e_icmp_lt hd ht ha hb0 (fun n => absurd n hc) (fun _ => h1), h2⟩
theorem w_if_lt {a off : Int} {tgt : Nat} (hd : decode M.2.1 pc = .ok (.ifCond .lt off, 3)) (ht : (pc : Int) + off = (tgt : Int)) (ha : R32 a) (kt : a < 0 → Wp G M tgt ls st μ Q) (kf : 0 ≤ a → Wp G M (pc + 3) ls st μ Q) : Wp G M pc ls ((0, a) :: st) μ Q := by
  by_cases hc : a < 0
  · obtain ⟨r, μ', h1, h2⟩ := kt hc
    exact ⟨r, μ', e_if_lt hd ht ha (fun _ => h1) (fun n => absurd hc (by omega)), h2⟩
  · obtain ⟨r, μ', h1, h2⟩ := kf (by omega)
    exact ⟨r, μ', e_if_lt hd ht ha (fun n => absurd n hc) (fun _ => h1), h2⟩
theorem w_icmp_ge {a b off : Int} {tgt : Nat} (hd : decode M.2.1 pc = .ok (.if_icmp .ge off, 3)) (ht : (pc : Int) + off = (tgt : Int)) (ha : R32 a) (hb0 : R32 b) (kt : b ≤ a → Wp G M tgt ls st μ Q) (kf : a < b → Wp G M (pc + 3) ls st μ Q) : Wp G M pc ls ((0, b) :: (0, a) :: st) μ Q := by
  by_cases hc : b ≤ a
  · obtain ⟨r, μ', h1, h2⟩ := kt hc
    exact ⟨r, μ', e_icmp_ge hd ht ha hb0 (fun _ => h1) (fun n => absurd hc (by omega)), h2⟩
  · obtain ⟨r, μ', h1, h2⟩ := kf (by omega)
    exact ⟨r, μ', e_icmp_ge hd ht ha hb0 (fun n => absurd n hc) (fun _ => h1), h2⟩
theorem w_if_ge {a off : Int} {tgt : Nat} (hd : decode M.2.1 pc = .ok (.ifCond .ge off, 3)) (ht : (pc : Int) + off = (tgt : Int)) (ha : R32 a) (kt : 0 ≤ a → Wp G M tgt ls st μ Q) (kf : a < 0 → Wp G M (pc + 3) ls st μ Q) : Wp G M pc ls ((0, a) :: st) μ Q := by
  by_cases hc : 0 ≤ a
  · obtain ⟨r, μ', h1, h2⟩ := kt hc
    exact ⟨r, μ', e_if_ge hd ht ha (fun _ => h1) (fun n => absurd hc (by omega)), h2⟩
  · obtain ⟨r, μ', h1, h2⟩ := kf (by omega)
    exact ⟨r, μ', e_if_ge hd ht ha (fun n => absurd n hc) (fun _ => h1), h2⟩
theorem w_icmp_gt {a b off : Int} {tgt : Nat} (hd : decode M.2.1 pc = .ok (.if_icmp .gt off, 3)) (ht : (pc : Int) + off = (tgt : Int)) (ha : R32 a) (hb0 : R32 b) (kt : b < a → Wp G M tgt ls st μ Q) (kf : a ≤ b → Wp G M (pc + 3) ls st μ Q) : Wp G M pc ls ((0, b) :: (0, a) :: st) μ Q := by
  by_cases hc : b < a
  · obtain ⟨r, μ', h1, h2⟩ := kt hc
    exact ⟨r, μ', e_icmp_gt hd ht ha hb0 (fun _ => h1) (fun n => absurd hc (by omega)), h2⟩
  · obtain ⟨r, μ', h1, h2⟩ := kf (by omega)
    exact ⟨r, μ', e_icmp_gt hd ht ha hb0 (fun n => absurd n hc) (fun _ => h1), h2⟩
theorem w_if_gt {a off : Int} {tgt : Nat} (hd : decode M.2.1 pc = .ok (.ifCond .gt off, 3)) (ht : (pc : Int) + off = (tgt : Int)) (ha : R32 a) (kt : 0 < a → Wp G M tgt ls st μ Q) (kf : a ≤ 0 → Wp G M (pc + 3) ls st μ Q) : Wp G M pc ls ((0, a) :: st) μ Q := by
  by_cases hc : 0 < a
  · obtain ⟨r, μ', h1, h2⟩ := kt hc
    exact ⟨r, μ', e_if_gt hd ht ha (fun _ => h1) (fun n => absurd hc (by omega)), h2⟩
  · obtain ⟨r, μ', h1, h2⟩ := kf (by omega)
    exact ⟨r, μ', e_if_gt hd ht ha (fun n => absurd n hc) (fun _ => h1), h2⟩
theorem w_icmp_le {a b off : Int} {tgt : Nat} (hd : decode M.2.1 pc = .ok (.if_icmp .le off, 3)) (ht : (pc : Int) + off = (tgt : Int)) (ha : R32 a) (hb0 : R32 b) (kt : a ≤ b → Wp G M tgt ls st μ Q) (kf : b < a → Wp G M (pc + 3) ls st μ Q) : Wp G M pc ls ((0, b) :: (0, a) :: st) μ Q := by
  by_cases hc : a ≤ b
  · obtain ⟨r, μ', h1, h2⟩ := kt hc
    exact ⟨r, μ', e_icmp_le hd ht ha hb0 (fun _ => h1) (fun n => absurd hc (by omega)), h2⟩
  · obtain ⟨r, μ', h1, h2⟩ := kf (by omega)
    exact ⟨r, μ', e_icmp_le hd ht ha hb0 (fun n => absurd n hc) (fun _ => h1), h2⟩
theorem w_if_le {a off : Int} {tgt : Nat} (hd : decode M.2.1 pc = .ok (.ifCond .le off, 3)) (ht : (pc : Int) + off = (tgt : Int)) (ha : R32 a) (kt : a ≤ 0 → Wp G M tgt ls st μ Q) (kf : 0 < a → Wp G M (pc + 3) ls st μ Q) : Wp G M pc ls ((0, a) :: st) μ Q := by
  by_cases hc : a ≤ 0
  · obtain ⟨r, μ', h1, h2⟩ := kt hc
    exact ⟨r, μ', e_if_le hd ht ha (fun _ => h1) (fun n => absurd hc (by omega)), h2⟩
  · obtain ⟨r, μ', h1, h2⟩ := kf (by omega)
    exact ⟨r, μ', e_if_le hd ht ha (fun n => absurd n hc) (fun _ => h1), h2⟩
theorem w_tableOut {a dflt lo hi : Int} {offs : Array Int} {len tgt : Nat} (hd : decode M.2.1 pc = .ok (.tableswitch dflt lo hi offs, len)) (ha : R32 a) (h : a < lo ∨ hi < a) (ht : (pc : Int) + dflt = (tgt : Int)) (kk : Wp G M tgt ls st μ Q) : Wp G M pc ls ((0, a) :: st) μ Q := Wp.lift (fun _ _ hq9 => e_tableOut hd ha h ht hq9) kk
theorem w_tableIn {a dflt lo hi off : Int} {offs : Array Int} {len tgt : Nat} (hd : decode M.2.1 pc = .ok (.tableswitch dflt lo hi offs, len)) (ha : R32 a) (h1 : ¬ a < lo) (h2 : ¬ hi < a) (ho : offs[(a - lo).toNat]? = some off) (ht : (pc : Int) + off = (tgt : Int)) (kk : Wp G M tgt ls st μ Q) : Wp G M pc ls ((0, a) :: st) μ Q := Wp.lift (fun _ _ hq9 => e_tableIn hd ha h1 h2 ho ht hq9) kk
theorem w_lookup {a dflt off : Int} {ps : Array (Int × Int)} {len tgt : Nat} (hd : decode M.2.1 pc = .ok (.lookupswitch dflt ps, len)) (hp : (ps.toList.zip (ps.toList.drop 1)).all (fun (a, next) => a.1 < next.1) = true) (ha : R32 a) (ho : Op.lookupswitch.offset ps.toList dflt a = off) (ht : (pc : Int) + off = (tgt : Int)) (kk : Wp G M tgt ls st μ Q) : Wp G M pc ls ((0, a) :: st) μ Q := Wp.lift (fun _ _ hq9 => e_lookup hd hp ha ho ht hq9) kk
theorem w_getI {ci k o : Nat} {z f : Int} (hf : am_Fg M pc ci k) (ho : z = (o : Int)) (hs : (gS G)[o]? = some (ci, am_N ci)) (ht : am_ct ci k < 2) (hk : f = (k : Int)) (kk : Wp G M (pc + 3) ls ((0, μ z f) :: st) μ Q) : Wp G M pc ls ((2, z) :: st) μ Q := Wp.lift (fun _ _ hq9 => e_getI hf ho hs ht hk hq9) kk
theorem w_getR {ci k o : Nat} {z x : Int} (hf : am_Fg M pc ci k) (ho : z = (o : Int)) (hs : (gS G)[o]? = some (ci, am_N ci)) (ht : am_ct ci k = 2) (hx : gR G o k = x) (kk : Wp G M (pc + 3) ls ((2, x) :: st) μ Q) : Wp G M pc ls ((2, z) :: st) μ Q := Wp.lift (fun _ _ hq9 => e_getR hf ho hs ht hx hq9) kk
theorem w_getD {ci k o : Nat} {z f : Int} (hf : am_Fg M pc ci k) (ho : z = (o : Int)) (hs : (gS G)[o]? = some (ci, am_N ci)) (ht : am_ct ci k = 3) (hk : f = (k : Int)) (kk : Wp G M (pc + 3) ls ((2, μ z f) :: st) μ Q) : Wp G M pc ls ((2, z) :: st) μ Q := Wp.lift (fun _ _ hq9 => e_getD hf ho hs ht hk hq9) kk
theorem w_putI {ci k o : Nat} {z f v : Int} (hf : am_Fp M pc ci k) (ho : z = (o : Int)) (hs : (gS G)[o]? = some (ci, am_N ci)) (ht : am_ct ci k = 0) (hty : am_cty ci k = .int) (hk : f = (k : Int)) (kk : Wp G M (pc + 3) ls st (am_up μ z f v) Q) : Wp G M pc ls ((0, v) :: (2, z) :: st) μ Q := Wp.lift (fun _ _ hq9 => e_putI hf ho hs ht hty hk hq9) kk
theorem w_putZ {ci k o : Nat} {z f v : Int} (hf : am_Fp M pc ci k) (ho : z = (o : Int)) (hs : (gS G)[o]? = some (ci, am_N ci)) (ht : am_ct ci k = 1) (hty : am_cty ci k = .boolean) (hk : f = (k : Int)) (hv : v = 0 ∨ v = 1) (kk : Wp G M (pc + 3) ls st (am_up μ z f v) Q) : Wp G M pc ls ((0, v) :: (2, z) :: st) μ Q := Wp.lift (fun _ _ hq9 => e_putZ hf ho hs ht hty hk hv hq9) kk
theorem w_putD {ci k o : Nat} {z f v : Int} {C : String} (hf : am_Fp M pc ci k) (ho : z = (o : Int)) (hs : (gS G)[o]? = some (ci, am_N ci)) (ht : am_ct ci k = 3) (hty : am_cty ci k = .object C) (hk : f = (k : Int)) (hv : 0 ≤ v) (kk : Wp G M (pc + 3) ls st (am_up μ z f v) Q) : Wp G M pc ls ((2, v) :: (2, z) :: st) μ Q := Wp.lift (fun _ _ hq9 => e_putD hf ho hs ht hty hk hv hq9) kk
theorem w_iald {o n : Nat} {z i : Int} (hd : decode M.2.1 pc = .ok (.iaload, 1)) (ho : z = (o : Int)) (hs : (gS G)[o]? = some (20, n)) (hn : n < 2147483648) (h0 : 0 ≤ i) (h1 : i < n) (kk : Wp G M (pc + 1) ls ((0, μ z i) :: st) μ Q) : Wp G M pc ls ((0, i) :: (2, z) :: st) μ Q := Wp.lift (fun _ _ hq9 => e_iald hd ho hs hn h0 h1 hq9) kk
theorem w_zald {o n : Nat} {z i : Int} (hd : decode M.2.1 pc = .ok (.baload, 1)) (ho : z = (o : Int)) (hs : (gS G)[o]? = some (21, n)) (hn : n < 2147483648) (h0 : 0 ≤ i) (h1 : i < n) (kk : Wp G M (pc + 1) ls ((0, μ z i) :: st) μ Q) : Wp G M pc ls ((0, i) :: (2, z) :: st) μ Q := Wp.lift (fun _ _ hq9 => e_zald hd ho hs hn h0 h1 hq9) kk
theorem w_bald {o n : Nat} {z i : Int} (hd : decode M.2.1 pc = .ok (.baload, 1)) (ho : z = (o : Int)) (hs : (gS G)[o]? = some (22, n)) (hn : n < 2147483648) (h0 : 0 ≤ i) (h1 : i < n) (kk : Wp G M (pc + 1) ls ((0, μ z i) :: st) μ Q) : Wp G M pc ls ((0, i) :: (2, z) :: st) μ Q := Wp.lift (fun _ _ hq9 => e_bald hd ho hs hn h0 h1 hq9) kk
theorem w_lald {o n : Nat} {z i : Int} (hd : decode M.2.1 pc = .ok (.laload, 1)) (ho : z = (o : Int)) (hs : (gS G)[o]? = some (23, n)) (hn : n < 2147483648) (h0 : 0 ≤ i) (h1 : i < n) (kk : Wp G M (pc + 1) ls ((1, μ z i) :: st) μ Q) : Wp G M pc ls ((0, i) :: (2, z) :: st) μ Q := Wp.lift (fun _ _ hq9 => e_lald hd ho hs hn h0 h1 hq9) kk
theorem w_iast {o n : Nat} {z i v : Int} (hd : decode M.2.1 pc = .ok (.iastore, 1)) (ho : z = (o : Int)) (hs : (gS G)[o]? = some (20, n)) (hn : n < 2147483648) (h0 : 0 ≤ i) (h1 : i < n) (kk : Wp G M (pc + 1) ls st (am_up μ z i v) Q) : Wp G M pc ls ((0, v) :: (0, i) :: (2, z) :: st) μ Q := Wp.lift (fun _ _ hq9 => e_iast hd ho hs hn h0 h1 hq9) kk
theorem w_last {o n : Nat} {z i v : Int} (hd : decode M.2.1 pc = .ok (.lastore, 1)) (ho : z = (o : Int)) (hs : (gS G)[o]? = some (23, n)) (hn : n < 2147483648) (h0 : 0 ≤ i) (h1 : i < n) (kk : Wp G M (pc + 1) ls st (am_up μ z i v) Q) : Wp G M pc ls ((1, v) :: (0, i) :: (2, z) :: st) μ Q := Wp.lift (fun _ _ hq9 => e_last hd ho hs hn h0 h1 hq9) kk
theorem w_zast {o n : Nat} {z i v : Int} (hd : decode M.2.1 pc = .ok (.bastore, 1)) (ho : z = (o : Int)) (hs : (gS G)[o]? = some (21, n)) (hn : n < 2147483648) (h0 : 0 ≤ i) (h1 : i < n) (hv : v = 0 ∨ v = 1) (kk : Wp G M (pc + 1) ls st (am_up μ z i v) Q) : Wp G M pc ls ((0, v) :: (0, i) :: (2, z) :: st) μ Q := Wp.lift (fun _ _ hq9 => e_zast hd ho hs hn h0 h1 hv hq9) kk
theorem w_bast {o n : Nat} {z i v : Int} (hd : decode M.2.1 pc = .ok (.bastore, 1)) (ho : z = (o : Int)) (hs : (gS G)[o]? = some (22, n)) (hn : n < 2147483648) (h0 : 0 ≤ i) (h1 : i < n) (kk : Wp G M (pc + 1) ls st (am_up μ z i (am_i2b v)) Q) : Wp G M pc ls ((0, v) :: (0, i) :: (2, z) :: st) μ Q := Wp.lift (fun _ _ hq9 => e_bast hd ho hs hn h0 h1 hq9) kk
theorem w_alen {o n t : Nat} {z f : Int} (hd : decode M.2.1 pc = .ok (.arraylength, 1)) (ho : z = (o : Int)) (hs : (gS G)[o]? = some (t + 20, n)) (ht : t < 3) (hf : f = (n : Int)) (kk : Wp G M (pc + 1) ls ((0, f) :: st) μ Q) : Wp G M pc ls ((2, z) :: st) μ Q := Wp.lift (fun _ _ hq9 => e_alen hd ho hs ht hf hq9) kk
theorem w_alenL {o n : Nat} {z f : Int} (hd : decode M.2.1 pc = .ok (.arraylength, 1)) (ho : z = (o : Int)) (hs : (gS G)[o]? = some (23, n)) (hf : f = (n : Int)) (kk : Wp G M (pc + 1) ls ((0, f) :: st) μ Q) : Wp G M pc ls ((2, z) :: st) μ Q := Wp.lift (fun _ _ hq9 => e_alenL hd ho hs hf hq9) kk
theorem w_max {a b : Int} (hf : am_Cm M pc Lib.Math.max.name Lib.Math.max.code 2 .int) (ha : R32 a) (hb : R32 b) (hcat : am_cs st ≤ 8) (kk : Wp G M (pc + 3) ls ((0, max a b) :: st) μ Q) : Wp G M pc ls ((0, b) :: (0, a) :: st) μ Q := Wp.lift (fun _ _ hq9 => e_max hf ha hb hcat hq9) kk
theorem w_min {a b : Int} (hf : am_Cm M pc Lib.Math.min.name Lib.Math.min.code 2 .int) (ha : R32 a) (hb : R32 b) (hcat : am_cs st ≤ 8) (kk : Wp G M (pc + 3) ls ((0, min a b) :: st) μ Q) : Wp G M pc ls ((0, b) :: (0, a) :: st) μ Q := Wp.lift (fun _ _ hq9 => e_min hf ha hb hcat hq9) kk
theorem w_abs {a : Int} (hf : am_Cm M pc Lib.Math.abs.name Lib.Math.abs.code 1 .int) (ha : R32 a) (hcat : am_cs st ≤ 8) (kk : Wp G M (pc + 3) ls ((0, if 0 ≤ a then a else -a) :: st) μ Q) : Wp G M pc ls ((0, a) :: st) μ Q := Wp.lift (fun _ _ hq9 => e_abs hf ha hcat hq9) kk
theorem w_minL {a b : Int} (hf : am_Cm M pc Lib.MathLoose.min_long.x Lib.MathLoose.min_long.code 4 .long) (ha : R64 a) (hb : R64 b) (hcat : am_cs st ≤ 8) (kk : Wp G M (pc + 3) ls ((1, min a b) :: st) μ Q) : Wp G M pc ls ((1, b) :: (1, a) :: st) μ Q := Wp.lift (fun _ _ hq9 => e_minL hf ha hb hcat hq9) kk
theorem w_getIx {ci k o : Nat} {z f x : Int} (hf : am_Fg M pc ci k) (ho : z = (o : Int)) (hs : (gS G)[o]? = some (ci, am_N ci)) (ht : am_ct ci k < 2) (hk : f = (k : Int)) (hx : μ z f = x) (kk : Wp G M (pc + 3) ls ((0, x) :: st) μ Q) : Wp G M pc ls ((2, z) :: st) μ Q := Wp.lift (fun _ _ hq9 => e_getIx hf ho hs ht hk hx hq9) kk
theorem w_getDx {ci k o : Nat} {z f x : Int} (hf : am_Fg M pc ci k) (ho : z = (o : Int)) (hs : (gS G)[o]? = some (ci, am_N ci)) (ht : am_ct ci k = 3) (hk : f = (k : Int)) (hx : μ z f = x) (kk : Wp G M (pc + 3) ls ((2, x) :: st) μ Q) : Wp G M pc ls ((2, z) :: st) μ Q := Wp.lift (fun _ _ hq9 => e_getDx hf ho hs ht hk hx hq9) kk
theorem w_ialdx {o n : Nat} {z i x : Int} (hd : decode M.2.1 pc = .ok (.iaload, 1)) (ho : z = (o : Int)) (hs : (gS G)[o]? = some (20, n)) (hn : n < 2147483648) (h0 : 0 ≤ i ∧ i < n) (hx : μ z i = x) (kk : Wp G M (pc + 1) ls ((0, x) :: st) μ Q) : Wp G M pc ls ((0, i) :: (2, z) :: st) μ Q := Wp.lift (fun _ _ hq9 => e_ialdx hd ho hs hn h0 hx hq9) kk
theorem w_zaldx {o n : Nat} {z i x : Int} (hd : decode M.2.1 pc = .ok (.baload, 1)) (ho : z = (o : Int)) (hs : (gS G)[o]? = some (21, n)) (hn : n < 2147483648) (h0 : 0 ≤ i ∧ i < n) (hx : μ z i = x) (kk : Wp G M (pc + 1) ls ((0, x) :: st) μ Q) : Wp G M pc ls ((0, i) :: (2, z) :: st) μ Q := Wp.lift (fun _ _ hq9 => e_zaldx hd ho hs hn h0 hx hq9) kk
theorem w_baldx {o n : Nat} {z i x : Int} (hd : decode M.2.1 pc = .ok (.baload, 1)) (ho : z = (o : Int)) (hs : (gS G)[o]? = some (22, n)) (hn : n < 2147483648) (h0 : 0 ≤ i ∧ i < n) (hx : μ z i = x) (kk : Wp G M (pc + 1) ls ((0, x) :: st) μ Q) : Wp G M pc ls ((0, i) :: (2, z) :: st) μ Q := Wp.lift (fun _ _ hq9 => e_baldx hd ho hs hn h0 hx hq9) kk
theorem w_laldx {o n : Nat} {z i x : Int} (hd : decode M.2.1 pc = .ok (.laload, 1)) (ho : z = (o : Int)) (hs : (gS G)[o]? = some (23, n)) (hn : n < 2147483648) (h0 : 0 ≤ i ∧ i < n) (hx : μ z i = x) (kk : Wp G M (pc + 1) ls ((1, x) :: st) μ Q) : Wp G M pc ls ((0, i) :: (2, z) :: st) μ Q := Wp.lift (fun _ _ hq9 => e_laldx hd ho hs hn h0 hx hq9) kk
theorem w_idivP {a b : Int} (hd : decode M.2.1 pc = .ok (.idiv, 1)) (h : (0 ≤ a ∧ a ≤ 2147483647) ∧ (0 < b ∧ b ≤ 2147483647)) (kk : Wp G M (pc + 1) ls ((0, a / b) :: st) μ Q) : Wp G M pc ls ((0, b) :: (0, a) :: st) μ Q := Wp.lift (fun _ _ hq9 => e_idivP hd h hq9) kk
theorem w_iremP {a b : Int} (hd : decode M.2.1 pc = .ok (.irem, 1)) (h : (0 ≤ a ∧ a ≤ 2147483647) ∧ (0 < b ∧ b ≤ 2147483647)) (kk : Wp G M (pc + 1) ls ((0, a % b) :: st) μ Q) : Wp G M pc ls ((0, b) :: (0, a) :: st) μ Q := Wp.lift (fun _ _ hq9 => e_iremP hd h hq9) kk
theorem w_ixor {a b : Int} (hd : decode M.2.1 pc = .ok (.ixor, 1)) (kk : Wp G M (pc + 1) ls ((0, am_ixor a b) :: st) μ Q) : Wp G M pc ls ((0, b) :: (0, a) :: st) μ Q := Wp.lift (fun _ _ hq9 => e_ixor hd hq9) kk
theorem w_slen (hd : decode M.2.1 pc = .ok (.arraylength, 1)) (kk : Wp G M (pc + 1) ls ((0, (gK G 14 : Int)) :: st) μ Q) : Wp G M pc ls ((3, 13) :: st) μ Q := Wp.lift (fun _ _ hq9 => e_slen hd hq9) kk
theorem w_sld {i : Int} (hd : decode M.2.1 pc = .ok (.iaload, 1)) (hi : 0 ≤ i ∧ i < (gK G 14 : Int)) (kk : Wp G M (pc + 1) ls ((0, sx G i) :: st) μ Q) : Wp G M pc ls ((0, i) :: (3, 13) :: st) μ Q := Wp.lift (fun _ _ hq9 => e_sld hd hi hq9) kk
theorem w_callSP {t : Nat} {x : Int} (hf : am_Cs M pc M2 n) (hst : st = as.reverse ++ rest) (hn : as.length = n) (hls : ls2 = am_args as ++ List.replicate k (9, 0)) (hl2 : ls2.length = M2.2.2.1) (ht : am_tok as = true) (hcat : am_cs rest ≤ 8) (hcall : Wp G M2 0 ls2 [] μ (pP t x μ)) (kk : Wp G M (pc + 3) ls ((t, x) :: rest) μ Q) : Wp G M pc ls st μ Q := by
  obtain ⟨r1, μ1, h1, rfl, rfl⟩ := hcall
  exact Wp.lift (fun _ _ h => e_callS hf hst hn hls hl2 ht hcat h1 h) kk
theorem w_callSI {t : Nat} {P : Int → Mu → Prop} (hf : am_Cs M pc M2 n) (hst : st = as.reverse ++ rest) (hn : as.length = n) (hls : ls2 = am_args as ++ List.replicate k (9, 0)) (hl2 : ls2.length = M2.2.2.1) (ht : am_tok as = true) (hcat : am_cs rest ≤ 8) (hcall : Wp G M2 0 ls2 [] μ (qI t P)) (kk : ∀ x μ1, P x μ1 → Wp G M (pc + 3) ls ((t, x) :: rest) μ1 Q) : Wp G M pc ls st μ Q := by
  obtain ⟨r1, μ1, h1, x, rfl, h2⟩ := hcall
  exact Wp.lift (fun _ _ h => e_callS hf hst hn hls hl2 ht hcat h1 h) (kk x μ1 h2)
theorem w_callSV {P : Mu → Prop} (hf : am_Cs M pc M2 n) (hst : st = as.reverse ++ rest) (hn : as.length = n) (hls : ls2 = am_args as ++ List.replicate k (9, 0)) (hl2 : ls2.length = M2.2.2.1) (ht : am_tok as = true) (hcat : am_cs rest ≤ 8) (hcall : Wp G M2 0 ls2 [] μ (qV P)) (kk : ∀ μ1, P μ1 → Wp G M (pc + 3) ls rest μ1 Q) : Wp G M pc ls st μ Q := by
  obtain ⟨r1, μ1, h1, rfl, h2⟩ := hcall
  exact Wp.lift (fun _ _ h => e_callS hf hst hn hls hl2 ht hcat h1 h) (kk μ1 h2)
theorem w_callVP {t : Nat} {x : Int} {o ci : Nat} {z : Int} (hf : am_Cv M pc M2 n) (hst : st = as.reverse ++ (2, z) :: rest) (ho : z = (o : Int)) (hs : (gS G)[o]? = some (ci, am_N ci)) (hc : (vwCl[ci]?).map (fun q => q.1) = some M2.1.cls) (hn : as.length = n) (hls : ls2 = am_args ((2, z) :: as) ++ List.replicate k (9, 0)) (hl2 : ls2.length = M2.2.2.1) (ht : am_tok as = true) (hcat : am_cs rest ≤ 8) (hcall : Wp G M2 0 ls2 [] μ (pP t x μ)) (kk : Wp G M (pc + 3) ls ((t, x) :: rest) μ Q) : Wp G M pc ls st μ Q := by
  obtain ⟨r1, μ1, h1, rfl, rfl⟩ := hcall
  exact Wp.lift (fun _ _ h => e_callV hf hst ho hs hc hn hls hl2 ht hcat h1 h) kk
theorem w_callVI {t : Nat} {P : Int → Mu → Prop} {o ci : Nat} {z : Int} (hf : am_Cv M pc M2 n) (hst : st = as.reverse ++ (2, z) :: rest) (ho : z = (o : Int)) (hs : (gS G)[o]? = some (ci, am_N ci)) (hc : (vwCl[ci]?).map (fun q => q.1) = some M2.1.cls) (hn : as.length = n) (hls : ls2 = am_args ((2, z) :: as) ++ List.replicate k (9, 0)) (hl2 : ls2.length = M2.2.2.1) (ht : am_tok as = true) (hcat : am_cs rest ≤ 8) (hcall : Wp G M2 0 ls2 [] μ (qI t P)) (kk : ∀ x μ1, P x μ1 → Wp G M (pc + 3) ls ((t, x) :: rest) μ1 Q) : Wp G M pc ls st μ Q := by
  obtain ⟨r1, μ1, h1, x, rfl, h2⟩ := hcall
  exact Wp.lift (fun _ _ h => e_callV hf hst ho hs hc hn hls hl2 ht hcat h1 h) (kk x μ1 h2)
theorem w_callVV {P : Mu → Prop} {o ci : Nat} {z : Int} (hf : am_Cv M pc M2 n) (hst : st = as.reverse ++ (2, z) :: rest) (ho : z = (o : Int)) (hs : (gS G)[o]? = some (ci, am_N ci)) (hc : (vwCl[ci]?).map (fun q => q.1) = some M2.1.cls) (hn : as.length = n) (hls : ls2 = am_args ((2, z) :: as) ++ List.replicate k (9, 0)) (hl2 : ls2.length = M2.2.2.1) (ht : am_tok as = true) (hcat : am_cs rest ≤ 8) (hcall : Wp G M2 0 ls2 [] μ (qV P)) (kk : ∀ μ1, P μ1 → Wp G M (pc + 3) ls rest μ1 Q) : Wp G M pc ls st μ Q := by
  obtain ⟨r1, μ1, h1, rfl, h2⟩ := hcall
  exact Wp.lift (fun _ _ h => e_callV hf hst ho hs hc hn hls hl2 ht hcat h1 h) (kk μ1 h2)
theorem w_iretP {a x : Int} (hd : decode M.2.1 pc = .ok (.ireturn, 1)) (hr : M.2.2.2.1 = some .int) (h : a = x) : Wp G M pc ls [(0, a)] μ (pP 0 x μ) := by subst h; exact ⟨_, _, e_ireturn hd hr, rfl, rfl⟩
theorem w_zretP {a x : Int} (hd : decode M.2.1 pc = .ok (.ireturn, 1)) (hr : M.2.2.2.1 = some .boolean) (ha : a = 0 ∨ a = 1) (h : a = x) : Wp G M pc ls [(0, a)] μ (pP 0 x μ) := by subst h; exact ⟨_, _, e_zreturn hd hr ha, rfl, rfl⟩
theorem w_lretP {a x : Int} (hd : decode M.2.1 pc = .ok (.lreturn, 1)) (hr : M.2.2.2.1 = some .long) (h : a = x) : Wp G M pc ls [(1, a)] μ (pP 1 x μ) := by subst h; exact ⟨_, _, e_lreturn hd hr, rfl, rfl⟩
theorem w_iretI {a : Int} {P : Int → Mu → Prop} (hd : decode M.2.1 pc = .ok (.ireturn, 1)) (hr : M.2.2.2.1 = some .int) (h : P a μ) : Wp G M pc ls [(0, a)] μ (qI 0 P) := ⟨_, _, e_ireturn hd hr, _, rfl, h⟩
theorem w_zretI {a : Int} {P : Int → Mu → Prop} (hd : decode M.2.1 pc = .ok (.ireturn, 1)) (hr : M.2.2.2.1 = some .boolean) (ha : a = 0 ∨ a = 1) (h : P a μ) : Wp G M pc ls [(0, a)] μ (qI 0 P) := ⟨_, _, e_zreturn hd hr ha, _, rfl, h⟩
theorem w_lretI {a : Int} {P : Int → Mu → Prop} (hd : decode M.2.1 pc = .ok (.lreturn, 1)) (hr : M.2.2.2.1 = some .long) (h : P a μ) : Wp G M pc ls [(1, a)] μ (qI 1 P) := ⟨_, _, e_lreturn hd hr, _, rfl, h⟩
theorem w_retV {P : Mu → Prop} (hd : decode M.2.1 pc = .ok (.return_, 1)) (hr : M.2.2.2.1 = none) (h : P μ) : Wp G M pc ls [] μ (qV P) := ⟨_, _, e_return hd hr, rfl, h⟩
theorem Wp.toI {t : Nat} {x : Int} (h : Wp G M pc ls st μ (pP t x μ2)) : Wp G M pc ls st μ (qI t fun z μ' => z = x ∧ μ' = μ2) := h.mono (fun r μ' hq => ⟨x, hq.1, rfl, hq.2⟩)
end WpRows
section Frames
variable {μ μ1 μ2 : Mu} {a b c d a1 b1 c1 d1 o k v x : Int}
theorem am_up_o {o2 : Int} (h : o2 ≠ o) : am_up μ o k v o2 = μ o2 := by funext b; exact am_up_ne h b
theorem am_up_at : am_up μ o k v o k = v := by simp [am_up]
theorem am_up_nk {j : Int} (h : j ≠ k) : am_up μ o k v o j = μ o j := by simp [am_up, h]
/-- nothing outside these two rows of objects changed -/
def Fr (a b c d : Int) (μ1 μ : Mu) : Prop := ∀ o : Int, ¬ (a ≤ o ∧ o ≤ b) → ¬ (c ≤ o ∧ o ≤ d) → μ1 o = μ o
theorem Fr.rf : Fr a b c d μ μ := fun _ _ _ => rfl
theorem Fr.up (h : Fr a b c d μ1 μ) (ho : (a ≤ o ∧ o ≤ b) ∨ (c ≤ o ∧ o ≤ d)) : Fr a b c d (am_up μ1 o k v) μ := fun q h1 h2 => by
  rw [am_up_o (by omega)]
  exact h q h1 h2
theorem Fr.tr (h : Fr a b c d μ2 μ1) (h0 : Fr a b c d μ1 μ) : Fr a b c d μ2 μ := fun q h1 h2 => (h q h1 h2).trans (h0 q h1 h2)
theorem Fr.wd (h : Fr a b c d μ1 μ) (h1 : (a1 ≤ a ∧ b ≤ b1) ∨ (c1 ≤ a ∧ b ≤ d1) ∨ b < a) (h2 : (a1 ≤ c ∧ d ≤ b1) ∨ (c1 ≤ c ∧ d ≤ d1) ∨ d < c) : Fr a1 b1 c1 d1 μ1 μ := fun q g1 g2 => h q (by omega) (by omega)
theorem Fr.at (h : Fr a b c d μ1 μ) (h1 : ¬ (a ≤ o ∧ o ≤ b)) (h2 : ¬ (c ≤ o ∧ o ≤ d)) : μ1 o = μ o := h o h1 h2
end Frames
