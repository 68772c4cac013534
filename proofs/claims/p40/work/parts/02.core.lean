/-! ===== A machine over whole numbers. Cells hold Ints (what the machine holds is their Int32 or Int64), objects are places of a list (the shape). The judgement Ev: from this frame the method comes to its end with this answer and this world. Its rules stand on the kit's rows. ===== -/
/-- private methods of the builder's superclass are the ones selected, whatever the receiver's class -/
def lw_ext : List Cond := [.selects "java/lang/StringBuilder" ⟨"java/lang/AbstractStringBuilder", "ensureCapacityInternal", "(I)V"⟩ ⟨"java/lang/AbstractStringBuilder", "ensureCapacityInternal", "(I)V"⟩, .selects "java/lang/StringBuilder" ⟨"java/lang/AbstractStringBuilder", "newCapacity", "(I)I"⟩ ⟨"java/lang/AbstractStringBuilder", "newCapacity", "(I)I"⟩, .selects "java/lang/StringBuilder" ⟨"java/lang/AbstractStringBuilder", "putStringAt", "(ILjava/lang/String;)V"⟩ ⟨"java/lang/AbstractStringBuilder", "putStringAt", "(ILjava/lang/String;)V"⟩, .selects "java/lang/StringBuilder" ⟨"java/lang/AbstractStringBuilder", "inflateIfNeededFor", "(Ljava/lang/String;)V"⟩ ⟨"java/lang/AbstractStringBuilder", "inflateIfNeededFor", "(Ljava/lang/String;)V"⟩]
def TW : List Cond := (lw_tbl ++ lw_ext).filter goodWord
theorem tw_ex {w : Cond} (i : Nat) (h : lw_ext[i]? = some w) (g : goodWord w = true) : w ∈ TW := List.mem_filter.mpr ⟨List.mem_append_right _ (List.mem_of_getElem? h), g⟩
theorem tw_in {w : Cond} (i : Nat) (h : lw_tbl[i]? = some w) (g : goodWord w = true) : w ∈ TW := List.mem_filter.mpr ⟨List.mem_append_left _ (List.mem_of_getElem? h), g⟩
theorem tw_good : GoodIn TW TW := fun w h => ⟨h, good_of_word (List.mem_filter.mp h).2⟩
abbrev AV : Type := Nat × Int
abbrev Mu : Type := Int → Int → Int
/-- a method: its name, code, locals, answer; room: frames, locals -/
abbrev AMeth : Type := MethodName × ByteArray × Nat × Option FieldType × Nat × Nat
/-- the classes and slots, the rows' classes, addresses, the launch, the shape (kind, size), references that stay, addresses of texts -/
abbrev AG : Type := va_G × (Nat → ClassId) × (Nat → Nat) × Launch × List (Nat × Nat) × (Nat → Nat → Int) × (Nat → Nat) × (Nat → Int)
abbrev gD (G : AG) : va_G := G.1
abbrev gC (G : AG) : Nat → ClassId := G.2.1
abbrev gA (G : AG) : Nat → Nat := G.2.2.1
abbrev gL (G : AG) : Launch := G.2.2.2.1
abbrev gS (G : AG) : List (Nat × Nat) := G.2.2.2.2.1
abbrev gR (G : AG) : Nat → Nat → Int := G.2.2.2.2.2.1
abbrev gK (G : AG) : Nat → Nat := G.2.2.2.2.2.2.1
/-- the script's numbers (its cell: gK G 13, how many: gK G 14) -/
abbrev gX (G : AG) : Nat → Int := G.2.2.2.2.2.2.2
def R32 (z : Int) : Prop := -2147483648 ≤ z ∧ z ≤ 2147483647
def R64 (z : Int) : Prop := -9223372036854775808 ≤ z ∧ z ≤ 9223372036854775807
def am_up (μ : Mu) (o k v : Int) : Mu := fun a b => if a = o then (if b = k then v else μ a b) else μ a b
def am_ref (G : AG) (z : Int) : Value := if z < 0 then .null else .ref (gA G z.toNat)
def am_c (G : AG) (v : AV) : Value := match v.1 with
  | 0 => .int (Int32.ofInt v.2)
  | 1 => .long (Int64.ofInt v.2)
  | 2 => am_ref G v.2
  | _ => .ref (gK G v.2.toNat)
/-- of what sort a field is: 0 int, 1 boolean, 2 a reference that stays, 3 one that moves -/
def am_ctags : List (List Nat) := [[0,0,0,0,1,2,2,2,2,2,2,0,2,2,0,0,0,0], [2,2,0], [0,0,0,0,0,2,2,0,2,2,2,2,2,2,0,2,2], [0,0,2,0,0,0,0,3,2,2], [0,2,2], [2,0], [0,0,0,0], [2,2,2,2,2,2,2,3,3], [3,0,0,1], [3,0,1,0]]
def am_ct (ci k : Nat) : Nat := (am_ctags.getD ci []).getD k 0
def am_cty (ci k : Nat) : FieldType := match ci with
  | 0 => tyX0 k
  | 1 => tyX1 k
  | 2 => tyX2 k
  | 3 => tyX3 k
  | 4 => tyX4 k
  | 5 => tyX5 k
  | 6 => tyX6 k
  | 7 => tyX7 k
  | 8 => tyJ0 k
  | _ => tyJ4 k
def am_fv (G : AG) (ci o k : Nat) (μ : Mu) : Value := match am_ct ci k with
  | 0 => .int (Int32.ofInt (μ o k))
  | 1 => .int (Int32.ofInt (μ o k))
  | 2 => am_ref G (gR G o k)
  | _ => am_ref G (μ o k)
def am_el (G : AG) (μ : Mu) (o : Nat) : va_E :=
  if ((gS G).getD o (99, 0)).1 < 20 then .inr (((gS G).getD o (99, 0)).1, (List.range ((gS G).getD o (99, 0)).2).map fun k => am_fv G ((gS G).getD o (99, 0)).1 o k μ)
  else if ((gS G).getD o (99, 0)).1 = 23 then .inl (gC G 3, ((gS G).getD o (99, 0)).2, .inr (.inl fun j => Int64.ofInt (μ o j)))
  else .inl (gC G (((gS G).getD o (99, 0)).1 - 20), ((gS G).getD o (99, 0)).2, .inl fun j => Int32.ofInt (μ o j))
def am_pic (G : AG) (μ : Mu) : va_W := (List.range (gS G).length).map fun o => (gA G o, am_el G μ o)
def am_tys (G : AG) : List (ClassId × FieldType) := [(gC G 0, .int), (gC G 1, .boolean), (gC G 2, .byte), (gC G 3, .long)]
def am_A (G : AG) (sz : Nat) : Nat → Prop := fun q => (∃ o, o < (gS G).length ∧ q = gA G o) ∨ sz ≤ q
def am_ws (M : AMeth) : List Cond := .code M.1 M.2.1 M.2.2.1 M.2.2.2.1 :: TW
def am_R (M : AMeth) : Room := { frames := M.2.2.2.2.1, cells := 0, slots := 0, locals := M.2.2.2.2.2 }
/-- the texts that the reader compares with, by their places -/
def am_txs : List (Nat × String) := [(103, "metre"), (109, "split"), (111, "knee"), (113, "wide"), (115, "note"), (117, "rest")]
def am_lens : List Nat := [5, 5, 4, 4, 4, 4]
def am_byts : List (List Int32) := [[109, 101, 116, 114, 101], [115, 112, 108, 105, 116], [107, 110, 101, 101], [119, 105, 100, 101], [110, 111, 116, 101], [114, 101, 115, 116]]
/-- what the surroundings give: the texts (0 to 5), their bytes (6 to 11), statics that nobody writes (12 what may lie in one) -/

def lw_txs : List (Nat × String) := [(21, " "), (58, "metre 1 2;knee "), (67, ";wide 8 "), (72, ";wide 16 "), (74, ";wide 32 "), (76, ";"), (81, "note "), (86, "- "), (88, "")]
def lw_lens : List Nat := [1, 15, 8, 9, 9, 1, 5, 2, 0]
def lw_byts : List (List Int32) := [[32], [109, 101, 116, 114, 101, 32, 49, 32, 50, 59, 107, 110, 101, 101, 32], [59, 119, 105, 100, 101, 32, 56, 32], [59, 119, 105, 100, 101, 32, 49, 54, 32], [59, 119, 105, 100, 101, 32, 51, 50, 32], [59], [110, 111, 116, 101, 32], [45, 32], []]
def am_tx3 : List (String × Nat × String) := am_txs.map (fun q => ("BeamSetter$Reader", q.1, q.2)) ++ lw_txs.map (fun q => ("BeamSetterLaw", q.1, q.2))
def am_tk (i : Nat) : Nat := if i < 6 then i else 14 + i
def am_Lt (K : Nat → Nat) (A : Nat → Prop) (U : State) (H : Heap) : Prop := vk_S 9 lw_lens lw_byts (fun i => K (20 + i)) (fun i => K (30 + i)) A U H ∧ (va_Z "java/lang/Integer" "DigitOnes" "[B" (.ref (K 40)) A U H ∧ va_T .byte (K 40) 100 (fun j => .int (Int32.ofNat (48 + j % 10))) A U H) ∧ va_Z "java/lang/Integer" "DigitTens" "[B" (.ref (K 41)) A U H ∧ va_T .byte (K 41) 100 (fun j => .int (Int32.ofNat (48 + j / 10))) A U H
theorem am_Lt.moved {K : Nat → Nat} {A : Nat → Prop} {u U : State} {H : Heap} (hvm : u.vm.Alike U.vm) (h : am_Lt K A u H) : am_Lt K A U H := ⟨h.1.moved hvm, ⟨h.2.1.1.moved hvm, h.2.1.2.moved hvm⟩, h.2.2.1.moved hvm, h.2.2.2.moved hvm⟩
theorem am_Lt.kept {K : Nat → Nat} {A : Nat → Prop} {U : State} {H H1 : Heap} (h : am_Lt K A U H) (hq : ∀ a : Nat, a < H.size → ¬ A a → H1[a]? = H[a]?) : am_Lt K A U H1 := ⟨h.1.kept hq, ⟨h.2.1.1.kept hq, h.2.1.2.kept hq⟩, h.2.2.1.kept hq, h.2.2.2.kept hq⟩
theorem am_Lt.narrow {K : Nat → Nat} {A B : Nat → Prop} {U : State} {H : Heap} (h : am_Lt K A U H) (hAB : ∀ q, B q → A q) : am_Lt K B U H := ⟨h.1.narrow hAB, ⟨h.2.1.1.narrow hAB, h.2.1.2.narrow hAB⟩, h.2.2.1.narrow hAB, h.2.2.2.narrow hAB⟩
def am_Sc (G : AG) (A : Nat → Prop) (U : State) (H : Heap) : Prop := va_X (gK G 13) (gK G 14) (fun j => Int32.ofInt (gX G j)) U H ∧ gK G 13 < H.size ∧ ¬ A (gK G 13) ∧ gK G 14 < 2147483648 ∧ am_Lt (gK G) A U H
theorem am_Sc.moved {G : AG} {A : Nat → Prop} {u U : State} {H : Heap} (hvm : u.vm.Alike U.vm) (h : am_Sc G A u H) : am_Sc G A U H := ⟨h.1.moved hvm, h.2.1, h.2.2.1, h.2.2.2.1, h.2.2.2.2.moved hvm⟩
theorem am_Sc.kept {G : AG} {A : Nat → Prop} {U : State} {H H1 : Heap} (h : am_Sc G A U H) (hq : ∀ a : Nat, a < H.size → ¬ A a → H1[a]? = H[a]?) : am_Sc G A U H1 := by
  have h1 := hq _ h.2.1 h.2.2.1
  refine ⟨h.1.kept h1, ?_, h.2.2.1, h.2.2.2.1, h.2.2.2.2.kept hq⟩
  obtain ⟨scr, h2, -⟩ := h.1
  rw [h2] at h1
  exact (Array.getElem?_eq_some_iff.mp h1).1
theorem am_Sc.narrow {G : AG} {A B : Nat → Prop} {U : State} {H : Heap} (h : am_Sc G A U H) (hAB : ∀ q, B q → A q) : am_Sc G B U H := ⟨h.1, h.2.1, fun z => h.2.2.1 (hAB _ z), h.2.2.2.1, h.2.2.2.2.narrow hAB⟩
def am_E0 (G : AG) (A : Nat → Prop) (U : State) (H : Heap) : Prop :=
  vk_S 6 am_lens am_byts (gK G) (fun i => gK G (6 + i)) A U H ∧ va_Z "java/lang/String" "COMPACT_STRINGS" "Z" (.int 1) A U H ∧ (va_Z "jdk/internal/util/Preconditions" "SIOOBE_FORMATTER" "Ljava/util/function/BiFunction;" .null A U H ∨ va_Z "jdk/internal/util/Preconditions" "SIOOBE_FORMATTER" "Ljava/util/function/BiFunction;" (.ref (gK G 12)) A U H) ∧ am_Sc G A U H
def am_Tx (G : AG) (U : State) : Prop := ∀ (i : Nat) (q : String × Nat × String), am_tx3[i]? = some q → vk_R q.1 q.2.1 q.2.2 (gK G (am_tk i)) U
def am_Env (G : AG) (sz : Nat) (U : State) : Prop := am_E0 G (am_A G sz) U U.heap ∧ am_Tx G U
theorem am_E0.moved {G : AG} {A : Nat → Prop} {u U : State} {H : Heap} (hvm : u.vm.Alike U.vm) (h : am_E0 G A u H) : am_E0 G A U H := ⟨h.1.moved hvm, h.2.1.moved hvm, h.2.2.1.imp (fun z => z.moved hvm) (fun z => z.moved hvm), h.2.2.2.moved hvm⟩
theorem am_E0.kept {G : AG} {A : Nat → Prop} {U : State} {H H1 : Heap} (h : am_E0 G A U H) (hq : ∀ a : Nat, a < H.size → ¬ A a → H1[a]? = H[a]?) : am_E0 G A U H1 := ⟨h.1.kept hq, h.2.1.kept hq, h.2.2.1.imp (fun z => z.kept hq) (fun z => z.kept hq), h.2.2.2.kept hq⟩
theorem am_E0.narrow {G : AG} {A B : Nat → Prop} {U : State} {H : Heap} (h : am_E0 G A U H) (hAB : ∀ q, B q → A q) : am_E0 G B U H := ⟨h.1.narrow hAB, h.2.1.narrow hAB, h.2.2.1.imp (fun z => z.narrow hAB) (fun z => z.narrow hAB), h.2.2.2.narrow hAB⟩
theorem am_A_le {G : AG} {a b : Nat} (h : a ≤ b) : ∀ q, am_A G b q → am_A G a q := fun q hq => hq.imp id (fun z => Nat.le_trans h z)
theorem am_Env.to {G : AG} {s U : State} {H : Heap} {locs : List Loc} (h : am_Env G s.heap.size s) (hS : va_S (am_A G s.heap.size) s.heap H locs) (hU : U.heap = H) (hW : s.WarmedH U.vm) : am_Env G H.size U := by
  obtain ⟨h1, h2⟩ := h
  refine ⟨?_, fun i q hq => vk_R.warm hW (h2 i q hq)⟩
  rw [hU]
  exact ((h1.kept hS.2.1).moved hW.alike).narrow (am_A_le hS.1)
/-- the cell that an object is -/
theorem am_pic_get {G : AG} {μ : Mu} {o : Nat} (h : o < (gS G).length) : (am_pic G μ)[o]? = some (gA G o, am_el G μ o) := by
  simp [am_pic, List.getElem?_map, List.getElem?_range h]
theorem am_pic_len {G : AG} {μ : Mu} : (am_pic G μ).length = (gS G).length := by simp [am_pic]
theorem am_sh_lt {G : AG} {o : Nat} {x : Nat × Nat} (h : (gS G)[o]? = some x) : o < (gS G).length := (List.getElem?_eq_some_iff.mp h).1
theorem am_sh_d {G : AG} {o : Nat} {x : Nat × Nat} (h : (gS G)[o]? = some x) : (gS G).getD o (99, 0) = x := by
  rw [List.getD_eq_getElem?_getD, h]; rfl
theorem am_el_congr {G : AG} {μ μ' : Mu} {o : Nat} (h : ∀ k : Int, μ' o k = μ o k) : am_el G μ' o = am_el G μ o := by
  unfold am_el am_fv
  simp only [h]
theorem am_pic_set {G : AG} {μ μ' : Mu} {o : Nat} (h : ∀ o' : Nat, o' ≠ o → ∀ k : Int, μ' o' k = μ o' k) : (am_pic G μ).set o (gA G o, am_el G μ' o) = am_pic G μ' := by
  apply List.ext_getElem?
  intro i
  by_cases hi : i < (gS G).length
  · by_cases hio : i = o
    · subst hio
      rw [List.getElem?_set_self (by rw [am_pic_len]; exact hi), am_pic_get hi]
    · rw [List.getElem?_set_ne (Ne.symm hio), am_pic_get hi, am_pic_get hi, am_el_congr (h i hio)]
  · rw [List.getElem?_eq_none (by rw [List.length_set, am_pic_len]; omega), List.getElem?_eq_none (by rw [am_pic_len]; omega)]
theorem am_up_ne {μ : Mu} {o k v : Int} {a : Int} (h : a ≠ o) (b : Int) : am_up μ o k v a b = μ a b := by simp [am_up, h]
theorem am_up_k {μ : Mu} {o k v : Int} (b : Int) : am_up μ o k v o b = if b = k then v else μ o b := by simp [am_up]
theorem am_pic_D {G : AG} {μ : Mu} {sz : Nat} (h : va_D (fun _ => True) (am_pic G μ)) : va_D (am_A G sz) (am_pic G μ) := by
  refine ⟨h.1, fun k q hk => Or.inl ⟨k, ?_, ?_⟩⟩
  · have := (List.getElem?_eq_some_iff.mp hk).1
    rwa [am_pic_len] at this
  · have h1 := (List.getElem?_eq_some_iff.mp hk).1
    rw [am_pic_len] at h1
    rw [am_pic_get h1] at hk
    cases hk
    rfl
/-- the locals: by places, those that are known -/
def am_l (G : AG) : Nat → List AV → List (Nat × Value)
  | _, [] => []
  | i, v :: vs => if v.1 < 9 then (i, am_c G v) :: am_l G (i + 1) vs else am_l G (i + 1) vs
def am_args : List AV → List AV
  | [] => []
  | v :: vs => if v.1 = 1 then v :: (9, 0) :: am_args vs else v :: am_args vs
theorem am_cat (G : AG) (v : AV) : (am_c G v).category = if v.1 = 1 then 2 else 1 := by
  obtain ⟨t, z⟩ := v
  match t with
  | 0 => rfl
  | 1 => rfl
  | 2 => simp only [am_c, am_ref]; split <;> rfl
  | n + 3 => simp [am_c, Value.category]
theorem am_l_mem {G : AG} {v : AV} (hv : v.1 < 9) : ∀ (ls : List AV) (j i : Nat), ls[i]? = some v → (j + i, am_c G v) ∈ am_l G j ls := by
  intro ls
  induction ls with
  | nil => intro j i h; simp at h
  | cons w ws ih =>
    intro j i h
    cases i with
    | zero =>
      simp only [List.getElem?_cons_zero, Option.some.injEq] at h
      subst h
      simp [am_l, hv]
    | succ i =>
      simp only [List.getElem?_cons_succ] at h
      have h1 := ih (j + 1) i h
      rw [show j + (i + 1) = j + 1 + i by omega]
      unfold am_l
      split
      · exact List.mem_cons_of_mem _ h1
      · exact h1
theorem am_l_of {G : AG} {q : Nat × Value} : ∀ (ls : List AV) (j : Nat), q ∈ am_l G j ls → ∃ (i : Nat) (v : AV), ls[i]? = some v ∧ v.1 < 9 ∧ q = (j + i, am_c G v) := by
  intro ls
  induction ls with
  | nil => intro j h; simp [am_l] at h
  | cons w ws ih =>
    intro j h
    unfold am_l at h
    split at h
    · rcases List.mem_cons.mp h with h | h
      · exact ⟨0, w, rfl, by assumption, h⟩
      · obtain ⟨i, v, h1, h2, h3⟩ := ih (j + 1) h
        exact ⟨i + 1, v, by simpa using h1, h2, by rw [h3]; congr 1; omega⟩
    · obtain ⟨i, v, h1, h2, h3⟩ := ih (j + 1) h
      exact ⟨i + 1, v, by simpa using h1, h2, by rw [h3]; congr 1; omega⟩
theorem lv_mono {ls : Array Slot} {nL : Nat} {l l' : List (Nat × Value)} (h : lv_has ls nL l) (hs : ∀ q ∈ l', q ∈ l) : lv_has ls nL l' := ⟨h.1, h.2.1, fun q hq => h.2.2 q (hs q hq)⟩
theorem am_l_args {G : AG} : ∀ (as : List AV) (j k : Nat), (∀ v ∈ as, v.1 < 9) → ∀ q ∈ am_l G j (am_args as ++ List.replicate k (9, 0)), q ∈ lv_args j (as.map (am_c G)) := by
  intro as
  induction as with
  | nil =>
    intro j k _ q h
    obtain ⟨i, v, h1, h2, -⟩ := am_l_of _ _ h
    rw [show am_args [] = [] from rfl, List.nil_append] at h1
    have := List.eq_of_mem_replicate (List.mem_of_getElem? h1)
    subst this
    simp at h2
  | cons a as ih =>
    intro j k hv q h
    have ha := hv a List.mem_cons_self
    have hr := fun v hv' => hv v (List.mem_cons_of_mem _ hv')
    by_cases h1 : a.1 = 1
    · simp only [am_args, h1, if_true, List.cons_append, am_l, List.map_cons, lv_args] at h ⊢
      rw [am_cat]
      simp only [h1, if_true]
      rcases List.mem_cons.mp h with h | h
      · exact List.mem_cons.mpr (Or.inl h)
      · exact List.mem_cons_of_mem _ (ih (j + 2) k hr q (by simpa [am_l] using h))
    · simp only [am_args, h1, if_false, List.cons_append, am_l, List.map_cons, lv_args, ha, if_true] at h ⊢
      rw [am_cat]
      simp only [h1, if_false]
      rcases List.mem_cons.mp h with h | h
      · exact List.mem_cons.mpr (Or.inl h)
      · exact List.mem_cons_of_mem _ (ih (j + 1) k hr q (by simpa using h))
/-- nothing of two places begins right ahead of this one -/
def am_pre (ls : List AV) (i : Nat) : Bool := match i with
  | 0 => true
  | j + 1 => (ls.getD j (9, 0)).1 != 1
theorem am_l_set1 {G : AG} {ls : List AV} {i : Nat} {v : AV} (hp : am_pre ls i = true) : ∀ q ∈ am_l G 0 (ls.set i v), q ∈ (i, am_c G v) :: (am_l G 0 ls).filter (fun q => !(q.1 == i) && !(q.1 + 1 == i && q.2.category == 2)) := by
  intro q hq
  obtain ⟨j, w, h1, h2, rfl⟩ := am_l_of _ _ hq
  rw [Nat.zero_add]
  by_cases hj : j = i
  · subst hj
    have hl : j < ls.length := by
      have := (List.getElem?_eq_some_iff.mp h1).1
      simpa using this
    rw [List.getElem?_set_self hl] at h1
    cases h1
    exact List.mem_cons_self
  · rw [List.getElem?_set_ne (Ne.symm hj)] at h1
    refine List.mem_cons_of_mem _ (List.mem_filter.mpr ⟨by simpa using am_l_mem h2 ls 0 j h1, ?_⟩)
    have hne : ¬ (j + 1 = i ∧ (am_c G w).category = 2) := by
      rintro ⟨e1, e2⟩
      subst e1
      rw [am_cat] at e2
      have hw : w.1 = 1 := by
        by_cases z : w.1 = 1
        · exact z
        · rw [if_neg z] at e2; cases e2
      simp [am_pre, List.getD_eq_getElem?_getD, h1, hw] at hp
    simp only [Bool.and_eq_true, Bool.not_eq_true', beq_eq_false_iff_ne, ne_eq, Bool.and_eq_false_iff]
    refine ⟨hj, ?_⟩
    by_cases e1 : j + 1 = i
    · exact Or.inr (fun e2 => hne ⟨e1, e2⟩)
    · exact Or.inl e1
theorem am_l_set2 {G : AG} {ls : List AV} {i : Nat} {v : AV} (hp : am_pre ls i = true) : ∀ q ∈ am_l G 0 ((ls.set i v).set (i + 1) (9, 0)), q ∈ (i, am_c G v) :: (am_l G 0 ls).filter (fun q => !(q.1 == i) && (!(q.1 == i + 1) && !(q.1 + 1 == i && q.2.category == 2))) := by
  intro q hq
  obtain ⟨j, w, h1, h2, rfl⟩ := am_l_of _ _ hq
  rw [Nat.zero_add]
  have hj1 : j ≠ i + 1 := by
    rintro rfl
    have hl : i + 1 < (ls.set i v).length := by
      have := (List.getElem?_eq_some_iff.mp h1).1
      simpa using this
    rw [List.getElem?_set_self hl] at h1
    cases h1
    simp at h2
  rw [List.getElem?_set_ne (Ne.symm hj1)] at h1
  have h3 := am_l_set1 (G := G) (v := v) hp (j, am_c G w) (by simpa using am_l_mem (G := G) h2 (ls.set i v) 0 j h1)
  rcases List.mem_cons.mp h3 with h3 | h3
  · exact List.mem_cons.mpr (Or.inl h3)
  · obtain ⟨g1, g2⟩ := List.mem_filter.mp h3
    refine List.mem_cons_of_mem _ (List.mem_filter.mpr ⟨g1, ?_⟩)
    simp only [Bool.and_eq_true, Bool.not_eq_true', beq_eq_false_iff_ne, ne_eq, Bool.and_eq_false_iff] at g2 ⊢
    exact ⟨g2.1, hj1, g2.2⟩
