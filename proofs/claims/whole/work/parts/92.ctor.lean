/-! ===== The constructors' contracts ===== -/
set_option maxRecDepth 20000 in
theorem k_152 : (Cond.instanceMethod ({ cls := "BeamSetter", name := "<init>", desc := "()V" } : MethodName)) ∈ TW := tw_in 152 (by decide +kernel) rfl
set_option maxRecDepth 20000 in
theorem k_153 : (Cond.code ({ cls := "BeamSetter", name := "<init>", desc := "()V" } : MethodName) prog_1_method_1_code (1 : Nat) (none : Option FieldType)) ∈ TW := tw_in 153 (by decide +kernel) rfl
set_option maxRecDepth 20000 in
theorem k_154 : (Cond.methodLink "BeamSetter" (1 : Nat) ({ cls := "java/lang/Object", name := "<init>", desc := "()V" } : MethodName)) ∈ TW := tw_in 154 (by decide +kernel) rfl
set_option maxRecDepth 20000 in
theorem k_155 : (Cond.instanceMethod ({ cls := "java/lang/Object", name := "<init>", desc := "()V" } : MethodName)) ∈ TW := tw_in 155 (by decide +kernel) rfl
set_option maxRecDepth 20000 in
theorem k_156 : (Cond.code ({ cls := "java/lang/Object", name := "<init>", desc := "()V" } : MethodName) object_method_1_code (1 : Nat) (none : Option FieldType)) ∈ TW := tw_in 156 (by decide +kernel) rfl
set_option maxRecDepth 20000 in
theorem k_157 : (Cond.classLink "BeamSetter" (7 : Nat) "BeamSetter$Tape") ∈ TW := tw_in 157 (by decide +kernel) rfl
set_option maxRecDepth 20000 in
theorem k_158 : (Cond.instantiable "BeamSetter$Tape" (2 : Nat)) ∈ TW := tw_in 158 (by decide +kernel) rfl
set_option maxRecDepth 20000 in
theorem k_160 : (Cond.instanceMethod ({ cls := "BeamSetter$Tape", name := "<init>", desc := "()V" } : MethodName)) ∈ TW := tw_in 160 (by decide +kernel) rfl
set_option maxRecDepth 20000 in
theorem k_161 : (Cond.code ({ cls := "BeamSetter$Tape", name := "<init>", desc := "()V" } : MethodName) prog_7_method_1_code (1 : Nat) (none : Option FieldType)) ∈ TW := tw_in 161 (by decide +kernel) rfl
set_option maxRecDepth 20000 in
theorem k_162 : (Cond.methodLink "BeamSetter$Tape" (1 : Nat) ({ cls := "java/lang/Object", name := "<init>", desc := "()V" } : MethodName)) ∈ TW := tw_in 162 (by decide +kernel) rfl
set_option maxRecDepth 20000 in
theorem k_164 : (Cond.fieldLink "BeamSetter" (60 : Nat) "BeamSetter$Tape" "bytes" "[I") ∈ TW := tw_in 164 (by decide +kernel) rfl
set_option maxRecDepth 20000 in
theorem k_172 : (Cond.arrayClass FieldType.int) ∈ TW := tw_in 172 (by decide +kernel) rfl
set_option maxRecDepth 20000 in
theorem k_173 : (Cond.classLink "BeamSetter" (16 : Nat) "BeamSetter$History") ∈ TW := tw_in 173 (by decide +kernel) rfl
set_option maxRecDepth 20000 in
theorem k_174 : (Cond.instantiable "BeamSetter$History" (3 : Nat)) ∈ TW := tw_in 174 (by decide +kernel) rfl
set_option maxRecDepth 20000 in
theorem k_176 : (Cond.instanceMethod ({ cls := "BeamSetter$History", name := "<init>", desc := "()V" } : MethodName)) ∈ TW := tw_in 176 (by decide +kernel) rfl
set_option maxRecDepth 20000 in
theorem k_177 : (Cond.code ({ cls := "BeamSetter$History", name := "<init>", desc := "()V" } : MethodName) prog_3_method_1_code (1 : Nat) (none : Option FieldType)) ∈ TW := tw_in 177 (by decide +kernel) rfl
set_option maxRecDepth 20000 in
theorem k_178 : (Cond.methodLink "BeamSetter$History" (3 : Nat) ({ cls := "java/lang/Object", name := "<init>", desc := "()V" } : MethodName)) ∈ TW := tw_in 178 (by decide +kernel) rfl
set_option maxRecDepth 20000 in
theorem k_190 : (Cond.classLink "BeamSetter" (23 : Nat) "BeamSetter$Group") ∈ TW := tw_in 190 (by decide +kernel) rfl
set_option maxRecDepth 20000 in
theorem k_191 : (Cond.instantiable "BeamSetter$Group" (18 : Nat)) ∈ TW := tw_in 191 (by decide +kernel) rfl
set_option maxRecDepth 20000 in
theorem k_193 : (Cond.instanceMethod ({ cls := "BeamSetter$Group", name := "<init>", desc := "()V" } : MethodName)) ∈ TW := tw_in 193 (by decide +kernel) rfl
set_option maxRecDepth 20000 in
theorem k_194 : (Cond.code ({ cls := "BeamSetter$Group", name := "<init>", desc := "()V" } : MethodName) prog_2_method_1_code (1 : Nat) (none : Option FieldType)) ∈ TW := tw_in 194 (by decide +kernel) rfl
set_option maxRecDepth 20000 in
theorem k_195 : (Cond.methodLink "BeamSetter$Group" (5 : Nat) ({ cls := "java/lang/Object", name := "<init>", desc := "()V" } : MethodName)) ∈ TW := tw_in 195 (by decide +kernel) rfl
set_option maxRecDepth 20000 in
theorem k_261 : (Cond.arrayClass FieldType.long) ∈ TW := tw_in 261 (by decide +kernel) rfl
set_option maxRecDepth 20000 in
theorem k_262 : (Cond.arrayClass FieldType.boolean) ∈ TW := tw_in 262 (by decide +kernel) rfl
set_option maxRecDepth 20000 in
theorem k_263 : (Cond.classLink "BeamSetter" (30 : Nat) "BeamSetter$Totals") ∈ TW := tw_in 263 (by decide +kernel) rfl
set_option maxRecDepth 20000 in
theorem k_264 : (Cond.instantiable "BeamSetter$Totals" (4 : Nat)) ∈ TW := tw_in 264 (by decide +kernel) rfl
set_option maxRecDepth 20000 in
theorem k_266 : (Cond.instanceMethod ({ cls := "BeamSetter$Totals", name := "<init>", desc := "()V" } : MethodName)) ∈ TW := tw_in 266 (by decide +kernel) rfl
set_option maxRecDepth 20000 in
theorem k_267 : (Cond.code ({ cls := "BeamSetter$Totals", name := "<init>", desc := "()V" } : MethodName) prog_8_method_1_code (1 : Nat) (none : Option FieldType)) ∈ TW := tw_in 267 (by decide +kernel) rfl
set_option maxRecDepth 20000 in
theorem k_268 : (Cond.methodLink "BeamSetter$Totals" (3 : Nat) ({ cls := "java/lang/Object", name := "<init>", desc := "()V" } : MethodName)) ∈ TW := tw_in 268 (by decide +kernel) rfl
set_option maxRecDepth 20000 in
theorem k_283 : (Cond.classLink "BeamSetter" (37 : Nat) "BeamSetter$Smoother") ∈ TW := tw_in 283 (by decide +kernel) rfl
set_option maxRecDepth 20000 in
theorem k_284 : (Cond.instantiable "BeamSetter$Smoother" (3 : Nat)) ∈ TW := tw_in 284 (by decide +kernel) rfl
set_option maxRecDepth 20000 in
theorem k_286 : (Cond.instanceMethod ({ cls := "BeamSetter$Smoother", name := "<init>", desc := "()V" } : MethodName)) ∈ TW := tw_in 286 (by decide +kernel) rfl
set_option maxRecDepth 20000 in
theorem k_287 : (Cond.code ({ cls := "BeamSetter$Smoother", name := "<init>", desc := "()V" } : MethodName) prog_6_method_1_code (1 : Nat) (none : Option FieldType)) ∈ TW := tw_in 287 (by decide +kernel) rfl
set_option maxRecDepth 20000 in
theorem k_288 : (Cond.methodLink "BeamSetter$Smoother" (5 : Nat) ({ cls := "java/lang/Object", name := "<init>", desc := "()V" } : MethodName)) ∈ TW := tw_in 288 (by decide +kernel) rfl
set_option maxRecDepth 20000 in
theorem k_300 : (Cond.classLink "BeamSetter" (44 : Nat) "BeamSetter$Piece") ∈ TW := tw_in 300 (by decide +kernel) rfl
set_option maxRecDepth 20000 in
theorem k_301 : (Cond.instantiable "BeamSetter$Piece" (17 : Nat)) ∈ TW := tw_in 301 (by decide +kernel) rfl
set_option maxRecDepth 20000 in
theorem k_302 : (Cond.methodLink "BeamSetter" (50 : Nat) ({ cls := "BeamSetter$Piece", name := "<init>", desc := "()V" } : MethodName)) ∈ TW := tw_in 302 (by decide +kernel) rfl
set_option maxRecDepth 20000 in
theorem k_303 : (Cond.instanceMethod ({ cls := "BeamSetter$Piece", name := "<init>", desc := "()V" } : MethodName)) ∈ TW := tw_in 303 (by decide +kernel) rfl
set_option maxRecDepth 20000 in
theorem k_304 : (Cond.code ({ cls := "BeamSetter$Piece", name := "<init>", desc := "()V" } : MethodName) prog_4_method_1_code (1 : Nat) (none : Option FieldType)) ∈ TW := tw_in 304 (by decide +kernel) rfl
set_option maxRecDepth 20000 in
theorem k_305 : (Cond.methodLink "BeamSetter$Piece" (3 : Nat) ({ cls := "java/lang/Object", name := "<init>", desc := "()V" } : MethodName)) ∈ TW := tw_in 305 (by decide +kernel) rfl
set_option maxRecDepth 20000 in
theorem k_306 : (Cond.methodLink "BeamSetter$Piece" (43 : Nat) ({ cls := "BeamSetter$Piece", name := "clear", desc := "()V" } : MethodName)) ∈ TW := tw_in 306 (by decide +kernel) rfl
set_option maxRecDepth 20000 in
theorem k_401 : (Cond.classLink "BeamSetter" (58 : Nat) "BeamSetter$Reader") ∈ TW := tw_in 401 (by decide +kernel) rfl
set_option maxRecDepth 20000 in
theorem k_402 : (Cond.instantiable "BeamSetter$Reader" (10 : Nat)) ∈ TW := tw_in 402 (by decide +kernel) rfl
set_option maxRecDepth 20000 in
theorem k_403 : (Cond.methodLink "BeamSetter" (63 : Nat) ({ cls := "BeamSetter$Reader", name := "<init>", desc := "([ILBeamSetter$Piece;)V" } : MethodName)) ∈ TW := tw_in 403 (by decide +kernel) rfl
set_option maxRecDepth 20000 in
theorem k_404 : (Cond.instanceMethod ({ cls := "BeamSetter$Reader", name := "<init>", desc := "([ILBeamSetter$Piece;)V" } : MethodName)) ∈ TW := tw_in 404 (by decide +kernel) rfl
set_option maxRecDepth 20000 in
theorem k_405 : (Cond.code ({ cls := "BeamSetter$Reader", name := "<init>", desc := "([ILBeamSetter$Piece;)V" } : MethodName) prog_5_method_1_code (3 : Nat) (none : Option FieldType)) ∈ TW := tw_in 405 (by decide +kernel) rfl
set_option maxRecDepth 20000 in
theorem k_406 : (Cond.methodLink "BeamSetter$Reader" (3 : Nat) ({ cls := "java/lang/Object", name := "<init>", desc := "()V" } : MethodName)) ∈ TW := tw_in 406 (by decide +kernel) rfl
set_option maxRecDepth 20000 in
theorem k_687 : (Cond.arrayClass FieldType.byte) ∈ TW := tw_in 687 (by decide +kernel) rfl
set_option maxRecDepth 20000 in
theorem k_1280 : (Cond.instanceMethod ({ cls := "BeamSetterModel", name := "<init>", desc := "()V" } : MethodName)) ∈ TW := tw_in 1280 (by decide +kernel) rfl
set_option maxRecDepth 20000 in
theorem k_1281 : (Cond.code ({ cls := "BeamSetterModel", name := "<init>", desc := "()V" } : MethodName) prog_10_method_1_code (1 : Nat) (none : Option FieldType)) ∈ TW := tw_in 1281 (by decide +kernel) rfl
set_option maxRecDepth 20000 in
theorem k_1282 : (Cond.methodLink "BeamSetterModel" (1 : Nat) ({ cls := "java/lang/Object", name := "<init>", desc := "()V" } : MethodName)) ∈ TW := tw_in 1282 (by decide +kernel) rfl
section Cnr
variable {G : AG} {cA : Nat → ClassId} {A : Nat → Prop} {M : AMeth} {R : Room} {p : Program} {e : Env} {s : State} {m : MethodId} {args : Array Value} {below : List Frame} {meth : Method} {c : Code} {Q : State → Prop} {lsA : Array Slot} {lv : List (Nat × Value)} {cells slots pc : Nat} {st : List Value} {ws : va_W}
theorem n_newI {N : Nat} {n : Int32} (hd : decode M.2.1 pc = .ok (.newarray .int, 2)) (hn : ¬ n < 0) (hN : n.toNatClampNeg = N) (hb : N * 4 ≤ 536870912) (hc : cells + 1 ≤ R.cells) (hs : slots + N ≤ R.slots) (kk : ∀ q : Nat, Cn G cA A M R p e s m args below meth c Q lsA lv (cells + 1) (slots + N) (pc + 2) (.ref q :: st) (ws ++ [(q, .inl (cA 0, N, .inl fun _ => Int32.ofInt 0))])) : Cn G cA A M R p e s m args below meth c Q lsA lv cells slots pc (.int n :: st) ws :=
  n_newa (t := 0) hd rfl k_172 rfl (fun _ _ h => h) (fun _ => rfl) hn hN hb hc hs kk
theorem n_newZ {N : Nat} {n : Int32} (hd : decode M.2.1 pc = .ok (.newarray .boolean, 2)) (hn : ¬ n < 0) (hN : n.toNatClampNeg = N) (hb : N * 1 ≤ 536870912) (hc : cells + 1 ≤ R.cells) (hs : slots + N ≤ R.slots) (kk : ∀ q : Nat, Cn G cA A M R p e s m args below meth c Q lsA lv (cells + 1) (slots + N) (pc + 2) (.ref q :: st) (ws ++ [(q, .inl (cA 1, N, .inl fun _ => Int32.ofInt 0))])) : Cn G cA A M R p e s m args below meth c Q lsA lv cells slots pc (.int n :: st) ws :=
  n_newa (t := 1) hd rfl k_262 rfl (fun _ _ h => h) (fun _ => rfl) hn hN hb hc hs kk
theorem n_newB {N : Nat} {n : Int32} (hd : decode M.2.1 pc = .ok (.newarray .byte, 2)) (hn : ¬ n < 0) (hN : n.toNatClampNeg = N) (hb : N * 1 ≤ 536870912) (hc : cells + 1 ≤ R.cells) (hs : slots + N ≤ R.slots) (kk : ∀ q : Nat, Cn G cA A M R p e s m args below meth c Q lsA lv (cells + 1) (slots + N) (pc + 2) (.ref q :: st) (ws ++ [(q, .inl (cA 2, N, .inl fun _ => Int32.ofInt 0))])) : Cn G cA A M R p e s m args below meth c Q lsA lv cells slots pc (.int n :: st) ws :=
  n_newa (t := 2) hd rfl k_687 rfl (fun _ _ h => h) (fun _ => rfl) hn hN hb hc hs kk
theorem n_newJ {N : Nat} {n : Int32} (hd : decode M.2.1 pc = .ok (.newarray .long, 2)) (hn : ¬ n < 0) (hN : n.toNatClampNeg = N) (hb : N * 8 ≤ 536870912) (hc : cells + 1 ≤ R.cells) (hs : slots + N ≤ R.slots) (kk : ∀ q : Nat, Cn G cA A M R p e s m args below meth c Q lsA lv (cells + 1) (slots + N) (pc + 2) (.ref q :: st) (ws ++ [(q, .inl (cA 3, N, .inr (.inl fun _ => Int64.ofInt 0)))])) : Cn G cA A M R p e s m args below meth c Q lsA lv cells slots pc (.int n :: st) ws :=
  n_newa (t := 3) hd rfl k_261 rfl (fun _ _ h => h) (fun _ => rfl) hn hN hb hc hs kk
theorem n_putCF {ci k a : Nat} {fs fs' : List Value} {v : Value} {tl tl' : va_W} (hf : cn_Fp M pc ci k true) (hl : k < fs.length) (hnar : narrow (am_cty ci k) v = v) (hfit : fits (am_cty ci k) v = true) (hfs : fs.set k v = fs') (htl : tl = tl') (kk : Cn G cA A M R p e s m args below meth c Q lsA lv cells slots (pc + 3) st ((a, .inr (ci, fs')) :: tl')) : Cn G cA A M R p e s m args below meth c Q lsA lv cells slots pc (v :: .ref a :: st) ((a, .inr (ci, fs)) :: tl) := by
  subst hfs
  subst htl
  exact n_putF (j0 := 0) hf rfl hl hnar hfit kk
theorem n_putC {ci k a : Nat} {fs fs' : List Value} {v : Value} {tl tl' : va_W} (hf : cn_Fp M pc ci k false) (hl : k < fs.length) (hnar : narrow (am_cty ci k) v = v) (hfit : fits (am_cty ci k) v = true) (hfs : fs.set k v = fs') (htl : tl = tl') (kk : Cn G cA A M R p e s m args below meth c Q lsA lv cells slots (pc + 3) st ((a, .inr (ci, fs')) :: tl')) : Cn G cA A M R p e s m args below meth c Q lsA lv cells slots pc (v :: .ref a :: st) ((a, .inr (ci, fs)) :: tl) := by
  subst hfs
  subst htl
  exact n_put (j0 := 0) hf rfl hl hnar hfit kk
theorem n_iastE {j0 a N : Nat} {f g : Nat → Int32} {i v : Int32} (hd : decode M.2.1 pc = .ok (.iastore, 1)) (he : ws[j0]? = some (a, .inl (cA 0, N, .inl f))) (hin : vp_in i N) (hg : upd f i.toNatClampNeg v = g) (kk : Cn G cA A M R p e s m args below meth c Q lsA lv cells slots (pc + 1) st (ws.set j0 (a, .inl (cA 0, N, .inl g)))) : Cn G cA A M R p e s m args below meth c Q lsA lv cells slots pc (.int v :: .int i :: .ref a :: st) ws := by
  subst hg
  exact n_iast hd he hin kk
end Cnr
def cn_w (j : Int) : Int := if j = 0 then 24 else if j = 1 then 16 else if j = 2 then 12 else if j = 3 then 9 else 0
theorem cn_wide : upd (upd (upd (upd (fun _ => Int32.ofInt 0) (Int32.ofInt 0).toNatClampNeg (Int32.ofInt 24)) (Int32.ofInt 1).toNatClampNeg (Int32.ofInt 16)) (Int32.ofInt 2).toNatClampNeg (Int32.ofInt 12)) (Int32.ofInt 3).toNatClampNeg (Int32.ofInt 9) = fun j : Nat => Int32.ofInt (cn_w j) := by
  funext j
  match j with
  | 0 => decide
  | 1 => decide
  | 2 => decide
  | 3 => decide
  | n + 4 =>
    have h : cn_w ((n + 4 : Nat) : Int) = 0 := by unfold cn_w; rw [if_neg (by omega), if_neg (by omega), if_neg (by omega), if_neg (by omega)]
    rw [h]
    rfl
abbrev cn_d0 : List Value := [.int (Int32.ofInt 0), .int (Int32.ofInt 0), .int (Int32.ofInt 0), .int (Int32.ofInt 0), .int (Int32.ofInt 0), .null, .null, .null, .null, .null, .null, .int (Int32.ofInt 0), .null, .null, .int (Int32.ofInt 0), .int (Int32.ofInt 0), .int (Int32.ofInt 0), .int (Int32.ofInt 0)]
theorem cn_dv0 : ∀ j, j < 18 → defaultValue (am_cty 0 j) = vp_V cn_d0 j
  | 0, _ => rfl
  | 1, _ => rfl
  | 2, _ => rfl
  | 3, _ => rfl
  | 4, _ => rfl
  | 5, _ => rfl
  | 6, _ => rfl
  | 7, _ => rfl
  | 8, _ => rfl
  | 9, _ => rfl
  | 10, _ => rfl
  | 11, _ => rfl
  | 12, _ => rfl
  | 13, _ => rfl
  | 14, _ => rfl
  | 15, _ => rfl
  | 16, _ => rfl
  | 17, _ => rfl
  | n + 18, h => absurd h (by omega)
abbrev cn_d1 : List Value := [.null, .null, .int (Int32.ofInt 0)]
theorem cn_dv1 : ∀ j, j < 3 → defaultValue (am_cty 1 j) = vp_V cn_d1 j
  | 0, _ => rfl
  | 1, _ => rfl
  | 2, _ => rfl
  | n + 3, h => absurd h (by omega)
abbrev cn_d2 : List Value := [.int (Int32.ofInt 0), .int (Int32.ofInt 0), .int (Int32.ofInt 0), .int (Int32.ofInt 0), .int (Int32.ofInt 0), .null, .null, .int (Int32.ofInt 0), .null, .null, .null, .null, .null, .null, .int (Int32.ofInt 0), .null, .null]
theorem cn_dv2 : ∀ j, j < 17 → defaultValue (am_cty 2 j) = vp_V cn_d2 j
  | 0, _ => rfl
  | 1, _ => rfl
  | 2, _ => rfl
  | 3, _ => rfl
  | 4, _ => rfl
  | 5, _ => rfl
  | 6, _ => rfl
  | 7, _ => rfl
  | 8, _ => rfl
  | 9, _ => rfl
  | 10, _ => rfl
  | 11, _ => rfl
  | 12, _ => rfl
  | 13, _ => rfl
  | 14, _ => rfl
  | 15, _ => rfl
  | 16, _ => rfl
  | n + 17, h => absurd h (by omega)
abbrev cn_d3 : List Value := [.int (Int32.ofInt 0), .int (Int32.ofInt 0), .null, .int (Int32.ofInt 0), .int (Int32.ofInt 0), .int (Int32.ofInt 0), .int (Int32.ofInt 0), .null, .null, .null]
theorem cn_dv3 : ∀ j, j < 10 → defaultValue (am_cty 3 j) = vp_V cn_d3 j
  | 0, _ => rfl
  | 1, _ => rfl
  | 2, _ => rfl
  | 3, _ => rfl
  | 4, _ => rfl
  | 5, _ => rfl
  | 6, _ => rfl
  | 7, _ => rfl
  | 8, _ => rfl
  | 9, _ => rfl
  | n + 10, h => absurd h (by omega)
abbrev cn_d4 : List Value := [.int (Int32.ofInt 0), .null, .null]
theorem cn_dv4 : ∀ j, j < 3 → defaultValue (am_cty 4 j) = vp_V cn_d4 j
  | 0, _ => rfl
  | 1, _ => rfl
  | 2, _ => rfl
  | n + 3, h => absurd h (by omega)
abbrev cn_d5 : List Value := [.null, .int (Int32.ofInt 0)]
theorem cn_dv5 : ∀ j, j < 2 → defaultValue (am_cty 5 j) = vp_V cn_d5 j
  | 0, _ => rfl
  | 1, _ => rfl
  | n + 2, h => absurd h (by omega)
abbrev cn_d6 : List Value := [.int (Int32.ofInt 0), .int (Int32.ofInt 0), .int (Int32.ofInt 0), .int (Int32.ofInt 0)]
theorem cn_dv6 : ∀ j, j < 4 → defaultValue (am_cty 6 j) = vp_V cn_d6 j
  | 0, _ => rfl
  | 1, _ => rfl
  | 2, _ => rfl
  | 3, _ => rfl
  | n + 4, h => absurd h (by omega)
abbrev cn_d7 : List Value := [.null, .null, .null, .null, .null, .null, .null, .null, .null]
theorem cn_dv7 : ∀ j, j < 9 → defaultValue (am_cty 7 j) = vp_V cn_d7 j
  | 0, _ => rfl
  | 1, _ => rfl
  | 2, _ => rfl
  | 3, _ => rfl
  | 4, _ => rfl
  | 5, _ => rfl
  | 6, _ => rfl
  | 7, _ => rfl
  | 8, _ => rfl
  | n + 9, h => absurd h (by omega)
abbrev cn_d8 : List Value := [.int (Int32.ofInt 0), .int (Int32.ofInt 0), .int (Int32.ofInt 0), .null, .int (Int32.ofInt 0), .int (Int32.ofInt 0), .null, .int (Int32.ofInt 0), .null, .null, .null, .int (Int32.ofInt 0), .null, .null, .null, .null, .null, .int (Int32.ofInt 0), .null, .int (Int32.ofInt 0), .null, .int (Int32.ofInt 0), .int (Int32.ofInt 0), .int (Int32.ofInt 0), .int (Int32.ofInt 0), .null, .null, .null, .null, .int (Int32.ofInt 0), .int (Int32.ofInt 0), .int (Int32.ofInt 0), .int (Int32.ofInt 0), .int (Int32.ofInt 0), .null, .int (Int32.ofInt 0), .int (Int32.ofInt 0), .int (Int32.ofInt 0), .int (Int32.ofInt 0), .int (Int32.ofInt 0), .int (Int32.ofInt 0), .int (Int32.ofInt 0), .int (Int32.ofInt 0), .int (Int32.ofInt 0), .int (Int32.ofInt 0), .int (Int32.ofInt 0), .null, .int (Int32.ofInt 0), .int (Int32.ofInt 0), .null, .int (Int32.ofInt 0), .null, .null, .null, .int (Int32.ofInt 0), .int (Int32.ofInt 0), .null, .int (Int32.ofInt 0), .null, .null, .int (Int32.ofInt 0), .null, .null, .null, .int (Int32.ofInt 0)]
theorem cn_dv8 : ∀ j, j < 65 → defaultValue (am_cty 8 j) = vp_V cn_d8 j
  | 0, _ => rfl
  | 1, _ => rfl
  | 2, _ => rfl
  | 3, _ => rfl
  | 4, _ => rfl
  | 5, _ => rfl
  | 6, _ => rfl
  | 7, _ => rfl
  | 8, _ => rfl
  | 9, _ => rfl
  | 10, _ => rfl
  | 11, _ => rfl
  | 12, _ => rfl
  | 13, _ => rfl
  | 14, _ => rfl
  | 15, _ => rfl
  | 16, _ => rfl
  | 17, _ => rfl
  | 18, _ => rfl
  | 19, _ => rfl
  | 20, _ => rfl
  | 21, _ => rfl
  | 22, _ => rfl
  | 23, _ => rfl
  | 24, _ => rfl
  | 25, _ => rfl
  | 26, _ => rfl
  | 27, _ => rfl
  | 28, _ => rfl
  | 29, _ => rfl
  | 30, _ => rfl
  | 31, _ => rfl
  | 32, _ => rfl
  | 33, _ => rfl
  | 34, _ => rfl
  | 35, _ => rfl
  | 36, _ => rfl
  | 37, _ => rfl
  | 38, _ => rfl
  | 39, _ => rfl
  | 40, _ => rfl
  | 41, _ => rfl
  | 42, _ => rfl
  | 43, _ => rfl
  | 44, _ => rfl
  | 45, _ => rfl
  | 46, _ => rfl
  | 47, _ => rfl
  | 48, _ => rfl
  | 49, _ => rfl
  | 50, _ => rfl
  | 51, _ => rfl
  | 52, _ => rfl
  | 53, _ => rfl
  | 54, _ => rfl
  | 55, _ => rfl
  | 56, _ => rfl
  | 57, _ => rfl
  | 58, _ => rfl
  | 59, _ => rfl
  | 60, _ => rfl
  | 61, _ => rfl
  | 62, _ => rfl
  | 63, _ => rfl
  | 64, _ => rfl
  | n + 65, h => absurd h (by omega)
def M_X5_init : AMeth := (yX5_init, cX5_init, 1, none, 1, 20)
theorem ok_X5_init : cn_Ok M_X5_init 0 := ⟨k_161, k_160, k_130, rfl, rfl, by decide +kernel⟩
def cn_W5 (X : AX) (f : Nat → Nat) : va_W := [(f 0, .inr (5, [.ref (f 1), .int (Int32.ofInt 0)])), (f 1, .inl (X.2.1 0, 900, .inl fun _ => Int32.ofInt 0))]
set_option maxRecDepth 20000 in
set_option maxHeartbeats 4000000 in
theorem c_X5_init (X : AX) (h0 : Nat) (sz : Nat) : Met (gL (GG X)) M_X5_init.1 (am_ws M_X5_init) (cn_R M_X5_init 1 900) (cn_Pc (GG X) X.2.1 h0 [] 5 cn_d5 sz) (cn_Q (GG X) X.2.1 h0 5 cn_d5 (fun f : Nat → Nat => f 0 = h0) (cn_W5 X) sz) 1 900 (va_A [(h0, .inr (5, cn_d5))] sz) := by
  refine cn_met (by decide +kernel) rfl rfl (Nat.le_of_ble_eq_true rfl) (fun p e s m args below meth c lsA => ?_) sz
  refine n_aload (j := 0) dX5_init_0 rfl rfl ?_
  refine n_obj dX5_init_1 k_162 k_155 k_156 ⟨(Nat.le_of_ble_eq_true rfl), (Nat.le_of_ble_eq_true rfl)⟩ ?_
  refine n_aload (j := 0) dX5_init_4 rfl rfl ?_
  refine n_sipush (v := Int32.ofInt 900) dX5_init_5 (by decide) ?_
  refine n_newI (N := 900) dX5_init_8 (by decide) (by decide) (Nat.le_of_ble_eq_true rfl) (Nat.le_of_ble_eq_true rfl) (Nat.le_of_ble_eq_true rfl) (fun q1 => ?_)
  refine n_putCF (ci := 5) (k := 0) ⟨9, _, dX5_init_10, rfl, by decide, k_163, rfl, rfl, fun h9 => (by first | rfl | cases h9)⟩ (Nat.le_of_ble_eq_true rfl) rfl rfl rfl rfl ?_
  exact n_ret (fun i => [h0, q1].getD i 0) dX5_init_13 rfl rfl rfl (Nat.le_of_ble_eq_true rfl) (Nat.le_of_ble_eq_true rfl)
def M_X1_init : AMeth := (yX1_init, cX1_init, 1, none, 1, 20)
theorem ok_X1_init : cn_Ok M_X1_init 0 := ⟨k_177, k_176, k_131, rfl, rfl, by decide +kernel⟩
def cn_W1 (X : AX) (f : Nat → Nat) : va_W := [(f 0, .inr (1, [.ref (f 1), .ref (f 2), .int (Int32.ofInt 0)])), (f 1, .inl (X.2.1 0, 20, .inl fun _ => Int32.ofInt 0)), (f 2, .inl (X.2.1 0, 20, .inl fun _ => Int32.ofInt 0))]
set_option maxRecDepth 20000 in
set_option maxHeartbeats 4000000 in
theorem c_X1_init (X : AX) (h0 : Nat) (sz : Nat) : Met (gL (GG X)) M_X1_init.1 (am_ws M_X1_init) (cn_R M_X1_init 2 40) (cn_Pc (GG X) X.2.1 h0 [] 1 cn_d1 sz) (cn_Q (GG X) X.2.1 h0 1 cn_d1 (fun f : Nat → Nat => f 0 = h0) (cn_W1 X) sz) 2 40 (va_A [(h0, .inr (1, cn_d1))] sz) := by
  refine cn_met (by decide +kernel) rfl rfl (Nat.le_of_ble_eq_true rfl) (fun p e s m args below meth c lsA => ?_) sz
  refine n_aload (j := 0) dX1_init_0 rfl rfl ?_
  refine n_obj dX1_init_1 k_178 k_155 k_156 ⟨(Nat.le_of_ble_eq_true rfl), (Nat.le_of_ble_eq_true rfl)⟩ ?_
  refine n_aload (j := 0) dX1_init_4 rfl rfl ?_
  refine n_bipush (v := Int32.ofInt 20) dX1_init_5 (by decide) ?_
  refine n_newI (N := 20) dX1_init_7 (by decide) (by decide) (Nat.le_of_ble_eq_true rfl) (Nat.le_of_ble_eq_true rfl) (Nat.le_of_ble_eq_true rfl) (fun q1 => ?_)
  refine n_putCF (ci := 1) (k := 0) ⟨11, _, dX1_init_9, rfl, by decide, k_179, rfl, rfl, fun h9 => (by first | rfl | cases h9)⟩ (Nat.le_of_ble_eq_true rfl) rfl rfl rfl rfl ?_
  refine n_aload (j := 0) dX1_init_12 rfl rfl ?_
  refine n_bipush (v := Int32.ofInt 20) dX1_init_13 (by decide) ?_
  refine n_newI (N := 20) dX1_init_15 (by decide) (by decide) (Nat.le_of_ble_eq_true rfl) (Nat.le_of_ble_eq_true rfl) (Nat.le_of_ble_eq_true rfl) (fun q2 => ?_)
  refine n_putCF (ci := 1) (k := 1) ⟨15, _, dX1_init_17, rfl, by decide, k_180, rfl, rfl, fun h9 => (by first | rfl | cases h9)⟩ (Nat.le_of_ble_eq_true rfl) rfl rfl rfl rfl ?_
  exact n_ret (fun i => [h0, q1, q2].getD i 0) dX1_init_20 rfl rfl rfl (Nat.le_of_ble_eq_true rfl) (Nat.le_of_ble_eq_true rfl)
def M_X0_init : AMeth := (yX0_init, cX0_init, 1, none, 1, 20)
theorem ok_X0_init : cn_Ok M_X0_init 0 := ⟨k_194, k_193, k_132, rfl, rfl, by decide +kernel⟩
def cn_W0 (X : AX) (f : Nat → Nat) : va_W := [(f 0, .inr (0, [.int (Int32.ofInt 0), .int (Int32.ofInt 0), .int (Int32.ofInt 0), .int (Int32.ofInt 0), .int (Int32.ofInt 0), .ref (f 1), .ref (f 2), .ref (f 3), .ref (f 4), .ref (f 5), .ref (f 6), .int (Int32.ofInt 0), .ref (f 7), .ref (f 8), .int (Int32.ofInt 0), .int (Int32.ofInt 0), .int (Int32.ofInt 0), .int (Int32.ofInt 0)])), (f 1, .inl (X.2.1 0, 64, .inl fun _ => Int32.ofInt 0)), (f 2, .inl (X.2.1 0, 64, .inl fun _ => Int32.ofInt 0)), (f 3, .inl (X.2.1 0, 64, .inl fun _ => Int32.ofInt 0)), (f 4, .inl (X.2.1 0, 64, .inl fun _ => Int32.ofInt 0)), (f 5, .inl (X.2.1 0, 64, .inl fun _ => Int32.ofInt 0)), (f 6, .inl (X.2.1 3, 595, .inr (.inl fun _ => Int64.ofInt 0))), (f 7, .inl (X.2.1 1, 25, .inl fun _ => Int32.ofInt 0)), (f 8, .inl (X.2.1 0, 64, .inl fun _ => Int32.ofInt 0))]
set_option maxRecDepth 20000 in
set_option maxHeartbeats 4000000 in
theorem c_X0_init (X : AX) (h0 : Nat) (sz : Nat) : Met (gL (GG X)) M_X0_init.1 (am_ws M_X0_init) (cn_R M_X0_init 8 1004) (cn_Pc (GG X) X.2.1 h0 [] 0 cn_d0 sz) (cn_Q (GG X) X.2.1 h0 0 cn_d0 (fun f : Nat → Nat => f 0 = h0) (cn_W0 X) sz) 8 1004 (va_A [(h0, .inr (0, cn_d0))] sz) := by
  refine cn_met (by decide +kernel) rfl rfl (Nat.le_of_ble_eq_true rfl) (fun p e s m args below meth c lsA => ?_) sz
  refine n_aload (j := 0) dX0_init_0 rfl rfl ?_
  refine n_obj dX0_init_1 k_195 k_155 k_156 ⟨(Nat.le_of_ble_eq_true rfl), (Nat.le_of_ble_eq_true rfl)⟩ ?_
  refine n_aload (j := 0) dX0_init_4 rfl rfl ?_
  refine n_bipush (v := Int32.ofInt 64) dX0_init_5 (by decide) ?_
  refine n_newI (N := 64) dX0_init_7 (by decide) (by decide) (Nat.le_of_ble_eq_true rfl) (Nat.le_of_ble_eq_true rfl) (Nat.le_of_ble_eq_true rfl) (fun q1 => ?_)
  refine n_putCF (ci := 0) (k := 5) ⟨13, _, dX0_init_9, rfl, by decide, k_206, rfl, rfl, fun h9 => (by first | rfl | cases h9)⟩ (Nat.le_of_ble_eq_true rfl) rfl rfl rfl rfl ?_
  refine n_aload (j := 0) dX0_init_12 rfl rfl ?_
  refine n_bipush (v := Int32.ofInt 64) dX0_init_13 (by decide) ?_
  refine n_newI (N := 64) dX0_init_15 (by decide) (by decide) (Nat.le_of_ble_eq_true rfl) (Nat.le_of_ble_eq_true rfl) (Nat.le_of_ble_eq_true rfl) (fun q2 => ?_)
  refine n_putCF (ci := 0) (k := 6) ⟨17, _, dX0_init_17, rfl, by decide, k_207, rfl, rfl, fun h9 => (by first | rfl | cases h9)⟩ (Nat.le_of_ble_eq_true rfl) rfl rfl rfl rfl ?_
  refine n_aload (j := 0) dX0_init_20 rfl rfl ?_
  refine n_bipush (v := Int32.ofInt 64) dX0_init_21 (by decide) ?_
  refine n_newI (N := 64) dX0_init_23 (by decide) (by decide) (Nat.le_of_ble_eq_true rfl) (Nat.le_of_ble_eq_true rfl) (Nat.le_of_ble_eq_true rfl) (fun q3 => ?_)
  refine n_putCF (ci := 0) (k := 7) ⟨20, _, dX0_init_25, rfl, by decide, k_208, rfl, rfl, fun h9 => (by first | rfl | cases h9)⟩ (Nat.le_of_ble_eq_true rfl) rfl rfl rfl rfl ?_
  refine n_aload (j := 0) dX0_init_28 rfl rfl ?_
  refine n_bipush (v := Int32.ofInt 64) dX0_init_29 (by decide) ?_
  refine n_newI (N := 64) dX0_init_31 (by decide) (by decide) (Nat.le_of_ble_eq_true rfl) (Nat.le_of_ble_eq_true rfl) (Nat.le_of_ble_eq_true rfl) (fun q4 => ?_)
  refine n_putCF (ci := 0) (k := 8) ⟨23, _, dX0_init_33, rfl, by decide, k_209, rfl, rfl, fun h9 => (by first | rfl | cases h9)⟩ (Nat.le_of_ble_eq_true rfl) rfl rfl rfl rfl ?_
  refine n_aload (j := 0) dX0_init_36 rfl rfl ?_
  refine n_bipush (v := Int32.ofInt 64) dX0_init_37 (by decide) ?_
  refine n_newI (N := 64) dX0_init_39 (by decide) (by decide) (Nat.le_of_ble_eq_true rfl) (Nat.le_of_ble_eq_true rfl) (Nat.le_of_ble_eq_true rfl) (fun q5 => ?_)
  refine n_putCF (ci := 0) (k := 9) ⟨26, _, dX0_init_41, rfl, by decide, k_211, rfl, rfl, fun h9 => (by first | rfl | cases h9)⟩ (Nat.le_of_ble_eq_true rfl) rfl rfl rfl rfl ?_
  refine n_aload (j := 0) dX0_init_44 rfl rfl ?_
  refine n_sipush (v := Int32.ofInt 595) dX0_init_45 (by decide) ?_
  refine n_newJ (N := 595) dX0_init_48 (by decide) (by decide) (Nat.le_of_ble_eq_true rfl) (Nat.le_of_ble_eq_true rfl) (Nat.le_of_ble_eq_true rfl) (fun q6 => ?_)
  refine n_putCF (ci := 0) (k := 10) ⟨29, _, dX0_init_50, rfl, by decide, k_213, rfl, rfl, fun h9 => (by first | rfl | cases h9)⟩ (Nat.le_of_ble_eq_true rfl) rfl rfl rfl rfl ?_
  refine n_aload (j := 0) dX0_init_53 rfl rfl ?_
  refine n_bipush (v := Int32.ofInt 25) dX0_init_54 (by decide) ?_
  refine n_newZ (N := 25) dX0_init_56 (by decide) (by decide) (Nat.le_of_ble_eq_true rfl) (Nat.le_of_ble_eq_true rfl) (Nat.le_of_ble_eq_true rfl) (fun q7 => ?_)
  refine n_putCF (ci := 0) (k := 12) ⟨33, _, dX0_init_58, rfl, by decide, k_218, rfl, rfl, fun h9 => (by first | rfl | cases h9)⟩ (Nat.le_of_ble_eq_true rfl) rfl rfl rfl rfl ?_
  refine n_aload (j := 0) dX0_init_61 rfl rfl ?_
  refine n_bipush (v := Int32.ofInt 64) dX0_init_62 (by decide) ?_
  refine n_newI (N := 64) dX0_init_64 (by decide) (by decide) (Nat.le_of_ble_eq_true rfl) (Nat.le_of_ble_eq_true rfl) (Nat.le_of_ble_eq_true rfl) (fun q8 => ?_)
  refine n_putCF (ci := 0) (k := 13) ⟨37, _, dX0_init_66, rfl, by decide, k_219, rfl, rfl, fun h9 => (by first | rfl | cases h9)⟩ (Nat.le_of_ble_eq_true rfl) rfl rfl rfl rfl ?_
  exact n_ret (fun i => [h0, q1, q2, q3, q4, q5, q6, q7, q8].getD i 0) dX0_init_69 rfl rfl rfl (Nat.le_of_ble_eq_true rfl) (Nat.le_of_ble_eq_true rfl)
def M_X6_init : AMeth := (yX6_init, cX6_init, 1, none, 1, 20)
theorem ok_X6_init : cn_Ok M_X6_init 0 := ⟨k_267, k_266, k_133, rfl, rfl, by decide +kernel⟩
def cn_W6 (X : AX) (f : Nat → Nat) : va_W := [(f 0, .inr (6, [.int (Int32.ofInt 0), .int (Int32.ofInt 0), .int (Int32.ofInt 0), .int (Int32.ofInt 0)]))]
set_option maxRecDepth 20000 in
set_option maxHeartbeats 4000000 in
theorem c_X6_init (X : AX) (h0 : Nat) (sz : Nat) : Met (gL (GG X)) M_X6_init.1 (am_ws M_X6_init) (cn_R M_X6_init 0 0) (cn_Pc (GG X) X.2.1 h0 [] 6 cn_d6 sz) (cn_Q (GG X) X.2.1 h0 6 cn_d6 (fun f : Nat → Nat => f 0 = h0) (cn_W6 X) sz) 0 0 (va_A [(h0, .inr (6, cn_d6))] sz) := by
  refine cn_met (by decide +kernel) rfl rfl (Nat.le_of_ble_eq_true rfl) (fun p e s m args below meth c lsA => ?_) sz
  refine n_aload (j := 0) dX6_init_0 rfl rfl ?_
  refine n_obj dX6_init_1 k_268 k_155 k_156 ⟨(Nat.le_of_ble_eq_true rfl), (Nat.le_of_ble_eq_true rfl)⟩ ?_
  exact n_ret (fun i => [h0].getD i 0) dX6_init_4 rfl rfl rfl (Nat.le_of_ble_eq_true rfl) (Nat.le_of_ble_eq_true rfl)
def M_X4_init : AMeth := (yX4_init, cX4_init, 1, none, 1, 20)
theorem ok_X4_init : cn_Ok M_X4_init 0 := ⟨k_287, k_286, k_134, rfl, rfl, by decide +kernel⟩
def cn_W4 (X : AX) (f : Nat → Nat) : va_W := [(f 0, .inr (4, [.int (Int32.ofInt 0), .ref (f 1), .ref (f 2)])), (f 1, .inl (X.2.1 0, 3993, .inl fun _ => Int32.ofInt 0)), (f 2, .inl (X.2.1 0, 121, .inl fun _ => Int32.ofInt 0))]
set_option maxRecDepth 20000 in
set_option maxHeartbeats 4000000 in
theorem c_X4_init (X : AX) (h0 : Nat) (sz : Nat) : Met (gL (GG X)) M_X4_init.1 (am_ws M_X4_init) (cn_R M_X4_init 2 4114) (cn_Pc (GG X) X.2.1 h0 [] 4 cn_d4 sz) (cn_Q (GG X) X.2.1 h0 4 cn_d4 (fun f : Nat → Nat => f 0 = h0) (cn_W4 X) sz) 2 4114 (va_A [(h0, .inr (4, cn_d4))] sz) := by
  refine cn_met (by decide +kernel) rfl rfl (Nat.le_of_ble_eq_true rfl) (fun p e s m args below meth c lsA => ?_) sz
  refine n_aload (j := 0) dX4_init_0 rfl rfl ?_
  refine n_obj dX4_init_1 k_288 k_155 k_156 ⟨(Nat.le_of_ble_eq_true rfl), (Nat.le_of_ble_eq_true rfl)⟩ ?_
  refine n_aload (j := 0) dX4_init_4 rfl rfl ?_
  refine n_sipush (v := Int32.ofInt 3993) dX4_init_5 (by decide) ?_
  refine n_newI (N := 3993) dX4_init_8 (by decide) (by decide) (Nat.le_of_ble_eq_true rfl) (Nat.le_of_ble_eq_true rfl) (Nat.le_of_ble_eq_true rfl) (fun q1 => ?_)
  refine n_putCF (ci := 4) (k := 1) ⟨13, _, dX4_init_10, rfl, by decide, k_291, rfl, rfl, fun h9 => (by first | rfl | cases h9)⟩ (Nat.le_of_ble_eq_true rfl) rfl rfl rfl rfl ?_
  refine n_aload (j := 0) dX4_init_13 rfl rfl ?_
  refine n_bipush (v := Int32.ofInt 121) dX4_init_14 (by decide) ?_
  refine n_newI (N := 121) dX4_init_16 (by decide) (by decide) (Nat.le_of_ble_eq_true rfl) (Nat.le_of_ble_eq_true rfl) (Nat.le_of_ble_eq_true rfl) (fun q2 => ?_)
  refine n_putCF (ci := 4) (k := 2) ⟨17, _, dX4_init_18, rfl, by decide, k_292, rfl, rfl, fun h9 => (by first | rfl | cases h9)⟩ (Nat.le_of_ble_eq_true rfl) rfl rfl rfl rfl ?_
  exact n_ret (fun i => [h0, q1, q2].getD i 0) dX4_init_21 rfl rfl rfl (Nat.le_of_ble_eq_true rfl) (Nat.le_of_ble_eq_true rfl)
def M_X3_init : AMeth := (yX3_init, cX3_init, 3, none, 1, 20)
theorem ok_X3_init : cn_Ok M_X3_init 2 := ⟨k_405, k_404, k_137, rfl, rfl, by decide +kernel⟩
def cn_W3 (X : AX) (a1 a2 : Nat) (f : Nat → Nat) : va_W := [(f 0, .inr (3, [.int (Int32.ofInt 0), .int (Int32.ofInt (-1)), .ref a1, .int (Int32.ofInt 0), .int (Int32.ofInt 0), .int (Int32.ofInt 0), .int (Int32.ofInt 0), .ref a2, .ref (f 1), .ref (f 2)])), (f 1, .inl (X.2.1 1, 3, .inl fun _ => Int32.ofInt 0)), (f 2, .inl (X.2.1 1, 4, .inl fun _ => Int32.ofInt 0))]
set_option maxRecDepth 20000 in
set_option maxHeartbeats 4000000 in
theorem c_X3_init (X : AX) (h0 a1 a2 : Nat) (sz : Nat) : Met (gL (GG X)) M_X3_init.1 (am_ws M_X3_init) (cn_R M_X3_init 2 7) (cn_Pc (GG X) X.2.1 h0 [.ref a1, .ref a2] 3 cn_d3 sz) (cn_Q (GG X) X.2.1 h0 3 cn_d3 (fun f : Nat → Nat => f 0 = h0) (cn_W3 X a1 a2) sz) 2 7 (va_A [(h0, .inr (3, cn_d3))] sz) := by
  refine cn_met (by decide +kernel) rfl rfl (Nat.le_of_ble_eq_true rfl) (fun p e s m args below meth c lsA => ?_) sz
  refine n_aload (j := 0) dX3_init_0 rfl rfl ?_
  refine n_obj dX3_init_1 k_406 k_155 k_156 ⟨(Nat.le_of_ble_eq_true rfl), (Nat.le_of_ble_eq_true rfl)⟩ ?_
  refine n_aload (j := 0) dX3_init_4 rfl rfl ?_
  refine n_iconst (v := Int32.ofInt (-1)) dX3_init_5 (by decide) ?_
  refine n_putC (ci := 3) (k := 1) ⟨9, _, dX3_init_6, rfl, by decide, k_409, rfl, rfl, fun h9 => (by first | rfl | cases h9)⟩ (Nat.le_of_ble_eq_true rfl) rfl rfl rfl rfl ?_
  refine n_aload (j := 0) dX3_init_9 rfl rfl ?_
  refine n_iconst (v := Int32.ofInt 3) dX3_init_10 (by decide) ?_
  refine n_newZ (N := 3) dX3_init_11 (by decide) (by decide) (Nat.le_of_ble_eq_true rfl) (Nat.le_of_ble_eq_true rfl) (Nat.le_of_ble_eq_true rfl) (fun q1 => ?_)
  refine n_putCF (ci := 3) (k := 8) ⟨15, _, dX3_init_13, rfl, by decide, k_417, rfl, rfl, fun h9 => (by first | rfl | cases h9)⟩ (Nat.le_of_ble_eq_true rfl) rfl rfl rfl rfl ?_
  refine n_aload (j := 0) dX3_init_16 rfl rfl ?_
  refine n_iconst (v := Int32.ofInt 4) dX3_init_17 (by decide) ?_
  refine n_newZ (N := 4) dX3_init_18 (by decide) (by decide) (Nat.le_of_ble_eq_true rfl) (Nat.le_of_ble_eq_true rfl) (Nat.le_of_ble_eq_true rfl) (fun q2 => ?_)
  refine n_putCF (ci := 3) (k := 9) ⟨19, _, dX3_init_20, rfl, by decide, k_418, rfl, rfl, fun h9 => (by first | rfl | cases h9)⟩ (Nat.le_of_ble_eq_true rfl) rfl rfl rfl rfl ?_
  refine n_aload (j := 0) dX3_init_23 rfl rfl ?_
  refine n_aload (j := 1) dX3_init_24 rfl rfl ?_
  refine n_putCF (ci := 3) (k := 2) ⟨22, _, dX3_init_25, rfl, by decide, k_411, rfl, rfl, fun h9 => (by first | rfl | cases h9)⟩ (Nat.le_of_ble_eq_true rfl) rfl rfl rfl rfl ?_
  refine n_aload (j := 0) dX3_init_28 rfl rfl ?_
  refine n_aload (j := 2) dX3_init_29 rfl rfl ?_
  refine n_putC (ci := 3) (k := 7) ⟨26, _, dX3_init_30, rfl, by decide, k_416, rfl, rfl, fun h9 => (by first | rfl | cases h9)⟩ (Nat.le_of_ble_eq_true rfl) rfl rfl rfl rfl ?_
  exact n_ret (fun i => [h0, q1, q2].getD i 0) dX3_init_33 rfl rfl rfl (Nat.le_of_ble_eq_true rfl) (Nat.le_of_ble_eq_true rfl)
def M_X8_init : AMeth := (yX8_init, cX8_init, 1, none, 1, 20)
theorem ok_X8_init : cn_Ok M_X8_init 0 := ⟨k_1281, k_1280, k_138, rfl, rfl, by decide +kernel⟩
def cn_W8 (X : AX) (f : Nat → Nat) : va_W := [(f 0, .inr (8, [.int (Int32.ofInt 0), .int (Int32.ofInt 4), .int (Int32.ofInt 4), .ref (f 1), .int (Int32.ofInt 0), .int (Int32.ofInt 9), .ref (f 2), .int (Int32.ofInt 0), .ref (f 3), .ref (f 4), .ref (f 5), .int (Int32.ofInt 0), .ref (f 6), .ref (f 7), .ref (f 8), .ref (f 9), .ref (f 10), .int (Int32.ofInt 0), .ref (f 11), .int (Int32.ofInt 9), .ref (f 12), .int (Int32.ofInt 0), .int (Int32.ofInt 0), .int (Int32.ofInt 0), .int (Int32.ofInt 0), .ref (f 13), .ref (f 14), .ref (f 15), .ref (f 16), .int (Int32.ofInt 0), .int (Int32.ofInt 0), .int (Int32.ofInt 0), .int (Int32.ofInt 0), .int (Int32.ofInt 0), .ref (f 17), .int (Int32.ofInt 0), .int (Int32.ofInt 0), .int (Int32.ofInt 0), .int (Int32.ofInt 0), .int (Int32.ofInt 0), .int (Int32.ofInt 0), .int (Int32.ofInt 0), .int (Int32.ofInt (-1)), .int (Int32.ofInt 0), .int (Int32.ofInt 0), .int (Int32.ofInt 0), .ref (f 18), .int (Int32.ofInt 0), .int (Int32.ofInt 0), .ref (f 19), .int (Int32.ofInt 0), .ref (f 20), .ref (f 21), .ref (f 22), .int (Int32.ofInt 0), .int (Int32.ofInt 0), .ref (f 23), .int (Int32.ofInt 0), .ref (f 24), .ref (f 25), .int (Int32.ofInt 0), .ref (f 26), .ref (f 27), .ref (f 28), .int (Int32.ofInt 0)])), (f 1, .inl (X.2.1 0, 6, .inl fun _ => Int32.ofInt 0)), (f 2, .inl (X.2.1 0, 4, .inl fun j => Int32.ofInt (cn_w j))), (f 3, .inl (X.2.1 0, 64, .inl fun _ => Int32.ofInt 0)), (f 4, .inl (X.2.1 1, 64, .inl fun _ => Int32.ofInt 0)), (f 5, .inl (X.2.1 0, 64, .inl fun _ => Int32.ofInt 0)), (f 6, .inl (X.2.1 0, 64, .inl fun _ => Int32.ofInt 0)), (f 7, .inl (X.2.1 0, 64, .inl fun _ => Int32.ofInt 0)), (f 8, .inl (X.2.1 0, 64, .inl fun _ => Int32.ofInt 0)), (f 9, .inl (X.2.1 0, 33, .inl fun _ => Int32.ofInt 0)), (f 10, .inl (X.2.1 0, 33, .inl fun _ => Int32.ofInt 0)), (f 11, .inl (X.2.1 0, 64, .inl fun _ => Int32.ofInt 0)), (f 12, .inl (X.2.1 0, 64, .inl fun _ => Int32.ofInt 0)), (f 13, .inl (X.2.1 0, 2100, .inl fun _ => Int32.ofInt 0)), (f 14, .inl (X.2.1 0, 2100, .inl fun _ => Int32.ofInt 0)), (f 15, .inl (X.2.1 0, 2100, .inl fun _ => Int32.ofInt 0)), (f 16, .inl (X.2.1 0, 2100, .inl fun _ => Int32.ofInt 0)), (f 17, .inl (X.2.1 2, 900, .inl fun _ => Int32.ofInt 0)), (f 18, .inl (X.2.1 0, 6, .inl fun _ => Int32.ofInt 0)), (f 19, .inl (X.2.1 0, 4, .inl fun _ => Int32.ofInt 0)), (f 20, .inl (X.2.1 0, 64, .inl fun _ => Int32.ofInt 0)), (f 21, .inl (X.2.1 1, 64, .inl fun _ => Int32.ofInt 0)), (f 22, .inl (X.2.1 0, 64, .inl fun _ => Int32.ofInt 0)), (f 23, .inl (X.2.1 1, 4, .inl fun _ => Int32.ofInt 0)), (f 24, .inl (X.2.1 0, 20, .inl fun _ => Int32.ofInt 0)), (f 25, .inl (X.2.1 0, 20, .inl fun _ => Int32.ofInt 0)), (f 26, .inl (X.2.1 0, 3993, .inl fun _ => Int32.ofInt 0)), (f 27, .inl (X.2.1 0, 32, .inl fun _ => Int32.ofInt 0)), (f 28, .inl (X.2.1 0, 32, .inl fun _ => Int32.ofInt 0))]
set_option maxRecDepth 20000 in
set_option maxHeartbeats 4000000 in
theorem c_X8_init (X : AX) (h0 : Nat) (sz : Nat) : Met (gL (GG X)) M_X8_init.1 (am_ws M_X8_init) (cn_R M_X8_init 28 14191) (cn_Pc (GG X) X.2.1 h0 [] 8 cn_d8 sz) (cn_Q (GG X) X.2.1 h0 8 cn_d8 (fun f : Nat → Nat => f 0 = h0) (cn_W8 X) sz) 28 14191 (va_A [(h0, .inr (8, cn_d8))] sz) := by
  refine cn_met (by decide +kernel) rfl rfl (Nat.le_of_ble_eq_true rfl) (fun p e s m args below meth c lsA => ?_) sz
  refine n_aload (j := 0) dX8_init_0 rfl rfl ?_
  refine n_obj dX8_init_1 k_1282 k_155 k_156 ⟨(Nat.le_of_ble_eq_true rfl), (Nat.le_of_ble_eq_true rfl)⟩ ?_
  refine n_aload (j := 0) dX8_init_4 rfl rfl ?_
  refine n_iconst (v := Int32.ofInt 4) dX8_init_5 (by decide) ?_
  refine n_putC (ci := 8) (k := 1) (fs' := [.int (Int32.ofInt 0), .int (Int32.ofInt 4), .int (Int32.ofInt 0), .null, .int (Int32.ofInt 0), .int (Int32.ofInt 0), .null, .int (Int32.ofInt 0), .null, .null, .null, .int (Int32.ofInt 0), .null, .null, .null, .null, .null, .int (Int32.ofInt 0), .null, .int (Int32.ofInt 0), .null, .int (Int32.ofInt 0), .int (Int32.ofInt 0), .int (Int32.ofInt 0), .int (Int32.ofInt 0), .null, .null, .null, .null, .int (Int32.ofInt 0), .int (Int32.ofInt 0), .int (Int32.ofInt 0), .int (Int32.ofInt 0), .int (Int32.ofInt 0), .null, .int (Int32.ofInt 0), .int (Int32.ofInt 0), .int (Int32.ofInt 0), .int (Int32.ofInt 0), .int (Int32.ofInt 0), .int (Int32.ofInt 0), .int (Int32.ofInt 0), .int (Int32.ofInt 0), .int (Int32.ofInt 0), .int (Int32.ofInt 0), .int (Int32.ofInt 0), .null, .int (Int32.ofInt 0), .int (Int32.ofInt 0), .null, .int (Int32.ofInt 0), .null, .null, .null, .int (Int32.ofInt 0), .int (Int32.ofInt 0), .null, .int (Int32.ofInt 0), .null, .null, .int (Int32.ofInt 0), .null, .null, .null, .int (Int32.ofInt 0)]) (tl' := []) ⟨7, _, dX8_init_6, rfl, by decide, k_1284, rfl, rfl, fun h9 => (by first | rfl | cases h9)⟩ (Nat.le_of_ble_eq_true rfl) rfl rfl rfl rfl ?_
  refine n_aload (j := 0) dX8_init_9 rfl rfl ?_
  refine n_iconst (v := Int32.ofInt 4) dX8_init_10 (by decide) ?_
  refine n_putC (ci := 8) (k := 2) (fs' := [.int (Int32.ofInt 0), .int (Int32.ofInt 4), .int (Int32.ofInt 4), .null, .int (Int32.ofInt 0), .int (Int32.ofInt 0), .null, .int (Int32.ofInt 0), .null, .null, .null, .int (Int32.ofInt 0), .null, .null, .null, .null, .null, .int (Int32.ofInt 0), .null, .int (Int32.ofInt 0), .null, .int (Int32.ofInt 0), .int (Int32.ofInt 0), .int (Int32.ofInt 0), .int (Int32.ofInt 0), .null, .null, .null, .null, .int (Int32.ofInt 0), .int (Int32.ofInt 0), .int (Int32.ofInt 0), .int (Int32.ofInt 0), .int (Int32.ofInt 0), .null, .int (Int32.ofInt 0), .int (Int32.ofInt 0), .int (Int32.ofInt 0), .int (Int32.ofInt 0), .int (Int32.ofInt 0), .int (Int32.ofInt 0), .int (Int32.ofInt 0), .int (Int32.ofInt 0), .int (Int32.ofInt 0), .int (Int32.ofInt 0), .int (Int32.ofInt 0), .null, .int (Int32.ofInt 0), .int (Int32.ofInt 0), .null, .int (Int32.ofInt 0), .null, .null, .null, .int (Int32.ofInt 0), .int (Int32.ofInt 0), .null, .int (Int32.ofInt 0), .null, .null, .int (Int32.ofInt 0), .null, .null, .null, .int (Int32.ofInt 0)]) (tl' := []) ⟨13, _, dX8_init_11, rfl, by decide, k_1285, rfl, rfl, fun h9 => (by first | rfl | cases h9)⟩ (Nat.le_of_ble_eq_true rfl) rfl rfl rfl rfl ?_
  refine n_aload (j := 0) dX8_init_14 rfl rfl ?_
  refine n_bipush (v := Int32.ofInt 6) dX8_init_15 (by decide) ?_
  refine n_newI (N := 6) dX8_init_17 (by decide) (by decide) (Nat.le_of_ble_eq_true rfl) (Nat.le_of_ble_eq_true rfl) (Nat.le_of_ble_eq_true rfl) (fun q1 => ?_)
  refine n_putCF (ci := 8) (k := 3) (fs' := [.int (Int32.ofInt 0), .int (Int32.ofInt 4), .int (Int32.ofInt 4), .ref q1, .int (Int32.ofInt 0), .int (Int32.ofInt 0), .null, .int (Int32.ofInt 0), .null, .null, .null, .int (Int32.ofInt 0), .null, .null, .null, .null, .null, .int (Int32.ofInt 0), .null, .int (Int32.ofInt 0), .null, .int (Int32.ofInt 0), .int (Int32.ofInt 0), .int (Int32.ofInt 0), .int (Int32.ofInt 0), .null, .null, .null, .null, .int (Int32.ofInt 0), .int (Int32.ofInt 0), .int (Int32.ofInt 0), .int (Int32.ofInt 0), .int (Int32.ofInt 0), .null, .int (Int32.ofInt 0), .int (Int32.ofInt 0), .int (Int32.ofInt 0), .int (Int32.ofInt 0), .int (Int32.ofInt 0), .int (Int32.ofInt 0), .int (Int32.ofInt 0), .int (Int32.ofInt 0), .int (Int32.ofInt 0), .int (Int32.ofInt 0), .int (Int32.ofInt 0), .null, .int (Int32.ofInt 0), .int (Int32.ofInt 0), .null, .int (Int32.ofInt 0), .null, .null, .null, .int (Int32.ofInt 0), .int (Int32.ofInt 0), .null, .int (Int32.ofInt 0), .null, .null, .int (Int32.ofInt 0), .null, .null, .null, .int (Int32.ofInt 0)]) (tl' := [(q1, .inl (X.2.1 0, 6, .inl fun _ => Int32.ofInt 0))]) ⟨16, _, dX8_init_19, rfl, by decide, k_1286, rfl, rfl, fun h9 => (by first | rfl | cases h9)⟩ (Nat.le_of_ble_eq_true rfl) rfl rfl rfl rfl ?_
  refine n_aload (j := 0) dX8_init_22 rfl rfl ?_
  refine n_bipush (v := Int32.ofInt 9) dX8_init_23 (by decide) ?_
  refine n_putC (ci := 8) (k := 5) (fs' := [.int (Int32.ofInt 0), .int (Int32.ofInt 4), .int (Int32.ofInt 4), .ref q1, .int (Int32.ofInt 0), .int (Int32.ofInt 9), .null, .int (Int32.ofInt 0), .null, .null, .null, .int (Int32.ofInt 0), .null, .null, .null, .null, .null, .int (Int32.ofInt 0), .null, .int (Int32.ofInt 0), .null, .int (Int32.ofInt 0), .int (Int32.ofInt 0), .int (Int32.ofInt 0), .int (Int32.ofInt 0), .null, .null, .null, .null, .int (Int32.ofInt 0), .int (Int32.ofInt 0), .int (Int32.ofInt 0), .int (Int32.ofInt 0), .int (Int32.ofInt 0), .null, .int (Int32.ofInt 0), .int (Int32.ofInt 0), .int (Int32.ofInt 0), .int (Int32.ofInt 0), .int (Int32.ofInt 0), .int (Int32.ofInt 0), .int (Int32.ofInt 0), .int (Int32.ofInt 0), .int (Int32.ofInt 0), .int (Int32.ofInt 0), .int (Int32.ofInt 0), .null, .int (Int32.ofInt 0), .int (Int32.ofInt 0), .null, .int (Int32.ofInt 0), .null, .null, .null, .int (Int32.ofInt 0), .int (Int32.ofInt 0), .null, .int (Int32.ofInt 0), .null, .null, .int (Int32.ofInt 0), .null, .null, .null, .int (Int32.ofInt 0)]) (tl' := [(q1, .inl (X.2.1 0, 6, .inl fun _ => Int32.ofInt 0))]) ⟨20, _, dX8_init_25, rfl, by decide, k_1288, rfl, rfl, fun h9 => (by first | rfl | cases h9)⟩ (Nat.le_of_ble_eq_true rfl) rfl rfl rfl rfl ?_
  refine n_aload (j := 0) dX8_init_28 rfl rfl ?_
  refine n_iconst (v := Int32.ofInt 4) dX8_init_29 (by decide) ?_
  refine n_newI (N := 4) dX8_init_30 (by decide) (by decide) (Nat.le_of_ble_eq_true rfl) (Nat.le_of_ble_eq_true rfl) (Nat.le_of_ble_eq_true rfl) (fun q2 => ?_)
  refine n_dup dX8_init_32 rfl ?_
  refine n_iconst (v := Int32.ofInt 0) dX8_init_33 (by decide) ?_
  refine n_bipush (v := Int32.ofInt 24) dX8_init_34 (by decide) ?_
  refine n_iast (j0 := 2) (N := 4) dX8_init_36 rfl (by unfold vp_in; decide) ?_
  refine n_dup dX8_init_37 rfl ?_
  refine n_iconst (v := Int32.ofInt 1) dX8_init_38 (by decide) ?_
  refine n_bipush (v := Int32.ofInt 16) dX8_init_39 (by decide) ?_
  refine n_iast (j0 := 2) (N := 4) dX8_init_41 rfl (by unfold vp_in; decide) ?_
  refine n_dup dX8_init_42 rfl ?_
  refine n_iconst (v := Int32.ofInt 2) dX8_init_43 (by decide) ?_
  refine n_bipush (v := Int32.ofInt 12) dX8_init_44 (by decide) ?_
  refine n_iast (j0 := 2) (N := 4) dX8_init_46 rfl (by unfold vp_in; decide) ?_
  refine n_dup dX8_init_47 rfl ?_
  refine n_iconst (v := Int32.ofInt 3) dX8_init_48 (by decide) ?_
  refine n_bipush (v := Int32.ofInt 9) dX8_init_49 (by decide) ?_
  refine n_iastE (j0 := 2) (N := 4) dX8_init_51 rfl (by unfold vp_in; decide) cn_wide ?_
  refine n_putCF (ci := 8) (k := 6) (fs' := [.int (Int32.ofInt 0), .int (Int32.ofInt 4), .int (Int32.ofInt 4), .ref q1, .int (Int32.ofInt 0), .int (Int32.ofInt 9), .ref q2, .int (Int32.ofInt 0), .null, .null, .null, .int (Int32.ofInt 0), .null, .null, .null, .null, .null, .int (Int32.ofInt 0), .null, .int (Int32.ofInt 0), .null, .int (Int32.ofInt 0), .int (Int32.ofInt 0), .int (Int32.ofInt 0), .int (Int32.ofInt 0), .null, .null, .null, .null, .int (Int32.ofInt 0), .int (Int32.ofInt 0), .int (Int32.ofInt 0), .int (Int32.ofInt 0), .int (Int32.ofInt 0), .null, .int (Int32.ofInt 0), .int (Int32.ofInt 0), .int (Int32.ofInt 0), .int (Int32.ofInt 0), .int (Int32.ofInt 0), .int (Int32.ofInt 0), .int (Int32.ofInt 0), .int (Int32.ofInt 0), .int (Int32.ofInt 0), .int (Int32.ofInt 0), .int (Int32.ofInt 0), .null, .int (Int32.ofInt 0), .int (Int32.ofInt 0), .null, .int (Int32.ofInt 0), .null, .null, .null, .int (Int32.ofInt 0), .int (Int32.ofInt 0), .null, .int (Int32.ofInt 0), .null, .null, .int (Int32.ofInt 0), .null, .null, .null, .int (Int32.ofInt 0)]) (tl' := [(q1, .inl (X.2.1 0, 6, .inl fun _ => Int32.ofInt 0)), (q2, .inl (X.2.1 0, 4, .inl fun j => Int32.ofInt (cn_w j)))]) ⟨23, _, dX8_init_52, rfl, by decide, k_1289, rfl, rfl, fun h9 => (by first | rfl | cases h9)⟩ (Nat.le_of_ble_eq_true rfl) rfl rfl rfl rfl ?_
  refine n_aload (j := 0) dX8_init_55 rfl rfl ?_
  refine n_bipush (v := Int32.ofInt 64) dX8_init_56 (by decide) ?_
  refine n_newI (N := 64) dX8_init_58 (by decide) (by decide) (Nat.le_of_ble_eq_true rfl) (Nat.le_of_ble_eq_true rfl) (Nat.le_of_ble_eq_true rfl) (fun q3 => ?_)
  refine n_putCF (ci := 8) (k := 8) (fs' := [.int (Int32.ofInt 0), .int (Int32.ofInt 4), .int (Int32.ofInt 4), .ref q1, .int (Int32.ofInt 0), .int (Int32.ofInt 9), .ref q2, .int (Int32.ofInt 0), .ref q3, .null, .null, .int (Int32.ofInt 0), .null, .null, .null, .null, .null, .int (Int32.ofInt 0), .null, .int (Int32.ofInt 0), .null, .int (Int32.ofInt 0), .int (Int32.ofInt 0), .int (Int32.ofInt 0), .int (Int32.ofInt 0), .null, .null, .null, .null, .int (Int32.ofInt 0), .int (Int32.ofInt 0), .int (Int32.ofInt 0), .int (Int32.ofInt 0), .int (Int32.ofInt 0), .null, .int (Int32.ofInt 0), .int (Int32.ofInt 0), .int (Int32.ofInt 0), .int (Int32.ofInt 0), .int (Int32.ofInt 0), .int (Int32.ofInt 0), .int (Int32.ofInt 0), .int (Int32.ofInt 0), .int (Int32.ofInt 0), .int (Int32.ofInt 0), .int (Int32.ofInt 0), .null, .int (Int32.ofInt 0), .int (Int32.ofInt 0), .null, .int (Int32.ofInt 0), .null, .null, .null, .int (Int32.ofInt 0), .int (Int32.ofInt 0), .null, .int (Int32.ofInt 0), .null, .null, .int (Int32.ofInt 0), .null, .null, .null, .int (Int32.ofInt 0)]) (tl' := [(q1, .inl (X.2.1 0, 6, .inl fun _ => Int32.ofInt 0)), (q2, .inl (X.2.1 0, 4, .inl fun j => Int32.ofInt (cn_w j))), (q3, .inl (X.2.1 0, 64, .inl fun _ => Int32.ofInt 0))]) ⟨26, _, dX8_init_60, rfl, by decide, k_1291, rfl, rfl, fun h9 => (by first | rfl | cases h9)⟩ (Nat.le_of_ble_eq_true rfl) rfl rfl rfl rfl ?_
  refine n_aload (j := 0) dX8_init_63 rfl rfl ?_
  refine n_bipush (v := Int32.ofInt 64) dX8_init_64 (by decide) ?_
  refine n_newZ (N := 64) dX8_init_66 (by decide) (by decide) (Nat.le_of_ble_eq_true rfl) (Nat.le_of_ble_eq_true rfl) (Nat.le_of_ble_eq_true rfl) (fun q4 => ?_)
  refine n_putCF (ci := 8) (k := 9) (fs' := [.int (Int32.ofInt 0), .int (Int32.ofInt 4), .int (Int32.ofInt 4), .ref q1, .int (Int32.ofInt 0), .int (Int32.ofInt 9), .ref q2, .int (Int32.ofInt 0), .ref q3, .ref q4, .null, .int (Int32.ofInt 0), .null, .null, .null, .null, .null, .int (Int32.ofInt 0), .null, .int (Int32.ofInt 0), .null, .int (Int32.ofInt 0), .int (Int32.ofInt 0), .int (Int32.ofInt 0), .int (Int32.ofInt 0), .null, .null, .null, .null, .int (Int32.ofInt 0), .int (Int32.ofInt 0), .int (Int32.ofInt 0), .int (Int32.ofInt 0), .int (Int32.ofInt 0), .null, .int (Int32.ofInt 0), .int (Int32.ofInt 0), .int (Int32.ofInt 0), .int (Int32.ofInt 0), .int (Int32.ofInt 0), .int (Int32.ofInt 0), .int (Int32.ofInt 0), .int (Int32.ofInt 0), .int (Int32.ofInt 0), .int (Int32.ofInt 0), .int (Int32.ofInt 0), .null, .int (Int32.ofInt 0), .int (Int32.ofInt 0), .null, .int (Int32.ofInt 0), .null, .null, .null, .int (Int32.ofInt 0), .int (Int32.ofInt 0), .null, .int (Int32.ofInt 0), .null, .null, .int (Int32.ofInt 0), .null, .null, .null, .int (Int32.ofInt 0)]) (tl' := [(q1, .inl (X.2.1 0, 6, .inl fun _ => Int32.ofInt 0)), (q2, .inl (X.2.1 0, 4, .inl fun j => Int32.ofInt (cn_w j))), (q3, .inl (X.2.1 0, 64, .inl fun _ => Int32.ofInt 0)), (q4, .inl (X.2.1 1, 64, .inl fun _ => Int32.ofInt 0))]) ⟨29, _, dX8_init_68, rfl, by decide, k_1292, rfl, rfl, fun h9 => (by first | rfl | cases h9)⟩ (Nat.le_of_ble_eq_true rfl) rfl rfl rfl rfl ?_
  refine n_aload (j := 0) dX8_init_71 rfl rfl ?_
  refine n_bipush (v := Int32.ofInt 64) dX8_init_72 (by decide) ?_
  refine n_newI (N := 64) dX8_init_74 (by decide) (by decide) (Nat.le_of_ble_eq_true rfl) (Nat.le_of_ble_eq_true rfl) (Nat.le_of_ble_eq_true rfl) (fun q5 => ?_)
  refine n_putCF (ci := 8) (k := 10) (fs' := [.int (Int32.ofInt 0), .int (Int32.ofInt 4), .int (Int32.ofInt 4), .ref q1, .int (Int32.ofInt 0), .int (Int32.ofInt 9), .ref q2, .int (Int32.ofInt 0), .ref q3, .ref q4, .ref q5, .int (Int32.ofInt 0), .null, .null, .null, .null, .null, .int (Int32.ofInt 0), .null, .int (Int32.ofInt 0), .null, .int (Int32.ofInt 0), .int (Int32.ofInt 0), .int (Int32.ofInt 0), .int (Int32.ofInt 0), .null, .null, .null, .null, .int (Int32.ofInt 0), .int (Int32.ofInt 0), .int (Int32.ofInt 0), .int (Int32.ofInt 0), .int (Int32.ofInt 0), .null, .int (Int32.ofInt 0), .int (Int32.ofInt 0), .int (Int32.ofInt 0), .int (Int32.ofInt 0), .int (Int32.ofInt 0), .int (Int32.ofInt 0), .int (Int32.ofInt 0), .int (Int32.ofInt 0), .int (Int32.ofInt 0), .int (Int32.ofInt 0), .int (Int32.ofInt 0), .null, .int (Int32.ofInt 0), .int (Int32.ofInt 0), .null, .int (Int32.ofInt 0), .null, .null, .null, .int (Int32.ofInt 0), .int (Int32.ofInt 0), .null, .int (Int32.ofInt 0), .null, .null, .int (Int32.ofInt 0), .null, .null, .null, .int (Int32.ofInt 0)]) (tl' := [(q1, .inl (X.2.1 0, 6, .inl fun _ => Int32.ofInt 0)), (q2, .inl (X.2.1 0, 4, .inl fun j => Int32.ofInt (cn_w j))), (q3, .inl (X.2.1 0, 64, .inl fun _ => Int32.ofInt 0)), (q4, .inl (X.2.1 1, 64, .inl fun _ => Int32.ofInt 0)), (q5, .inl (X.2.1 0, 64, .inl fun _ => Int32.ofInt 0))]) ⟨33, _, dX8_init_76, rfl, by decide, k_1293, rfl, rfl, fun h9 => (by first | rfl | cases h9)⟩ (Nat.le_of_ble_eq_true rfl) rfl rfl rfl rfl ?_
  refine n_aload (j := 0) dX8_init_79 rfl rfl ?_
  refine n_bipush (v := Int32.ofInt 64) dX8_init_80 (by decide) ?_
  refine n_newI (N := 64) dX8_init_82 (by decide) (by decide) (Nat.le_of_ble_eq_true rfl) (Nat.le_of_ble_eq_true rfl) (Nat.le_of_ble_eq_true rfl) (fun q6 => ?_)
  refine n_putCF (ci := 8) (k := 12) (fs' := [.int (Int32.ofInt 0), .int (Int32.ofInt 4), .int (Int32.ofInt 4), .ref q1, .int (Int32.ofInt 0), .int (Int32.ofInt 9), .ref q2, .int (Int32.ofInt 0), .ref q3, .ref q4, .ref q5, .int (Int32.ofInt 0), .ref q6, .null, .null, .null, .null, .int (Int32.ofInt 0), .null, .int (Int32.ofInt 0), .null, .int (Int32.ofInt 0), .int (Int32.ofInt 0), .int (Int32.ofInt 0), .int (Int32.ofInt 0), .null, .null, .null, .null, .int (Int32.ofInt 0), .int (Int32.ofInt 0), .int (Int32.ofInt 0), .int (Int32.ofInt 0), .int (Int32.ofInt 0), .null, .int (Int32.ofInt 0), .int (Int32.ofInt 0), .int (Int32.ofInt 0), .int (Int32.ofInt 0), .int (Int32.ofInt 0), .int (Int32.ofInt 0), .int (Int32.ofInt 0), .int (Int32.ofInt 0), .int (Int32.ofInt 0), .int (Int32.ofInt 0), .int (Int32.ofInt 0), .null, .int (Int32.ofInt 0), .int (Int32.ofInt 0), .null, .int (Int32.ofInt 0), .null, .null, .null, .int (Int32.ofInt 0), .int (Int32.ofInt 0), .null, .int (Int32.ofInt 0), .null, .null, .int (Int32.ofInt 0), .null, .null, .null, .int (Int32.ofInt 0)]) (tl' := [(q1, .inl (X.2.1 0, 6, .inl fun _ => Int32.ofInt 0)), (q2, .inl (X.2.1 0, 4, .inl fun j => Int32.ofInt (cn_w j))), (q3, .inl (X.2.1 0, 64, .inl fun _ => Int32.ofInt 0)), (q4, .inl (X.2.1 1, 64, .inl fun _ => Int32.ofInt 0)), (q5, .inl (X.2.1 0, 64, .inl fun _ => Int32.ofInt 0)), (q6, .inl (X.2.1 0, 64, .inl fun _ => Int32.ofInt 0))]) ⟨36, _, dX8_init_84, rfl, by decide, k_1295, rfl, rfl, fun h9 => (by first | rfl | cases h9)⟩ (Nat.le_of_ble_eq_true rfl) rfl rfl rfl rfl ?_
  refine n_aload (j := 0) dX8_init_87 rfl rfl ?_
  refine n_bipush (v := Int32.ofInt 64) dX8_init_88 (by decide) ?_
  refine n_newI (N := 64) dX8_init_90 (by decide) (by decide) (Nat.le_of_ble_eq_true rfl) (Nat.le_of_ble_eq_true rfl) (Nat.le_of_ble_eq_true rfl) (fun q7 => ?_)
  refine n_putCF (ci := 8) (k := 13) (fs' := [.int (Int32.ofInt 0), .int (Int32.ofInt 4), .int (Int32.ofInt 4), .ref q1, .int (Int32.ofInt 0), .int (Int32.ofInt 9), .ref q2, .int (Int32.ofInt 0), .ref q3, .ref q4, .ref q5, .int (Int32.ofInt 0), .ref q6, .ref q7, .null, .null, .null, .int (Int32.ofInt 0), .null, .int (Int32.ofInt 0), .null, .int (Int32.ofInt 0), .int (Int32.ofInt 0), .int (Int32.ofInt 0), .int (Int32.ofInt 0), .null, .null, .null, .null, .int (Int32.ofInt 0), .int (Int32.ofInt 0), .int (Int32.ofInt 0), .int (Int32.ofInt 0), .int (Int32.ofInt 0), .null, .int (Int32.ofInt 0), .int (Int32.ofInt 0), .int (Int32.ofInt 0), .int (Int32.ofInt 0), .int (Int32.ofInt 0), .int (Int32.ofInt 0), .int (Int32.ofInt 0), .int (Int32.ofInt 0), .int (Int32.ofInt 0), .int (Int32.ofInt 0), .int (Int32.ofInt 0), .null, .int (Int32.ofInt 0), .int (Int32.ofInt 0), .null, .int (Int32.ofInt 0), .null, .null, .null, .int (Int32.ofInt 0), .int (Int32.ofInt 0), .null, .int (Int32.ofInt 0), .null, .null, .int (Int32.ofInt 0), .null, .null, .null, .int (Int32.ofInt 0)]) (tl' := [(q1, .inl (X.2.1 0, 6, .inl fun _ => Int32.ofInt 0)), (q2, .inl (X.2.1 0, 4, .inl fun j => Int32.ofInt (cn_w j))), (q3, .inl (X.2.1 0, 64, .inl fun _ => Int32.ofInt 0)), (q4, .inl (X.2.1 1, 64, .inl fun _ => Int32.ofInt 0)), (q5, .inl (X.2.1 0, 64, .inl fun _ => Int32.ofInt 0)), (q6, .inl (X.2.1 0, 64, .inl fun _ => Int32.ofInt 0)), (q7, .inl (X.2.1 0, 64, .inl fun _ => Int32.ofInt 0))]) ⟨39, _, dX8_init_92, rfl, by decide, k_1296, rfl, rfl, fun h9 => (by first | rfl | cases h9)⟩ (Nat.le_of_ble_eq_true rfl) rfl rfl rfl rfl ?_
  refine n_aload (j := 0) dX8_init_95 rfl rfl ?_
  refine n_bipush (v := Int32.ofInt 64) dX8_init_96 (by decide) ?_
  refine n_newI (N := 64) dX8_init_98 (by decide) (by decide) (Nat.le_of_ble_eq_true rfl) (Nat.le_of_ble_eq_true rfl) (Nat.le_of_ble_eq_true rfl) (fun q8 => ?_)
  refine n_putCF (ci := 8) (k := 14) (fs' := [.int (Int32.ofInt 0), .int (Int32.ofInt 4), .int (Int32.ofInt 4), .ref q1, .int (Int32.ofInt 0), .int (Int32.ofInt 9), .ref q2, .int (Int32.ofInt 0), .ref q3, .ref q4, .ref q5, .int (Int32.ofInt 0), .ref q6, .ref q7, .ref q8, .null, .null, .int (Int32.ofInt 0), .null, .int (Int32.ofInt 0), .null, .int (Int32.ofInt 0), .int (Int32.ofInt 0), .int (Int32.ofInt 0), .int (Int32.ofInt 0), .null, .null, .null, .null, .int (Int32.ofInt 0), .int (Int32.ofInt 0), .int (Int32.ofInt 0), .int (Int32.ofInt 0), .int (Int32.ofInt 0), .null, .int (Int32.ofInt 0), .int (Int32.ofInt 0), .int (Int32.ofInt 0), .int (Int32.ofInt 0), .int (Int32.ofInt 0), .int (Int32.ofInt 0), .int (Int32.ofInt 0), .int (Int32.ofInt 0), .int (Int32.ofInt 0), .int (Int32.ofInt 0), .int (Int32.ofInt 0), .null, .int (Int32.ofInt 0), .int (Int32.ofInt 0), .null, .int (Int32.ofInt 0), .null, .null, .null, .int (Int32.ofInt 0), .int (Int32.ofInt 0), .null, .int (Int32.ofInt 0), .null, .null, .int (Int32.ofInt 0), .null, .null, .null, .int (Int32.ofInt 0)]) (tl' := [(q1, .inl (X.2.1 0, 6, .inl fun _ => Int32.ofInt 0)), (q2, .inl (X.2.1 0, 4, .inl fun j => Int32.ofInt (cn_w j))), (q3, .inl (X.2.1 0, 64, .inl fun _ => Int32.ofInt 0)), (q4, .inl (X.2.1 1, 64, .inl fun _ => Int32.ofInt 0)), (q5, .inl (X.2.1 0, 64, .inl fun _ => Int32.ofInt 0)), (q6, .inl (X.2.1 0, 64, .inl fun _ => Int32.ofInt 0)), (q7, .inl (X.2.1 0, 64, .inl fun _ => Int32.ofInt 0)), (q8, .inl (X.2.1 0, 64, .inl fun _ => Int32.ofInt 0))]) ⟨42, _, dX8_init_100, rfl, by decide, k_1297, rfl, rfl, fun h9 => (by first | rfl | cases h9)⟩ (Nat.le_of_ble_eq_true rfl) rfl rfl rfl rfl ?_
  refine n_aload (j := 0) dX8_init_103 rfl rfl ?_
  refine n_bipush (v := Int32.ofInt 33) dX8_init_104 (by decide) ?_
  refine n_newI (N := 33) dX8_init_106 (by decide) (by decide) (Nat.le_of_ble_eq_true rfl) (Nat.le_of_ble_eq_true rfl) (Nat.le_of_ble_eq_true rfl) (fun q9 => ?_)
  refine n_putCF (ci := 8) (k := 15) (fs' := [.int (Int32.ofInt 0), .int (Int32.ofInt 4), .int (Int32.ofInt 4), .ref q1, .int (Int32.ofInt 0), .int (Int32.ofInt 9), .ref q2, .int (Int32.ofInt 0), .ref q3, .ref q4, .ref q5, .int (Int32.ofInt 0), .ref q6, .ref q7, .ref q8, .ref q9, .null, .int (Int32.ofInt 0), .null, .int (Int32.ofInt 0), .null, .int (Int32.ofInt 0), .int (Int32.ofInt 0), .int (Int32.ofInt 0), .int (Int32.ofInt 0), .null, .null, .null, .null, .int (Int32.ofInt 0), .int (Int32.ofInt 0), .int (Int32.ofInt 0), .int (Int32.ofInt 0), .int (Int32.ofInt 0), .null, .int (Int32.ofInt 0), .int (Int32.ofInt 0), .int (Int32.ofInt 0), .int (Int32.ofInt 0), .int (Int32.ofInt 0), .int (Int32.ofInt 0), .int (Int32.ofInt 0), .int (Int32.ofInt 0), .int (Int32.ofInt 0), .int (Int32.ofInt 0), .int (Int32.ofInt 0), .null, .int (Int32.ofInt 0), .int (Int32.ofInt 0), .null, .int (Int32.ofInt 0), .null, .null, .null, .int (Int32.ofInt 0), .int (Int32.ofInt 0), .null, .int (Int32.ofInt 0), .null, .null, .int (Int32.ofInt 0), .null, .null, .null, .int (Int32.ofInt 0)]) (tl' := [(q1, .inl (X.2.1 0, 6, .inl fun _ => Int32.ofInt 0)), (q2, .inl (X.2.1 0, 4, .inl fun j => Int32.ofInt (cn_w j))), (q3, .inl (X.2.1 0, 64, .inl fun _ => Int32.ofInt 0)), (q4, .inl (X.2.1 1, 64, .inl fun _ => Int32.ofInt 0)), (q5, .inl (X.2.1 0, 64, .inl fun _ => Int32.ofInt 0)), (q6, .inl (X.2.1 0, 64, .inl fun _ => Int32.ofInt 0)), (q7, .inl (X.2.1 0, 64, .inl fun _ => Int32.ofInt 0)), (q8, .inl (X.2.1 0, 64, .inl fun _ => Int32.ofInt 0)), (q9, .inl (X.2.1 0, 33, .inl fun _ => Int32.ofInt 0))]) ⟨45, _, dX8_init_108, rfl, by decide, k_1298, rfl, rfl, fun h9 => (by first | rfl | cases h9)⟩ (Nat.le_of_ble_eq_true rfl) rfl rfl rfl rfl ?_
  refine n_aload (j := 0) dX8_init_111 rfl rfl ?_
  refine n_bipush (v := Int32.ofInt 33) dX8_init_112 (by decide) ?_
  refine n_newI (N := 33) dX8_init_114 (by decide) (by decide) (Nat.le_of_ble_eq_true rfl) (Nat.le_of_ble_eq_true rfl) (Nat.le_of_ble_eq_true rfl) (fun q10 => ?_)
  refine n_putCF (ci := 8) (k := 16) (fs' := [.int (Int32.ofInt 0), .int (Int32.ofInt 4), .int (Int32.ofInt 4), .ref q1, .int (Int32.ofInt 0), .int (Int32.ofInt 9), .ref q2, .int (Int32.ofInt 0), .ref q3, .ref q4, .ref q5, .int (Int32.ofInt 0), .ref q6, .ref q7, .ref q8, .ref q9, .ref q10, .int (Int32.ofInt 0), .null, .int (Int32.ofInt 0), .null, .int (Int32.ofInt 0), .int (Int32.ofInt 0), .int (Int32.ofInt 0), .int (Int32.ofInt 0), .null, .null, .null, .null, .int (Int32.ofInt 0), .int (Int32.ofInt 0), .int (Int32.ofInt 0), .int (Int32.ofInt 0), .int (Int32.ofInt 0), .null, .int (Int32.ofInt 0), .int (Int32.ofInt 0), .int (Int32.ofInt 0), .int (Int32.ofInt 0), .int (Int32.ofInt 0), .int (Int32.ofInt 0), .int (Int32.ofInt 0), .int (Int32.ofInt 0), .int (Int32.ofInt 0), .int (Int32.ofInt 0), .int (Int32.ofInt 0), .null, .int (Int32.ofInt 0), .int (Int32.ofInt 0), .null, .int (Int32.ofInt 0), .null, .null, .null, .int (Int32.ofInt 0), .int (Int32.ofInt 0), .null, .int (Int32.ofInt 0), .null, .null, .int (Int32.ofInt 0), .null, .null, .null, .int (Int32.ofInt 0)]) (tl' := [(q1, .inl (X.2.1 0, 6, .inl fun _ => Int32.ofInt 0)), (q2, .inl (X.2.1 0, 4, .inl fun j => Int32.ofInt (cn_w j))), (q3, .inl (X.2.1 0, 64, .inl fun _ => Int32.ofInt 0)), (q4, .inl (X.2.1 1, 64, .inl fun _ => Int32.ofInt 0)), (q5, .inl (X.2.1 0, 64, .inl fun _ => Int32.ofInt 0)), (q6, .inl (X.2.1 0, 64, .inl fun _ => Int32.ofInt 0)), (q7, .inl (X.2.1 0, 64, .inl fun _ => Int32.ofInt 0)), (q8, .inl (X.2.1 0, 64, .inl fun _ => Int32.ofInt 0)), (q9, .inl (X.2.1 0, 33, .inl fun _ => Int32.ofInt 0)), (q10, .inl (X.2.1 0, 33, .inl fun _ => Int32.ofInt 0))]) ⟨48, _, dX8_init_116, rfl, by decide, k_1299, rfl, rfl, fun h9 => (by first | rfl | cases h9)⟩ (Nat.le_of_ble_eq_true rfl) rfl rfl rfl rfl ?_
  refine n_aload (j := 0) dX8_init_119 rfl rfl ?_
  refine n_bipush (v := Int32.ofInt 64) dX8_init_120 (by decide) ?_
  refine n_newI (N := 64) dX8_init_122 (by decide) (by decide) (Nat.le_of_ble_eq_true rfl) (Nat.le_of_ble_eq_true rfl) (Nat.le_of_ble_eq_true rfl) (fun q11 => ?_)
  refine n_putCF (ci := 8) (k := 18) (fs' := [.int (Int32.ofInt 0), .int (Int32.ofInt 4), .int (Int32.ofInt 4), .ref q1, .int (Int32.ofInt 0), .int (Int32.ofInt 9), .ref q2, .int (Int32.ofInt 0), .ref q3, .ref q4, .ref q5, .int (Int32.ofInt 0), .ref q6, .ref q7, .ref q8, .ref q9, .ref q10, .int (Int32.ofInt 0), .ref q11, .int (Int32.ofInt 0), .null, .int (Int32.ofInt 0), .int (Int32.ofInt 0), .int (Int32.ofInt 0), .int (Int32.ofInt 0), .null, .null, .null, .null, .int (Int32.ofInt 0), .int (Int32.ofInt 0), .int (Int32.ofInt 0), .int (Int32.ofInt 0), .int (Int32.ofInt 0), .null, .int (Int32.ofInt 0), .int (Int32.ofInt 0), .int (Int32.ofInt 0), .int (Int32.ofInt 0), .int (Int32.ofInt 0), .int (Int32.ofInt 0), .int (Int32.ofInt 0), .int (Int32.ofInt 0), .int (Int32.ofInt 0), .int (Int32.ofInt 0), .int (Int32.ofInt 0), .null, .int (Int32.ofInt 0), .int (Int32.ofInt 0), .null, .int (Int32.ofInt 0), .null, .null, .null, .int (Int32.ofInt 0), .int (Int32.ofInt 0), .null, .int (Int32.ofInt 0), .null, .null, .int (Int32.ofInt 0), .null, .null, .null, .int (Int32.ofInt 0)]) (tl' := [(q1, .inl (X.2.1 0, 6, .inl fun _ => Int32.ofInt 0)), (q2, .inl (X.2.1 0, 4, .inl fun j => Int32.ofInt (cn_w j))), (q3, .inl (X.2.1 0, 64, .inl fun _ => Int32.ofInt 0)), (q4, .inl (X.2.1 1, 64, .inl fun _ => Int32.ofInt 0)), (q5, .inl (X.2.1 0, 64, .inl fun _ => Int32.ofInt 0)), (q6, .inl (X.2.1 0, 64, .inl fun _ => Int32.ofInt 0)), (q7, .inl (X.2.1 0, 64, .inl fun _ => Int32.ofInt 0)), (q8, .inl (X.2.1 0, 64, .inl fun _ => Int32.ofInt 0)), (q9, .inl (X.2.1 0, 33, .inl fun _ => Int32.ofInt 0)), (q10, .inl (X.2.1 0, 33, .inl fun _ => Int32.ofInt 0)), (q11, .inl (X.2.1 0, 64, .inl fun _ => Int32.ofInt 0))]) ⟨51, _, dX8_init_124, rfl, by decide, k_1301, rfl, rfl, fun h9 => (by first | rfl | cases h9)⟩ (Nat.le_of_ble_eq_true rfl) rfl rfl rfl rfl ?_
  refine n_aload (j := 0) dX8_init_127 rfl rfl ?_
  refine n_bipush (v := Int32.ofInt 9) dX8_init_128 (by decide) ?_
  refine n_putC (ci := 8) (k := 19) (fs' := [.int (Int32.ofInt 0), .int (Int32.ofInt 4), .int (Int32.ofInt 4), .ref q1, .int (Int32.ofInt 0), .int (Int32.ofInt 9), .ref q2, .int (Int32.ofInt 0), .ref q3, .ref q4, .ref q5, .int (Int32.ofInt 0), .ref q6, .ref q7, .ref q8, .ref q9, .ref q10, .int (Int32.ofInt 0), .ref q11, .int (Int32.ofInt 9), .null, .int (Int32.ofInt 0), .int (Int32.ofInt 0), .int (Int32.ofInt 0), .int (Int32.ofInt 0), .null, .null, .null, .null, .int (Int32.ofInt 0), .int (Int32.ofInt 0), .int (Int32.ofInt 0), .int (Int32.ofInt 0), .int (Int32.ofInt 0), .null, .int (Int32.ofInt 0), .int (Int32.ofInt 0), .int (Int32.ofInt 0), .int (Int32.ofInt 0), .int (Int32.ofInt 0), .int (Int32.ofInt 0), .int (Int32.ofInt 0), .int (Int32.ofInt 0), .int (Int32.ofInt 0), .int (Int32.ofInt 0), .int (Int32.ofInt 0), .null, .int (Int32.ofInt 0), .int (Int32.ofInt 0), .null, .int (Int32.ofInt 0), .null, .null, .null, .int (Int32.ofInt 0), .int (Int32.ofInt 0), .null, .int (Int32.ofInt 0), .null, .null, .int (Int32.ofInt 0), .null, .null, .null, .int (Int32.ofInt 0)]) (tl' := [(q1, .inl (X.2.1 0, 6, .inl fun _ => Int32.ofInt 0)), (q2, .inl (X.2.1 0, 4, .inl fun j => Int32.ofInt (cn_w j))), (q3, .inl (X.2.1 0, 64, .inl fun _ => Int32.ofInt 0)), (q4, .inl (X.2.1 1, 64, .inl fun _ => Int32.ofInt 0)), (q5, .inl (X.2.1 0, 64, .inl fun _ => Int32.ofInt 0)), (q6, .inl (X.2.1 0, 64, .inl fun _ => Int32.ofInt 0)), (q7, .inl (X.2.1 0, 64, .inl fun _ => Int32.ofInt 0)), (q8, .inl (X.2.1 0, 64, .inl fun _ => Int32.ofInt 0)), (q9, .inl (X.2.1 0, 33, .inl fun _ => Int32.ofInt 0)), (q10, .inl (X.2.1 0, 33, .inl fun _ => Int32.ofInt 0)), (q11, .inl (X.2.1 0, 64, .inl fun _ => Int32.ofInt 0))]) ⟨54, _, dX8_init_130, rfl, by decide, k_1302, rfl, rfl, fun h9 => (by first | rfl | cases h9)⟩ (Nat.le_of_ble_eq_true rfl) rfl rfl rfl rfl ?_
  refine n_aload (j := 0) dX8_init_133 rfl rfl ?_
  refine n_bipush (v := Int32.ofInt 64) dX8_init_134 (by decide) ?_
  refine n_newI (N := 64) dX8_init_136 (by decide) (by decide) (Nat.le_of_ble_eq_true rfl) (Nat.le_of_ble_eq_true rfl) (Nat.le_of_ble_eq_true rfl) (fun q12 => ?_)
  refine n_putCF (ci := 8) (k := 20) (fs' := [.int (Int32.ofInt 0), .int (Int32.ofInt 4), .int (Int32.ofInt 4), .ref q1, .int (Int32.ofInt 0), .int (Int32.ofInt 9), .ref q2, .int (Int32.ofInt 0), .ref q3, .ref q4, .ref q5, .int (Int32.ofInt 0), .ref q6, .ref q7, .ref q8, .ref q9, .ref q10, .int (Int32.ofInt 0), .ref q11, .int (Int32.ofInt 9), .ref q12, .int (Int32.ofInt 0), .int (Int32.ofInt 0), .int (Int32.ofInt 0), .int (Int32.ofInt 0), .null, .null, .null, .null, .int (Int32.ofInt 0), .int (Int32.ofInt 0), .int (Int32.ofInt 0), .int (Int32.ofInt 0), .int (Int32.ofInt 0), .null, .int (Int32.ofInt 0), .int (Int32.ofInt 0), .int (Int32.ofInt 0), .int (Int32.ofInt 0), .int (Int32.ofInt 0), .int (Int32.ofInt 0), .int (Int32.ofInt 0), .int (Int32.ofInt 0), .int (Int32.ofInt 0), .int (Int32.ofInt 0), .int (Int32.ofInt 0), .null, .int (Int32.ofInt 0), .int (Int32.ofInt 0), .null, .int (Int32.ofInt 0), .null, .null, .null, .int (Int32.ofInt 0), .int (Int32.ofInt 0), .null, .int (Int32.ofInt 0), .null, .null, .int (Int32.ofInt 0), .null, .null, .null, .int (Int32.ofInt 0)]) (tl' := [(q1, .inl (X.2.1 0, 6, .inl fun _ => Int32.ofInt 0)), (q2, .inl (X.2.1 0, 4, .inl fun j => Int32.ofInt (cn_w j))), (q3, .inl (X.2.1 0, 64, .inl fun _ => Int32.ofInt 0)), (q4, .inl (X.2.1 1, 64, .inl fun _ => Int32.ofInt 0)), (q5, .inl (X.2.1 0, 64, .inl fun _ => Int32.ofInt 0)), (q6, .inl (X.2.1 0, 64, .inl fun _ => Int32.ofInt 0)), (q7, .inl (X.2.1 0, 64, .inl fun _ => Int32.ofInt 0)), (q8, .inl (X.2.1 0, 64, .inl fun _ => Int32.ofInt 0)), (q9, .inl (X.2.1 0, 33, .inl fun _ => Int32.ofInt 0)), (q10, .inl (X.2.1 0, 33, .inl fun _ => Int32.ofInt 0)), (q11, .inl (X.2.1 0, 64, .inl fun _ => Int32.ofInt 0)), (q12, .inl (X.2.1 0, 64, .inl fun _ => Int32.ofInt 0))]) ⟨57, _, dX8_init_138, rfl, by decide, k_1303, rfl, rfl, fun h9 => (by first | rfl | cases h9)⟩ (Nat.le_of_ble_eq_true rfl) rfl rfl rfl rfl ?_
  refine n_aload (j := 0) dX8_init_141 rfl rfl ?_
  refine n_sipush (v := Int32.ofInt 2100) dX8_init_142 (by decide) ?_
  refine n_newI (N := 2100) dX8_init_145 (by decide) (by decide) (Nat.le_of_ble_eq_true rfl) (Nat.le_of_ble_eq_true rfl) (Nat.le_of_ble_eq_true rfl) (fun q13 => ?_)
  refine n_putCF (ci := 8) (k := 25) (fs' := [.int (Int32.ofInt 0), .int (Int32.ofInt 4), .int (Int32.ofInt 4), .ref q1, .int (Int32.ofInt 0), .int (Int32.ofInt 9), .ref q2, .int (Int32.ofInt 0), .ref q3, .ref q4, .ref q5, .int (Int32.ofInt 0), .ref q6, .ref q7, .ref q8, .ref q9, .ref q10, .int (Int32.ofInt 0), .ref q11, .int (Int32.ofInt 9), .ref q12, .int (Int32.ofInt 0), .int (Int32.ofInt 0), .int (Int32.ofInt 0), .int (Int32.ofInt 0), .ref q13, .null, .null, .null, .int (Int32.ofInt 0), .int (Int32.ofInt 0), .int (Int32.ofInt 0), .int (Int32.ofInt 0), .int (Int32.ofInt 0), .null, .int (Int32.ofInt 0), .int (Int32.ofInt 0), .int (Int32.ofInt 0), .int (Int32.ofInt 0), .int (Int32.ofInt 0), .int (Int32.ofInt 0), .int (Int32.ofInt 0), .int (Int32.ofInt 0), .int (Int32.ofInt 0), .int (Int32.ofInt 0), .int (Int32.ofInt 0), .null, .int (Int32.ofInt 0), .int (Int32.ofInt 0), .null, .int (Int32.ofInt 0), .null, .null, .null, .int (Int32.ofInt 0), .int (Int32.ofInt 0), .null, .int (Int32.ofInt 0), .null, .null, .int (Int32.ofInt 0), .null, .null, .null, .int (Int32.ofInt 0)]) (tl' := [(q1, .inl (X.2.1 0, 6, .inl fun _ => Int32.ofInt 0)), (q2, .inl (X.2.1 0, 4, .inl fun j => Int32.ofInt (cn_w j))), (q3, .inl (X.2.1 0, 64, .inl fun _ => Int32.ofInt 0)), (q4, .inl (X.2.1 1, 64, .inl fun _ => Int32.ofInt 0)), (q5, .inl (X.2.1 0, 64, .inl fun _ => Int32.ofInt 0)), (q6, .inl (X.2.1 0, 64, .inl fun _ => Int32.ofInt 0)), (q7, .inl (X.2.1 0, 64, .inl fun _ => Int32.ofInt 0)), (q8, .inl (X.2.1 0, 64, .inl fun _ => Int32.ofInt 0)), (q9, .inl (X.2.1 0, 33, .inl fun _ => Int32.ofInt 0)), (q10, .inl (X.2.1 0, 33, .inl fun _ => Int32.ofInt 0)), (q11, .inl (X.2.1 0, 64, .inl fun _ => Int32.ofInt 0)), (q12, .inl (X.2.1 0, 64, .inl fun _ => Int32.ofInt 0)), (q13, .inl (X.2.1 0, 2100, .inl fun _ => Int32.ofInt 0))]) ⟨60, _, dX8_init_147, rfl, by decide, k_1308, rfl, rfl, fun h9 => (by first | rfl | cases h9)⟩ (Nat.le_of_ble_eq_true rfl) rfl rfl rfl rfl ?_
  refine n_aload (j := 0) dX8_init_150 rfl rfl ?_
  refine n_sipush (v := Int32.ofInt 2100) dX8_init_151 (by decide) ?_
  refine n_newI (N := 2100) dX8_init_154 (by decide) (by decide) (Nat.le_of_ble_eq_true rfl) (Nat.le_of_ble_eq_true rfl) (Nat.le_of_ble_eq_true rfl) (fun q14 => ?_)
  refine n_putCF (ci := 8) (k := 26) (fs' := [.int (Int32.ofInt 0), .int (Int32.ofInt 4), .int (Int32.ofInt 4), .ref q1, .int (Int32.ofInt 0), .int (Int32.ofInt 9), .ref q2, .int (Int32.ofInt 0), .ref q3, .ref q4, .ref q5, .int (Int32.ofInt 0), .ref q6, .ref q7, .ref q8, .ref q9, .ref q10, .int (Int32.ofInt 0), .ref q11, .int (Int32.ofInt 9), .ref q12, .int (Int32.ofInt 0), .int (Int32.ofInt 0), .int (Int32.ofInt 0), .int (Int32.ofInt 0), .ref q13, .ref q14, .null, .null, .int (Int32.ofInt 0), .int (Int32.ofInt 0), .int (Int32.ofInt 0), .int (Int32.ofInt 0), .int (Int32.ofInt 0), .null, .int (Int32.ofInt 0), .int (Int32.ofInt 0), .int (Int32.ofInt 0), .int (Int32.ofInt 0), .int (Int32.ofInt 0), .int (Int32.ofInt 0), .int (Int32.ofInt 0), .int (Int32.ofInt 0), .int (Int32.ofInt 0), .int (Int32.ofInt 0), .int (Int32.ofInt 0), .null, .int (Int32.ofInt 0), .int (Int32.ofInt 0), .null, .int (Int32.ofInt 0), .null, .null, .null, .int (Int32.ofInt 0), .int (Int32.ofInt 0), .null, .int (Int32.ofInt 0), .null, .null, .int (Int32.ofInt 0), .null, .null, .null, .int (Int32.ofInt 0)]) (tl' := [(q1, .inl (X.2.1 0, 6, .inl fun _ => Int32.ofInt 0)), (q2, .inl (X.2.1 0, 4, .inl fun j => Int32.ofInt (cn_w j))), (q3, .inl (X.2.1 0, 64, .inl fun _ => Int32.ofInt 0)), (q4, .inl (X.2.1 1, 64, .inl fun _ => Int32.ofInt 0)), (q5, .inl (X.2.1 0, 64, .inl fun _ => Int32.ofInt 0)), (q6, .inl (X.2.1 0, 64, .inl fun _ => Int32.ofInt 0)), (q7, .inl (X.2.1 0, 64, .inl fun _ => Int32.ofInt 0)), (q8, .inl (X.2.1 0, 64, .inl fun _ => Int32.ofInt 0)), (q9, .inl (X.2.1 0, 33, .inl fun _ => Int32.ofInt 0)), (q10, .inl (X.2.1 0, 33, .inl fun _ => Int32.ofInt 0)), (q11, .inl (X.2.1 0, 64, .inl fun _ => Int32.ofInt 0)), (q12, .inl (X.2.1 0, 64, .inl fun _ => Int32.ofInt 0)), (q13, .inl (X.2.1 0, 2100, .inl fun _ => Int32.ofInt 0)), (q14, .inl (X.2.1 0, 2100, .inl fun _ => Int32.ofInt 0))]) ⟨63, _, dX8_init_156, rfl, by decide, k_1309, rfl, rfl, fun h9 => (by first | rfl | cases h9)⟩ (Nat.le_of_ble_eq_true rfl) rfl rfl rfl rfl ?_
  refine n_aload (j := 0) dX8_init_159 rfl rfl ?_
  refine n_sipush (v := Int32.ofInt 2100) dX8_init_160 (by decide) ?_
  refine n_newI (N := 2100) dX8_init_163 (by decide) (by decide) (Nat.le_of_ble_eq_true rfl) (Nat.le_of_ble_eq_true rfl) (Nat.le_of_ble_eq_true rfl) (fun q15 => ?_)
  refine n_putCF (ci := 8) (k := 27) (fs' := [.int (Int32.ofInt 0), .int (Int32.ofInt 4), .int (Int32.ofInt 4), .ref q1, .int (Int32.ofInt 0), .int (Int32.ofInt 9), .ref q2, .int (Int32.ofInt 0), .ref q3, .ref q4, .ref q5, .int (Int32.ofInt 0), .ref q6, .ref q7, .ref q8, .ref q9, .ref q10, .int (Int32.ofInt 0), .ref q11, .int (Int32.ofInt 9), .ref q12, .int (Int32.ofInt 0), .int (Int32.ofInt 0), .int (Int32.ofInt 0), .int (Int32.ofInt 0), .ref q13, .ref q14, .ref q15, .null, .int (Int32.ofInt 0), .int (Int32.ofInt 0), .int (Int32.ofInt 0), .int (Int32.ofInt 0), .int (Int32.ofInt 0), .null, .int (Int32.ofInt 0), .int (Int32.ofInt 0), .int (Int32.ofInt 0), .int (Int32.ofInt 0), .int (Int32.ofInt 0), .int (Int32.ofInt 0), .int (Int32.ofInt 0), .int (Int32.ofInt 0), .int (Int32.ofInt 0), .int (Int32.ofInt 0), .int (Int32.ofInt 0), .null, .int (Int32.ofInt 0), .int (Int32.ofInt 0), .null, .int (Int32.ofInt 0), .null, .null, .null, .int (Int32.ofInt 0), .int (Int32.ofInt 0), .null, .int (Int32.ofInt 0), .null, .null, .int (Int32.ofInt 0), .null, .null, .null, .int (Int32.ofInt 0)]) (tl' := [(q1, .inl (X.2.1 0, 6, .inl fun _ => Int32.ofInt 0)), (q2, .inl (X.2.1 0, 4, .inl fun j => Int32.ofInt (cn_w j))), (q3, .inl (X.2.1 0, 64, .inl fun _ => Int32.ofInt 0)), (q4, .inl (X.2.1 1, 64, .inl fun _ => Int32.ofInt 0)), (q5, .inl (X.2.1 0, 64, .inl fun _ => Int32.ofInt 0)), (q6, .inl (X.2.1 0, 64, .inl fun _ => Int32.ofInt 0)), (q7, .inl (X.2.1 0, 64, .inl fun _ => Int32.ofInt 0)), (q8, .inl (X.2.1 0, 64, .inl fun _ => Int32.ofInt 0)), (q9, .inl (X.2.1 0, 33, .inl fun _ => Int32.ofInt 0)), (q10, .inl (X.2.1 0, 33, .inl fun _ => Int32.ofInt 0)), (q11, .inl (X.2.1 0, 64, .inl fun _ => Int32.ofInt 0)), (q12, .inl (X.2.1 0, 64, .inl fun _ => Int32.ofInt 0)), (q13, .inl (X.2.1 0, 2100, .inl fun _ => Int32.ofInt 0)), (q14, .inl (X.2.1 0, 2100, .inl fun _ => Int32.ofInt 0)), (q15, .inl (X.2.1 0, 2100, .inl fun _ => Int32.ofInt 0))]) ⟨66, _, dX8_init_165, rfl, by decide, k_1310, rfl, rfl, fun h9 => (by first | rfl | cases h9)⟩ (Nat.le_of_ble_eq_true rfl) rfl rfl rfl rfl ?_
  refine n_aload (j := 0) dX8_init_168 rfl rfl ?_
  refine n_sipush (v := Int32.ofInt 2100) dX8_init_169 (by decide) ?_
  refine n_newI (N := 2100) dX8_init_172 (by decide) (by decide) (Nat.le_of_ble_eq_true rfl) (Nat.le_of_ble_eq_true rfl) (Nat.le_of_ble_eq_true rfl) (fun q16 => ?_)
  refine n_putCF (ci := 8) (k := 28) (fs' := [.int (Int32.ofInt 0), .int (Int32.ofInt 4), .int (Int32.ofInt 4), .ref q1, .int (Int32.ofInt 0), .int (Int32.ofInt 9), .ref q2, .int (Int32.ofInt 0), .ref q3, .ref q4, .ref q5, .int (Int32.ofInt 0), .ref q6, .ref q7, .ref q8, .ref q9, .ref q10, .int (Int32.ofInt 0), .ref q11, .int (Int32.ofInt 9), .ref q12, .int (Int32.ofInt 0), .int (Int32.ofInt 0), .int (Int32.ofInt 0), .int (Int32.ofInt 0), .ref q13, .ref q14, .ref q15, .ref q16, .int (Int32.ofInt 0), .int (Int32.ofInt 0), .int (Int32.ofInt 0), .int (Int32.ofInt 0), .int (Int32.ofInt 0), .null, .int (Int32.ofInt 0), .int (Int32.ofInt 0), .int (Int32.ofInt 0), .int (Int32.ofInt 0), .int (Int32.ofInt 0), .int (Int32.ofInt 0), .int (Int32.ofInt 0), .int (Int32.ofInt 0), .int (Int32.ofInt 0), .int (Int32.ofInt 0), .int (Int32.ofInt 0), .null, .int (Int32.ofInt 0), .int (Int32.ofInt 0), .null, .int (Int32.ofInt 0), .null, .null, .null, .int (Int32.ofInt 0), .int (Int32.ofInt 0), .null, .int (Int32.ofInt 0), .null, .null, .int (Int32.ofInt 0), .null, .null, .null, .int (Int32.ofInt 0)]) (tl' := [(q1, .inl (X.2.1 0, 6, .inl fun _ => Int32.ofInt 0)), (q2, .inl (X.2.1 0, 4, .inl fun j => Int32.ofInt (cn_w j))), (q3, .inl (X.2.1 0, 64, .inl fun _ => Int32.ofInt 0)), (q4, .inl (X.2.1 1, 64, .inl fun _ => Int32.ofInt 0)), (q5, .inl (X.2.1 0, 64, .inl fun _ => Int32.ofInt 0)), (q6, .inl (X.2.1 0, 64, .inl fun _ => Int32.ofInt 0)), (q7, .inl (X.2.1 0, 64, .inl fun _ => Int32.ofInt 0)), (q8, .inl (X.2.1 0, 64, .inl fun _ => Int32.ofInt 0)), (q9, .inl (X.2.1 0, 33, .inl fun _ => Int32.ofInt 0)), (q10, .inl (X.2.1 0, 33, .inl fun _ => Int32.ofInt 0)), (q11, .inl (X.2.1 0, 64, .inl fun _ => Int32.ofInt 0)), (q12, .inl (X.2.1 0, 64, .inl fun _ => Int32.ofInt 0)), (q13, .inl (X.2.1 0, 2100, .inl fun _ => Int32.ofInt 0)), (q14, .inl (X.2.1 0, 2100, .inl fun _ => Int32.ofInt 0)), (q15, .inl (X.2.1 0, 2100, .inl fun _ => Int32.ofInt 0)), (q16, .inl (X.2.1 0, 2100, .inl fun _ => Int32.ofInt 0))]) ⟨69, _, dX8_init_174, rfl, by decide, k_1311, rfl, rfl, fun h9 => (by first | rfl | cases h9)⟩ (Nat.le_of_ble_eq_true rfl) rfl rfl rfl rfl ?_
  refine n_aload (j := 0) dX8_init_177 rfl rfl ?_
  refine n_sipush (v := Int32.ofInt 900) dX8_init_178 (by decide) ?_
  refine n_newB (N := 900) dX8_init_181 (by decide) (by decide) (Nat.le_of_ble_eq_true rfl) (Nat.le_of_ble_eq_true rfl) (Nat.le_of_ble_eq_true rfl) (fun q17 => ?_)
  refine n_putCF (ci := 8) (k := 34) (fs' := [.int (Int32.ofInt 0), .int (Int32.ofInt 4), .int (Int32.ofInt 4), .ref q1, .int (Int32.ofInt 0), .int (Int32.ofInt 9), .ref q2, .int (Int32.ofInt 0), .ref q3, .ref q4, .ref q5, .int (Int32.ofInt 0), .ref q6, .ref q7, .ref q8, .ref q9, .ref q10, .int (Int32.ofInt 0), .ref q11, .int (Int32.ofInt 9), .ref q12, .int (Int32.ofInt 0), .int (Int32.ofInt 0), .int (Int32.ofInt 0), .int (Int32.ofInt 0), .ref q13, .ref q14, .ref q15, .ref q16, .int (Int32.ofInt 0), .int (Int32.ofInt 0), .int (Int32.ofInt 0), .int (Int32.ofInt 0), .int (Int32.ofInt 0), .ref q17, .int (Int32.ofInt 0), .int (Int32.ofInt 0), .int (Int32.ofInt 0), .int (Int32.ofInt 0), .int (Int32.ofInt 0), .int (Int32.ofInt 0), .int (Int32.ofInt 0), .int (Int32.ofInt 0), .int (Int32.ofInt 0), .int (Int32.ofInt 0), .int (Int32.ofInt 0), .null, .int (Int32.ofInt 0), .int (Int32.ofInt 0), .null, .int (Int32.ofInt 0), .null, .null, .null, .int (Int32.ofInt 0), .int (Int32.ofInt 0), .null, .int (Int32.ofInt 0), .null, .null, .int (Int32.ofInt 0), .null, .null, .null, .int (Int32.ofInt 0)]) (tl' := [(q1, .inl (X.2.1 0, 6, .inl fun _ => Int32.ofInt 0)), (q2, .inl (X.2.1 0, 4, .inl fun j => Int32.ofInt (cn_w j))), (q3, .inl (X.2.1 0, 64, .inl fun _ => Int32.ofInt 0)), (q4, .inl (X.2.1 1, 64, .inl fun _ => Int32.ofInt 0)), (q5, .inl (X.2.1 0, 64, .inl fun _ => Int32.ofInt 0)), (q6, .inl (X.2.1 0, 64, .inl fun _ => Int32.ofInt 0)), (q7, .inl (X.2.1 0, 64, .inl fun _ => Int32.ofInt 0)), (q8, .inl (X.2.1 0, 64, .inl fun _ => Int32.ofInt 0)), (q9, .inl (X.2.1 0, 33, .inl fun _ => Int32.ofInt 0)), (q10, .inl (X.2.1 0, 33, .inl fun _ => Int32.ofInt 0)), (q11, .inl (X.2.1 0, 64, .inl fun _ => Int32.ofInt 0)), (q12, .inl (X.2.1 0, 64, .inl fun _ => Int32.ofInt 0)), (q13, .inl (X.2.1 0, 2100, .inl fun _ => Int32.ofInt 0)), (q14, .inl (X.2.1 0, 2100, .inl fun _ => Int32.ofInt 0)), (q15, .inl (X.2.1 0, 2100, .inl fun _ => Int32.ofInt 0)), (q16, .inl (X.2.1 0, 2100, .inl fun _ => Int32.ofInt 0)), (q17, .inl (X.2.1 2, 900, .inl fun _ => Int32.ofInt 0))]) ⟨72, _, dX8_init_183, rfl, by decide, k_1317, rfl, rfl, fun h9 => (by first | rfl | cases h9)⟩ (Nat.le_of_ble_eq_true rfl) rfl rfl rfl rfl ?_
  refine n_aload (j := 0) dX8_init_186 rfl rfl ?_
  refine n_iconst (v := Int32.ofInt (-1)) dX8_init_187 (by decide) ?_
  refine n_putC (ci := 8) (k := 42) (fs' := [.int (Int32.ofInt 0), .int (Int32.ofInt 4), .int (Int32.ofInt 4), .ref q1, .int (Int32.ofInt 0), .int (Int32.ofInt 9), .ref q2, .int (Int32.ofInt 0), .ref q3, .ref q4, .ref q5, .int (Int32.ofInt 0), .ref q6, .ref q7, .ref q8, .ref q9, .ref q10, .int (Int32.ofInt 0), .ref q11, .int (Int32.ofInt 9), .ref q12, .int (Int32.ofInt 0), .int (Int32.ofInt 0), .int (Int32.ofInt 0), .int (Int32.ofInt 0), .ref q13, .ref q14, .ref q15, .ref q16, .int (Int32.ofInt 0), .int (Int32.ofInt 0), .int (Int32.ofInt 0), .int (Int32.ofInt 0), .int (Int32.ofInt 0), .ref q17, .int (Int32.ofInt 0), .int (Int32.ofInt 0), .int (Int32.ofInt 0), .int (Int32.ofInt 0), .int (Int32.ofInt 0), .int (Int32.ofInt 0), .int (Int32.ofInt 0), .int (Int32.ofInt (-1)), .int (Int32.ofInt 0), .int (Int32.ofInt 0), .int (Int32.ofInt 0), .null, .int (Int32.ofInt 0), .int (Int32.ofInt 0), .null, .int (Int32.ofInt 0), .null, .null, .null, .int (Int32.ofInt 0), .int (Int32.ofInt 0), .null, .int (Int32.ofInt 0), .null, .null, .int (Int32.ofInt 0), .null, .null, .null, .int (Int32.ofInt 0)]) (tl' := [(q1, .inl (X.2.1 0, 6, .inl fun _ => Int32.ofInt 0)), (q2, .inl (X.2.1 0, 4, .inl fun j => Int32.ofInt (cn_w j))), (q3, .inl (X.2.1 0, 64, .inl fun _ => Int32.ofInt 0)), (q4, .inl (X.2.1 1, 64, .inl fun _ => Int32.ofInt 0)), (q5, .inl (X.2.1 0, 64, .inl fun _ => Int32.ofInt 0)), (q6, .inl (X.2.1 0, 64, .inl fun _ => Int32.ofInt 0)), (q7, .inl (X.2.1 0, 64, .inl fun _ => Int32.ofInt 0)), (q8, .inl (X.2.1 0, 64, .inl fun _ => Int32.ofInt 0)), (q9, .inl (X.2.1 0, 33, .inl fun _ => Int32.ofInt 0)), (q10, .inl (X.2.1 0, 33, .inl fun _ => Int32.ofInt 0)), (q11, .inl (X.2.1 0, 64, .inl fun _ => Int32.ofInt 0)), (q12, .inl (X.2.1 0, 64, .inl fun _ => Int32.ofInt 0)), (q13, .inl (X.2.1 0, 2100, .inl fun _ => Int32.ofInt 0)), (q14, .inl (X.2.1 0, 2100, .inl fun _ => Int32.ofInt 0)), (q15, .inl (X.2.1 0, 2100, .inl fun _ => Int32.ofInt 0)), (q16, .inl (X.2.1 0, 2100, .inl fun _ => Int32.ofInt 0)), (q17, .inl (X.2.1 2, 900, .inl fun _ => Int32.ofInt 0))]) ⟨76, _, dX8_init_188, rfl, by decide, k_1325, rfl, rfl, fun h9 => (by first | rfl | cases h9)⟩ (Nat.le_of_ble_eq_true rfl) rfl rfl rfl rfl ?_
  refine n_aload (j := 0) dX8_init_191 rfl rfl ?_
  refine n_bipush (v := Int32.ofInt 6) dX8_init_192 (by decide) ?_
  refine n_newI (N := 6) dX8_init_194 (by decide) (by decide) (Nat.le_of_ble_eq_true rfl) (Nat.le_of_ble_eq_true rfl) (Nat.le_of_ble_eq_true rfl) (fun q18 => ?_)
  refine n_putCF (ci := 8) (k := 46) (fs' := [.int (Int32.ofInt 0), .int (Int32.ofInt 4), .int (Int32.ofInt 4), .ref q1, .int (Int32.ofInt 0), .int (Int32.ofInt 9), .ref q2, .int (Int32.ofInt 0), .ref q3, .ref q4, .ref q5, .int (Int32.ofInt 0), .ref q6, .ref q7, .ref q8, .ref q9, .ref q10, .int (Int32.ofInt 0), .ref q11, .int (Int32.ofInt 9), .ref q12, .int (Int32.ofInt 0), .int (Int32.ofInt 0), .int (Int32.ofInt 0), .int (Int32.ofInt 0), .ref q13, .ref q14, .ref q15, .ref q16, .int (Int32.ofInt 0), .int (Int32.ofInt 0), .int (Int32.ofInt 0), .int (Int32.ofInt 0), .int (Int32.ofInt 0), .ref q17, .int (Int32.ofInt 0), .int (Int32.ofInt 0), .int (Int32.ofInt 0), .int (Int32.ofInt 0), .int (Int32.ofInt 0), .int (Int32.ofInt 0), .int (Int32.ofInt 0), .int (Int32.ofInt (-1)), .int (Int32.ofInt 0), .int (Int32.ofInt 0), .int (Int32.ofInt 0), .ref q18, .int (Int32.ofInt 0), .int (Int32.ofInt 0), .null, .int (Int32.ofInt 0), .null, .null, .null, .int (Int32.ofInt 0), .int (Int32.ofInt 0), .null, .int (Int32.ofInt 0), .null, .null, .int (Int32.ofInt 0), .null, .null, .null, .int (Int32.ofInt 0)]) (tl' := [(q1, .inl (X.2.1 0, 6, .inl fun _ => Int32.ofInt 0)), (q2, .inl (X.2.1 0, 4, .inl fun j => Int32.ofInt (cn_w j))), (q3, .inl (X.2.1 0, 64, .inl fun _ => Int32.ofInt 0)), (q4, .inl (X.2.1 1, 64, .inl fun _ => Int32.ofInt 0)), (q5, .inl (X.2.1 0, 64, .inl fun _ => Int32.ofInt 0)), (q6, .inl (X.2.1 0, 64, .inl fun _ => Int32.ofInt 0)), (q7, .inl (X.2.1 0, 64, .inl fun _ => Int32.ofInt 0)), (q8, .inl (X.2.1 0, 64, .inl fun _ => Int32.ofInt 0)), (q9, .inl (X.2.1 0, 33, .inl fun _ => Int32.ofInt 0)), (q10, .inl (X.2.1 0, 33, .inl fun _ => Int32.ofInt 0)), (q11, .inl (X.2.1 0, 64, .inl fun _ => Int32.ofInt 0)), (q12, .inl (X.2.1 0, 64, .inl fun _ => Int32.ofInt 0)), (q13, .inl (X.2.1 0, 2100, .inl fun _ => Int32.ofInt 0)), (q14, .inl (X.2.1 0, 2100, .inl fun _ => Int32.ofInt 0)), (q15, .inl (X.2.1 0, 2100, .inl fun _ => Int32.ofInt 0)), (q16, .inl (X.2.1 0, 2100, .inl fun _ => Int32.ofInt 0)), (q17, .inl (X.2.1 2, 900, .inl fun _ => Int32.ofInt 0)), (q18, .inl (X.2.1 0, 6, .inl fun _ => Int32.ofInt 0))]) ⟨79, _, dX8_init_196, rfl, by decide, k_1329, rfl, rfl, fun h9 => (by first | rfl | cases h9)⟩ (Nat.le_of_ble_eq_true rfl) rfl rfl rfl rfl ?_
  refine n_aload (j := 0) dX8_init_199 rfl rfl ?_
  refine n_iconst (v := Int32.ofInt 4) dX8_init_200 (by decide) ?_
  refine n_newI (N := 4) dX8_init_201 (by decide) (by decide) (Nat.le_of_ble_eq_true rfl) (Nat.le_of_ble_eq_true rfl) (Nat.le_of_ble_eq_true rfl) (fun q19 => ?_)
  refine n_putCF (ci := 8) (k := 49) (fs' := [.int (Int32.ofInt 0), .int (Int32.ofInt 4), .int (Int32.ofInt 4), .ref q1, .int (Int32.ofInt 0), .int (Int32.ofInt 9), .ref q2, .int (Int32.ofInt 0), .ref q3, .ref q4, .ref q5, .int (Int32.ofInt 0), .ref q6, .ref q7, .ref q8, .ref q9, .ref q10, .int (Int32.ofInt 0), .ref q11, .int (Int32.ofInt 9), .ref q12, .int (Int32.ofInt 0), .int (Int32.ofInt 0), .int (Int32.ofInt 0), .int (Int32.ofInt 0), .ref q13, .ref q14, .ref q15, .ref q16, .int (Int32.ofInt 0), .int (Int32.ofInt 0), .int (Int32.ofInt 0), .int (Int32.ofInt 0), .int (Int32.ofInt 0), .ref q17, .int (Int32.ofInt 0), .int (Int32.ofInt 0), .int (Int32.ofInt 0), .int (Int32.ofInt 0), .int (Int32.ofInt 0), .int (Int32.ofInt 0), .int (Int32.ofInt 0), .int (Int32.ofInt (-1)), .int (Int32.ofInt 0), .int (Int32.ofInt 0), .int (Int32.ofInt 0), .ref q18, .int (Int32.ofInt 0), .int (Int32.ofInt 0), .ref q19, .int (Int32.ofInt 0), .null, .null, .null, .int (Int32.ofInt 0), .int (Int32.ofInt 0), .null, .int (Int32.ofInt 0), .null, .null, .int (Int32.ofInt 0), .null, .null, .null, .int (Int32.ofInt 0)]) (tl' := [(q1, .inl (X.2.1 0, 6, .inl fun _ => Int32.ofInt 0)), (q2, .inl (X.2.1 0, 4, .inl fun j => Int32.ofInt (cn_w j))), (q3, .inl (X.2.1 0, 64, .inl fun _ => Int32.ofInt 0)), (q4, .inl (X.2.1 1, 64, .inl fun _ => Int32.ofInt 0)), (q5, .inl (X.2.1 0, 64, .inl fun _ => Int32.ofInt 0)), (q6, .inl (X.2.1 0, 64, .inl fun _ => Int32.ofInt 0)), (q7, .inl (X.2.1 0, 64, .inl fun _ => Int32.ofInt 0)), (q8, .inl (X.2.1 0, 64, .inl fun _ => Int32.ofInt 0)), (q9, .inl (X.2.1 0, 33, .inl fun _ => Int32.ofInt 0)), (q10, .inl (X.2.1 0, 33, .inl fun _ => Int32.ofInt 0)), (q11, .inl (X.2.1 0, 64, .inl fun _ => Int32.ofInt 0)), (q12, .inl (X.2.1 0, 64, .inl fun _ => Int32.ofInt 0)), (q13, .inl (X.2.1 0, 2100, .inl fun _ => Int32.ofInt 0)), (q14, .inl (X.2.1 0, 2100, .inl fun _ => Int32.ofInt 0)), (q15, .inl (X.2.1 0, 2100, .inl fun _ => Int32.ofInt 0)), (q16, .inl (X.2.1 0, 2100, .inl fun _ => Int32.ofInt 0)), (q17, .inl (X.2.1 2, 900, .inl fun _ => Int32.ofInt 0)), (q18, .inl (X.2.1 0, 6, .inl fun _ => Int32.ofInt 0)), (q19, .inl (X.2.1 0, 4, .inl fun _ => Int32.ofInt 0))]) ⟨82, _, dX8_init_203, rfl, by decide, k_1332, rfl, rfl, fun h9 => (by first | rfl | cases h9)⟩ (Nat.le_of_ble_eq_true rfl) rfl rfl rfl rfl ?_
  refine n_aload (j := 0) dX8_init_206 rfl rfl ?_
  refine n_bipush (v := Int32.ofInt 64) dX8_init_207 (by decide) ?_
  refine n_newI (N := 64) dX8_init_209 (by decide) (by decide) (Nat.le_of_ble_eq_true rfl) (Nat.le_of_ble_eq_true rfl) (Nat.le_of_ble_eq_true rfl) (fun q20 => ?_)
  refine n_putCF (ci := 8) (k := 51) (fs' := [.int (Int32.ofInt 0), .int (Int32.ofInt 4), .int (Int32.ofInt 4), .ref q1, .int (Int32.ofInt 0), .int (Int32.ofInt 9), .ref q2, .int (Int32.ofInt 0), .ref q3, .ref q4, .ref q5, .int (Int32.ofInt 0), .ref q6, .ref q7, .ref q8, .ref q9, .ref q10, .int (Int32.ofInt 0), .ref q11, .int (Int32.ofInt 9), .ref q12, .int (Int32.ofInt 0), .int (Int32.ofInt 0), .int (Int32.ofInt 0), .int (Int32.ofInt 0), .ref q13, .ref q14, .ref q15, .ref q16, .int (Int32.ofInt 0), .int (Int32.ofInt 0), .int (Int32.ofInt 0), .int (Int32.ofInt 0), .int (Int32.ofInt 0), .ref q17, .int (Int32.ofInt 0), .int (Int32.ofInt 0), .int (Int32.ofInt 0), .int (Int32.ofInt 0), .int (Int32.ofInt 0), .int (Int32.ofInt 0), .int (Int32.ofInt 0), .int (Int32.ofInt (-1)), .int (Int32.ofInt 0), .int (Int32.ofInt 0), .int (Int32.ofInt 0), .ref q18, .int (Int32.ofInt 0), .int (Int32.ofInt 0), .ref q19, .int (Int32.ofInt 0), .ref q20, .null, .null, .int (Int32.ofInt 0), .int (Int32.ofInt 0), .null, .int (Int32.ofInt 0), .null, .null, .int (Int32.ofInt 0), .null, .null, .null, .int (Int32.ofInt 0)]) (tl' := [(q1, .inl (X.2.1 0, 6, .inl fun _ => Int32.ofInt 0)), (q2, .inl (X.2.1 0, 4, .inl fun j => Int32.ofInt (cn_w j))), (q3, .inl (X.2.1 0, 64, .inl fun _ => Int32.ofInt 0)), (q4, .inl (X.2.1 1, 64, .inl fun _ => Int32.ofInt 0)), (q5, .inl (X.2.1 0, 64, .inl fun _ => Int32.ofInt 0)), (q6, .inl (X.2.1 0, 64, .inl fun _ => Int32.ofInt 0)), (q7, .inl (X.2.1 0, 64, .inl fun _ => Int32.ofInt 0)), (q8, .inl (X.2.1 0, 64, .inl fun _ => Int32.ofInt 0)), (q9, .inl (X.2.1 0, 33, .inl fun _ => Int32.ofInt 0)), (q10, .inl (X.2.1 0, 33, .inl fun _ => Int32.ofInt 0)), (q11, .inl (X.2.1 0, 64, .inl fun _ => Int32.ofInt 0)), (q12, .inl (X.2.1 0, 64, .inl fun _ => Int32.ofInt 0)), (q13, .inl (X.2.1 0, 2100, .inl fun _ => Int32.ofInt 0)), (q14, .inl (X.2.1 0, 2100, .inl fun _ => Int32.ofInt 0)), (q15, .inl (X.2.1 0, 2100, .inl fun _ => Int32.ofInt 0)), (q16, .inl (X.2.1 0, 2100, .inl fun _ => Int32.ofInt 0)), (q17, .inl (X.2.1 2, 900, .inl fun _ => Int32.ofInt 0)), (q18, .inl (X.2.1 0, 6, .inl fun _ => Int32.ofInt 0)), (q19, .inl (X.2.1 0, 4, .inl fun _ => Int32.ofInt 0)), (q20, .inl (X.2.1 0, 64, .inl fun _ => Int32.ofInt 0))]) ⟨85, _, dX8_init_211, rfl, by decide, k_1334, rfl, rfl, fun h9 => (by first | rfl | cases h9)⟩ (Nat.le_of_ble_eq_true rfl) rfl rfl rfl rfl ?_
  refine n_aload (j := 0) dX8_init_214 rfl rfl ?_
  refine n_bipush (v := Int32.ofInt 64) dX8_init_215 (by decide) ?_
  refine n_newZ (N := 64) dX8_init_217 (by decide) (by decide) (Nat.le_of_ble_eq_true rfl) (Nat.le_of_ble_eq_true rfl) (Nat.le_of_ble_eq_true rfl) (fun q21 => ?_)
  refine n_putCF (ci := 8) (k := 52) (fs' := [.int (Int32.ofInt 0), .int (Int32.ofInt 4), .int (Int32.ofInt 4), .ref q1, .int (Int32.ofInt 0), .int (Int32.ofInt 9), .ref q2, .int (Int32.ofInt 0), .ref q3, .ref q4, .ref q5, .int (Int32.ofInt 0), .ref q6, .ref q7, .ref q8, .ref q9, .ref q10, .int (Int32.ofInt 0), .ref q11, .int (Int32.ofInt 9), .ref q12, .int (Int32.ofInt 0), .int (Int32.ofInt 0), .int (Int32.ofInt 0), .int (Int32.ofInt 0), .ref q13, .ref q14, .ref q15, .ref q16, .int (Int32.ofInt 0), .int (Int32.ofInt 0), .int (Int32.ofInt 0), .int (Int32.ofInt 0), .int (Int32.ofInt 0), .ref q17, .int (Int32.ofInt 0), .int (Int32.ofInt 0), .int (Int32.ofInt 0), .int (Int32.ofInt 0), .int (Int32.ofInt 0), .int (Int32.ofInt 0), .int (Int32.ofInt 0), .int (Int32.ofInt (-1)), .int (Int32.ofInt 0), .int (Int32.ofInt 0), .int (Int32.ofInt 0), .ref q18, .int (Int32.ofInt 0), .int (Int32.ofInt 0), .ref q19, .int (Int32.ofInt 0), .ref q20, .ref q21, .null, .int (Int32.ofInt 0), .int (Int32.ofInt 0), .null, .int (Int32.ofInt 0), .null, .null, .int (Int32.ofInt 0), .null, .null, .null, .int (Int32.ofInt 0)]) (tl' := [(q1, .inl (X.2.1 0, 6, .inl fun _ => Int32.ofInt 0)), (q2, .inl (X.2.1 0, 4, .inl fun j => Int32.ofInt (cn_w j))), (q3, .inl (X.2.1 0, 64, .inl fun _ => Int32.ofInt 0)), (q4, .inl (X.2.1 1, 64, .inl fun _ => Int32.ofInt 0)), (q5, .inl (X.2.1 0, 64, .inl fun _ => Int32.ofInt 0)), (q6, .inl (X.2.1 0, 64, .inl fun _ => Int32.ofInt 0)), (q7, .inl (X.2.1 0, 64, .inl fun _ => Int32.ofInt 0)), (q8, .inl (X.2.1 0, 64, .inl fun _ => Int32.ofInt 0)), (q9, .inl (X.2.1 0, 33, .inl fun _ => Int32.ofInt 0)), (q10, .inl (X.2.1 0, 33, .inl fun _ => Int32.ofInt 0)), (q11, .inl (X.2.1 0, 64, .inl fun _ => Int32.ofInt 0)), (q12, .inl (X.2.1 0, 64, .inl fun _ => Int32.ofInt 0)), (q13, .inl (X.2.1 0, 2100, .inl fun _ => Int32.ofInt 0)), (q14, .inl (X.2.1 0, 2100, .inl fun _ => Int32.ofInt 0)), (q15, .inl (X.2.1 0, 2100, .inl fun _ => Int32.ofInt 0)), (q16, .inl (X.2.1 0, 2100, .inl fun _ => Int32.ofInt 0)), (q17, .inl (X.2.1 2, 900, .inl fun _ => Int32.ofInt 0)), (q18, .inl (X.2.1 0, 6, .inl fun _ => Int32.ofInt 0)), (q19, .inl (X.2.1 0, 4, .inl fun _ => Int32.ofInt 0)), (q20, .inl (X.2.1 0, 64, .inl fun _ => Int32.ofInt 0)), (q21, .inl (X.2.1 1, 64, .inl fun _ => Int32.ofInt 0))]) ⟨88, _, dX8_init_219, rfl, by decide, k_1335, rfl, rfl, fun h9 => (by first | rfl | cases h9)⟩ (Nat.le_of_ble_eq_true rfl) rfl rfl rfl rfl ?_
  refine n_aload (j := 0) dX8_init_222 rfl rfl ?_
  refine n_bipush (v := Int32.ofInt 64) dX8_init_223 (by decide) ?_
  refine n_newI (N := 64) dX8_init_225 (by decide) (by decide) (Nat.le_of_ble_eq_true rfl) (Nat.le_of_ble_eq_true rfl) (Nat.le_of_ble_eq_true rfl) (fun q22 => ?_)
  refine n_putCF (ci := 8) (k := 53) (fs' := [.int (Int32.ofInt 0), .int (Int32.ofInt 4), .int (Int32.ofInt 4), .ref q1, .int (Int32.ofInt 0), .int (Int32.ofInt 9), .ref q2, .int (Int32.ofInt 0), .ref q3, .ref q4, .ref q5, .int (Int32.ofInt 0), .ref q6, .ref q7, .ref q8, .ref q9, .ref q10, .int (Int32.ofInt 0), .ref q11, .int (Int32.ofInt 9), .ref q12, .int (Int32.ofInt 0), .int (Int32.ofInt 0), .int (Int32.ofInt 0), .int (Int32.ofInt 0), .ref q13, .ref q14, .ref q15, .ref q16, .int (Int32.ofInt 0), .int (Int32.ofInt 0), .int (Int32.ofInt 0), .int (Int32.ofInt 0), .int (Int32.ofInt 0), .ref q17, .int (Int32.ofInt 0), .int (Int32.ofInt 0), .int (Int32.ofInt 0), .int (Int32.ofInt 0), .int (Int32.ofInt 0), .int (Int32.ofInt 0), .int (Int32.ofInt 0), .int (Int32.ofInt (-1)), .int (Int32.ofInt 0), .int (Int32.ofInt 0), .int (Int32.ofInt 0), .ref q18, .int (Int32.ofInt 0), .int (Int32.ofInt 0), .ref q19, .int (Int32.ofInt 0), .ref q20, .ref q21, .ref q22, .int (Int32.ofInt 0), .int (Int32.ofInt 0), .null, .int (Int32.ofInt 0), .null, .null, .int (Int32.ofInt 0), .null, .null, .null, .int (Int32.ofInt 0)]) (tl' := [(q1, .inl (X.2.1 0, 6, .inl fun _ => Int32.ofInt 0)), (q2, .inl (X.2.1 0, 4, .inl fun j => Int32.ofInt (cn_w j))), (q3, .inl (X.2.1 0, 64, .inl fun _ => Int32.ofInt 0)), (q4, .inl (X.2.1 1, 64, .inl fun _ => Int32.ofInt 0)), (q5, .inl (X.2.1 0, 64, .inl fun _ => Int32.ofInt 0)), (q6, .inl (X.2.1 0, 64, .inl fun _ => Int32.ofInt 0)), (q7, .inl (X.2.1 0, 64, .inl fun _ => Int32.ofInt 0)), (q8, .inl (X.2.1 0, 64, .inl fun _ => Int32.ofInt 0)), (q9, .inl (X.2.1 0, 33, .inl fun _ => Int32.ofInt 0)), (q10, .inl (X.2.1 0, 33, .inl fun _ => Int32.ofInt 0)), (q11, .inl (X.2.1 0, 64, .inl fun _ => Int32.ofInt 0)), (q12, .inl (X.2.1 0, 64, .inl fun _ => Int32.ofInt 0)), (q13, .inl (X.2.1 0, 2100, .inl fun _ => Int32.ofInt 0)), (q14, .inl (X.2.1 0, 2100, .inl fun _ => Int32.ofInt 0)), (q15, .inl (X.2.1 0, 2100, .inl fun _ => Int32.ofInt 0)), (q16, .inl (X.2.1 0, 2100, .inl fun _ => Int32.ofInt 0)), (q17, .inl (X.2.1 2, 900, .inl fun _ => Int32.ofInt 0)), (q18, .inl (X.2.1 0, 6, .inl fun _ => Int32.ofInt 0)), (q19, .inl (X.2.1 0, 4, .inl fun _ => Int32.ofInt 0)), (q20, .inl (X.2.1 0, 64, .inl fun _ => Int32.ofInt 0)), (q21, .inl (X.2.1 1, 64, .inl fun _ => Int32.ofInt 0)), (q22, .inl (X.2.1 0, 64, .inl fun _ => Int32.ofInt 0))]) ⟨91, _, dX8_init_227, rfl, by decide, k_1336, rfl, rfl, fun h9 => (by first | rfl | cases h9)⟩ (Nat.le_of_ble_eq_true rfl) rfl rfl rfl rfl ?_
  refine n_aload (j := 0) dX8_init_230 rfl rfl ?_
  refine n_iconst (v := Int32.ofInt 4) dX8_init_231 (by decide) ?_
  refine n_newZ (N := 4) dX8_init_232 (by decide) (by decide) (Nat.le_of_ble_eq_true rfl) (Nat.le_of_ble_eq_true rfl) (Nat.le_of_ble_eq_true rfl) (fun q23 => ?_)
  refine n_putCF (ci := 8) (k := 56) (fs' := [.int (Int32.ofInt 0), .int (Int32.ofInt 4), .int (Int32.ofInt 4), .ref q1, .int (Int32.ofInt 0), .int (Int32.ofInt 9), .ref q2, .int (Int32.ofInt 0), .ref q3, .ref q4, .ref q5, .int (Int32.ofInt 0), .ref q6, .ref q7, .ref q8, .ref q9, .ref q10, .int (Int32.ofInt 0), .ref q11, .int (Int32.ofInt 9), .ref q12, .int (Int32.ofInt 0), .int (Int32.ofInt 0), .int (Int32.ofInt 0), .int (Int32.ofInt 0), .ref q13, .ref q14, .ref q15, .ref q16, .int (Int32.ofInt 0), .int (Int32.ofInt 0), .int (Int32.ofInt 0), .int (Int32.ofInt 0), .int (Int32.ofInt 0), .ref q17, .int (Int32.ofInt 0), .int (Int32.ofInt 0), .int (Int32.ofInt 0), .int (Int32.ofInt 0), .int (Int32.ofInt 0), .int (Int32.ofInt 0), .int (Int32.ofInt 0), .int (Int32.ofInt (-1)), .int (Int32.ofInt 0), .int (Int32.ofInt 0), .int (Int32.ofInt 0), .ref q18, .int (Int32.ofInt 0), .int (Int32.ofInt 0), .ref q19, .int (Int32.ofInt 0), .ref q20, .ref q21, .ref q22, .int (Int32.ofInt 0), .int (Int32.ofInt 0), .ref q23, .int (Int32.ofInt 0), .null, .null, .int (Int32.ofInt 0), .null, .null, .null, .int (Int32.ofInt 0)]) (tl' := [(q1, .inl (X.2.1 0, 6, .inl fun _ => Int32.ofInt 0)), (q2, .inl (X.2.1 0, 4, .inl fun j => Int32.ofInt (cn_w j))), (q3, .inl (X.2.1 0, 64, .inl fun _ => Int32.ofInt 0)), (q4, .inl (X.2.1 1, 64, .inl fun _ => Int32.ofInt 0)), (q5, .inl (X.2.1 0, 64, .inl fun _ => Int32.ofInt 0)), (q6, .inl (X.2.1 0, 64, .inl fun _ => Int32.ofInt 0)), (q7, .inl (X.2.1 0, 64, .inl fun _ => Int32.ofInt 0)), (q8, .inl (X.2.1 0, 64, .inl fun _ => Int32.ofInt 0)), (q9, .inl (X.2.1 0, 33, .inl fun _ => Int32.ofInt 0)), (q10, .inl (X.2.1 0, 33, .inl fun _ => Int32.ofInt 0)), (q11, .inl (X.2.1 0, 64, .inl fun _ => Int32.ofInt 0)), (q12, .inl (X.2.1 0, 64, .inl fun _ => Int32.ofInt 0)), (q13, .inl (X.2.1 0, 2100, .inl fun _ => Int32.ofInt 0)), (q14, .inl (X.2.1 0, 2100, .inl fun _ => Int32.ofInt 0)), (q15, .inl (X.2.1 0, 2100, .inl fun _ => Int32.ofInt 0)), (q16, .inl (X.2.1 0, 2100, .inl fun _ => Int32.ofInt 0)), (q17, .inl (X.2.1 2, 900, .inl fun _ => Int32.ofInt 0)), (q18, .inl (X.2.1 0, 6, .inl fun _ => Int32.ofInt 0)), (q19, .inl (X.2.1 0, 4, .inl fun _ => Int32.ofInt 0)), (q20, .inl (X.2.1 0, 64, .inl fun _ => Int32.ofInt 0)), (q21, .inl (X.2.1 1, 64, .inl fun _ => Int32.ofInt 0)), (q22, .inl (X.2.1 0, 64, .inl fun _ => Int32.ofInt 0)), (q23, .inl (X.2.1 1, 4, .inl fun _ => Int32.ofInt 0))]) ⟨94, _, dX8_init_234, rfl, by decide, k_1339, rfl, rfl, fun h9 => (by first | rfl | cases h9)⟩ (Nat.le_of_ble_eq_true rfl) rfl rfl rfl rfl ?_
  refine n_aload (j := 0) dX8_init_237 rfl rfl ?_
  refine n_bipush (v := Int32.ofInt 20) dX8_init_238 (by decide) ?_
  refine n_newI (N := 20) dX8_init_240 (by decide) (by decide) (Nat.le_of_ble_eq_true rfl) (Nat.le_of_ble_eq_true rfl) (Nat.le_of_ble_eq_true rfl) (fun q24 => ?_)
  refine n_putCF (ci := 8) (k := 58) (fs' := [.int (Int32.ofInt 0), .int (Int32.ofInt 4), .int (Int32.ofInt 4), .ref q1, .int (Int32.ofInt 0), .int (Int32.ofInt 9), .ref q2, .int (Int32.ofInt 0), .ref q3, .ref q4, .ref q5, .int (Int32.ofInt 0), .ref q6, .ref q7, .ref q8, .ref q9, .ref q10, .int (Int32.ofInt 0), .ref q11, .int (Int32.ofInt 9), .ref q12, .int (Int32.ofInt 0), .int (Int32.ofInt 0), .int (Int32.ofInt 0), .int (Int32.ofInt 0), .ref q13, .ref q14, .ref q15, .ref q16, .int (Int32.ofInt 0), .int (Int32.ofInt 0), .int (Int32.ofInt 0), .int (Int32.ofInt 0), .int (Int32.ofInt 0), .ref q17, .int (Int32.ofInt 0), .int (Int32.ofInt 0), .int (Int32.ofInt 0), .int (Int32.ofInt 0), .int (Int32.ofInt 0), .int (Int32.ofInt 0), .int (Int32.ofInt 0), .int (Int32.ofInt (-1)), .int (Int32.ofInt 0), .int (Int32.ofInt 0), .int (Int32.ofInt 0), .ref q18, .int (Int32.ofInt 0), .int (Int32.ofInt 0), .ref q19, .int (Int32.ofInt 0), .ref q20, .ref q21, .ref q22, .int (Int32.ofInt 0), .int (Int32.ofInt 0), .ref q23, .int (Int32.ofInt 0), .ref q24, .null, .int (Int32.ofInt 0), .null, .null, .null, .int (Int32.ofInt 0)]) (tl' := [(q1, .inl (X.2.1 0, 6, .inl fun _ => Int32.ofInt 0)), (q2, .inl (X.2.1 0, 4, .inl fun j => Int32.ofInt (cn_w j))), (q3, .inl (X.2.1 0, 64, .inl fun _ => Int32.ofInt 0)), (q4, .inl (X.2.1 1, 64, .inl fun _ => Int32.ofInt 0)), (q5, .inl (X.2.1 0, 64, .inl fun _ => Int32.ofInt 0)), (q6, .inl (X.2.1 0, 64, .inl fun _ => Int32.ofInt 0)), (q7, .inl (X.2.1 0, 64, .inl fun _ => Int32.ofInt 0)), (q8, .inl (X.2.1 0, 64, .inl fun _ => Int32.ofInt 0)), (q9, .inl (X.2.1 0, 33, .inl fun _ => Int32.ofInt 0)), (q10, .inl (X.2.1 0, 33, .inl fun _ => Int32.ofInt 0)), (q11, .inl (X.2.1 0, 64, .inl fun _ => Int32.ofInt 0)), (q12, .inl (X.2.1 0, 64, .inl fun _ => Int32.ofInt 0)), (q13, .inl (X.2.1 0, 2100, .inl fun _ => Int32.ofInt 0)), (q14, .inl (X.2.1 0, 2100, .inl fun _ => Int32.ofInt 0)), (q15, .inl (X.2.1 0, 2100, .inl fun _ => Int32.ofInt 0)), (q16, .inl (X.2.1 0, 2100, .inl fun _ => Int32.ofInt 0)), (q17, .inl (X.2.1 2, 900, .inl fun _ => Int32.ofInt 0)), (q18, .inl (X.2.1 0, 6, .inl fun _ => Int32.ofInt 0)), (q19, .inl (X.2.1 0, 4, .inl fun _ => Int32.ofInt 0)), (q20, .inl (X.2.1 0, 64, .inl fun _ => Int32.ofInt 0)), (q21, .inl (X.2.1 1, 64, .inl fun _ => Int32.ofInt 0)), (q22, .inl (X.2.1 0, 64, .inl fun _ => Int32.ofInt 0)), (q23, .inl (X.2.1 1, 4, .inl fun _ => Int32.ofInt 0)), (q24, .inl (X.2.1 0, 20, .inl fun _ => Int32.ofInt 0))]) ⟨97, _, dX8_init_242, rfl, by decide, k_1341, rfl, rfl, fun h9 => (by first | rfl | cases h9)⟩ (Nat.le_of_ble_eq_true rfl) rfl rfl rfl rfl ?_
  refine n_aload (j := 0) dX8_init_245 rfl rfl ?_
  refine n_bipush (v := Int32.ofInt 20) dX8_init_246 (by decide) ?_
  refine n_newI (N := 20) dX8_init_248 (by decide) (by decide) (Nat.le_of_ble_eq_true rfl) (Nat.le_of_ble_eq_true rfl) (Nat.le_of_ble_eq_true rfl) (fun q25 => ?_)
  refine n_putCF (ci := 8) (k := 59) (fs' := [.int (Int32.ofInt 0), .int (Int32.ofInt 4), .int (Int32.ofInt 4), .ref q1, .int (Int32.ofInt 0), .int (Int32.ofInt 9), .ref q2, .int (Int32.ofInt 0), .ref q3, .ref q4, .ref q5, .int (Int32.ofInt 0), .ref q6, .ref q7, .ref q8, .ref q9, .ref q10, .int (Int32.ofInt 0), .ref q11, .int (Int32.ofInt 9), .ref q12, .int (Int32.ofInt 0), .int (Int32.ofInt 0), .int (Int32.ofInt 0), .int (Int32.ofInt 0), .ref q13, .ref q14, .ref q15, .ref q16, .int (Int32.ofInt 0), .int (Int32.ofInt 0), .int (Int32.ofInt 0), .int (Int32.ofInt 0), .int (Int32.ofInt 0), .ref q17, .int (Int32.ofInt 0), .int (Int32.ofInt 0), .int (Int32.ofInt 0), .int (Int32.ofInt 0), .int (Int32.ofInt 0), .int (Int32.ofInt 0), .int (Int32.ofInt 0), .int (Int32.ofInt (-1)), .int (Int32.ofInt 0), .int (Int32.ofInt 0), .int (Int32.ofInt 0), .ref q18, .int (Int32.ofInt 0), .int (Int32.ofInt 0), .ref q19, .int (Int32.ofInt 0), .ref q20, .ref q21, .ref q22, .int (Int32.ofInt 0), .int (Int32.ofInt 0), .ref q23, .int (Int32.ofInt 0), .ref q24, .ref q25, .int (Int32.ofInt 0), .null, .null, .null, .int (Int32.ofInt 0)]) (tl' := [(q1, .inl (X.2.1 0, 6, .inl fun _ => Int32.ofInt 0)), (q2, .inl (X.2.1 0, 4, .inl fun j => Int32.ofInt (cn_w j))), (q3, .inl (X.2.1 0, 64, .inl fun _ => Int32.ofInt 0)), (q4, .inl (X.2.1 1, 64, .inl fun _ => Int32.ofInt 0)), (q5, .inl (X.2.1 0, 64, .inl fun _ => Int32.ofInt 0)), (q6, .inl (X.2.1 0, 64, .inl fun _ => Int32.ofInt 0)), (q7, .inl (X.2.1 0, 64, .inl fun _ => Int32.ofInt 0)), (q8, .inl (X.2.1 0, 64, .inl fun _ => Int32.ofInt 0)), (q9, .inl (X.2.1 0, 33, .inl fun _ => Int32.ofInt 0)), (q10, .inl (X.2.1 0, 33, .inl fun _ => Int32.ofInt 0)), (q11, .inl (X.2.1 0, 64, .inl fun _ => Int32.ofInt 0)), (q12, .inl (X.2.1 0, 64, .inl fun _ => Int32.ofInt 0)), (q13, .inl (X.2.1 0, 2100, .inl fun _ => Int32.ofInt 0)), (q14, .inl (X.2.1 0, 2100, .inl fun _ => Int32.ofInt 0)), (q15, .inl (X.2.1 0, 2100, .inl fun _ => Int32.ofInt 0)), (q16, .inl (X.2.1 0, 2100, .inl fun _ => Int32.ofInt 0)), (q17, .inl (X.2.1 2, 900, .inl fun _ => Int32.ofInt 0)), (q18, .inl (X.2.1 0, 6, .inl fun _ => Int32.ofInt 0)), (q19, .inl (X.2.1 0, 4, .inl fun _ => Int32.ofInt 0)), (q20, .inl (X.2.1 0, 64, .inl fun _ => Int32.ofInt 0)), (q21, .inl (X.2.1 1, 64, .inl fun _ => Int32.ofInt 0)), (q22, .inl (X.2.1 0, 64, .inl fun _ => Int32.ofInt 0)), (q23, .inl (X.2.1 1, 4, .inl fun _ => Int32.ofInt 0)), (q24, .inl (X.2.1 0, 20, .inl fun _ => Int32.ofInt 0)), (q25, .inl (X.2.1 0, 20, .inl fun _ => Int32.ofInt 0))]) ⟨100, _, dX8_init_250, rfl, by decide, k_1342, rfl, rfl, fun h9 => (by first | rfl | cases h9)⟩ (Nat.le_of_ble_eq_true rfl) rfl rfl rfl rfl ?_
  refine n_aload (j := 0) dX8_init_253 rfl rfl ?_
  refine n_sipush (v := Int32.ofInt 3993) dX8_init_254 (by decide) ?_
  refine n_newI (N := 3993) dX8_init_257 (by decide) (by decide) (Nat.le_of_ble_eq_true rfl) (Nat.le_of_ble_eq_true rfl) (Nat.le_of_ble_eq_true rfl) (fun q26 => ?_)
  refine n_putCF (ci := 8) (k := 61) (fs' := [.int (Int32.ofInt 0), .int (Int32.ofInt 4), .int (Int32.ofInt 4), .ref q1, .int (Int32.ofInt 0), .int (Int32.ofInt 9), .ref q2, .int (Int32.ofInt 0), .ref q3, .ref q4, .ref q5, .int (Int32.ofInt 0), .ref q6, .ref q7, .ref q8, .ref q9, .ref q10, .int (Int32.ofInt 0), .ref q11, .int (Int32.ofInt 9), .ref q12, .int (Int32.ofInt 0), .int (Int32.ofInt 0), .int (Int32.ofInt 0), .int (Int32.ofInt 0), .ref q13, .ref q14, .ref q15, .ref q16, .int (Int32.ofInt 0), .int (Int32.ofInt 0), .int (Int32.ofInt 0), .int (Int32.ofInt 0), .int (Int32.ofInt 0), .ref q17, .int (Int32.ofInt 0), .int (Int32.ofInt 0), .int (Int32.ofInt 0), .int (Int32.ofInt 0), .int (Int32.ofInt 0), .int (Int32.ofInt 0), .int (Int32.ofInt 0), .int (Int32.ofInt (-1)), .int (Int32.ofInt 0), .int (Int32.ofInt 0), .int (Int32.ofInt 0), .ref q18, .int (Int32.ofInt 0), .int (Int32.ofInt 0), .ref q19, .int (Int32.ofInt 0), .ref q20, .ref q21, .ref q22, .int (Int32.ofInt 0), .int (Int32.ofInt 0), .ref q23, .int (Int32.ofInt 0), .ref q24, .ref q25, .int (Int32.ofInt 0), .ref q26, .null, .null, .int (Int32.ofInt 0)]) (tl' := [(q1, .inl (X.2.1 0, 6, .inl fun _ => Int32.ofInt 0)), (q2, .inl (X.2.1 0, 4, .inl fun j => Int32.ofInt (cn_w j))), (q3, .inl (X.2.1 0, 64, .inl fun _ => Int32.ofInt 0)), (q4, .inl (X.2.1 1, 64, .inl fun _ => Int32.ofInt 0)), (q5, .inl (X.2.1 0, 64, .inl fun _ => Int32.ofInt 0)), (q6, .inl (X.2.1 0, 64, .inl fun _ => Int32.ofInt 0)), (q7, .inl (X.2.1 0, 64, .inl fun _ => Int32.ofInt 0)), (q8, .inl (X.2.1 0, 64, .inl fun _ => Int32.ofInt 0)), (q9, .inl (X.2.1 0, 33, .inl fun _ => Int32.ofInt 0)), (q10, .inl (X.2.1 0, 33, .inl fun _ => Int32.ofInt 0)), (q11, .inl (X.2.1 0, 64, .inl fun _ => Int32.ofInt 0)), (q12, .inl (X.2.1 0, 64, .inl fun _ => Int32.ofInt 0)), (q13, .inl (X.2.1 0, 2100, .inl fun _ => Int32.ofInt 0)), (q14, .inl (X.2.1 0, 2100, .inl fun _ => Int32.ofInt 0)), (q15, .inl (X.2.1 0, 2100, .inl fun _ => Int32.ofInt 0)), (q16, .inl (X.2.1 0, 2100, .inl fun _ => Int32.ofInt 0)), (q17, .inl (X.2.1 2, 900, .inl fun _ => Int32.ofInt 0)), (q18, .inl (X.2.1 0, 6, .inl fun _ => Int32.ofInt 0)), (q19, .inl (X.2.1 0, 4, .inl fun _ => Int32.ofInt 0)), (q20, .inl (X.2.1 0, 64, .inl fun _ => Int32.ofInt 0)), (q21, .inl (X.2.1 1, 64, .inl fun _ => Int32.ofInt 0)), (q22, .inl (X.2.1 0, 64, .inl fun _ => Int32.ofInt 0)), (q23, .inl (X.2.1 1, 4, .inl fun _ => Int32.ofInt 0)), (q24, .inl (X.2.1 0, 20, .inl fun _ => Int32.ofInt 0)), (q25, .inl (X.2.1 0, 20, .inl fun _ => Int32.ofInt 0)), (q26, .inl (X.2.1 0, 3993, .inl fun _ => Int32.ofInt 0))]) ⟨103, _, dX8_init_259, rfl, by decide, k_1344, rfl, rfl, fun h9 => (by first | rfl | cases h9)⟩ (Nat.le_of_ble_eq_true rfl) rfl rfl rfl rfl ?_
  refine n_aload (j := 0) dX8_init_262 rfl rfl ?_
  refine n_bipush (v := Int32.ofInt 32) dX8_init_263 (by decide) ?_
  refine n_newI (N := 32) dX8_init_265 (by decide) (by decide) (Nat.le_of_ble_eq_true rfl) (Nat.le_of_ble_eq_true rfl) (Nat.le_of_ble_eq_true rfl) (fun q27 => ?_)
  refine n_putCF (ci := 8) (k := 62) (fs' := [.int (Int32.ofInt 0), .int (Int32.ofInt 4), .int (Int32.ofInt 4), .ref q1, .int (Int32.ofInt 0), .int (Int32.ofInt 9), .ref q2, .int (Int32.ofInt 0), .ref q3, .ref q4, .ref q5, .int (Int32.ofInt 0), .ref q6, .ref q7, .ref q8, .ref q9, .ref q10, .int (Int32.ofInt 0), .ref q11, .int (Int32.ofInt 9), .ref q12, .int (Int32.ofInt 0), .int (Int32.ofInt 0), .int (Int32.ofInt 0), .int (Int32.ofInt 0), .ref q13, .ref q14, .ref q15, .ref q16, .int (Int32.ofInt 0), .int (Int32.ofInt 0), .int (Int32.ofInt 0), .int (Int32.ofInt 0), .int (Int32.ofInt 0), .ref q17, .int (Int32.ofInt 0), .int (Int32.ofInt 0), .int (Int32.ofInt 0), .int (Int32.ofInt 0), .int (Int32.ofInt 0), .int (Int32.ofInt 0), .int (Int32.ofInt 0), .int (Int32.ofInt (-1)), .int (Int32.ofInt 0), .int (Int32.ofInt 0), .int (Int32.ofInt 0), .ref q18, .int (Int32.ofInt 0), .int (Int32.ofInt 0), .ref q19, .int (Int32.ofInt 0), .ref q20, .ref q21, .ref q22, .int (Int32.ofInt 0), .int (Int32.ofInt 0), .ref q23, .int (Int32.ofInt 0), .ref q24, .ref q25, .int (Int32.ofInt 0), .ref q26, .ref q27, .null, .int (Int32.ofInt 0)]) (tl' := [(q1, .inl (X.2.1 0, 6, .inl fun _ => Int32.ofInt 0)), (q2, .inl (X.2.1 0, 4, .inl fun j => Int32.ofInt (cn_w j))), (q3, .inl (X.2.1 0, 64, .inl fun _ => Int32.ofInt 0)), (q4, .inl (X.2.1 1, 64, .inl fun _ => Int32.ofInt 0)), (q5, .inl (X.2.1 0, 64, .inl fun _ => Int32.ofInt 0)), (q6, .inl (X.2.1 0, 64, .inl fun _ => Int32.ofInt 0)), (q7, .inl (X.2.1 0, 64, .inl fun _ => Int32.ofInt 0)), (q8, .inl (X.2.1 0, 64, .inl fun _ => Int32.ofInt 0)), (q9, .inl (X.2.1 0, 33, .inl fun _ => Int32.ofInt 0)), (q10, .inl (X.2.1 0, 33, .inl fun _ => Int32.ofInt 0)), (q11, .inl (X.2.1 0, 64, .inl fun _ => Int32.ofInt 0)), (q12, .inl (X.2.1 0, 64, .inl fun _ => Int32.ofInt 0)), (q13, .inl (X.2.1 0, 2100, .inl fun _ => Int32.ofInt 0)), (q14, .inl (X.2.1 0, 2100, .inl fun _ => Int32.ofInt 0)), (q15, .inl (X.2.1 0, 2100, .inl fun _ => Int32.ofInt 0)), (q16, .inl (X.2.1 0, 2100, .inl fun _ => Int32.ofInt 0)), (q17, .inl (X.2.1 2, 900, .inl fun _ => Int32.ofInt 0)), (q18, .inl (X.2.1 0, 6, .inl fun _ => Int32.ofInt 0)), (q19, .inl (X.2.1 0, 4, .inl fun _ => Int32.ofInt 0)), (q20, .inl (X.2.1 0, 64, .inl fun _ => Int32.ofInt 0)), (q21, .inl (X.2.1 1, 64, .inl fun _ => Int32.ofInt 0)), (q22, .inl (X.2.1 0, 64, .inl fun _ => Int32.ofInt 0)), (q23, .inl (X.2.1 1, 4, .inl fun _ => Int32.ofInt 0)), (q24, .inl (X.2.1 0, 20, .inl fun _ => Int32.ofInt 0)), (q25, .inl (X.2.1 0, 20, .inl fun _ => Int32.ofInt 0)), (q26, .inl (X.2.1 0, 3993, .inl fun _ => Int32.ofInt 0)), (q27, .inl (X.2.1 0, 32, .inl fun _ => Int32.ofInt 0))]) ⟨106, _, dX8_init_267, rfl, by decide, k_1345, rfl, rfl, fun h9 => (by first | rfl | cases h9)⟩ (Nat.le_of_ble_eq_true rfl) rfl rfl rfl rfl ?_
  refine n_aload (j := 0) dX8_init_270 rfl rfl ?_
  refine n_bipush (v := Int32.ofInt 32) dX8_init_271 (by decide) ?_
  refine n_newI (N := 32) dX8_init_273 (by decide) (by decide) (Nat.le_of_ble_eq_true rfl) (Nat.le_of_ble_eq_true rfl) (Nat.le_of_ble_eq_true rfl) (fun q28 => ?_)
  refine n_putCF (ci := 8) (k := 63) (fs' := [.int (Int32.ofInt 0), .int (Int32.ofInt 4), .int (Int32.ofInt 4), .ref q1, .int (Int32.ofInt 0), .int (Int32.ofInt 9), .ref q2, .int (Int32.ofInt 0), .ref q3, .ref q4, .ref q5, .int (Int32.ofInt 0), .ref q6, .ref q7, .ref q8, .ref q9, .ref q10, .int (Int32.ofInt 0), .ref q11, .int (Int32.ofInt 9), .ref q12, .int (Int32.ofInt 0), .int (Int32.ofInt 0), .int (Int32.ofInt 0), .int (Int32.ofInt 0), .ref q13, .ref q14, .ref q15, .ref q16, .int (Int32.ofInt 0), .int (Int32.ofInt 0), .int (Int32.ofInt 0), .int (Int32.ofInt 0), .int (Int32.ofInt 0), .ref q17, .int (Int32.ofInt 0), .int (Int32.ofInt 0), .int (Int32.ofInt 0), .int (Int32.ofInt 0), .int (Int32.ofInt 0), .int (Int32.ofInt 0), .int (Int32.ofInt 0), .int (Int32.ofInt (-1)), .int (Int32.ofInt 0), .int (Int32.ofInt 0), .int (Int32.ofInt 0), .ref q18, .int (Int32.ofInt 0), .int (Int32.ofInt 0), .ref q19, .int (Int32.ofInt 0), .ref q20, .ref q21, .ref q22, .int (Int32.ofInt 0), .int (Int32.ofInt 0), .ref q23, .int (Int32.ofInt 0), .ref q24, .ref q25, .int (Int32.ofInt 0), .ref q26, .ref q27, .ref q28, .int (Int32.ofInt 0)]) (tl' := [(q1, .inl (X.2.1 0, 6, .inl fun _ => Int32.ofInt 0)), (q2, .inl (X.2.1 0, 4, .inl fun j => Int32.ofInt (cn_w j))), (q3, .inl (X.2.1 0, 64, .inl fun _ => Int32.ofInt 0)), (q4, .inl (X.2.1 1, 64, .inl fun _ => Int32.ofInt 0)), (q5, .inl (X.2.1 0, 64, .inl fun _ => Int32.ofInt 0)), (q6, .inl (X.2.1 0, 64, .inl fun _ => Int32.ofInt 0)), (q7, .inl (X.2.1 0, 64, .inl fun _ => Int32.ofInt 0)), (q8, .inl (X.2.1 0, 64, .inl fun _ => Int32.ofInt 0)), (q9, .inl (X.2.1 0, 33, .inl fun _ => Int32.ofInt 0)), (q10, .inl (X.2.1 0, 33, .inl fun _ => Int32.ofInt 0)), (q11, .inl (X.2.1 0, 64, .inl fun _ => Int32.ofInt 0)), (q12, .inl (X.2.1 0, 64, .inl fun _ => Int32.ofInt 0)), (q13, .inl (X.2.1 0, 2100, .inl fun _ => Int32.ofInt 0)), (q14, .inl (X.2.1 0, 2100, .inl fun _ => Int32.ofInt 0)), (q15, .inl (X.2.1 0, 2100, .inl fun _ => Int32.ofInt 0)), (q16, .inl (X.2.1 0, 2100, .inl fun _ => Int32.ofInt 0)), (q17, .inl (X.2.1 2, 900, .inl fun _ => Int32.ofInt 0)), (q18, .inl (X.2.1 0, 6, .inl fun _ => Int32.ofInt 0)), (q19, .inl (X.2.1 0, 4, .inl fun _ => Int32.ofInt 0)), (q20, .inl (X.2.1 0, 64, .inl fun _ => Int32.ofInt 0)), (q21, .inl (X.2.1 1, 64, .inl fun _ => Int32.ofInt 0)), (q22, .inl (X.2.1 0, 64, .inl fun _ => Int32.ofInt 0)), (q23, .inl (X.2.1 1, 4, .inl fun _ => Int32.ofInt 0)), (q24, .inl (X.2.1 0, 20, .inl fun _ => Int32.ofInt 0)), (q25, .inl (X.2.1 0, 20, .inl fun _ => Int32.ofInt 0)), (q26, .inl (X.2.1 0, 3993, .inl fun _ => Int32.ofInt 0)), (q27, .inl (X.2.1 0, 32, .inl fun _ => Int32.ofInt 0)), (q28, .inl (X.2.1 0, 32, .inl fun _ => Int32.ofInt 0))]) ⟨109, _, dX8_init_275, rfl, by decide, k_1346, rfl, rfl, fun h9 => (by first | rfl | cases h9)⟩ (Nat.le_of_ble_eq_true rfl) rfl rfl rfl rfl ?_
  exact n_ret (fun i => [h0, q1, q2, q3, q4, q5, q6, q7, q8, q9, q10, q11, q12, q13, q14, q15, q16, q17, q18, q19, q20, q21, q22, q23, q24, q25, q26, q27, q28].getD i 0) dX8_init_278 rfl rfl rfl (Nat.le_of_ble_eq_true rfl) (Nat.le_of_ble_eq_true rfl)
def M_X2_init : AMeth := (yX2_init, cX2_init, 1, none, 4, 120)
theorem ok_X2_init : cn_Ok M_X2_init 0 := ⟨k_304, k_303, k_135, rfl, rfl, by decide +kernel⟩
def cn_W2 (X : AX) (f : (Nat → Nat) × Mu) : va_W := am_pic (GP (X.1, X.2.1, f.1, X.2.2.2.1, X.2.2.2.2)) f.2
set_option maxRecDepth 20000 in
set_option maxHeartbeats 4000000 in
theorem c_X2_init (X : AX) (h0 : Nat) (sz : Nat) : Met (gL (GG X)) M_X2_init.1 (am_ws M_X2_init) (cn_R M_X2_init 10 464) (cn_Pc (GG X) X.2.1 h0 [] 2 cn_d2 sz) (cn_Q (GG X) X.2.1 h0 2 cn_d2 (fun f : (Nat → Nat) × Mu => f.1 0 = h0 ∧ CPS S0 0 f.2 ∧ f.2 0 14 = 0 ∧ Fr 0 2 1 0 f.2 (fun _ _ => 0)) (cn_W2 X) sz) 10 464 (va_A [(h0, .inr (2, cn_d2))] sz) := by
  refine cn_met (by decide +kernel) rfl rfl (Nat.le_of_ble_eq_true rfl) (fun p e s m args below meth c lsA => ?_) sz
  refine n_aload (j := 0) dX2_init_0 rfl rfl ?_
  refine n_obj dX2_init_1 k_305 k_155 k_156 ⟨(Nat.le_of_ble_eq_true rfl), (Nat.le_of_ble_eq_true rfl)⟩ ?_
  refine n_aload (j := 0) dX2_init_4 rfl rfl ?_
  refine n_bipush (v := Int32.ofInt 12) dX2_init_5 (by decide) ?_
  refine n_newI (N := 12) dX2_init_7 (by decide) (by decide) (Nat.le_of_ble_eq_true rfl) (Nat.le_of_ble_eq_true rfl) (Nat.le_of_ble_eq_true rfl) (fun q1 => ?_)
  refine n_putCF (ci := 2) (k := 5) ⟨9, _, dX2_init_9, rfl, by decide, k_332, rfl, rfl, fun h9 => (by first | rfl | cases h9)⟩ (Nat.le_of_ble_eq_true rfl) rfl rfl rfl rfl ?_
  refine n_aload (j := 0) dX2_init_12 rfl rfl ?_
  refine n_iconst (v := Int32.ofInt 4) dX2_init_13 (by decide) ?_
  refine n_newI (N := 4) dX2_init_14 (by decide) (by decide) (Nat.le_of_ble_eq_true rfl) (Nat.le_of_ble_eq_true rfl) (Nat.le_of_ble_eq_true rfl) (fun q2 => ?_)
  refine n_putCF (ci := 2) (k := 6) ⟨15, _, dX2_init_16, rfl, by decide, k_334, rfl, rfl, fun h9 => (by first | rfl | cases h9)⟩ (Nat.le_of_ble_eq_true rfl) rfl rfl rfl rfl ?_
  refine n_aload (j := 0) dX2_init_19 rfl rfl ?_
  refine n_bipush (v := Int32.ofInt 64) dX2_init_20 (by decide) ?_
  refine n_newI (N := 64) dX2_init_22 (by decide) (by decide) (Nat.le_of_ble_eq_true rfl) (Nat.le_of_ble_eq_true rfl) (Nat.le_of_ble_eq_true rfl) (fun q3 => ?_)
  refine n_putCF (ci := 2) (k := 8) ⟨18, _, dX2_init_24, rfl, by decide, k_341, rfl, rfl, fun h9 => (by first | rfl | cases h9)⟩ (Nat.le_of_ble_eq_true rfl) rfl rfl rfl rfl ?_
  refine n_aload (j := 0) dX2_init_27 rfl rfl ?_
  refine n_bipush (v := Int32.ofInt 64) dX2_init_28 (by decide) ?_
  refine n_newZ (N := 64) dX2_init_30 (by decide) (by decide) (Nat.le_of_ble_eq_true rfl) (Nat.le_of_ble_eq_true rfl) (Nat.le_of_ble_eq_true rfl) (fun q4 => ?_)
  refine n_putCF (ci := 2) (k := 9) ⟨21, _, dX2_init_32, rfl, by decide, k_343, rfl, rfl, fun h9 => (by first | rfl | cases h9)⟩ (Nat.le_of_ble_eq_true rfl) rfl rfl rfl rfl ?_
  refine n_aload (j := 0) dX2_init_35 rfl rfl ?_
  refine n_bipush (v := Int32.ofInt 64) dX2_init_36 (by decide) ?_
  refine n_newI (N := 64) dX2_init_38 (by decide) (by decide) (Nat.le_of_ble_eq_true rfl) (Nat.le_of_ble_eq_true rfl) (Nat.le_of_ble_eq_true rfl) (fun q5 => ?_)
  refine n_putCF (ci := 2) (k := 10) ⟨25, _, dX2_init_40, rfl, by decide, k_345, rfl, rfl, fun h9 => (by first | rfl | cases h9)⟩ (Nat.le_of_ble_eq_true rfl) rfl rfl rfl rfl ?_
  refine n_aload (j := 0) dX2_init_43 rfl rfl ?_
  refine n_bipush (v := Int32.ofInt 64) dX2_init_44 (by decide) ?_
  refine n_newI (N := 64) dX2_init_46 (by decide) (by decide) (Nat.le_of_ble_eq_true rfl) (Nat.le_of_ble_eq_true rfl) (Nat.le_of_ble_eq_true rfl) (fun q6 => ?_)
  refine n_putCF (ci := 2) (k := 11) ⟨28, _, dX2_init_48, rfl, by decide, k_348, rfl, rfl, fun h9 => (by first | rfl | cases h9)⟩ (Nat.le_of_ble_eq_true rfl) rfl rfl rfl rfl ?_
  refine n_aload (j := 0) dX2_init_51 rfl rfl ?_
  refine n_bipush (v := Int32.ofInt 64) dX2_init_52 (by decide) ?_
  refine n_newI (N := 64) dX2_init_54 (by decide) (by decide) (Nat.le_of_ble_eq_true rfl) (Nat.le_of_ble_eq_true rfl) (Nat.le_of_ble_eq_true rfl) (fun q7 => ?_)
  refine n_putCF (ci := 2) (k := 12) ⟨31, _, dX2_init_56, rfl, by decide, k_349, rfl, rfl, fun h9 => (by first | rfl | cases h9)⟩ (Nat.le_of_ble_eq_true rfl) rfl rfl rfl rfl ?_
  refine n_aload (j := 0) dX2_init_59 rfl rfl ?_
  refine n_bipush (v := Int32.ofInt 64) dX2_init_60 (by decide) ?_
  refine n_newI (N := 64) dX2_init_62 (by decide) (by decide) (Nat.le_of_ble_eq_true rfl) (Nat.le_of_ble_eq_true rfl) (Nat.le_of_ble_eq_true rfl) (fun q8 => ?_)
  refine n_putCF (ci := 2) (k := 13) ⟨34, _, dX2_init_64, rfl, by decide, k_352, rfl, rfl, fun h9 => (by first | rfl | cases h9)⟩ (Nat.le_of_ble_eq_true rfl) rfl rfl rfl rfl ?_
  refine n_aload (j := 0) dX2_init_67 rfl rfl ?_
  refine n_bipush (v := Int32.ofInt 32) dX2_init_68 (by decide) ?_
  refine n_newI (N := 32) dX2_init_70 (by decide) (by decide) (Nat.le_of_ble_eq_true rfl) (Nat.le_of_ble_eq_true rfl) (Nat.le_of_ble_eq_true rfl) (fun q9 => ?_)
  refine n_putCF (ci := 2) (k := 15) ⟨37, _, dX2_init_72, rfl, by decide, k_358, rfl, rfl, fun h9 => (by first | rfl | cases h9)⟩ (Nat.le_of_ble_eq_true rfl) rfl rfl rfl rfl ?_
  refine n_aload (j := 0) dX2_init_75 rfl rfl ?_
  refine n_bipush (v := Int32.ofInt 32) dX2_init_76 (by decide) ?_
  refine n_newI (N := 32) dX2_init_78 (by decide) (by decide) (Nat.le_of_ble_eq_true rfl) (Nat.le_of_ble_eq_true rfl) (Nat.le_of_ble_eq_true rfl) (fun q10 => ?_)
  refine n_putCF (ci := 2) (k := 16) ⟨40, _, dX2_init_80, rfl, by decide, k_362, rfl, rfl, fun h9 => (by first | rfl | cases h9)⟩ (Nat.le_of_ble_eq_true rfl) rfl rfl rfl rfl ?_
  refine n_aload (j := 0) dX2_init_83 rfl rfl ?_
  obtain ⟨r9, m9, e9, hr9, hF9, hC9, h14⟩ := s_X2_clear_s (X.1, X.2.1, (fun i => [h0, q1, q2, q3, q4, q5, q6, q7, q8, q9, q10].getD i 0), X.2.2.2.1, X.2.2.2.2) (fun _ _ => 0)
  subst hr9
  refine n_callP (X := X) (f := fun i => [h0, q1, q2, q3, q4, q5, q6, q7, q8, q9, q10].getD i 0) (μ := fun _ _ => 0) (M2 := M_X2_clear) (st := []) rfl rfl ⟨43, dX2_init_84, k_306, k_307, k_308, ok_X2_clear⟩ rfl ⟨(Nat.le_of_ble_eq_true rfl), (Nat.le_of_ble_eq_true rfl)⟩ ⟨(Nat.le_of_ble_eq_true rfl), (Nat.le_of_ble_eq_true rfl)⟩ (Nat.le_of_ble_eq_true rfl) rfl e9 ?_
  exact n_ret (S := (Nat → Nat) × Mu) (wc := cn_W2 X) (fun i => [h0, q1, q2, q3, q4, q5, q6, q7, q8, q9, q10].getD i 0, m9) dX2_init_87 rfl ⟨rfl, hC9, h14, hF9⟩ rfl (Nat.le_of_ble_eq_true rfl) (Nat.le_of_ble_eq_true rfl)
def M_X7_init : AMeth := (yX7_init, cX7_init, 1, none, 6, 260)
theorem ok_X7_init : cn_Ok M_X7_init 0 := ⟨k_153, k_152, k_129, rfl, rfl, by decide +kernel⟩
def cn_W7 (X : AX) (f : (Nat → Nat) × Mu × Mu) : va_W := [(f.1 0, .inr (7, [.ref (f.1 1), .ref (f.1 42), .ref (f.1 3), .ref (f.1 6), .ref (f.1 15), .ref (f.1 16), .ref (f.1 19), .ref (f.1 20), .ref (f.1 31)]))] ++ cn_W5 X (fun i => f.1 (1 + i)) ++ cn_W1 X (fun i => f.1 (3 + i)) ++ cn_W0 X (fun i => f.1 (6 + i)) ++ cn_W6 X (fun i => f.1 (15 + i)) ++ cn_W4 X (fun i => f.1 (16 + i)) ++ [(f.1 19, .inl (X.2.1 0, 64, .inl fun _ => Int32.ofInt 0))] ++ cn_W2 X (fun i => f.1 (20 + i), f.2.1) ++ cn_W2 X (fun i => f.1 (31 + i), f.2.2) ++ cn_W3 X (f.1 2) (f.1 31) (fun i => f.1 (42 + i))
set_option maxRecDepth 20000 in
set_option maxHeartbeats 8000000 in
theorem c_X7_init (X : AX) (h0 : Nat) (sz : Nat) : Met (gL (GG X)) M_X7_init.1 (am_ws M_X7_init) (cn_R M_X7_init 44 7131) (cn_Pc (GG X) X.2.1 h0 [] 7 cn_d7 sz) (cn_Q (GG X) X.2.1 h0 7 cn_d7 (fun f : (Nat → Nat) × Mu × Mu => f.1 0 = h0 ∧ (CPS S0 0 f.2.1 ∧ f.2.1 0 14 = 0 ∧ Fr 0 2 1 0 f.2.1 (fun _ _ => 0)) ∧ CPS S0 0 f.2.2 ∧ f.2.2 0 14 = 0 ∧ Fr 0 2 1 0 f.2.2 (fun _ _ => 0)) (cn_W7 X) sz) 44 7131 (va_A [(h0, .inr (7, cn_d7))] sz) := by
  refine cn_met (by decide +kernel) rfl rfl (Nat.le_of_ble_eq_true rfl) (fun p e s m args below meth c lsA => ?_) sz
  refine n_aload (j := 0) dX7_init_0 rfl rfl ?_
  refine n_obj dX7_init_1 k_154 k_155 k_156 ⟨(Nat.le_of_ble_eq_true rfl), (Nat.le_of_ble_eq_true rfl)⟩ ?_
  refine n_aload (j := 0) dX7_init_4 rfl rfl ?_
  refine n_new (ci := 5) (fs := cn_d5) dX7_init_5 rfl k_157 k_158 k_130 cn_dv5 (Nat.le_of_ble_eq_true rfl) (Nat.le_of_ble_eq_true rfl) (fun q1 => ?_)
  refine n_dup dX7_init_8 rfl ?_
  refine n_callN (M2 := M_X5_init) (xa := []) dX7_init_9 rfl (by decide +kernel) ok_X5_init rfl ⟨(Nat.le_of_ble_eq_true rfl), (Nat.le_of_ble_eq_true rfl)⟩ ⟨(Nat.le_of_ble_eq_true rfl), (Nat.le_of_ble_eq_true rfl)⟩ (Nat.le_of_ble_eq_true rfl) (fun sz => c_X5_init X q1 sz) ?_
  intro ft hft
  subst hft
  refine n_putCF (ci := 7) (k := 0) ⟨10, _, dX7_init_12, rfl, by decide, k_440, rfl, rfl, fun h9 => (by first | rfl | cases h9)⟩ (Nat.le_of_ble_eq_true rfl) rfl rfl rfl rfl ?_
  refine n_aload (j := 0) dX7_init_15 rfl rfl ?_
  refine n_new (ci := 1) (fs := cn_d1) dX7_init_16 rfl k_173 k_174 k_131 cn_dv1 (Nat.le_of_ble_eq_true rfl) (Nat.le_of_ble_eq_true rfl) (fun q2 => ?_)
  refine n_dup dX7_init_19 rfl ?_
  refine n_callN (M2 := M_X1_init) (xa := []) dX7_init_20 rfl (by decide +kernel) ok_X1_init rfl ⟨(Nat.le_of_ble_eq_true rfl), (Nat.le_of_ble_eq_true rfl)⟩ ⟨(Nat.le_of_ble_eq_true rfl), (Nat.le_of_ble_eq_true rfl)⟩ (Nat.le_of_ble_eq_true rfl) (fun sz => c_X1_init X q2 sz) ?_
  intro fh hfh
  subst hfh
  refine n_putCF (ci := 7) (k := 2) ⟨19, _, dX7_init_23, rfl, by decide, k_442, rfl, rfl, fun h9 => (by first | rfl | cases h9)⟩ (Nat.le_of_ble_eq_true rfl) rfl rfl rfl rfl ?_
  refine n_aload (j := 0) dX7_init_26 rfl rfl ?_
  refine n_new (ci := 0) (fs := cn_d0) dX7_init_27 rfl k_190 k_191 k_132 cn_dv0 (Nat.le_of_ble_eq_true rfl) (Nat.le_of_ble_eq_true rfl) (fun q3 => ?_)
  refine n_dup dX7_init_30 rfl ?_
  refine n_callN (M2 := M_X0_init) (xa := []) dX7_init_31 rfl (by decide +kernel) ok_X0_init rfl ⟨(Nat.le_of_ble_eq_true rfl), (Nat.le_of_ble_eq_true rfl)⟩ ⟨(Nat.le_of_ble_eq_true rfl), (Nat.le_of_ble_eq_true rfl)⟩ (Nat.le_of_ble_eq_true rfl) (fun sz => c_X0_init X q3 sz) ?_
  intro fg hfg
  subst hfg
  refine n_putCF (ci := 7) (k := 3) ⟨26, _, dX7_init_34, rfl, by decide, k_443, rfl, rfl, fun h9 => (by first | rfl | cases h9)⟩ (Nat.le_of_ble_eq_true rfl) rfl rfl rfl rfl ?_
  refine n_aload (j := 0) dX7_init_37 rfl rfl ?_
  refine n_new (ci := 6) (fs := cn_d6) dX7_init_38 rfl k_263 k_264 k_133 cn_dv6 (Nat.le_of_ble_eq_true rfl) (Nat.le_of_ble_eq_true rfl) (fun q4 => ?_)
  refine n_dup dX7_init_41 rfl ?_
  refine n_callN (M2 := M_X6_init) (xa := []) dX7_init_42 rfl (by decide +kernel) ok_X6_init rfl ⟨(Nat.le_of_ble_eq_true rfl), (Nat.le_of_ble_eq_true rfl)⟩ ⟨(Nat.le_of_ble_eq_true rfl), (Nat.le_of_ble_eq_true rfl)⟩ (Nat.le_of_ble_eq_true rfl) (fun sz => c_X6_init X q4 sz) ?_
  intro fo hfo
  subst hfo
  refine n_putCF (ci := 7) (k := 4) ⟨33, _, dX7_init_45, rfl, by decide, k_444, rfl, rfl, fun h9 => (by first | rfl | cases h9)⟩ (Nat.le_of_ble_eq_true rfl) rfl rfl rfl rfl ?_
  refine n_aload (j := 0) dX7_init_48 rfl rfl ?_
  refine n_new (ci := 4) (fs := cn_d4) dX7_init_49 rfl k_283 k_284 k_134 cn_dv4 (Nat.le_of_ble_eq_true rfl) (Nat.le_of_ble_eq_true rfl) (fun q5 => ?_)
  refine n_dup dX7_init_52 rfl ?_
  refine n_callN (M2 := M_X4_init) (xa := []) dX7_init_53 rfl (by decide +kernel) ok_X4_init rfl ⟨(Nat.le_of_ble_eq_true rfl), (Nat.le_of_ble_eq_true rfl)⟩ ⟨(Nat.le_of_ble_eq_true rfl), (Nat.le_of_ble_eq_true rfl)⟩ (Nat.le_of_ble_eq_true rfl) (fun sz => c_X4_init X q5 sz) ?_
  intro fs hfs
  subst hfs
  refine n_putCF (ci := 7) (k := 5) ⟨40, _, dX7_init_56, rfl, by decide, k_445, rfl, rfl, fun h9 => (by first | rfl | cases h9)⟩ (Nat.le_of_ble_eq_true rfl) rfl rfl rfl rfl ?_
  refine n_aload (j := 0) dX7_init_59 rfl rfl ?_
  refine n_bipush (v := Int32.ofInt 64) dX7_init_60 (by decide) ?_
  refine n_newI (N := 64) dX7_init_62 (by decide) (by decide) (Nat.le_of_ble_eq_true rfl) (Nat.le_of_ble_eq_true rfl) (Nat.le_of_ble_eq_true rfl) (fun q6 => ?_)
  refine n_putCF (ci := 7) (k := 6) ⟨46, _, dX7_init_64, rfl, by decide, k_446, rfl, rfl, fun h9 => (by first | rfl | cases h9)⟩ (Nat.le_of_ble_eq_true rfl) rfl rfl rfl rfl ?_
  refine n_aload (j := 0) dX7_init_67 rfl rfl ?_
  refine n_new (ci := 2) (fs := cn_d2) dX7_init_68 rfl k_300 k_301 k_135 cn_dv2 (Nat.le_of_ble_eq_true rfl) (Nat.le_of_ble_eq_true rfl) (fun q7 => ?_)
  refine n_dup dX7_init_71 rfl ?_
  refine n_callI (M2 := M_X2_init) (xa := []) dX7_init_72 k_302 ok_X2_init rfl ⟨(Nat.le_of_ble_eq_true rfl), (Nat.le_of_ble_eq_true rfl)⟩ ⟨(Nat.le_of_ble_eq_true rfl), (Nat.le_of_ble_eq_true rfl)⟩ (Nat.le_of_ble_eq_true rfl) (fun sz => c_X2_init X q7 sz) ?_
  rintro ⟨fa, ma⟩ ⟨hfa, Cfa, Dfa, Ffa⟩
  subst hfa
  refine n_putC (ci := 7) (k := 7) ⟨51, _, dX7_init_75, rfl, by decide, k_447, rfl, rfl, fun h9 => (by first | rfl | cases h9)⟩ (Nat.le_of_ble_eq_true rfl) rfl rfl rfl rfl ?_
  refine n_aload (j := 0) dX7_init_78 rfl rfl ?_
  refine n_new (ci := 2) (fs := cn_d2) dX7_init_79 rfl k_300 k_301 k_135 cn_dv2 (Nat.le_of_ble_eq_true rfl) (Nat.le_of_ble_eq_true rfl) (fun q8 => ?_)
  refine n_dup dX7_init_82 rfl ?_
  refine n_callI (M2 := M_X2_init) (xa := []) dX7_init_83 k_302 ok_X2_init rfl ⟨(Nat.le_of_ble_eq_true rfl), (Nat.le_of_ble_eq_true rfl)⟩ ⟨(Nat.le_of_ble_eq_true rfl), (Nat.le_of_ble_eq_true rfl)⟩ (Nat.le_of_ble_eq_true rfl) (fun sz => c_X2_init X q8 sz) ?_
  rintro ⟨fb, mb⟩ ⟨hfb, Cfb, Dfb, Ffb⟩
  subst hfb
  refine n_putC (ci := 7) (k := 8) ⟨55, _, dX7_init_86, rfl, by decide, k_448, rfl, rfl, fun h9 => (by first | rfl | cases h9)⟩ (Nat.le_of_ble_eq_true rfl) rfl rfl rfl rfl ?_
  refine n_aload (j := 0) dX7_init_89 rfl rfl ?_
  refine n_new (ci := 3) (fs := cn_d3) dX7_init_90 rfl k_401 k_402 k_137 cn_dv3 (Nat.le_of_ble_eq_true rfl) (Nat.le_of_ble_eq_true rfl) (fun q9 => ?_)
  refine n_dup dX7_init_93 rfl ?_
  refine n_aload (j := 0) dX7_init_94 rfl rfl ?_
  refine n_get (ci := 7) (k := 0) (j0 := 0) ⟨10, _, dX7_init_95, rfl, by decide, k_440⟩ rfl rfl ?_
  refine n_get (ci := 5) (k := 0) (j0 := 1) ⟨60, _, dX7_init_98, rfl, by decide, k_164⟩ rfl rfl ?_
  refine n_aload (j := 0) dX7_init_101 rfl rfl ?_
  refine n_get (ci := 7) (k := 8) (j0 := 0) ⟨55, _, dX7_init_102, rfl, by decide, k_448⟩ rfl rfl ?_
  refine n_callI (M2 := M_X3_init) (xa := [.ref (ft 1), .ref (fb 0)]) dX7_init_105 k_403 ok_X3_init rfl ⟨(Nat.le_of_ble_eq_true rfl), (Nat.le_of_ble_eq_true rfl)⟩ ⟨(Nat.le_of_ble_eq_true rfl), (Nat.le_of_ble_eq_true rfl)⟩ (Nat.le_of_ble_eq_true rfl) (fun sz => c_X3_init X q9 _ _ sz) ?_
  intro fr hfr
  subst hfr
  refine n_putCF (ci := 7) (k := 1) ⟨66, _, dX7_init_108, rfl, by decide, k_441, rfl, rfl, fun h9 => (by first | rfl | cases h9)⟩ (Nat.le_of_ble_eq_true rfl) rfl rfl rfl rfl ?_
  exact n_ret (S := (Nat → Nat) × Mu × Mu) (wc := cn_W7 X) ((fun i => [h0, ft 0, ft 1, fh 0, fh 1, fh 2, fg 0, fg 1, fg 2, fg 3, fg 4, fg 5, fg 6, fg 7, fg 8, fo 0, fs 0, fs 1, fs 2, q6, fa 0, fa 1, fa 2, fa 3, fa 4, fa 5, fa 6, fa 7, fa 8, fa 9, fa 10, fb 0, fb 1, fb 2, fb 3, fb 4, fb 5, fb 6, fb 7, fb 8, fb 9, fb 10, fr 0, fr 1, fr 2].getD i 0), ma, mb) dX7_init_111 rfl ⟨rfl, ⟨Cfa, Dfa, Ffa⟩, Cfb, Dfb, Ffb⟩ rfl (Nat.le_of_ble_eq_true rfl) (Nat.le_of_ble_eq_true rfl)
