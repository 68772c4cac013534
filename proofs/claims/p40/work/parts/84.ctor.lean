/-! ===== The constructors' contracts ===== -/
set_option maxRecDepth 20000 in
theorem k_54 : (Cond.initialized "BeamSetter$Smoother") ∈ TW := tw_in 54 (by decide +kernel) rfl
set_option maxRecDepth 20000 in
theorem k_77 : (Cond.instanceMethod ({ cls := "BeamSetter", name := "<init>", desc := "()V" } : MethodName)) ∈ TW := tw_in 77 (by decide +kernel) rfl
set_option maxRecDepth 20000 in
theorem k_78 : (Cond.code ({ cls := "BeamSetter", name := "<init>", desc := "()V" } : MethodName) prog_1_method_1_code (1 : Nat) (none : Option FieldType)) ∈ TW := tw_in 78 (by decide +kernel) rfl
set_option maxRecDepth 20000 in
theorem k_79 : (Cond.methodLink "BeamSetter" (1 : Nat) ({ cls := "java/lang/Object", name := "<init>", desc := "()V" } : MethodName)) ∈ TW := tw_in 79 (by decide +kernel) rfl
set_option maxRecDepth 20000 in
theorem k_80 : (Cond.instanceMethod ({ cls := "java/lang/Object", name := "<init>", desc := "()V" } : MethodName)) ∈ TW := tw_in 80 (by decide +kernel) rfl
set_option maxRecDepth 20000 in
theorem k_81 : (Cond.code ({ cls := "java/lang/Object", name := "<init>", desc := "()V" } : MethodName) object_method_1_code (1 : Nat) (none : Option FieldType)) ∈ TW := tw_in 81 (by decide +kernel) rfl
set_option maxRecDepth 20000 in
theorem k_82 : (Cond.classLink "BeamSetter" (7 : Nat) "BeamSetter$Tape") ∈ TW := tw_in 82 (by decide +kernel) rfl
set_option maxRecDepth 20000 in
theorem k_83 : (Cond.instantiable "BeamSetter$Tape" (2 : Nat)) ∈ TW := tw_in 83 (by decide +kernel) rfl
set_option maxRecDepth 20000 in
theorem k_85 : (Cond.instanceMethod ({ cls := "BeamSetter$Tape", name := "<init>", desc := "()V" } : MethodName)) ∈ TW := tw_in 85 (by decide +kernel) rfl
set_option maxRecDepth 20000 in
theorem k_86 : (Cond.code ({ cls := "BeamSetter$Tape", name := "<init>", desc := "()V" } : MethodName) prog_7_method_1_code (1 : Nat) (none : Option FieldType)) ∈ TW := tw_in 86 (by decide +kernel) rfl
set_option maxRecDepth 20000 in
theorem k_87 : (Cond.methodLink "BeamSetter$Tape" (1 : Nat) ({ cls := "java/lang/Object", name := "<init>", desc := "()V" } : MethodName)) ∈ TW := tw_in 87 (by decide +kernel) rfl
set_option maxRecDepth 20000 in
theorem k_89 : (Cond.fieldLink "BeamSetter" (60 : Nat) "BeamSetter$Tape" "bytes" "[I") ∈ TW := tw_in 89 (by decide +kernel) rfl
set_option maxRecDepth 20000 in
theorem k_98 : (Cond.classLink "BeamSetter" (16 : Nat) "BeamSetter$History") ∈ TW := tw_in 98 (by decide +kernel) rfl
set_option maxRecDepth 20000 in
theorem k_99 : (Cond.instantiable "BeamSetter$History" (3 : Nat)) ∈ TW := tw_in 99 (by decide +kernel) rfl
set_option maxRecDepth 20000 in
theorem k_101 : (Cond.instanceMethod ({ cls := "BeamSetter$History", name := "<init>", desc := "()V" } : MethodName)) ∈ TW := tw_in 101 (by decide +kernel) rfl
set_option maxRecDepth 20000 in
theorem k_102 : (Cond.code ({ cls := "BeamSetter$History", name := "<init>", desc := "()V" } : MethodName) prog_3_method_1_code (1 : Nat) (none : Option FieldType)) ∈ TW := tw_in 102 (by decide +kernel) rfl
set_option maxRecDepth 20000 in
theorem k_103 : (Cond.methodLink "BeamSetter$History" (3 : Nat) ({ cls := "java/lang/Object", name := "<init>", desc := "()V" } : MethodName)) ∈ TW := tw_in 103 (by decide +kernel) rfl
set_option maxRecDepth 20000 in
theorem k_115 : (Cond.classLink "BeamSetter" (23 : Nat) "BeamSetter$Group") ∈ TW := tw_in 115 (by decide +kernel) rfl
set_option maxRecDepth 20000 in
theorem k_116 : (Cond.instantiable "BeamSetter$Group" (18 : Nat)) ∈ TW := tw_in 116 (by decide +kernel) rfl
set_option maxRecDepth 20000 in
theorem k_118 : (Cond.instanceMethod ({ cls := "BeamSetter$Group", name := "<init>", desc := "()V" } : MethodName)) ∈ TW := tw_in 118 (by decide +kernel) rfl
set_option maxRecDepth 20000 in
theorem k_119 : (Cond.code ({ cls := "BeamSetter$Group", name := "<init>", desc := "()V" } : MethodName) prog_2_method_1_code (1 : Nat) (none : Option FieldType)) ∈ TW := tw_in 119 (by decide +kernel) rfl
set_option maxRecDepth 20000 in
theorem k_120 : (Cond.methodLink "BeamSetter$Group" (5 : Nat) ({ cls := "java/lang/Object", name := "<init>", desc := "()V" } : MethodName)) ∈ TW := tw_in 120 (by decide +kernel) rfl
set_option maxRecDepth 20000 in
theorem k_183 : (Cond.arrayClass FieldType.boolean) ∈ TW := tw_in 183 (by decide +kernel) rfl
set_option maxRecDepth 20000 in
theorem k_184 : (Cond.classLink "BeamSetter" (30 : Nat) "BeamSetter$Totals") ∈ TW := tw_in 184 (by decide +kernel) rfl
set_option maxRecDepth 20000 in
theorem k_185 : (Cond.instantiable "BeamSetter$Totals" (4 : Nat)) ∈ TW := tw_in 185 (by decide +kernel) rfl
set_option maxRecDepth 20000 in
theorem k_187 : (Cond.instanceMethod ({ cls := "BeamSetter$Totals", name := "<init>", desc := "()V" } : MethodName)) ∈ TW := tw_in 187 (by decide +kernel) rfl
set_option maxRecDepth 20000 in
theorem k_188 : (Cond.code ({ cls := "BeamSetter$Totals", name := "<init>", desc := "()V" } : MethodName) prog_8_method_1_code (1 : Nat) (none : Option FieldType)) ∈ TW := tw_in 188 (by decide +kernel) rfl
set_option maxRecDepth 20000 in
theorem k_189 : (Cond.methodLink "BeamSetter$Totals" (3 : Nat) ({ cls := "java/lang/Object", name := "<init>", desc := "()V" } : MethodName)) ∈ TW := tw_in 189 (by decide +kernel) rfl
set_option maxRecDepth 20000 in
theorem k_203 : (Cond.classLink "BeamSetter" (37 : Nat) "BeamSetter$Smoother") ∈ TW := tw_in 203 (by decide +kernel) rfl
set_option maxRecDepth 20000 in
theorem k_204 : (Cond.instantiable "BeamSetter$Smoother" (3 : Nat)) ∈ TW := tw_in 204 (by decide +kernel) rfl
set_option maxRecDepth 20000 in
theorem k_206 : (Cond.instanceMethod ({ cls := "BeamSetter$Smoother", name := "<init>", desc := "()V" } : MethodName)) ∈ TW := tw_in 206 (by decide +kernel) rfl
set_option maxRecDepth 20000 in
theorem k_207 : (Cond.code ({ cls := "BeamSetter$Smoother", name := "<init>", desc := "()V" } : MethodName) prog_6_method_1_code (1 : Nat) (none : Option FieldType)) ∈ TW := tw_in 207 (by decide +kernel) rfl
set_option maxRecDepth 20000 in
theorem k_208 : (Cond.methodLink "BeamSetter$Smoother" (5 : Nat) ({ cls := "java/lang/Object", name := "<init>", desc := "()V" } : MethodName)) ∈ TW := tw_in 208 (by decide +kernel) rfl
set_option maxRecDepth 20000 in
theorem k_209 : (Cond.fieldLink "BeamSetter$Smoother" (13 : Nat) "BeamSetter$Smoother" "behind" "[I") ∈ TW := tw_in 209 (by decide +kernel) rfl
set_option maxRecDepth 20000 in
theorem k_210 : (Cond.fieldLink "BeamSetter$Smoother" (17 : Nat) "BeamSetter$Smoother" "byLeft" "[I") ∈ TW := tw_in 210 (by decide +kernel) rfl
set_option maxRecDepth 20000 in
theorem k_218 : (Cond.classLink "BeamSetter" (44 : Nat) "BeamSetter$Piece") ∈ TW := tw_in 218 (by decide +kernel) rfl
set_option maxRecDepth 20000 in
theorem k_219 : (Cond.instantiable "BeamSetter$Piece" (17 : Nat)) ∈ TW := tw_in 219 (by decide +kernel) rfl
set_option maxRecDepth 20000 in
theorem k_220 : (Cond.methodLink "BeamSetter" (50 : Nat) ({ cls := "BeamSetter$Piece", name := "<init>", desc := "()V" } : MethodName)) ∈ TW := tw_in 220 (by decide +kernel) rfl
set_option maxRecDepth 20000 in
theorem k_221 : (Cond.instanceMethod ({ cls := "BeamSetter$Piece", name := "<init>", desc := "()V" } : MethodName)) ∈ TW := tw_in 221 (by decide +kernel) rfl
set_option maxRecDepth 20000 in
theorem k_222 : (Cond.code ({ cls := "BeamSetter$Piece", name := "<init>", desc := "()V" } : MethodName) prog_4_method_1_code (1 : Nat) (none : Option FieldType)) ∈ TW := tw_in 222 (by decide +kernel) rfl
set_option maxRecDepth 20000 in
theorem k_223 : (Cond.methodLink "BeamSetter$Piece" (3 : Nat) ({ cls := "java/lang/Object", name := "<init>", desc := "()V" } : MethodName)) ∈ TW := tw_in 223 (by decide +kernel) rfl
set_option maxRecDepth 20000 in
theorem k_224 : (Cond.methodLink "BeamSetter$Piece" (43 : Nat) ({ cls := "BeamSetter$Piece", name := "clear", desc := "()V" } : MethodName)) ∈ TW := tw_in 224 (by decide +kernel) rfl
set_option maxRecDepth 20000 in
theorem k_312 : (Cond.classLink "BeamSetter" (58 : Nat) "BeamSetter$Reader") ∈ TW := tw_in 312 (by decide +kernel) rfl
set_option maxRecDepth 20000 in
theorem k_313 : (Cond.instantiable "BeamSetter$Reader" (10 : Nat)) ∈ TW := tw_in 313 (by decide +kernel) rfl
set_option maxRecDepth 20000 in
theorem k_314 : (Cond.methodLink "BeamSetter" (63 : Nat) ({ cls := "BeamSetter$Reader", name := "<init>", desc := "([ILBeamSetter$Piece;)V" } : MethodName)) ∈ TW := tw_in 314 (by decide +kernel) rfl
set_option maxRecDepth 20000 in
theorem k_315 : (Cond.instanceMethod ({ cls := "BeamSetter$Reader", name := "<init>", desc := "([ILBeamSetter$Piece;)V" } : MethodName)) ∈ TW := tw_in 315 (by decide +kernel) rfl
set_option maxRecDepth 20000 in
theorem k_316 : (Cond.code ({ cls := "BeamSetter$Reader", name := "<init>", desc := "([ILBeamSetter$Piece;)V" } : MethodName) prog_5_method_1_code (3 : Nat) (none : Option FieldType)) ∈ TW := tw_in 316 (by decide +kernel) rfl
set_option maxRecDepth 20000 in
theorem k_317 : (Cond.methodLink "BeamSetter$Reader" (3 : Nat) ({ cls := "java/lang/Object", name := "<init>", desc := "()V" } : MethodName)) ∈ TW := tw_in 317 (by decide +kernel) rfl
set_option maxRecDepth 20000 in
theorem k_354 : (Cond.fieldLink "BeamSetter" (40 : Nat) "BeamSetter" "smoother" "LBeamSetter$Smoother;") ∈ TW := tw_in 354 (by decide +kernel) rfl
set_option maxRecDepth 20000 in
theorem k_584 : (Cond.arrayClass FieldType.byte) ∈ TW := tw_in 584 (by decide +kernel) rfl
section Cnr
variable {G : AG} {cA : Nat → ClassId} {A : Nat → Prop} {M : AMeth} {R : Room} {p : Program} {e : Env} {s : State} {m : MethodId} {args : Array Value} {below : List Frame} {meth : Method} {c : Code} {Q : State → Prop} {lsA : Array Slot} {lv : List (Nat × Value)} {cells slots pc : Nat} {st : List Value} {ws : va_W}
theorem n_newI {N : Nat} {n : Int32} (hd : decode M.2.1 pc = .ok (.newarray .int, 2)) (hn : ¬ n < 0) (hN : n.toNatClampNeg = N) (hb : N * 4 ≤ 536870912) (hc : cells + 1 ≤ R.cells) (hs : slots + N ≤ R.slots) (kk : ∀ q : Nat, Cn G cA A M R p e s m args below meth c Q lsA lv (cells + 1) (slots + N) (pc + 2) (.ref q :: st) (ws ++ [(q, .inl (cA 0, N, .inl fun _ => Int32.ofInt 0))])) : Cn G cA A M R p e s m args below meth c Q lsA lv cells slots pc (.int n :: st) ws :=
  n_newa (t := 0) hd rfl k_97 rfl (fun _ _ h => h) (fun _ => rfl) hn hN hb hc hs kk
theorem n_newZ {N : Nat} {n : Int32} (hd : decode M.2.1 pc = .ok (.newarray .boolean, 2)) (hn : ¬ n < 0) (hN : n.toNatClampNeg = N) (hb : N * 1 ≤ 536870912) (hc : cells + 1 ≤ R.cells) (hs : slots + N ≤ R.slots) (kk : ∀ q : Nat, Cn G cA A M R p e s m args below meth c Q lsA lv (cells + 1) (slots + N) (pc + 2) (.ref q :: st) (ws ++ [(q, .inl (cA 1, N, .inl fun _ => Int32.ofInt 0))])) : Cn G cA A M R p e s m args below meth c Q lsA lv cells slots pc (.int n :: st) ws :=
  n_newa (t := 1) hd rfl k_183 rfl (fun _ _ h => h) (fun _ => rfl) hn hN hb hc hs kk
theorem n_newB {N : Nat} {n : Int32} (hd : decode M.2.1 pc = .ok (.newarray .byte, 2)) (hn : ¬ n < 0) (hN : n.toNatClampNeg = N) (hb : N * 1 ≤ 536870912) (hc : cells + 1 ≤ R.cells) (hs : slots + N ≤ R.slots) (kk : ∀ q : Nat, Cn G cA A M R p e s m args below meth c Q lsA lv (cells + 1) (slots + N) (pc + 2) (.ref q :: st) (ws ++ [(q, .inl (cA 2, N, .inl fun _ => Int32.ofInt 0))])) : Cn G cA A M R p e s m args below meth c Q lsA lv cells slots pc (.int n :: st) ws :=
  n_newa (t := 2) hd rfl k_584 rfl (fun _ _ h => h) (fun _ => rfl) hn hN hb hc hs kk
theorem n_newJ {N : Nat} {n : Int32} (hd : decode M.2.1 pc = .ok (.newarray .long, 2)) (hn : ¬ n < 0) (hN : n.toNatClampNeg = N) (hb : N * 8 ≤ 536870912) (hc : cells + 1 ≤ R.cells) (hs : slots + N ≤ R.slots) (kk : ∀ q : Nat, Cn G cA A M R p e s m args below meth c Q lsA lv (cells + 1) (slots + N) (pc + 2) (.ref q :: st) (ws ++ [(q, .inl (cA 3, N, .inr (.inl fun _ => Int64.ofInt 0)))])) : Cn G cA A M R p e s m args below meth c Q lsA lv cells slots pc (.int n :: st) ws :=
  n_newa (t := 3) hd rfl k_182 rfl (fun _ _ h => h) (fun _ => rfl) hn hN hb hc hs kk
theorem n_putCF {ci k a : Nat} {fs fs' : List Value} {v : Value} {tl tl' : va_W} (hf : cn_Fp M pc ci k true) (hl : k < fs.length) (hnar : narrow (am_cty ci k) v = v) (hfit : fits (am_cty ci k) v = true) (hfs : fs.set k v = fs') (htl : tl = tl') (kk : Cn G cA A M R p e s m args below meth c Q lsA lv cells slots (pc + 3) st ((a, .inr (ci, fs')) :: tl')) : Cn G cA A M R p e s m args below meth c Q lsA lv cells slots pc (v :: .ref a :: st) ((a, .inr (ci, fs)) :: tl) := by
  subst hfs
  subst htl
  exact n_putF (j0 := 0) hf rfl hl hnar hfit kk
theorem n_putC {ci k a : Nat} {fs fs' : List Value} {v : Value} {tl tl' : va_W} (hf : cn_Fp M pc ci k false) (hl : k < fs.length) (hnar : narrow (am_cty ci k) v = v) (hfit : fits (am_cty ci k) v = true) (hfs : fs.set k v = fs') (htl : tl = tl') (kk : Cn G cA A M R p e s m args below meth c Q lsA lv cells slots (pc + 3) st ((a, .inr (ci, fs')) :: tl')) : Cn G cA A M R p e s m args below meth c Q lsA lv cells slots pc (v :: .ref a :: st) ((a, .inr (ci, fs)) :: tl) := by
  subst hfs
  subst htl
  exact n_put (j0 := 0) hf rfl hl hnar hfit kk
theorem n_iastE {j0 a N : Nat} {f g : Nat → Int32} {i v : Int32} (hd : decode M.2.1 pc = .ok (.iastore, 1)) (he : ws[j0]? = some (a, .inl (cA 0, N, .inl f))) (hin : vp_in i N) (hg : upd f i.toNatClampNeg v = g) (kk : Cn G cA A M R p e s m args below meth c Q lsA lv cells slots (pc + 1) st (ws.set j0 (a, .inl (cA 0, N, .inl g)))) : Cn G cA A M R p e s m args below meth c Q lsA lv cells slots pc (.int v :: .int i :: .ref a :: st) ws := by
  subst hg
  exact n_iast hd he hin kk
end Cnr
def cn_w (j : Int) : Int := if j = 0 then 24 else if j = 1 then 16 else if j = 2 then 12 else if j = 3 then 9 else 0
theorem cn_wide : upd (upd (upd (upd (fun _ => Int32.ofInt 0) (Int32.ofInt 0).toNatClampNeg (Int32.ofInt 24)) (Int32.ofInt 1).toNatClampNeg (Int32.ofInt 16)) (Int32.ofInt 2).toNatClampNeg (Int32.ofInt 12)) (Int32.ofInt 3).toNatClampNeg (Int32.ofInt 9) = fun j : Nat => Int32.ofInt (cn_w j) := by
  funext j
  match j with
  | 0 => decide
  | 1 => decide
  | 2 => decide
  | 3 => decide
  | n + 4 =>
    have h : cn_w ((n + 4 : Nat) : Int) = 0 := by unfold cn_w; rw [if_neg (by omega), if_neg (by omega), if_neg (by omega), if_neg (by omega)]
    rw [h]
    rfl
abbrev cn_d0 : List Value := [.int (Int32.ofInt 0), .int (Int32.ofInt 0), .int (Int32.ofInt 0), .int (Int32.ofInt 0), .int (Int32.ofInt 0), .null, .null, .null, .null, .null, .null, .int (Int32.ofInt 0), .null, .null, .int (Int32.ofInt 0), .int (Int32.ofInt 0), .int (Int32.ofInt 0), .int (Int32.ofInt 0)]
theorem cn_dv0 : ∀ j, j < 18 → defaultValue (am_cty 0 j) = vp_V cn_d0 j
  | 0, _ => rfl
  | 1, _ => rfl
  | 2, _ => rfl
  | 3, _ => rfl
  | 4, _ => rfl
  | 5, _ => rfl
  | 6, _ => rfl
  | 7, _ => rfl
  | 8, _ => rfl
  | 9, _ => rfl
  | 10, _ => rfl
  | 11, _ => rfl
  | 12, _ => rfl
  | 13, _ => rfl
  | 14, _ => rfl
  | 15, _ => rfl
  | 16, _ => rfl
  | 17, _ => rfl
  | n + 18, h => absurd h (by omega)
abbrev cn_d1 : List Value := [.null, .null, .int (Int32.ofInt 0)]
theorem cn_dv1 : ∀ j, j < 3 → defaultValue (am_cty 1 j) = vp_V cn_d1 j
  | 0, _ => rfl
  | 1, _ => rfl
  | 2, _ => rfl
  | n + 3, h => absurd h (by omega)
abbrev cn_d2 : List Value := [.int (Int32.ofInt 0), .int (Int32.ofInt 0), .int (Int32.ofInt 0), .int (Int32.ofInt 0), .int (Int32.ofInt 0), .null, .null, .int (Int32.ofInt 0), .null, .null, .null, .null, .null, .null, .int (Int32.ofInt 0), .null, .null]
theorem cn_dv2 : ∀ j, j < 17 → defaultValue (am_cty 2 j) = vp_V cn_d2 j
  | 0, _ => rfl
  | 1, _ => rfl
  | 2, _ => rfl
  | 3, _ => rfl
  | 4, _ => rfl
  | 5, _ => rfl
  | 6, _ => rfl
  | 7, _ => rfl
  | 8, _ => rfl
  | 9, _ => rfl
  | 10, _ => rfl
  | 11, _ => rfl
  | 12, _ => rfl
  | 13, _ => rfl
  | 14, _ => rfl
  | 15, _ => rfl
  | 16, _ => rfl
  | n + 17, h => absurd h (by omega)
abbrev cn_d3 : List Value := [.int (Int32.ofInt 0), .int (Int32.ofInt 0), .null, .int (Int32.ofInt 0), .int (Int32.ofInt 0), .int (Int32.ofInt 0), .int (Int32.ofInt 0), .null, .null, .null]
theorem cn_dv3 : ∀ j, j < 10 → defaultValue (am_cty 3 j) = vp_V cn_d3 j
  | 0, _ => rfl
  | 1, _ => rfl
  | 2, _ => rfl
  | 3, _ => rfl
  | 4, _ => rfl
  | 5, _ => rfl
  | 6, _ => rfl
  | 7, _ => rfl
  | 8, _ => rfl
  | 9, _ => rfl
  | n + 10, h => absurd h (by omega)
abbrev cn_d4 : List Value := [.int (Int32.ofInt 0), .null, .null]
theorem cn_dv4 : ∀ j, j < 3 → defaultValue (am_cty 4 j) = vp_V cn_d4 j
  | 0, _ => rfl
  | 1, _ => rfl
  | 2, _ => rfl
  | n + 3, h => absurd h (by omega)
abbrev cn_d5 : List Value := [.null, .int (Int32.ofInt 0)]
theorem cn_dv5 : ∀ j, j < 2 → defaultValue (am_cty 5 j) = vp_V cn_d5 j
  | 0, _ => rfl
  | 1, _ => rfl
  | n + 2, h => absurd h (by omega)
abbrev cn_d6 : List Value := [.int (Int32.ofInt 0), .int (Int32.ofInt 0), .int (Int32.ofInt 0), .int (Int32.ofInt 0)]
theorem cn_dv6 : ∀ j, j < 4 → defaultValue (am_cty 6 j) = vp_V cn_d6 j
  | 0, _ => rfl
  | 1, _ => rfl
  | 2, _ => rfl
  | 3, _ => rfl
  | n + 4, h => absurd h (by omega)
abbrev cn_d7 : List Value := [.null, .null, .null, .null, .null, .null, .null, .null, .null]
theorem cn_dv7 : ∀ j, j < 9 → defaultValue (am_cty 7 j) = vp_V cn_d7 j
  | 0, _ => rfl
  | 1, _ => rfl
  | 2, _ => rfl
  | 3, _ => rfl
  | 4, _ => rfl
  | 5, _ => rfl
  | 6, _ => rfl
  | 7, _ => rfl
  | 8, _ => rfl
  | n + 9, h => absurd h (by omega)
def M_X5_init : AMeth := (yX5_init, cX5_init, 1, none, 1, 20)
theorem ok_X5_init : cn_Ok M_X5_init 0 := ⟨k_86, k_85, k_50, rfl, rfl, by decide +kernel⟩
def cn_W5 (X : AX) (f : Nat → Nat) : va_W := [(f 0, .inr (5, [.ref (f 1), .int (Int32.ofInt 0)])), (f 1, .inl (X.2.1 0, 900, .inl fun _ => Int32.ofInt 0))]
set_option maxRecDepth 20000 in
set_option maxHeartbeats 4000000 in
theorem c_X5_init (X : AX) (h0 : Nat) (sz : Nat) : Met (gL (GG X)) M_X5_init.1 (am_ws M_X5_init) (cn_R M_X5_init 1 900) (cn_Pc (GG X) X.2.1 h0 [] 5 cn_d5 sz) (cn_Q (GG X) X.2.1 h0 5 cn_d5 (fun f : Nat → Nat => f 0 = h0) (cn_W5 X) sz) 1 900 (va_A [(h0, .inr (5, cn_d5))] sz) := by
  refine cn_met (by decide +kernel) rfl rfl (Nat.le_of_ble_eq_true rfl) (fun p e s m args below meth c lsA => ?_) sz
  refine n_aload (j := 0) dX5_init_0 rfl rfl ?_
  refine n_obj dX5_init_1 k_87 k_80 k_81 ⟨(Nat.le_of_ble_eq_true rfl), (Nat.le_of_ble_eq_true rfl)⟩ ?_
  refine n_aload (j := 0) dX5_init_4 rfl rfl ?_
  refine n_sipush (v := Int32.ofInt 900) dX5_init_5 (by decide) ?_
  refine n_newI (N := 900) dX5_init_8 (by decide) (by decide) (Nat.le_of_ble_eq_true rfl) (Nat.le_of_ble_eq_true rfl) (Nat.le_of_ble_eq_true rfl) (fun q1 => ?_)
  refine n_putCF (ci := 5) (k := 0) ⟨9, _, dX5_init_10, rfl, by decide, k_88, rfl, rfl, fun h9 => (by first | rfl | cases h9)⟩ (Nat.le_of_ble_eq_true rfl) rfl rfl rfl rfl ?_
  exact n_ret (fun i => [h0, q1].getD i 0) dX5_init_13 rfl rfl rfl (Nat.le_of_ble_eq_true rfl) (Nat.le_of_ble_eq_true rfl)
def M_X1_init : AMeth := (yX1_init, cX1_init, 1, none, 1, 20)
theorem ok_X1_init : cn_Ok M_X1_init 0 := ⟨k_102, k_101, k_51, rfl, rfl, by decide +kernel⟩
def cn_W1 (X : AX) (f : Nat → Nat) : va_W := [(f 0, .inr (1, [.ref (f 1), .ref (f 2), .int (Int32.ofInt 0)])), (f 1, .inl (X.2.1 0, 20, .inl fun _ => Int32.ofInt 0)), (f 2, .inl (X.2.1 0, 20, .inl fun _ => Int32.ofInt 0))]
set_option maxRecDepth 20000 in
set_option maxHeartbeats 4000000 in
theorem c_X1_init (X : AX) (h0 : Nat) (sz : Nat) : Met (gL (GG X)) M_X1_init.1 (am_ws M_X1_init) (cn_R M_X1_init 2 40) (cn_Pc (GG X) X.2.1 h0 [] 1 cn_d1 sz) (cn_Q (GG X) X.2.1 h0 1 cn_d1 (fun f : Nat → Nat => f 0 = h0) (cn_W1 X) sz) 2 40 (va_A [(h0, .inr (1, cn_d1))] sz) := by
  refine cn_met (by decide +kernel) rfl rfl (Nat.le_of_ble_eq_true rfl) (fun p e s m args below meth c lsA => ?_) sz
  refine n_aload (j := 0) dX1_init_0 rfl rfl ?_
  refine n_obj dX1_init_1 k_103 k_80 k_81 ⟨(Nat.le_of_ble_eq_true rfl), (Nat.le_of_ble_eq_true rfl)⟩ ?_
  refine n_aload (j := 0) dX1_init_4 rfl rfl ?_
  refine n_bipush (v := Int32.ofInt 20) dX1_init_5 (by decide) ?_
  refine n_newI (N := 20) dX1_init_7 (by decide) (by decide) (Nat.le_of_ble_eq_true rfl) (Nat.le_of_ble_eq_true rfl) (Nat.le_of_ble_eq_true rfl) (fun q1 => ?_)
  refine n_putCF (ci := 1) (k := 0) ⟨11, _, dX1_init_9, rfl, by decide, k_104, rfl, rfl, fun h9 => (by first | rfl | cases h9)⟩ (Nat.le_of_ble_eq_true rfl) rfl rfl rfl rfl ?_
  refine n_aload (j := 0) dX1_init_12 rfl rfl ?_
  refine n_bipush (v := Int32.ofInt 20) dX1_init_13 (by decide) ?_
  refine n_newI (N := 20) dX1_init_15 (by decide) (by decide) (Nat.le_of_ble_eq_true rfl) (Nat.le_of_ble_eq_true rfl) (Nat.le_of_ble_eq_true rfl) (fun q2 => ?_)
  refine n_putCF (ci := 1) (k := 1) ⟨15, _, dX1_init_17, rfl, by decide, k_105, rfl, rfl, fun h9 => (by first | rfl | cases h9)⟩ (Nat.le_of_ble_eq_true rfl) rfl rfl rfl rfl ?_
  exact n_ret (fun i => [h0, q1, q2].getD i 0) dX1_init_20 rfl rfl rfl (Nat.le_of_ble_eq_true rfl) (Nat.le_of_ble_eq_true rfl)
def M_X0_init : AMeth := (yX0_init, cX0_init, 1, none, 1, 20)
theorem ok_X0_init : cn_Ok M_X0_init 0 := ⟨k_119, k_118, k_52, rfl, rfl, by decide +kernel⟩
def cn_W0 (X : AX) (f : Nat → Nat) : va_W := [(f 0, .inr (0, [.int (Int32.ofInt 0), .int (Int32.ofInt 0), .int (Int32.ofInt 0), .int (Int32.ofInt 0), .int (Int32.ofInt 0), .ref (f 1), .ref (f 2), .ref (f 3), .ref (f 4), .ref (f 5), .ref (f 6), .int (Int32.ofInt 0), .ref (f 7), .ref (f 8), .int (Int32.ofInt 0), .int (Int32.ofInt 0), .int (Int32.ofInt 0), .int (Int32.ofInt 0)])), (f 1, .inl (X.2.1 0, 64, .inl fun _ => Int32.ofInt 0)), (f 2, .inl (X.2.1 0, 64, .inl fun _ => Int32.ofInt 0)), (f 3, .inl (X.2.1 0, 64, .inl fun _ => Int32.ofInt 0)), (f 4, .inl (X.2.1 0, 64, .inl fun _ => Int32.ofInt 0)), (f 5, .inl (X.2.1 0, 64, .inl fun _ => Int32.ofInt 0)), (f 6, .inl (X.2.1 3, 595, .inr (.inl fun _ => Int64.ofInt 0))), (f 7, .inl (X.2.1 1, 25, .inl fun _ => Int32.ofInt 0)), (f 8, .inl (X.2.1 0, 64, .inl fun _ => Int32.ofInt 0))]
set_option maxRecDepth 20000 in
set_option maxHeartbeats 4000000 in
theorem c_X0_init (X : AX) (h0 : Nat) (sz : Nat) : Met (gL (GG X)) M_X0_init.1 (am_ws M_X0_init) (cn_R M_X0_init 8 1004) (cn_Pc (GG X) X.2.1 h0 [] 0 cn_d0 sz) (cn_Q (GG X) X.2.1 h0 0 cn_d0 (fun f : Nat → Nat => f 0 = h0) (cn_W0 X) sz) 8 1004 (va_A [(h0, .inr (0, cn_d0))] sz) := by
  refine cn_met (by decide +kernel) rfl rfl (Nat.le_of_ble_eq_true rfl) (fun p e s m args below meth c lsA => ?_) sz
  refine n_aload (j := 0) dX0_init_0 rfl rfl ?_
  refine n_obj dX0_init_1 k_120 k_80 k_81 ⟨(Nat.le_of_ble_eq_true rfl), (Nat.le_of_ble_eq_true rfl)⟩ ?_
  refine n_aload (j := 0) dX0_init_4 rfl rfl ?_
  refine n_bipush (v := Int32.ofInt 64) dX0_init_5 (by decide) ?_
  refine n_newI (N := 64) dX0_init_7 (by decide) (by decide) (Nat.le_of_ble_eq_true rfl) (Nat.le_of_ble_eq_true rfl) (Nat.le_of_ble_eq_true rfl) (fun q1 => ?_)
  refine n_putCF (ci := 0) (k := 5) ⟨13, _, dX0_init_9, rfl, by decide, k_130, rfl, rfl, fun h9 => (by first | rfl | cases h9)⟩ (Nat.le_of_ble_eq_true rfl) rfl rfl rfl rfl ?_
  refine n_aload (j := 0) dX0_init_12 rfl rfl ?_
  refine n_bipush (v := Int32.ofInt 64) dX0_init_13 (by decide) ?_
  refine n_newI (N := 64) dX0_init_15 (by decide) (by decide) (Nat.le_of_ble_eq_true rfl) (Nat.le_of_ble_eq_true rfl) (Nat.le_of_ble_eq_true rfl) (fun q2 => ?_)
  refine n_putCF (ci := 0) (k := 6) ⟨17, _, dX0_init_17, rfl, by decide, k_131, rfl, rfl, fun h9 => (by first | rfl | cases h9)⟩ (Nat.le_of_ble_eq_true rfl) rfl rfl rfl rfl ?_
  refine n_aload (j := 0) dX0_init_20 rfl rfl ?_
  refine n_bipush (v := Int32.ofInt 64) dX0_init_21 (by decide) ?_
  refine n_newI (N := 64) dX0_init_23 (by decide) (by decide) (Nat.le_of_ble_eq_true rfl) (Nat.le_of_ble_eq_true rfl) (Nat.le_of_ble_eq_true rfl) (fun q3 => ?_)
  refine n_putCF (ci := 0) (k := 7) ⟨20, _, dX0_init_25, rfl, by decide, k_132, rfl, rfl, fun h9 => (by first | rfl | cases h9)⟩ (Nat.le_of_ble_eq_true rfl) rfl rfl rfl rfl ?_
  refine n_aload (j := 0) dX0_init_28 rfl rfl ?_
  refine n_bipush (v := Int32.ofInt 64) dX0_init_29 (by decide) ?_
  refine n_newI (N := 64) dX0_init_31 (by decide) (by decide) (Nat.le_of_ble_eq_true rfl) (Nat.le_of_ble_eq_true rfl) (Nat.le_of_ble_eq_true rfl) (fun q4 => ?_)
  refine n_putCF (ci := 0) (k := 8) ⟨23, _, dX0_init_33, rfl, by decide, k_133, rfl, rfl, fun h9 => (by first | rfl | cases h9)⟩ (Nat.le_of_ble_eq_true rfl) rfl rfl rfl rfl ?_
  refine n_aload (j := 0) dX0_init_36 rfl rfl ?_
  refine n_bipush (v := Int32.ofInt 64) dX0_init_37 (by decide) ?_
  refine n_newI (N := 64) dX0_init_39 (by decide) (by decide) (Nat.le_of_ble_eq_true rfl) (Nat.le_of_ble_eq_true rfl) (Nat.le_of_ble_eq_true rfl) (fun q5 => ?_)
  refine n_putCF (ci := 0) (k := 9) ⟨26, _, dX0_init_41, rfl, by decide, k_135, rfl, rfl, fun h9 => (by first | rfl | cases h9)⟩ (Nat.le_of_ble_eq_true rfl) rfl rfl rfl rfl ?_
  refine n_aload (j := 0) dX0_init_44 rfl rfl ?_
  refine n_sipush (v := Int32.ofInt 595) dX0_init_45 (by decide) ?_
  refine n_newJ (N := 595) dX0_init_48 (by decide) (by decide) (Nat.le_of_ble_eq_true rfl) (Nat.le_of_ble_eq_true rfl) (Nat.le_of_ble_eq_true rfl) (fun q6 => ?_)
  refine n_putCF (ci := 0) (k := 10) ⟨29, _, dX0_init_50, rfl, by decide, k_136, rfl, rfl, fun h9 => (by first | rfl | cases h9)⟩ (Nat.le_of_ble_eq_true rfl) rfl rfl rfl rfl ?_
  refine n_aload (j := 0) dX0_init_53 rfl rfl ?_
  refine n_bipush (v := Int32.ofInt 25) dX0_init_54 (by decide) ?_
  refine n_newZ (N := 25) dX0_init_56 (by decide) (by decide) (Nat.le_of_ble_eq_true rfl) (Nat.le_of_ble_eq_true rfl) (Nat.le_of_ble_eq_true rfl) (fun q7 => ?_)
  refine n_putCF (ci := 0) (k := 12) ⟨33, _, dX0_init_58, rfl, by decide, k_139, rfl, rfl, fun h9 => (by first | rfl | cases h9)⟩ (Nat.le_of_ble_eq_true rfl) rfl rfl rfl rfl ?_
  refine n_aload (j := 0) dX0_init_61 rfl rfl ?_
  refine n_bipush (v := Int32.ofInt 64) dX0_init_62 (by decide) ?_
  refine n_newI (N := 64) dX0_init_64 (by decide) (by decide) (Nat.le_of_ble_eq_true rfl) (Nat.le_of_ble_eq_true rfl) (Nat.le_of_ble_eq_true rfl) (fun q8 => ?_)
  refine n_putCF (ci := 0) (k := 13) ⟨37, _, dX0_init_66, rfl, by decide, k_140, rfl, rfl, fun h9 => (by first | rfl | cases h9)⟩ (Nat.le_of_ble_eq_true rfl) rfl rfl rfl rfl ?_
  exact n_ret (fun i => [h0, q1, q2, q3, q4, q5, q6, q7, q8].getD i 0) dX0_init_69 rfl rfl rfl (Nat.le_of_ble_eq_true rfl) (Nat.le_of_ble_eq_true rfl)
def M_X6_init : AMeth := (yX6_init, cX6_init, 1, none, 1, 20)
theorem ok_X6_init : cn_Ok M_X6_init 0 := ⟨k_188, k_187, k_53, rfl, rfl, by decide +kernel⟩
def cn_W6 (X : AX) (f : Nat → Nat) : va_W := [(f 0, .inr (6, [.int (Int32.ofInt 0), .int (Int32.ofInt 0), .int (Int32.ofInt 0), .int (Int32.ofInt 0)]))]
set_option maxRecDepth 20000 in
set_option maxHeartbeats 4000000 in
theorem c_X6_init (X : AX) (h0 : Nat) (sz : Nat) : Met (gL (GG X)) M_X6_init.1 (am_ws M_X6_init) (cn_R M_X6_init 0 0) (cn_Pc (GG X) X.2.1 h0 [] 6 cn_d6 sz) (cn_Q (GG X) X.2.1 h0 6 cn_d6 (fun f : Nat → Nat => f 0 = h0) (cn_W6 X) sz) 0 0 (va_A [(h0, .inr (6, cn_d6))] sz) := by
  refine cn_met (by decide +kernel) rfl rfl (Nat.le_of_ble_eq_true rfl) (fun p e s m args below meth c lsA => ?_) sz
  refine n_aload (j := 0) dX6_init_0 rfl rfl ?_
  refine n_obj dX6_init_1 k_189 k_80 k_81 ⟨(Nat.le_of_ble_eq_true rfl), (Nat.le_of_ble_eq_true rfl)⟩ ?_
  exact n_ret (fun i => [h0].getD i 0) dX6_init_4 rfl rfl rfl (Nat.le_of_ble_eq_true rfl) (Nat.le_of_ble_eq_true rfl)
def M_X4_init : AMeth := (yX4_init, cX4_init, 1, none, 1, 20)
theorem ok_X4_init : cn_Ok M_X4_init 0 := ⟨k_207, k_206, k_54, rfl, rfl, by decide +kernel⟩
def cn_W4 (X : AX) (f : Nat → Nat) : va_W := [(f 0, .inr (4, [.int (Int32.ofInt 0), .ref (f 1), .ref (f 2)])), (f 1, .inl (X.2.1 0, 3993, .inl fun _ => Int32.ofInt 0)), (f 2, .inl (X.2.1 0, 121, .inl fun _ => Int32.ofInt 0))]
set_option maxRecDepth 20000 in
set_option maxHeartbeats 4000000 in
theorem c_X4_init (X : AX) (h0 : Nat) (sz : Nat) : Met (gL (GG X)) M_X4_init.1 (am_ws M_X4_init) (cn_R M_X4_init 2 4114) (cn_Pc (GG X) X.2.1 h0 [] 4 cn_d4 sz) (cn_Q (GG X) X.2.1 h0 4 cn_d4 (fun f : Nat → Nat => f 0 = h0) (cn_W4 X) sz) 2 4114 (va_A [(h0, .inr (4, cn_d4))] sz) := by
  refine cn_met (by decide +kernel) rfl rfl (Nat.le_of_ble_eq_true rfl) (fun p e s m args below meth c lsA => ?_) sz
  refine n_aload (j := 0) dX4_init_0 rfl rfl ?_
  refine n_obj dX4_init_1 k_208 k_80 k_81 ⟨(Nat.le_of_ble_eq_true rfl), (Nat.le_of_ble_eq_true rfl)⟩ ?_
  refine n_aload (j := 0) dX4_init_4 rfl rfl ?_
  refine n_sipush (v := Int32.ofInt 3993) dX4_init_5 (by decide) ?_
  refine n_newI (N := 3993) dX4_init_8 (by decide) (by decide) (Nat.le_of_ble_eq_true rfl) (Nat.le_of_ble_eq_true rfl) (Nat.le_of_ble_eq_true rfl) (fun q1 => ?_)
  refine n_putCF (ci := 4) (k := 1) ⟨13, _, dX4_init_10, rfl, by decide, k_209, rfl, rfl, fun h9 => (by first | rfl | cases h9)⟩ (Nat.le_of_ble_eq_true rfl) rfl rfl rfl rfl ?_
  refine n_aload (j := 0) dX4_init_13 rfl rfl ?_
  refine n_bipush (v := Int32.ofInt 121) dX4_init_14 (by decide) ?_
  refine n_newI (N := 121) dX4_init_16 (by decide) (by decide) (Nat.le_of_ble_eq_true rfl) (Nat.le_of_ble_eq_true rfl) (Nat.le_of_ble_eq_true rfl) (fun q2 => ?_)
  refine n_putCF (ci := 4) (k := 2) ⟨17, _, dX4_init_18, rfl, by decide, k_210, rfl, rfl, fun h9 => (by first | rfl | cases h9)⟩ (Nat.le_of_ble_eq_true rfl) rfl rfl rfl rfl ?_
  exact n_ret (fun i => [h0, q1, q2].getD i 0) dX4_init_21 rfl rfl rfl (Nat.le_of_ble_eq_true rfl) (Nat.le_of_ble_eq_true rfl)
def M_X3_init : AMeth := (yX3_init, cX3_init, 3, none, 1, 20)
theorem ok_X3_init : cn_Ok M_X3_init 2 := ⟨k_316, k_315, k_57, rfl, rfl, by decide +kernel⟩
def cn_W3 (X : AX) (a1 a2 : Nat) (f : Nat → Nat) : va_W := [(f 0, .inr (3, [.int (Int32.ofInt 0), .int (Int32.ofInt (-1)), .ref a1, .int (Int32.ofInt 0), .int (Int32.ofInt 0), .int (Int32.ofInt 0), .int (Int32.ofInt 0), .ref a2, .ref (f 1), .ref (f 2)])), (f 1, .inl (X.2.1 1, 3, .inl fun _ => Int32.ofInt 0)), (f 2, .inl (X.2.1 1, 4, .inl fun _ => Int32.ofInt 0))]
set_option maxRecDepth 20000 in
set_option maxHeartbeats 4000000 in
theorem c_X3_init (X : AX) (h0 a1 a2 : Nat) (sz : Nat) : Met (gL (GG X)) M_X3_init.1 (am_ws M_X3_init) (cn_R M_X3_init 2 7) (cn_Pc (GG X) X.2.1 h0 [.ref a1, .ref a2] 3 cn_d3 sz) (cn_Q (GG X) X.2.1 h0 3 cn_d3 (fun f : Nat → Nat => f 0 = h0) (cn_W3 X a1 a2) sz) 2 7 (va_A [(h0, .inr (3, cn_d3))] sz) := by
  refine cn_met (by decide +kernel) rfl rfl (Nat.le_of_ble_eq_true rfl) (fun p e s m args below meth c lsA => ?_) sz
  refine n_aload (j := 0) dX3_init_0 rfl rfl ?_
  refine n_obj dX3_init_1 k_317 k_80 k_81 ⟨(Nat.le_of_ble_eq_true rfl), (Nat.le_of_ble_eq_true rfl)⟩ ?_
  refine n_aload (j := 0) dX3_init_4 rfl rfl ?_
  refine n_iconst (v := Int32.ofInt (-1)) dX3_init_5 (by decide) ?_
  refine n_putC (ci := 3) (k := 1) ⟨9, _, dX3_init_6, rfl, by decide, k_319, rfl, rfl, fun h9 => (by first | rfl | cases h9)⟩ (Nat.le_of_ble_eq_true rfl) rfl rfl rfl rfl ?_
  refine n_aload (j := 0) dX3_init_9 rfl rfl ?_
  refine n_iconst (v := Int32.ofInt 3) dX3_init_10 (by decide) ?_
  refine n_newZ (N := 3) dX3_init_11 (by decide) (by decide) (Nat.le_of_ble_eq_true rfl) (Nat.le_of_ble_eq_true rfl) (Nat.le_of_ble_eq_true rfl) (fun q1 => ?_)
  refine n_putCF (ci := 3) (k := 8) ⟨15, _, dX3_init_13, rfl, by decide, k_326, rfl, rfl, fun h9 => (by first | rfl | cases h9)⟩ (Nat.le_of_ble_eq_true rfl) rfl rfl rfl rfl ?_
  refine n_aload (j := 0) dX3_init_16 rfl rfl ?_
  refine n_iconst (v := Int32.ofInt 4) dX3_init_17 (by decide) ?_
  refine n_newZ (N := 4) dX3_init_18 (by decide) (by decide) (Nat.le_of_ble_eq_true rfl) (Nat.le_of_ble_eq_true rfl) (Nat.le_of_ble_eq_true rfl) (fun q2 => ?_)
  refine n_putCF (ci := 3) (k := 9) ⟨19, _, dX3_init_20, rfl, by decide, k_327, rfl, rfl, fun h9 => (by first | rfl | cases h9)⟩ (Nat.le_of_ble_eq_true rfl) rfl rfl rfl rfl ?_
  refine n_aload (j := 0) dX3_init_23 rfl rfl ?_
  refine n_aload (j := 1) dX3_init_24 rfl rfl ?_
  refine n_putCF (ci := 3) (k := 2) ⟨22, _, dX3_init_25, rfl, by decide, k_320, rfl, rfl, fun h9 => (by first | rfl | cases h9)⟩ (Nat.le_of_ble_eq_true rfl) rfl rfl rfl rfl ?_
  refine n_aload (j := 0) dX3_init_28 rfl rfl ?_
  refine n_aload (j := 2) dX3_init_29 rfl rfl ?_
  refine n_putC (ci := 3) (k := 7) ⟨26, _, dX3_init_30, rfl, by decide, k_325, rfl, rfl, fun h9 => (by first | rfl | cases h9)⟩ (Nat.le_of_ble_eq_true rfl) rfl rfl rfl rfl ?_
  exact n_ret (fun i => [h0, q1, q2].getD i 0) dX3_init_33 rfl rfl rfl (Nat.le_of_ble_eq_true rfl) (Nat.le_of_ble_eq_true rfl)
def M_X2_init : AMeth := (yX2_init, cX2_init, 1, none, 4, 120)
theorem ok_X2_init : cn_Ok M_X2_init 0 := ⟨k_222, k_221, k_55, rfl, rfl, by decide +kernel⟩
def cn_W2 (X : AX) (f : (Nat → Nat) × Mu) : va_W := am_pic (GP (X.1, X.2.1, f.1, X.2.2.2.1, X.2.2.2.2)) f.2
set_option maxRecDepth 20000 in
set_option maxHeartbeats 4000000 in
theorem c_X2_init (X : AX) (h0 : Nat) (sz : Nat) : Met (gL (GG X)) M_X2_init.1 (am_ws M_X2_init) (cn_R M_X2_init 10 464) (cn_Pc (GG X) X.2.1 h0 [] 2 cn_d2 sz) (cn_Q (GG X) X.2.1 h0 2 cn_d2 (fun f : (Nat → Nat) × Mu => f.1 0 = h0 ∧ CPS S0 0 f.2 ∧ f.2 0 14 = 0 ∧ Fr 0 2 1 0 f.2 (fun _ _ => 0)) (cn_W2 X) sz) 10 464 (va_A [(h0, .inr (2, cn_d2))] sz) := by
  refine cn_met (by decide +kernel) rfl rfl (Nat.le_of_ble_eq_true rfl) (fun p e s m args below meth c lsA => ?_) sz
  refine n_aload (j := 0) dX2_init_0 rfl rfl ?_
  refine n_obj dX2_init_1 k_223 k_80 k_81 ⟨(Nat.le_of_ble_eq_true rfl), (Nat.le_of_ble_eq_true rfl)⟩ ?_
  refine n_aload (j := 0) dX2_init_4 rfl rfl ?_
  refine n_bipush (v := Int32.ofInt 12) dX2_init_5 (by decide) ?_
  refine n_newI (N := 12) dX2_init_7 (by decide) (by decide) (Nat.le_of_ble_eq_true rfl) (Nat.le_of_ble_eq_true rfl) (Nat.le_of_ble_eq_true rfl) (fun q1 => ?_)
  refine n_putCF (ci := 2) (k := 5) ⟨9, _, dX2_init_9, rfl, by decide, k_249, rfl, rfl, fun h9 => (by first | rfl | cases h9)⟩ (Nat.le_of_ble_eq_true rfl) rfl rfl rfl rfl ?_
  refine n_aload (j := 0) dX2_init_12 rfl rfl ?_
  refine n_iconst (v := Int32.ofInt 4) dX2_init_13 (by decide) ?_
  refine n_newI (N := 4) dX2_init_14 (by decide) (by decide) (Nat.le_of_ble_eq_true rfl) (Nat.le_of_ble_eq_true rfl) (Nat.le_of_ble_eq_true rfl) (fun q2 => ?_)
  refine n_putCF (ci := 2) (k := 6) ⟨15, _, dX2_init_16, rfl, by decide, k_251, rfl, rfl, fun h9 => (by first | rfl | cases h9)⟩ (Nat.le_of_ble_eq_true rfl) rfl rfl rfl rfl ?_
  refine n_aload (j := 0) dX2_init_19 rfl rfl ?_
  refine n_bipush (v := Int32.ofInt 64) dX2_init_20 (by decide) ?_
  refine n_newI (N := 64) dX2_init_22 (by decide) (by decide) (Nat.le_of_ble_eq_true rfl) (Nat.le_of_ble_eq_true rfl) (Nat.le_of_ble_eq_true rfl) (fun q3 => ?_)
  refine n_putCF (ci := 2) (k := 8) ⟨18, _, dX2_init_24, rfl, by decide, k_258, rfl, rfl, fun h9 => (by first | rfl | cases h9)⟩ (Nat.le_of_ble_eq_true rfl) rfl rfl rfl rfl ?_
  refine n_aload (j := 0) dX2_init_27 rfl rfl ?_
  refine n_bipush (v := Int32.ofInt 64) dX2_init_28 (by decide) ?_
  refine n_newZ (N := 64) dX2_init_30 (by decide) (by decide) (Nat.le_of_ble_eq_true rfl) (Nat.le_of_ble_eq_true rfl) (Nat.le_of_ble_eq_true rfl) (fun q4 => ?_)
  refine n_putCF (ci := 2) (k := 9) ⟨21, _, dX2_init_32, rfl, by decide, k_259, rfl, rfl, fun h9 => (by first | rfl | cases h9)⟩ (Nat.le_of_ble_eq_true rfl) rfl rfl rfl rfl ?_
  refine n_aload (j := 0) dX2_init_35 rfl rfl ?_
  refine n_bipush (v := Int32.ofInt 64) dX2_init_36 (by decide) ?_
  refine n_newI (N := 64) dX2_init_38 (by decide) (by decide) (Nat.le_of_ble_eq_true rfl) (Nat.le_of_ble_eq_true rfl) (Nat.le_of_ble_eq_true rfl) (fun q5 => ?_)
  refine n_putCF (ci := 2) (k := 10) ⟨25, _, dX2_init_40, rfl, by decide, k_261, rfl, rfl, fun h9 => (by first | rfl | cases h9)⟩ (Nat.le_of_ble_eq_true rfl) rfl rfl rfl rfl ?_
  refine n_aload (j := 0) dX2_init_43 rfl rfl ?_
  refine n_bipush (v := Int32.ofInt 64) dX2_init_44 (by decide) ?_
  refine n_newI (N := 64) dX2_init_46 (by decide) (by decide) (Nat.le_of_ble_eq_true rfl) (Nat.le_of_ble_eq_true rfl) (Nat.le_of_ble_eq_true rfl) (fun q6 => ?_)
  refine n_putCF (ci := 2) (k := 11) ⟨28, _, dX2_init_48, rfl, by decide, k_263, rfl, rfl, fun h9 => (by first | rfl | cases h9)⟩ (Nat.le_of_ble_eq_true rfl) rfl rfl rfl rfl ?_
  refine n_aload (j := 0) dX2_init_51 rfl rfl ?_
  refine n_bipush (v := Int32.ofInt 64) dX2_init_52 (by decide) ?_
  refine n_newI (N := 64) dX2_init_54 (by decide) (by decide) (Nat.le_of_ble_eq_true rfl) (Nat.le_of_ble_eq_true rfl) (Nat.le_of_ble_eq_true rfl) (fun q7 => ?_)
  refine n_putCF (ci := 2) (k := 12) ⟨31, _, dX2_init_56, rfl, by decide, k_264, rfl, rfl, fun h9 => (by first | rfl | cases h9)⟩ (Nat.le_of_ble_eq_true rfl) rfl rfl rfl rfl ?_
  refine n_aload (j := 0) dX2_init_59 rfl rfl ?_
  refine n_bipush (v := Int32.ofInt 64) dX2_init_60 (by decide) ?_
  refine n_newI (N := 64) dX2_init_62 (by decide) (by decide) (Nat.le_of_ble_eq_true rfl) (Nat.le_of_ble_eq_true rfl) (Nat.le_of_ble_eq_true rfl) (fun q8 => ?_)
  refine n_putCF (ci := 2) (k := 13) ⟨34, _, dX2_init_64, rfl, by decide, k_266, rfl, rfl, fun h9 => (by first | rfl | cases h9)⟩ (Nat.le_of_ble_eq_true rfl) rfl rfl rfl rfl ?_
  refine n_aload (j := 0) dX2_init_67 rfl rfl ?_
  refine n_bipush (v := Int32.ofInt 32) dX2_init_68 (by decide) ?_
  refine n_newI (N := 32) dX2_init_70 (by decide) (by decide) (Nat.le_of_ble_eq_true rfl) (Nat.le_of_ble_eq_true rfl) (Nat.le_of_ble_eq_true rfl) (fun q9 => ?_)
  refine n_putCF (ci := 2) (k := 15) ⟨37, _, dX2_init_72, rfl, by decide, k_271, rfl, rfl, fun h9 => (by first | rfl | cases h9)⟩ (Nat.le_of_ble_eq_true rfl) rfl rfl rfl rfl ?_
  refine n_aload (j := 0) dX2_init_75 rfl rfl ?_
  refine n_bipush (v := Int32.ofInt 32) dX2_init_76 (by decide) ?_
  refine n_newI (N := 32) dX2_init_78 (by decide) (by decide) (Nat.le_of_ble_eq_true rfl) (Nat.le_of_ble_eq_true rfl) (Nat.le_of_ble_eq_true rfl) (fun q10 => ?_)
  refine n_putCF (ci := 2) (k := 16) ⟨40, _, dX2_init_80, rfl, by decide, k_274, rfl, rfl, fun h9 => (by first | rfl | cases h9)⟩ (Nat.le_of_ble_eq_true rfl) rfl rfl rfl rfl ?_
  refine n_aload (j := 0) dX2_init_83 rfl rfl ?_
  obtain ⟨r9, m9, e9, hr9, hF9, hC9, h14⟩ := s_X2_clear_s (X.1, X.2.1, (fun i => [h0, q1, q2, q3, q4, q5, q6, q7, q8, q9, q10].getD i 0), X.2.2.2.1, X.2.2.2.2) (fun _ _ => 0)
  subst hr9
  refine n_callP (X := X) (f := fun i => [h0, q1, q2, q3, q4, q5, q6, q7, q8, q9, q10].getD i 0) (μ := fun _ _ => 0) (M2 := M_X2_clear) (st := []) rfl rfl ⟨43, dX2_init_84, k_224, k_225, k_226, ok_X2_clear⟩ rfl ⟨(Nat.le_of_ble_eq_true rfl), (Nat.le_of_ble_eq_true rfl)⟩ ⟨(Nat.le_of_ble_eq_true rfl), (Nat.le_of_ble_eq_true rfl)⟩ (Nat.le_of_ble_eq_true rfl) rfl e9 ?_
  exact n_ret (S := (Nat → Nat) × Mu) (wc := cn_W2 X) (fun i => [h0, q1, q2, q3, q4, q5, q6, q7, q8, q9, q10].getD i 0, m9) dX2_init_87 rfl ⟨rfl, hC9, h14, hF9⟩ rfl (Nat.le_of_ble_eq_true rfl) (Nat.le_of_ble_eq_true rfl)
def M_X7_init : AMeth := (yX7_init, cX7_init, 1, none, 6, 260)
theorem ok_X7_init : cn_Ok M_X7_init 0 := ⟨k_78, k_77, k_49, rfl, rfl, by decide +kernel⟩
def cn_W7 (X : AX) (f : (Nat → Nat) × Mu × Mu) : va_W := [(f.1 0, .inr (7, [.ref (f.1 1), .ref (f.1 42), .ref (f.1 3), .ref (f.1 6), .ref (f.1 15), .ref (f.1 16), .ref (f.1 19), .ref (f.1 20), .ref (f.1 31)]))] ++ cn_W5 X (fun i => f.1 (1 + i)) ++ cn_W1 X (fun i => f.1 (3 + i)) ++ cn_W0 X (fun i => f.1 (6 + i)) ++ cn_W6 X (fun i => f.1 (15 + i)) ++ cn_W4 X (fun i => f.1 (16 + i)) ++ [(f.1 19, .inl (X.2.1 0, 64, .inl fun _ => Int32.ofInt 0))] ++ cn_W2 X (fun i => f.1 (20 + i), f.2.1) ++ cn_W2 X (fun i => f.1 (31 + i), f.2.2) ++ cn_W3 X (f.1 2) (f.1 31) (fun i => f.1 (42 + i))
set_option maxRecDepth 20000 in
set_option maxHeartbeats 8000000 in
theorem c_X7_init (X : AX) (h0 : Nat) (sz : Nat) : Met (gL (GG X)) M_X7_init.1 (am_ws M_X7_init) (cn_R M_X7_init 44 7131) (cn_Pc (GG X) X.2.1 h0 [] 7 cn_d7 sz) (cn_Q (GG X) X.2.1 h0 7 cn_d7 (fun f : (Nat → Nat) × Mu × Mu => f.1 0 = h0 ∧ (CPS S0 0 f.2.1 ∧ f.2.1 0 14 = 0 ∧ Fr 0 2 1 0 f.2.1 (fun _ _ => 0)) ∧ CPS S0 0 f.2.2 ∧ f.2.2 0 14 = 0 ∧ Fr 0 2 1 0 f.2.2 (fun _ _ => 0)) (cn_W7 X) sz) 44 7131 (va_A [(h0, .inr (7, cn_d7))] sz) := by
  refine cn_met (by decide +kernel) rfl rfl (Nat.le_of_ble_eq_true rfl) (fun p e s m args below meth c lsA => ?_) sz
  refine n_aload (j := 0) dX7_init_0 rfl rfl ?_
  refine n_obj dX7_init_1 k_79 k_80 k_81 ⟨(Nat.le_of_ble_eq_true rfl), (Nat.le_of_ble_eq_true rfl)⟩ ?_
  refine n_aload (j := 0) dX7_init_4 rfl rfl ?_
  refine n_new (ci := 5) (fs := cn_d5) dX7_init_5 rfl k_82 k_83 k_50 cn_dv5 (Nat.le_of_ble_eq_true rfl) (Nat.le_of_ble_eq_true rfl) (fun q1 => ?_)
  refine n_dup dX7_init_8 rfl ?_
  refine n_callN (M2 := M_X5_init) (xa := []) dX7_init_9 rfl (by decide +kernel) ok_X5_init rfl ⟨(Nat.le_of_ble_eq_true rfl), (Nat.le_of_ble_eq_true rfl)⟩ ⟨(Nat.le_of_ble_eq_true rfl), (Nat.le_of_ble_eq_true rfl)⟩ (Nat.le_of_ble_eq_true rfl) (fun sz => c_X5_init X q1 sz) ?_
  intro ft hft
  subst hft
  refine n_putCF (ci := 7) (k := 0) ⟨10, _, dX7_init_12, rfl, by decide, k_349, rfl, rfl, fun h9 => (by first | rfl | cases h9)⟩ (Nat.le_of_ble_eq_true rfl) rfl rfl rfl rfl ?_
  refine n_aload (j := 0) dX7_init_15 rfl rfl ?_
  refine n_new (ci := 1) (fs := cn_d1) dX7_init_16 rfl k_98 k_99 k_51 cn_dv1 (Nat.le_of_ble_eq_true rfl) (Nat.le_of_ble_eq_true rfl) (fun q2 => ?_)
  refine n_dup dX7_init_19 rfl ?_
  refine n_callN (M2 := M_X1_init) (xa := []) dX7_init_20 rfl (by decide +kernel) ok_X1_init rfl ⟨(Nat.le_of_ble_eq_true rfl), (Nat.le_of_ble_eq_true rfl)⟩ ⟨(Nat.le_of_ble_eq_true rfl), (Nat.le_of_ble_eq_true rfl)⟩ (Nat.le_of_ble_eq_true rfl) (fun sz => c_X1_init X q2 sz) ?_
  intro fh hfh
  subst hfh
  refine n_putCF (ci := 7) (k := 2) ⟨19, _, dX7_init_23, rfl, by decide, k_351, rfl, rfl, fun h9 => (by first | rfl | cases h9)⟩ (Nat.le_of_ble_eq_true rfl) rfl rfl rfl rfl ?_
  refine n_aload (j := 0) dX7_init_26 rfl rfl ?_
  refine n_new (ci := 0) (fs := cn_d0) dX7_init_27 rfl k_115 k_116 k_52 cn_dv0 (Nat.le_of_ble_eq_true rfl) (Nat.le_of_ble_eq_true rfl) (fun q3 => ?_)
  refine n_dup dX7_init_30 rfl ?_
  refine n_callN (M2 := M_X0_init) (xa := []) dX7_init_31 rfl (by decide +kernel) ok_X0_init rfl ⟨(Nat.le_of_ble_eq_true rfl), (Nat.le_of_ble_eq_true rfl)⟩ ⟨(Nat.le_of_ble_eq_true rfl), (Nat.le_of_ble_eq_true rfl)⟩ (Nat.le_of_ble_eq_true rfl) (fun sz => c_X0_init X q3 sz) ?_
  intro fg hfg
  subst hfg
  refine n_putCF (ci := 7) (k := 3) ⟨26, _, dX7_init_34, rfl, by decide, k_352, rfl, rfl, fun h9 => (by first | rfl | cases h9)⟩ (Nat.le_of_ble_eq_true rfl) rfl rfl rfl rfl ?_
  refine n_aload (j := 0) dX7_init_37 rfl rfl ?_
  refine n_new (ci := 6) (fs := cn_d6) dX7_init_38 rfl k_184 k_185 k_53 cn_dv6 (Nat.le_of_ble_eq_true rfl) (Nat.le_of_ble_eq_true rfl) (fun q4 => ?_)
  refine n_dup dX7_init_41 rfl ?_
  refine n_callN (M2 := M_X6_init) (xa := []) dX7_init_42 rfl (by decide +kernel) ok_X6_init rfl ⟨(Nat.le_of_ble_eq_true rfl), (Nat.le_of_ble_eq_true rfl)⟩ ⟨(Nat.le_of_ble_eq_true rfl), (Nat.le_of_ble_eq_true rfl)⟩ (Nat.le_of_ble_eq_true rfl) (fun sz => c_X6_init X q4 sz) ?_
  intro fo hfo
  subst hfo
  refine n_putCF (ci := 7) (k := 4) ⟨33, _, dX7_init_45, rfl, by decide, k_353, rfl, rfl, fun h9 => (by first | rfl | cases h9)⟩ (Nat.le_of_ble_eq_true rfl) rfl rfl rfl rfl ?_
  refine n_aload (j := 0) dX7_init_48 rfl rfl ?_
  refine n_new (ci := 4) (fs := cn_d4) dX7_init_49 rfl k_203 k_204 k_54 cn_dv4 (Nat.le_of_ble_eq_true rfl) (Nat.le_of_ble_eq_true rfl) (fun q5 => ?_)
  refine n_dup dX7_init_52 rfl ?_
  refine n_callN (M2 := M_X4_init) (xa := []) dX7_init_53 rfl (by decide +kernel) ok_X4_init rfl ⟨(Nat.le_of_ble_eq_true rfl), (Nat.le_of_ble_eq_true rfl)⟩ ⟨(Nat.le_of_ble_eq_true rfl), (Nat.le_of_ble_eq_true rfl)⟩ (Nat.le_of_ble_eq_true rfl) (fun sz => c_X4_init X q5 sz) ?_
  intro fs hfs
  subst hfs
  refine n_putCF (ci := 7) (k := 5) ⟨40, _, dX7_init_56, rfl, by decide, k_354, rfl, rfl, fun h9 => (by first | rfl | cases h9)⟩ (Nat.le_of_ble_eq_true rfl) rfl rfl rfl rfl ?_
  refine n_aload (j := 0) dX7_init_59 rfl rfl ?_
  refine n_bipush (v := Int32.ofInt 64) dX7_init_60 (by decide) ?_
  refine n_newI (N := 64) dX7_init_62 (by decide) (by decide) (Nat.le_of_ble_eq_true rfl) (Nat.le_of_ble_eq_true rfl) (Nat.le_of_ble_eq_true rfl) (fun q6 => ?_)
  refine n_putCF (ci := 7) (k := 6) ⟨46, _, dX7_init_64, rfl, by decide, k_355, rfl, rfl, fun h9 => (by first | rfl | cases h9)⟩ (Nat.le_of_ble_eq_true rfl) rfl rfl rfl rfl ?_
  refine n_aload (j := 0) dX7_init_67 rfl rfl ?_
  refine n_new (ci := 2) (fs := cn_d2) dX7_init_68 rfl k_218 k_219 k_55 cn_dv2 (Nat.le_of_ble_eq_true rfl) (Nat.le_of_ble_eq_true rfl) (fun q7 => ?_)
  refine n_dup dX7_init_71 rfl ?_
  refine n_callI (M2 := M_X2_init) (xa := []) dX7_init_72 k_220 ok_X2_init rfl ⟨(Nat.le_of_ble_eq_true rfl), (Nat.le_of_ble_eq_true rfl)⟩ ⟨(Nat.le_of_ble_eq_true rfl), (Nat.le_of_ble_eq_true rfl)⟩ (Nat.le_of_ble_eq_true rfl) (fun sz => c_X2_init X q7 sz) ?_
  rintro ⟨fa, ma⟩ ⟨hfa, Cfa, Dfa, Ffa⟩
  subst hfa
  refine n_putC (ci := 7) (k := 7) ⟨51, _, dX7_init_75, rfl, by decide, k_356, rfl, rfl, fun h9 => (by first | rfl | cases h9)⟩ (Nat.le_of_ble_eq_true rfl) rfl rfl rfl rfl ?_
  refine n_aload (j := 0) dX7_init_78 rfl rfl ?_
  refine n_new (ci := 2) (fs := cn_d2) dX7_init_79 rfl k_218 k_219 k_55 cn_dv2 (Nat.le_of_ble_eq_true rfl) (Nat.le_of_ble_eq_true rfl) (fun q8 => ?_)
  refine n_dup dX7_init_82 rfl ?_
  refine n_callI (M2 := M_X2_init) (xa := []) dX7_init_83 k_220 ok_X2_init rfl ⟨(Nat.le_of_ble_eq_true rfl), (Nat.le_of_ble_eq_true rfl)⟩ ⟨(Nat.le_of_ble_eq_true rfl), (Nat.le_of_ble_eq_true rfl)⟩ (Nat.le_of_ble_eq_true rfl) (fun sz => c_X2_init X q8 sz) ?_
  rintro ⟨fb, mb⟩ ⟨hfb, Cfb, Dfb, Ffb⟩
  subst hfb
  refine n_putC (ci := 7) (k := 8) ⟨55, _, dX7_init_86, rfl, by decide, k_357, rfl, rfl, fun h9 => (by first | rfl | cases h9)⟩ (Nat.le_of_ble_eq_true rfl) rfl rfl rfl rfl ?_
  refine n_aload (j := 0) dX7_init_89 rfl rfl ?_
  refine n_new (ci := 3) (fs := cn_d3) dX7_init_90 rfl k_312 k_313 k_57 cn_dv3 (Nat.le_of_ble_eq_true rfl) (Nat.le_of_ble_eq_true rfl) (fun q9 => ?_)
  refine n_dup dX7_init_93 rfl ?_
  refine n_aload (j := 0) dX7_init_94 rfl rfl ?_
  refine n_get (ci := 7) (k := 0) (j0 := 0) ⟨10, _, dX7_init_95, rfl, by decide, k_349⟩ rfl rfl ?_
  refine n_get (ci := 5) (k := 0) (j0 := 1) ⟨60, _, dX7_init_98, rfl, by decide, k_89⟩ rfl rfl ?_
  refine n_aload (j := 0) dX7_init_101 rfl rfl ?_
  refine n_get (ci := 7) (k := 8) (j0 := 0) ⟨55, _, dX7_init_102, rfl, by decide, k_357⟩ rfl rfl ?_
  refine n_callI (M2 := M_X3_init) (xa := [.ref (ft 1), .ref (fb 0)]) dX7_init_105 k_314 ok_X3_init rfl ⟨(Nat.le_of_ble_eq_true rfl), (Nat.le_of_ble_eq_true rfl)⟩ ⟨(Nat.le_of_ble_eq_true rfl), (Nat.le_of_ble_eq_true rfl)⟩ (Nat.le_of_ble_eq_true rfl) (fun sz => c_X3_init X q9 _ _ sz) ?_
  intro fr hfr
  subst hfr
  refine n_putCF (ci := 7) (k := 1) ⟨66, _, dX7_init_108, rfl, by decide, k_350, rfl, rfl, fun h9 => (by first | rfl | cases h9)⟩ (Nat.le_of_ble_eq_true rfl) rfl rfl rfl rfl ?_
  exact n_ret (S := (Nat → Nat) × Mu × Mu) (wc := cn_W7 X) ((fun i => [h0, ft 0, ft 1, fh 0, fh 1, fh 2, fg 0, fg 1, fg 2, fg 3, fg 4, fg 5, fg 6, fg 7, fg 8, fo 0, fs 0, fs 1, fs 2, q6, fa 0, fa 1, fa 2, fa 3, fa 4, fa 5, fa 6, fa 7, fa 8, fa 9, fa 10, fb 0, fb 1, fb 2, fb 3, fb 4, fb 5, fb 6, fb 7, fb 8, fb 9, fb 10, fr 0, fr 1, fr 2].getD i 0), ma, mb) dX7_init_111 rfl ⟨rfl, ⟨Cfa, Dfa, Ffa⟩, Cfb, Dfb, Ffb⟩ rfl (Nat.le_of_ble_eq_true rfl) (Nat.le_of_ble_eq_true rfl)
