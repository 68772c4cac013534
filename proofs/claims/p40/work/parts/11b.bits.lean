/-! ===== Shifts and masks by written numbers, over whole numbers ===== -/
theorem am_lshl4 (a : Int) : Int64.ofInt a <<< ((Int32.ofInt 4).toInt64 &&& 63) = Int64.ofInt (a * 16) := by
  apply Int64.toBitVec_inj.mp
  rw [Int64.toBitVec_shiftLeft, show (((Int32.ofInt 4).toInt64 &&& 63).toBitVec.smod 64) = 4#64 by decide]
  apply BitVec.eq_of_toNat_eq
  rw [BitVec.shiftLeft_eq', BitVec.toNat_shiftLeft, Nat.shiftLeft_eq]
  show (BitVec.ofInt 64 a).toNat * 2 ^ 4 % 2 ^ 64 = (BitVec.ofInt 64 (a * 16)).toNat
  rw [BitVec.toNat_ofInt, BitVec.toNat_ofInt]
  omega
theorem am_lshl7 (a : Int) : Int64.ofInt a <<< ((Int32.ofInt 7).toInt64 &&& 63) = Int64.ofInt (a * 128) := by
  apply Int64.toBitVec_inj.mp
  rw [Int64.toBitVec_shiftLeft, show (((Int32.ofInt 7).toInt64 &&& 63).toBitVec.smod 64) = 7#64 by decide]
  apply BitVec.eq_of_toNat_eq
  rw [BitVec.shiftLeft_eq', BitVec.toNat_shiftLeft, Nat.shiftLeft_eq]
  show (BitVec.ofInt 64 a).toNat * 2 ^ 7 % 2 ^ 64 = (BitVec.ofInt 64 (a * 128)).toNat
  rw [BitVec.toNat_ofInt, BitVec.toNat_ofInt]
  omega
theorem am_lshl24 (a : Int) : Int64.ofInt a <<< ((Int32.ofInt 24).toInt64 &&& 63) = Int64.ofInt (a * 16777216) := by
  apply Int64.toBitVec_inj.mp
  rw [Int64.toBitVec_shiftLeft, show (((Int32.ofInt 24).toInt64 &&& 63).toBitVec.smod 64) = 24#64 by decide]
  apply BitVec.eq_of_toNat_eq
  rw [BitVec.shiftLeft_eq', BitVec.toNat_shiftLeft, Nat.shiftLeft_eq]
  show (BitVec.ofInt 64 a).toNat * 2 ^ 24 % 2 ^ 64 = (BitVec.ofInt 64 (a * 16777216)).toNat
  rw [BitVec.toNat_ofInt, BitVec.toNat_ofInt]
  omega
theorem am_lshl32 (a : Int) : Int64.ofInt a <<< ((Int32.ofInt 32).toInt64 &&& 63) = Int64.ofInt (a * 4294967296) := by
  apply Int64.toBitVec_inj.mp
  rw [Int64.toBitVec_shiftLeft, show (((Int32.ofInt 32).toInt64 &&& 63).toBitVec.smod 64) = 32#64 by decide]
  apply BitVec.eq_of_toNat_eq
  rw [BitVec.shiftLeft_eq', BitVec.toNat_shiftLeft, Nat.shiftLeft_eq]
  show (BitVec.ofInt 64 a).toNat * 2 ^ 32 % 2 ^ 64 = (BitVec.ofInt 64 (a * 4294967296)).toNat
  rw [BitVec.toNat_ofInt, BitVec.toNat_ofInt]
  omega
theorem am_lshrK {a b q : Int} (ha : R64 a) (k : Nat) (hs : (((Int32.ofInt b).toInt64 &&& 63).toBitVec.smod 64).toNat = k) (hq : ((2 ^ k : Nat) : Int) = q) : am_lshr a b = a / q := by
  subst hq
  unfold am_lshr
  show ((Int64.ofInt a).toBitVec.sshiftRight (((Int32.ofInt b).toInt64 &&& 63).toBitVec.smod 64).toNat).toInt = _
  rw [hs, BitVec.toInt_sshiftRight, Int.shiftRight_eq_div_pow]
  show (Int64.ofInt a).toInt / _ = _
  rw [ha.eq]
theorem am_ishrK {a b q : Int} (ha : R32 a) (k : Nat) (hs : ((Int32.ofInt b &&& 31).toBitVec.smod 32).toNat = k) (hq : ((2 ^ k : Nat) : Int) = q) : am_ishr a b = a / q := by
  subst hq
  unfold am_ishr
  rw [pk_shr _ _ k hs, ha.eq, Int.shiftRight_eq_div_pow]
theorem am_land127 (a : Int) : am_land a 127 = a % 128 := by
  have h : Int64.ofInt a &&& Int64.ofInt 127 = Int64.ofInt (a % 128) := by
    apply Int64.toBitVec_inj.mp
    rw [Int64.toBitVec_and]
    apply BitVec.eq_of_toNat_eq
    rw [BitVec.toNat_and]
    show (BitVec.ofInt 64 a).toNat &&& 127 = (BitVec.ofInt 64 (a % 128)).toNat
    rw [BitVec.toNat_ofInt, BitVec.toNat_ofInt, Nat.and_two_pow_sub_one_eq_mod _ 7]
    omega
  unfold am_land
  rw [h]
  exact R64.eq ⟨by omega, by omega⟩
theorem am_iand3 (a : Int) : am_iand a 3 = a % 4 := by
  have h : Int32.ofInt a &&& Int32.ofInt 3 = Int32.ofInt (a % 4) := by
    apply Int32.toBitVec_inj.mp
    rw [Int32.toBitVec_and]
    apply BitVec.eq_of_toNat_eq
    rw [BitVec.toNat_and]
    show (BitVec.ofInt 32 a).toNat &&& 3 = (BitVec.ofInt 32 (a % 4)).toNat
    rw [BitVec.toNat_ofInt, BitVec.toNat_ofInt, Nat.and_two_pow_sub_one_eq_mod _ 2]
    omega
  unfold am_iand
  rw [h]
  exact R32.eq ⟨by omega, by omega⟩
theorem am_iand255 (a : Int) : am_iand a 255 = a % 256 := by
  have h : Int32.ofInt a &&& Int32.ofInt 255 = Int32.ofInt (a % 256) := by
    apply Int32.toBitVec_inj.mp
    rw [Int32.toBitVec_and]
    apply BitVec.eq_of_toNat_eq
    rw [BitVec.toNat_and]
    show (BitVec.ofInt 32 a).toNat &&& 255 = (BitVec.ofInt 32 (a % 256)).toNat
    rw [BitVec.toNat_ofInt, BitVec.toNat_ofInt, Nat.and_two_pow_sub_one_eq_mod _ 8]
    omega
  unfold am_iand
  rw [h]
  exact R32.eq ⟨by omega, by omega⟩
theorem am_ishl5 (a : Int) : Int32.ofInt a <<< (Int32.ofInt 5 &&& 31) = Int32.ofInt (a * 32) := by
  apply Int32.toBitVec_inj.mp
  apply BitVec.eq_of_toNat_eq
  rw [pk_shl _ _ 5 (by decide)]
  show (BitVec.ofInt 32 a).toNat * 2 ^ 5 % 2 ^ 32 = (BitVec.ofInt 32 (a * 32)).toNat
  rw [BitVec.toNat_ofInt, BitVec.toNat_ofInt]
  omega
theorem am_cmp_r (a b : Int) : (-1 ≤ am_cmp a b ∧ am_cmp a b ≤ 1) ∧ (am_cmp a b ≤ 0 ↔ a ≤ b) ∧ (am_cmp a b < 0 ↔ a < b) ∧ (am_cmp a b = 0 ↔ a = b) := by
  unfold am_cmp
  by_cases h : b < a
  · rw [if_pos h]; omega
  · rw [if_neg h]
    by_cases h2 : a = b
    · rw [if_pos h2]; omega
    · rw [if_neg h2]; omega
section BitRows
variable {G : AG} {M : AMeth} {pc : Nat} {ls st : List AV} {μ : Mu} {Q : Option AV → Mu → Prop}
theorem w_lshlK {a b q : Int} (hd : decode M.2.1 pc = .ok (.lshl, 1)) (h : Int64.ofInt a <<< ((Int32.ofInt b).toInt64 &&& 63) = Int64.ofInt (a * q)) (kk : Wp G M (pc + 1) ls ((1, a * q) :: st) μ Q) : Wp G M pc ls ((0, b) :: (1, a) :: st) μ Q :=
  Wp.lift (fun _ _ h9 => Ev.stk (fun _ _ _ _ _ _ _ _ _ _ _ _ hx hb hI k => lv_lshl (v := Int64.ofInt (a * q)) hx hb hd h k) h9) kk
theorem w_ishlK {a b q : Int} (hd : decode M.2.1 pc = .ok (.ishl, 1)) (h : Int32.ofInt a <<< (Int32.ofInt b &&& 31) = Int32.ofInt (a * q)) (kk : Wp G M (pc + 1) ls ((0, a * q) :: st) μ Q) : Wp G M pc ls ((0, b) :: (0, a) :: st) μ Q :=
  Wp.lift (fun _ _ h9 => Ev.stk (fun _ _ _ _ _ _ _ _ _ _ _ _ hx hb hI k => lv_ishl hx hb hd (by rw [h]; exact k)) h9) kk
theorem w_lshrK {a b q : Int} (hd : decode M.2.1 pc = .ok (.lshr, 1)) (ha : R64 a) (k : Nat) (hs : (((Int32.ofInt b).toInt64 &&& 63).toBitVec.smod 64).toNat = k) (hq : ((2 ^ k : Nat) : Int) = q) (kk : Wp G M (pc + 1) ls ((1, a / q) :: st) μ Q) : Wp G M pc ls ((0, b) :: (1, a) :: st) μ Q := by
  refine w_lshr hd ?_
  rw [am_lshrK ha k hs hq]
  exact kk
theorem w_ishrK {a b q : Int} (hd : decode M.2.1 pc = .ok (.ishr, 1)) (ha : R32 a) (k : Nat) (hs : ((Int32.ofInt b &&& 31).toBitVec.smod 32).toNat = k) (hq : ((2 ^ k : Nat) : Int) = q) (kk : Wp G M (pc + 1) ls ((0, a / q) :: st) μ Q) : Wp G M pc ls ((0, b) :: (0, a) :: st) μ Q := by
  refine w_ishr hd ?_
  rw [am_ishrK ha k hs hq]
  exact kk
theorem w_land127 {a : Int} (hd : decode M.2.1 pc = .ok (.land, 1)) (kk : Wp G M (pc + 1) ls ((1, a % 128) :: st) μ Q) : Wp G M pc ls ((1, 127) :: (1, a) :: st) μ Q := by
  refine w_land hd ?_
  rw [am_land127]
  exact kk
theorem w_iand3 {a : Int} (hd : decode M.2.1 pc = .ok (.iand, 1)) (kk : Wp G M (pc + 1) ls ((0, a % 4) :: st) μ Q) : Wp G M pc ls ((0, 3) :: (0, a) :: st) μ Q := by
  refine w_iand hd ?_
  rw [am_iand3]
  exact kk
theorem w_iand255 {a : Int} (hd : decode M.2.1 pc = .ok (.iand, 1)) (kk : Wp G M (pc + 1) ls ((0, a % 256) :: st) μ Q) : Wp G M pc ls ((0, 255) :: (0, a) :: st) μ Q := by
  refine w_iand hd ?_
  rw [am_iand255]
  exact kk
theorem w_lc_eq {a b off : Int} {tgt : Nat} (hd1 : decode M.2.1 pc = .ok (.lcmp, 1)) (hd2 : decode M.2.1 (pc + 1) = .ok (.ifCond .eq off, 3)) (ht : ((pc + 1 : Nat) : Int) + off = (tgt : Int)) (ha : R64 a) (hb0 : R64 b) (kt : a = b → Wp G M tgt ls st μ Q) (kf : ¬ a = b → Wp G M (pc + 1 + 3) ls st μ Q) : Wp G M pc ls ((1, b) :: (1, a) :: st) μ Q := by
  have hc := am_cmp_r a b
  refine w_lcmp hd1 ha hb0 (w_if_eq hd2 ht ⟨by omega, by omega⟩ (fun h => kt ?_) (fun h => kf ?_))
  · omega
  · omega
theorem w_lc_ne {a b off : Int} {tgt : Nat} (hd1 : decode M.2.1 pc = .ok (.lcmp, 1)) (hd2 : decode M.2.1 (pc + 1) = .ok (.ifCond .ne off, 3)) (ht : ((pc + 1 : Nat) : Int) + off = (tgt : Int)) (ha : R64 a) (hb0 : R64 b) (kt : ¬ a = b → Wp G M tgt ls st μ Q) (kf : a = b → Wp G M (pc + 1 + 3) ls st μ Q) : Wp G M pc ls ((1, b) :: (1, a) :: st) μ Q := by
  have hc := am_cmp_r a b
  refine w_lcmp hd1 ha hb0 (w_if_ne hd2 ht ⟨by omega, by omega⟩ (fun h => kt ?_) (fun h => kf ?_))
  · omega
  · omega
theorem w_lc_lt {a b off : Int} {tgt : Nat} (hd1 : decode M.2.1 pc = .ok (.lcmp, 1)) (hd2 : decode M.2.1 (pc + 1) = .ok (.ifCond .lt off, 3)) (ht : ((pc + 1 : Nat) : Int) + off = (tgt : Int)) (ha : R64 a) (hb0 : R64 b) (kt : a < b → Wp G M tgt ls st μ Q) (kf : b ≤ a → Wp G M (pc + 1 + 3) ls st μ Q) : Wp G M pc ls ((1, b) :: (1, a) :: st) μ Q := by
  have hc := am_cmp_r a b
  refine w_lcmp hd1 ha hb0 (w_if_lt hd2 ht ⟨by omega, by omega⟩ (fun h => kt ?_) (fun h => kf ?_))
  · omega
  · omega
theorem w_lc_ge {a b off : Int} {tgt : Nat} (hd1 : decode M.2.1 pc = .ok (.lcmp, 1)) (hd2 : decode M.2.1 (pc + 1) = .ok (.ifCond .ge off, 3)) (ht : ((pc + 1 : Nat) : Int) + off = (tgt : Int)) (ha : R64 a) (hb0 : R64 b) (kt : b ≤ a → Wp G M tgt ls st μ Q) (kf : a < b → Wp G M (pc + 1 + 3) ls st μ Q) : Wp G M pc ls ((1, b) :: (1, a) :: st) μ Q := by
  have hc := am_cmp_r a b
  refine w_lcmp hd1 ha hb0 (w_if_ge hd2 ht ⟨by omega, by omega⟩ (fun h => kt ?_) (fun h => kf ?_))
  · omega
  · omega
theorem w_lc_gt {a b off : Int} {tgt : Nat} (hd1 : decode M.2.1 pc = .ok (.lcmp, 1)) (hd2 : decode M.2.1 (pc + 1) = .ok (.ifCond .gt off, 3)) (ht : ((pc + 1 : Nat) : Int) + off = (tgt : Int)) (ha : R64 a) (hb0 : R64 b) (kt : b < a → Wp G M tgt ls st μ Q) (kf : a ≤ b → Wp G M (pc + 1 + 3) ls st μ Q) : Wp G M pc ls ((1, b) :: (1, a) :: st) μ Q := by
  have hc := am_cmp_r a b
  refine w_lcmp hd1 ha hb0 (w_if_gt hd2 ht ⟨by omega, by omega⟩ (fun h => kt ?_) (fun h => kf ?_))
  · omega
  · omega
theorem w_lc_le {a b off : Int} {tgt : Nat} (hd1 : decode M.2.1 pc = .ok (.lcmp, 1)) (hd2 : decode M.2.1 (pc + 1) = .ok (.ifCond .le off, 3)) (ht : ((pc + 1 : Nat) : Int) + off = (tgt : Int)) (ha : R64 a) (hb0 : R64 b) (kt : a ≤ b → Wp G M tgt ls st μ Q) (kf : b < a → Wp G M (pc + 1 + 3) ls st μ Q) : Wp G M pc ls ((1, b) :: (1, a) :: st) μ Q := by
  have hc := am_cmp_r a b
  refine w_lcmp hd1 ha hb0 (w_if_le hd2 ht ⟨by omega, by omega⟩ (fun h => kt ?_) (fun h => kf ?_))
  · omega
  · omega
end BitRows
