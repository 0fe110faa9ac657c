-- the bytes: shifted with or without the sign, the lowest eight bits are the same
theorem bv_255 : ∀ i, i < 32 → ¬ i < 8 → (255#32).getLsbD i = false := by decide
theorem bv_by (x : BitVec 64) (s : Nat) (hs : s ≤ 56) : (x.sshiftRight s).signExtend 32 &&& 255#32 = (x >>> s).signExtend 32 &&& 255#32 := by
  apply BitVec.eq_of_getLsbD_eq
  intro i hi
  rw [BitVec.getLsbD_and, BitVec.getLsbD_and, BitVec.getLsbD_signExtend, BitVec.getLsbD_signExtend, BitVec.getLsbD_sshiftRight, BitVec.getLsbD_ushiftRight]
  by_cases h : i < 8
  · rw [if_pos (by omega), if_pos (by omega), if_pos (by omega)]
    have h1 : decide (64 ≤ i) = false := decide_eq_false (by omega)
    rw [h1]
    rfl
  · rw [bv_255 i hi h, Bool.and_false, Bool.and_false]
theorem by_0 (x : Int64) : byM x 0 = byC x 0 := Int32.toBitVec_inj.mp (bv_by x.toBitVec 0 (by omega))
theorem by_8 (x : Int64) : byM x 8 = byC x 8 := Int32.toBitVec_inj.mp (bv_by x.toBitVec 8 (by omega))
theorem by_16 (x : Int64) : byM x 16 = byC x 16 := Int32.toBitVec_inj.mp (bv_by x.toBitVec 16 (by omega))
theorem by_24 (x : Int64) : byM x 24 = byC x 24 := Int32.toBitVec_inj.mp (bv_by x.toBitVec 24 (by omega))
theorem by_32 (x : Int64) : byM x 32 = byC x 32 := Int32.toBitVec_inj.mp (bv_by x.toBitVec 32 (by omega))
theorem by_40 (x : Int64) : byM x 40 = byC x 40 := Int32.toBitVec_inj.mp (bv_by x.toBitVec 40 (by omega))
theorem by_48 (x : Int64) : byM x 48 = byC x 48 := Int32.toBitVec_inj.mp (bv_by x.toBitVec 48 (by omega))
theorem by_56 (x : Int64) : byM x 56 = byC x 56 := Int32.toBitVec_inj.mp (bv_by x.toBitVec 56 (by omega))
theorem gM_gC (x : Int64) (n : Int) : gM x n 8 = gC x n 8 := by
  show fS (fS (fS (fS (fS (fS (fS (fS n (byM x 56)) (byM x 48)) (byM x 40)) (byM x 32)) (byM x 24)) (byM x 16)) (byM x 8)) (byM x 0) = fS (fS (fS (fS (fS (fS (fS (fS n (byC x 56)) (byC x 48)) (byC x 40)) (byC x 32)) (byC x 24)) (byC x 16)) (byC x 8)) (byC x 0)
  rw [by_0, by_8, by_16, by_24, by_32, by_40, by_48, by_56]
