-- plain signs among the bytes of a long
def p_pl (x : Int32) : Nat := if x = 10 then 1 else if x < 32 then 0 else if 126 < x then 0 else 1
theorem p_pl_1 {x : Int32} (h : x = 10) : p_pl x = 1 := by unfold p_pl; rw [if_pos h]
theorem p_pl_2 {x : Int32} (h : ¬ x = 10) (h2 : x < 32) : p_pl x = 0 := by unfold p_pl; rw [if_neg h, if_pos h2]
theorem p_pl_3 {x : Int32} (h : ¬ x = 10) (h2 : ¬ x < 32) (h3 : 126 < x) : p_pl x = 0 := by unfold p_pl; rw [if_neg h, if_neg h2, if_pos h3]
theorem p_pl_4 {x : Int32} (h : ¬ x = 10) (h2 : ¬ x < 32) (h3 : ¬ 126 < x) : p_pl x = 1 := by unfold p_pl; rw [if_neg h, if_neg h2, if_neg h3]
theorem p_andm1 (x : Int32) : x &&& (-1) = x := by
  apply Int32.toBitVec_inj.mp
  rw [Int32.toBitVec_and]
  have h : (-1 : Int32).toBitVec = BitVec.allOnes 32 := by decide
  rw [h, BitVec.and_allOnes]
def p_cb (b : Int64) : Nat := p_pl ((b.toUInt64 >>> ((56 : Int32).toInt64.toUInt64 &&& Int64.toUInt64 63)).toInt64.toInt32 &&& 255) + p_pl ((b.toUInt64 >>> ((48 : Int32).toInt64.toUInt64 &&& Int64.toUInt64 63)).toInt64.toInt32 &&& 255) + p_pl ((b.toUInt64 >>> ((40 : Int32).toInt64.toUInt64 &&& Int64.toUInt64 63)).toInt64.toInt32 &&& 255) + p_pl ((b.toUInt64 >>> ((32 : Int32).toInt64.toUInt64 &&& Int64.toUInt64 63)).toInt64.toInt32 &&& 255) + p_pl ((b.toUInt64 >>> ((24 : Int32).toInt64.toUInt64 &&& Int64.toUInt64 63)).toInt64.toInt32 &&& 255) + p_pl ((b.toUInt64 >>> ((16 : Int32).toInt64.toUInt64 &&& Int64.toUInt64 63)).toInt64.toInt32 &&& 255) + p_pl ((b.toUInt64 >>> ((8 : Int32).toInt64.toUInt64 &&& Int64.toUInt64 63)).toInt64.toInt32 &&& 255) + p_pl ((b.toUInt64 >>> ((0 : Int32).toInt64.toUInt64 &&& Int64.toUInt64 63)).toInt64.toInt32 &&& 255)
def p_cm (b : Int64) : Nat := p_pl ((b >>> ((56 : Int32).toInt64 &&& 63)).toInt32 &&& 255) + p_pl ((b >>> ((48 : Int32).toInt64 &&& 63)).toInt32 &&& 255) + p_pl ((b >>> ((40 : Int32).toInt64 &&& 63)).toInt32 &&& 255) + p_pl ((b >>> ((32 : Int32).toInt64 &&& 63)).toInt32 &&& 255) + p_pl ((b >>> ((24 : Int32).toInt64 &&& 63)).toInt32 &&& 255) + p_pl ((b >>> ((16 : Int32).toInt64 &&& 63)).toInt32 &&& 255) + p_pl ((b >>> ((8 : Int32).toInt64 &&& 63)).toInt32 &&& 255) + p_pl ((b >>> ((0 : Int32).toInt64 &&& 63)).toInt32 &&& 255)
