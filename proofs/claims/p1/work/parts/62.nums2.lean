theorem p_255 : ∀ i, i < 32 → ¬ i < 8 → (255#32).getLsbD i = false := by decide
theorem p_byte (v : BitVec 64) (n : Nat) (hn : n ≤ 56) : ((v >>> n).signExtend 32 &&& 255#32) = ((v.sshiftRight n).signExtend 32 &&& 255#32) := by
  apply BitVec.eq_of_getLsbD_eq
  intro i hi
  rw [BitVec.getLsbD_and, BitVec.getLsbD_and]
  by_cases h : i < 8
  · rw [BitVec.getLsbD_signExtend, BitVec.getLsbD_signExtend, BitVec.getLsbD_ushiftRight, BitVec.getLsbD_sshiftRight]
    simp [show i < 64 by omega, show ¬ 64 ≤ i by omega, show n + i < 64 by omega, hi]
  · rw [p_255 i hi h, Bool.and_false, Bool.and_false]
theorem p_b56 (b : Int64) : ((b.toUInt64 >>> ((56 : Int32).toInt64.toUInt64 &&& Int64.toUInt64 63)).toInt64.toInt32 &&& 255) = ((b >>> ((56 : Int32).toInt64 &&& 63)).toInt32 &&& 255) := by
  apply Int32.toBitVec_inj.mp
  have h1 : ((b.toUInt64 >>> ((56 : Int32).toInt64.toUInt64 &&& Int64.toUInt64 63)).toInt64.toInt32 &&& 255).toBitVec = ((b.toBitVec >>> 56).signExtend 32 &&& 255#32) := rfl
  have h2 : ((b >>> ((56 : Int32).toInt64 &&& 63)).toInt32 &&& 255).toBitVec = ((b.toBitVec.sshiftRight 56).signExtend 32 &&& 255#32) := rfl
  rw [h1, h2]
  exact p_byte _ _ (by decide)
theorem p_b48 (b : Int64) : ((b.toUInt64 >>> ((48 : Int32).toInt64.toUInt64 &&& Int64.toUInt64 63)).toInt64.toInt32 &&& 255) = ((b >>> ((48 : Int32).toInt64 &&& 63)).toInt32 &&& 255) := by
  apply Int32.toBitVec_inj.mp
  have h1 : ((b.toUInt64 >>> ((48 : Int32).toInt64.toUInt64 &&& Int64.toUInt64 63)).toInt64.toInt32 &&& 255).toBitVec = ((b.toBitVec >>> 48).signExtend 32 &&& 255#32) := rfl
  have h2 : ((b >>> ((48 : Int32).toInt64 &&& 63)).toInt32 &&& 255).toBitVec = ((b.toBitVec.sshiftRight 48).signExtend 32 &&& 255#32) := rfl
  rw [h1, h2]
  exact p_byte _ _ (by decide)
theorem p_b40 (b : Int64) : ((b.toUInt64 >>> ((40 : Int32).toInt64.toUInt64 &&& Int64.toUInt64 63)).toInt64.toInt32 &&& 255) = ((b >>> ((40 : Int32).toInt64 &&& 63)).toInt32 &&& 255) := by
  apply Int32.toBitVec_inj.mp
  have h1 : ((b.toUInt64 >>> ((40 : Int32).toInt64.toUInt64 &&& Int64.toUInt64 63)).toInt64.toInt32 &&& 255).toBitVec = ((b.toBitVec >>> 40).signExtend 32 &&& 255#32) := rfl
  have h2 : ((b >>> ((40 : Int32).toInt64 &&& 63)).toInt32 &&& 255).toBitVec = ((b.toBitVec.sshiftRight 40).signExtend 32 &&& 255#32) := rfl
  rw [h1, h2]
  exact p_byte _ _ (by decide)
theorem p_b32 (b : Int64) : ((b.toUInt64 >>> ((32 : Int32).toInt64.toUInt64 &&& Int64.toUInt64 63)).toInt64.toInt32 &&& 255) = ((b >>> ((32 : Int32).toInt64 &&& 63)).toInt32 &&& 255) := by
  apply Int32.toBitVec_inj.mp
  have h1 : ((b.toUInt64 >>> ((32 : Int32).toInt64.toUInt64 &&& Int64.toUInt64 63)).toInt64.toInt32 &&& 255).toBitVec = ((b.toBitVec >>> 32).signExtend 32 &&& 255#32) := rfl
  have h2 : ((b >>> ((32 : Int32).toInt64 &&& 63)).toInt32 &&& 255).toBitVec = ((b.toBitVec.sshiftRight 32).signExtend 32 &&& 255#32) := rfl
  rw [h1, h2]
  exact p_byte _ _ (by decide)
theorem p_b24 (b : Int64) : ((b.toUInt64 >>> ((24 : Int32).toInt64.toUInt64 &&& Int64.toUInt64 63)).toInt64.toInt32 &&& 255) = ((b >>> ((24 : Int32).toInt64 &&& 63)).toInt32 &&& 255) := by
  apply Int32.toBitVec_inj.mp
  have h1 : ((b.toUInt64 >>> ((24 : Int32).toInt64.toUInt64 &&& Int64.toUInt64 63)).toInt64.toInt32 &&& 255).toBitVec = ((b.toBitVec >>> 24).signExtend 32 &&& 255#32) := rfl
  have h2 : ((b >>> ((24 : Int32).toInt64 &&& 63)).toInt32 &&& 255).toBitVec = ((b.toBitVec.sshiftRight 24).signExtend 32 &&& 255#32) := rfl
  rw [h1, h2]
  exact p_byte _ _ (by decide)
theorem p_b16 (b : Int64) : ((b.toUInt64 >>> ((16 : Int32).toInt64.toUInt64 &&& Int64.toUInt64 63)).toInt64.toInt32 &&& 255) = ((b >>> ((16 : Int32).toInt64 &&& 63)).toInt32 &&& 255) := by
  apply Int32.toBitVec_inj.mp
  have h1 : ((b.toUInt64 >>> ((16 : Int32).toInt64.toUInt64 &&& Int64.toUInt64 63)).toInt64.toInt32 &&& 255).toBitVec = ((b.toBitVec >>> 16).signExtend 32 &&& 255#32) := rfl
  have h2 : ((b >>> ((16 : Int32).toInt64 &&& 63)).toInt32 &&& 255).toBitVec = ((b.toBitVec.sshiftRight 16).signExtend 32 &&& 255#32) := rfl
  rw [h1, h2]
  exact p_byte _ _ (by decide)
theorem p_b8 (b : Int64) : ((b.toUInt64 >>> ((8 : Int32).toInt64.toUInt64 &&& Int64.toUInt64 63)).toInt64.toInt32 &&& 255) = ((b >>> ((8 : Int32).toInt64 &&& 63)).toInt32 &&& 255) := by
  apply Int32.toBitVec_inj.mp
  have h1 : ((b.toUInt64 >>> ((8 : Int32).toInt64.toUInt64 &&& Int64.toUInt64 63)).toInt64.toInt32 &&& 255).toBitVec = ((b.toBitVec >>> 8).signExtend 32 &&& 255#32) := rfl
  have h2 : ((b >>> ((8 : Int32).toInt64 &&& 63)).toInt32 &&& 255).toBitVec = ((b.toBitVec.sshiftRight 8).signExtend 32 &&& 255#32) := rfl
  rw [h1, h2]
  exact p_byte _ _ (by decide)
theorem p_b0 (b : Int64) : ((b.toUInt64 >>> ((0 : Int32).toInt64.toUInt64 &&& Int64.toUInt64 63)).toInt64.toInt32 &&& 255) = ((b >>> ((0 : Int32).toInt64 &&& 63)).toInt32 &&& 255) := by
  apply Int32.toBitVec_inj.mp
  have h1 : ((b.toUInt64 >>> ((0 : Int32).toInt64.toUInt64 &&& Int64.toUInt64 63)).toInt64.toInt32 &&& 255).toBitVec = ((b.toBitVec >>> 0).signExtend 32 &&& 255#32) := rfl
  have h2 : ((b >>> ((0 : Int32).toInt64 &&& 63)).toInt32 &&& 255).toBitVec = ((b.toBitVec.sshiftRight 0).signExtend 32 &&& 255#32) := rfl
  rw [h1, h2]
  exact p_byte _ _ (by decide)
theorem p_cbm (b : Int64) : p_cb b = p_cm b := by
  unfold p_cb p_cm
  rw [p_b56, p_b48, p_b40, p_b32, p_b24, p_b16, p_b8, p_b0]
theorem p_season {w : Int32} (h1 : ¬ w < 1) (h2 : ¬ 100 < w) : ∃ N : Nat, 1 ≤ N ∧ N ≤ 100 ∧ w = nI N := by
  have a1 : (1 : Int) ≤ w.toInt := by revert h1; simp only [Int32.lt_iff_toInt_lt, (by decide : (1 : Int32).toInt = 1)]; omega
  have a2 : w.toInt ≤ 100 := by revert h2; simp only [Int32.lt_iff_toInt_lt, (by decide : (100 : Int32).toInt = 100)]; omega
  refine ⟨w.toInt.toNat, by omega, by omega, ?_⟩
  apply Int32.toInt_inj.mp
  rw [nI_toInt (by omega)]
  omega
theorem p_selPriv {args : Array Value} {s : State} {C : String} {x z y : MethodName} (hy : y.cls ≠ "java/lang/invoke/MethodHandle" ∧ y.cls ≠ "java/lang/invoke/VarHandle") (hzy : z.cls = y.cls) (h : (Cond.selects C x z).before args s = true) (hpriv : (Cond.privateMethod y).before args s = true) (hinst : (Cond.instanceMethod y).before args s = true) : (Cond.selects C y y).before args s = true := by
  obtain ⟨mk, methM, hnamed, hmethM, -, -⟩ := Cond.instanceMethod_spec hinst
  have hfound : s.methodFound? y.cls y.name y.desc = some mk := State.methodFound?_of_named hnamed hy
  have hsel : ∀ c, selectMethod {} s.vm c mk = .method mk := fun c => selectMethod_private hmethM (Cond.privateMethod_at hpriv mk methM hnamed hmethM)
  have hcl := findClass_of_methodNamed hnamed
  simp only [Cond.before, Cond.holds, Cond.value] at h
  cases hC : s.vm.findClass C with
  | none => simp [hC] at h
  | some c =>
    cases hx : s.methodFound? x.cls x.name x.desc with
    | none => simp [hC, hx] at h
    | some r =>
      cases hz : s.methodNamed? z with
      | none => simp [hC, hx, hz] at h
      | some mz =>
        have hmz : mz.cls = mk.cls := Option.some.inj ((findClass_of_methodNamed hz).symm.trans (by rw [hzy]; exact hcl))
        have hni : (s.vm.classes[mk.cls]?).any (!·.isInterface) = true := by
          rw [← hmz]
          cases hs : selectMethod {} s.vm c r with
          | method m' =>
            simp only [hC, hx, hz, hs] at h
            simp at h
            simpa using h.2
          | _ => simp [hC, hx, hz, hs] at h
        simp only [Cond.before, Cond.holds, Cond.value, hC, hfound, hnamed, hsel]
        simp at hni ⊢
        exact hni
