/-! leaves of the class -/
theorem c_X8_isWithin {S : xS} (x a b : Int32) : CC mX8_isWithin 1 0 0 [xI x, xI a, xI b] S (aI (if a ≤ x ∧ x ≤ b then 1 else 0) S) := by
  refine CC_of mpX8_isWithin rfl (Nat.le_of_ble_eq_true rfl) ?_
  refine E_iload_n dX8_isWithin_0 rfl rfl ?_
  refine E_iload_n dX8_isWithin_1 rfl rfl ?_
  refine E_icmp_lt (tgt := 14) dX8_isWithin_2 (by decide) (fun h2 => ?_) (fun h2 => ?_)
  · refine E_iconst (v := 0) dX8_isWithin_14 (by decide) ?_
    refine E_iret dX8_isWithin_15 rfl rfl ?_
    first | (rw [if_pos ⟨Int32.not_lt.mp h2, Int32.not_lt.mp h7⟩]; exact ⟨rfl, rfl⟩) | (rw [if_neg (fun z => Int32.not_le.mpr h2 z.1)]; exact ⟨rfl, rfl⟩) | (rw [if_neg (fun z => Int32.not_le.mpr h7 z.2)]; exact ⟨rfl, rfl⟩)
  · refine E_iload_n dX8_isWithin_5 rfl rfl ?_
    refine E_iload_n dX8_isWithin_6 rfl rfl ?_
    refine E_icmp_gt (tgt := 14) dX8_isWithin_7 (by decide) (fun h7 => ?_) (fun h7 => ?_)
    · refine E_iconst (v := 0) dX8_isWithin_14 (by decide) ?_
      refine E_iret dX8_isWithin_15 rfl rfl ?_
      first | (rw [if_pos ⟨Int32.not_lt.mp h2, Int32.not_lt.mp h7⟩]; exact ⟨rfl, rfl⟩) | (rw [if_neg (fun z => Int32.not_le.mpr h2 z.1)]; exact ⟨rfl, rfl⟩) | (rw [if_neg (fun z => Int32.not_le.mpr h7 z.2)]; exact ⟨rfl, rfl⟩)
    · refine E_iconst (v := 1) dX8_isWithin_10 (by decide) ?_
      refine E_goto (tgt := 15) dX8_isWithin_11 (by decide) ?_
      refine E_iret dX8_isWithin_15 rfl rfl ?_
      first | (rw [if_pos ⟨Int32.not_lt.mp h2, Int32.not_lt.mp h7⟩]; exact ⟨rfl, rfl⟩) | (rw [if_neg (fun z => Int32.not_le.mpr h2 z.1)]; exact ⟨rfl, rfl⟩) | (rw [if_neg (fun z => Int32.not_le.mpr h7 z.2)]; exact ⟨rfl, rfl⟩)
theorem c_X8_poolOf {S : xS} (hX : xShX S) (p : Int32) : CC mX8_poolOf 2 0 0 [xR (some (8, 0)), xI p] S (aR (if 0 ≤ p ∧ p ≤ 3 then gR S 10 0 p.toNatClampNeg else none) S) := by
  refine CC_of mpX8_poolOf rfl (Nat.le_of_ble_eq_true rfl) ?_
  by_cases hp : 0 ≤ p ∧ p ≤ 3
  · rw [if_pos hp]
    obtain ⟨j, hj, rfl⟩ := nI_of2 (n := 3) rfl (Int32.not_lt.mpr hp.1) hp.2
    refine E_iload_n dX8_poolOf_0 rfl rfl ?_
    refine E_iconst (v := 0) dX8_poolOf_1 (by decide) ?_
    refine E_iconst (v := 3) dX8_poolOf_2 (by decide) ?_
    refine E_callS (m2 := mX8_isWithin) dX8_poolOf_3 kX8_48 mzX8_isWithin (c_X8_isWithin _ _ _) rfl rfl (by decide) (xs8 (Nat.le_of_ble_eq_true rfl)) (by first | exact Nat.le_of_ble_eq_true rfl | omega) (by first | exact Nat.le_of_ble_eq_true rfl | omega) ?_
    rintro _ _ ⟨rfl, rfl⟩; rw [if_pos hp]
    refine E_if_eq (tgt := 18) dX8_poolOf_6 (by decide) (fun h6 => absurd h6 (by decide)) (fun h6 => ?_)
    refine E_aload_n dX8_poolOf_9 rfl rfl ?_
    refine E_getR dX8_poolOf_10 fX8_11 rfl rfl rfl (rX_8_0 hX) ?_
    refine E_iload_n dX8_poolOf_13 rfl rfl ?_
    refine E_aald dX8_poolOf_14 rfl rfl (by decide) (lX_10 hX) (vin (by omega : j < 4) (by omega)) (vnat (by omega : j < 4) (by omega)) rfl ?_
    refine E_goto (tgt := 19) dX8_poolOf_15 (by decide) ?_
    refine E_aret dX8_poolOf_19 rfl (Or.inl ⟨_, rfl⟩) ?_
    rw [vnat (by omega : j < 4) (by decide)]; exact ⟨rfl, rfl⟩
  · rw [if_neg hp]
    refine E_iload_n dX8_poolOf_0 rfl rfl ?_
    refine E_iconst (v := 0) dX8_poolOf_1 (by decide) ?_
    refine E_iconst (v := 3) dX8_poolOf_2 (by decide) ?_
    refine E_callS (m2 := mX8_isWithin) dX8_poolOf_3 kX8_48 mzX8_isWithin (c_X8_isWithin _ _ _) rfl rfl (by decide) (xs8 (Nat.le_of_ble_eq_true rfl)) (by first | exact Nat.le_of_ble_eq_true rfl | omega) (by first | exact Nat.le_of_ble_eq_true rfl | omega) ?_
    rintro _ _ ⟨rfl, rfl⟩; rw [if_neg hp]
    refine E_if_eq (tgt := 18) dX8_poolOf_6 (by decide) (fun h6 => ?_) (fun h6 => absurd h6 (by decide))
    refine E_null dX8_poolOf_18 ?_
    refine E_aret dX8_poolOf_19 rfl (Or.inl ⟨_, rfl⟩) ?_
    exact ⟨rfl, rfl⟩
