/-! BathHouse: its calls -/
theorem c_pool_y {S : xS} (hX : xShX S) {P N : Nat} (x2 x3 : Int32) (hnow : (gI S 8 0 5) = 0) (hP : P < 4) (hN : N ≤ 3) (hr : gR S 10 0 P = none) (e2 : 1 ≤ x2 ∧ x2 ≤ 200) (e3 : 1 ≤ x3 ∧ x3 ≤ 8) (f0 : gL S 3 P = none) (h18 : gL S 18 P = none) (hd : gL S 1 P = none) (h17 : gL S 17 P = none) (hf : ∀ j, j < 3 → gL S 4 (3 * P + j) = none) (hf2 : ∀ j, j < 3 → gL S 6 (3 * P + j) = none) : CC mX8_pool 4 10 46 [xR (some (8, 0)), xI (nI P), xI x2, xI x3, xI (nI N)] S (aI 1 (sR (xpi (sN S 3 P 0) P (nI P) x2 x3 N) 10 0 P (some (3, P)))) := by
  refine CC_of mpX8_pool rfl (Nat.le_of_ble_eq_true rfl) ?_
  have e1 : (0 : Int32) ≤ nI P ∧ nI P ≤ 3 := ⟨nI_le (a := 0) (by omega) (by omega), nI_le (b := 3) (by omega) (by omega)⟩
  have e4 : (0 : Int32) ≤ nI N ∧ nI N ≤ 3 := ⟨nI_le (a := 0) (by omega) (by omega), nI_le (b := 3) (by omega) (by omega)⟩
  refine E_aload_n dX8_pool_0 rfl rfl ?_
  refine E_getI dX8_pool_1 fX8_45 rfl rfl rfl rfl ?_
  refine E_if_ne (tgt := 25) dX8_pool_4 (by decide) (fun h4 => absurd h4 (fun z => z hnow)) (fun h4 => ?_)
  refine E_iload_n dX8_pool_7 rfl rfl ?_
  refine E_iconst (v := 0) dX8_pool_8 (by decide) ?_
  refine E_iconst (v := 3) dX8_pool_9 (by decide) ?_
  refine E_callS (m2 := mX8_isWithin) dX8_pool_10 kX8_48 mzX8_isWithin (c_X8_isWithin _ _ _) rfl rfl (by decide) (xs8 (Nat.le_of_ble_eq_true rfl)) (by first | exact Nat.le_of_ble_eq_true rfl | omega) (by first | exact Nat.le_of_ble_eq_true rfl | omega) ?_
  rintro _ _ ⟨rfl, rfl⟩; rw [if_pos e1]
  refine E_if_eq (tgt := 25) dX8_pool_13 (by decide) (fun h13 => absurd h13 (by decide)) (fun h13 => ?_)
  refine E_aload_n dX8_pool_16 rfl rfl ?_
  refine E_getR dX8_pool_17 fX8_11 rfl rfl rfl (rX_8_0 hX) ?_
  refine E_iload_n dX8_pool_20 rfl rfl ?_
  refine E_aald dX8_pool_21 rfl rfl (by decide) (lX_10 hX) (vin hP (by omega)) (vnat hP (by omega)) hr ?_
  refine E_ifnull (tgt := 27) dX8_pool_22 (by decide) (fun h22 => ?_) (fun q22 h22 => absurd h22 (by intro z; cases z))
  refine E_iload_n dX8_pool_27 rfl rfl ?_
  refine E_iconst (v := 1) dX8_pool_28 (by decide) ?_
  refine E_sipush (v := 200) dX8_pool_29 (by decide) ?_
  refine E_callS (m2 := mX8_isWithin) dX8_pool_32 kX8_48 mzX8_isWithin (c_X8_isWithin _ _ _) rfl rfl (by decide) (xs8 (Nat.le_of_ble_eq_true rfl)) (by first | exact Nat.le_of_ble_eq_true rfl | omega) (by first | exact Nat.le_of_ble_eq_true rfl | omega) ?_
  rintro _ _ ⟨rfl, rfl⟩; rw [if_pos e2]
  refine E_if_eq (tgt := 58) dX8_pool_35 (by decide) (fun h35 => absurd h35 (by decide)) (fun h35 => ?_)
  refine E_iload_n dX8_pool_38 rfl rfl ?_
  refine E_iconst (v := 1) dX8_pool_39 (by decide) ?_
  refine E_bipush (v := 8) dX8_pool_40 (by decide) ?_
  refine E_callS (m2 := mX8_isWithin) dX8_pool_42 kX8_48 mzX8_isWithin (c_X8_isWithin _ _ _) rfl rfl (by decide) (xs8 (Nat.le_of_ble_eq_true rfl)) (by first | exact Nat.le_of_ble_eq_true rfl | omega) (by first | exact Nat.le_of_ble_eq_true rfl | omega) ?_
  rintro _ _ ⟨rfl, rfl⟩; rw [if_pos e3]
  refine E_if_eq (tgt := 58) dX8_pool_45 (by decide) (fun h45 => absurd h45 (by decide)) (fun h45 => ?_)
  refine E_iload dX8_pool_48 rfl ?_
  refine E_iconst (v := 0) dX8_pool_50 (by decide) ?_
  refine E_iconst (v := 3) dX8_pool_51 (by decide) ?_
  refine E_callS (m2 := mX8_isWithin) dX8_pool_52 kX8_48 mzX8_isWithin (c_X8_isWithin _ _ _) rfl rfl (by decide) (xs8 (Nat.le_of_ble_eq_true rfl)) (by first | exact Nat.le_of_ble_eq_true rfl | omega) (by first | exact Nat.le_of_ble_eq_true rfl | omega) ?_
  rintro _ _ ⟨rfl, rfl⟩; rw [if_pos e4]
  refine E_if_ne (tgt := 60) dX8_pool_55 (by decide) (fun h55 => ?_) (fun h55 => absurd h55 (by decide))
  refine E_aload_n dX8_pool_60 rfl rfl ?_
  refine E_getR dX8_pool_61 fX8_11 rfl rfl rfl (rX_8_0 hX) ?_
  refine E_iload_n dX8_pool_64 rfl rfl ?_
  refine E_new (k := 3) (i := P) dX8_pool_65 nX8_9 rfl rfl rfl isX3 ziX3 f0 (by first | exact Nat.le_of_ble_eq_true rfl | omega) (by first | exact Nat.le_of_ble_eq_true rfl | omega) ?_
  refine E_dup dX8_pool_68 rfl ?_
  refine E_iload_n dX8_pool_69 rfl rfl ?_
  refine E_iload_n dX8_pool_70 rfl rfl ?_
  refine E_iload_n dX8_pool_71 rfl rfl ?_
  refine E_iload dX8_pool_72 rfl ?_
  refine E_callI (m2 := mX3_init) dX8_pool_74 kX8_52 mzX3_init (c_X3_init (S := sN S 3 P 0) hN (nI P) x2 x3 h18 hd h17 hf hf2) rfl rfl (by decide) (xs8 (Nat.le_of_ble_eq_true rfl)) (by first | exact Nat.le_of_ble_eq_true rfl | omega) (by first | exact Nat.le_of_ble_eq_true rfl | omega) ?_
  rintro _ _ ⟨rfl, rfl⟩
  refine E_aast dX8_pool_77 rfl rfl (by decide) (show gL (xpi (sN S 3 P 0) P (nI P) x2 x3 N) 10 0 = some 4 from (xpT_L (by decide) 3).trans ((xpP_L (by decide) N).trans (lX_10 hX))) (vin hP (by omega)) (vnat hP (by omega)) rfl rfl ?_
  refine E_iconst (v := 1) dX8_pool_78 (by decide) ?_
  refine E_iret dX8_pool_79 rfl rfl ?_
  exact ⟨rfl, rfl⟩
theorem c_pool_n {S : xS} (hX : xShX S) (p x2 x3 x4 : Int32) (h : ¬ ((gI S 8 0 5) = 0 ∧ (0 ≤ p ∧ p ≤ 3) ∧ xpl S p = none ∧ (1 ≤ x2 ∧ x2 ≤ 200) ∧ (1 ≤ x3 ∧ x3 ≤ 8) ∧ 0 ≤ x4 ∧ x4 ≤ 3)) : CC mX8_pool 4 10 46 [xR (some (8, 0)), xI p, xI x2, xI x3, xI x4] S (aI 0 S) := by
  refine CC_of mpX8_pool rfl (Nat.le_of_ble_eq_true rfl) ?_
  by_cases e1 : 0 ≤ p ∧ p ≤ 3
  · obtain ⟨j, hj, rfl⟩ := nI_of2 (n := 3) rfl (Int32.not_lt.mpr e1.1) e1.2
    have hpl : xpl S (nI j) = gR S 10 0 j := by unfold xpl; rw [if_pos e1, vnat (by omega : j < 4) (by decide)]
    rw [hpl] at h
    refine E_aload_n dX8_pool_0 rfl rfl ?_
    refine E_getI dX8_pool_1 fX8_45 rfl rfl rfl rfl ?_
    refine E_if_ne (tgt := 25) dX8_pool_4 (by decide) (fun h4 => ?_) (fun h4 => ?_)
    · refine E_iconst (v := 0) dX8_pool_25 (by decide) ?_
      refine E_iret dX8_pool_26 rfl rfl ?_
      exact ⟨rfl, rfl⟩
    · refine E_iload_n dX8_pool_7 rfl rfl ?_
      refine E_iconst (v := 0) dX8_pool_8 (by decide) ?_
      refine E_iconst (v := 3) dX8_pool_9 (by decide) ?_
      refine E_callS (m2 := mX8_isWithin) dX8_pool_10 kX8_48 mzX8_isWithin (c_X8_isWithin _ _ _) rfl rfl (by decide) (xs8 (Nat.le_of_ble_eq_true rfl)) (by first | exact Nat.le_of_ble_eq_true rfl | omega) (by first | exact Nat.le_of_ble_eq_true rfl | omega) ?_
      rintro _ _ ⟨rfl, rfl⟩; rw [if_pos e1]
      refine E_if_eq (tgt := 25) dX8_pool_13 (by decide) (fun h13 => absurd h13 (by decide)) (fun h13 => ?_)
      refine E_aload_n dX8_pool_16 rfl rfl ?_
      refine E_getR dX8_pool_17 fX8_11 rfl rfl rfl (rX_8_0 hX) ?_
      refine E_iload_n dX8_pool_20 rfl rfl ?_
      refine E_aald dX8_pool_21 rfl rfl (by decide) (lX_10 hX) (vin (by omega : j < 4) (by omega)) (vnat (by omega : j < 4) (by omega)) rfl ?_
      refine E_ifnull (tgt := 27) dX8_pool_22 (by decide) (fun h22 => ?_) (fun q22 h22 => ?_)
      · refine E_iload_n dX8_pool_27 rfl rfl ?_
        refine E_iconst (v := 1) dX8_pool_28 (by decide) ?_
        refine E_sipush (v := 200) dX8_pool_29 (by decide) ?_
        refine E_callS (m2 := mX8_isWithin) dX8_pool_32 kX8_48 mzX8_isWithin (c_X8_isWithin _ _ _) rfl rfl (by decide) (xs8 (Nat.le_of_ble_eq_true rfl)) (by first | exact Nat.le_of_ble_eq_true rfl | omega) (by first | exact Nat.le_of_ble_eq_true rfl | omega) ?_
        rintro _ _ ⟨rfl, rfl⟩
        refine E_if_eq (tgt := 58) dX8_pool_35 (by decide) (fun h35 => ?_) (fun h35 => ?_)
        · refine E_iconst (v := 0) dX8_pool_58 (by decide) ?_
          refine E_iret dX8_pool_59 rfl rfl ?_
          exact ⟨rfl, rfl⟩
        · refine E_iload_n dX8_pool_38 rfl rfl ?_
          refine E_iconst (v := 1) dX8_pool_39 (by decide) ?_
          refine E_bipush (v := 8) dX8_pool_40 (by decide) ?_
          refine E_callS (m2 := mX8_isWithin) dX8_pool_42 kX8_48 mzX8_isWithin (c_X8_isWithin _ _ _) rfl rfl (by decide) (xs8 (Nat.le_of_ble_eq_true rfl)) (by first | exact Nat.le_of_ble_eq_true rfl | omega) (by first | exact Nat.le_of_ble_eq_true rfl | omega) ?_
          rintro _ _ ⟨rfl, rfl⟩
          refine E_if_eq (tgt := 58) dX8_pool_45 (by decide) (fun h45 => ?_) (fun h45 => ?_)
          · refine E_iconst (v := 0) dX8_pool_58 (by decide) ?_
            refine E_iret dX8_pool_59 rfl rfl ?_
            exact ⟨rfl, rfl⟩
          · refine E_iload dX8_pool_48 rfl ?_
            refine E_iconst (v := 0) dX8_pool_50 (by decide) ?_
            refine E_iconst (v := 3) dX8_pool_51 (by decide) ?_
            refine E_callS (m2 := mX8_isWithin) dX8_pool_52 kX8_48 mzX8_isWithin (c_X8_isWithin _ _ _) rfl rfl (by decide) (xs8 (Nat.le_of_ble_eq_true rfl)) (by first | exact Nat.le_of_ble_eq_true rfl | omega) (by first | exact Nat.le_of_ble_eq_true rfl | omega) ?_
            rintro _ _ ⟨rfl, rfl⟩
            refine E_if_ne (tgt := 60) dX8_pool_55 (by decide) (fun h55 => ?_) (fun h55 => ?_)
            · exact absurd ⟨h4, e1, h22, ite1 h35, ite1 h45, ite1 h55⟩ h
            · refine E_iconst (v := 0) dX8_pool_58 (by decide) ?_
              refine E_iret dX8_pool_59 rfl rfl ?_
              exact ⟨rfl, rfl⟩
      · refine E_iconst (v := 0) dX8_pool_25 (by decide) ?_
        refine E_iret dX8_pool_26 rfl rfl ?_
        exact ⟨rfl, rfl⟩
  · skip
    refine E_aload_n dX8_pool_0 rfl rfl ?_
    refine E_getI dX8_pool_1 fX8_45 rfl rfl rfl rfl ?_
    refine E_if_ne (tgt := 25) dX8_pool_4 (by decide) (fun h4 => ?_) (fun h4 => ?_)
    · refine E_iconst (v := 0) dX8_pool_25 (by decide) ?_
      refine E_iret dX8_pool_26 rfl rfl ?_
      exact ⟨rfl, rfl⟩
    · refine E_iload_n dX8_pool_7 rfl rfl ?_
      refine E_iconst (v := 0) dX8_pool_8 (by decide) ?_
      refine E_iconst (v := 3) dX8_pool_9 (by decide) ?_
      refine E_callS (m2 := mX8_isWithin) dX8_pool_10 kX8_48 mzX8_isWithin (c_X8_isWithin _ _ _) rfl rfl (by decide) (xs8 (Nat.le_of_ble_eq_true rfl)) (by first | exact Nat.le_of_ble_eq_true rfl | omega) (by first | exact Nat.le_of_ble_eq_true rfl | omega) ?_
      rintro _ _ ⟨rfl, rfl⟩; rw [if_neg e1]
      refine E_if_eq (tgt := 25) dX8_pool_13 (by decide) (fun h13 => ?_) (fun h13 => absurd h13 (by decide))
      refine E_iconst (v := 0) dX8_pool_25 (by decide) ?_
      refine E_iret dX8_pool_26 rfl rfl ?_
      exact ⟨rfl, rfl⟩
theorem c_clash {S : xS} : CC mX8_clash 1 0 0 [xR (some (8, 0))] S (aI (gI S 8 0 8) S) := by
  refine CC_of mpX8_clash rfl (Nat.le_of_ble_eq_true rfl) ?_
  refine E_aload_n dX8_clash_0 rfl rfl ?_
  refine E_getI dX8_clash_1 fX8_41 rfl rfl rfl rfl ?_
  refine E_iret dX8_clash_4 rfl rfl ?_
  exact ⟨rfl, rfl⟩
theorem c_leave_n {S : xS} (hX : xShX S) (x : Int32) (h : xcl S x = none) : CC mX8_leave 3 0 0 [xR (some (8, 0)), xI x] S (aI 0 S) := by
  refine CC_of mpX8_leave rfl (Nat.le_of_ble_eq_true rfl) ?_
  refine E_aload_n dX8_leave_0 rfl rfl ?_
  refine E_iload_n dX8_leave_1 rfl rfl ?_
  refine E_callV (m2 := mX8_clubOf) dX8_leave_2 kX8_73 mzX8_clubOf (c_clubOf hX x h) rfl ⟨_, _, rfl⟩ rfl rfl (by decide) (xs8 (Nat.le_of_ble_eq_true rfl)) (by first | exact Nat.le_of_ble_eq_true rfl | omega) (by first | exact Nat.le_of_ble_eq_true rfl | omega) ?_
  rintro _ _ ⟨rfl, rfl⟩
  refine E_astore_n dX8_leave_5 rfl (by decide) rfl ?_
  refine E_aload_n dX8_leave_6 rfl rfl ?_
  refine E_ifnull (tgt := 21) dX8_leave_7 (by decide) (fun h7 => ?_) (fun q7 h7 => absurd h7 (by intro z; cases z))
  refine E_iconst (v := 0) dX8_leave_21 (by decide) ?_
  refine E_iret dX8_leave_22 rfl rfl ?_
  exact ⟨rfl, rfl⟩
theorem c_leave_s {S : xS} (hX : xShX S) (x : Int32) {c : Nat} (h : xcl S x = some (0, c)) : CC mX8_leave 3 0 0 [xR (some (8, 0)), xI x] S (aI (if (gI S 8 0 5) < (gI S 0 c 4) then 1 else 0) (if (gI S 8 0 5) < (gI S 0 c 4) then (sI S 0 c 4 (gI S 8 0 5)) else S)) := by
  refine CC_of mpX8_leave rfl (Nat.le_of_ble_eq_true rfl) ?_
  refine E_aload_n dX8_leave_0 rfl rfl ?_
  refine E_iload_n dX8_leave_1 rfl rfl ?_
  refine E_callV (m2 := mX8_clubOf) dX8_leave_2 kX8_73 mzX8_clubOf (c_clubOf hX x h) rfl ⟨_, _, rfl⟩ rfl rfl (by decide) (xs8 (Nat.le_of_ble_eq_true rfl)) (by first | exact Nat.le_of_ble_eq_true rfl | omega) (by first | exact Nat.le_of_ble_eq_true rfl | omega) ?_
  rintro _ _ ⟨rfl, rfl⟩
  refine E_astore_n dX8_leave_5 rfl (by decide) rfl ?_
  refine E_aload_n dX8_leave_6 rfl rfl ?_
  refine E_ifnull (tgt := 21) dX8_leave_7 (by decide) (fun h7 => ?_) (fun q7 h7 => ?_)
  · cases h7
  · refine E_aload_n dX8_leave_10 rfl rfl ?_
    refine E_getI dX8_leave_11 fX8_45 rfl rfl rfl rfl ?_
    refine E_aload_n dX8_leave_14 rfl rfl ?_
    refine E_getI dX8_leave_15 fX8_93 rfl rfl rfl rfl ?_
    refine E_icmp_lt (tgt := 23) dX8_leave_18 (by decide) (fun h18 => ?_) (fun h18 => ?_)
    · rw [if_pos h18, if_pos h18]
      refine E_aload_n dX8_leave_23 rfl rfl ?_
      refine E_aload_n dX8_leave_24 rfl rfl ?_
      refine E_getI dX8_leave_25 fX8_45 rfl rfl rfl rfl ?_
      refine E_putI dX8_leave_28 fX8_93 rfl rfl rfl rfl rfl ?_
      refine E_iconst (v := 1) dX8_leave_31 (by decide) ?_
      refine E_iret dX8_leave_32 rfl rfl ?_
      exact ⟨rfl, rfl⟩
    · rw [if_neg h18, if_neg h18]
      refine E_iconst (v := 0) dX8_leave_21 (by decide) ?_
      refine E_iret dX8_leave_22 rfl rfl ?_
      exact ⟨rfl, rfl⟩
theorem c_may_n {S : xS} (hX : xShX S) (x : Int32) (h : xtl S x = none) : CC mX8_may 6 0 0 [xR (some (8, 0)), xI x] S (aI (-1) S) := by
  refine CC_of mpX8_may rfl (Nat.le_of_ble_eq_true rfl) ?_
  refine E_aload_n dX8_may_0 rfl rfl ?_
  refine E_iload_n dX8_may_1 rfl rfl ?_
  refine E_callV (m2 := mX8_ticketOf) dX8_may_2 kX8_96 mzX8_ticketOf (c_ticketOf hX x h) rfl ⟨_, _, rfl⟩ rfl rfl (by decide) (xs8 (Nat.le_of_ble_eq_true rfl)) (by first | exact Nat.le_of_ble_eq_true rfl | omega) (by first | exact Nat.le_of_ble_eq_true rfl | omega) ?_
  rintro _ _ ⟨rfl, rfl⟩
  refine E_astore_n dX8_may_5 rfl (by decide) rfl ?_
  refine E_aload_n dX8_may_6 rfl rfl ?_
  refine E_ifnonnull (tgt := 14) dX8_may_7 (by decide) (fun q7 h7 => absurd h7 (by intro z; cases z)) (fun h7 => ?_)
  refine E_iconst (v := -1) dX8_may_10 (by decide) ?_
  refine E_goto (tgt := 19) dX8_may_11 (by decide) ?_
  refine E_iret dX8_may_19 rfl rfl ?_
  exact ⟨rfl, rfl⟩
theorem c_may_s {S : xS} (hX : xShX S) (x : Int32) {t P n : Nat} (h : xtl S x = some (7, t)) (ht : (gR S 7 t 1) = some (3, P)) (hp : xShP S P n) (hc : ∀ q, (gR S 7 t 4) = some q → q.1 = 0) : CC mX8_may 6 0 0 [xR (some (8, 0)), xI x] S (aI (xrg S t P n) S) := by
  refine CC_of mpX8_may rfl (Nat.le_of_ble_eq_true rfl) ?_
  refine E_aload_n dX8_may_0 rfl rfl ?_
  refine E_iload_n dX8_may_1 rfl rfl ?_
  refine E_callV (m2 := mX8_ticketOf) dX8_may_2 kX8_96 mzX8_ticketOf (c_ticketOf hX x h) rfl ⟨_, _, rfl⟩ rfl rfl (by decide) (xs8 (Nat.le_of_ble_eq_true rfl)) (by first | exact Nat.le_of_ble_eq_true rfl | omega) (by first | exact Nat.le_of_ble_eq_true rfl | omega) ?_
  rintro _ _ ⟨rfl, rfl⟩
  refine E_astore_n dX8_may_5 rfl (by decide) rfl ?_
  refine E_aload_n dX8_may_6 rfl rfl ?_
  refine E_ifnonnull (tgt := 14) dX8_may_7 (by decide) (fun q7 h7 => ?_) (fun h7 => ?_)
  · refine E_aload_n dX8_may_14 rfl rfl ?_
    refine E_aload_n dX8_may_15 rfl rfl ?_
    refine E_callV (m2 := mX8_reasonAgainst) dX8_may_16 kX8_100 mzX8_reasonAgainst (c_reasonAgainst t P n ht hp hc) rfl ⟨_, _, rfl⟩ rfl rfl (by decide) (xs8 (Nat.le_of_ble_eq_true rfl)) (by first | exact Nat.le_of_ble_eq_true rfl | omega) (by first | exact Nat.le_of_ble_eq_true rfl | omega) ?_
    rintro _ _ ⟨rfl, rfl⟩
    refine E_iret dX8_may_19 rfl rfl ?_
    exact ⟨rfl, rfl⟩
  · cases h7
theorem xpass_2 {S : xS} {c : Nat} {b x : Int32} : (xpass S c b x).2 = S.2 := by unfold xpass; split <;> rfl
theorem xpc_2 {S : xS} {t : Nat} {x : Int32} : (xpc S t x).2 = S.2 := by
  unfold xpc
  split
  · rfl
  · exact xpass_2
/-- a pool lets a ticket in, out -/
def xli (S : xS) (p t : Nat) : xS := (sI (sI (sI (sI S 3 p 6 ((gI S 3 p 6) + 1)) 3 p 7 ((gI S 3 p 7) + (if (gI S 7 t 2) = 5 then 1 else 0))) 1 p 5 ((gI S 1 p 5) + 1)) 1 p 4 ((gI S 1 p 4) + 1))
def xlo (S : xS) (p t : Nat) : xS := (sI (sI (sI (sI S 3 p 6 ((gI S 3 p 6) - 1)) 3 p 7 ((gI S 3 p 7) - (if (gI S 7 t 2) = 5 then 1 else 0))) 1 p 6 ((gI S 1 p 6) + 1)) 1 p 4 ((gI S 1 p 4) - 1))
def xcw (S : xS) (t : Nat) (x : Int32) : Int32 := match (gR S 7 t 4) with
  | none => (gI S 7 t 3)
  | some q => (gI S 0 q.2 4) - x
/-- a ticket comes in -/
def xtin (S : xS) (t P : Nat) : xS := xli (xpc (xci S t (gI S 8 0 5) (xcw S t (gI S 8 0 5))) t 1) P t
theorem c_in_n {S : xS} (hX : xShX S) (x : Int32) (h : xtl S x = none) : CC mX8_in 6 0 0 [xR (some (8, 0)), xI x] S (aI (-1) S) := by
  refine CC_of mpX8_in rfl (Nat.le_of_ble_eq_true rfl) ?_
  refine E_aload_n dX8_in_0 rfl rfl ?_
  refine E_iload_n dX8_in_1 rfl rfl ?_
  refine E_callV (m2 := mX8_ticketOf) dX8_in_2 kX8_96 mzX8_ticketOf (c_ticketOf hX x h) rfl ⟨_, _, rfl⟩ rfl rfl (by decide) (xs8 (Nat.le_of_ble_eq_true rfl)) (by first | exact Nat.le_of_ble_eq_true rfl | omega) (by first | exact Nat.le_of_ble_eq_true rfl | omega) ?_
  rintro _ _ ⟨rfl, rfl⟩
  refine E_astore_n dX8_in_5 rfl (by decide) rfl ?_
  refine E_aload_n dX8_in_6 rfl rfl ?_
  refine E_ifnonnull (tgt := 12) dX8_in_7 (by decide) (fun q7 h7 => absurd h7 (by intro z; cases z)) (fun h7 => ?_)
  refine E_iconst (v := -1) dX8_in_10 (by decide) ?_
  refine E_iret dX8_in_11 rfl rfl ?_
  exact ⟨rfl, rfl⟩
theorem c_in_s {S : xS} (hX : xShX S) (x : Int32) {t P n : Nat} (h : xtl S x = some (7, t)) (ht : (gR S 7 t 1) = some (3, P)) (hp : xShP S P n) (hc : ∀ q, (gR S 7 t 4) = some q → q.1 = 0) : CC mX8_in 6 0 0 [xR (some (8, 0)), xI x] S (aI (xrg S t P n) (if xrg S t P n = 0 then xtin S t P else S)) := by
  refine CC_of mpX8_in rfl (Nat.le_of_ble_eq_true rfl) ?_
  by_cases h0 : xrg S t P n = 0
  · rw [if_pos h0]
    have e2 : (xpc (xci S t (gI S 8 0 5) (xcw S t (gI S 8 0 5))) t 1).2 = S.2 := xpc_2
    refine E_aload_n dX8_in_0 rfl rfl ?_
    refine E_iload_n dX8_in_1 rfl rfl ?_
    refine E_callV (m2 := mX8_ticketOf) dX8_in_2 kX8_96 mzX8_ticketOf (c_ticketOf hX x h) rfl ⟨_, _, rfl⟩ rfl rfl (by decide) (xs8 (Nat.le_of_ble_eq_true rfl)) (by first | exact Nat.le_of_ble_eq_true rfl | omega) (by first | exact Nat.le_of_ble_eq_true rfl | omega) ?_
    rintro _ _ ⟨rfl, rfl⟩
    refine E_astore_n dX8_in_5 rfl (by decide) rfl ?_
    refine E_aload_n dX8_in_6 rfl rfl ?_
    refine E_ifnonnull (tgt := 12) dX8_in_7 (by decide) (fun q7 h7 => ?_) (fun h7 => ?_)
    · refine E_aload_n dX8_in_12 rfl rfl ?_
      refine E_aload_n dX8_in_13 rfl rfl ?_
      refine E_callV (m2 := mX8_reasonAgainst) dX8_in_14 kX8_100 mzX8_reasonAgainst (c_reasonAgainst t P n ht hp hc) rfl ⟨_, _, rfl⟩ rfl rfl (by decide) (xs8 (Nat.le_of_ble_eq_true rfl)) (by first | exact Nat.le_of_ble_eq_true rfl | omega) (by first | exact Nat.le_of_ble_eq_true rfl | omega) ?_
      rintro _ _ ⟨rfl, rfl⟩
      refine E_istore_n dX8_in_17 rfl (by decide) rfl ?_
      refine E_iload_n dX8_in_18 rfl rfl ?_
      refine E_if_ne (tgt := 38) dX8_in_19 (by decide) (fun h19 => absurd h19 (fun z => z h0)) (fun h19 => ?_)
      refine E_aload_n dX8_in_22 rfl rfl ?_
      refine E_aload_n dX8_in_23 rfl rfl ?_
      refine E_getI dX8_in_24 fX8_45 rfl rfl rfl rfl ?_
      refine E_callV (m2 := mX7_comeIn) dX8_in_27 kX8_104 mzX7_comeIn (c_X7_comeIn t _ hc) rfl ⟨_, _, rfl⟩ rfl rfl (by decide) (xs8 (Nat.le_of_ble_eq_true rfl)) (by first | exact Nat.le_of_ble_eq_true rfl | omega) (by first | exact Nat.le_of_ble_eq_true rfl | omega) ?_
      rintro _ _ ⟨rfl, rfl⟩
      refine E_aload_n dX8_in_30 rfl rfl ?_
      refine E_getR dX8_in_31 fX8_108 rfl rfl rfl (xpc_post.trans ht) ?_
      refine E_aload_n dX8_in_34 rfl rfl ?_
      refine E_callV (m2 := mX3_letIn) dX8_in_35 kX8_112 mzX3_letIn (c_X3_letIn P t n (xShP_2 hp e2)) rfl ⟨_, _, rfl⟩ rfl rfl (by decide) (xs8 (Nat.le_of_ble_eq_true rfl)) (by first | exact Nat.le_of_ble_eq_true rfl | omega) (by first | exact Nat.le_of_ble_eq_true rfl | omega) ?_
      rintro _ _ ⟨rfl, rfl⟩
      refine E_iload_n dX8_in_38 rfl rfl ?_
      refine E_iret dX8_in_39 rfl rfl ?_
      exact ⟨rfl, rfl⟩
    · cases h7
  · rw [if_neg h0]
    refine E_aload_n dX8_in_0 rfl rfl ?_
    refine E_iload_n dX8_in_1 rfl rfl ?_
    refine E_callV (m2 := mX8_ticketOf) dX8_in_2 kX8_96 mzX8_ticketOf (c_ticketOf hX x h) rfl ⟨_, _, rfl⟩ rfl rfl (by decide) (xs8 (Nat.le_of_ble_eq_true rfl)) (by first | exact Nat.le_of_ble_eq_true rfl | omega) (by first | exact Nat.le_of_ble_eq_true rfl | omega) ?_
    rintro _ _ ⟨rfl, rfl⟩
    refine E_astore_n dX8_in_5 rfl (by decide) rfl ?_
    refine E_aload_n dX8_in_6 rfl rfl ?_
    refine E_ifnonnull (tgt := 12) dX8_in_7 (by decide) (fun q7 h7 => ?_) (fun h7 => ?_)
    · refine E_aload_n dX8_in_12 rfl rfl ?_
      refine E_aload_n dX8_in_13 rfl rfl ?_
      refine E_callV (m2 := mX8_reasonAgainst) dX8_in_14 kX8_100 mzX8_reasonAgainst (c_reasonAgainst t P n ht hp hc) rfl ⟨_, _, rfl⟩ rfl rfl (by decide) (xs8 (Nat.le_of_ble_eq_true rfl)) (by first | exact Nat.le_of_ble_eq_true rfl | omega) (by first | exact Nat.le_of_ble_eq_true rfl | omega) ?_
      rintro _ _ ⟨rfl, rfl⟩
      refine E_istore_n dX8_in_17 rfl (by decide) rfl ?_
      refine E_iload_n dX8_in_18 rfl rfl ?_
      refine E_if_ne (tgt := 38) dX8_in_19 (by decide) (fun h19 => ?_) (fun h19 => absurd h19 (h0))
      refine E_iload_n dX8_in_38 rfl rfl ?_
      refine E_iret dX8_in_39 rfl rfl ?_
      exact ⟨rfl, rfl⟩
    · cases h7
theorem xlp_R {S : xS} {t : Nat} {x : Int32} {a b c : Nat} (h4 : a ≠ 4) (h7 : a = 7 → c ≠ 12) : gR (xlp S t x) a b c = gR S a b c := by
  unfold xlp
  split
  · rfl
  · rw [gR_sI, gR_sR, if_neg (fun z => h7 z.1 z.2.1), gR_sR, if_neg (fun z => h4 z.1)]
theorem xlp_L {S : xS} {t : Nat} {x : Int32} {a b : Nat} : gL (xlp S t x) a b = gL S a b := by
  unfold xlp
  split <;> rfl
theorem xShX_g {S S' : xS} (h : xShX S) (hR : ∀ a b c, a ≠ 4 → a ≠ 7 → gR S' a b c = gR S a b c) (hL : ∀ a b, gL S' a b = gL S a b) : xShX S' := by
  unfold xShX at h ⊢
  simp only [hL]
  rw [hR 8 0 0 (by decide) (by decide), hR 8 0 1 (by decide) (by decide), hR 8 0 2 (by decide) (by decide), hR 8 0 3 (by decide) (by decide), hR 8 0 4 (by decide) (by decide), hR 2 0 0 (by decide) (by decide), hR 2 0 1 (by decide) (by decide), hR 5 0 0 (by decide) (by decide), hR 5 0 1 (by decide) (by decide)]
  exact h
theorem xShP_g {S S' : xS} {p n : Nat} (h : xShP S p n) (hR : ∀ a b c, a ≠ 4 → a ≠ 7 → gR S' a b c = gR S a b c) (hL : ∀ a b, gL S' a b = gL S a b) : xShP S' p n := by
  obtain ⟨a1, a2, a3, a4, a5, a6, a7, a8⟩ := h
  exact ⟨a1, (hR _ _ _ (by decide) (by decide)).trans a2, (hR _ _ _ (by decide) (by decide)).trans a3, (hR _ _ _ (by decide) (by decide)).trans a4, (hL _ _).trans a5, (hL _ _).trans a6, fun k hk => (hR _ _ _ (by decide) (by decide)).trans (a7 k hk), fun k hk => (hR _ _ _ (by decide) (by decide)).trans (a8 k hk)⟩
/-- what it owes when it goes out now; a ticket goes out, its key aside -/
def xoc (S : xS) (t : Nat) : Int32 := xow (-(xml S t (gI S 8 0 5)))
def xto1 (S : xS) (t : Nat) : xS := xlp (xpc (xgo (sI S 8 0 9 ((gI S 8 0 9) + xoc S t)) t (xoc S t)) t (-1)) t (gI S 8 0 5)
def xto2 (S : xS) (t P : Nat) : xS := xlo (xto1 S t) P t
/-- its key is lost -/
def xtol (S : xS) (t : Nat) : xS := if 0 ≤ (gI S 7 t 11) ∧ (gI S 7 t 11) < 30 then (sI S 14 0 (gI S 7 t 11).toNatClampNeg 1) else S
def xto (S : xS) (t P : Nat) : xS := (sI (xtol (xto2 S t P) t) 7 t 11 (-1))
theorem xpass_I {S : xS} {c a b j : Nat} {y x : Int32} (h : a ≠ 0) : gI (xpass S c y x) a b j = gI S a b j := by unfold xpass; split <;> (rw [gI_sI, if_neg (fun z => h z.1)])
theorem xpc_I {S : xS} {t a b j : Nat} {x : Int32} (h : a ≠ 0) : gI (xpc S t x) a b j = gI S a b j := by
  unfold xpc
  split
  · rfl
  · exact xpass_I h
theorem xlp_I {S : xS} {t a b j : Nat} {x : Int32} (h : a = 7 → j ≠ 13) : gI (xlp S t x) a b j = gI S a b j := by
  unfold xlp
  split
  · rfl
  · rw [gI_sI, if_neg (fun z => h z.1 z.2.1)]; rfl
theorem xto1_R {S : xS} {t a b c : Nat} (h4 : a ≠ 4) (h7 : a ≠ 7) : gR (xto1 S t) a b c = gR S a b c := (xlp_R h4 (fun z => absurd z h7)).trans (gR_2 xpc_2 a b c)
theorem xto1_L {S : xS} {t a b : Nat} : gL (xto1 S t) a b = gL S a b := xlp_L.trans (gL_2 xpc_2 a b)
theorem c_out_n {S : xS} (hX : xShX S) (x : Int32) (h : xtl S x = none) : CC mX8_out 4 0 0 [xR (some (8, 0)), xI x] S (aI (-1) S) := by
  refine CC_of mpX8_out rfl (Nat.le_of_ble_eq_true rfl) ?_
  refine E_aload_n dX8_out_0 rfl rfl ?_
  refine E_iload_n dX8_out_1 rfl rfl ?_
  refine E_callV (m2 := mX8_ticketOf) dX8_out_2 kX8_96 mzX8_ticketOf (c_ticketOf hX x h) rfl ⟨_, _, rfl⟩ rfl rfl (by decide) (xs8 (Nat.le_of_ble_eq_true rfl)) (by first | exact Nat.le_of_ble_eq_true rfl | omega) (by first | exact Nat.le_of_ble_eq_true rfl | omega) ?_
  rintro _ _ ⟨rfl, rfl⟩
  refine E_astore_n dX8_out_5 rfl (by decide) rfl ?_
  refine E_aload_n dX8_out_6 rfl rfl ?_
  refine E_ifnull (tgt := 17) dX8_out_7 (by decide) (fun h7 => ?_) (fun q7 h7 => absurd h7 (by intro z; cases z))
  refine E_iconst (v := -1) dX8_out_17 (by decide) ?_
  refine E_iret dX8_out_18 rfl rfl ?_
  exact ⟨rfl, rfl⟩
theorem c_out_i {S : xS} (hX : xShX S) (x : Int32) {t : Nat} (h : xtl S x = some (7, t)) (hi : (gI S 7 t 6) = 0) : CC mX8_out 4 0 0 [xR (some (8, 0)), xI x] S (aI (-1) S) := by
  refine CC_of mpX8_out rfl (Nat.le_of_ble_eq_true rfl) ?_
  refine E_aload_n dX8_out_0 rfl rfl ?_
  refine E_iload_n dX8_out_1 rfl rfl ?_
  refine E_callV (m2 := mX8_ticketOf) dX8_out_2 kX8_96 mzX8_ticketOf (c_ticketOf hX x h) rfl ⟨_, _, rfl⟩ rfl rfl (by decide) (xs8 (Nat.le_of_ble_eq_true rfl)) (by first | exact Nat.le_of_ble_eq_true rfl | omega) (by first | exact Nat.le_of_ble_eq_true rfl | omega) ?_
  rintro _ _ ⟨rfl, rfl⟩
  refine E_astore_n dX8_out_5 rfl (by decide) rfl ?_
  refine E_aload_n dX8_out_6 rfl rfl ?_
  refine E_ifnull (tgt := 17) dX8_out_7 (by decide) (fun h7 => ?_) (fun q7 h7 => ?_)
  · cases h7
  · refine E_aload_n dX8_out_10 rfl rfl ?_
    refine E_getI dX8_out_11 fX8_116 rfl rfl rfl rfl ?_
    refine E_if_ne (tgt := 19) dX8_out_14 (by decide) (fun h14 => absurd h14 (fun z => z hi)) (fun h14 => ?_)
    refine E_iconst (v := -1) dX8_out_17 (by decide) ?_
    refine E_iret dX8_out_18 rfl rfl ?_
    exact ⟨rfl, rfl⟩
theorem c_out_d {S : xS} (hX : xShX S) (x : Int32) {t P n : Nat} (h : xtl S x = some (7, t)) (hi : ¬ (gI S 7 t 6) = 0) (ht : (gR S 7 t 1) = some (3, P)) (hp : xShP S P n) (hd : 3 ≤ (gI S 1 P 6)) : CC mX8_out 4 0 0 [xR (some (8, 0)), xI x] S (aI (-2) S) := by
  refine CC_of mpX8_out rfl (Nat.le_of_ble_eq_true rfl) ?_
  refine E_aload_n dX8_out_0 rfl rfl ?_
  refine E_iload_n dX8_out_1 rfl rfl ?_
  refine E_callV (m2 := mX8_ticketOf) dX8_out_2 kX8_96 mzX8_ticketOf (c_ticketOf hX x h) rfl ⟨_, _, rfl⟩ rfl rfl (by decide) (xs8 (Nat.le_of_ble_eq_true rfl)) (by first | exact Nat.le_of_ble_eq_true rfl | omega) (by first | exact Nat.le_of_ble_eq_true rfl | omega) ?_
  rintro _ _ ⟨rfl, rfl⟩
  refine E_astore_n dX8_out_5 rfl (by decide) rfl ?_
  refine E_aload_n dX8_out_6 rfl rfl ?_
  refine E_ifnull (tgt := 17) dX8_out_7 (by decide) (fun h7 => ?_) (fun q7 h7 => ?_)
  · cases h7
  · refine E_aload_n dX8_out_10 rfl rfl ?_
    refine E_getI dX8_out_11 fX8_116 rfl rfl rfl rfl ?_
    refine E_if_ne (tgt := 19) dX8_out_14 (by decide) (fun h14 => ?_) (fun h14 => absurd h14 (hi))
    refine E_aload_n dX8_out_19 rfl rfl ?_
    refine E_getR dX8_out_20 fX8_108 rfl rfl rfl ht ?_
    refine E_getR dX8_out_23 fX8_120 rfl rfl rfl (rP_5 hp) ?_
    refine E_getI dX8_out_26 fX8_124 rfl rfl rfl rfl ?_
    refine E_iconst (v := 3) dX8_out_29 (by decide) ?_
    refine E_icmp_lt (tgt := 36) dX8_out_30 (by decide) (fun h30 => absurd h30 (Int32.not_lt.mpr hd)) (fun h30 => ?_)
    refine E_bipush (v := -2) dX8_out_33 (by decide) ?_
    refine E_iret dX8_out_35 rfl rfl ?_
    exact ⟨rfl, rfl⟩
theorem c_out_s {S : xS} (hX : xShX S) (x : Int32) {t P n : Nat} (h : xtl S x = some (7, t)) (hi : ¬ (gI S 7 t 6) = 0) (ht : (gR S 7 t 1) = some (3, P)) (hp : xShP S P n) (hd : ¬ 3 ≤ (gI S 1 P 6)) (hc : ∀ q, (gR S 7 t 4) = some q → q.1 = 0) (hpo : ∀ q, (gR S 7 t 12) = some q → q.1 = 4) : CC mX8_out 4 0 0 [xR (some (8, 0)), xI x] S (aI (xoc S t) (xto S t P)) := by
  refine CC_of mpX8_out rfl (Nat.le_of_ble_eq_true rfl) ?_
  have hX1 : xShX (xto2 S t P) := xShX_g hX (fun a b c h4 h7 => xto1_R h4 h7) (fun a b => xto1_L)
  have hp1 : xShP (xto1 S t) P n := xShP_g hp (fun a b c h4 h7 => xto1_R h4 h7) (fun a b => xto1_L)
  have ht1 : gR (xto1 S t) 7 t 1 = some (3, P) := (xlp_R (by decide) (fun _ => by decide)).trans ((gR_2 xpc_2 7 t 1).trans ht)
  by_cases hlk : 0 ≤ (gI (xto2 S t P) 7 t 11) ∧ (gI (xto2 S t P) 7 t 11) < 30
  · have hl2 : ∃ j, j < 30 ∧ (gI (xto2 S t P) 7 t 11) = nI j := by
      obtain ⟨j, hj, e⟩ := nI_of (Int32.not_lt.mpr hlk.1)
      refine ⟨j, ?_, e⟩
      rw [e] at hlk
      exact (nI_ltI (b := 30) (by omega) (by omega)).mp hlk.2
    obtain ⟨j, hj, hl2⟩ := hl2
    unfold xto xtol
    rw [if_pos hlk]
    refine E_aload_n dX8_out_0 rfl rfl ?_
    refine E_iload_n dX8_out_1 rfl rfl ?_
    refine E_callV (m2 := mX8_ticketOf) dX8_out_2 kX8_96 mzX8_ticketOf (c_ticketOf hX x h) rfl ⟨_, _, rfl⟩ rfl rfl (by decide) (xs8 (Nat.le_of_ble_eq_true rfl)) (by first | exact Nat.le_of_ble_eq_true rfl | omega) (by first | exact Nat.le_of_ble_eq_true rfl | omega) ?_
    rintro _ _ ⟨rfl, rfl⟩
    refine E_astore_n dX8_out_5 rfl (by decide) rfl ?_
    refine E_aload_n dX8_out_6 rfl rfl ?_
    refine E_ifnull (tgt := 17) dX8_out_7 (by decide) (fun h7 => ?_) (fun q7 h7 => ?_)
    · cases h7
    · refine E_aload_n dX8_out_10 rfl rfl ?_
      refine E_getI dX8_out_11 fX8_116 rfl rfl rfl rfl ?_
      refine E_if_ne (tgt := 19) dX8_out_14 (by decide) (fun h14 => ?_) (fun h14 => absurd h14 (hi))
      refine E_aload_n dX8_out_19 rfl rfl ?_
      refine E_getR dX8_out_20 fX8_108 rfl rfl rfl ht ?_
      refine E_getR dX8_out_23 fX8_120 rfl rfl rfl (rP_5 hp) ?_
      refine E_getI dX8_out_26 fX8_124 rfl rfl rfl rfl ?_
      refine E_iconst (v := 3) dX8_out_29 (by decide) ?_
      refine E_icmp_lt (tgt := 36) dX8_out_30 (by decide) (fun h30 => ?_) (fun h30 => absurd h30 (fun z => z (Int32.not_le.mp hd)))
      refine E_aload_n dX8_out_36 rfl rfl ?_
      refine E_aload_n dX8_out_37 rfl rfl ?_
      refine E_getI dX8_out_38 fX8_45 rfl rfl rfl rfl ?_
      refine E_callV (m2 := mX7_owes) dX8_out_41 kX8_129 mzX7_owes (c_X7_owes t _) rfl ⟨_, _, rfl⟩ rfl rfl (by decide) (xs8 (Nat.le_of_ble_eq_true rfl)) (by first | exact Nat.le_of_ble_eq_true rfl | omega) (by first | exact Nat.le_of_ble_eq_true rfl | omega) ?_
      rintro _ _ ⟨rfl, rfl⟩
      refine E_istore_n dX8_out_44 rfl (by decide) rfl ?_
      refine E_aload_n dX8_out_45 rfl rfl ?_
      refine E_dup dX8_out_46 rfl ?_
      refine E_getI dX8_out_47 fX8_133 rfl rfl rfl rfl ?_
      refine E_iload_n dX8_out_50 rfl rfl ?_
      refine E_iadd dX8_out_51 ?_
      refine E_putI dX8_out_52 fX8_133 rfl rfl rfl rfl rfl ?_
      refine E_aload_n dX8_out_55 rfl rfl ?_
      refine E_aload_n dX8_out_56 rfl rfl ?_
      refine E_getI dX8_out_57 fX8_45 rfl rfl rfl rfl ?_
      refine E_iload_n dX8_out_60 rfl rfl ?_
      refine E_callV (m2 := mX7_goOut) dX8_out_61 kX8_136 mzX7_goOut (c_X7_goOut t _ _ hc hpo) rfl ⟨_, _, rfl⟩ rfl rfl (by decide) (xs8 (Nat.le_of_ble_eq_true rfl)) (by first | exact Nat.le_of_ble_eq_true rfl | omega) (by first | exact Nat.le_of_ble_eq_true rfl | omega) ?_
      rintro _ _ ⟨rfl, rfl⟩
      refine E_aload_n dX8_out_64 rfl rfl ?_
      refine E_getR dX8_out_65 fX8_108 rfl rfl rfl ht1 ?_
      refine E_aload_n dX8_out_68 rfl rfl ?_
      refine E_callV (m2 := mX3_letOut) dX8_out_69 kX8_140 mzX3_letOut (c_X3_letOut P t n hp1) rfl ⟨_, _, rfl⟩ rfl rfl (by decide) (xs8 (Nat.le_of_ble_eq_true rfl)) (by first | exact Nat.le_of_ble_eq_true rfl | omega) (by first | exact Nat.le_of_ble_eq_true rfl | omega) ?_
      rintro _ _ ⟨rfl, rfl⟩
      refine E_aload_n dX8_out_72 rfl rfl ?_
      refine E_getR dX8_out_73 fX8_30 rfl rfl rfl (rX_8_3 hX1) ?_
      refine E_aload_n dX8_out_76 rfl rfl ?_
      refine E_getI dX8_out_77 fX8_143 rfl rfl rfl hl2 ?_
      refine E_callV (m2 := mX2_lose) dX8_out_80 kX8_146 mzX2_lose (c_X2_lose_y hX1 j hj) rfl ⟨_, _, rfl⟩ rfl rfl (by decide) (xs8 (Nat.le_of_ble_eq_true rfl)) (by first | exact Nat.le_of_ble_eq_true rfl | omega) (by first | exact Nat.le_of_ble_eq_true rfl | omega) ?_
      rintro _ _ ⟨rfl, rfl⟩
      refine E_aload_n dX8_out_83 rfl rfl ?_
      refine E_iconst (v := -1) dX8_out_84 (by decide) ?_
      refine E_putI dX8_out_85 fX8_143 rfl rfl rfl rfl rfl ?_
      refine E_iload_n dX8_out_88 rfl rfl ?_
      refine E_iret dX8_out_89 rfl rfl ?_
      exact ⟨rfl, by rw [hl2, vnat hj (by decide)]⟩
  · unfold xto xtol
    rw [if_neg hlk]
    refine E_aload_n dX8_out_0 rfl rfl ?_
    refine E_iload_n dX8_out_1 rfl rfl ?_
    refine E_callV (m2 := mX8_ticketOf) dX8_out_2 kX8_96 mzX8_ticketOf (c_ticketOf hX x h) rfl ⟨_, _, rfl⟩ rfl rfl (by decide) (xs8 (Nat.le_of_ble_eq_true rfl)) (by first | exact Nat.le_of_ble_eq_true rfl | omega) (by first | exact Nat.le_of_ble_eq_true rfl | omega) ?_
    rintro _ _ ⟨rfl, rfl⟩
    refine E_astore_n dX8_out_5 rfl (by decide) rfl ?_
    refine E_aload_n dX8_out_6 rfl rfl ?_
    refine E_ifnull (tgt := 17) dX8_out_7 (by decide) (fun h7 => ?_) (fun q7 h7 => ?_)
    · cases h7
    · refine E_aload_n dX8_out_10 rfl rfl ?_
      refine E_getI dX8_out_11 fX8_116 rfl rfl rfl rfl ?_
      refine E_if_ne (tgt := 19) dX8_out_14 (by decide) (fun h14 => ?_) (fun h14 => absurd h14 (hi))
      refine E_aload_n dX8_out_19 rfl rfl ?_
      refine E_getR dX8_out_20 fX8_108 rfl rfl rfl ht ?_
      refine E_getR dX8_out_23 fX8_120 rfl rfl rfl (rP_5 hp) ?_
      refine E_getI dX8_out_26 fX8_124 rfl rfl rfl rfl ?_
      refine E_iconst (v := 3) dX8_out_29 (by decide) ?_
      refine E_icmp_lt (tgt := 36) dX8_out_30 (by decide) (fun h30 => ?_) (fun h30 => absurd h30 (fun z => z (Int32.not_le.mp hd)))
      refine E_aload_n dX8_out_36 rfl rfl ?_
      refine E_aload_n dX8_out_37 rfl rfl ?_
      refine E_getI dX8_out_38 fX8_45 rfl rfl rfl rfl ?_
      refine E_callV (m2 := mX7_owes) dX8_out_41 kX8_129 mzX7_owes (c_X7_owes t _) rfl ⟨_, _, rfl⟩ rfl rfl (by decide) (xs8 (Nat.le_of_ble_eq_true rfl)) (by first | exact Nat.le_of_ble_eq_true rfl | omega) (by first | exact Nat.le_of_ble_eq_true rfl | omega) ?_
      rintro _ _ ⟨rfl, rfl⟩
      refine E_istore_n dX8_out_44 rfl (by decide) rfl ?_
      refine E_aload_n dX8_out_45 rfl rfl ?_
      refine E_dup dX8_out_46 rfl ?_
      refine E_getI dX8_out_47 fX8_133 rfl rfl rfl rfl ?_
      refine E_iload_n dX8_out_50 rfl rfl ?_
      refine E_iadd dX8_out_51 ?_
      refine E_putI dX8_out_52 fX8_133 rfl rfl rfl rfl rfl ?_
      refine E_aload_n dX8_out_55 rfl rfl ?_
      refine E_aload_n dX8_out_56 rfl rfl ?_
      refine E_getI dX8_out_57 fX8_45 rfl rfl rfl rfl ?_
      refine E_iload_n dX8_out_60 rfl rfl ?_
      refine E_callV (m2 := mX7_goOut) dX8_out_61 kX8_136 mzX7_goOut (c_X7_goOut t _ _ hc hpo) rfl ⟨_, _, rfl⟩ rfl rfl (by decide) (xs8 (Nat.le_of_ble_eq_true rfl)) (by first | exact Nat.le_of_ble_eq_true rfl | omega) (by first | exact Nat.le_of_ble_eq_true rfl | omega) ?_
      rintro _ _ ⟨rfl, rfl⟩
      refine E_aload_n dX8_out_64 rfl rfl ?_
      refine E_getR dX8_out_65 fX8_108 rfl rfl rfl ht1 ?_
      refine E_aload_n dX8_out_68 rfl rfl ?_
      refine E_callV (m2 := mX3_letOut) dX8_out_69 kX8_140 mzX3_letOut (c_X3_letOut P t n hp1) rfl ⟨_, _, rfl⟩ rfl rfl (by decide) (xs8 (Nat.le_of_ble_eq_true rfl)) (by first | exact Nat.le_of_ble_eq_true rfl | omega) (by first | exact Nat.le_of_ble_eq_true rfl | omega) ?_
      rintro _ _ ⟨rfl, rfl⟩
      refine E_aload_n dX8_out_72 rfl rfl ?_
      refine E_getR dX8_out_73 fX8_30 rfl rfl rfl (rX_8_3 hX1) ?_
      refine E_aload_n dX8_out_76 rfl rfl ?_
      refine E_getI dX8_out_77 fX8_143 rfl rfl rfl rfl ?_
      refine E_callV (m2 := mX2_lose) dX8_out_80 kX8_146 mzX2_lose (c_X2_lose_n _ hlk) rfl ⟨_, _, rfl⟩ rfl rfl (by decide) (xs8 (Nat.le_of_ble_eq_true rfl)) (by first | exact Nat.le_of_ble_eq_true rfl | omega) (by first | exact Nat.le_of_ble_eq_true rfl | omega) ?_
      rintro _ _ ⟨rfl, rfl⟩
      refine E_aload_n dX8_out_83 rfl rfl ?_
      refine E_iconst (v := -1) dX8_out_84 (by decide) ?_
      refine E_putI dX8_out_85 fX8_143 rfl rfl rfl rfl rfl ?_
      refine E_iload_n dX8_out_88 rfl rfl ?_
      refine E_iret dX8_out_89 rfl rfl ?_
      exact ⟨rfl, rfl⟩
