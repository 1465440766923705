/-! Club, Door, Post, Thing, Ticket: the small methods -/
theorem c_X0_isSchool {S : xS} (c : Nat) : CC mX0_isSchool 1 0 0 [xR (some (0, c))] S (aI (if 0 < (gI S 0 c 3) then 1 else 0) S) := by
  refine CC_of mpX0_isSchool rfl (Nat.le_of_ble_eq_true rfl) ?_
  refine E_aload_n dX0_isSchool_0 rfl rfl ?_
  refine E_getI dX0_isSchool_1 fX0_23 rfl rfl rfl rfl ?_
  refine E_if_le (tgt := 11) dX0_isSchool_4 (by decide) (fun h4 => ?_) (fun h4 => ?_)
  · refine E_iconst (v := 0) dX0_isSchool_11 (by decide) ?_
    refine E_iret dX0_isSchool_12 rfl rfl ?_
    refine ⟨congrArg (fun z => some (xI z)) ?_, rfl⟩; (try split) <;> first | rfl | (exfalso; simp only [fa_lt, fa_le, fa_eq] at *; omega)
  · refine E_iconst (v := 1) dX0_isSchool_7 (by decide) ?_
    refine E_goto (tgt := 12) dX0_isSchool_8 (by decide) ?_
    refine E_iret dX0_isSchool_12 rfl rfl ?_
    refine ⟨congrArg (fun z => some (xI z)) ?_, rfl⟩; (try split) <;> first | rfl | (exfalso; simp only [fa_lt, fa_le, fa_eq] at *; omega)
theorem c_X0_isThere {S : xS} (c : Nat) (x : Int32) : CC mX0_isThere 1 0 0 [xR (some (0, c)), xI x] S (aI (if (gI S 0 c 2) ≤ x ∧ x < (gI S 0 c 4) then 1 else 0) S) := by
  refine CC_of mpX0_isThere rfl (Nat.le_of_ble_eq_true rfl) ?_
  refine E_iload_n dX0_isThere_0 rfl rfl ?_
  refine E_aload_n dX0_isThere_1 rfl rfl ?_
  refine E_getI dX0_isThere_2 fX0_17 rfl rfl rfl rfl ?_
  refine E_icmp_lt (tgt := 20) dX0_isThere_5 (by decide) (fun h5 => ?_) (fun h5 => ?_)
  · refine E_iconst (v := 0) dX0_isThere_20 (by decide) ?_
    refine E_iret dX0_isThere_21 rfl rfl ?_
    refine ⟨congrArg (fun z => some (xI z)) ?_, rfl⟩; (try split) <;> first | rfl | (exfalso; simp only [fa_lt, fa_le, fa_eq] at *; omega)
  · refine E_iload_n dX0_isThere_8 rfl rfl ?_
    refine E_aload_n dX0_isThere_9 rfl rfl ?_
    refine E_getI dX0_isThere_10 fX0_20 rfl rfl rfl rfl ?_
    refine E_icmp_ge (tgt := 20) dX0_isThere_13 (by decide) (fun h13 => ?_) (fun h13 => ?_)
    · refine E_iconst (v := 0) dX0_isThere_20 (by decide) ?_
      refine E_iret dX0_isThere_21 rfl rfl ?_
      refine ⟨congrArg (fun z => some (xI z)) ?_, rfl⟩; (try split) <;> first | rfl | (exfalso; simp only [fa_lt, fa_le, fa_eq] at *; omega)
    · refine E_iconst (v := 1) dX0_isThere_16 (by decide) ?_
      refine E_goto (tgt := 21) dX0_isThere_17 (by decide) ?_
      refine E_iret dX0_isThere_21 rfl rfl ?_
      refine ⟨congrArg (fun z => some (xI z)) ?_, rfl⟩; (try split) <;> first | rfl | (exfalso; simp only [fa_lt, fa_le, fa_eq] at *; omega)
theorem c_X0_pass {S : xS} (c : Nat) (b x : Int32) : CC mX0_pass 1 0 0 [xR (some (0, c)), xI b, xI x] S (aV (if b = 0 then (sI S 0 c 5 ((gI S 0 c 5) + x)) else (sI S 0 c 6 ((gI S 0 c 6) + x)))) := by
  refine CC_of mpX0_pass rfl (Nat.le_of_ble_eq_true rfl) ?_
  refine E_iload_n dX0_pass_0 rfl rfl ?_
  refine E_if_eq (tgt := 17) dX0_pass_1 (by decide) (fun h1 => ?_) (fun h1 => ?_)
  · refine E_aload_n dX0_pass_17 rfl rfl ?_
    refine E_dup dX0_pass_18 rfl ?_
    refine E_getI dX0_pass_19 fX0_38 rfl rfl rfl rfl ?_
    refine E_iload_n dX0_pass_22 rfl rfl ?_
    refine E_iadd dX0_pass_23 ?_
    refine E_putI dX0_pass_24 fX0_38 rfl rfl rfl rfl rfl ?_
    refine E_vret dX0_pass_27 rfl ?_
    refine ⟨rfl, ?_⟩; split <;> first | rfl | contradiction
  · refine E_aload_n dX0_pass_4 rfl rfl ?_
    refine E_dup dX0_pass_5 rfl ?_
    refine E_getI dX0_pass_6 fX0_35 rfl rfl rfl rfl ?_
    refine E_iload_n dX0_pass_9 rfl rfl ?_
    refine E_iadd dX0_pass_10 ?_
    refine E_putI dX0_pass_11 fX0_35 rfl rfl rfl rfl rfl ?_
    refine E_goto (tgt := 27) dX0_pass_14 (by decide) ?_
    refine E_vret dX0_pass_27 rfl ?_
    refine ⟨rfl, ?_⟩; split <;> first | rfl | contradiction
theorem c_X0_init {S : xS} (c q : Nat) (x1 x2 x3 x4 : Int32) (k0 : Nat) (hk : xCls k0 = true) (hk2 : xk k0 = 0) : CC mX0_init 2 0 0 [xR (some (k0, c)), xR (some (3, q)), xI x1, xI x2, xI x3, xI x4] S (aV (sI (sI (sI (sI (sR S k0 c 0 (some (3, q))) k0 c 1 x1) k0 c 2 x2) k0 c 4 x3) k0 c 3 x4)) := by
  refine CC_of mpX0_init rfl (Nat.le_of_ble_eq_true rfl) ?_
  refine E_aload_n dX0_init_0 rfl rfl ?_
  refine E_obj dX0_init_1 kX0_1 (by decide) (xs8 (Nat.le_of_ble_eq_true rfl)) ?_
  refine E_aload_n dX0_init_4 rfl rfl ?_
  refine E_aload_n dX0_init_5 rfl rfl ?_
  refine E_putFR dX0_init_6 fX0_7 rfl hk hk2 rfl (fun r h => by cases h; rfl) (Or.inl ⟨_, rfl⟩) (by intro q h; cases h; simp) ?_
  refine E_aload_n dX0_init_9 rfl rfl ?_
  refine E_iload_n dX0_init_10 rfl rfl ?_
  refine E_putFI dX0_init_11 fX0_13 rfl hk hk2 rfl (fun r h => by cases h; rfl) rfl rfl ?_
  refine E_aload_n dX0_init_14 rfl rfl ?_
  refine E_iload_n dX0_init_15 rfl rfl ?_
  refine E_putFI dX0_init_16 fX0_17 rfl hk hk2 rfl (fun r h => by cases h; rfl) rfl rfl ?_
  refine E_aload_n dX0_init_19 rfl rfl ?_
  refine E_iload dX0_init_20 rfl ?_
  refine E_putI dX0_init_22 fX0_20 hk hk2 rfl rfl rfl ?_
  refine E_aload_n dX0_init_25 rfl rfl ?_
  refine E_iload dX0_init_26 rfl ?_
  refine E_putFI dX0_init_28 fX0_23 rfl hk hk2 rfl (fun r h => by cases h; rfl) rfl rfl ?_
  refine E_vret dX0_init_31 rfl ?_
  exact ⟨rfl, rfl⟩
theorem c_X1_init {S : xS} (p : Nat) : CC mX1_init 2 0 0 [xR (some (1, p))] S (aV (sI S 1 p 0 1)) := by
  refine CC_of mpX1_init rfl (Nat.le_of_ble_eq_true rfl) ?_
  refine E_aload_n dX1_init_0 rfl rfl ?_
  refine E_obj dX1_init_1 kX1_3 (by decide) (xs8 (Nat.le_of_ble_eq_true rfl)) ?_
  refine E_aload_n dX1_init_4 rfl rfl ?_
  refine E_iconst (v := 1) dX1_init_5 (by decide) ?_
  refine E_putI dX1_init_6 fX1_9 rfl rfl rfl rfl rfl ?_
  refine E_vret dX1_init_9 rfl ?_
  exact ⟨rfl, rfl⟩
theorem c_X1_turnEye {S : xS} (p : Nat) (b : Int32) (hb : xB b) : CC mX1_turnEye 1 0 0 [xR (some (1, p)), xI b] S (aV (sI (sI S 1 p 0 b) 1 p 1 1)) := by
  refine CC_of mpX1_turnEye rfl (Nat.le_of_ble_eq_true rfl) ?_
  refine E_aload_n dX1_turnEye_0 rfl rfl ?_
  refine E_iload_n dX1_turnEye_1 rfl rfl ?_
  refine E_putI dX1_turnEye_2 fX1_9 rfl rfl rfl hb.n hb.f ?_
  refine E_aload_n dX1_turnEye_5 rfl rfl ?_
  refine E_iconst (v := 1) dX1_turnEye_6 (by decide) ?_
  refine E_putI dX1_turnEye_7 fX1_15 rfl rfl rfl rfl rfl ?_
  refine E_vret dX1_turnEye_10 rfl ?_
  exact ⟨rfl, rfl⟩
theorem c_X1_leastNow {S : xS} (p : Nat) : CC mX1_leastNow 1 0 0 [xR (some (1, p))] S (aI (xln S p) S) := by
  unfold xln
  refine CC_of mpX1_leastNow rfl (Nat.le_of_ble_eq_true rfl) ?_
  by_cases hw : (gI S 1 p 1) = 0
  · rw [if_pos hw]
    refine E_iconst (v := 0) dX1_leastNow_0 (by decide) ?_
    refine E_aload_n dX1_leastNow_1 rfl rfl ?_
    refine E_getI dX1_leastNow_2 fX1_15 rfl rfl rfl rfl ?_
    refine E_if_eq (tgt := 17) dX1_leastNow_5 (by decide) (fun h5 => ?_) (fun h5 => absurd h5 (fun z => z hw))
    refine E_aload_n dX1_leastNow_17 rfl rfl ?_
    refine E_getI dX1_leastNow_18 fX1_18 rfl rfl rfl rfl ?_
    refine E_aload_n dX1_leastNow_21 rfl rfl ?_
    refine E_getI dX1_leastNow_22 fX1_22 rfl rfl rfl rfl ?_
    refine E_iadd dX1_leastNow_25 ?_
    refine E_max dX1_leastNow_26 kX1_25 (by decide) (xs8 (Nat.le_of_ble_eq_true rfl)) ?_
    refine E_iret dX1_leastNow_29 rfl rfl ?_
    exact ⟨rfl, rfl⟩
  · rw [if_neg hw]
    refine E_iconst (v := 0) dX1_leastNow_0 (by decide) ?_
    refine E_aload_n dX1_leastNow_1 rfl rfl ?_
    refine E_getI dX1_leastNow_2 fX1_15 rfl rfl rfl rfl ?_
    refine E_if_eq (tgt := 17) dX1_leastNow_5 (by decide) (fun h5 => absurd h5 (fun z => hw z)) (fun h5 => ?_)
    refine E_aload_n dX1_leastNow_8 rfl rfl ?_
    refine E_getI dX1_leastNow_9 fX1_18 rfl rfl rfl rfl ?_
    refine E_iconst (v := 3) dX1_leastNow_12 (by decide) ?_
    refine E_isub dX1_leastNow_13 ?_
    refine E_goto (tgt := 26) dX1_leastNow_14 (by decide) ?_
    refine E_max dX1_leastNow_26 kX1_25 (by decide) (xs8 (Nat.le_of_ble_eq_true rfl)) ?_
    refine E_iret dX1_leastNow_29 rfl rfl ?_
    exact ⟨rfl, rfl⟩
theorem c_X1_mostNow {S : xS} (p : Nat) : CC mX1_mostNow 1 0 0 [xR (some (1, p))] S (aI (xmn S p) S) := by
  unfold xmn
  refine CC_of mpX1_mostNow rfl (Nat.le_of_ble_eq_true rfl) ?_
  refine E_aload_n dX1_mostNow_0 rfl rfl ?_
  refine E_getI dX1_mostNow_1 fX1_15 rfl rfl rfl rfl ?_
  refine E_if_eq (tgt := 16) dX1_mostNow_4 (by decide) (fun h4 => ?_) (fun h4 => ?_)
  · refine E_aload_n dX1_mostNow_16 rfl rfl ?_
    refine E_getI dX1_mostNow_17 fX1_31 rfl rfl rfl rfl ?_
    refine E_aload_n dX1_mostNow_20 rfl rfl ?_
    refine E_getI dX1_mostNow_21 fX1_22 rfl rfl rfl rfl ?_
    refine E_iadd dX1_mostNow_24 ?_
    refine E_iret dX1_mostNow_25 rfl rfl ?_
    refine ⟨congrArg (fun z => some (xI z)) ?_, rfl⟩; split <;> first | rfl | contradiction
  · refine E_aload_n dX1_mostNow_7 rfl rfl ?_
    refine E_getI dX1_mostNow_8 fX1_31 rfl rfl rfl rfl ?_
    refine E_iconst (v := 3) dX1_mostNow_11 (by decide) ?_
    refine E_iadd dX1_mostNow_12 ?_
    refine E_goto (tgt := 25) dX1_mostNow_13 (by decide) ?_
    refine E_iret dX1_mostNow_25 rfl rfl ?_
    refine ⟨congrArg (fun z => some (xI z)) ?_, rfl⟩; split <;> first | rfl | contradiction
theorem c_X1_startFrom {S : xS} (p : Nat) (a b : Int32) : CC mX1_startFrom 1 0 0 [xR (some (1, p)), xI a, xI b] S (aV (xsf S p a b)) := by
  unfold xsf
  refine CC_of mpX1_startFrom rfl (Nat.le_of_ble_eq_true rfl) ?_
  refine E_aload_n dX1_startFrom_0 rfl rfl ?_
  refine E_iload_n dX1_startFrom_1 rfl rfl ?_
  refine E_putI dX1_startFrom_2 fX1_18 rfl rfl rfl rfl rfl ?_
  refine E_aload_n dX1_startFrom_5 rfl rfl ?_
  refine E_iload_n dX1_startFrom_6 rfl rfl ?_
  refine E_putI dX1_startFrom_7 fX1_31 rfl rfl rfl rfl rfl ?_
  refine E_aload_n dX1_startFrom_10 rfl rfl ?_
  refine E_iconst (v := 0) dX1_startFrom_11 (by decide) ?_
  refine E_putI dX1_startFrom_12 fX1_22 rfl rfl rfl rfl rfl ?_
  refine E_aload_n dX1_startFrom_15 rfl rfl ?_
  refine E_aload_n dX1_startFrom_16 rfl rfl ?_
  refine E_getI dX1_startFrom_17 fX1_9 rfl rfl rfl (Eq.refl (gI S 1 p 0)) ?_
  refine E_if_ne (tgt := 27) dX1_startFrom_20 (by decide) (fun h20 => ?_) (fun h20 => ?_)
  · refine E_iconst (v := 0) dX1_startFrom_27 (by decide) ?_
    refine E_putI dX1_startFrom_28 fX1_15 rfl rfl rfl rfl rfl ?_
    refine E_vret dX1_startFrom_31 rfl ?_
    refine ⟨rfl, ?_⟩; first | rw [if_pos (by assumption)] | rw [if_neg (by assumption)]
  · refine E_iconst (v := 1) dX1_startFrom_23 (by decide) ?_
    refine E_goto (tgt := 28) dX1_startFrom_24 (by decide) ?_
    refine E_putI dX1_startFrom_28 fX1_15 rfl rfl rfl rfl rfl ?_
    refine E_vret dX1_startFrom_31 rfl ?_
    refine ⟨rfl, ?_⟩; first | rw [if_pos (by assumption)] | rw [if_neg (by assumption)]
theorem c_X4_init {S : xS} (i : Nat) : CC mX4_init 2 0 0 [xR (some (4, i))] S (aV S) := by
  refine CC_of mpX4_init rfl (Nat.le_of_ble_eq_true rfl) ?_
  refine E_aload_n dX4_init_0 rfl rfl ?_
  refine E_obj dX4_init_1 kX4_3 (by decide) (xs8 (Nat.le_of_ble_eq_true rfl)) ?_
  refine E_vret dX4_init_4 rfl ?_
  exact ⟨rfl, rfl⟩
theorem c_X4_isFilled {S : xS} (i : Nat) (x : Int32) : CC mX4_isFilled 1 0 0 [xR (some (4, i)), xI x] S (aI (xfil S i x) S) := by
  unfold xfil
  refine CC_of mpX4_isFilled rfl (Nat.le_of_ble_eq_true rfl) ?_
  refine E_aload_n dX4_isFilled_0 rfl rfl ?_
  refine E_getR dX4_isFilled_1 fX4_9 rfl rfl rfl rfl ?_
  refine E_ifnull (tgt := 22) dX4_isFilled_4 (by decide) (fun h4 => ?_) (fun q4 h4 => ?_)
  · refine E_iconst (v := 0) dX4_isFilled_22 (by decide) ?_
    refine E_iret dX4_isFilled_23 rfl rfl ?_
    refine ⟨congrArg (fun z => some (xI z)) ?_, rfl⟩; simp_all [fa_le, fa_lt]
  · refine E_iload_n dX4_isFilled_7 rfl rfl ?_
    refine E_aload_n dX4_isFilled_8 rfl rfl ?_
    refine E_getI dX4_isFilled_9 fX4_15 rfl rfl rfl rfl ?_
    refine E_isub dX4_isFilled_12 ?_
    refine E_bipush (v := 60) dX4_isFilled_13 (by decide) ?_
    refine E_icmp_ge (tgt := 22) dX4_isFilled_15 (by decide) (fun h15 => ?_) (fun h15 => ?_)
    · refine E_iconst (v := 0) dX4_isFilled_22 (by decide) ?_
      refine E_iret dX4_isFilled_23 rfl rfl ?_
      refine ⟨congrArg (fun z => some (xI z)) ?_, rfl⟩; simp_all [fa_le, fa_lt]
    · refine E_iconst (v := 1) dX4_isFilled_18 (by decide) ?_
      refine E_goto (tgt := 23) dX4_isFilled_19 (by decide) ?_
      refine E_iret dX4_isFilled_23 rfl rfl ?_
      refine ⟨congrArg (fun z => some (xI z)) ?_, rfl⟩; simp_all [fa_le, fa_lt]
theorem c_X6_init {S : xS} (i : Nat) : CC mX6_init 2 0 0 [xR (some (6, i))] S (aV (sI (sI S 6 i 0 0) 6 i 1 100)) := by
  refine CC_of mpX6_init rfl (Nat.le_of_ble_eq_true rfl) ?_
  refine E_aload_n dX6_init_0 rfl rfl ?_
  refine E_obj dX6_init_1 kX6_3 (by decide) (xs8 (Nat.le_of_ble_eq_true rfl)) ?_
  refine E_aload_n dX6_init_4 rfl rfl ?_
  refine E_iconst (v := 0) dX6_init_5 (by decide) ?_
  refine E_putI dX6_init_6 fX6_9 rfl rfl rfl rfl rfl ?_
  refine E_aload_n dX6_init_9 rfl rfl ?_
  refine E_bipush (v := 100) dX6_init_10 (by decide) ?_
  refine E_putI dX6_init_12 fX6_15 rfl rfl rfl rfl rfl ?_
  refine E_vret dX6_init_15 rfl ?_
  exact ⟨rfl, rfl⟩
theorem c_X6_takeMeasure {S : xS} (i : Nat) (x y : Int32) : CC mX6_takeMeasure 1 0 0 [xR (some (6, i)), xI x, xI y] S (aV (sI (sI (sI S 6 i 2 x) 6 i 3 y) 6 i 4 1)) := by
  refine CC_of mpX6_takeMeasure rfl (Nat.le_of_ble_eq_true rfl) ?_
  refine E_aload_n dX6_takeMeasure_0 rfl rfl ?_
  refine E_iload_n dX6_takeMeasure_1 rfl rfl ?_
  refine E_putI dX6_takeMeasure_2 fX6_18 rfl rfl rfl rfl rfl ?_
  refine E_aload_n dX6_takeMeasure_5 rfl rfl ?_
  refine E_iload_n dX6_takeMeasure_6 rfl rfl ?_
  refine E_putI dX6_takeMeasure_7 fX6_21 rfl rfl rfl rfl rfl ?_
  refine E_aload_n dX6_takeMeasure_10 rfl rfl ?_
  refine E_iconst (v := 1) dX6_takeMeasure_11 (by decide) ?_
  refine E_putI dX6_takeMeasure_12 fX6_24 rfl rfl rfl rfl rfl ?_
  refine E_vret dX6_takeMeasure_15 rfl ?_
  exact ⟨rfl, rfl⟩
theorem c_X6_isRight {S : xS} (i : Nat) : CC mX6_isRight 1 0 0 [xR (some (6, i))] S (aI (if (gI S 6 i 4) = 0 ∨ ((gI S 6 i 0) ≤ (gI S 6 i 2) ∧ (gI S 6 i 2) ≤ (gI S 6 i 1)) then 1 else 0) S) := by
  refine CC_of mpX6_isRight rfl (Nat.le_of_ble_eq_true rfl) ?_
  refine E_aload_n dX6_isRight_0 rfl rfl ?_
  refine E_getI dX6_isRight_1 fX6_24 rfl rfl rfl rfl ?_
  refine E_if_eq (tgt := 29) dX6_isRight_4 (by decide) (fun h4 => ?_) (fun h4 => ?_)
  · refine E_iconst (v := 1) dX6_isRight_29 (by decide) ?_
    refine E_goto (tgt := 34) dX6_isRight_30 (by decide) ?_
    refine E_iret dX6_isRight_34 rfl rfl ?_
    refine ⟨congrArg (fun z => some (xI z)) ?_, rfl⟩; (try split) <;> first | rfl | (exfalso; simp only [fa_lt, fa_le, fa_eq] at *; omega)
  · refine E_aload_n dX6_isRight_7 rfl rfl ?_
    refine E_getI dX6_isRight_8 fX6_18 rfl rfl rfl rfl ?_
    refine E_aload_n dX6_isRight_11 rfl rfl ?_
    refine E_getI dX6_isRight_12 fX6_9 rfl rfl rfl rfl ?_
    refine E_icmp_lt (tgt := 33) dX6_isRight_15 (by decide) (fun h15 => ?_) (fun h15 => ?_)
    · refine E_iconst (v := 0) dX6_isRight_33 (by decide) ?_
      refine E_iret dX6_isRight_34 rfl rfl ?_
      refine ⟨congrArg (fun z => some (xI z)) ?_, rfl⟩; (try split) <;> first | rfl | (exfalso; simp only [fa_lt, fa_le, fa_eq] at *; omega)
    · refine E_aload_n dX6_isRight_18 rfl rfl ?_
      refine E_getI dX6_isRight_19 fX6_18 rfl rfl rfl rfl ?_
      refine E_aload_n dX6_isRight_22 rfl rfl ?_
      refine E_getI dX6_isRight_23 fX6_15 rfl rfl rfl rfl ?_
      refine E_icmp_gt (tgt := 33) dX6_isRight_26 (by decide) (fun h26 => ?_) (fun h26 => ?_)
      · refine E_iconst (v := 0) dX6_isRight_33 (by decide) ?_
        refine E_iret dX6_isRight_34 rfl rfl ?_
        refine ⟨congrArg (fun z => some (xI z)) ?_, rfl⟩; (try split) <;> first | rfl | (exfalso; simp only [fa_lt, fa_le, fa_eq] at *; omega)
      · refine E_iconst (v := 1) dX6_isRight_29 (by decide) ?_
        refine E_goto (tgt := 34) dX6_isRight_30 (by decide) ?_
        refine E_iret dX6_isRight_34 rfl rfl ?_
        refine ⟨congrArg (fun z => some (xI z)) ?_, rfl⟩; (try split) <;> first | rfl | (exfalso; simp only [fa_lt, fa_le, fa_eq] at *; omega)
theorem c_X6_isStale {S : xS} (i : Nat) (x : Int32) : CC mX6_isStale 1 0 0 [xR (some (6, i)), xI x] S (aI (if 120 ≤ x - (gI S 6 i 3) then 1 else 0) S) := by
  refine CC_of mpX6_isStale rfl (Nat.le_of_ble_eq_true rfl) ?_
  refine E_iload_n dX6_isStale_0 rfl rfl ?_
  refine E_aload_n dX6_isStale_1 rfl rfl ?_
  refine E_getI dX6_isStale_2 fX6_21 rfl rfl rfl rfl ?_
  refine E_isub dX6_isStale_5 ?_
  refine E_bipush (v := 120) dX6_isStale_6 (by decide) ?_
  refine E_icmp_lt (tgt := 15) dX6_isStale_8 (by decide) (fun h8 => ?_) (fun h8 => ?_)
  · refine E_iconst (v := 0) dX6_isStale_15 (by decide) ?_
    refine E_iret dX6_isStale_16 rfl rfl ?_
    refine ⟨congrArg (fun z => some (xI z)) ?_, rfl⟩; (try split) <;> first | rfl | (exfalso; simp only [fa_lt, fa_le, fa_eq] at *; omega)
  · refine E_iconst (v := 1) dX6_isStale_11 (by decide) ?_
    refine E_goto (tgt := 16) dX6_isStale_12 (by decide) ?_
    refine E_iret dX6_isStale_16 rfl rfl ?_
    refine ⟨congrArg (fun z => some (xI z)) ?_, rfl⟩; (try split) <;> first | rfl | (exfalso; simp only [fa_lt, fa_le, fa_eq] at *; omega)
theorem c_X7_init {S : xS} (t q : Nat) (x1 x2 x3 : Int32) (r : Option (Nat × Nat)) (b : Int32) (hb : xB b) (hr : ∀ q, r = some q → q.1 ≠ 99) : CC mX7_init 2 0 0 [xR (some (7, t)), xI x1, xR (some (3, q)), xI x2, xI x3, xR r, xI b] S
    (aV (sI (sR (sI (sI (sR (sI (sI (sI (sI S 7 t 7 (-1)) 7 t 11 (-1)) 7 t 13 (-20)) 7 t 0 x1) 7 t 1 (some (3, q))) 7 t 2 x2) 7 t 3 x3) 7 t 4 r) 7 t 5 b)) := by
  refine CC_of mpX7_init rfl (Nat.le_of_ble_eq_true rfl) ?_
  refine E_aload_n dX7_init_0 rfl rfl ?_
  refine E_obj dX7_init_1 kX7_3 (by decide) (xs8 (Nat.le_of_ble_eq_true rfl)) ?_
  refine E_aload_n dX7_init_4 rfl rfl ?_
  refine E_iconst (v := -1) dX7_init_5 (by decide) ?_
  refine E_putI dX7_init_6 fX7_9 rfl rfl rfl rfl rfl ?_
  refine E_aload_n dX7_init_9 rfl rfl ?_
  refine E_iconst (v := -1) dX7_init_10 (by decide) ?_
  refine E_putI dX7_init_11 fX7_15 rfl rfl rfl rfl rfl ?_
  refine E_aload_n dX7_init_14 rfl rfl ?_
  refine E_bipush (v := -20) dX7_init_15 (by decide) ?_
  refine E_putI dX7_init_17 fX7_18 rfl rfl rfl rfl rfl ?_
  refine E_aload_n dX7_init_20 rfl rfl ?_
  refine E_iload_n dX7_init_21 rfl rfl ?_
  refine E_putFI dX7_init_22 fX7_21 rfl rfl rfl rfl (fun r h => by cases h; rfl) rfl rfl ?_
  refine E_aload_n dX7_init_25 rfl rfl ?_
  refine E_aload_n dX7_init_26 rfl rfl ?_
  refine E_putFR dX7_init_27 fX7_24 rfl rfl rfl rfl (fun r h => by cases h; rfl) (by first | exact Or.inl ⟨_, rfl⟩ | exact Or.inr ⟨_, rfl⟩) (by intro q h; cases h; simp) ?_
  refine E_aload_n dX7_init_30 rfl rfl ?_
  refine E_iload_n dX7_init_31 rfl rfl ?_
  refine E_putFI dX7_init_32 fX7_28 rfl rfl rfl rfl (fun r h => by cases h; rfl) rfl rfl ?_
  refine E_aload_n dX7_init_35 rfl rfl ?_
  refine E_iload dX7_init_36 rfl ?_
  refine E_putFI dX7_init_38 fX7_31 rfl rfl rfl rfl (fun r h => by cases h; rfl) rfl rfl ?_
  refine E_aload_n dX7_init_41 rfl rfl ?_
  refine E_aload dX7_init_42 rfl ?_
  refine E_putFR dX7_init_44 fX7_34 rfl rfl rfl rfl (fun r h => by cases h; rfl) (by first | exact Or.inl ⟨_, rfl⟩ | exact Or.inr ⟨_, rfl⟩) (by exact hr) ?_
  refine E_aload_n dX7_init_47 rfl rfl ?_
  refine E_iload dX7_init_48 rfl ?_
  refine E_putFI dX7_init_50 fX7_38 rfl rfl rfl rfl (fun r h => by cases h; rfl) hb.n hb.f ?_
  refine E_vret dX7_init_53 rfl ?_
  exact ⟨rfl, rfl⟩
theorem c_X7_minutesLeft {S : xS} (t : Nat) (x : Int32) : CC mX7_minutesLeft 1 0 0 [xR (some (7, t)), xI x] S (aI (if (gI S 7 t 6) = 0 ∨ (¬ (gI S 7 t 2) = 1 ∧ (gR S 7 t 4) = none) then 0 else (gI S 7 t 7) + (gI S 7 t 8) - x - 1) S) := by
  refine CC_of mpX7_minutesLeft rfl (Nat.le_of_ble_eq_true rfl) ?_
  refine E_aload_n dX7_minutesLeft_0 rfl rfl ?_
  refine E_getI dX7_minutesLeft_1 fX7_60 rfl rfl rfl rfl ?_
  refine E_if_eq (tgt := 22) dX7_minutesLeft_4 (by decide) (fun h4 => ?_) (fun h4 => ?_)
  · refine E_iconst (v := 0) dX7_minutesLeft_22 (by decide) ?_
    refine E_iret dX7_minutesLeft_23 rfl rfl ?_
    refine ⟨congrArg (fun z => some (xI z)) ?_, rfl⟩; simp_all
  · refine E_aload_n dX7_minutesLeft_7 rfl rfl ?_
    refine E_getI dX7_minutesLeft_8 fX7_28 rfl rfl rfl rfl ?_
    refine E_iconst (v := 1) dX7_minutesLeft_11 (by decide) ?_
    refine E_icmp_eq (tgt := 24) dX7_minutesLeft_12 (by decide) (fun h12 => ?_) (fun h12 => ?_)
    · refine E_aload_n dX7_minutesLeft_24 rfl rfl ?_
      refine E_getI dX7_minutesLeft_25 fX7_9 rfl rfl rfl rfl ?_
      refine E_aload_n dX7_minutesLeft_28 rfl rfl ?_
      refine E_getI dX7_minutesLeft_29 fX7_66 rfl rfl rfl rfl ?_
      refine E_iadd dX7_minutesLeft_32 ?_
      refine E_iload_n dX7_minutesLeft_33 rfl rfl ?_
      refine E_isub dX7_minutesLeft_34 ?_
      refine E_iconst (v := 1) dX7_minutesLeft_35 (by decide) ?_
      refine E_isub dX7_minutesLeft_36 ?_
      refine E_iret dX7_minutesLeft_37 rfl rfl ?_
      refine ⟨congrArg (fun z => some (xI z)) ?_, rfl⟩; simp_all
    · refine E_aload_n dX7_minutesLeft_15 rfl rfl ?_
      refine E_getR dX7_minutesLeft_16 fX7_34 rfl rfl rfl rfl ?_
      refine E_ifnonnull (tgt := 24) dX7_minutesLeft_19 (by decide) (fun q19 h19 => ?_) (fun h19 => ?_)
      · refine E_aload_n dX7_minutesLeft_24 rfl rfl ?_
        refine E_getI dX7_minutesLeft_25 fX7_9 rfl rfl rfl rfl ?_
        refine E_aload_n dX7_minutesLeft_28 rfl rfl ?_
        refine E_getI dX7_minutesLeft_29 fX7_66 rfl rfl rfl rfl ?_
        refine E_iadd dX7_minutesLeft_32 ?_
        refine E_iload_n dX7_minutesLeft_33 rfl rfl ?_
        refine E_isub dX7_minutesLeft_34 ?_
        refine E_iconst (v := 1) dX7_minutesLeft_35 (by decide) ?_
        refine E_isub dX7_minutesLeft_36 ?_
        refine E_iret dX7_minutesLeft_37 rfl rfl ?_
        refine ⟨congrArg (fun z => some (xI z)) ?_, rfl⟩; simp_all
      · refine E_iconst (v := 0) dX7_minutesLeft_22 (by decide) ?_
        refine E_iret dX7_minutesLeft_23 rfl rfl ?_
        refine ⟨congrArg (fun z => some (xI z)) ?_, rfl⟩; simp_all
theorem c_X7_mayStand {S : xS} (t : Nat) (x : Int32) : CC mX7_mayStand 1 0 0 [xR (some (7, t)), xI x] S (aI (if (gI S 7 t 2) = 5 ∧ ¬ (gI S 7 t 6) = 0 ∧ (gR S 7 t 12) = none ∧ 20 ≤ x - (gI S 7 t 13) then 1 else 0) S) := by
  refine CC_of mpX7_mayStand rfl (Nat.le_of_ble_eq_true rfl) ?_
  refine E_aload_n dX7_mayStand_0 rfl rfl ?_
  refine E_getI dX7_mayStand_1 fX7_28 rfl rfl rfl rfl ?_
  refine E_iconst (v := 5) dX7_mayStand_4 (by decide) ?_
  refine E_icmp_ne (tgt := 37) dX7_mayStand_5 (by decide) (fun h5 => ?_) (fun h5 => ?_)
  · refine E_iconst (v := 0) dX7_mayStand_37 (by decide) ?_
    refine E_iret dX7_mayStand_38 rfl rfl ?_
    refine ⟨congrArg (fun z => some (xI z)) ?_, rfl⟩; simp_all [fa_le, fa_lt]
  · refine E_aload_n dX7_mayStand_8 rfl rfl ?_
    refine E_getI dX7_mayStand_9 fX7_60 rfl rfl rfl rfl ?_
    refine E_if_eq (tgt := 37) dX7_mayStand_12 (by decide) (fun h12 => ?_) (fun h12 => ?_)
    · refine E_iconst (v := 0) dX7_mayStand_37 (by decide) ?_
      refine E_iret dX7_mayStand_38 rfl rfl ?_
      refine ⟨congrArg (fun z => some (xI z)) ?_, rfl⟩; simp_all [fa_le, fa_lt]
    · refine E_aload_n dX7_mayStand_15 rfl rfl ?_
      refine E_getR dX7_mayStand_16 fX7_84 rfl rfl rfl rfl ?_
      refine E_ifnonnull (tgt := 37) dX7_mayStand_19 (by decide) (fun q19 h19 => ?_) (fun h19 => ?_)
      · refine E_iconst (v := 0) dX7_mayStand_37 (by decide) ?_
        refine E_iret dX7_mayStand_38 rfl rfl ?_
        refine ⟨congrArg (fun z => some (xI z)) ?_, rfl⟩; simp_all [fa_le, fa_lt]
      · refine E_iload_n dX7_mayStand_22 rfl rfl ?_
        refine E_aload_n dX7_mayStand_23 rfl rfl ?_
        refine E_getI dX7_mayStand_24 fX7_18 rfl rfl rfl rfl ?_
        refine E_isub dX7_mayStand_27 ?_
        refine E_bipush (v := 20) dX7_mayStand_28 (by decide) ?_
        refine E_icmp_lt (tgt := 37) dX7_mayStand_30 (by decide) (fun h30 => ?_) (fun h30 => ?_)
        · refine E_iconst (v := 0) dX7_mayStand_37 (by decide) ?_
          refine E_iret dX7_mayStand_38 rfl rfl ?_
          refine ⟨congrArg (fun z => some (xI z)) ?_, rfl⟩; simp_all [fa_le, fa_lt]
        · refine E_iconst (v := 1) dX7_mayStand_33 (by decide) ?_
          refine E_goto (tgt := 38) dX7_mayStand_34 (by decide) ?_
          refine E_iret dX7_mayStand_38 rfl rfl ?_
          refine ⟨congrArg (fun z => some (xI z)) ?_, rfl⟩; simp_all [fa_le, fa_lt]
theorem c_X7_standAt {S : xS} (t i : Nat) (x : Int32) : CC mX7_standAt 1 0 0 [xR (some (7, t)), xR (some (4, i)), xI x] S (aV (sI (sR (sR S 7 t 12 (some (4, i))) 4 i 0 (some (7, t))) 4 i 1 x)) := by
  refine CC_of mpX7_standAt rfl (Nat.le_of_ble_eq_true rfl) ?_
  refine E_aload_n dX7_standAt_0 rfl rfl ?_
  refine E_aload_n dX7_standAt_1 rfl rfl ?_
  refine E_putR dX7_standAt_2 fX7_84 rfl rfl rfl (by first | exact Or.inl ⟨_, rfl⟩ | exact Or.inr ⟨_, rfl⟩) (by intro q h; cases h; simp) ?_
  refine E_aload_n dX7_standAt_5 rfl rfl ?_
  refine E_aload_n dX7_standAt_6 rfl rfl ?_
  refine E_putR dX7_standAt_7 fX7_88 rfl rfl rfl (by first | exact Or.inl ⟨_, rfl⟩ | exact Or.inr ⟨_, rfl⟩) (by intro q h; cases h; simp) ?_
  refine E_aload_n dX7_standAt_10 rfl rfl ?_
  refine E_iload_n dX7_standAt_11 rfl rfl ?_
  refine E_putI dX7_standAt_12 fX7_94 rfl rfl rfl rfl rfl ?_
  refine E_vret dX7_standAt_15 rfl ?_
  exact ⟨rfl, rfl⟩
theorem c_X7_leavePost_n {S : xS} (t : Nat) (x : Int32) (hp : (gR S 7 t 12) = none) : CC mX7_leavePost 1 0 0 [xR (some (7, t)), xI x] S (aV S) := by
  refine CC_of mpX7_leavePost rfl (Nat.le_of_ble_eq_true rfl) ?_
  refine E_aload_n dX7_leavePost_0 rfl rfl ?_
  refine E_getR dX7_leavePost_1 fX7_84 rfl rfl rfl hp ?_
  refine E_ifnull (tgt := 25) dX7_leavePost_4 (by decide) (fun h4 => ?_) (fun q4 h4 => absurd h4 (by intro z; cases z))
  refine E_vret dX7_leavePost_25 rfl ?_
  exact ⟨rfl, rfl⟩
theorem c_X7_leavePost_s {S : xS} (t i : Nat) (x : Int32) (hp : (gR S 7 t 12) = some (4, i)) : CC mX7_leavePost 1 0 0 [xR (some (7, t)), xI x] S (aV (sI (sR (sR S 4 i 0 none) 7 t 12 none) 7 t 13 x)) := by
  refine CC_of mpX7_leavePost rfl (Nat.le_of_ble_eq_true rfl) ?_
  refine E_aload_n dX7_leavePost_0 rfl rfl ?_
  refine E_getR dX7_leavePost_1 fX7_84 rfl rfl rfl hp ?_
  refine E_ifnull (tgt := 25) dX7_leavePost_4 (by decide) (fun h4 => ?_) (fun q4 h4 => ?_)
  · cases h4
  · refine E_aload_n dX7_leavePost_7 rfl rfl ?_
    refine E_getR dX7_leavePost_8 fX7_84 rfl rfl rfl hp ?_
    refine E_null dX7_leavePost_11 ?_
    refine E_putR dX7_leavePost_12 fX7_88 rfl rfl rfl (by first | exact Or.inl ⟨_, rfl⟩ | exact Or.inr ⟨_, rfl⟩) (by intro q h; cases h) ?_
    refine E_aload_n dX7_leavePost_15 rfl rfl ?_
    refine E_null dX7_leavePost_16 ?_
    refine E_putR dX7_leavePost_17 fX7_84 rfl rfl rfl (by first | exact Or.inl ⟨_, rfl⟩ | exact Or.inr ⟨_, rfl⟩) (by intro q h; cases h) ?_
    refine E_aload_n dX7_leavePost_20 rfl rfl ?_
    refine E_iload_n dX7_leavePost_21 rfl rfl ?_
    refine E_putI dX7_leavePost_22 fX7_18 rfl rfl rfl rfl rfl ?_
    refine E_vret dX7_leavePost_25 rfl ?_
    exact ⟨rfl, rfl⟩
theorem c_X8_numberOf_n {S : xS} : CC mX8_numberOf 1 0 0 [xR none] S (aI (-1) S) := by
  refine CC_of mpX8_numberOf rfl (Nat.le_of_ble_eq_true rfl) ?_
  refine E_aload_n dX8_numberOf_0 rfl rfl ?_
  refine E_ifnonnull (tgt := 8) dX8_numberOf_1 (by decide) (fun q1 h1 => ?_) (fun h1 => ?_)
  · cases h1
  · refine E_iconst (v := -1) dX8_numberOf_4 (by decide) ?_
    refine E_goto (tgt := 12) dX8_numberOf_5 (by decide) ?_
    refine E_iret dX8_numberOf_12 rfl rfl ?_
    exact ⟨rfl, rfl⟩
theorem c_X8_numberOf_s {S : xS} (t : Nat) : CC mX8_numberOf 1 0 0 [xR (some (7, t))] S (aI (gI S 7 t 0) S) := by
  refine CC_of mpX8_numberOf rfl (Nat.le_of_ble_eq_true rfl) ?_
  refine E_aload_n dX8_numberOf_0 rfl rfl ?_
  refine E_ifnonnull (tgt := 8) dX8_numberOf_1 (by decide) (fun q1 h1 => ?_) (fun h1 => ?_)
  · refine E_aload_n dX8_numberOf_8 rfl rfl ?_
    refine E_getI dX8_numberOf_9 fX8_319 rfl rfl rfl rfl ?_
    refine E_iret dX8_numberOf_12 rfl rfl ?_
    exact ⟨rfl, rfl⟩
  · cases h1
theorem c_X8_isClubKind {S : xS} (x : Int32) : CC mX8_isClubKind 1 0 0 [xI x] S (aI (if x = 2 ∨ x = 3 then 1 else 0) S) := by
  refine CC_of mpX8_isClubKind rfl (Nat.le_of_ble_eq_true rfl) ?_
  refine E_iload_n dX8_isClubKind_0 rfl rfl ?_
  refine E_iconst (v := 2) dX8_isClubKind_1 (by decide) ?_
  refine E_icmp_eq (tgt := 10) dX8_isClubKind_2 (by decide) (fun h2 => ?_) (fun h2 => ?_)
  · refine E_iconst (v := 1) dX8_isClubKind_10 (by decide) ?_
    refine E_goto (tgt := 15) dX8_isClubKind_11 (by decide) ?_
    refine E_iret dX8_isClubKind_15 rfl rfl ?_
    refine ⟨congrArg (fun z => some (xI z)) ?_, rfl⟩; (try split) <;> first | rfl | (exfalso; simp only [fa_lt, fa_le, fa_eq] at *; omega)
  · refine E_iload_n dX8_isClubKind_5 rfl rfl ?_
    refine E_iconst (v := 3) dX8_isClubKind_6 (by decide) ?_
    refine E_icmp_ne (tgt := 14) dX8_isClubKind_7 (by decide) (fun h7 => ?_) (fun h7 => ?_)
    · refine E_iconst (v := 0) dX8_isClubKind_14 (by decide) ?_
      refine E_iret dX8_isClubKind_15 rfl rfl ?_
      refine ⟨congrArg (fun z => some (xI z)) ?_, rfl⟩; (try split) <;> first | rfl | (exfalso; simp only [fa_lt, fa_le, fa_eq] at *; omega)
    · refine E_iconst (v := 1) dX8_isClubKind_10 (by decide) ?_
      refine E_goto (tgt := 15) dX8_isClubKind_11 (by decide) ?_
      refine E_iret dX8_isClubKind_15 rfl rfl ?_
      refine ⟨congrArg (fun z => some (xI z)) ?_, rfl⟩; (try split) <;> first | rfl | (exfalso; simp only [fa_lt, fa_le, fa_eq] at *; omega)
theorem c_X2_isLocker {S : xS} (x : Int32) : CC mX2_isLocker 1 0 0 [xI x] S (aI (if 0 ≤ x ∧ x < 30 then 1 else 0) S) := by
  refine CC_of mpX2_isLocker rfl (Nat.le_of_ble_eq_true rfl) ?_
  refine E_iload_n dX2_isLocker_0 rfl rfl ?_
  refine E_if_lt (tgt := 14) dX2_isLocker_1 (by decide) (fun h1 => ?_) (fun h1 => ?_)
  · refine E_iconst (v := 0) dX2_isLocker_14 (by decide) ?_
    refine E_iret dX2_isLocker_15 rfl rfl ?_
    refine ⟨congrArg (fun z => some (xI z)) ?_, rfl⟩; (try split) <;> first | rfl | (exfalso; simp only [fa_lt, fa_le, fa_eq] at *; omega)
  · refine E_iload_n dX2_isLocker_4 rfl rfl ?_
    refine E_bipush (v := 30) dX2_isLocker_5 (by decide) ?_
    refine E_icmp_ge (tgt := 14) dX2_isLocker_7 (by decide) (fun h7 => ?_) (fun h7 => ?_)
    · refine E_iconst (v := 0) dX2_isLocker_14 (by decide) ?_
      refine E_iret dX2_isLocker_15 rfl rfl ?_
      refine ⟨congrArg (fun z => some (xI z)) ?_, rfl⟩; (try split) <;> first | rfl | (exfalso; simp only [fa_lt, fa_le, fa_eq] at *; omega)
    · refine E_iconst (v := 1) dX2_isLocker_10 (by decide) ?_
      refine E_goto (tgt := 15) dX2_isLocker_11 (by decide) ?_
      refine E_iret dX2_isLocker_15 rfl rfl ?_
      refine ⟨congrArg (fun z => some (xI z)) ?_, rfl⟩; (try split) <;> first | rfl | (exfalso; simp only [fa_lt, fa_le, fa_eq] at *; omega)
theorem c_X9_in {S : xS} (x a b : Int32) : CC mX9_in 1 0 0 [xI x, xI a, xI b] S (aI (if a ≤ x ∧ x ≤ b then 1 else 0) S) := by
  refine CC_of mpX9_in rfl (Nat.le_of_ble_eq_true rfl) ?_
  refine E_iload_n dX9_in_0 rfl rfl ?_
  refine E_iload_n dX9_in_1 rfl rfl ?_
  refine E_icmp_lt (tgt := 14) dX9_in_2 (by decide) (fun h2 => ?_) (fun h2 => ?_)
  · refine E_iconst (v := 0) dX9_in_14 (by decide) ?_
    refine E_iret dX9_in_15 rfl rfl ?_
    refine ⟨congrArg (fun z => some (xI z)) ?_, rfl⟩; (try split) <;> first | rfl | (exfalso; simp only [fa_lt, fa_le, fa_eq] at *; omega)
  · refine E_iload_n dX9_in_5 rfl rfl ?_
    refine E_iload_n dX9_in_6 rfl rfl ?_
    refine E_icmp_gt (tgt := 14) dX9_in_7 (by decide) (fun h7 => ?_) (fun h7 => ?_)
    · refine E_iconst (v := 0) dX9_in_14 (by decide) ?_
      refine E_iret dX9_in_15 rfl rfl ?_
      refine ⟨congrArg (fun z => some (xI z)) ?_, rfl⟩; (try split) <;> first | rfl | (exfalso; simp only [fa_lt, fa_le, fa_eq] at *; omega)
    · refine E_iconst (v := 1) dX9_in_10 (by decide) ?_
      refine E_goto (tgt := 15) dX9_in_11 (by decide) ?_
      refine E_iret dX9_in_15 rfl rfl ?_
      refine ⟨congrArg (fun z => some (xI z)) ?_, rfl⟩; (try split) <;> first | rfl | (exfalso; simp only [fa_lt, fa_le, fa_eq] at *; omega)
