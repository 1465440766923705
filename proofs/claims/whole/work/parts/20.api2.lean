/-! BathHouse: its calls, on -/
theorem c_eye_n {S : xS} (hX : xShX S) (p b : Int32) (h : xpl S p = none) : CC mX8_eye 3 0 0 [xR (some (8, 0)), xI p, xI b] S (aI 0 S) := by
  refine CC_of mpX8_eye rfl (Nat.le_of_ble_eq_true rfl) ?_
  refine E_aload_n dX8_eye_0 rfl rfl ?_
  refine E_iload_n dX8_eye_1 rfl rfl ?_
  refine E_callV (m2 := mX8_poolOf) dX8_eye_2 kX8_58 mzX8_poolOf (c_poolOf hX p h) rfl ⟨_, _, rfl⟩ rfl rfl (by decide) (xs8 (Nat.le_of_ble_eq_true rfl)) (by first | exact Nat.le_of_ble_eq_true rfl | omega) (by first | exact Nat.le_of_ble_eq_true rfl | omega) ?_
  rintro _ _ ⟨rfl, rfl⟩
  refine E_astore_n dX8_eye_5 rfl (by decide) rfl ?_
  refine E_aload_n dX8_eye_6 rfl rfl ?_
  refine E_ifnull (tgt := 21) dX8_eye_7 (by decide) (fun h7 => ?_) (fun q7 h7 => absurd h7 (by intro z; cases z))
  refine E_iconst (v := 0) dX8_eye_21 (by decide) ?_
  refine E_iret dX8_eye_22 rfl rfl ?_
  exact ⟨rfl, rfl⟩
theorem c_eye_s {S : xS} (hX : xShX S) (p b : Int32) (hb : xB b) {P n : Nat} (h : xpl S p = some (3, P)) (hp : xShP S P n) : CC mX8_eye 3 0 0 [xR (some (8, 0)), xI p, xI b] S (aI (if (gI S 1 P 0) = b then 0 else 1) (if (gI S 1 P 0) = b then S else (sI (sI S 1 P 0 b) 1 P 1 1))) := by
  refine CC_of mpX8_eye rfl (Nat.le_of_ble_eq_true rfl) ?_
  refine E_aload_n dX8_eye_0 rfl rfl ?_
  refine E_iload_n dX8_eye_1 rfl rfl ?_
  refine E_callV (m2 := mX8_poolOf) dX8_eye_2 kX8_58 mzX8_poolOf (c_poolOf hX p h) rfl ⟨_, _, rfl⟩ rfl rfl (by decide) (xs8 (Nat.le_of_ble_eq_true rfl)) (by first | exact Nat.le_of_ble_eq_true rfl | omega) (by first | exact Nat.le_of_ble_eq_true rfl | omega) ?_
  rintro _ _ ⟨rfl, rfl⟩
  refine E_astore_n dX8_eye_5 rfl (by decide) rfl ?_
  refine E_aload_n dX8_eye_6 rfl rfl ?_
  refine E_ifnull (tgt := 21) dX8_eye_7 (by decide) (fun h7 => ?_) (fun q7 h7 => ?_)
  · cases h7
  · refine E_aload_n dX8_eye_10 rfl rfl ?_
    refine E_getR dX8_eye_11 fX8_120 rfl rfl rfl (rP_5 hp) ?_
    refine E_getI dX8_eye_14 fX8_149 rfl rfl rfl rfl ?_
    refine E_iload_n dX8_eye_17 rfl rfl ?_
    refine E_icmp_ne (tgt := 23) dX8_eye_18 (by decide) (fun h18 => ?_) (fun h18 => ?_)
    · rw [if_neg h18, if_neg h18]
      refine E_aload_n dX8_eye_23 rfl rfl ?_
      refine E_getR dX8_eye_24 fX8_120 rfl rfl rfl (rP_5 hp) ?_
      refine E_iload_n dX8_eye_27 rfl rfl ?_
      refine E_callV (m2 := mX1_turnEye) dX8_eye_28 kX8_152 mzX1_turnEye (c_X1_turnEye P b hb) rfl ⟨_, _, rfl⟩ rfl rfl (by decide) (xs8 (Nat.le_of_ble_eq_true rfl)) (by first | exact Nat.le_of_ble_eq_true rfl | omega) (by first | exact Nat.le_of_ble_eq_true rfl | omega) ?_
      rintro _ _ ⟨rfl, rfl⟩
      refine E_iconst (v := 1) dX8_eye_31 (by decide) ?_
      refine E_iret dX8_eye_32 rfl rfl ?_
      exact ⟨rfl, rfl⟩
    · rw [if_pos h18, if_pos h18]
      refine E_iconst (v := 0) dX8_eye_21 (by decide) ?_
      refine E_iret dX8_eye_22 rfl rfl ?_
      exact ⟨rfl, rfl⟩
theorem c_hand_n {S : xS} (hX : xShX S) (p : Int32) (h : xpl S p = none) : CC mX8_hand 3 0 0 [xR (some (8, 0)), xI p] S (aI (-1) S) := by
  refine CC_of mpX8_hand rfl (Nat.le_of_ble_eq_true rfl) ?_
  refine E_aload_n dX8_hand_0 rfl rfl ?_
  refine E_iload_n dX8_hand_1 rfl rfl ?_
  refine E_callV (m2 := mX8_poolOf) dX8_hand_2 kX8_58 mzX8_poolOf (c_poolOf hX p h) rfl ⟨_, _, rfl⟩ rfl rfl (by decide) (xs8 (Nat.le_of_ble_eq_true rfl)) (by first | exact Nat.le_of_ble_eq_true rfl | omega) (by first | exact Nat.le_of_ble_eq_true rfl | omega) ?_
  rintro _ _ ⟨rfl, rfl⟩
  refine E_astore_n dX8_hand_5 rfl (by decide) rfl ?_
  refine E_aload_n dX8_hand_6 rfl rfl ?_
  refine E_ifnonnull (tgt := 12) dX8_hand_7 (by decide) (fun q7 h7 => absurd h7 (by intro z; cases z)) (fun h7 => ?_)
  refine E_iconst (v := -1) dX8_hand_10 (by decide) ?_
  refine E_iret dX8_hand_11 rfl rfl ?_
  exact ⟨rfl, rfl⟩
theorem c_hand_s {S : xS} (hX : xShX S) (p : Int32) {P n : Nat} (h : xpl S p = some (3, P)) (hp : xShP S P n) : CC mX8_hand 3 0 0 [xR (some (8, 0)), xI p] S (aI (gI S 3 P 6) (xsf S P (gI S 3 P 6) (gI S 3 P 6))) := by
  refine CC_of mpX8_hand rfl (Nat.le_of_ble_eq_true rfl) ?_
  refine E_aload_n dX8_hand_0 rfl rfl ?_
  refine E_iload_n dX8_hand_1 rfl rfl ?_
  refine E_callV (m2 := mX8_poolOf) dX8_hand_2 kX8_58 mzX8_poolOf (c_poolOf hX p h) rfl ⟨_, _, rfl⟩ rfl rfl (by decide) (xs8 (Nat.le_of_ble_eq_true rfl)) (by first | exact Nat.le_of_ble_eq_true rfl | omega) (by first | exact Nat.le_of_ble_eq_true rfl | omega) ?_
  rintro _ _ ⟨rfl, rfl⟩
  refine E_astore_n dX8_hand_5 rfl (by decide) rfl ?_
  refine E_aload_n dX8_hand_6 rfl rfl ?_
  refine E_ifnonnull (tgt := 12) dX8_hand_7 (by decide) (fun q7 h7 => ?_) (fun h7 => ?_)
  · refine E_aload_n dX8_hand_12 rfl rfl ?_
    refine E_getR dX8_hand_13 fX8_120 rfl rfl rfl (rP_5 hp) ?_
    refine E_aload_n dX8_hand_16 rfl rfl ?_
    refine E_getI dX8_hand_17 fX8_156 rfl rfl rfl rfl ?_
    refine E_aload_n dX8_hand_20 rfl rfl ?_
    refine E_getI dX8_hand_21 fX8_156 rfl rfl rfl rfl ?_
    refine E_callV (m2 := mX1_startFrom) dX8_hand_24 kX8_159 mzX1_startFrom (c_X1_startFrom P _ _) rfl ⟨_, _, rfl⟩ rfl rfl (by decide) (xs8 (Nat.le_of_ble_eq_true rfl)) (by first | exact Nat.le_of_ble_eq_true rfl | omega) (by first | exact Nat.le_of_ble_eq_true rfl | omega) ?_
    rintro _ _ ⟨rfl, rfl⟩
    refine E_aload_n dX8_hand_27 rfl rfl ?_
    refine E_getI dX8_hand_28 fX8_156 rfl rfl rfl rfl ?_
    refine E_iret dX8_hand_31 rfl rfl ?_
    exact ⟨rfl, rfl⟩
  · cases h7
theorem c_count_n {S : xS} (hX : xShX S) (p x : Int32) (h : xpl S p = none) : CC mX8_count 3 0 0 [xR (some (8, 0)), xI p, xI x] S (aI (-1) S) := by
  refine CC_of mpX8_count rfl (Nat.le_of_ble_eq_true rfl) ?_
  refine E_aload_n dX8_count_0 rfl rfl ?_
  refine E_iload_n dX8_count_1 rfl rfl ?_
  refine E_callV (m2 := mX8_poolOf) dX8_count_2 kX8_58 mzX8_poolOf (c_poolOf hX p h) rfl ⟨_, _, rfl⟩ rfl rfl (by decide) (xs8 (Nat.le_of_ble_eq_true rfl)) (by first | exact Nat.le_of_ble_eq_true rfl | omega) (by first | exact Nat.le_of_ble_eq_true rfl | omega) ?_
  rintro _ _ ⟨rfl, rfl⟩
  refine E_astore_n dX8_count_5 rfl (by decide) rfl ?_
  refine E_aload_n dX8_count_6 rfl rfl ?_
  refine E_ifnonnull (tgt := 12) dX8_count_7 (by decide) (fun q7 h7 => absurd h7 (by intro z; cases z)) (fun h7 => ?_)
  refine E_iconst (v := -1) dX8_count_10 (by decide) ?_
  refine E_iret dX8_count_11 rfl rfl ?_
  exact ⟨rfl, rfl⟩
theorem c_count_o {S : xS} (hX : xShX S) (p x : Int32) {P : Nat} (h : xpl S p = some (3, P)) (hx : x.toInt < 0 ∨ 7 < x.toInt) : CC mX8_count 3 0 0 [xR (some (8, 0)), xI p, xI x] S (aI (-1) S) := by
  refine CC_of mpX8_count rfl (Nat.le_of_ble_eq_true rfl) ?_
  refine E_aload_n dX8_count_0 rfl rfl ?_
  refine E_iload_n dX8_count_1 rfl rfl ?_
  refine E_callV (m2 := mX8_poolOf) dX8_count_2 kX8_58 mzX8_poolOf (c_poolOf hX p h) rfl ⟨_, _, rfl⟩ rfl rfl (by decide) (xs8 (Nat.le_of_ble_eq_true rfl)) (by first | exact Nat.le_of_ble_eq_true rfl | omega) (by first | exact Nat.le_of_ble_eq_true rfl | omega) ?_
  rintro _ _ ⟨rfl, rfl⟩
  refine E_astore_n dX8_count_5 rfl (by decide) rfl ?_
  refine E_aload_n dX8_count_6 rfl rfl ?_
  refine E_ifnonnull (tgt := 12) dX8_count_7 (by decide) (fun q7 h7 => ?_) (fun h7 => ?_)
  · refine E_iload_n dX8_count_12 rfl rfl ?_
    refine E_tabOut (tgt := 122) dX8_count_13 hx (by decide) ?_
    refine E_iconst (v := -1) dX8_count_122 (by decide) ?_
    refine E_iret dX8_count_123 rfl rfl ?_
    exact ⟨rfl, rfl⟩
  · cases h7
theorem c_count_0 {S : xS} (hX : xShX S) (p : Int32) {P n : Nat} (h : xpl S p = some (3, P)) (hp : xShP S P n) : CC mX8_count 3 0 0 [xR (some (8, 0)), xI p, xI 0] S (aI (xln S P) S) := by
  refine CC_of mpX8_count rfl (Nat.le_of_ble_eq_true rfl) ?_
  refine E_aload_n dX8_count_0 rfl rfl ?_
  refine E_iload_n dX8_count_1 rfl rfl ?_
  refine E_callV (m2 := mX8_poolOf) dX8_count_2 kX8_58 mzX8_poolOf (c_poolOf hX p h) rfl ⟨_, _, rfl⟩ rfl rfl (by decide) (xs8 (Nat.le_of_ble_eq_true rfl)) (by first | exact Nat.le_of_ble_eq_true rfl | omega) (by first | exact Nat.le_of_ble_eq_true rfl | omega) ?_
  rintro _ _ ⟨rfl, rfl⟩
  refine E_astore_n dX8_count_5 rfl (by decide) rfl ?_
  refine E_aload_n dX8_count_6 rfl rfl ?_
  refine E_ifnonnull (tgt := 12) dX8_count_7 (by decide) (fun q7 h7 => ?_) (fun h7 => ?_)
  · refine E_iload_n dX8_count_12 rfl rfl ?_
    refine E_tabIn (tgt := 60) (off := 47) dX8_count_13 (by decide) (by decide) rfl (by decide) ?_
    refine E_aload_n dX8_count_60 rfl rfl ?_
    refine E_getR dX8_count_61 fX8_120 rfl rfl rfl (rP_5 hp) ?_
    refine E_callV (m2 := mX1_leastNow) dX8_count_64 kX8_162 mzX1_leastNow (c_X1_leastNow P) rfl ⟨_, _, rfl⟩ rfl rfl (by decide) (xs8 (Nat.le_of_ble_eq_true rfl)) (by first | exact Nat.le_of_ble_eq_true rfl | omega) (by first | exact Nat.le_of_ble_eq_true rfl | omega) ?_
    rintro _ _ ⟨rfl, rfl⟩
    refine E_iret dX8_count_67 rfl rfl ?_
    exact ⟨rfl, rfl⟩
  · cases h7
theorem c_count_1 {S : xS} (hX : xShX S) (p : Int32) {P n : Nat} (h : xpl S p = some (3, P)) (hp : xShP S P n) : CC mX8_count 3 0 0 [xR (some (8, 0)), xI p, xI 1] S (aI (xmn S P) S) := by
  refine CC_of mpX8_count rfl (Nat.le_of_ble_eq_true rfl) ?_
  refine E_aload_n dX8_count_0 rfl rfl ?_
  refine E_iload_n dX8_count_1 rfl rfl ?_
  refine E_callV (m2 := mX8_poolOf) dX8_count_2 kX8_58 mzX8_poolOf (c_poolOf hX p h) rfl ⟨_, _, rfl⟩ rfl rfl (by decide) (xs8 (Nat.le_of_ble_eq_true rfl)) (by first | exact Nat.le_of_ble_eq_true rfl | omega) (by first | exact Nat.le_of_ble_eq_true rfl | omega) ?_
  rintro _ _ ⟨rfl, rfl⟩
  refine E_astore_n dX8_count_5 rfl (by decide) rfl ?_
  refine E_aload_n dX8_count_6 rfl rfl ?_
  refine E_ifnonnull (tgt := 12) dX8_count_7 (by decide) (fun q7 h7 => ?_) (fun h7 => ?_)
  · refine E_iload_n dX8_count_12 rfl rfl ?_
    refine E_tabIn (tgt := 68) (off := 55) dX8_count_13 (by decide) (by decide) rfl (by decide) ?_
    refine E_aload_n dX8_count_68 rfl rfl ?_
    refine E_getR dX8_count_69 fX8_120 rfl rfl rfl (rP_5 hp) ?_
    refine E_callV (m2 := mX1_mostNow) dX8_count_72 kX8_166 mzX1_mostNow (c_X1_mostNow P) rfl ⟨_, _, rfl⟩ rfl rfl (by decide) (xs8 (Nat.le_of_ble_eq_true rfl)) (by first | exact Nat.le_of_ble_eq_true rfl | omega) (by first | exact Nat.le_of_ble_eq_true rfl | omega) ?_
    rintro _ _ ⟨rfl, rfl⟩
    refine E_iret dX8_count_75 rfl rfl ?_
    exact ⟨rfl, rfl⟩
  · cases h7
theorem c_count_2 {S : xS} (hX : xShX S) (p : Int32) {P n : Nat} (h : xpl S p = some (3, P)) (hp : xShP S P n) : CC mX8_count 3 0 0 [xR (some (8, 0)), xI p, xI 2] S (aI ((gI S 3 P 6)) S) := by
  refine CC_of mpX8_count rfl (Nat.le_of_ble_eq_true rfl) ?_
  refine E_aload_n dX8_count_0 rfl rfl ?_
  refine E_iload_n dX8_count_1 rfl rfl ?_
  refine E_callV (m2 := mX8_poolOf) dX8_count_2 kX8_58 mzX8_poolOf (c_poolOf hX p h) rfl ⟨_, _, rfl⟩ rfl rfl (by decide) (xs8 (Nat.le_of_ble_eq_true rfl)) (by first | exact Nat.le_of_ble_eq_true rfl | omega) (by first | exact Nat.le_of_ble_eq_true rfl | omega) ?_
  rintro _ _ ⟨rfl, rfl⟩
  refine E_astore_n dX8_count_5 rfl (by decide) rfl ?_
  refine E_aload_n dX8_count_6 rfl rfl ?_
  refine E_ifnonnull (tgt := 12) dX8_count_7 (by decide) (fun q7 h7 => ?_) (fun h7 => ?_)
  · refine E_iload_n dX8_count_12 rfl rfl ?_
    refine E_tabIn (tgt := 76) (off := 63) dX8_count_13 (by decide) (by decide) rfl (by decide) ?_
    refine E_aload_n dX8_count_76 rfl rfl ?_
    refine E_getI dX8_count_77 fX8_156 rfl rfl rfl rfl ?_
    refine E_iret dX8_count_80 rfl rfl ?_
    exact ⟨rfl, rfl⟩
  · cases h7
theorem c_count_3 {S : xS} (hX : xShX S) (p : Int32) {P n : Nat} (h : xpl S p = some (3, P)) (hp : xShP S P n) : CC mX8_count 3 0 0 [xR (some (8, 0)), xI p, xI 3] S (aI ((gI S 3 P 7)) S) := by
  refine CC_of mpX8_count rfl (Nat.le_of_ble_eq_true rfl) ?_
  refine E_aload_n dX8_count_0 rfl rfl ?_
  refine E_iload_n dX8_count_1 rfl rfl ?_
  refine E_callV (m2 := mX8_poolOf) dX8_count_2 kX8_58 mzX8_poolOf (c_poolOf hX p h) rfl ⟨_, _, rfl⟩ rfl rfl (by decide) (xs8 (Nat.le_of_ble_eq_true rfl)) (by first | exact Nat.le_of_ble_eq_true rfl | omega) (by first | exact Nat.le_of_ble_eq_true rfl | omega) ?_
  rintro _ _ ⟨rfl, rfl⟩
  refine E_astore_n dX8_count_5 rfl (by decide) rfl ?_
  refine E_aload_n dX8_count_6 rfl rfl ?_
  refine E_ifnonnull (tgt := 12) dX8_count_7 (by decide) (fun q7 h7 => ?_) (fun h7 => ?_)
  · refine E_iload_n dX8_count_12 rfl rfl ?_
    refine E_tabIn (tgt := 81) (off := 68) dX8_count_13 (by decide) (by decide) rfl (by decide) ?_
    refine E_aload_n dX8_count_81 rfl rfl ?_
    refine E_getI dX8_count_82 fX8_169 rfl rfl rfl rfl ?_
    refine E_iret dX8_count_85 rfl rfl ?_
    exact ⟨rfl, rfl⟩
  · cases h7
theorem c_count_4 {S : xS} (hX : xShX S) (p : Int32) {P n : Nat} (h : xpl S p = some (3, P)) (hp : xShP S P n) : CC mX8_count 3 0 0 [xR (some (8, 0)), xI p, xI 4] S (aI ((gI S 3 P 1)) S) := by
  refine CC_of mpX8_count rfl (Nat.le_of_ble_eq_true rfl) ?_
  refine E_aload_n dX8_count_0 rfl rfl ?_
  refine E_iload_n dX8_count_1 rfl rfl ?_
  refine E_callV (m2 := mX8_poolOf) dX8_count_2 kX8_58 mzX8_poolOf (c_poolOf hX p h) rfl ⟨_, _, rfl⟩ rfl rfl (by decide) (xs8 (Nat.le_of_ble_eq_true rfl)) (by first | exact Nat.le_of_ble_eq_true rfl | omega) (by first | exact Nat.le_of_ble_eq_true rfl | omega) ?_
  rintro _ _ ⟨rfl, rfl⟩
  refine E_astore_n dX8_count_5 rfl (by decide) rfl ?_
  refine E_aload_n dX8_count_6 rfl rfl ?_
  refine E_ifnonnull (tgt := 12) dX8_count_7 (by decide) (fun q7 h7 => ?_) (fun h7 => ?_)
  · refine E_iload_n dX8_count_12 rfl rfl ?_
    refine E_tabIn (tgt := 86) (off := 73) dX8_count_13 (by decide) (by decide) rfl (by decide) ?_
    refine E_aload_n dX8_count_86 rfl rfl ?_
    refine E_getI dX8_count_87 fX8_172 rfl rfl rfl rfl ?_
    refine E_iret dX8_count_90 rfl rfl ?_
    exact ⟨rfl, rfl⟩
  · cases h7
theorem c_count_5 {S : xS} (hX : xShX S) (p : Int32) {P n : Nat} (h : xpl S p = some (3, P)) (hp : xShP S P n) {C : Nat} {Pc : Nat → Nat} (hq : xcok S C Pc) : CC mX8_count 3 0 0 [xR (some (8, 0)), xI p, xI 5] S (aI ((gI S 3 P 2) - xbc (xtkn S C Pc P (gI S 8 0 5) 20)) S) := by
  refine CC_of mpX8_count rfl (Nat.le_of_ble_eq_true rfl) ?_
  refine E_aload_n dX8_count_0 rfl rfl ?_
  refine E_iload_n dX8_count_1 rfl rfl ?_
  refine E_callV (m2 := mX8_poolOf) dX8_count_2 kX8_58 mzX8_poolOf (c_poolOf hX p h) rfl ⟨_, _, rfl⟩ rfl rfl (by decide) (xs8 (Nat.le_of_ble_eq_true rfl)) (by first | exact Nat.le_of_ble_eq_true rfl | omega) (by first | exact Nat.le_of_ble_eq_true rfl | omega) ?_
  rintro _ _ ⟨rfl, rfl⟩
  refine E_astore_n dX8_count_5 rfl (by decide) rfl ?_
  refine E_aload_n dX8_count_6 rfl rfl ?_
  refine E_ifnonnull (tgt := 12) dX8_count_7 (by decide) (fun q7 h7 => ?_) (fun h7 => ?_)
  · refine E_iload_n dX8_count_12 rfl rfl ?_
    refine E_tabIn (tgt := 91) (off := 78) dX8_count_13 (by decide) (by decide) rfl (by decide) ?_
    refine E_aload_n dX8_count_91 rfl rfl ?_
    refine E_aload_n dX8_count_92 rfl rfl ?_
    refine E_callV (m2 := mX8_freeLanes) dX8_count_93 kX8_175 mzX8_freeLanes (c_freeLanes hX hq P) rfl ⟨_, _, rfl⟩ rfl rfl (by decide) (xs8 (Nat.le_of_ble_eq_true rfl)) (by first | exact Nat.le_of_ble_eq_true rfl | omega) (by first | exact Nat.le_of_ble_eq_true rfl | omega) ?_
    rintro _ _ ⟨rfl, rfl⟩
    refine E_iret dX8_count_96 rfl rfl ?_
    exact ⟨rfl, rfl⟩
  · cases h7
theorem c_count_6 {S : xS} (hX : xShX S) (p : Int32) {P n : Nat} (h : xpl S p = some (3, P)) (hp : xShP S P n) : CC mX8_count 3 0 0 [xR (some (8, 0)), xI p, xI 6] S (aI (xsm (fun k => xfil S (3 * P + k) (gI S 8 0 5)) n) S) := by
  refine CC_of mpX8_count rfl (Nat.le_of_ble_eq_true rfl) ?_
  refine E_aload_n dX8_count_0 rfl rfl ?_
  refine E_iload_n dX8_count_1 rfl rfl ?_
  refine E_callV (m2 := mX8_poolOf) dX8_count_2 kX8_58 mzX8_poolOf (c_poolOf hX p h) rfl ⟨_, _, rfl⟩ rfl rfl (by decide) (xs8 (Nat.le_of_ble_eq_true rfl)) (by first | exact Nat.le_of_ble_eq_true rfl | omega) (by first | exact Nat.le_of_ble_eq_true rfl | omega) ?_
  rintro _ _ ⟨rfl, rfl⟩
  refine E_astore_n dX8_count_5 rfl (by decide) rfl ?_
  refine E_aload_n dX8_count_6 rfl rfl ?_
  refine E_ifnonnull (tgt := 12) dX8_count_7 (by decide) (fun q7 h7 => ?_) (fun h7 => ?_)
  · refine E_iload_n dX8_count_12 rfl rfl ?_
    refine E_tabIn (tgt := 97) (off := 84) dX8_count_13 (by decide) (by decide) rfl (by decide) ?_
    refine E_aload_n dX8_count_97 rfl rfl ?_
    refine E_aload_n dX8_count_98 rfl rfl ?_
    refine E_getI dX8_count_99 fX8_45 rfl rfl rfl rfl ?_
    refine E_callV (m2 := mX3_filledPosts) dX8_count_102 kX8_179 mzX3_filledPosts (c_X3_filledPosts P n hp _) rfl ⟨_, _, rfl⟩ rfl rfl (by decide) (xs8 (Nat.le_of_ble_eq_true rfl)) (by first | exact Nat.le_of_ble_eq_true rfl | omega) (by first | exact Nat.le_of_ble_eq_true rfl | omega) ?_
    rintro _ _ ⟨rfl, rfl⟩
    refine E_iret dX8_count_105 rfl rfl ?_
    exact ⟨rfl, rfl⟩
  · cases h7
theorem c_count_7 {S : xS} (hX : xShX S) (p : Int32) {P n : Nat} (h : xpl S p = some (3, P)) (hp : xShP S P n) : CC mX8_count 3 0 0 [xR (some (8, 0)), xI p, xI 7] S (aI (if (gI S 1 P 0) = 0 then 0 else 1) S) := by
  refine CC_of mpX8_count rfl (Nat.le_of_ble_eq_true rfl) ?_
  refine E_aload_n dX8_count_0 rfl rfl ?_
  refine E_iload_n dX8_count_1 rfl rfl ?_
  refine E_callV (m2 := mX8_poolOf) dX8_count_2 kX8_58 mzX8_poolOf (c_poolOf hX p h) rfl ⟨_, _, rfl⟩ rfl rfl (by decide) (xs8 (Nat.le_of_ble_eq_true rfl)) (by first | exact Nat.le_of_ble_eq_true rfl | omega) (by first | exact Nat.le_of_ble_eq_true rfl | omega) ?_
  rintro _ _ ⟨rfl, rfl⟩
  refine E_astore_n dX8_count_5 rfl (by decide) rfl ?_
  refine E_aload_n dX8_count_6 rfl rfl ?_
  refine E_ifnonnull (tgt := 12) dX8_count_7 (by decide) (fun q7 h7 => ?_) (fun h7 => ?_)
  · refine E_iload_n dX8_count_12 rfl rfl ?_
    refine E_tabIn (tgt := 106) (off := 93) dX8_count_13 (by decide) (by decide) rfl (by decide) ?_
    refine E_aload_n dX8_count_106 rfl rfl ?_
    refine E_getR dX8_count_107 fX8_120 rfl rfl rfl (rP_5 hp) ?_
    refine E_getI dX8_count_110 fX8_149 rfl rfl rfl rfl ?_
    refine E_if_eq (tgt := 120) dX8_count_113 (by decide) (fun h113 => ?_) (fun h113 => ?_)
    · refine E_iconst (v := 0) dX8_count_120 (by decide) ?_
      refine E_iret dX8_count_121 rfl rfl ?_
      refine ⟨congrArg (fun z => some (xI z)) ?_, rfl⟩; split <;> first | rfl | contradiction
    · refine E_iconst (v := 1) dX8_count_116 (by decide) ?_
      refine E_goto (tgt := 121) dX8_count_117 (by decide) ?_
      refine E_iret dX8_count_121 rfl rfl ?_
      refine ⟨congrArg (fun z => some (xI z)) ?_, rfl⟩; split <;> first | rfl | contradiction
  · cases h7
theorem c_bounds_n {S : xS} (hX : xShX S) (p i a b : Int32) (hn : CC mX8_thingOf 3 0 0 [xR (some (8, 0)), xI p, xI i] S (aR none S)) : CC mX8_bounds 4 0 0 [xR (some (8, 0)), xI p, xI i, xI a, xI b] S (aI 0 S) := by
  refine CC_of mpX8_bounds rfl (Nat.le_of_ble_eq_true rfl) ?_
  refine E_aload_n dX8_bounds_0 rfl rfl ?_
  refine E_iload_n dX8_bounds_1 rfl rfl ?_
  refine E_iload_n dX8_bounds_2 rfl rfl ?_
  refine E_callV (m2 := mX8_thingOf) dX8_bounds_3 kX8_182 mzX8_thingOf hn rfl ⟨_, _, rfl⟩ rfl rfl (by decide) (xs8 (Nat.le_of_ble_eq_true rfl)) (by first | exact Nat.le_of_ble_eq_true rfl | omega) (by first | exact Nat.le_of_ble_eq_true rfl | omega) ?_
  rintro _ _ ⟨rfl, rfl⟩
  refine E_astore dX8_bounds_6 (by decide) rfl ?_
  refine E_aload dX8_bounds_8 rfl ?_
  refine E_ifnull (tgt := 32) dX8_bounds_10 (by decide) (fun h10 => ?_) (fun q10 h10 => absurd h10 (by intro z; cases z))
  refine E_iconst (v := 0) dX8_bounds_32 (by decide) ?_
  refine E_iret dX8_bounds_33 rfl rfl ?_
  exact ⟨rfl, rfl⟩
theorem c_bounds_s {S : xS} (p i a b : Int32) {j : Nat} (hn : CC mX8_thingOf 3 0 0 [xR (some (8, 0)), xI p, xI i] S (aR (some (6, j)) S)) : CC mX8_bounds 4 0 0 [xR (some (8, 0)), xI p, xI i, xI a, xI b] S (aI (if -100000 ≤ a ∧ b ≤ 100000 ∧ a ≤ b then 1 else 0) (if -100000 ≤ a ∧ b ≤ 100000 ∧ a ≤ b then (sI (sI S 6 j 0 a) 6 j 1 b) else S)) := by
  refine CC_of mpX8_bounds rfl (Nat.le_of_ble_eq_true rfl) ?_
  refine E_aload_n dX8_bounds_0 rfl rfl ?_
  refine E_iload_n dX8_bounds_1 rfl rfl ?_
  refine E_iload_n dX8_bounds_2 rfl rfl ?_
  refine E_callV (m2 := mX8_thingOf) dX8_bounds_3 kX8_182 mzX8_thingOf hn rfl ⟨_, _, rfl⟩ rfl rfl (by decide) (xs8 (Nat.le_of_ble_eq_true rfl)) (by first | exact Nat.le_of_ble_eq_true rfl | omega) (by first | exact Nat.le_of_ble_eq_true rfl | omega) ?_
  rintro _ _ ⟨rfl, rfl⟩
  refine E_astore dX8_bounds_6 (by decide) rfl ?_
  refine E_aload dX8_bounds_8 rfl ?_
  refine E_ifnull (tgt := 32) dX8_bounds_10 (by decide) (fun h10 => ?_) (fun q10 h10 => ?_)
  · cases h10
  · refine E_iload_n dX8_bounds_13 rfl rfl ?_
    refine E_ldc dX8_bounds_14 oX8_186 ?_
    refine E_icmp_lt (tgt := 32) dX8_bounds_16 (by decide) (fun h16 => ?_) (fun h16 => ?_)
    · rw [if_neg (fun z => Int32.not_le.mpr h16 z.1), if_neg (fun z => Int32.not_le.mpr h16 z.1)]
      refine E_iconst (v := 0) dX8_bounds_32 (by decide) ?_
      refine E_iret dX8_bounds_33 rfl rfl ?_
      exact ⟨rfl, rfl⟩
    · refine E_iload dX8_bounds_19 rfl ?_
      refine E_ldc dX8_bounds_21 oX8_187 ?_
      refine E_icmp_gt (tgt := 32) dX8_bounds_23 (by decide) (fun h23 => ?_) (fun h23 => ?_)
      · rw [if_neg (fun z => Int32.not_le.mpr h23 z.2.1), if_neg (fun z => Int32.not_le.mpr h23 z.2.1)]
        refine E_iconst (v := 0) dX8_bounds_32 (by decide) ?_
        refine E_iret dX8_bounds_33 rfl rfl ?_
        exact ⟨rfl, rfl⟩
      · refine E_iload_n dX8_bounds_26 rfl rfl ?_
        refine E_iload dX8_bounds_27 rfl ?_
        refine E_icmp_le (tgt := 34) dX8_bounds_29 (by decide) (fun h29 => ?_) (fun h29 => ?_)
        · rw [if_pos ⟨Int32.not_lt.mp h16, Int32.not_lt.mp h23, h29⟩, if_pos ⟨Int32.not_lt.mp h16, Int32.not_lt.mp h23, h29⟩]
          refine E_aload dX8_bounds_34 rfl ?_
          refine E_iload_n dX8_bounds_36 rfl rfl ?_
          refine E_putI dX8_bounds_37 fX8_188 rfl rfl rfl rfl rfl ?_
          refine E_aload dX8_bounds_40 rfl ?_
          refine E_iload dX8_bounds_42 rfl ?_
          refine E_putI dX8_bounds_44 fX8_193 rfl rfl rfl rfl rfl ?_
          refine E_iconst (v := 1) dX8_bounds_47 (by decide) ?_
          refine E_iret dX8_bounds_48 rfl rfl ?_
          exact ⟨rfl, rfl⟩
        · rw [if_neg (fun z => h29 z.2.2), if_neg (fun z => h29 z.2.2)]
          refine E_iconst (v := 0) dX8_bounds_32 (by decide) ?_
          refine E_iret dX8_bounds_33 rfl rfl ?_
          exact ⟨rfl, rfl⟩
theorem c_measure_n {S : xS} (p i : Int32) (v : UInt32) (hn : CC mX8_thingOf 3 0 0 [xR (some (8, 0)), xI p, xI i] S (aR none S)) : CC mX8_measure 4 0 0 [xR (some (8, 0)), xI p, xI i, xF v] S (aI (-200001) S) := by
  refine CC_of mpX8_measure rfl (Nat.le_of_ble_eq_true rfl) ?_
  refine E_aload_n dX8_measure_0 rfl rfl ?_
  refine E_iload_n dX8_measure_1 rfl rfl ?_
  refine E_iload_n dX8_measure_2 rfl rfl ?_
  refine E_callV (m2 := mX8_thingOf) dX8_measure_3 kX8_182 mzX8_thingOf hn rfl ⟨_, _, rfl⟩ rfl rfl (by decide) (xs8 (Nat.le_of_ble_eq_true rfl)) (by first | exact Nat.le_of_ble_eq_true rfl | omega) (by first | exact Nat.le_of_ble_eq_true rfl | omega) ?_
  rintro _ _ ⟨rfl, rfl⟩
  refine E_astore dX8_measure_6 (by decide) rfl ?_
  refine E_aload dX8_measure_8 rfl ?_
  refine E_ifnonnull (tgt := 16) dX8_measure_10 (by decide) (fun q10 h10 => absurd h10 (by intro z; cases z)) (fun h10 => ?_)
  refine E_ldc dX8_measure_13 oX8_196 ?_
  refine E_iret dX8_measure_15 rfl rfl ?_
  exact ⟨rfl, rfl⟩
theorem c_measure_o {S : xS} (p i : Int32) (v : UInt32) {j : Nat} (hn : CC mX8_thingOf 3 0 0 [xR (some (8, 0)), xI p, xI i] S (aR (some (6, j)) S)) (hv : ¬ (Op.cmpValue (FP.fcmp v v) .l = 0 ∧ Op.cmpValue (FP.fcmp v 1148846080) .l ≤ 0 ∧ ¬ Op.cmpValue (FP.fcmp v 3296329728) .g < 0)) : CC mX8_measure 4 0 0 [xR (some (8, 0)), xI p, xI i, xF v] S (aI (-200000) S) := by
  refine CC_of mpX8_measure rfl (Nat.le_of_ble_eq_true rfl) ?_
  refine E_aload_n dX8_measure_0 rfl rfl ?_
  refine E_iload_n dX8_measure_1 rfl rfl ?_
  refine E_iload_n dX8_measure_2 rfl rfl ?_
  refine E_callV (m2 := mX8_thingOf) dX8_measure_3 kX8_182 mzX8_thingOf hn rfl ⟨_, _, rfl⟩ rfl rfl (by decide) (xs8 (Nat.le_of_ble_eq_true rfl)) (by first | exact Nat.le_of_ble_eq_true rfl | omega) (by first | exact Nat.le_of_ble_eq_true rfl | omega) ?_
  rintro _ _ ⟨rfl, rfl⟩
  refine E_astore dX8_measure_6 (by decide) rfl ?_
  refine E_aload dX8_measure_8 rfl ?_
  refine E_ifnonnull (tgt := 16) dX8_measure_10 (by decide) (fun q10 h10 => ?_) (fun h10 => ?_)
  · refine E_fload_n dX8_measure_16 rfl rfl ?_
    refine E_fload_n dX8_measure_17 rfl rfl ?_
    refine E_fcmp dX8_measure_18 ?_
    refine E_if_ne (tgt := 36) dX8_measure_19 (by decide) (fun h19 => ?_) (fun h19 => ?_)
    · refine E_ldc dX8_measure_36 oX8_199 ?_
      refine E_iret dX8_measure_38 rfl rfl ?_
      exact ⟨rfl, rfl⟩
    · refine E_fload_n dX8_measure_22 rfl rfl ?_
      refine E_ldcf dX8_measure_23 oX8_197 ?_
      refine E_fcmp dX8_measure_25 ?_
      refine E_if_gt (tgt := 36) dX8_measure_26 (by decide) (fun h26 => ?_) (fun h26 => ?_)
      · refine E_ldc dX8_measure_36 oX8_199 ?_
        refine E_iret dX8_measure_38 rfl rfl ?_
        exact ⟨rfl, rfl⟩
      · refine E_fload_n dX8_measure_29 rfl rfl ?_
        refine E_ldcf dX8_measure_30 oX8_198 ?_
        refine E_fcmp dX8_measure_32 ?_
        refine E_if_ge (tgt := 39) dX8_measure_33 (by decide) (fun h33 => ?_) (fun h33 => ?_)
        · exact absurd ⟨h19, Int32.not_lt.mp h26, Int32.not_lt.mpr h33⟩ hv
        · refine E_ldc dX8_measure_36 oX8_199 ?_
          refine E_iret dX8_measure_38 rfl rfl ?_
          exact ⟨rfl, rfl⟩
  · cases h10
theorem c_measure_s {S : xS} (p i : Int32) (v : UInt32) {j : Nat} (hn : CC mX8_thingOf 3 0 0 [xR (some (8, 0)), xI p, xI i] S (aR (some (6, j)) S)) (hv : Op.cmpValue (FP.fcmp v v) .l = 0 ∧ Op.cmpValue (FP.fcmp v 1148846080) .l ≤ 0 ∧ ¬ Op.cmpValue (FP.fcmp v 3296329728) .g < 0) (hnan : vf_n32 (FP.fmul v 1120403456)) : CC mX8_measure 4 0 0 [xR (some (8, 0)), xI p, xI i, xF v] S (aI (FP.f2i (FP.fmul v 1120403456)) (sI (sI (sI S 6 j 2 (FP.f2i (FP.fmul v 1120403456))) 6 j 3 (gI S 8 0 5)) 6 j 4 1)) := by
  refine CC_of mpX8_measure rfl (Nat.le_of_ble_eq_true rfl) ?_
  refine E_aload_n dX8_measure_0 rfl rfl ?_
  refine E_iload_n dX8_measure_1 rfl rfl ?_
  refine E_iload_n dX8_measure_2 rfl rfl ?_
  refine E_callV (m2 := mX8_thingOf) dX8_measure_3 kX8_182 mzX8_thingOf hn rfl ⟨_, _, rfl⟩ rfl rfl (by decide) (xs8 (Nat.le_of_ble_eq_true rfl)) (by first | exact Nat.le_of_ble_eq_true rfl | omega) (by first | exact Nat.le_of_ble_eq_true rfl | omega) ?_
  rintro _ _ ⟨rfl, rfl⟩
  refine E_astore dX8_measure_6 (by decide) rfl ?_
  refine E_aload dX8_measure_8 rfl ?_
  refine E_ifnonnull (tgt := 16) dX8_measure_10 (by decide) (fun q10 h10 => ?_) (fun h10 => ?_)
  · refine E_fload_n dX8_measure_16 rfl rfl ?_
    refine E_fload_n dX8_measure_17 rfl rfl ?_
    refine E_fcmp dX8_measure_18 ?_
    refine E_if_ne (tgt := 36) dX8_measure_19 (by decide) (fun h19 => absurd h19 (fun z => z hv.1)) (fun h19 => ?_)
    refine E_fload_n dX8_measure_22 rfl rfl ?_
    refine E_ldcf dX8_measure_23 oX8_197 ?_
    refine E_fcmp dX8_measure_25 ?_
    refine E_if_gt (tgt := 36) dX8_measure_26 (by decide) (fun h26 => absurd h26 (Int32.not_lt.mpr hv.2.1)) (fun h26 => ?_)
    refine E_fload_n dX8_measure_29 rfl rfl ?_
    refine E_ldcf dX8_measure_30 oX8_198 ?_
    refine E_fcmp dX8_measure_32 ?_
    refine E_if_ge (tgt := 39) dX8_measure_33 (by decide) (fun h33 => ?_) (fun h33 => absurd h33 (fun z => z (Int32.not_lt.mp hv.2.2)))
    refine E_fload_n dX8_measure_39 rfl rfl ?_
    refine E_ldcf dX8_measure_40 oX8_200 ?_
    refine E_fmul dX8_measure_42 hnan ?_
    refine E_f2i dX8_measure_43 ?_
    refine E_istore dX8_measure_44 (by decide) rfl ?_
    refine E_aload dX8_measure_46 rfl ?_
    refine E_iload dX8_measure_48 rfl ?_
    refine E_aload_n dX8_measure_50 rfl rfl ?_
    refine E_getI dX8_measure_51 fX8_45 rfl rfl rfl rfl ?_
    refine E_callV (m2 := mX6_takeMeasure) dX8_measure_54 kX8_201 mzX6_takeMeasure (c_X6_takeMeasure j _ _) rfl ⟨_, _, rfl⟩ rfl rfl (by decide) (xs8 (Nat.le_of_ble_eq_true rfl)) (by first | exact Nat.le_of_ble_eq_true rfl | omega) (by first | exact Nat.le_of_ble_eq_true rfl | omega) ?_
    rintro _ _ ⟨rfl, rfl⟩
    refine E_iload dX8_measure_57 rfl ?_
    refine E_iret dX8_measure_59 rfl rfl ?_
    exact ⟨rfl, rfl⟩
  · cases h10
theorem c_put_n {S : xS} (hX : xShX S) (p x : Int32) (h : xpl S p = none) : CC mX8_put 3 0 0 [xR (some (8, 0)), xI p, xI x] S (aI 0 S) := by
  refine CC_of mpX8_put rfl (Nat.le_of_ble_eq_true rfl) ?_
  refine E_aload_n dX8_put_0 rfl rfl ?_
  refine E_iload_n dX8_put_1 rfl rfl ?_
  refine E_callV (m2 := mX8_poolOf) dX8_put_2 kX8_58 mzX8_poolOf (c_poolOf hX p h) rfl ⟨_, _, rfl⟩ rfl rfl (by decide) (xs8 (Nat.le_of_ble_eq_true rfl)) (by first | exact Nat.le_of_ble_eq_true rfl | omega) (by first | exact Nat.le_of_ble_eq_true rfl | omega) ?_
  rintro _ _ ⟨rfl, rfl⟩
  refine E_astore_n dX8_put_5 rfl (by decide) rfl ?_
  refine E_aload_n dX8_put_6 rfl rfl ?_
  refine E_ifnull (tgt := 21) dX8_put_7 (by decide) (fun h7 => ?_) (fun q7 h7 => absurd h7 (by intro z; cases z))
  refine E_iconst (v := 0) dX8_put_21 (by decide) ?_
  refine E_iret dX8_put_22 rfl rfl ?_
  exact ⟨rfl, rfl⟩
theorem c_put_s {S : xS} (hX : xShX S) (p x : Int32) {P : Nat} (h : xpl S p = some (3, P)) : CC mX8_put 3 0 0 [xR (some (8, 0)), xI p, xI x] S (aI (if 1 ≤ x ∧ x ≤ 240 then 1 else 0) (if 1 ≤ x ∧ x ≤ 240 then (sI S 3 P 8 (if (gI S 3 P 8) < (gI S 8 0 5) + x then (gI S 8 0 5) + x else (gI S 3 P 8))) else S)) := by
  refine CC_of mpX8_put rfl (Nat.le_of_ble_eq_true rfl) ?_
  refine E_aload_n dX8_put_0 rfl rfl ?_
  refine E_iload_n dX8_put_1 rfl rfl ?_
  refine E_callV (m2 := mX8_poolOf) dX8_put_2 kX8_58 mzX8_poolOf (c_poolOf hX p h) rfl ⟨_, _, rfl⟩ rfl rfl (by decide) (xs8 (Nat.le_of_ble_eq_true rfl)) (by first | exact Nat.le_of_ble_eq_true rfl | omega) (by first | exact Nat.le_of_ble_eq_true rfl | omega) ?_
  rintro _ _ ⟨rfl, rfl⟩
  refine E_astore_n dX8_put_5 rfl (by decide) rfl ?_
  refine E_aload_n dX8_put_6 rfl rfl ?_
  refine E_ifnull (tgt := 21) dX8_put_7 (by decide) (fun h7 => ?_) (fun q7 h7 => ?_)
  · cases h7
  · refine E_iload_n dX8_put_10 rfl rfl ?_
    refine E_iconst (v := 1) dX8_put_11 (by decide) ?_
    refine E_sipush (v := 240) dX8_put_12 (by decide) ?_
    refine E_callS (m2 := mX8_isWithin) dX8_put_15 kX8_48 mzX8_isWithin (c_X8_isWithin _ _ _) rfl rfl (by decide) (xs8 (Nat.le_of_ble_eq_true rfl)) (by first | exact Nat.le_of_ble_eq_true rfl | omega) (by first | exact Nat.le_of_ble_eq_true rfl | omega) ?_
    rintro _ _ ⟨rfl, rfl⟩
    refine E_if_ne (tgt := 23) dX8_put_18 (by decide) (fun h18 => ?_) (fun h18 => ?_)
    · rw [if_pos (ite1 h18), if_pos (ite1 h18)]
      refine E_aload_n dX8_put_23 rfl rfl ?_
      refine E_aload_n dX8_put_24 rfl rfl ?_
      refine E_getI dX8_put_25 fX8_204 rfl rfl rfl rfl ?_
      refine E_aload_n dX8_put_28 rfl rfl ?_
      refine E_getI dX8_put_29 fX8_45 rfl rfl rfl rfl ?_
      refine E_iload_n dX8_put_32 rfl rfl ?_
      refine E_iadd dX8_put_33 ?_
      refine E_max dX8_put_34 kX8_207 (by decide) (xs8 (Nat.le_of_ble_eq_true rfl)) ?_
      refine E_putI dX8_put_37 fX8_204 rfl rfl rfl rfl rfl ?_
      refine E_iconst (v := 1) dX8_put_40 (by decide) ?_
      refine E_iret dX8_put_41 rfl rfl ?_
      exact ⟨rfl, rfl⟩
    · rw [if_neg (ite0 h18), if_neg (ite0 h18)]
      refine E_iconst (v := 0) dX8_put_21 (by decide) ?_
      refine E_iret dX8_put_22 rfl rfl ?_
      exact ⟨rfl, rfl⟩
theorem c_shut_n {S : xS} (hX : xShX S) (p : Int32) (h : xpl S p = none) : CC mX8_shut 4 0 0 [xR (some (8, 0)), xI p] S (aI (-1) S) := by
  refine CC_of mpX8_shut rfl (Nat.le_of_ble_eq_true rfl) ?_
  refine E_aload_n dX8_shut_0 rfl rfl ?_
  refine E_iload_n dX8_shut_1 rfl rfl ?_
  refine E_callV (m2 := mX8_poolOf) dX8_shut_2 kX8_58 mzX8_poolOf (c_poolOf hX p h) rfl ⟨_, _, rfl⟩ rfl rfl (by decide) (xs8 (Nat.le_of_ble_eq_true rfl)) (by first | exact Nat.le_of_ble_eq_true rfl | omega) (by first | exact Nat.le_of_ble_eq_true rfl | omega) ?_
  rintro _ _ ⟨rfl, rfl⟩
  refine E_astore_n dX8_shut_5 rfl (by decide) rfl ?_
  refine E_aload_n dX8_shut_6 rfl rfl ?_
  refine E_ifnonnull (tgt := 14) dX8_shut_7 (by decide) (fun q7 h7 => absurd h7 (by intro z; cases z)) (fun h7 => ?_)
  refine E_iconst (v := -1) dX8_shut_10 (by decide) ?_
  refine E_goto (tgt := 22) dX8_shut_11 (by decide) ?_
  refine E_iret dX8_shut_22 rfl rfl ?_
  exact ⟨rfl, rfl⟩
theorem c_shut_s {S : xS} (hX : xShX S) (p : Int32) {P n : Nat} (h : xpl S p = some (3, P)) (hp : xShP S P n) : CC mX8_shut 4 0 0 [xR (some (8, 0)), xI p] S (aI (xrs S P n (gI S 8 0 5)) S) := by
  refine CC_of mpX8_shut rfl (Nat.le_of_ble_eq_true rfl) ?_
  refine E_aload_n dX8_shut_0 rfl rfl ?_
  refine E_iload_n dX8_shut_1 rfl rfl ?_
  refine E_callV (m2 := mX8_poolOf) dX8_shut_2 kX8_58 mzX8_poolOf (c_poolOf hX p h) rfl ⟨_, _, rfl⟩ rfl rfl (by decide) (xs8 (Nat.le_of_ble_eq_true rfl)) (by first | exact Nat.le_of_ble_eq_true rfl | omega) (by first | exact Nat.le_of_ble_eq_true rfl | omega) ?_
  rintro _ _ ⟨rfl, rfl⟩
  refine E_astore_n dX8_shut_5 rfl (by decide) rfl ?_
  refine E_aload_n dX8_shut_6 rfl rfl ?_
  refine E_ifnonnull (tgt := 14) dX8_shut_7 (by decide) (fun q7 h7 => ?_) (fun h7 => ?_)
  · refine E_aload_n dX8_shut_14 rfl rfl ?_
    refine E_aload_n dX8_shut_15 rfl rfl ?_
    refine E_getI dX8_shut_16 fX8_45 rfl rfl rfl rfl ?_
    refine E_callV (m2 := mX3_reasonsIn) dX8_shut_19 kX8_213 mzX3_reasonsIn (c_X3_reasonsIn P n hp _) rfl ⟨_, _, rfl⟩ rfl rfl (by decide) (xs8 (Nat.le_of_ble_eq_true rfl)) (by first | exact Nat.le_of_ble_eq_true rfl | omega) (by first | exact Nat.le_of_ble_eq_true rfl | omega) ?_
    rintro _ _ ⟨rfl, rfl⟩
    refine E_iret dX8_shut_22 rfl rfl ?_
    exact ⟨rfl, rfl⟩
  · cases h7
theorem c_minutes_n {S : xS} (hX : xShX S) (p : Int32) (h : xpl S p = none) : CC mX8_minutes 3 0 0 [xR (some (8, 0)), xI p] S (aI (-1) S) := by
  refine CC_of mpX8_minutes rfl (Nat.le_of_ble_eq_true rfl) ?_
  refine E_aload_n dX8_minutes_0 rfl rfl ?_
  refine E_iload_n dX8_minutes_1 rfl rfl ?_
  refine E_callV (m2 := mX8_poolOf) dX8_minutes_2 kX8_58 mzX8_poolOf (c_poolOf hX p h) rfl ⟨_, _, rfl⟩ rfl rfl (by decide) (xs8 (Nat.le_of_ble_eq_true rfl)) (by first | exact Nat.le_of_ble_eq_true rfl | omega) (by first | exact Nat.le_of_ble_eq_true rfl | omega) ?_
  rintro _ _ ⟨rfl, rfl⟩
  refine E_astore_n dX8_minutes_5 rfl (by decide) rfl ?_
  refine E_aload_n dX8_minutes_6 rfl rfl ?_
  refine E_ifnonnull (tgt := 14) dX8_minutes_7 (by decide) (fun q7 h7 => absurd h7 (by intro z; cases z)) (fun h7 => ?_)
  refine E_iconst (v := -1) dX8_minutes_10 (by decide) ?_
  refine E_goto (tgt := 18) dX8_minutes_11 (by decide) ?_
  refine E_iret dX8_minutes_18 rfl rfl ?_
  exact ⟨rfl, rfl⟩
theorem c_minutes_s {S : xS} (hX : xShX S) (p : Int32) {P : Nat} (h : xpl S p = some (3, P)) : CC mX8_minutes 3 0 0 [xR (some (8, 0)), xI p] S (aI (gI S 3 P 9) S) := by
  refine CC_of mpX8_minutes rfl (Nat.le_of_ble_eq_true rfl) ?_
  refine E_aload_n dX8_minutes_0 rfl rfl ?_
  refine E_iload_n dX8_minutes_1 rfl rfl ?_
  refine E_callV (m2 := mX8_poolOf) dX8_minutes_2 kX8_58 mzX8_poolOf (c_poolOf hX p h) rfl ⟨_, _, rfl⟩ rfl rfl (by decide) (xs8 (Nat.le_of_ble_eq_true rfl)) (by first | exact Nat.le_of_ble_eq_true rfl | omega) (by first | exact Nat.le_of_ble_eq_true rfl | omega) ?_
  rintro _ _ ⟨rfl, rfl⟩
  refine E_astore_n dX8_minutes_5 rfl (by decide) rfl ?_
  refine E_aload_n dX8_minutes_6 rfl rfl ?_
  refine E_ifnonnull (tgt := 14) dX8_minutes_7 (by decide) (fun q7 h7 => ?_) (fun h7 => ?_)
  · refine E_aload_n dX8_minutes_14 rfl rfl ?_
    refine E_getI dX8_minutes_15 fX8_216 rfl rfl rfl rfl ?_
    refine E_iret dX8_minutes_18 rfl rfl ?_
    exact ⟨rfl, rfl⟩
  · cases h7
theorem c_watcher_n {S : xS} (p k : Int32) (hn : CC mX8_postOf 3 0 0 [xR (some (8, 0)), xI p, xI k] S (aR none S)) : CC mX8_watcher 4 0 0 [xR (some (8, 0)), xI p, xI k] S (aI (-1) S) := by
  refine CC_of mpX8_watcher rfl (Nat.le_of_ble_eq_true rfl) ?_
  refine E_aload_n dX8_watcher_0 rfl rfl ?_
  refine E_iload_n dX8_watcher_1 rfl rfl ?_
  refine E_iload_n dX8_watcher_2 rfl rfl ?_
  refine E_callV (m2 := mX8_postOf) dX8_watcher_3 kX8_219 mzX8_postOf hn rfl ⟨_, _, rfl⟩ rfl rfl (by decide) (xs8 (Nat.le_of_ble_eq_true rfl)) (by first | exact Nat.le_of_ble_eq_true rfl | omega) (by first | exact Nat.le_of_ble_eq_true rfl | omega) ?_
  rintro _ _ ⟨rfl, rfl⟩
  refine E_astore_n dX8_watcher_6 rfl (by decide) rfl ?_
  refine E_aload_n dX8_watcher_7 rfl rfl ?_
  refine E_ifnonnull (tgt := 15) dX8_watcher_8 (by decide) (fun q8 h8 => absurd h8 (by intro z; cases z)) (fun h8 => ?_)
  refine E_iconst (v := -1) dX8_watcher_11 (by decide) ?_
  refine E_goto (tgt := 22) dX8_watcher_12 (by decide) ?_
  refine E_iret dX8_watcher_22 rfl rfl ?_
  exact ⟨rfl, rfl⟩
theorem c_watcher_e {S : xS} (p k : Int32) {i : Nat} (hn : CC mX8_postOf 3 0 0 [xR (some (8, 0)), xI p, xI k] S (aR (some (4, i)) S)) (hw : (gR S 4 i 0) = none) : CC mX8_watcher 4 0 0 [xR (some (8, 0)), xI p, xI k] S (aI (-1) S) := by
  refine CC_of mpX8_watcher rfl (Nat.le_of_ble_eq_true rfl) ?_
  refine E_aload_n dX8_watcher_0 rfl rfl ?_
  refine E_iload_n dX8_watcher_1 rfl rfl ?_
  refine E_iload_n dX8_watcher_2 rfl rfl ?_
  refine E_callV (m2 := mX8_postOf) dX8_watcher_3 kX8_219 mzX8_postOf hn rfl ⟨_, _, rfl⟩ rfl rfl (by decide) (xs8 (Nat.le_of_ble_eq_true rfl)) (by first | exact Nat.le_of_ble_eq_true rfl | omega) (by first | exact Nat.le_of_ble_eq_true rfl | omega) ?_
  rintro _ _ ⟨rfl, rfl⟩
  refine E_astore_n dX8_watcher_6 rfl (by decide) rfl ?_
  refine E_aload_n dX8_watcher_7 rfl rfl ?_
  refine E_ifnonnull (tgt := 15) dX8_watcher_8 (by decide) (fun q8 h8 => ?_) (fun h8 => ?_)
  · refine E_aload_n dX8_watcher_15 rfl rfl ?_
    refine E_getR dX8_watcher_16 fX8_226 rfl rfl rfl hw ?_
    refine E_callS (m2 := mX8_numberOf) dX8_watcher_19 kX8_239 mzX8_numberOf c_X8_numberOf_n rfl rfl (by decide) (xs8 (Nat.le_of_ble_eq_true rfl)) (by first | exact Nat.le_of_ble_eq_true rfl | omega) (by first | exact Nat.le_of_ble_eq_true rfl | omega) ?_
    rintro _ _ ⟨rfl, rfl⟩
    refine E_iret dX8_watcher_22 rfl rfl ?_
    exact ⟨rfl, rfl⟩
  · cases h8
theorem c_watcher_s {S : xS} (p k : Int32) {i t : Nat} (hn : CC mX8_postOf 3 0 0 [xR (some (8, 0)), xI p, xI k] S (aR (some (4, i)) S)) (hw : (gR S 4 i 0) = some (7, t)) : CC mX8_watcher 4 0 0 [xR (some (8, 0)), xI p, xI k] S (aI (gI S 7 t 0) S) := by
  refine CC_of mpX8_watcher rfl (Nat.le_of_ble_eq_true rfl) ?_
  refine E_aload_n dX8_watcher_0 rfl rfl ?_
  refine E_iload_n dX8_watcher_1 rfl rfl ?_
  refine E_iload_n dX8_watcher_2 rfl rfl ?_
  refine E_callV (m2 := mX8_postOf) dX8_watcher_3 kX8_219 mzX8_postOf hn rfl ⟨_, _, rfl⟩ rfl rfl (by decide) (xs8 (Nat.le_of_ble_eq_true rfl)) (by first | exact Nat.le_of_ble_eq_true rfl | omega) (by first | exact Nat.le_of_ble_eq_true rfl | omega) ?_
  rintro _ _ ⟨rfl, rfl⟩
  refine E_astore_n dX8_watcher_6 rfl (by decide) rfl ?_
  refine E_aload_n dX8_watcher_7 rfl rfl ?_
  refine E_ifnonnull (tgt := 15) dX8_watcher_8 (by decide) (fun q8 h8 => ?_) (fun h8 => ?_)
  · refine E_aload_n dX8_watcher_15 rfl rfl ?_
    refine E_getR dX8_watcher_16 fX8_226 rfl rfl rfl hw ?_
    refine E_callS (m2 := mX8_numberOf) dX8_watcher_19 kX8_239 mzX8_numberOf (c_X8_numberOf_s t) rfl rfl (by decide) (xs8 (Nat.le_of_ble_eq_true rfl)) (by first | exact Nat.le_of_ble_eq_true rfl | omega) (by first | exact Nat.le_of_ble_eq_true rfl | omega) ?_
    rintro _ _ ⟨rfl, rfl⟩
    refine E_iret dX8_watcher_22 rfl rfl ?_
    exact ⟨rfl, rfl⟩
  · cases h8
theorem c_post_n1 {S : xS} (hX : xShX S) (p k x : Int32) (r : Option (Nat × Nat)) (hn : CC mX8_postOf 3 0 0 [xR (some (8, 0)), xI p, xI k] S (aR none S)) : CC mX8_post 4 0 0 [xR (some (8, 0)), xI p, xI k, xI x] S (aI (-2) S) := by
  refine CC_of mpX8_post rfl (Nat.le_of_ble_eq_true rfl) ?_
  refine E_aload_n dX8_post_0 rfl rfl ?_
  refine E_iload_n dX8_post_1 rfl rfl ?_
  refine E_iload_n dX8_post_2 rfl rfl ?_
  refine E_callV (m2 := mX8_postOf) dX8_post_3 kX8_219 mzX8_postOf hn rfl ⟨_, _, rfl⟩ rfl rfl (by decide) (xs8 (Nat.le_of_ble_eq_true rfl)) (by first | exact Nat.le_of_ble_eq_true rfl | omega) (by first | exact Nat.le_of_ble_eq_true rfl | omega) ?_
  rintro _ _ ⟨rfl, rfl⟩
  refine E_astore dX8_post_6 (by decide) rfl ?_
  refine E_aload_n dX8_post_8 rfl rfl ?_
  refine E_iload_n dX8_post_9 rfl rfl ?_
  refine E_callV (m2 := mX8_ticketOf) dX8_post_10 kX8_96 mzX8_ticketOf (c_ticketOf hX x rfl) rfl ⟨_, _, rfl⟩ rfl rfl (by decide) (xs8 (Nat.le_of_ble_eq_true rfl)) (by first | exact Nat.le_of_ble_eq_true rfl | omega) (by first | exact Nat.le_of_ble_eq_true rfl | omega) ?_
  rintro _ _ ⟨rfl, rfl⟩
  refine E_astore dX8_post_13 (by decide) rfl ?_
  refine E_aload dX8_post_15 rfl ?_
  refine E_ifnull (tgt := 50) dX8_post_17 (by decide) (fun h17 => ?_) (fun q17 h17 => absurd h17 (by intro z; cases z))
  refine E_bipush (v := -2) dX8_post_50 (by decide) ?_
  refine E_iret dX8_post_52 rfl rfl ?_
  exact ⟨rfl, rfl⟩
theorem c_post_n2 {S : xS} (hX : xShX S) (p k x : Int32) {i : Nat} (hn : CC mX8_postOf 3 0 0 [xR (some (8, 0)), xI p, xI k] S (aR (some (4, i)) S)) (ht : xtl S x = none) : CC mX8_post 4 0 0 [xR (some (8, 0)), xI p, xI k, xI x] S (aI (-2) S) := by
  refine CC_of mpX8_post rfl (Nat.le_of_ble_eq_true rfl) ?_
  refine E_aload_n dX8_post_0 rfl rfl ?_
  refine E_iload_n dX8_post_1 rfl rfl ?_
  refine E_iload_n dX8_post_2 rfl rfl ?_
  refine E_callV (m2 := mX8_postOf) dX8_post_3 kX8_219 mzX8_postOf hn rfl ⟨_, _, rfl⟩ rfl rfl (by decide) (xs8 (Nat.le_of_ble_eq_true rfl)) (by first | exact Nat.le_of_ble_eq_true rfl | omega) (by first | exact Nat.le_of_ble_eq_true rfl | omega) ?_
  rintro _ _ ⟨rfl, rfl⟩
  refine E_astore dX8_post_6 (by decide) rfl ?_
  refine E_aload_n dX8_post_8 rfl rfl ?_
  refine E_iload_n dX8_post_9 rfl rfl ?_
  refine E_callV (m2 := mX8_ticketOf) dX8_post_10 kX8_96 mzX8_ticketOf (c_ticketOf hX x ht) rfl ⟨_, _, rfl⟩ rfl rfl (by decide) (xs8 (Nat.le_of_ble_eq_true rfl)) (by first | exact Nat.le_of_ble_eq_true rfl | omega) (by first | exact Nat.le_of_ble_eq_true rfl | omega) ?_
  rintro _ _ ⟨rfl, rfl⟩
  refine E_astore dX8_post_13 (by decide) rfl ?_
  refine E_aload dX8_post_15 rfl ?_
  refine E_ifnull (tgt := 50) dX8_post_17 (by decide) (fun h17 => ?_) (fun q17 h17 => ?_)
  · cases h17
  · refine E_aload dX8_post_20 rfl ?_
    refine E_ifnull (tgt := 50) dX8_post_22 (by decide) (fun h22 => ?_) (fun q22 h22 => absurd h22 (by intro z; cases z))
    refine E_bipush (v := -2) dX8_post_50 (by decide) ?_
    refine E_iret dX8_post_52 rfl rfl ?_
    exact ⟨rfl, rfl⟩
theorem c_post_n3 {S : xS} (hX : xShX S) (p k x : Int32) {i t P P2 : Nat} (hn : CC mX8_postOf 3 0 0 [xR (some (8, 0)), xI p, xI k] S (aR (some (4, i)) S)) (ht : xtl S x = some (7, t)) (hp : xpl S p = some (3, P)) (htp : (gR S 7 t 1) = some (3, P2)) (hno : ¬ (P2 = P ∧ (gI S 7 t 2) = 5 ∧ ¬ (gI S 7 t 6) = 0 ∧ (gR S 7 t 12) = none ∧ 20 ≤ (gI S 8 0 5) - (gI S 7 t 13))) : CC mX8_post 4 0 0 [xR (some (8, 0)), xI p, xI k, xI x] S (aI (-2) S) := by
  refine CC_of mpX8_post rfl (Nat.le_of_ble_eq_true rfl) ?_
  refine E_aload_n dX8_post_0 rfl rfl ?_
  refine E_iload_n dX8_post_1 rfl rfl ?_
  refine E_iload_n dX8_post_2 rfl rfl ?_
  refine E_callV (m2 := mX8_postOf) dX8_post_3 kX8_219 mzX8_postOf hn rfl ⟨_, _, rfl⟩ rfl rfl (by decide) (xs8 (Nat.le_of_ble_eq_true rfl)) (by first | exact Nat.le_of_ble_eq_true rfl | omega) (by first | exact Nat.le_of_ble_eq_true rfl | omega) ?_
  rintro _ _ ⟨rfl, rfl⟩
  refine E_astore dX8_post_6 (by decide) rfl ?_
  refine E_aload_n dX8_post_8 rfl rfl ?_
  refine E_iload_n dX8_post_9 rfl rfl ?_
  refine E_callV (m2 := mX8_ticketOf) dX8_post_10 kX8_96 mzX8_ticketOf (c_ticketOf hX x ht) rfl ⟨_, _, rfl⟩ rfl rfl (by decide) (xs8 (Nat.le_of_ble_eq_true rfl)) (by first | exact Nat.le_of_ble_eq_true rfl | omega) (by first | exact Nat.le_of_ble_eq_true rfl | omega) ?_
  rintro _ _ ⟨rfl, rfl⟩
  refine E_astore dX8_post_13 (by decide) rfl ?_
  refine E_aload dX8_post_15 rfl ?_
  refine E_ifnull (tgt := 50) dX8_post_17 (by decide) (fun h17 => ?_) (fun q17 h17 => ?_)
  · cases h17
  · refine E_aload dX8_post_20 rfl ?_
    refine E_ifnull (tgt := 50) dX8_post_22 (by decide) (fun h22 => ?_) (fun q22 h22 => ?_)
    · cases h22
    · refine E_aload dX8_post_25 rfl ?_
      refine E_getR dX8_post_27 fX8_108 rfl rfl rfl htp ?_
      refine E_aload_n dX8_post_30 rfl rfl ?_
      refine E_iload_n dX8_post_31 rfl rfl ?_
      refine E_callV (m2 := mX8_poolOf) dX8_post_32 kX8_58 mzX8_poolOf (c_poolOf hX p hp) rfl ⟨_, _, rfl⟩ rfl rfl (by decide) (xs8 (Nat.le_of_ble_eq_true rfl)) (by first | exact Nat.le_of_ble_eq_true rfl | omega) (by first | exact Nat.le_of_ble_eq_true rfl | omega) ?_
      rintro _ _ ⟨rfl, rfl⟩
      refine E_acmp_ne (tgt := 50) dX8_post_35 (by decide) (by intro q h; cases h; simp) (by intro q h; cases h; simp) (fun h35 => ?_) (fun h35 => ?_)
      · refine E_bipush (v := -2) dX8_post_50 (by decide) ?_
        refine E_iret dX8_post_52 rfl rfl ?_
        exact ⟨rfl, rfl⟩
      · refine E_aload dX8_post_38 rfl ?_
        refine E_aload_n dX8_post_40 rfl rfl ?_
        refine E_getI dX8_post_41 fX8_45 rfl rfl rfl rfl ?_
        refine E_callV (m2 := mX7_mayStand) dX8_post_44 kX8_223 mzX7_mayStand (c_X7_mayStand t _) rfl ⟨_, _, rfl⟩ rfl rfl (by decide) (xs8 (Nat.le_of_ble_eq_true rfl)) (by first | exact Nat.le_of_ble_eq_true rfl | omega) (by first | exact Nat.le_of_ble_eq_true rfl | omega) ?_
        rintro _ _ ⟨rfl, rfl⟩
        refine E_if_ne (tgt := 53) dX8_post_47 (by decide) (fun h47 => ?_) (fun h47 => ?_)
        · exact absurd ⟨by cases h35; rfl, ite1 h47⟩ hno
        · refine E_bipush (v := -2) dX8_post_50 (by decide) ?_
          refine E_iret dX8_post_52 rfl rfl ?_
          exact ⟨rfl, rfl⟩
