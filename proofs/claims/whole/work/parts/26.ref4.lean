/-! the reference: its calls, on -/
theorem l_r_go {S : xS} (hM : xShM S) {m : Nat} (hm : m < 1000) : ∀ (n i : Nat), i + n = m → ∀ o, Ex mX9_go 3 0 0 (0, fun _ => 0) (aI (gI (xrgm S m) 9 0 0) (xrgm S m)) 27 [some (xR (some (9, 0))), some (xI (nI m)), some (xI (nI i)), o] [] (xrgm S i)
  | 0, i, hi, o => by
    have hi : i = m := by omega
    subst hi
    refine E_iload_n dX9_go_27 rfl rfl ?_
    refine E_iload_n dX9_go_28 rfl rfl ?_
    refine E_icmp_ge (tgt := 124) dX9_go_29 (by decide) (fun h29 => ?_) (fun h29 => absurd h29 ((fun z => z (nI_le (a := i) (b := i) (by omega) (by omega)))))
    refine E_aload_n dX9_go_124 rfl rfl ?_
    refine E_getI dX9_go_125 fX9_148 rfl rfl rfl rfl ?_
    refine E_iret dX9_go_128 rfl rfl ?_
    exact ⟨rfl, rfl⟩
  | n + 1, i, hi, o => by
    refine E_iload_n dX9_go_27 rfl rfl ?_
    refine E_iload_n dX9_go_28 rfl rfl ?_
    refine E_icmp_ge (tgt := 124) dX9_go_29 (by decide) (fun h29 => absurd h29 ((nI_ge (a := i) (b := m) (by omega) (by omega)))) (fun h29 => ?_)
    refine E_iconst (v := 0) dX9_go_32 (by decide) ?_
    refine E_istore_n dX9_go_33 rfl (by decide) rfl ?_
    refine l_r_go1 (S := xrgm S i) (xShM_2 hM (xrgm_2 i)) (nI m) (nI i) ?_ 4 0 rfl
    intro o2
    refine E_aload_n dX9_go_108 rfl rfl ?_
    refine E_dup dX9_go_109 rfl ?_
    refine E_getI dX9_go_110 fX9_148 rfl rfl rfl rfl ?_
    refine E_iconst (v := 1) dX9_go_113 (by decide) ?_
    refine E_iadd dX9_go_114 ?_
    refine E_putI dX9_go_115 fX9_148 rfl rfl rfl rfl rfl ?_
    refine E_iinc (v := nI (i + 1)) dX9_go_118 rfl (nI_i1 i) (by decide) rfl ?_
    refine E_goto (tgt := 27) dX9_go_121 (by decide) ?_
    exact l_r_go hM hm n (i + 1) (by omega) _
theorem c_r_go_y {S : xS} (hM : xShM S) {m : Nat} (hm1 : 1 ≤ m) (hm : m ≤ 240) (hn : (gI S 9 0 0) + nI m < 1440) : CC mX9_go 3 0 0 [xR (some (9, 0)), xI (nI m)] S (aI (gI (xrgm S m) 9 0 0) (xrgm S m)) := by
  refine CC_of mpX9_go rfl (Nat.le_of_ble_eq_true rfl) ?_
  have h1 : (1 : Int32) ≤ nI m ∧ nI m ≤ 240 := ⟨nI_le (a := 1) (by omega) (by omega), nI_le (b := 240) (by omega) (by omega)⟩
  refine E_iload_n dX9_go_0 rfl rfl ?_
  refine E_iconst (v := 1) dX9_go_1 (by decide) ?_
  refine E_sipush (v := 240) dX9_go_2 (by decide) ?_
  refine E_callS (m2 := mX9_in) dX9_go_5 kX9_141 mzX9_in (c_X9_in _ _ _) rfl rfl (by decide) (xs8 (Nat.le_of_ble_eq_true rfl)) (by first | exact Nat.le_of_ble_eq_true rfl | omega) (by first | exact Nat.le_of_ble_eq_true rfl | omega) ?_
  rintro _ _ ⟨rfl, rfl⟩; rw [if_pos h1]
  refine E_if_eq (tgt := 23) dX9_go_8 (by decide) (fun h8 => absurd h8 (by decide)) (fun h8 => ?_)
  refine E_aload_n dX9_go_11 rfl rfl ?_
  refine E_getI dX9_go_12 fX9_148 rfl rfl rfl rfl ?_
  refine E_iload_n dX9_go_15 rfl rfl ?_
  refine E_iadd dX9_go_16 ?_
  refine E_sipush (v := 1440) dX9_go_17 (by decide) ?_
  refine E_icmp_lt (tgt := 25) dX9_go_20 (by decide) (fun h20 => ?_) (fun h20 => absurd h20 (fun z => z hn))
  refine E_iconst (v := 0) dX9_go_25 (by decide) ?_
  refine E_istore_n dX9_go_26 rfl (by decide) rfl ?_
  exact l_r_go hM (by omega) m 0 (by omega) _
theorem c_r_go_n {S : xS} (x : Int32) (h : ¬ ((1 ≤ x ∧ x ≤ 240) ∧ (gI S 9 0 0) + x < 1440)) : CC mX9_go 3 0 0 [xR (some (9, 0)), xI x] S (aI (-1) S) := by
  refine CC_of mpX9_go rfl (Nat.le_of_ble_eq_true rfl) ?_
  refine E_iload_n dX9_go_0 rfl rfl ?_
  refine E_iconst (v := 1) dX9_go_1 (by decide) ?_
  refine E_sipush (v := 240) dX9_go_2 (by decide) ?_
  refine E_callS (m2 := mX9_in) dX9_go_5 kX9_141 mzX9_in (c_X9_in _ _ _) rfl rfl (by decide) (xs8 (Nat.le_of_ble_eq_true rfl)) (by first | exact Nat.le_of_ble_eq_true rfl | omega) (by first | exact Nat.le_of_ble_eq_true rfl | omega) ?_
  rintro _ _ ⟨rfl, rfl⟩
  refine E_if_eq (tgt := 23) dX9_go_8 (by decide) (fun h8 => ?_) (fun h8 => ?_)
  · refine E_iconst (v := -1) dX9_go_23 (by decide) ?_
    refine E_iret dX9_go_24 rfl rfl ?_
    exact ⟨rfl, rfl⟩
  · refine E_aload_n dX9_go_11 rfl rfl ?_
    refine E_getI dX9_go_12 fX9_148 rfl rfl rfl rfl ?_
    refine E_iload_n dX9_go_15 rfl rfl ?_
    refine E_iadd dX9_go_16 ?_
    refine E_sipush (v := 1440) dX9_go_17 (by decide) ?_
    refine E_icmp_lt (tgt := 25) dX9_go_20 (by decide) (fun h20 => ?_) (fun h20 => ?_)
    · exact absurd ⟨ite1 h8, h20⟩ h
    · refine E_iconst (v := -1) dX9_go_23 (by decide) ?_
      refine E_iret dX9_go_24 rfl rfl ?_
      exact ⟨rfl, rfl⟩
theorem c_r_clash {S : xS} : CC mX9_clash 1 0 0 [xR (some (9, 0))] S (aI (gI S 9 0 36) S) := by
  refine CC_of mpX9_clash rfl (Nat.le_of_ble_eq_true rfl) ?_
  refine E_aload_n dX9_clash_0 rfl rfl ?_
  refine E_getI dX9_clash_1 fX9_110 rfl rfl rfl rfl ?_
  refine E_iret dX9_clash_4 rfl rfl ?_
  exact ⟨rfl, rfl⟩
theorem c_r_eye_n {S : xS} (hM : xShM S) (p : Int32) (h : ¬ xhas S p) (b : Int32) : CC mX9_eye 3 0 0 [xR (some (9, 0)), xI p, xI b] S (aI (0) S) := by
  refine CC_of mpX9_eye rfl (Nat.le_of_ble_eq_true rfl) ?_
  refine E_aload_n dX9_eye_0 rfl rfl ?_
  refine E_iload_n dX9_eye_1 rfl rfl ?_
  refine E_callV (m2 := mX9_has) dX9_eye_2 kX9_165 mzX9_has (c_has_n hM p h) rfl ⟨_, _, rfl⟩ rfl rfl (by decide) (xs8 (Nat.le_of_ble_eq_true rfl)) (by first | exact Nat.le_of_ble_eq_true rfl | omega) (by first | exact Nat.le_of_ble_eq_true rfl | omega) ?_
  rintro _ _ ⟨rfl, rfl⟩
  refine E_if_eq (tgt := 18) dX9_eye_5 (by decide) (fun h5 => ?_) (fun h5 => absurd h5 (by decide))
  refine E_iconst (v := 0) dX9_eye_18 (by decide) ?_
  refine E_iret dX9_eye_19 rfl rfl ?_
  exact ⟨rfl, rfl⟩
theorem c_r_eye_s {S : xS} (hM : xShM S) {P : Nat} (hP : P < 4) (h : ¬ (gI S 51 0 P) = 0) (b : Int32) (hb : xB b) : CC mX9_eye 3 0 0 [xR (some (9, 0)), xI (nI P), xI b] S (aI (if (gI S 60 0 P) = b then 0 else 1) (if (gI S 60 0 P) = b then S else (sI (sI S 60 0 P b) 59 0 P 1))) := by
  refine CC_of mpX9_eye rfl (Nat.le_of_ble_eq_true rfl) ?_
  refine E_aload_n dX9_eye_0 rfl rfl ?_
  refine E_iload_n dX9_eye_1 rfl rfl ?_
  refine E_callV (m2 := mX9_has) dX9_eye_2 kX9_165 mzX9_has (c_has_y hM hP h) rfl ⟨_, _, rfl⟩ rfl rfl (by decide) (xs8 (Nat.le_of_ble_eq_true rfl)) (by first | exact Nat.le_of_ble_eq_true rfl | omega) (by first | exact Nat.le_of_ble_eq_true rfl | omega) ?_
  rintro _ _ ⟨rfl, rfl⟩
  refine E_if_eq (tgt := 18) dX9_eye_5 (by decide) (fun h5 => absurd h5 (by decide)) (fun h5 => ?_)
  refine E_aload_n dX9_eye_8 rfl rfl ?_
  refine E_getR dX9_eye_9 fX9_38 rfl rfl rfl (rM_10 hM) ?_
  refine E_iload_n dX9_eye_12 rfl rfl ?_
  refine E_zald dX9_eye_13 rfl rfl (by decide) (lM_10 hM) (vin hP (by omega)) (vnat hP (by omega)) rfl ?_
  refine E_iload_n dX9_eye_14 rfl rfl ?_
  refine E_icmp_ne (tgt := 20) dX9_eye_15 (by decide) (fun h15 => ?_) (fun h15 => ?_)
  · rw [if_neg h15, if_neg h15]
    refine E_aload_n dX9_eye_20 rfl rfl ?_
    refine E_getR dX9_eye_21 fX9_38 rfl rfl rfl (rM_10 hM) ?_
    refine E_iload_n dX9_eye_24 rfl rfl ?_
    refine E_iload_n dX9_eye_25 rfl rfl ?_
    refine E_zast dX9_eye_26 rfl rfl (by decide) (lM_10 hM) (vin hP (by omega)) (vnat hP (by omega)) hb.v ?_
    refine E_aload_n dX9_eye_27 rfl rfl ?_
    refine E_getR dX9_eye_28 fX9_35 rfl rfl rfl (rM_9 hM) ?_
    refine E_iload_n dX9_eye_31 rfl rfl ?_
    refine E_iconst (v := 1) dX9_eye_32 (by decide) ?_
    refine E_zast dX9_eye_33 rfl rfl (by decide) (lM_9 hM) (vin hP (by omega)) (vnat hP (by omega)) rfl ?_
    refine E_iconst (v := 1) dX9_eye_34 (by decide) ?_
    refine E_iret dX9_eye_35 rfl rfl ?_
    exact ⟨rfl, rfl⟩
  · rw [if_pos h15, if_pos h15]
    refine E_iconst (v := 0) dX9_eye_18 (by decide) ?_
    refine E_iret dX9_eye_19 rfl rfl ?_
    exact ⟨rfl, rfl⟩
theorem c_r_hand_n {S : xS} (hM : xShM S) (p : Int32) (h : ¬ xhas S p)  : CC mX9_hand 3 0 0 [xR (some (9, 0)), xI p] S (aI (-1) S) := by
  refine CC_of mpX9_hand rfl (Nat.le_of_ble_eq_true rfl) ?_
  refine E_aload_n dX9_hand_0 rfl rfl ?_
  refine E_iload_n dX9_hand_1 rfl rfl ?_
  refine E_callV (m2 := mX9_has) dX9_hand_2 kX9_165 mzX9_has (c_has_n hM p h) rfl ⟨_, _, rfl⟩ rfl rfl (by decide) (xs8 (Nat.le_of_ble_eq_true rfl)) (by first | exact Nat.le_of_ble_eq_true rfl | omega) (by first | exact Nat.le_of_ble_eq_true rfl | omega) ?_
  rintro _ _ ⟨rfl, rfl⟩
  refine E_if_ne (tgt := 10) dX9_hand_5 (by decide) (fun h5 => absurd h5 (by decide)) (fun h5 => ?_)
  refine E_iconst (v := -1) dX9_hand_8 (by decide) ?_
  refine E_iret dX9_hand_9 rfl rfl ?_
  exact ⟨rfl, rfl⟩
theorem c_r_hand_s {S : xS} (hM : xShM S) {P : Nat} (hP : P < 4) (h : ¬ (gI S 51 0 P) = 0) {T : Nat} (hT : (gI S 9 0 22) = nI T) (hT2 : T ≤ 200) : CC mX9_hand 3 0 0 [xR (some (9, 0)), xI (nI P)] S (aI (xtru S (nI P) 0 T) (xrbg S P (xtru S (nI P) 0 T) (xtru S (nI P) 0 T))) := by
  refine CC_of mpX9_hand rfl (Nat.le_of_ble_eq_true rfl) ?_
  refine E_aload_n dX9_hand_0 rfl rfl ?_
  refine E_iload_n dX9_hand_1 rfl rfl ?_
  refine E_callV (m2 := mX9_has) dX9_hand_2 kX9_165 mzX9_has (c_has_y hM hP h) rfl ⟨_, _, rfl⟩ rfl rfl (by decide) (xs8 (Nat.le_of_ble_eq_true rfl)) (by first | exact Nat.le_of_ble_eq_true rfl | omega) (by first | exact Nat.le_of_ble_eq_true rfl | omega) ?_
  rintro _ _ ⟨rfl, rfl⟩
  refine E_if_ne (tgt := 10) dX9_hand_5 (by decide) (fun h5 => ?_) (fun h5 => absurd h5 (by decide))
  refine E_aload_n dX9_hand_10 rfl rfl ?_
  refine E_iload_n dX9_hand_11 rfl rfl ?_
  refine E_iconst (v := 0) dX9_hand_12 (by decide) ?_
  refine E_callV (m2 := mX9_truth) dX9_hand_13 kX9_168 mzX9_truth (c_r_truth hM hT hT2 (nI P) 0) rfl ⟨_, _, rfl⟩ rfl rfl (by decide) (xs8 (Nat.le_of_ble_eq_true rfl)) (by first | exact Nat.le_of_ble_eq_true rfl | omega) (by first | exact Nat.le_of_ble_eq_true rfl | omega) ?_
  rintro _ _ ⟨rfl, rfl⟩
  refine E_istore_n dX9_hand_16 rfl (by decide) rfl ?_
  refine E_aload_n dX9_hand_17 rfl rfl ?_
  refine E_iload_n dX9_hand_18 rfl rfl ?_
  refine E_iload_n dX9_hand_19 rfl rfl ?_
  refine E_iload_n dX9_hand_20 rfl rfl ?_
  refine E_callV (m2 := mX9_begins) dX9_hand_21 kX9_161 mzX9_begins (c_r_begins hM hP _ _) rfl ⟨_, _, rfl⟩ rfl rfl (by decide) (xs8 (Nat.le_of_ble_eq_true rfl)) (by first | exact Nat.le_of_ble_eq_true rfl | omega) (by first | exact Nat.le_of_ble_eq_true rfl | omega) ?_
  rintro _ _ ⟨rfl, rfl⟩
  refine E_iload_n dX9_hand_24 rfl rfl ?_
  refine E_iret dX9_hand_25 rfl rfl ?_
  exact ⟨rfl, rfl⟩
theorem c_r_leave_n {S : xS} (hM : xShM S) (x : Int32) (h : ¬ (0 ≤ x ∧ x ≤ (gI S 9 0 35) - 1)) : CC mX9_leave 3 0 0 [xR (some (9, 0)), xI x] S (aI 0 S) := by
  refine CC_of mpX9_leave rfl (Nat.le_of_ble_eq_true rfl) ?_
  refine E_iload_n dX9_leave_0 rfl rfl ?_
  refine E_iconst (v := 0) dX9_leave_1 (by decide) ?_
  refine E_aload_n dX9_leave_2 rfl rfl ?_
  refine E_getI dX9_leave_3 fX9_172 rfl rfl rfl rfl ?_
  refine E_iconst (v := 1) dX9_leave_6 (by decide) ?_
  refine E_isub dX9_leave_7 ?_
  refine E_callS (m2 := mX9_in) dX9_leave_8 kX9_141 mzX9_in (c_X9_in _ _ _) rfl rfl (by decide) (xs8 (Nat.le_of_ble_eq_true rfl)) (by first | exact Nat.le_of_ble_eq_true rfl | omega) (by first | exact Nat.le_of_ble_eq_true rfl | omega) ?_
  rintro _ _ ⟨rfl, rfl⟩; rw [if_neg h]
  refine E_if_eq (tgt := 42) dX9_leave_11 (by decide) (fun h11 => ?_) (fun h11 => absurd h11 (by decide))
  refine E_iconst (v := 0) dX9_leave_42 (by decide) ?_
  refine E_iret dX9_leave_43 rfl rfl ?_
  exact ⟨rfl, rfl⟩
theorem c_r_leave_s {S : xS} (hM : xShM S) {c : Nat} (hc : c < 20) (h : 0 ≤ nI c ∧ nI c ≤ (gI S 9 0 35) - 1) : CC mX9_leave 3 0 0 [xR (some (9, 0)), xI (nI c)] S (aI (if (gI S 9 0 0) < (gI S 90 0 c) ∧ (gI S 89 0 c) < (gI S 90 0 c) then 1 else 0) (if (gI S 9 0 0) < (gI S 90 0 c) ∧ (gI S 89 0 c) < (gI S 90 0 c) then (sI S 90 0 c (if (gI S 9 0 0) < (gI S 89 0 c) then (gI S 89 0 c) else (gI S 9 0 0))) else S)) := by
  refine CC_of mpX9_leave rfl (Nat.le_of_ble_eq_true rfl) ?_
  refine E_iload_n dX9_leave_0 rfl rfl ?_
  refine E_iconst (v := 0) dX9_leave_1 (by decide) ?_
  refine E_aload_n dX9_leave_2 rfl rfl ?_
  refine E_getI dX9_leave_3 fX9_172 rfl rfl rfl rfl ?_
  refine E_iconst (v := 1) dX9_leave_6 (by decide) ?_
  refine E_isub dX9_leave_7 ?_
  refine E_callS (m2 := mX9_in) dX9_leave_8 kX9_141 mzX9_in (c_X9_in _ _ _) rfl rfl (by decide) (xs8 (Nat.le_of_ble_eq_true rfl)) (by first | exact Nat.le_of_ble_eq_true rfl | omega) (by first | exact Nat.le_of_ble_eq_true rfl | omega) ?_
  rintro _ _ ⟨rfl, rfl⟩; rw [if_pos h]
  refine E_if_eq (tgt := 42) dX9_leave_11 (by decide) (fun h11 => absurd h11 (by decide)) (fun h11 => ?_)
  refine E_aload_n dX9_leave_14 rfl rfl ?_
  refine E_getI dX9_leave_15 fX9_148 rfl rfl rfl rfl ?_
  refine E_aload_n dX9_leave_18 rfl rfl ?_
  refine E_getR dX9_leave_19 fX9_123 rfl rfl rfl (rM_40 hM) ?_
  refine E_iload_n dX9_leave_22 rfl rfl ?_
  refine E_iald dX9_leave_23 rfl rfl (by decide) (lM_40 hM) (vin hc (by omega)) (vnat hc (by omega)) rfl ?_
  refine E_icmp_ge (tgt := 42) dX9_leave_24 (by decide) (fun h24 => ?_) (fun h24 => ?_)
  · rw [if_neg (fun z => Int32.not_lt.mpr h24 z.1), if_neg (fun z => Int32.not_lt.mpr h24 z.1)]
    refine E_iconst (v := 0) dX9_leave_42 (by decide) ?_
    refine E_iret dX9_leave_43 rfl rfl ?_
    exact ⟨rfl, rfl⟩
  · refine E_aload_n dX9_leave_27 rfl rfl ?_
    refine E_getR dX9_leave_28 fX9_123 rfl rfl rfl (rM_40 hM) ?_
    refine E_iload_n dX9_leave_31 rfl rfl ?_
    refine E_iald dX9_leave_32 rfl rfl (by decide) (lM_40 hM) (vin hc (by omega)) (vnat hc (by omega)) rfl ?_
    refine E_aload_n dX9_leave_33 rfl rfl ?_
    refine E_getR dX9_leave_34 fX9_120 rfl rfl rfl (rM_39 hM) ?_
    refine E_iload_n dX9_leave_37 rfl rfl ?_
    refine E_iald dX9_leave_38 rfl rfl (by decide) (lM_39 hM) (vin hc (by omega)) (vnat hc (by omega)) rfl ?_
    refine E_icmp_gt (tgt := 44) dX9_leave_39 (by decide) (fun h39 => ?_) (fun h39 => ?_)
    · rw [if_pos ⟨Int32.not_le.mp h24, h39⟩, if_pos ⟨Int32.not_le.mp h24, h39⟩]
      refine E_aload_n dX9_leave_44 rfl rfl ?_
      refine E_getR dX9_leave_45 fX9_123 rfl rfl rfl (rM_40 hM) ?_
      refine E_iload_n dX9_leave_48 rfl rfl ?_
      refine E_aload_n dX9_leave_49 rfl rfl ?_
      refine E_getI dX9_leave_50 fX9_148 rfl rfl rfl rfl ?_
      refine E_aload_n dX9_leave_53 rfl rfl ?_
      refine E_getR dX9_leave_54 fX9_120 rfl rfl rfl (rM_39 hM) ?_
      refine E_iload_n dX9_leave_57 rfl rfl ?_
      refine E_iald dX9_leave_58 rfl rfl (by decide) (lM_39 hM) (vin hc (by omega)) (vnat hc (by omega)) rfl ?_
      refine E_icmp_ge (tgt := 71) dX9_leave_59 (by decide) (fun h59 => ?_) (fun h59 => ?_)
      · rw [if_neg (Int32.not_lt.mpr h59)]
        refine E_aload_n dX9_leave_71 rfl rfl ?_
        refine E_getI dX9_leave_72 fX9_148 rfl rfl rfl rfl ?_
        refine E_iast dX9_leave_75 rfl rfl (by decide) (lM_40 hM) (vin hc (by omega)) (vnat hc (by omega)) ?_
        refine E_iconst (v := 1) dX9_leave_76 (by decide) ?_
        refine E_iret dX9_leave_77 rfl rfl ?_
        exact ⟨rfl, rfl⟩
      · rw [if_pos (Int32.not_le.mp h59)]
        refine E_aload_n dX9_leave_62 rfl rfl ?_
        refine E_getR dX9_leave_63 fX9_120 rfl rfl rfl (rM_39 hM) ?_
        refine E_iload_n dX9_leave_66 rfl rfl ?_
        refine E_iald dX9_leave_67 rfl rfl (by decide) (lM_39 hM) (vin hc (by omega)) (vnat hc (by omega)) rfl ?_
        refine E_goto (tgt := 75) dX9_leave_68 (by decide) ?_
        refine E_iast dX9_leave_75 rfl rfl (by decide) (lM_40 hM) (vin hc (by omega)) (vnat hc (by omega)) ?_
        refine E_iconst (v := 1) dX9_leave_76 (by decide) ?_
        refine E_iret dX9_leave_77 rfl rfl ?_
        exact ⟨rfl, rfl⟩
    · rw [if_neg (fun z => h39 z.2), if_neg (fun z => h39 z.2)]
      refine E_iconst (v := 0) dX9_leave_42 (by decide) ?_
      refine E_iret dX9_leave_43 rfl rfl ?_
      exact ⟨rfl, rfl⟩
theorem c_r_put_n {S : xS} (hM : xShM S) (p : Int32) (h : ¬ xhas S p) (x : Int32) : CC mX9_put 3 0 0 [xR (some (9, 0)), xI p, xI x] S (aI (0) S) := by
  refine CC_of mpX9_put rfl (Nat.le_of_ble_eq_true rfl) ?_
  refine E_aload_n dX9_put_0 rfl rfl ?_
  refine E_iload_n dX9_put_1 rfl rfl ?_
  refine E_callV (m2 := mX9_has) dX9_put_2 kX9_165 mzX9_has (c_has_n hM p h) rfl ⟨_, _, rfl⟩ rfl rfl (by decide) (xs8 (Nat.le_of_ble_eq_true rfl)) (by first | exact Nat.le_of_ble_eq_true rfl | omega) (by first | exact Nat.le_of_ble_eq_true rfl | omega) ?_
  rintro _ _ ⟨rfl, rfl⟩
  refine E_if_eq (tgt := 19) dX9_put_5 (by decide) (fun h5 => ?_) (fun h5 => absurd h5 (by decide))
  refine E_iconst (v := 0) dX9_put_19 (by decide) ?_
  refine E_iret dX9_put_20 rfl rfl ?_
  exact ⟨rfl, rfl⟩
theorem c_r_put_s {S : xS} (hM : xShM S) {P : Nat} (hP : P < 4) (h : ¬ (gI S 51 0 P) = 0) (x : Int32) : CC mX9_put 3 0 0 [xR (some (9, 0)), xI (nI P), xI x] S (aI (if 1 ≤ x ∧ x ≤ 240 then 1 else 0) (if 1 ≤ x ∧ x ≤ 240 then (sI S 69 0 P (if (gI S 69 0 P) < (gI S 9 0 0) + x then (gI S 9 0 0) + x else (gI S 69 0 P))) else S)) := by
  refine CC_of mpX9_put rfl (Nat.le_of_ble_eq_true rfl) ?_
  refine E_aload_n dX9_put_0 rfl rfl ?_
  refine E_iload_n dX9_put_1 rfl rfl ?_
  refine E_callV (m2 := mX9_has) dX9_put_2 kX9_165 mzX9_has (c_has_y hM hP h) rfl ⟨_, _, rfl⟩ rfl rfl (by decide) (xs8 (Nat.le_of_ble_eq_true rfl)) (by first | exact Nat.le_of_ble_eq_true rfl | omega) (by first | exact Nat.le_of_ble_eq_true rfl | omega) ?_
  rintro _ _ ⟨rfl, rfl⟩
  refine E_if_eq (tgt := 19) dX9_put_5 (by decide) (fun h5 => absurd h5 (by decide)) (fun h5 => ?_)
  refine E_iload_n dX9_put_8 rfl rfl ?_
  refine E_iconst (v := 1) dX9_put_9 (by decide) ?_
  refine E_sipush (v := 240) dX9_put_10 (by decide) ?_
  refine E_callS (m2 := mX9_in) dX9_put_13 kX9_141 mzX9_in (c_X9_in _ _ _) rfl rfl (by decide) (xs8 (Nat.le_of_ble_eq_true rfl)) (by first | exact Nat.le_of_ble_eq_true rfl | omega) (by first | exact Nat.le_of_ble_eq_true rfl | omega) ?_
  rintro _ _ ⟨rfl, rfl⟩
  refine E_if_ne (tgt := 21) dX9_put_16 (by decide) (fun h16 => ?_) (fun h16 => ?_)
  · rw [if_pos (ite1 h16), if_pos (ite1 h16)]
    refine E_aload_n dX9_put_21 rfl rfl ?_
    refine E_getR dX9_put_22 fX9_65 rfl rfl rfl (rM_19 hM) ?_
    refine E_iload_n dX9_put_25 rfl rfl ?_
    refine E_aload_n dX9_put_26 rfl rfl ?_
    refine E_getI dX9_put_27 fX9_148 rfl rfl rfl rfl ?_
    refine E_iload_n dX9_put_30 rfl rfl ?_
    refine E_iadd dX9_put_31 ?_
    refine E_aload_n dX9_put_32 rfl rfl ?_
    refine E_getR dX9_put_33 fX9_65 rfl rfl rfl (rM_19 hM) ?_
    refine E_iload_n dX9_put_36 rfl rfl ?_
    refine E_iald dX9_put_37 rfl rfl (by decide) (lM_19 hM) (vin hP (by omega)) (vnat hP (by omega)) rfl ?_
    refine E_icmp_le (tgt := 50) dX9_put_38 (by decide) (fun h38 => ?_) (fun h38 => ?_)
    · rw [if_neg (Int32.not_lt.mpr h38)]
      refine E_aload_n dX9_put_50 rfl rfl ?_
      refine E_getR dX9_put_51 fX9_65 rfl rfl rfl (rM_19 hM) ?_
      refine E_iload_n dX9_put_54 rfl rfl ?_
      refine E_iald dX9_put_55 rfl rfl (by decide) (lM_19 hM) (vin hP (by omega)) (vnat hP (by omega)) rfl ?_
      refine E_iast dX9_put_56 rfl rfl (by decide) (lM_19 hM) (vin hP (by omega)) (vnat hP (by omega)) ?_
      refine E_iconst (v := 1) dX9_put_57 (by decide) ?_
      refine E_iret dX9_put_58 rfl rfl ?_
      exact ⟨rfl, rfl⟩
    · rw [if_pos (Int32.not_le.mp h38)]
      refine E_aload_n dX9_put_41 rfl rfl ?_
      refine E_getI dX9_put_42 fX9_148 rfl rfl rfl rfl ?_
      refine E_iload_n dX9_put_45 rfl rfl ?_
      refine E_iadd dX9_put_46 ?_
      refine E_goto (tgt := 56) dX9_put_47 (by decide) ?_
      refine E_iast dX9_put_56 rfl rfl (by decide) (lM_19 hM) (vin hP (by omega)) (vnat hP (by omega)) ?_
      refine E_iconst (v := 1) dX9_put_57 (by decide) ?_
      refine E_iret dX9_put_58 rfl rfl ?_
      exact ⟨rfl, rfl⟩
  · rw [if_neg (ite0 h16), if_neg (ite0 h16)]
    refine E_iconst (v := 0) dX9_put_19 (by decide) ?_
    refine E_iret dX9_put_20 rfl rfl ?_
    exact ⟨rfl, rfl⟩
theorem c_r_shut_n {S : xS} (hM : xShM S) (p : Int32) (h : ¬ xhas S p)  : CC mX9_shut 3 0 0 [xR (some (9, 0)), xI p] S (aI (-1) S) := by
  refine CC_of mpX9_shut rfl (Nat.le_of_ble_eq_true rfl) ?_
  refine E_aload_n dX9_shut_0 rfl rfl ?_
  refine E_iload_n dX9_shut_1 rfl rfl ?_
  refine E_callV (m2 := mX9_has) dX9_shut_2 kX9_165 mzX9_has (c_has_n hM p h) rfl ⟨_, _, rfl⟩ rfl rfl (by decide) (xs8 (Nat.le_of_ble_eq_true rfl)) (by first | exact Nat.le_of_ble_eq_true rfl | omega) (by first | exact Nat.le_of_ble_eq_true rfl | omega) ?_
  rintro _ _ ⟨rfl, rfl⟩
  refine E_if_eq (tgt := 16) dX9_shut_5 (by decide) (fun h5 => ?_) (fun h5 => absurd h5 (by decide))
  refine E_iconst (v := -1) dX9_shut_16 (by decide) ?_
  refine E_iret dX9_shut_17 rfl rfl ?_
  exact ⟨rfl, rfl⟩
theorem c_r_shut_s {S : xS} (hM : xShM S) {P : Nat} (hP : P < 4) (h : ¬ (gI S 51 0 P) = 0) : CC mX9_shut 3 0 0 [xR (some (9, 0)), xI (nI P)] S (aI (xrrl S P 3) S) := by
  refine CC_of mpX9_shut rfl (Nat.le_of_ble_eq_true rfl) ?_
  refine E_aload_n dX9_shut_0 rfl rfl ?_
  refine E_iload_n dX9_shut_1 rfl rfl ?_
  refine E_callV (m2 := mX9_has) dX9_shut_2 kX9_165 mzX9_has (c_has_y hM hP h) rfl ⟨_, _, rfl⟩ rfl rfl (by decide) (xs8 (Nat.le_of_ble_eq_true rfl)) (by first | exact Nat.le_of_ble_eq_true rfl | omega) (by first | exact Nat.le_of_ble_eq_true rfl | omega) ?_
  rintro _ _ ⟨rfl, rfl⟩
  refine E_if_eq (tgt := 16) dX9_shut_5 (by decide) (fun h5 => absurd h5 (by decide)) (fun h5 => ?_)
  refine E_aload_n dX9_shut_8 rfl rfl ?_
  refine E_iload_n dX9_shut_9 rfl rfl ?_
  refine E_callV (m2 := mX9_reasons) dX9_shut_10 kX9_151 mzX9_reasons (c_r_reasons hM hP) rfl ⟨_, _, rfl⟩ rfl rfl (by decide) (xs8 (Nat.le_of_ble_eq_true rfl)) (by first | exact Nat.le_of_ble_eq_true rfl | omega) (by first | exact Nat.le_of_ble_eq_true rfl | omega) ?_
  rintro _ _ ⟨rfl, rfl⟩
  refine E_goto (tgt := 17) dX9_shut_13 (by decide) ?_
  refine E_iret dX9_shut_17 rfl rfl ?_
  exact ⟨rfl, rfl⟩
theorem c_r_minutes_n {S : xS} (hM : xShM S) (p : Int32) (h : ¬ xhas S p)  : CC mX9_minutes 3 0 0 [xR (some (9, 0)), xI p] S (aI (-1) S) := by
  refine CC_of mpX9_minutes rfl (Nat.le_of_ble_eq_true rfl) ?_
  refine E_aload_n dX9_minutes_0 rfl rfl ?_
  refine E_iload_n dX9_minutes_1 rfl rfl ?_
  refine E_callV (m2 := mX9_has) dX9_minutes_2 kX9_165 mzX9_has (c_has_n hM p h) rfl ⟨_, _, rfl⟩ rfl rfl (by decide) (xs8 (Nat.le_of_ble_eq_true rfl)) (by first | exact Nat.le_of_ble_eq_true rfl | omega) (by first | exact Nat.le_of_ble_eq_true rfl | omega) ?_
  rintro _ _ ⟨rfl, rfl⟩
  refine E_if_eq (tgt := 17) dX9_minutes_5 (by decide) (fun h5 => ?_) (fun h5 => absurd h5 (by decide))
  refine E_iconst (v := -1) dX9_minutes_17 (by decide) ?_
  refine E_iret dX9_minutes_18 rfl rfl ?_
  exact ⟨rfl, rfl⟩
theorem c_r_minutes_s {S : xS} (hM : xShM S) {P : Nat} (hP : P < 4) (h : ¬ (gI S 51 0 P) = 0) : CC mX9_minutes 3 0 0 [xR (some (9, 0)), xI (nI P)] S (aI (gI S 63 0 P) S) := by
  refine CC_of mpX9_minutes rfl (Nat.le_of_ble_eq_true rfl) ?_
  refine E_aload_n dX9_minutes_0 rfl rfl ?_
  refine E_iload_n dX9_minutes_1 rfl rfl ?_
  refine E_callV (m2 := mX9_has) dX9_minutes_2 kX9_165 mzX9_has (c_has_y hM hP h) rfl ⟨_, _, rfl⟩ rfl rfl (by decide) (xs8 (Nat.le_of_ble_eq_true rfl)) (by first | exact Nat.le_of_ble_eq_true rfl | omega) (by first | exact Nat.le_of_ble_eq_true rfl | omega) ?_
  rintro _ _ ⟨rfl, rfl⟩
  refine E_if_eq (tgt := 17) dX9_minutes_5 (by decide) (fun h5 => absurd h5 (by decide)) (fun h5 => ?_)
  refine E_aload_n dX9_minutes_8 rfl rfl ?_
  refine E_getR dX9_minutes_9 fX9_47 rfl rfl rfl (rM_13 hM) ?_
  refine E_iload_n dX9_minutes_12 rfl rfl ?_
  refine E_iald dX9_minutes_13 rfl rfl (by decide) (lM_13 hM) (vin hP (by omega)) (vnat hP (by omega)) rfl ?_
  refine E_goto (tgt := 18) dX9_minutes_14 (by decide) ?_
  refine E_iret dX9_minutes_18 rfl rfl ?_
  exact ⟨rfl, rfl⟩
theorem c_r_pump_n {S : xS} (hM : xShM S) (p : Int32) (h : ¬ xhas S p) (x y : Int32) : CC mX9_pump 3 0 0 [xR (some (9, 0)), xI p, xI x, xI y] S (aI (0) S) := by
  refine CC_of mpX9_pump rfl (Nat.le_of_ble_eq_true rfl) ?_
  refine E_aload_n dX9_pump_0 rfl rfl ?_
  refine E_iload_n dX9_pump_1 rfl rfl ?_
  refine E_callV (m2 := mX9_has) dX9_pump_2 kX9_165 mzX9_has (c_has_n hM p h) rfl ⟨_, _, rfl⟩ rfl rfl (by decide) (xs8 (Nat.le_of_ble_eq_true rfl)) (by first | exact Nat.le_of_ble_eq_true rfl | omega) (by first | exact Nat.le_of_ble_eq_true rfl | omega) ?_
  rintro _ _ ⟨rfl, rfl⟩
  refine E_if_eq (tgt := 29) dX9_pump_5 (by decide) (fun h5 => ?_) (fun h5 => absurd h5 (by decide))
  refine E_iconst (v := 0) dX9_pump_29 (by decide) ?_
  refine E_iret dX9_pump_30 rfl rfl ?_
  exact ⟨rfl, rfl⟩
theorem c_r_pump_s {S : xS} (hM : xShM S) {P : Nat} (hP : P < 4) (h : ¬ (gI S 51 0 P) = 0) (x y : Int32) : CC mX9_pump 3 0 0 [xR (some (9, 0)), xI (nI P), xI x, xI y] S (aI (if (1 ≤ x ∧ x ≤ 100000) ∧ 1 ≤ y ∧ y ≤ 10000 then 1 else 0) (if (1 ≤ x ∧ x ≤ 100000) ∧ 1 ≤ y ∧ y ≤ 10000 then (sI (sI S 92 0 P x) 93 0 P y) else S)) := by
  refine CC_of mpX9_pump rfl (Nat.le_of_ble_eq_true rfl) ?_
  refine E_aload_n dX9_pump_0 rfl rfl ?_
  refine E_iload_n dX9_pump_1 rfl rfl ?_
  refine E_callV (m2 := mX9_has) dX9_pump_2 kX9_165 mzX9_has (c_has_y hM hP h) rfl ⟨_, _, rfl⟩ rfl rfl (by decide) (xs8 (Nat.le_of_ble_eq_true rfl)) (by first | exact Nat.le_of_ble_eq_true rfl | omega) (by first | exact Nat.le_of_ble_eq_true rfl | omega) ?_
  rintro _ _ ⟨rfl, rfl⟩
  refine E_if_eq (tgt := 29) dX9_pump_5 (by decide) (fun h5 => absurd h5 (by decide)) (fun h5 => ?_)
  refine E_iload_n dX9_pump_8 rfl rfl ?_
  refine E_iconst (v := 1) dX9_pump_9 (by decide) ?_
  refine E_ldc dX9_pump_10 oX9_179 ?_
  refine E_callS (m2 := mX9_in) dX9_pump_12 kX9_141 mzX9_in (c_X9_in _ _ _) rfl rfl (by decide) (xs8 (Nat.le_of_ble_eq_true rfl)) (by first | exact Nat.le_of_ble_eq_true rfl | omega) (by first | exact Nat.le_of_ble_eq_true rfl | omega) ?_
  rintro _ _ ⟨rfl, rfl⟩
  refine E_if_eq (tgt := 29) dX9_pump_15 (by decide) (fun h15 => ?_) (fun h15 => ?_)
  · rw [if_neg (fun z => ite0 h15 z.1), if_neg (fun z => ite0 h15 z.1)]
    refine E_iconst (v := 0) dX9_pump_29 (by decide) ?_
    refine E_iret dX9_pump_30 rfl rfl ?_
    exact ⟨rfl, rfl⟩
  · refine E_iload_n dX9_pump_18 rfl rfl ?_
    refine E_iconst (v := 1) dX9_pump_19 (by decide) ?_
    refine E_sipush (v := 10000) dX9_pump_20 (by decide) ?_
    refine E_callS (m2 := mX9_in) dX9_pump_23 kX9_141 mzX9_in (c_X9_in _ _ _) rfl rfl (by decide) (xs8 (Nat.le_of_ble_eq_true rfl)) (by first | exact Nat.le_of_ble_eq_true rfl | omega) (by first | exact Nat.le_of_ble_eq_true rfl | omega) ?_
    rintro _ _ ⟨rfl, rfl⟩
    refine E_if_ne (tgt := 31) dX9_pump_26 (by decide) (fun h26 => ?_) (fun h26 => ?_)
    · rw [if_pos ⟨ite1 h15, ite1 h26⟩, if_pos ⟨ite1 h15, ite1 h26⟩]
      refine E_aload_n dX9_pump_31 rfl rfl ?_
      refine E_getR dX9_pump_32 fX9_129 rfl rfl rfl (rM_42 hM) ?_
      refine E_iload_n dX9_pump_35 rfl rfl ?_
      refine E_iload_n dX9_pump_36 rfl rfl ?_
      refine E_iast dX9_pump_37 rfl rfl (by decide) (lM_42 hM) (vin hP (by omega)) (vnat hP (by omega)) ?_
      refine E_aload_n dX9_pump_38 rfl rfl ?_
      refine E_getR dX9_pump_39 fX9_132 rfl rfl rfl (rM_43 hM) ?_
      refine E_iload_n dX9_pump_42 rfl rfl ?_
      refine E_iload_n dX9_pump_43 rfl rfl ?_
      refine E_iast dX9_pump_44 rfl rfl (by decide) (lM_43 hM) (vin hP (by omega)) (vnat hP (by omega)) ?_
      refine E_iconst (v := 1) dX9_pump_45 (by decide) ?_
      refine E_iret dX9_pump_46 rfl rfl ?_
      exact ⟨rfl, rfl⟩
    · rw [if_neg (fun z => ite0 h26 z.2), if_neg (fun z => ite0 h26 z.2)]
      refine E_iconst (v := 0) dX9_pump_29 (by decide) ?_
      refine E_iret dX9_pump_30 rfl rfl ?_
      exact ⟨rfl, rfl⟩
theorem c_r_bounds_n {S : xS} (hM : xShM S) (p : Int32) (h : ¬ xhas S p) (i a b : Int32) : CC mX9_bounds 3 0 0 [xR (some (9, 0)), xI p, xI i, xI a, xI b] S (aI (0) S) := by
  refine CC_of mpX9_bounds rfl (Nat.le_of_ble_eq_true rfl) ?_
  refine E_aload_n dX9_bounds_0 rfl rfl ?_
  refine E_iload_n dX9_bounds_1 rfl rfl ?_
  refine E_callV (m2 := mX9_has) dX9_bounds_2 kX9_165 mzX9_has (c_has_n hM p h) rfl ⟨_, _, rfl⟩ rfl rfl (by decide) (xs8 (Nat.le_of_ble_eq_true rfl)) (by first | exact Nat.le_of_ble_eq_true rfl | omega) (by first | exact Nat.le_of_ble_eq_true rfl | omega) ?_
  rintro _ _ ⟨rfl, rfl⟩
  refine E_if_eq (tgt := 46) dX9_bounds_5 (by decide) (fun h5 => ?_) (fun h5 => absurd h5 (by decide))
  refine E_iconst (v := 0) dX9_bounds_46 (by decide) ?_
  refine E_iret dX9_bounds_47 rfl rfl ?_
  exact ⟨rfl, rfl⟩
theorem c_r_bounds_o {S : xS} (hM : xShM S) {P : Nat} (hP : P < 4) (h : ¬ (gI S 51 0 P) = 0) (i a b : Int32) (hi : ¬ (0 ≤ i ∧ i ≤ 2)) : CC mX9_bounds 3 0 0 [xR (some (9, 0)), xI (nI P), xI i, xI a, xI b] S (aI 0 S) := by
  refine CC_of mpX9_bounds rfl (Nat.le_of_ble_eq_true rfl) ?_
  refine E_aload_n dX9_bounds_0 rfl rfl ?_
  refine E_iload_n dX9_bounds_1 rfl rfl ?_
  refine E_callV (m2 := mX9_has) dX9_bounds_2 kX9_165 mzX9_has (c_has_y hM hP h) rfl ⟨_, _, rfl⟩ rfl rfl (by decide) (xs8 (Nat.le_of_ble_eq_true rfl)) (by first | exact Nat.le_of_ble_eq_true rfl | omega) (by first | exact Nat.le_of_ble_eq_true rfl | omega) ?_
  rintro _ _ ⟨rfl, rfl⟩
  refine E_if_eq (tgt := 46) dX9_bounds_5 (by decide) (fun h5 => absurd h5 (by decide)) (fun h5 => ?_)
  refine E_iload_n dX9_bounds_8 rfl rfl ?_
  refine E_iconst (v := 0) dX9_bounds_9 (by decide) ?_
  refine E_iconst (v := 2) dX9_bounds_10 (by decide) ?_
  refine E_callS (m2 := mX9_in) dX9_bounds_11 kX9_141 mzX9_in (c_X9_in _ _ _) rfl rfl (by decide) (xs8 (Nat.le_of_ble_eq_true rfl)) (by first | exact Nat.le_of_ble_eq_true rfl | omega) (by first | exact Nat.le_of_ble_eq_true rfl | omega) ?_
  rintro _ _ ⟨rfl, rfl⟩; rw [if_neg hi]
  refine E_if_eq (tgt := 46) dX9_bounds_14 (by decide) (fun h14 => ?_) (fun h14 => absurd h14 (by decide))
  refine E_iconst (v := 0) dX9_bounds_46 (by decide) ?_
  refine E_iret dX9_bounds_47 rfl rfl ?_
  exact ⟨rfl, rfl⟩
theorem c_r_bounds_s {S : xS} (hM : xShM S) {P : Nat} (hP : P < 4) (h : ¬ (gI S 51 0 P) = 0) {i : Nat} (a b : Int32) (hi : i < 3) : CC mX9_bounds 3 0 0 [xR (some (9, 0)), xI (nI P), xI (nI i), xI a, xI b] S (aI (if (-100000 ≤ a ∧ a ≤ 100000) ∧ (-100000 ≤ b ∧ b ≤ 100000) ∧ a ≤ b then 1 else 0) (if (-100000 ≤ a ∧ a ≤ 100000) ∧ (-100000 ≤ b ∧ b ≤ 100000) ∧ a ≤ b then (sI (sI S 64 0 (3 * P + i) a) 65 0 (3 * P + i) b) else S)) := by
  refine CC_of mpX9_bounds rfl (Nat.le_of_ble_eq_true rfl) ?_
  have e1 : (0 : Int32) ≤ nI i ∧ nI i ≤ 2 := ⟨nI_le (a := 0) (by omega) (by omega), nI_le (b := 2) (by omega) (by omega)⟩
  have hA : 3 * P + i < 12 := by omega
  refine E_aload_n dX9_bounds_0 rfl rfl ?_
  refine E_iload_n dX9_bounds_1 rfl rfl ?_
  refine E_callV (m2 := mX9_has) dX9_bounds_2 kX9_165 mzX9_has (c_has_y hM hP h) rfl ⟨_, _, rfl⟩ rfl rfl (by decide) (xs8 (Nat.le_of_ble_eq_true rfl)) (by first | exact Nat.le_of_ble_eq_true rfl | omega) (by first | exact Nat.le_of_ble_eq_true rfl | omega) ?_
  rintro _ _ ⟨rfl, rfl⟩
  refine E_if_eq (tgt := 46) dX9_bounds_5 (by decide) (fun h5 => absurd h5 (by decide)) (fun h5 => ?_)
  refine E_iload_n dX9_bounds_8 rfl rfl ?_
  refine E_iconst (v := 0) dX9_bounds_9 (by decide) ?_
  refine E_iconst (v := 2) dX9_bounds_10 (by decide) ?_
  refine E_callS (m2 := mX9_in) dX9_bounds_11 kX9_141 mzX9_in (c_X9_in _ _ _) rfl rfl (by decide) (xs8 (Nat.le_of_ble_eq_true rfl)) (by first | exact Nat.le_of_ble_eq_true rfl | omega) (by first | exact Nat.le_of_ble_eq_true rfl | omega) ?_
  rintro _ _ ⟨rfl, rfl⟩; rw [if_pos e1]
  refine E_if_eq (tgt := 46) dX9_bounds_14 (by decide) (fun h14 => absurd h14 (by decide)) (fun h14 => ?_)
  refine E_iload_n dX9_bounds_17 rfl rfl ?_
  refine E_ldc dX9_bounds_18 oX9_178 ?_
  refine E_ldc dX9_bounds_20 oX9_179 ?_
  refine E_callS (m2 := mX9_in) dX9_bounds_22 kX9_141 mzX9_in (c_X9_in _ _ _) rfl rfl (by decide) (xs8 (Nat.le_of_ble_eq_true rfl)) (by first | exact Nat.le_of_ble_eq_true rfl | omega) (by first | exact Nat.le_of_ble_eq_true rfl | omega) ?_
  rintro _ _ ⟨rfl, rfl⟩
  refine E_if_eq (tgt := 46) dX9_bounds_25 (by decide) (fun h25 => ?_) (fun h25 => ?_)
  · rw [if_neg (fun z => ite0 h25 z.1), if_neg (fun z => ite0 h25 z.1)]
    refine E_iconst (v := 0) dX9_bounds_46 (by decide) ?_
    refine E_iret dX9_bounds_47 rfl rfl ?_
    exact ⟨rfl, rfl⟩
  · refine E_iload dX9_bounds_28 rfl ?_
    refine E_ldc dX9_bounds_30 oX9_178 ?_
    refine E_ldc dX9_bounds_32 oX9_179 ?_
    refine E_callS (m2 := mX9_in) dX9_bounds_34 kX9_141 mzX9_in (c_X9_in _ _ _) rfl rfl (by decide) (xs8 (Nat.le_of_ble_eq_true rfl)) (by first | exact Nat.le_of_ble_eq_true rfl | omega) (by first | exact Nat.le_of_ble_eq_true rfl | omega) ?_
    rintro _ _ ⟨rfl, rfl⟩
    refine E_if_eq (tgt := 46) dX9_bounds_37 (by decide) (fun h37 => ?_) (fun h37 => ?_)
    · rw [if_neg (fun z => ite0 h37 z.2.1), if_neg (fun z => ite0 h37 z.2.1)]
      refine E_iconst (v := 0) dX9_bounds_46 (by decide) ?_
      refine E_iret dX9_bounds_47 rfl rfl ?_
      exact ⟨rfl, rfl⟩
    · refine E_iload_n dX9_bounds_40 rfl rfl ?_
      refine E_iload dX9_bounds_41 rfl ?_
      refine E_icmp_le (tgt := 48) dX9_bounds_43 (by decide) (fun h43 => ?_) (fun h43 => ?_)
      · rw [if_pos ⟨ite1 h25, ite1 h37, h43⟩, if_pos ⟨ite1 h25, ite1 h37, h43⟩]
        refine E_aload_n dX9_bounds_48 rfl rfl ?_
        refine E_getR dX9_bounds_49 fX9_50 rfl rfl rfl (rM_14 hM) ?_
        refine E_iconst (v := 3) dX9_bounds_52 (by decide) ?_
        refine E_iload_n dX9_bounds_53 rfl rfl ?_
        refine E_imul dX9_bounds_54 ?_
        refine E_iload_n dX9_bounds_55 rfl rfl ?_
        refine E_iadd dX9_bounds_56 ?_
        rw [nI_3]
        refine E_iload_n dX9_bounds_57 rfl rfl ?_
        refine E_iast dX9_bounds_58 rfl rfl (by decide) (lM_14 hM) (vin hA (by omega)) (vnat hA (by omega)) ?_
        refine E_aload_n dX9_bounds_59 rfl rfl ?_
        refine E_getR dX9_bounds_60 fX9_53 rfl rfl rfl (rM_15 hM) ?_
        refine E_iconst (v := 3) dX9_bounds_63 (by decide) ?_
        refine E_iload_n dX9_bounds_64 rfl rfl ?_
        refine E_imul dX9_bounds_65 ?_
        refine E_iload_n dX9_bounds_66 rfl rfl ?_
        refine E_iadd dX9_bounds_67 ?_
        rw [nI_3]
        refine E_iload dX9_bounds_68 rfl ?_
        refine E_iast dX9_bounds_70 rfl rfl (by decide) (lM_15 hM) (vin hA (by omega)) (vnat hA (by omega)) ?_
        refine E_iconst (v := 1) dX9_bounds_71 (by decide) ?_
        refine E_iret dX9_bounds_72 rfl rfl ?_
        exact ⟨rfl, rfl⟩
      · rw [if_neg (fun z => h43 z.2.2), if_neg (fun z => h43 z.2.2)]
        refine E_iconst (v := 0) dX9_bounds_46 (by decide) ?_
        refine E_iret dX9_bounds_47 rfl rfl ?_
        exact ⟨rfl, rfl⟩
theorem c_r_measure_n {S : xS} (hM : xShM S) (p : Int32) (h : ¬ xhas S p) (i : Int32) (v : UInt32) : CC mX9_measure 3 0 0 [xR (some (9, 0)), xI p, xI i, xF v] S (aI (-200001) S) := by
  refine CC_of mpX9_measure rfl (Nat.le_of_ble_eq_true rfl) ?_
  refine E_aload_n dX9_measure_0 rfl rfl ?_
  refine E_iload_n dX9_measure_1 rfl rfl ?_
  refine E_callV (m2 := mX9_has) dX9_measure_2 kX9_165 mzX9_has (c_has_n hM p h) rfl ⟨_, _, rfl⟩ rfl rfl (by decide) (xs8 (Nat.le_of_ble_eq_true rfl)) (by first | exact Nat.le_of_ble_eq_true rfl | omega) (by first | exact Nat.le_of_ble_eq_true rfl | omega) ?_
  rintro _ _ ⟨rfl, rfl⟩
  refine E_if_eq (tgt := 17) dX9_measure_5 (by decide) (fun h5 => ?_) (fun h5 => absurd h5 (by decide))
  refine E_ldc dX9_measure_17 oX9_180 ?_
  refine E_iret dX9_measure_19 rfl rfl ?_
  exact ⟨rfl, rfl⟩
theorem c_r_measure_o {S : xS} (hM : xShM S) {P : Nat} (hP : P < 4) (h : ¬ (gI S 51 0 P) = 0) (i : Int32) (v : UInt32) (hi : ¬ (0 ≤ i ∧ i ≤ 2)) : CC mX9_measure 3 0 0 [xR (some (9, 0)), xI (nI P), xI i, xF v] S (aI (-200001) S) := by
  refine CC_of mpX9_measure rfl (Nat.le_of_ble_eq_true rfl) ?_
  refine E_aload_n dX9_measure_0 rfl rfl ?_
  refine E_iload_n dX9_measure_1 rfl rfl ?_
  refine E_callV (m2 := mX9_has) dX9_measure_2 kX9_165 mzX9_has (c_has_y hM hP h) rfl ⟨_, _, rfl⟩ rfl rfl (by decide) (xs8 (Nat.le_of_ble_eq_true rfl)) (by first | exact Nat.le_of_ble_eq_true rfl | omega) (by first | exact Nat.le_of_ble_eq_true rfl | omega) ?_
  rintro _ _ ⟨rfl, rfl⟩
  refine E_if_eq (tgt := 17) dX9_measure_5 (by decide) (fun h5 => absurd h5 (by decide)) (fun h5 => ?_)
  refine E_iload_n dX9_measure_8 rfl rfl ?_
  refine E_iconst (v := 0) dX9_measure_9 (by decide) ?_
  refine E_iconst (v := 2) dX9_measure_10 (by decide) ?_
  refine E_callS (m2 := mX9_in) dX9_measure_11 kX9_141 mzX9_in (c_X9_in _ _ _) rfl rfl (by decide) (xs8 (Nat.le_of_ble_eq_true rfl)) (by first | exact Nat.le_of_ble_eq_true rfl | omega) (by first | exact Nat.le_of_ble_eq_true rfl | omega) ?_
  rintro _ _ ⟨rfl, rfl⟩; rw [if_neg hi]
  refine E_if_ne (tgt := 20) dX9_measure_14 (by decide) (fun h14 => absurd h14 (by decide)) (fun h14 => ?_)
  refine E_ldc dX9_measure_17 oX9_180 ?_
  refine E_iret dX9_measure_19 rfl rfl ?_
  exact ⟨rfl, rfl⟩
theorem c_r_measure_x {S : xS} (hM : xShM S) {P : Nat} (hP : P < 4) (h : ¬ (gI S 51 0 P) = 0) {i : Nat} (v : UInt32) (hi : i < 3) (hv : ¬ (¬ Op.cmpValue (FP.fcmp v 3296329728) .l < 0 ∧ Op.cmpValue (FP.fcmp v 1148846080) .g ≤ 0)) : CC mX9_measure 3 0 0 [xR (some (9, 0)), xI (nI P), xI (nI i), xF v] S (aI (-200000) S) := by
  refine CC_of mpX9_measure rfl (Nat.le_of_ble_eq_true rfl) ?_
  have e1 : (0 : Int32) ≤ nI i ∧ nI i ≤ 2 := ⟨nI_le (a := 0) (by omega) (by omega), nI_le (b := 2) (by omega) (by omega)⟩
  have hA : 3 * P + i < 12 := by omega
  refine E_aload_n dX9_measure_0 rfl rfl ?_
  refine E_iload_n dX9_measure_1 rfl rfl ?_
  refine E_callV (m2 := mX9_has) dX9_measure_2 kX9_165 mzX9_has (c_has_y hM hP h) rfl ⟨_, _, rfl⟩ rfl rfl (by decide) (xs8 (Nat.le_of_ble_eq_true rfl)) (by first | exact Nat.le_of_ble_eq_true rfl | omega) (by first | exact Nat.le_of_ble_eq_true rfl | omega) ?_
  rintro _ _ ⟨rfl, rfl⟩
  refine E_if_eq (tgt := 17) dX9_measure_5 (by decide) (fun h5 => absurd h5 (by decide)) (fun h5 => ?_)
  refine E_iload_n dX9_measure_8 rfl rfl ?_
  refine E_iconst (v := 0) dX9_measure_9 (by decide) ?_
  refine E_iconst (v := 2) dX9_measure_10 (by decide) ?_
  refine E_callS (m2 := mX9_in) dX9_measure_11 kX9_141 mzX9_in (c_X9_in _ _ _) rfl rfl (by decide) (xs8 (Nat.le_of_ble_eq_true rfl)) (by first | exact Nat.le_of_ble_eq_true rfl | omega) (by first | exact Nat.le_of_ble_eq_true rfl | omega) ?_
  rintro _ _ ⟨rfl, rfl⟩; rw [if_pos e1]
  refine E_if_ne (tgt := 20) dX9_measure_14 (by decide) (fun h14 => ?_) (fun h14 => absurd h14 (by decide))
  refine E_fload_n dX9_measure_20 rfl rfl ?_
  refine E_ldcf dX9_measure_21 oX9_181 ?_
  refine E_fcmp dX9_measure_23 ?_
  refine E_if_lt (tgt := 34) dX9_measure_24 (by decide) (fun h24 => ?_) (fun h24 => ?_)
  · refine E_ldc dX9_measure_34 oX9_183 ?_
    refine E_iret dX9_measure_36 rfl rfl ?_
    exact ⟨rfl, rfl⟩
  · refine E_fload_n dX9_measure_27 rfl rfl ?_
    refine E_ldcf dX9_measure_28 oX9_182 ?_
    refine E_fcmp dX9_measure_30 ?_
    refine E_if_le (tgt := 37) dX9_measure_31 (by decide) (fun h31 => ?_) (fun h31 => ?_)
    · exact absurd ⟨h24, h31⟩ hv
    · refine E_ldc dX9_measure_34 oX9_183 ?_
      refine E_iret dX9_measure_36 rfl rfl ?_
      exact ⟨rfl, rfl⟩
theorem c_r_measure_s {S : xS} (hM : xShM S) {P : Nat} (hP : P < 4) (h : ¬ (gI S 51 0 P) = 0) {i : Nat} (v : UInt32) (hi : i < 3) (hv : ¬ Op.cmpValue (FP.fcmp v 3296329728) .l < 0 ∧ Op.cmpValue (FP.fcmp v 1148846080) .g ≤ 0) (hnan : vf_n32 (FP.fmul v 1120403456)) : CC mX9_measure 3 0 0 [xR (some (9, 0)), xI (nI P), xI (nI i), xF v] S (aI (FP.f2i (FP.fmul v 1120403456)) (sI (sI (sI S 66 0 (3 * P + i) (FP.f2i (FP.fmul v 1120403456))) 67 0 (3 * P + i) 1) 68 0 (3 * P + i) (gI S 9 0 0))) := by
  refine CC_of mpX9_measure rfl (Nat.le_of_ble_eq_true rfl) ?_
  have e1 : (0 : Int32) ≤ nI i ∧ nI i ≤ 2 := ⟨nI_le (a := 0) (by omega) (by omega), nI_le (b := 2) (by omega) (by omega)⟩
  have hA : 3 * P + i < 12 := by omega
  refine E_aload_n dX9_measure_0 rfl rfl ?_
  refine E_iload_n dX9_measure_1 rfl rfl ?_
  refine E_callV (m2 := mX9_has) dX9_measure_2 kX9_165 mzX9_has (c_has_y hM hP h) rfl ⟨_, _, rfl⟩ rfl rfl (by decide) (xs8 (Nat.le_of_ble_eq_true rfl)) (by first | exact Nat.le_of_ble_eq_true rfl | omega) (by first | exact Nat.le_of_ble_eq_true rfl | omega) ?_
  rintro _ _ ⟨rfl, rfl⟩
  refine E_if_eq (tgt := 17) dX9_measure_5 (by decide) (fun h5 => absurd h5 (by decide)) (fun h5 => ?_)
  refine E_iload_n dX9_measure_8 rfl rfl ?_
  refine E_iconst (v := 0) dX9_measure_9 (by decide) ?_
  refine E_iconst (v := 2) dX9_measure_10 (by decide) ?_
  refine E_callS (m2 := mX9_in) dX9_measure_11 kX9_141 mzX9_in (c_X9_in _ _ _) rfl rfl (by decide) (xs8 (Nat.le_of_ble_eq_true rfl)) (by first | exact Nat.le_of_ble_eq_true rfl | omega) (by first | exact Nat.le_of_ble_eq_true rfl | omega) ?_
  rintro _ _ ⟨rfl, rfl⟩; rw [if_pos e1]
  refine E_if_ne (tgt := 20) dX9_measure_14 (by decide) (fun h14 => ?_) (fun h14 => absurd h14 (by decide))
  refine E_fload_n dX9_measure_20 rfl rfl ?_
  refine E_ldcf dX9_measure_21 oX9_181 ?_
  refine E_fcmp dX9_measure_23 ?_
  refine E_if_lt (tgt := 34) dX9_measure_24 (by decide) (fun h24 => absurd h24 (hv.1)) (fun h24 => ?_)
  refine E_fload_n dX9_measure_27 rfl rfl ?_
  refine E_ldcf dX9_measure_28 oX9_182 ?_
  refine E_fcmp dX9_measure_30 ?_
  refine E_if_le (tgt := 37) dX9_measure_31 (by decide) (fun h31 => ?_) (fun h31 => absurd h31 (fun z => z hv.2))
  refine E_iconst (v := 3) dX9_measure_37 (by decide) ?_
  refine E_iload_n dX9_measure_38 rfl rfl ?_
  refine E_imul dX9_measure_39 ?_
  refine E_iload_n dX9_measure_40 rfl rfl ?_
  refine E_iadd dX9_measure_41 ?_
  rw [nI_3]
  refine E_istore dX9_measure_42 (by decide) rfl ?_
  refine E_aload_n dX9_measure_44 rfl rfl ?_
  refine E_getR dX9_measure_45 fX9_56 rfl rfl rfl (rM_16 hM) ?_
  refine E_iload dX9_measure_48 rfl ?_
  refine E_fload_n dX9_measure_50 rfl rfl ?_
  refine E_ldcf dX9_measure_51 oX9_184 ?_
  refine E_fmul dX9_measure_53 hnan ?_
  refine E_f2i dX9_measure_54 ?_
  refine E_iast dX9_measure_55 rfl rfl (by decide) (lM_16 hM) (vin hA (by omega)) (vnat hA (by omega)) ?_
  refine E_aload_n dX9_measure_56 rfl rfl ?_
  refine E_getR dX9_measure_57 fX9_59 rfl rfl rfl (rM_17 hM) ?_
  refine E_iload dX9_measure_60 rfl ?_
  refine E_iconst (v := 1) dX9_measure_62 (by decide) ?_
  refine E_zast dX9_measure_63 rfl rfl (by decide) (lM_17 hM) (vin hA (by omega)) (vnat hA (by omega)) rfl ?_
  refine E_aload_n dX9_measure_64 rfl rfl ?_
  refine E_getR dX9_measure_65 fX9_62 rfl rfl rfl (rM_18 hM) ?_
  refine E_iload dX9_measure_68 rfl ?_
  refine E_aload_n dX9_measure_70 rfl rfl ?_
  refine E_getI dX9_measure_71 fX9_148 rfl rfl rfl rfl ?_
  refine E_iast dX9_measure_74 rfl rfl (by decide) (lM_18 hM) (vin hA (by omega)) (vnat hA (by omega)) ?_
  refine E_aload_n dX9_measure_75 rfl rfl ?_
  refine E_getR dX9_measure_76 fX9_56 rfl rfl rfl (rM_16 hM) ?_
  refine E_iload dX9_measure_79 rfl ?_
  refine E_iald dX9_measure_81 rfl rfl (by decide) (lM_16 hM) (vin hA (by omega)) (vnat hA (by omega)) (show gI (sI (sI (sI S 66 0 (3 * P + i) _) 67 0 (3 * P + i) 1) 68 0 (3 * P + i) _) 66 0 (3 * P + i) = FP.f2i (FP.fmul v 1120403456) by rw [gI_sI, if_neg (fun z => absurd z.1 (by decide)), gI_sI, if_neg (fun z => absurd z.1 (by decide)), gI_sI, if_pos ⟨rfl, rfl, rfl⟩]) ?_
  refine E_iret dX9_measure_82 rfl rfl ?_
  exact ⟨rfl, rfl⟩
