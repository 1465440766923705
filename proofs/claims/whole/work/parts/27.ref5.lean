/-! the reference: tickets, clubs, doors -/
theorem rng1 {C : Nat} (hC : C ≤ 1000) {j : Nat} (hj : j < 100000) : (0 ≤ nI j ∧ nI j ≤ nI C - 1) ↔ j < C := by
  have h1 : (nI C - 1).toInt = (C : Int) - 1 := by
    rcases Nat.eq_zero_or_pos C with q | q
    · subst q; decide
    · obtain ⟨c, rfl⟩ : ∃ c, C = c + 1 := ⟨C - 1, by omega⟩
      rw [nI_pred, nI_toInt (by omega)]; omega
  rw [fa_le, fa_le, h1, nI_toInt (by omega), Int32.toInt_zero]
  omega
theorem rng2 {C : Nat} (hC : C ≤ 1000) {a : Int32} (h : 0 ≤ a ∧ a ≤ nI C - 1) : ∃ j, j < C ∧ a = nI j := by
  obtain ⟨j, hj, rfl⟩ := nI_of (Int32.not_lt.mpr h.1)
  refine ⟨j, ?_, rfl⟩
  have h1 : (nI C - 1).toInt = (C : Int) - 1 := by
    rcases Nat.eq_zero_or_pos C with q | q
    · subst q; decide
    · obtain ⟨c, rfl⟩ : ∃ c, C = c + 1 := ⟨C - 1, by omega⟩
      rw [nI_pred, nI_toInt (by omega)]; omega
  have h2 := h.2
  rw [fa_le, h1, nI_toInt hj] at h2
  omega
def xrnt (S : xS) (T P : Nat) (k a b : Int32) : xS := (sI (sI (sI (sI (sI (sI (sI S 73 0 T (nI P)) 74 0 T k) 75 0 T a) 76 0 T (if k = 3 ∧ ¬ b = 0 then 1 else 0)) 77 0 T (-1)) 82 0 T (-1000)) 9 0 22 ((gI S 9 0 22) + 1))
theorem c_r_ticket_f {S : xS} (p k a b : Int32) (h : (gI S 9 0 22) = 200) : CC mX9_ticket 3 0 0 [xR (some (9, 0)), xI p, xI k, xI a, xI b] S (aI (-1) S) := by
  refine CC_of mpX9_ticket rfl (Nat.le_of_ble_eq_true rfl) ?_
  refine E_aload_n dX9_ticket_0 rfl rfl ?_
  refine E_getI dX9_ticket_1 fX9_145 rfl rfl rfl rfl ?_
  refine E_sipush (v := 200) dX9_ticket_4 (by decide) ?_
  refine E_icmp_eq (tgt := 44) dX9_ticket_7 (by decide) (fun h7 => ?_) (fun h7 => absurd h7 (fun z => z h))
  refine E_iconst (v := -1) dX9_ticket_44 (by decide) ?_
  refine E_iret dX9_ticket_45 rfl rfl ?_
  exact ⟨rfl, rfl⟩
theorem c_r_ticket_p {S : xS} (hM : xShM S) (p k a b : Int32) (h : ¬ xhas S p) : CC mX9_ticket 3 0 0 [xR (some (9, 0)), xI p, xI k, xI a, xI b] S (aI (-1) S) := by
  refine CC_of mpX9_ticket rfl (Nat.le_of_ble_eq_true rfl) ?_
  refine E_aload_n dX9_ticket_0 rfl rfl ?_
  refine E_getI dX9_ticket_1 fX9_145 rfl rfl rfl rfl ?_
  refine E_sipush (v := 200) dX9_ticket_4 (by decide) ?_
  refine E_icmp_eq (tgt := 44) dX9_ticket_7 (by decide) (fun h7 => ?_) (fun h7 => ?_)
  · refine E_iconst (v := -1) dX9_ticket_44 (by decide) ?_
    refine E_iret dX9_ticket_45 rfl rfl ?_
    exact ⟨rfl, rfl⟩
  · refine E_aload_n dX9_ticket_10 rfl rfl ?_
    refine E_iload_n dX9_ticket_11 rfl rfl ?_
    refine E_callV (m2 := mX9_has) dX9_ticket_12 kX9_165 mzX9_has (c_has_n hM p h) rfl ⟨_, _, rfl⟩ rfl rfl (by decide) (xs8 (Nat.le_of_ble_eq_true rfl)) (by first | exact Nat.le_of_ble_eq_true rfl | omega) (by first | exact Nat.le_of_ble_eq_true rfl | omega) ?_
    rintro _ _ ⟨rfl, rfl⟩
    refine E_if_eq (tgt := 44) dX9_ticket_15 (by decide) (fun h15 => ?_) (fun h15 => absurd h15 (by decide))
    refine E_iconst (v := -1) dX9_ticket_44 (by decide) ?_
    refine E_iret dX9_ticket_45 rfl rfl ?_
    exact ⟨rfl, rfl⟩
theorem c_r_ticket_o {S : xS} (hM : xShM S) {P : Nat} (hP : P < 4) (h : ¬ (gI S 51 0 P) = 0) (k a b : Int32) (hn : ¬ (0 ≤ k ∧ k ≤ 5)) : CC mX9_ticket 3 0 0 [xR (some (9, 0)), xI (nI P), xI k, xI a, xI b] S (aI (-1) S) := by
  refine CC_of mpX9_ticket rfl (Nat.le_of_ble_eq_true rfl) ?_
  refine E_aload_n dX9_ticket_0 rfl rfl ?_
  refine E_getI dX9_ticket_1 fX9_145 rfl rfl rfl rfl ?_
  refine E_sipush (v := 200) dX9_ticket_4 (by decide) ?_
  refine E_icmp_eq (tgt := 44) dX9_ticket_7 (by decide) (fun h7 => ?_) (fun h7 => ?_)
  · refine E_iconst (v := -1) dX9_ticket_44 (by decide) ?_
    refine E_iret dX9_ticket_45 rfl rfl ?_
    exact ⟨rfl, rfl⟩
  · refine E_aload_n dX9_ticket_10 rfl rfl ?_
    refine E_iload_n dX9_ticket_11 rfl rfl ?_
    refine E_callV (m2 := mX9_has) dX9_ticket_12 kX9_165 mzX9_has (c_has_y hM hP h) rfl ⟨_, _, rfl⟩ rfl rfl (by decide) (xs8 (Nat.le_of_ble_eq_true rfl)) (by first | exact Nat.le_of_ble_eq_true rfl | omega) (by first | exact Nat.le_of_ble_eq_true rfl | omega) ?_
    rintro _ _ ⟨rfl, rfl⟩
    refine E_if_eq (tgt := 44) dX9_ticket_15 (by decide) (fun h15 => absurd h15 (by decide)) (fun h15 => ?_)
    refine E_iload_n dX9_ticket_18 rfl rfl ?_
    refine E_iconst (v := 0) dX9_ticket_19 (by decide) ?_
    refine E_iconst (v := 5) dX9_ticket_20 (by decide) ?_
    refine E_callS (m2 := mX9_in) dX9_ticket_21 kX9_141 mzX9_in (c_X9_in _ _ _) rfl rfl (by decide) (xs8 (Nat.le_of_ble_eq_true rfl)) (by first | exact Nat.le_of_ble_eq_true rfl | omega) (by first | exact Nat.le_of_ble_eq_true rfl | omega) ?_
    rintro _ _ ⟨rfl, rfl⟩; rw [if_neg hn]
    refine E_if_eq (tgt := 44) dX9_ticket_24 (by decide) (fun h24 => ?_) (fun h24 => absurd h24 (by decide))
    refine E_iconst (v := -1) dX9_ticket_44 (by decide) ?_
    refine E_iret dX9_ticket_45 rfl rfl ?_
    exact ⟨rfl, rfl⟩
theorem c_r_ticket_1 {S : xS} (hM : xShM S) {P : Nat} (hP : P < 4) (h : ¬ (gI S 51 0 P) = 0) (a b : Int32) (hn : ¬ (15 ≤ a ∧ a ≤ 240)) : CC mX9_ticket 3 0 0 [xR (some (9, 0)), xI (nI P), xI 1, xI a, xI b] S (aI (-1) S) := by
  refine CC_of mpX9_ticket rfl (Nat.le_of_ble_eq_true rfl) ?_
  refine E_aload_n dX9_ticket_0 rfl rfl ?_
  refine E_getI dX9_ticket_1 fX9_145 rfl rfl rfl rfl ?_
  refine E_sipush (v := 200) dX9_ticket_4 (by decide) ?_
  refine E_icmp_eq (tgt := 44) dX9_ticket_7 (by decide) (fun h7 => ?_) (fun h7 => ?_)
  · refine E_iconst (v := -1) dX9_ticket_44 (by decide) ?_
    refine E_iret dX9_ticket_45 rfl rfl ?_
    exact ⟨rfl, rfl⟩
  · refine E_aload_n dX9_ticket_10 rfl rfl ?_
    refine E_iload_n dX9_ticket_11 rfl rfl ?_
    refine E_callV (m2 := mX9_has) dX9_ticket_12 kX9_165 mzX9_has (c_has_y hM hP h) rfl ⟨_, _, rfl⟩ rfl rfl (by decide) (xs8 (Nat.le_of_ble_eq_true rfl)) (by first | exact Nat.le_of_ble_eq_true rfl | omega) (by first | exact Nat.le_of_ble_eq_true rfl | omega) ?_
    rintro _ _ ⟨rfl, rfl⟩
    refine E_if_eq (tgt := 44) dX9_ticket_15 (by decide) (fun h15 => absurd h15 (by decide)) (fun h15 => ?_)
    refine E_iload_n dX9_ticket_18 rfl rfl ?_
    refine E_iconst (v := 0) dX9_ticket_19 (by decide) ?_
    refine E_iconst (v := 5) dX9_ticket_20 (by decide) ?_
    refine E_callS (m2 := mX9_in) dX9_ticket_21 kX9_141 mzX9_in (c_X9_in _ _ _) rfl rfl (by decide) (xs8 (Nat.le_of_ble_eq_true rfl)) (by first | exact Nat.le_of_ble_eq_true rfl | omega) (by first | exact Nat.le_of_ble_eq_true rfl | omega) ?_
    rintro _ _ ⟨rfl, rfl⟩; rw [if_pos (by decide : (0 : Int32) ≤ 1 ∧ (1 : Int32) ≤ 5)]
    refine E_if_eq (tgt := 44) dX9_ticket_24 (by decide) (fun h24 => absurd h24 (by decide)) (fun h24 => ?_)
    refine E_iload_n dX9_ticket_27 rfl rfl ?_
    refine E_iconst (v := 1) dX9_ticket_28 (by decide) ?_
    refine E_icmp_ne (tgt := 46) dX9_ticket_29 (by decide) (fun h29 => absurd h29 (by decide)) (fun h29 => ?_)
    refine E_iload_n dX9_ticket_32 rfl rfl ?_
    refine E_bipush (v := 15) dX9_ticket_33 (by decide) ?_
    refine E_sipush (v := 240) dX9_ticket_35 (by decide) ?_
    refine E_callS (m2 := mX9_in) dX9_ticket_38 kX9_141 mzX9_in (c_X9_in _ _ _) rfl rfl (by decide) (xs8 (Nat.le_of_ble_eq_true rfl)) (by first | exact Nat.le_of_ble_eq_true rfl | omega) (by first | exact Nat.le_of_ble_eq_true rfl | omega) ?_
    rintro _ _ ⟨rfl, rfl⟩; rw [if_neg hn]
    refine E_if_ne (tgt := 46) dX9_ticket_41 (by decide) (fun h41 => absurd h41 (fun z => z rfl)) (fun h41 => ?_)
    refine E_iconst (v := -1) dX9_ticket_44 (by decide) ?_
    refine E_iret dX9_ticket_45 rfl rfl ?_
    exact ⟨rfl, rfl⟩
theorem c_r_ticket_c2 {S : xS} (hM : xShM S) {P : Nat} (hP : P < 4) (h : ¬ (gI S 51 0 P) = 0) (a b : Int32) (hn : ¬ (0 ≤ a ∧ a ≤ (gI S 9 0 35) - 1)) : CC mX9_ticket 3 0 0 [xR (some (9, 0)), xI (nI P), xI 2, xI a, xI b] S (aI (-1) S) := by
  refine CC_of mpX9_ticket rfl (Nat.le_of_ble_eq_true rfl) ?_
  refine E_aload_n dX9_ticket_0 rfl rfl ?_
  refine E_getI dX9_ticket_1 fX9_145 rfl rfl rfl rfl ?_
  refine E_sipush (v := 200) dX9_ticket_4 (by decide) ?_
  refine E_icmp_eq (tgt := 44) dX9_ticket_7 (by decide) (fun h7 => ?_) (fun h7 => ?_)
  · refine E_iconst (v := -1) dX9_ticket_44 (by decide) ?_
    refine E_iret dX9_ticket_45 rfl rfl ?_
    exact ⟨rfl, rfl⟩
  · refine E_aload_n dX9_ticket_10 rfl rfl ?_
    refine E_iload_n dX9_ticket_11 rfl rfl ?_
    refine E_callV (m2 := mX9_has) dX9_ticket_12 kX9_165 mzX9_has (c_has_y hM hP h) rfl ⟨_, _, rfl⟩ rfl rfl (by decide) (xs8 (Nat.le_of_ble_eq_true rfl)) (by first | exact Nat.le_of_ble_eq_true rfl | omega) (by first | exact Nat.le_of_ble_eq_true rfl | omega) ?_
    rintro _ _ ⟨rfl, rfl⟩
    refine E_if_eq (tgt := 44) dX9_ticket_15 (by decide) (fun h15 => absurd h15 (by decide)) (fun h15 => ?_)
    refine E_iload_n dX9_ticket_18 rfl rfl ?_
    refine E_iconst (v := 0) dX9_ticket_19 (by decide) ?_
    refine E_iconst (v := 5) dX9_ticket_20 (by decide) ?_
    refine E_callS (m2 := mX9_in) dX9_ticket_21 kX9_141 mzX9_in (c_X9_in _ _ _) rfl rfl (by decide) (xs8 (Nat.le_of_ble_eq_true rfl)) (by first | exact Nat.le_of_ble_eq_true rfl | omega) (by first | exact Nat.le_of_ble_eq_true rfl | omega) ?_
    rintro _ _ ⟨rfl, rfl⟩; rw [if_pos (by decide : (0 : Int32) ≤ 2 ∧ (2 : Int32) ≤ 5)]
    refine E_if_eq (tgt := 44) dX9_ticket_24 (by decide) (fun h24 => absurd h24 (by decide)) (fun h24 => ?_)
    refine E_iload_n dX9_ticket_27 rfl rfl ?_
    refine E_iconst (v := 1) dX9_ticket_28 (by decide) ?_
    refine E_icmp_ne (tgt := 46) dX9_ticket_29 (by decide) (fun h29 => ?_) (fun h29 => absurd h29 (by decide))
    refine E_iload_n dX9_ticket_46 rfl rfl ?_
    refine E_iconst (v := 2) dX9_ticket_47 (by decide) ?_
    refine E_icmp_eq (tgt := 56) dX9_ticket_48 (by decide) (fun h48 => ?_) (fun h48 => absurd h48 (by decide))
    refine E_iconst (v := 1) dX9_ticket_56 (by decide) ?_
    refine E_goto (tgt := 61) dX9_ticket_57 (by decide) ?_
    refine E_istore dX9_ticket_61 (by decide) rfl ?_
    refine E_iload dX9_ticket_63 rfl ?_
    refine E_if_eq (tgt := 121) dX9_ticket_65 (by decide) (fun h65 => absurd h65 (by decide)) (fun h65 => ?_)
    refine E_iload_n dX9_ticket_68 rfl rfl ?_
    refine E_iconst (v := 0) dX9_ticket_69 (by decide) ?_
    refine E_aload_n dX9_ticket_70 rfl rfl ?_
    refine E_getI dX9_ticket_71 fX9_172 rfl rfl rfl rfl ?_
    refine E_iconst (v := 1) dX9_ticket_74 (by decide) ?_
    refine E_isub dX9_ticket_75 ?_
    refine E_callS (m2 := mX9_in) dX9_ticket_76 kX9_141 mzX9_in (c_X9_in _ _ _) rfl rfl (by decide) (xs8 (Nat.le_of_ble_eq_true rfl)) (by first | exact Nat.le_of_ble_eq_true rfl | omega) (by first | exact Nat.le_of_ble_eq_true rfl | omega) ?_
    rintro _ _ ⟨rfl, rfl⟩; rw [if_neg hn]
    refine E_if_eq (tgt := 119) dX9_ticket_79 (by decide) (fun h79 => ?_) (fun h79 => absurd h79 (by decide))
    refine E_iconst (v := -1) dX9_ticket_119 (by decide) ?_
    refine E_iret dX9_ticket_120 rfl rfl ?_
    exact ⟨rfl, rfl⟩
theorem c_r_ticket_d2 {S : xS} (hM : xShM S) {P : Nat} (hP : P < 4) (h : ¬ (gI S 51 0 P) = 0) {c : Nat} (hc : c < 20) (hc2 : 0 ≤ nI c ∧ nI c ≤ (gI S 9 0 35) - 1) (b : Int32) (hn : ¬ ((gI S 87 0 c) = nI P ∧ ¬ 0 < (gI S 91 0 c))) : CC mX9_ticket 3 0 0 [xR (some (9, 0)), xI (nI P), xI 2, xI (nI c), xI b] S (aI (-1) S) := by
  refine CC_of mpX9_ticket rfl (Nat.le_of_ble_eq_true rfl) ?_
  refine E_aload_n dX9_ticket_0 rfl rfl ?_
  refine E_getI dX9_ticket_1 fX9_145 rfl rfl rfl rfl ?_
  refine E_sipush (v := 200) dX9_ticket_4 (by decide) ?_
  refine E_icmp_eq (tgt := 44) dX9_ticket_7 (by decide) (fun h7 => ?_) (fun h7 => ?_)
  · refine E_iconst (v := -1) dX9_ticket_44 (by decide) ?_
    refine E_iret dX9_ticket_45 rfl rfl ?_
    exact ⟨rfl, rfl⟩
  · refine E_aload_n dX9_ticket_10 rfl rfl ?_
    refine E_iload_n dX9_ticket_11 rfl rfl ?_
    refine E_callV (m2 := mX9_has) dX9_ticket_12 kX9_165 mzX9_has (c_has_y hM hP h) rfl ⟨_, _, rfl⟩ rfl rfl (by decide) (xs8 (Nat.le_of_ble_eq_true rfl)) (by first | exact Nat.le_of_ble_eq_true rfl | omega) (by first | exact Nat.le_of_ble_eq_true rfl | omega) ?_
    rintro _ _ ⟨rfl, rfl⟩
    refine E_if_eq (tgt := 44) dX9_ticket_15 (by decide) (fun h15 => absurd h15 (by decide)) (fun h15 => ?_)
    refine E_iload_n dX9_ticket_18 rfl rfl ?_
    refine E_iconst (v := 0) dX9_ticket_19 (by decide) ?_
    refine E_iconst (v := 5) dX9_ticket_20 (by decide) ?_
    refine E_callS (m2 := mX9_in) dX9_ticket_21 kX9_141 mzX9_in (c_X9_in _ _ _) rfl rfl (by decide) (xs8 (Nat.le_of_ble_eq_true rfl)) (by first | exact Nat.le_of_ble_eq_true rfl | omega) (by first | exact Nat.le_of_ble_eq_true rfl | omega) ?_
    rintro _ _ ⟨rfl, rfl⟩; rw [if_pos (by decide : (0 : Int32) ≤ 2 ∧ (2 : Int32) ≤ 5)]
    refine E_if_eq (tgt := 44) dX9_ticket_24 (by decide) (fun h24 => absurd h24 (by decide)) (fun h24 => ?_)
    refine E_iload_n dX9_ticket_27 rfl rfl ?_
    refine E_iconst (v := 1) dX9_ticket_28 (by decide) ?_
    refine E_icmp_ne (tgt := 46) dX9_ticket_29 (by decide) (fun h29 => ?_) (fun h29 => absurd h29 (by decide))
    refine E_iload_n dX9_ticket_46 rfl rfl ?_
    refine E_iconst (v := 2) dX9_ticket_47 (by decide) ?_
    refine E_icmp_eq (tgt := 56) dX9_ticket_48 (by decide) (fun h48 => ?_) (fun h48 => absurd h48 (by decide))
    refine E_iconst (v := 1) dX9_ticket_56 (by decide) ?_
    refine E_goto (tgt := 61) dX9_ticket_57 (by decide) ?_
    refine E_istore dX9_ticket_61 (by decide) rfl ?_
    refine E_iload dX9_ticket_63 rfl ?_
    refine E_if_eq (tgt := 121) dX9_ticket_65 (by decide) (fun h65 => absurd h65 (by decide)) (fun h65 => ?_)
    refine E_iload_n dX9_ticket_68 rfl rfl ?_
    refine E_iconst (v := 0) dX9_ticket_69 (by decide) ?_
    refine E_aload_n dX9_ticket_70 rfl rfl ?_
    refine E_getI dX9_ticket_71 fX9_172 rfl rfl rfl rfl ?_
    refine E_iconst (v := 1) dX9_ticket_74 (by decide) ?_
    refine E_isub dX9_ticket_75 ?_
    refine E_callS (m2 := mX9_in) dX9_ticket_76 kX9_141 mzX9_in (c_X9_in _ _ _) rfl rfl (by decide) (xs8 (Nat.le_of_ble_eq_true rfl)) (by first | exact Nat.le_of_ble_eq_true rfl | omega) (by first | exact Nat.le_of_ble_eq_true rfl | omega) ?_
    rintro _ _ ⟨rfl, rfl⟩; rw [if_pos hc2]
    refine E_if_eq (tgt := 119) dX9_ticket_79 (by decide) (fun h79 => absurd h79 (by decide)) (fun h79 => ?_)
    refine E_aload_n dX9_ticket_82 rfl rfl ?_
    refine E_getR dX9_ticket_83 fX9_114 rfl rfl rfl (rM_37 hM) ?_
    refine E_iload_n dX9_ticket_86 rfl rfl ?_
    refine E_iald dX9_ticket_87 rfl rfl (by decide) (lM_37 hM) (vin hc (by omega)) (vnat hc (by omega)) rfl ?_
    refine E_iload_n dX9_ticket_88 rfl rfl ?_
    refine E_icmp_ne (tgt := 119) dX9_ticket_89 (by decide) (fun h89 => ?_) (fun h89 => ?_)
    · refine E_iconst (v := -1) dX9_ticket_119 (by decide) ?_
      refine E_iret dX9_ticket_120 rfl rfl ?_
      exact ⟨rfl, rfl⟩
    · refine E_aload_n dX9_ticket_92 rfl rfl ?_
      refine E_getR dX9_ticket_93 fX9_126 rfl rfl rfl (rM_41 hM) ?_
      refine E_iload_n dX9_ticket_96 rfl rfl ?_
      refine E_iald dX9_ticket_97 rfl rfl (by decide) (lM_41 hM) (vin hc (by omega)) (vnat hc (by omega)) rfl ?_
      refine E_if_le (tgt := 105) dX9_ticket_98 (by decide) (fun h98 => ?_) (fun h98 => ?_)
      · refine E_iconst (v := 0) dX9_ticket_105 (by decide) ?_
        refine E_iload_n dX9_ticket_106 rfl rfl ?_
        refine E_iconst (v := 3) dX9_ticket_107 (by decide) ?_
        refine E_icmp_ne (tgt := 115) dX9_ticket_108 (by decide) (fun h108 => ?_) (fun h108 => absurd h108 (by decide))
        refine E_iconst (v := 0) dX9_ticket_115 (by decide) ?_
        refine E_icmp_eq (tgt := 121) dX9_ticket_116 (by decide) (fun h116 => ?_) (fun h116 => absurd h116 (by decide))
        exact absurd ⟨h89, Int32.not_lt.mpr h98⟩ hn
      · refine E_iconst (v := 1) dX9_ticket_101 (by decide) ?_
        refine E_goto (tgt := 106) dX9_ticket_102 (by decide) ?_
        refine E_iload_n dX9_ticket_106 rfl rfl ?_
        refine E_iconst (v := 3) dX9_ticket_107 (by decide) ?_
        refine E_icmp_ne (tgt := 115) dX9_ticket_108 (by decide) (fun h108 => ?_) (fun h108 => absurd h108 (by decide))
        refine E_iconst (v := 0) dX9_ticket_115 (by decide) ?_
        refine E_icmp_eq (tgt := 121) dX9_ticket_116 (by decide) (fun h116 => absurd h116 (by decide)) (fun h116 => ?_)
        refine E_iconst (v := -1) dX9_ticket_119 (by decide) ?_
        refine E_iret dX9_ticket_120 rfl rfl ?_
        exact ⟨rfl, rfl⟩
theorem c_r_ticket_c3 {S : xS} (hM : xShM S) {P : Nat} (hP : P < 4) (h : ¬ (gI S 51 0 P) = 0) (a b : Int32) (hn : ¬ (0 ≤ a ∧ a ≤ (gI S 9 0 35) - 1)) : CC mX9_ticket 3 0 0 [xR (some (9, 0)), xI (nI P), xI 3, xI a, xI b] S (aI (-1) S) := by
  refine CC_of mpX9_ticket rfl (Nat.le_of_ble_eq_true rfl) ?_
  refine E_aload_n dX9_ticket_0 rfl rfl ?_
  refine E_getI dX9_ticket_1 fX9_145 rfl rfl rfl rfl ?_
  refine E_sipush (v := 200) dX9_ticket_4 (by decide) ?_
  refine E_icmp_eq (tgt := 44) dX9_ticket_7 (by decide) (fun h7 => ?_) (fun h7 => ?_)
  · refine E_iconst (v := -1) dX9_ticket_44 (by decide) ?_
    refine E_iret dX9_ticket_45 rfl rfl ?_
    exact ⟨rfl, rfl⟩
  · refine E_aload_n dX9_ticket_10 rfl rfl ?_
    refine E_iload_n dX9_ticket_11 rfl rfl ?_
    refine E_callV (m2 := mX9_has) dX9_ticket_12 kX9_165 mzX9_has (c_has_y hM hP h) rfl ⟨_, _, rfl⟩ rfl rfl (by decide) (xs8 (Nat.le_of_ble_eq_true rfl)) (by first | exact Nat.le_of_ble_eq_true rfl | omega) (by first | exact Nat.le_of_ble_eq_true rfl | omega) ?_
    rintro _ _ ⟨rfl, rfl⟩
    refine E_if_eq (tgt := 44) dX9_ticket_15 (by decide) (fun h15 => absurd h15 (by decide)) (fun h15 => ?_)
    refine E_iload_n dX9_ticket_18 rfl rfl ?_
    refine E_iconst (v := 0) dX9_ticket_19 (by decide) ?_
    refine E_iconst (v := 5) dX9_ticket_20 (by decide) ?_
    refine E_callS (m2 := mX9_in) dX9_ticket_21 kX9_141 mzX9_in (c_X9_in _ _ _) rfl rfl (by decide) (xs8 (Nat.le_of_ble_eq_true rfl)) (by first | exact Nat.le_of_ble_eq_true rfl | omega) (by first | exact Nat.le_of_ble_eq_true rfl | omega) ?_
    rintro _ _ ⟨rfl, rfl⟩; rw [if_pos (by decide : (0 : Int32) ≤ 3 ∧ (3 : Int32) ≤ 5)]
    refine E_if_eq (tgt := 44) dX9_ticket_24 (by decide) (fun h24 => absurd h24 (by decide)) (fun h24 => ?_)
    refine E_iload_n dX9_ticket_27 rfl rfl ?_
    refine E_iconst (v := 1) dX9_ticket_28 (by decide) ?_
    refine E_icmp_ne (tgt := 46) dX9_ticket_29 (by decide) (fun h29 => ?_) (fun h29 => absurd h29 (by decide))
    refine E_iload_n dX9_ticket_46 rfl rfl ?_
    refine E_iconst (v := 2) dX9_ticket_47 (by decide) ?_
    refine E_icmp_eq (tgt := 56) dX9_ticket_48 (by decide) (fun h48 => absurd h48 (by decide)) (fun h48 => ?_)
    refine E_iload_n dX9_ticket_51 rfl rfl ?_
    refine E_iconst (v := 3) dX9_ticket_52 (by decide) ?_
    refine E_icmp_ne (tgt := 60) dX9_ticket_53 (by decide) (fun h53 => absurd h53 (by decide)) (fun h53 => ?_)
    refine E_iconst (v := 1) dX9_ticket_56 (by decide) ?_
    refine E_goto (tgt := 61) dX9_ticket_57 (by decide) ?_
    refine E_istore dX9_ticket_61 (by decide) rfl ?_
    refine E_iload dX9_ticket_63 rfl ?_
    refine E_if_eq (tgt := 121) dX9_ticket_65 (by decide) (fun h65 => absurd h65 (by decide)) (fun h65 => ?_)
    refine E_iload_n dX9_ticket_68 rfl rfl ?_
    refine E_iconst (v := 0) dX9_ticket_69 (by decide) ?_
    refine E_aload_n dX9_ticket_70 rfl rfl ?_
    refine E_getI dX9_ticket_71 fX9_172 rfl rfl rfl rfl ?_
    refine E_iconst (v := 1) dX9_ticket_74 (by decide) ?_
    refine E_isub dX9_ticket_75 ?_
    refine E_callS (m2 := mX9_in) dX9_ticket_76 kX9_141 mzX9_in (c_X9_in _ _ _) rfl rfl (by decide) (xs8 (Nat.le_of_ble_eq_true rfl)) (by first | exact Nat.le_of_ble_eq_true rfl | omega) (by first | exact Nat.le_of_ble_eq_true rfl | omega) ?_
    rintro _ _ ⟨rfl, rfl⟩; rw [if_neg hn]
    refine E_if_eq (tgt := 119) dX9_ticket_79 (by decide) (fun h79 => ?_) (fun h79 => absurd h79 (by decide))
    refine E_iconst (v := -1) dX9_ticket_119 (by decide) ?_
    refine E_iret dX9_ticket_120 rfl rfl ?_
    exact ⟨rfl, rfl⟩
theorem c_r_ticket_d3 {S : xS} (hM : xShM S) {P : Nat} (hP : P < 4) (h : ¬ (gI S 51 0 P) = 0) {c : Nat} (hc : c < 20) (hc2 : 0 ≤ nI c ∧ nI c ≤ (gI S 9 0 35) - 1) (b : Int32) (hn : ¬ ((gI S 87 0 c) = nI P ∧ 0 < (gI S 91 0 c))) : CC mX9_ticket 3 0 0 [xR (some (9, 0)), xI (nI P), xI 3, xI (nI c), xI b] S (aI (-1) S) := by
  refine CC_of mpX9_ticket rfl (Nat.le_of_ble_eq_true rfl) ?_
  refine E_aload_n dX9_ticket_0 rfl rfl ?_
  refine E_getI dX9_ticket_1 fX9_145 rfl rfl rfl rfl ?_
  refine E_sipush (v := 200) dX9_ticket_4 (by decide) ?_
  refine E_icmp_eq (tgt := 44) dX9_ticket_7 (by decide) (fun h7 => ?_) (fun h7 => ?_)
  · refine E_iconst (v := -1) dX9_ticket_44 (by decide) ?_
    refine E_iret dX9_ticket_45 rfl rfl ?_
    exact ⟨rfl, rfl⟩
  · refine E_aload_n dX9_ticket_10 rfl rfl ?_
    refine E_iload_n dX9_ticket_11 rfl rfl ?_
    refine E_callV (m2 := mX9_has) dX9_ticket_12 kX9_165 mzX9_has (c_has_y hM hP h) rfl ⟨_, _, rfl⟩ rfl rfl (by decide) (xs8 (Nat.le_of_ble_eq_true rfl)) (by first | exact Nat.le_of_ble_eq_true rfl | omega) (by first | exact Nat.le_of_ble_eq_true rfl | omega) ?_
    rintro _ _ ⟨rfl, rfl⟩
    refine E_if_eq (tgt := 44) dX9_ticket_15 (by decide) (fun h15 => absurd h15 (by decide)) (fun h15 => ?_)
    refine E_iload_n dX9_ticket_18 rfl rfl ?_
    refine E_iconst (v := 0) dX9_ticket_19 (by decide) ?_
    refine E_iconst (v := 5) dX9_ticket_20 (by decide) ?_
    refine E_callS (m2 := mX9_in) dX9_ticket_21 kX9_141 mzX9_in (c_X9_in _ _ _) rfl rfl (by decide) (xs8 (Nat.le_of_ble_eq_true rfl)) (by first | exact Nat.le_of_ble_eq_true rfl | omega) (by first | exact Nat.le_of_ble_eq_true rfl | omega) ?_
    rintro _ _ ⟨rfl, rfl⟩; rw [if_pos (by decide : (0 : Int32) ≤ 3 ∧ (3 : Int32) ≤ 5)]
    refine E_if_eq (tgt := 44) dX9_ticket_24 (by decide) (fun h24 => absurd h24 (by decide)) (fun h24 => ?_)
    refine E_iload_n dX9_ticket_27 rfl rfl ?_
    refine E_iconst (v := 1) dX9_ticket_28 (by decide) ?_
    refine E_icmp_ne (tgt := 46) dX9_ticket_29 (by decide) (fun h29 => ?_) (fun h29 => absurd h29 (by decide))
    refine E_iload_n dX9_ticket_46 rfl rfl ?_
    refine E_iconst (v := 2) dX9_ticket_47 (by decide) ?_
    refine E_icmp_eq (tgt := 56) dX9_ticket_48 (by decide) (fun h48 => absurd h48 (by decide)) (fun h48 => ?_)
    refine E_iload_n dX9_ticket_51 rfl rfl ?_
    refine E_iconst (v := 3) dX9_ticket_52 (by decide) ?_
    refine E_icmp_ne (tgt := 60) dX9_ticket_53 (by decide) (fun h53 => absurd h53 (by decide)) (fun h53 => ?_)
    refine E_iconst (v := 1) dX9_ticket_56 (by decide) ?_
    refine E_goto (tgt := 61) dX9_ticket_57 (by decide) ?_
    refine E_istore dX9_ticket_61 (by decide) rfl ?_
    refine E_iload dX9_ticket_63 rfl ?_
    refine E_if_eq (tgt := 121) dX9_ticket_65 (by decide) (fun h65 => absurd h65 (by decide)) (fun h65 => ?_)
    refine E_iload_n dX9_ticket_68 rfl rfl ?_
    refine E_iconst (v := 0) dX9_ticket_69 (by decide) ?_
    refine E_aload_n dX9_ticket_70 rfl rfl ?_
    refine E_getI dX9_ticket_71 fX9_172 rfl rfl rfl rfl ?_
    refine E_iconst (v := 1) dX9_ticket_74 (by decide) ?_
    refine E_isub dX9_ticket_75 ?_
    refine E_callS (m2 := mX9_in) dX9_ticket_76 kX9_141 mzX9_in (c_X9_in _ _ _) rfl rfl (by decide) (xs8 (Nat.le_of_ble_eq_true rfl)) (by first | exact Nat.le_of_ble_eq_true rfl | omega) (by first | exact Nat.le_of_ble_eq_true rfl | omega) ?_
    rintro _ _ ⟨rfl, rfl⟩; rw [if_pos hc2]
    refine E_if_eq (tgt := 119) dX9_ticket_79 (by decide) (fun h79 => absurd h79 (by decide)) (fun h79 => ?_)
    refine E_aload_n dX9_ticket_82 rfl rfl ?_
    refine E_getR dX9_ticket_83 fX9_114 rfl rfl rfl (rM_37 hM) ?_
    refine E_iload_n dX9_ticket_86 rfl rfl ?_
    refine E_iald dX9_ticket_87 rfl rfl (by decide) (lM_37 hM) (vin hc (by omega)) (vnat hc (by omega)) rfl ?_
    refine E_iload_n dX9_ticket_88 rfl rfl ?_
    refine E_icmp_ne (tgt := 119) dX9_ticket_89 (by decide) (fun h89 => ?_) (fun h89 => ?_)
    · refine E_iconst (v := -1) dX9_ticket_119 (by decide) ?_
      refine E_iret dX9_ticket_120 rfl rfl ?_
      exact ⟨rfl, rfl⟩
    · refine E_aload_n dX9_ticket_92 rfl rfl ?_
      refine E_getR dX9_ticket_93 fX9_126 rfl rfl rfl (rM_41 hM) ?_
      refine E_iload_n dX9_ticket_96 rfl rfl ?_
      refine E_iald dX9_ticket_97 rfl rfl (by decide) (lM_41 hM) (vin hc (by omega)) (vnat hc (by omega)) rfl ?_
      refine E_if_le (tgt := 105) dX9_ticket_98 (by decide) (fun h98 => ?_) (fun h98 => ?_)
      · refine E_iconst (v := 0) dX9_ticket_105 (by decide) ?_
        refine E_iload_n dX9_ticket_106 rfl rfl ?_
        refine E_iconst (v := 3) dX9_ticket_107 (by decide) ?_
        refine E_icmp_ne (tgt := 115) dX9_ticket_108 (by decide) (fun h108 => absurd h108 (by decide)) (fun h108 => ?_)
        refine E_iconst (v := 1) dX9_ticket_111 (by decide) ?_
        refine E_goto (tgt := 116) dX9_ticket_112 (by decide) ?_
        refine E_icmp_eq (tgt := 121) dX9_ticket_116 (by decide) (fun h116 => absurd h116 (by decide)) (fun h116 => ?_)
        refine E_iconst (v := -1) dX9_ticket_119 (by decide) ?_
        refine E_iret dX9_ticket_120 rfl rfl ?_
        exact ⟨rfl, rfl⟩
      · refine E_iconst (v := 1) dX9_ticket_101 (by decide) ?_
        refine E_goto (tgt := 106) dX9_ticket_102 (by decide) ?_
        refine E_iload_n dX9_ticket_106 rfl rfl ?_
        refine E_iconst (v := 3) dX9_ticket_107 (by decide) ?_
        refine E_icmp_ne (tgt := 115) dX9_ticket_108 (by decide) (fun h108 => absurd h108 (by decide)) (fun h108 => ?_)
        refine E_iconst (v := 1) dX9_ticket_111 (by decide) ?_
        refine E_goto (tgt := 116) dX9_ticket_112 (by decide) ?_
        refine E_icmp_eq (tgt := 121) dX9_ticket_116 (by decide) (fun h116 => ?_) (fun h116 => absurd h116 (by decide))
        exact absurd ⟨h89, Int32.not_le.mp h98⟩ hn
theorem c_r_ticket_y {S : xS} (hM : xShM S) {P : Nat} (hP : P < 4) (h : ¬ (gI S 51 0 P) = 0) {T : Nat} (hT : (gI S 9 0 22) = nI T) (hT2 : T < 200) (k a b : Int32) (e0 : 0 ≤ k ∧ k ≤ 5) (e2 : ¬ k = 2) (e3 : ¬ k = 3) (e1 : k = 1 → 15 ≤ a ∧ a ≤ 240) : CC mX9_ticket 3 0 0 [xR (some (9, 0)), xI (nI P), xI k, xI a, xI b] S (aI (nI T) (xrnt S T P k a b)) := by
  refine CC_of mpX9_ticket rfl (Nat.le_of_ble_eq_true rfl) ?_
  have hne : ¬ nI T = 200 := fun z => by have := (nI_eq (b := 200) (by omega) (by omega)).mp z; omega
  refine E_aload_n dX9_ticket_0 rfl rfl ?_
  refine E_getI dX9_ticket_1 fX9_145 rfl rfl rfl hT ?_
  refine E_sipush (v := 200) dX9_ticket_4 (by decide) ?_
  refine E_icmp_eq (tgt := 44) dX9_ticket_7 (by decide) (fun h7 => absurd h7 (hne)) (fun h7 => ?_)
  refine E_aload_n dX9_ticket_10 rfl rfl ?_
  refine E_iload_n dX9_ticket_11 rfl rfl ?_
  refine E_callV (m2 := mX9_has) dX9_ticket_12 kX9_165 mzX9_has (c_has_y hM hP h) rfl ⟨_, _, rfl⟩ rfl rfl (by decide) (xs8 (Nat.le_of_ble_eq_true rfl)) (by first | exact Nat.le_of_ble_eq_true rfl | omega) (by first | exact Nat.le_of_ble_eq_true rfl | omega) ?_
  rintro _ _ ⟨rfl, rfl⟩
  refine E_if_eq (tgt := 44) dX9_ticket_15 (by decide) (fun h15 => absurd h15 (by decide)) (fun h15 => ?_)
  refine E_iload_n dX9_ticket_18 rfl rfl ?_
  refine E_iconst (v := 0) dX9_ticket_19 (by decide) ?_
  refine E_iconst (v := 5) dX9_ticket_20 (by decide) ?_
  refine E_callS (m2 := mX9_in) dX9_ticket_21 kX9_141 mzX9_in (c_X9_in _ _ _) rfl rfl (by decide) (xs8 (Nat.le_of_ble_eq_true rfl)) (by first | exact Nat.le_of_ble_eq_true rfl | omega) (by first | exact Nat.le_of_ble_eq_true rfl | omega) ?_
  rintro _ _ ⟨rfl, rfl⟩; rw [if_pos e0]
  refine E_if_eq (tgt := 44) dX9_ticket_24 (by decide) (fun h24 => absurd h24 (by decide)) (fun h24 => ?_)
  refine E_iload_n dX9_ticket_27 rfl rfl ?_
  refine E_iconst (v := 1) dX9_ticket_28 (by decide) ?_
  refine E_icmp_ne (tgt := 46) dX9_ticket_29 (by decide) (fun h29 => ?_) (fun h29 => ?_)
  · refine E_iload_n dX9_ticket_46 rfl rfl ?_
    refine E_iconst (v := 2) dX9_ticket_47 (by decide) ?_
    refine E_icmp_eq (tgt := 56) dX9_ticket_48 (by decide) (fun h48 => absurd h48 (e2)) (fun h48 => ?_)
    refine E_iload_n dX9_ticket_51 rfl rfl ?_
    refine E_iconst (v := 3) dX9_ticket_52 (by decide) ?_
    refine E_icmp_ne (tgt := 60) dX9_ticket_53 (by decide) (fun h53 => ?_) (fun h53 => absurd h53 (e3))
    refine E_iconst (v := 0) dX9_ticket_60 (by decide) ?_
    refine E_istore dX9_ticket_61 (by decide) rfl ?_
    refine E_iload dX9_ticket_63 rfl ?_
    refine E_if_eq (tgt := 121) dX9_ticket_65 (by decide) (fun h65 => ?_) (fun h65 => absurd h65 (by decide))
    refine E_aload_n dX9_ticket_121 rfl rfl ?_
    refine E_getI dX9_ticket_122 fX9_145 rfl rfl rfl hT ?_
    refine E_istore dX9_ticket_125 (by decide) rfl ?_
    refine E_aload_n dX9_ticket_127 rfl rfl ?_
    refine E_getR dX9_ticket_128 fX9_74 rfl rfl rfl (rM_23 hM) ?_
    refine E_iload dX9_ticket_131 rfl ?_
    refine E_iload_n dX9_ticket_133 rfl rfl ?_
    refine E_iast dX9_ticket_134 rfl rfl (by decide) (lM_23 hM) (vin hT2 (by omega)) (vnat hT2 (by omega)) ?_
    refine E_aload_n dX9_ticket_135 rfl rfl ?_
    refine E_getR dX9_ticket_136 fX9_77 rfl rfl rfl (rM_24 hM) ?_
    refine E_iload dX9_ticket_139 rfl ?_
    refine E_iload_n dX9_ticket_141 rfl rfl ?_
    refine E_iast dX9_ticket_142 rfl rfl (by decide) (lM_24 hM) (vin hT2 (by omega)) (vnat hT2 (by omega)) ?_
    refine E_aload_n dX9_ticket_143 rfl rfl ?_
    refine E_getR dX9_ticket_144 fX9_80 rfl rfl rfl (rM_25 hM) ?_
    refine E_iload dX9_ticket_147 rfl ?_
    refine E_iload_n dX9_ticket_149 rfl rfl ?_
    refine E_iast dX9_ticket_150 rfl rfl (by decide) (lM_25 hM) (vin hT2 (by omega)) (vnat hT2 (by omega)) ?_
    refine E_aload_n dX9_ticket_151 rfl rfl ?_
    refine E_getR dX9_ticket_152 fX9_83 rfl rfl rfl (rM_26 hM) ?_
    refine E_iload dX9_ticket_155 rfl ?_
    refine E_iload_n dX9_ticket_157 rfl rfl ?_
    refine E_iconst (v := 3) dX9_ticket_158 (by decide) ?_
    refine E_icmp_ne (tgt := 171) dX9_ticket_159 (by decide) (fun h159 => ?_) (fun h159 => absurd h159 (e3))
    refine E_iconst (v := 0) dX9_ticket_171 (by decide) ?_
    refine E_zast dX9_ticket_172 rfl rfl (by decide) (lM_26 hM) (vin hT2 (by omega)) (vnat hT2 (by omega)) rfl ?_
    refine E_aload_n dX9_ticket_173 rfl rfl ?_
    refine E_getR dX9_ticket_174 fX9_86 rfl rfl rfl (rM_27 hM) ?_
    refine E_iload dX9_ticket_177 rfl ?_
    refine E_iconst (v := -1) dX9_ticket_179 (by decide) ?_
    refine E_iast dX9_ticket_180 rfl rfl (by decide) (lM_27 hM) (vin hT2 (by omega)) (vnat hT2 (by omega)) ?_
    refine E_aload_n dX9_ticket_181 rfl rfl ?_
    refine E_getR dX9_ticket_182 fX9_101 rfl rfl rfl (rM_32 hM) ?_
    refine E_iload dX9_ticket_185 rfl ?_
    refine E_sipush (v := -1000) dX9_ticket_187 (by decide) ?_
    refine E_iast dX9_ticket_190 rfl rfl (by decide) (lM_32 hM) (vin hT2 (by omega)) (vnat hT2 (by omega)) ?_
    refine E_aload_n dX9_ticket_191 rfl rfl ?_
    refine E_dup dX9_ticket_192 rfl ?_
    refine E_getI dX9_ticket_193 fX9_145 rfl rfl rfl (Eq.refl (gI S 9 0 22)) ?_
    refine E_iconst (v := 1) dX9_ticket_196 (by decide) ?_
    refine E_iadd dX9_ticket_197 ?_
    refine E_putI dX9_ticket_198 fX9_145 rfl rfl rfl rfl rfl ?_
    refine E_iload dX9_ticket_201 rfl ?_
    refine E_iret dX9_ticket_203 rfl rfl ?_
    exact ⟨rfl, (by unfold xrnt; rw [if_neg (fun z => e3 z.1)])⟩
  · refine E_iload_n dX9_ticket_32 rfl rfl ?_
    refine E_bipush (v := 15) dX9_ticket_33 (by decide) ?_
    refine E_sipush (v := 240) dX9_ticket_35 (by decide) ?_
    refine E_callS (m2 := mX9_in) dX9_ticket_38 kX9_141 mzX9_in (c_X9_in _ _ _) rfl rfl (by decide) (xs8 (Nat.le_of_ble_eq_true rfl)) (by first | exact Nat.le_of_ble_eq_true rfl | omega) (by first | exact Nat.le_of_ble_eq_true rfl | omega) ?_
    rintro _ _ ⟨rfl, rfl⟩
    refine E_if_ne (tgt := 46) dX9_ticket_41 (by decide) (fun h41 => ?_) (fun h41 => ?_)
    · refine E_iload_n dX9_ticket_46 rfl rfl ?_
      refine E_iconst (v := 2) dX9_ticket_47 (by decide) ?_
      refine E_icmp_eq (tgt := 56) dX9_ticket_48 (by decide) (fun h48 => absurd h48 (e2)) (fun h48 => ?_)
      refine E_iload_n dX9_ticket_51 rfl rfl ?_
      refine E_iconst (v := 3) dX9_ticket_52 (by decide) ?_
      refine E_icmp_ne (tgt := 60) dX9_ticket_53 (by decide) (fun h53 => ?_) (fun h53 => absurd h53 (e3))
      refine E_iconst (v := 0) dX9_ticket_60 (by decide) ?_
      refine E_istore dX9_ticket_61 (by decide) rfl ?_
      refine E_iload dX9_ticket_63 rfl ?_
      refine E_if_eq (tgt := 121) dX9_ticket_65 (by decide) (fun h65 => ?_) (fun h65 => absurd h65 (by decide))
      refine E_aload_n dX9_ticket_121 rfl rfl ?_
      refine E_getI dX9_ticket_122 fX9_145 rfl rfl rfl hT ?_
      refine E_istore dX9_ticket_125 (by decide) rfl ?_
      refine E_aload_n dX9_ticket_127 rfl rfl ?_
      refine E_getR dX9_ticket_128 fX9_74 rfl rfl rfl (rM_23 hM) ?_
      refine E_iload dX9_ticket_131 rfl ?_
      refine E_iload_n dX9_ticket_133 rfl rfl ?_
      refine E_iast dX9_ticket_134 rfl rfl (by decide) (lM_23 hM) (vin hT2 (by omega)) (vnat hT2 (by omega)) ?_
      refine E_aload_n dX9_ticket_135 rfl rfl ?_
      refine E_getR dX9_ticket_136 fX9_77 rfl rfl rfl (rM_24 hM) ?_
      refine E_iload dX9_ticket_139 rfl ?_
      refine E_iload_n dX9_ticket_141 rfl rfl ?_
      refine E_iast dX9_ticket_142 rfl rfl (by decide) (lM_24 hM) (vin hT2 (by omega)) (vnat hT2 (by omega)) ?_
      refine E_aload_n dX9_ticket_143 rfl rfl ?_
      refine E_getR dX9_ticket_144 fX9_80 rfl rfl rfl (rM_25 hM) ?_
      refine E_iload dX9_ticket_147 rfl ?_
      refine E_iload_n dX9_ticket_149 rfl rfl ?_
      refine E_iast dX9_ticket_150 rfl rfl (by decide) (lM_25 hM) (vin hT2 (by omega)) (vnat hT2 (by omega)) ?_
      refine E_aload_n dX9_ticket_151 rfl rfl ?_
      refine E_getR dX9_ticket_152 fX9_83 rfl rfl rfl (rM_26 hM) ?_
      refine E_iload dX9_ticket_155 rfl ?_
      refine E_iload_n dX9_ticket_157 rfl rfl ?_
      refine E_iconst (v := 3) dX9_ticket_158 (by decide) ?_
      refine E_icmp_ne (tgt := 171) dX9_ticket_159 (by decide) (fun h159 => ?_) (fun h159 => absurd h159 (e3))
      refine E_iconst (v := 0) dX9_ticket_171 (by decide) ?_
      refine E_zast dX9_ticket_172 rfl rfl (by decide) (lM_26 hM) (vin hT2 (by omega)) (vnat hT2 (by omega)) rfl ?_
      refine E_aload_n dX9_ticket_173 rfl rfl ?_
      refine E_getR dX9_ticket_174 fX9_86 rfl rfl rfl (rM_27 hM) ?_
      refine E_iload dX9_ticket_177 rfl ?_
      refine E_iconst (v := -1) dX9_ticket_179 (by decide) ?_
      refine E_iast dX9_ticket_180 rfl rfl (by decide) (lM_27 hM) (vin hT2 (by omega)) (vnat hT2 (by omega)) ?_
      refine E_aload_n dX9_ticket_181 rfl rfl ?_
      refine E_getR dX9_ticket_182 fX9_101 rfl rfl rfl (rM_32 hM) ?_
      refine E_iload dX9_ticket_185 rfl ?_
      refine E_sipush (v := -1000) dX9_ticket_187 (by decide) ?_
      refine E_iast dX9_ticket_190 rfl rfl (by decide) (lM_32 hM) (vin hT2 (by omega)) (vnat hT2 (by omega)) ?_
      refine E_aload_n dX9_ticket_191 rfl rfl ?_
      refine E_dup dX9_ticket_192 rfl ?_
      refine E_getI dX9_ticket_193 fX9_145 rfl rfl rfl (Eq.refl (gI S 9 0 22)) ?_
      refine E_iconst (v := 1) dX9_ticket_196 (by decide) ?_
      refine E_iadd dX9_ticket_197 ?_
      refine E_putI dX9_ticket_198 fX9_145 rfl rfl rfl rfl rfl ?_
      refine E_iload dX9_ticket_201 rfl ?_
      refine E_iret dX9_ticket_203 rfl rfl ?_
      exact ⟨rfl, (by unfold xrnt; rw [if_neg (fun z => e3 z.1)])⟩
    · exact absurd (e1 (by first | exact h29 | exact Decidable.byContradiction h29)) (ite0 (by first | exact h41 | exact Decidable.byContradiction h41))
theorem c_r_ticket_y2 {S : xS} (hM : xShM S) {P : Nat} (hP : P < 4) (h : ¬ (gI S 51 0 P) = 0) {T : Nat} (hT : (gI S 9 0 22) = nI T) (hT2 : T < 200) {c : Nat} (hc : c < 20) (hc2 : 0 ≤ nI c ∧ nI c ≤ (gI S 9 0 35) - 1) (b : Int32) (hn1 : (gI S 87 0 c) = nI P) (hn2 : ¬ 0 < (gI S 91 0 c)) : CC mX9_ticket 3 0 0 [xR (some (9, 0)), xI (nI P), xI 2, xI (nI c), xI b] S (aI (nI T) (xrnt S T P 2 (nI c) b)) := by
  refine CC_of mpX9_ticket rfl (Nat.le_of_ble_eq_true rfl) ?_
  have hne : ¬ nI T = 200 := fun z => by have := (nI_eq (b := 200) (by omega) (by omega)).mp z; omega
  refine E_aload_n dX9_ticket_0 rfl rfl ?_
  refine E_getI dX9_ticket_1 fX9_145 rfl rfl rfl hT ?_
  refine E_sipush (v := 200) dX9_ticket_4 (by decide) ?_
  refine E_icmp_eq (tgt := 44) dX9_ticket_7 (by decide) (fun h7 => absurd h7 (hne)) (fun h7 => ?_)
  refine E_aload_n dX9_ticket_10 rfl rfl ?_
  refine E_iload_n dX9_ticket_11 rfl rfl ?_
  refine E_callV (m2 := mX9_has) dX9_ticket_12 kX9_165 mzX9_has (c_has_y hM hP h) rfl ⟨_, _, rfl⟩ rfl rfl (by decide) (xs8 (Nat.le_of_ble_eq_true rfl)) (by first | exact Nat.le_of_ble_eq_true rfl | omega) (by first | exact Nat.le_of_ble_eq_true rfl | omega) ?_
  rintro _ _ ⟨rfl, rfl⟩
  refine E_if_eq (tgt := 44) dX9_ticket_15 (by decide) (fun h15 => absurd h15 (by decide)) (fun h15 => ?_)
  refine E_iload_n dX9_ticket_18 rfl rfl ?_
  refine E_iconst (v := 0) dX9_ticket_19 (by decide) ?_
  refine E_iconst (v := 5) dX9_ticket_20 (by decide) ?_
  refine E_callS (m2 := mX9_in) dX9_ticket_21 kX9_141 mzX9_in (c_X9_in _ _ _) rfl rfl (by decide) (xs8 (Nat.le_of_ble_eq_true rfl)) (by first | exact Nat.le_of_ble_eq_true rfl | omega) (by first | exact Nat.le_of_ble_eq_true rfl | omega) ?_
  rintro _ _ ⟨rfl, rfl⟩; rw [if_pos (by decide : (0 : Int32) ≤ 2 ∧ (2 : Int32) ≤ 5)]
  refine E_if_eq (tgt := 44) dX9_ticket_24 (by decide) (fun h24 => absurd h24 (by decide)) (fun h24 => ?_)
  refine E_iload_n dX9_ticket_27 rfl rfl ?_
  refine E_iconst (v := 1) dX9_ticket_28 (by decide) ?_
  refine E_icmp_ne (tgt := 46) dX9_ticket_29 (by decide) (fun h29 => ?_) (fun h29 => absurd h29 (by decide))
  refine E_iload_n dX9_ticket_46 rfl rfl ?_
  refine E_iconst (v := 2) dX9_ticket_47 (by decide) ?_
  refine E_icmp_eq (tgt := 56) dX9_ticket_48 (by decide) (fun h48 => ?_) (fun h48 => absurd h48 (by decide))
  refine E_iconst (v := 1) dX9_ticket_56 (by decide) ?_
  refine E_goto (tgt := 61) dX9_ticket_57 (by decide) ?_
  refine E_istore dX9_ticket_61 (by decide) rfl ?_
  refine E_iload dX9_ticket_63 rfl ?_
  refine E_if_eq (tgt := 121) dX9_ticket_65 (by decide) (fun h65 => absurd h65 (by decide)) (fun h65 => ?_)
  refine E_iload_n dX9_ticket_68 rfl rfl ?_
  refine E_iconst (v := 0) dX9_ticket_69 (by decide) ?_
  refine E_aload_n dX9_ticket_70 rfl rfl ?_
  refine E_getI dX9_ticket_71 fX9_172 rfl rfl rfl rfl ?_
  refine E_iconst (v := 1) dX9_ticket_74 (by decide) ?_
  refine E_isub dX9_ticket_75 ?_
  refine E_callS (m2 := mX9_in) dX9_ticket_76 kX9_141 mzX9_in (c_X9_in _ _ _) rfl rfl (by decide) (xs8 (Nat.le_of_ble_eq_true rfl)) (by first | exact Nat.le_of_ble_eq_true rfl | omega) (by first | exact Nat.le_of_ble_eq_true rfl | omega) ?_
  rintro _ _ ⟨rfl, rfl⟩; rw [if_pos hc2]
  refine E_if_eq (tgt := 119) dX9_ticket_79 (by decide) (fun h79 => absurd h79 (by decide)) (fun h79 => ?_)
  refine E_aload_n dX9_ticket_82 rfl rfl ?_
  refine E_getR dX9_ticket_83 fX9_114 rfl rfl rfl (rM_37 hM) ?_
  refine E_iload_n dX9_ticket_86 rfl rfl ?_
  refine E_iald dX9_ticket_87 rfl rfl (by decide) (lM_37 hM) (vin hc (by omega)) (vnat hc (by omega)) rfl ?_
  refine E_iload_n dX9_ticket_88 rfl rfl ?_
  refine E_icmp_ne (tgt := 119) dX9_ticket_89 (by decide) (fun h89 => absurd h89 (fun z => z hn1)) (fun h89 => ?_)
  refine E_aload_n dX9_ticket_92 rfl rfl ?_
  refine E_getR dX9_ticket_93 fX9_126 rfl rfl rfl (rM_41 hM) ?_
  refine E_iload_n dX9_ticket_96 rfl rfl ?_
  refine E_iald dX9_ticket_97 rfl rfl (by decide) (lM_41 hM) (vin hc (by omega)) (vnat hc (by omega)) rfl ?_
  refine E_if_le (tgt := 105) dX9_ticket_98 (by decide) (fun h98 => ?_) (fun h98 => absurd h98 (fun z => hn2 (Int32.not_le.mp z)))
  refine E_iconst (v := 0) dX9_ticket_105 (by decide) ?_
  refine E_iload_n dX9_ticket_106 rfl rfl ?_
  refine E_iconst (v := 3) dX9_ticket_107 (by decide) ?_
  refine E_icmp_ne (tgt := 115) dX9_ticket_108 (by decide) (fun h108 => ?_) (fun h108 => absurd h108 (by decide))
  refine E_iconst (v := 0) dX9_ticket_115 (by decide) ?_
  refine E_icmp_eq (tgt := 121) dX9_ticket_116 (by decide) (fun h116 => ?_) (fun h116 => absurd h116 (by decide))
  refine E_aload_n dX9_ticket_121 rfl rfl ?_
  refine E_getI dX9_ticket_122 fX9_145 rfl rfl rfl hT ?_
  refine E_istore dX9_ticket_125 (by decide) rfl ?_
  refine E_aload_n dX9_ticket_127 rfl rfl ?_
  refine E_getR dX9_ticket_128 fX9_74 rfl rfl rfl (rM_23 hM) ?_
  refine E_iload dX9_ticket_131 rfl ?_
  refine E_iload_n dX9_ticket_133 rfl rfl ?_
  refine E_iast dX9_ticket_134 rfl rfl (by decide) (lM_23 hM) (vin hT2 (by omega)) (vnat hT2 (by omega)) ?_
  refine E_aload_n dX9_ticket_135 rfl rfl ?_
  refine E_getR dX9_ticket_136 fX9_77 rfl rfl rfl (rM_24 hM) ?_
  refine E_iload dX9_ticket_139 rfl ?_
  refine E_iload_n dX9_ticket_141 rfl rfl ?_
  refine E_iast dX9_ticket_142 rfl rfl (by decide) (lM_24 hM) (vin hT2 (by omega)) (vnat hT2 (by omega)) ?_
  refine E_aload_n dX9_ticket_143 rfl rfl ?_
  refine E_getR dX9_ticket_144 fX9_80 rfl rfl rfl (rM_25 hM) ?_
  refine E_iload dX9_ticket_147 rfl ?_
  refine E_iload_n dX9_ticket_149 rfl rfl ?_
  refine E_iast dX9_ticket_150 rfl rfl (by decide) (lM_25 hM) (vin hT2 (by omega)) (vnat hT2 (by omega)) ?_
  refine E_aload_n dX9_ticket_151 rfl rfl ?_
  refine E_getR dX9_ticket_152 fX9_83 rfl rfl rfl (rM_26 hM) ?_
  refine E_iload dX9_ticket_155 rfl ?_
  refine E_iload_n dX9_ticket_157 rfl rfl ?_
  refine E_iconst (v := 3) dX9_ticket_158 (by decide) ?_
  refine E_icmp_ne (tgt := 171) dX9_ticket_159 (by decide) (fun h159 => ?_) (fun h159 => absurd h159 (by decide))
  refine E_iconst (v := 0) dX9_ticket_171 (by decide) ?_
  refine E_zast dX9_ticket_172 rfl rfl (by decide) (lM_26 hM) (vin hT2 (by omega)) (vnat hT2 (by omega)) rfl ?_
  refine E_aload_n dX9_ticket_173 rfl rfl ?_
  refine E_getR dX9_ticket_174 fX9_86 rfl rfl rfl (rM_27 hM) ?_
  refine E_iload dX9_ticket_177 rfl ?_
  refine E_iconst (v := -1) dX9_ticket_179 (by decide) ?_
  refine E_iast dX9_ticket_180 rfl rfl (by decide) (lM_27 hM) (vin hT2 (by omega)) (vnat hT2 (by omega)) ?_
  refine E_aload_n dX9_ticket_181 rfl rfl ?_
  refine E_getR dX9_ticket_182 fX9_101 rfl rfl rfl (rM_32 hM) ?_
  refine E_iload dX9_ticket_185 rfl ?_
  refine E_sipush (v := -1000) dX9_ticket_187 (by decide) ?_
  refine E_iast dX9_ticket_190 rfl rfl (by decide) (lM_32 hM) (vin hT2 (by omega)) (vnat hT2 (by omega)) ?_
  refine E_aload_n dX9_ticket_191 rfl rfl ?_
  refine E_dup dX9_ticket_192 rfl ?_
  refine E_getI dX9_ticket_193 fX9_145 rfl rfl rfl (Eq.refl (gI S 9 0 22)) ?_
  refine E_iconst (v := 1) dX9_ticket_196 (by decide) ?_
  refine E_iadd dX9_ticket_197 ?_
  refine E_putI dX9_ticket_198 fX9_145 rfl rfl rfl rfl rfl ?_
  refine E_iload dX9_ticket_201 rfl ?_
  refine E_iret dX9_ticket_203 rfl rfl ?_
  exact ⟨rfl, (by unfold xrnt; rw [if_neg (fun z => absurd z.1 (by decide))])⟩
theorem c_r_ticket_y3 {S : xS} (hM : xShM S) {P : Nat} (hP : P < 4) (h : ¬ (gI S 51 0 P) = 0) {T : Nat} (hT : (gI S 9 0 22) = nI T) (hT2 : T < 200) {c : Nat} (hc : c < 20) (hc2 : 0 ≤ nI c ∧ nI c ≤ (gI S 9 0 35) - 1) (b : Int32) (hn1 : (gI S 87 0 c) = nI P) (hn2 : 0 < (gI S 91 0 c)) : CC mX9_ticket 3 0 0 [xR (some (9, 0)), xI (nI P), xI 3, xI (nI c), xI b] S (aI (nI T) (xrnt S T P 3 (nI c) b)) := by
  refine CC_of mpX9_ticket rfl (Nat.le_of_ble_eq_true rfl) ?_
  have hne : ¬ nI T = 200 := fun z => by have := (nI_eq (b := 200) (by omega) (by omega)).mp z; omega
  refine E_aload_n dX9_ticket_0 rfl rfl ?_
  refine E_getI dX9_ticket_1 fX9_145 rfl rfl rfl hT ?_
  refine E_sipush (v := 200) dX9_ticket_4 (by decide) ?_
  refine E_icmp_eq (tgt := 44) dX9_ticket_7 (by decide) (fun h7 => absurd h7 (hne)) (fun h7 => ?_)
  refine E_aload_n dX9_ticket_10 rfl rfl ?_
  refine E_iload_n dX9_ticket_11 rfl rfl ?_
  refine E_callV (m2 := mX9_has) dX9_ticket_12 kX9_165 mzX9_has (c_has_y hM hP h) rfl ⟨_, _, rfl⟩ rfl rfl (by decide) (xs8 (Nat.le_of_ble_eq_true rfl)) (by first | exact Nat.le_of_ble_eq_true rfl | omega) (by first | exact Nat.le_of_ble_eq_true rfl | omega) ?_
  rintro _ _ ⟨rfl, rfl⟩
  refine E_if_eq (tgt := 44) dX9_ticket_15 (by decide) (fun h15 => absurd h15 (by decide)) (fun h15 => ?_)
  refine E_iload_n dX9_ticket_18 rfl rfl ?_
  refine E_iconst (v := 0) dX9_ticket_19 (by decide) ?_
  refine E_iconst (v := 5) dX9_ticket_20 (by decide) ?_
  refine E_callS (m2 := mX9_in) dX9_ticket_21 kX9_141 mzX9_in (c_X9_in _ _ _) rfl rfl (by decide) (xs8 (Nat.le_of_ble_eq_true rfl)) (by first | exact Nat.le_of_ble_eq_true rfl | omega) (by first | exact Nat.le_of_ble_eq_true rfl | omega) ?_
  rintro _ _ ⟨rfl, rfl⟩; rw [if_pos (by decide : (0 : Int32) ≤ 3 ∧ (3 : Int32) ≤ 5)]
  refine E_if_eq (tgt := 44) dX9_ticket_24 (by decide) (fun h24 => absurd h24 (by decide)) (fun h24 => ?_)
  refine E_iload_n dX9_ticket_27 rfl rfl ?_
  refine E_iconst (v := 1) dX9_ticket_28 (by decide) ?_
  refine E_icmp_ne (tgt := 46) dX9_ticket_29 (by decide) (fun h29 => ?_) (fun h29 => absurd h29 (by decide))
  refine E_iload_n dX9_ticket_46 rfl rfl ?_
  refine E_iconst (v := 2) dX9_ticket_47 (by decide) ?_
  refine E_icmp_eq (tgt := 56) dX9_ticket_48 (by decide) (fun h48 => absurd h48 (by decide)) (fun h48 => ?_)
  refine E_iload_n dX9_ticket_51 rfl rfl ?_
  refine E_iconst (v := 3) dX9_ticket_52 (by decide) ?_
  refine E_icmp_ne (tgt := 60) dX9_ticket_53 (by decide) (fun h53 => absurd h53 (by decide)) (fun h53 => ?_)
  refine E_iconst (v := 1) dX9_ticket_56 (by decide) ?_
  refine E_goto (tgt := 61) dX9_ticket_57 (by decide) ?_
  refine E_istore dX9_ticket_61 (by decide) rfl ?_
  refine E_iload dX9_ticket_63 rfl ?_
  refine E_if_eq (tgt := 121) dX9_ticket_65 (by decide) (fun h65 => absurd h65 (by decide)) (fun h65 => ?_)
  refine E_iload_n dX9_ticket_68 rfl rfl ?_
  refine E_iconst (v := 0) dX9_ticket_69 (by decide) ?_
  refine E_aload_n dX9_ticket_70 rfl rfl ?_
  refine E_getI dX9_ticket_71 fX9_172 rfl rfl rfl rfl ?_
  refine E_iconst (v := 1) dX9_ticket_74 (by decide) ?_
  refine E_isub dX9_ticket_75 ?_
  refine E_callS (m2 := mX9_in) dX9_ticket_76 kX9_141 mzX9_in (c_X9_in _ _ _) rfl rfl (by decide) (xs8 (Nat.le_of_ble_eq_true rfl)) (by first | exact Nat.le_of_ble_eq_true rfl | omega) (by first | exact Nat.le_of_ble_eq_true rfl | omega) ?_
  rintro _ _ ⟨rfl, rfl⟩; rw [if_pos hc2]
  refine E_if_eq (tgt := 119) dX9_ticket_79 (by decide) (fun h79 => absurd h79 (by decide)) (fun h79 => ?_)
  refine E_aload_n dX9_ticket_82 rfl rfl ?_
  refine E_getR dX9_ticket_83 fX9_114 rfl rfl rfl (rM_37 hM) ?_
  refine E_iload_n dX9_ticket_86 rfl rfl ?_
  refine E_iald dX9_ticket_87 rfl rfl (by decide) (lM_37 hM) (vin hc (by omega)) (vnat hc (by omega)) rfl ?_
  refine E_iload_n dX9_ticket_88 rfl rfl ?_
  refine E_icmp_ne (tgt := 119) dX9_ticket_89 (by decide) (fun h89 => absurd h89 (fun z => z hn1)) (fun h89 => ?_)
  refine E_aload_n dX9_ticket_92 rfl rfl ?_
  refine E_getR dX9_ticket_93 fX9_126 rfl rfl rfl (rM_41 hM) ?_
  refine E_iload_n dX9_ticket_96 rfl rfl ?_
  refine E_iald dX9_ticket_97 rfl rfl (by decide) (lM_41 hM) (vin hc (by omega)) (vnat hc (by omega)) rfl ?_
  refine E_if_le (tgt := 105) dX9_ticket_98 (by decide) (fun h98 => absurd h98 (Int32.not_le.mpr hn2)) (fun h98 => ?_)
  refine E_iconst (v := 1) dX9_ticket_101 (by decide) ?_
  refine E_goto (tgt := 106) dX9_ticket_102 (by decide) ?_
  refine E_iload_n dX9_ticket_106 rfl rfl ?_
  refine E_iconst (v := 3) dX9_ticket_107 (by decide) ?_
  refine E_icmp_ne (tgt := 115) dX9_ticket_108 (by decide) (fun h108 => absurd h108 (by decide)) (fun h108 => ?_)
  refine E_iconst (v := 1) dX9_ticket_111 (by decide) ?_
  refine E_goto (tgt := 116) dX9_ticket_112 (by decide) ?_
  refine E_icmp_eq (tgt := 121) dX9_ticket_116 (by decide) (fun h116 => ?_) (fun h116 => absurd h116 (by decide))
  refine E_aload_n dX9_ticket_121 rfl rfl ?_
  refine E_getI dX9_ticket_122 fX9_145 rfl rfl rfl hT ?_
  refine E_istore dX9_ticket_125 (by decide) rfl ?_
  refine E_aload_n dX9_ticket_127 rfl rfl ?_
  refine E_getR dX9_ticket_128 fX9_74 rfl rfl rfl (rM_23 hM) ?_
  refine E_iload dX9_ticket_131 rfl ?_
  refine E_iload_n dX9_ticket_133 rfl rfl ?_
  refine E_iast dX9_ticket_134 rfl rfl (by decide) (lM_23 hM) (vin hT2 (by omega)) (vnat hT2 (by omega)) ?_
  refine E_aload_n dX9_ticket_135 rfl rfl ?_
  refine E_getR dX9_ticket_136 fX9_77 rfl rfl rfl (rM_24 hM) ?_
  refine E_iload dX9_ticket_139 rfl ?_
  refine E_iload_n dX9_ticket_141 rfl rfl ?_
  refine E_iast dX9_ticket_142 rfl rfl (by decide) (lM_24 hM) (vin hT2 (by omega)) (vnat hT2 (by omega)) ?_
  refine E_aload_n dX9_ticket_143 rfl rfl ?_
  refine E_getR dX9_ticket_144 fX9_80 rfl rfl rfl (rM_25 hM) ?_
  refine E_iload dX9_ticket_147 rfl ?_
  refine E_iload_n dX9_ticket_149 rfl rfl ?_
  refine E_iast dX9_ticket_150 rfl rfl (by decide) (lM_25 hM) (vin hT2 (by omega)) (vnat hT2 (by omega)) ?_
  refine E_aload_n dX9_ticket_151 rfl rfl ?_
  refine E_getR dX9_ticket_152 fX9_83 rfl rfl rfl (rM_26 hM) ?_
  refine E_iload dX9_ticket_155 rfl ?_
  refine E_iload_n dX9_ticket_157 rfl rfl ?_
  refine E_iconst (v := 3) dX9_ticket_158 (by decide) ?_
  refine E_icmp_ne (tgt := 171) dX9_ticket_159 (by decide) (fun h159 => absurd h159 (by decide)) (fun h159 => ?_)
  refine E_iload dX9_ticket_162 rfl ?_
  refine E_if_eq (tgt := 171) dX9_ticket_164 (by decide) (fun h164 => ?_) (fun h164 => ?_)
  · have eb : (if (3 : Int32) = 3 ∧ ¬ b = 0 then (1 : Int32) else 0) = 0 := if_neg (fun z => z.2 h164)
    refine E_iconst (v := 0) dX9_ticket_171 (by decide) ?_
    refine E_zast dX9_ticket_172 rfl rfl (by decide) (lM_26 hM) (vin hT2 (by omega)) (vnat hT2 (by omega)) rfl ?_
    refine E_aload_n dX9_ticket_173 rfl rfl ?_
    refine E_getR dX9_ticket_174 fX9_86 rfl rfl rfl (rM_27 hM) ?_
    refine E_iload dX9_ticket_177 rfl ?_
    refine E_iconst (v := -1) dX9_ticket_179 (by decide) ?_
    refine E_iast dX9_ticket_180 rfl rfl (by decide) (lM_27 hM) (vin hT2 (by omega)) (vnat hT2 (by omega)) ?_
    refine E_aload_n dX9_ticket_181 rfl rfl ?_
    refine E_getR dX9_ticket_182 fX9_101 rfl rfl rfl (rM_32 hM) ?_
    refine E_iload dX9_ticket_185 rfl ?_
    refine E_sipush (v := -1000) dX9_ticket_187 (by decide) ?_
    refine E_iast dX9_ticket_190 rfl rfl (by decide) (lM_32 hM) (vin hT2 (by omega)) (vnat hT2 (by omega)) ?_
    refine E_aload_n dX9_ticket_191 rfl rfl ?_
    refine E_dup dX9_ticket_192 rfl ?_
    refine E_getI dX9_ticket_193 fX9_145 rfl rfl rfl (Eq.refl (gI S 9 0 22)) ?_
    refine E_iconst (v := 1) dX9_ticket_196 (by decide) ?_
    refine E_iadd dX9_ticket_197 ?_
    refine E_putI dX9_ticket_198 fX9_145 rfl rfl rfl rfl rfl ?_
    refine E_iload dX9_ticket_201 rfl ?_
    refine E_iret dX9_ticket_203 rfl rfl ?_
    exact ⟨rfl, (by unfold xrnt; rw [eb])⟩
  · have eb : (if (3 : Int32) = 3 ∧ ¬ b = 0 then (1 : Int32) else 0) = 1 := if_pos ⟨rfl, h164⟩
    refine E_iconst (v := 1) dX9_ticket_167 (by decide) ?_
    refine E_goto (tgt := 172) dX9_ticket_168 (by decide) ?_
    refine E_zast dX9_ticket_172 rfl rfl (by decide) (lM_26 hM) (vin hT2 (by omega)) (vnat hT2 (by omega)) rfl ?_
    refine E_aload_n dX9_ticket_173 rfl rfl ?_
    refine E_getR dX9_ticket_174 fX9_86 rfl rfl rfl (rM_27 hM) ?_
    refine E_iload dX9_ticket_177 rfl ?_
    refine E_iconst (v := -1) dX9_ticket_179 (by decide) ?_
    refine E_iast dX9_ticket_180 rfl rfl (by decide) (lM_27 hM) (vin hT2 (by omega)) (vnat hT2 (by omega)) ?_
    refine E_aload_n dX9_ticket_181 rfl rfl ?_
    refine E_getR dX9_ticket_182 fX9_101 rfl rfl rfl (rM_32 hM) ?_
    refine E_iload dX9_ticket_185 rfl ?_
    refine E_sipush (v := -1000) dX9_ticket_187 (by decide) ?_
    refine E_iast dX9_ticket_190 rfl rfl (by decide) (lM_32 hM) (vin hT2 (by omega)) (vnat hT2 (by omega)) ?_
    refine E_aload_n dX9_ticket_191 rfl rfl ?_
    refine E_dup dX9_ticket_192 rfl ?_
    refine E_getI dX9_ticket_193 fX9_145 rfl rfl rfl (Eq.refl (gI S 9 0 22)) ?_
    refine E_iconst (v := 1) dX9_ticket_196 (by decide) ?_
    refine E_iadd dX9_ticket_197 ?_
    refine E_putI dX9_ticket_198 fX9_145 rfl rfl rfl rfl rfl ?_
    refine E_iload dX9_ticket_201 rfl ?_
    refine E_iret dX9_ticket_203 rfl rfl ?_
    exact ⟨rfl, (by unfold xrnt; rw [eb])⟩
