/-! the reference: posts, lockers, answers -/
theorem c_r_watcher_n {S : xS} (hM : xShM S) (p k : Int32) (h : ¬ xhas S p) : CC mX9_watcher 3 0 0 [xR (some (9, 0)), xI p, xI k] S (aI (-1) S) := by
  refine CC_of mpX9_watcher rfl (Nat.le_of_ble_eq_true rfl) ?_
  refine E_aload_n dX9_watcher_0 rfl rfl ?_
  refine E_iload_n dX9_watcher_1 rfl rfl ?_
  refine E_callV (m2 := mX9_has) dX9_watcher_2 kX9_165 mzX9_has (c_has_n hM p h) rfl ⟨_, _, rfl⟩ rfl rfl (by decide) (xs8 (Nat.le_of_ble_eq_true rfl)) (by first | exact Nat.le_of_ble_eq_true rfl | omega) (by first | exact Nat.le_of_ble_eq_true rfl | omega) ?_
  rintro _ _ ⟨rfl, rfl⟩
  refine E_if_eq (tgt := 37) dX9_watcher_5 (by decide) (fun h5 => ?_) (fun h5 => absurd h5 (by decide))
  refine E_iconst (v := -1) dX9_watcher_37 (by decide) ?_
  refine E_iret dX9_watcher_38 rfl rfl ?_
  exact ⟨rfl, rfl⟩
theorem c_r_watcher_o {S : xS} (hM : xShM S) {P : Nat} (hP : P < 4) (h : ¬ (gI S 51 0 P) = 0) (k : Int32) (hk : ¬ (0 ≤ k ∧ k ≤ (gI S 54 0 P) - 1)) : CC mX9_watcher 3 0 0 [xR (some (9, 0)), xI (nI P), xI k] S (aI (-1) S) := by
  refine CC_of mpX9_watcher rfl (Nat.le_of_ble_eq_true rfl) ?_
  refine E_aload_n dX9_watcher_0 rfl rfl ?_
  refine E_iload_n dX9_watcher_1 rfl rfl ?_
  refine E_callV (m2 := mX9_has) dX9_watcher_2 kX9_165 mzX9_has (c_has_y hM hP h) rfl ⟨_, _, rfl⟩ rfl rfl (by decide) (xs8 (Nat.le_of_ble_eq_true rfl)) (by first | exact Nat.le_of_ble_eq_true rfl | omega) (by first | exact Nat.le_of_ble_eq_true rfl | omega) ?_
  rintro _ _ ⟨rfl, rfl⟩
  refine E_if_eq (tgt := 37) dX9_watcher_5 (by decide) (fun h5 => absurd h5 (by decide)) (fun h5 => ?_)
  refine E_iload_n dX9_watcher_8 rfl rfl ?_
  refine E_iconst (v := 0) dX9_watcher_9 (by decide) ?_
  refine E_aload_n dX9_watcher_10 rfl rfl ?_
  refine E_getR dX9_watcher_11 fX9_20 rfl rfl rfl (rM_4 hM) ?_
  refine E_iload_n dX9_watcher_14 rfl rfl ?_
  refine E_iald dX9_watcher_15 rfl rfl (by decide) (lM_4 hM) (vin hP (by omega)) (vnat hP (by omega)) rfl ?_
  refine E_iconst (v := 1) dX9_watcher_16 (by decide) ?_
  refine E_isub dX9_watcher_17 ?_
  refine E_callS (m2 := mX9_in) dX9_watcher_18 kX9_141 mzX9_in (c_X9_in _ _ _) rfl rfl (by decide) (xs8 (Nat.le_of_ble_eq_true rfl)) (by first | exact Nat.le_of_ble_eq_true rfl | omega) (by first | exact Nat.le_of_ble_eq_true rfl | omega) ?_
  rintro _ _ ⟨rfl, rfl⟩; rw [if_neg hk]
  refine E_if_eq (tgt := 37) dX9_watcher_21 (by decide) (fun h21 => ?_) (fun h21 => absurd h21 (by decide))
  refine E_iconst (v := -1) dX9_watcher_37 (by decide) ?_
  refine E_iret dX9_watcher_38 rfl rfl ?_
  exact ⟨rfl, rfl⟩
theorem c_r_watcher_s {S : xS} (hM : xShM S) {P : Nat} (hP : P < 4) (h : ¬ (gI S 51 0 P) = 0) {k : Nat} (hk3 : k < 3) (hk : 0 ≤ nI k ∧ nI k ≤ (gI S 54 0 P) - 1) : CC mX9_watcher 3 0 0 [xR (some (9, 0)), xI (nI P), xI (nI k)] S (aI (gI S 70 0 (3 * P + k)) S) := by
  refine CC_of mpX9_watcher rfl (Nat.le_of_ble_eq_true rfl) ?_
  have hA : 3 * P + k < 12 := by omega
  refine E_aload_n dX9_watcher_0 rfl rfl ?_
  refine E_iload_n dX9_watcher_1 rfl rfl ?_
  refine E_callV (m2 := mX9_has) dX9_watcher_2 kX9_165 mzX9_has (c_has_y hM hP h) rfl ⟨_, _, rfl⟩ rfl rfl (by decide) (xs8 (Nat.le_of_ble_eq_true rfl)) (by first | exact Nat.le_of_ble_eq_true rfl | omega) (by first | exact Nat.le_of_ble_eq_true rfl | omega) ?_
  rintro _ _ ⟨rfl, rfl⟩
  refine E_if_eq (tgt := 37) dX9_watcher_5 (by decide) (fun h5 => absurd h5 (by decide)) (fun h5 => ?_)
  refine E_iload_n dX9_watcher_8 rfl rfl ?_
  refine E_iconst (v := 0) dX9_watcher_9 (by decide) ?_
  refine E_aload_n dX9_watcher_10 rfl rfl ?_
  refine E_getR dX9_watcher_11 fX9_20 rfl rfl rfl (rM_4 hM) ?_
  refine E_iload_n dX9_watcher_14 rfl rfl ?_
  refine E_iald dX9_watcher_15 rfl rfl (by decide) (lM_4 hM) (vin hP (by omega)) (vnat hP (by omega)) rfl ?_
  refine E_iconst (v := 1) dX9_watcher_16 (by decide) ?_
  refine E_isub dX9_watcher_17 ?_
  refine E_callS (m2 := mX9_in) dX9_watcher_18 kX9_141 mzX9_in (c_X9_in _ _ _) rfl rfl (by decide) (xs8 (Nat.le_of_ble_eq_true rfl)) (by first | exact Nat.le_of_ble_eq_true rfl | omega) (by first | exact Nat.le_of_ble_eq_true rfl | omega) ?_
  rintro _ _ ⟨rfl, rfl⟩; rw [if_pos hk]
  refine E_if_eq (tgt := 37) dX9_watcher_21 (by decide) (fun h21 => absurd h21 (by decide)) (fun h21 => ?_)
  refine E_aload_n dX9_watcher_24 rfl rfl ?_
  refine E_getR dX9_watcher_25 fX9_68 rfl rfl rfl (rM_20 hM) ?_
  refine E_iconst (v := 3) dX9_watcher_28 (by decide) ?_
  refine E_iload_n dX9_watcher_29 rfl rfl ?_
  refine E_imul dX9_watcher_30 ?_
  refine E_iload_n dX9_watcher_31 rfl rfl ?_
  refine E_iadd dX9_watcher_32 ?_
  rw [nI_3]
  refine E_iald dX9_watcher_33 rfl rfl (by decide) (lM_20 hM) (vin hA (by omega)) (vnat hA (by omega)) rfl ?_
  refine E_goto (tgt := 38) dX9_watcher_34 (by decide) ?_
  refine E_iret dX9_watcher_38 rfl rfl ?_
  exact ⟨rfl, rfl⟩
theorem c_r_post_n {S : xS} (hM : xShM S) (p k x : Int32) (h : ¬ xhas S p) : CC mX9_post 3 0 0 [xR (some (9, 0)), xI p, xI k, xI x] S (aI (-2) S) := by
  refine CC_of mpX9_post rfl (Nat.le_of_ble_eq_true rfl) ?_
  refine E_aload_n dX9_post_0 rfl rfl ?_
  refine E_iload_n dX9_post_1 rfl rfl ?_
  refine E_callV (m2 := mX9_has) dX9_post_2 kX9_165 mzX9_has (c_has_n hM p h) rfl ⟨_, _, rfl⟩ rfl rfl (by decide) (xs8 (Nat.le_of_ble_eq_true rfl)) (by first | exact Nat.le_of_ble_eq_true rfl | omega) (by first | exact Nat.le_of_ble_eq_true rfl | omega) ?_
  rintro _ _ ⟨rfl, rfl⟩
  refine E_if_eq (tgt := 77) dX9_post_5 (by decide) (fun h5 => ?_) (fun h5 => absurd h5 (by decide))
  refine E_bipush (v := -2) dX9_post_77 (by decide) ?_
  refine E_iret dX9_post_79 rfl rfl ?_
  exact ⟨rfl, rfl⟩
theorem c_r_post_o {S : xS} (hM : xShM S) {P : Nat} (hP : P < 4) (h : ¬ (gI S 51 0 P) = 0) (k x : Int32) (hk : ¬ (0 ≤ k ∧ k ≤ (gI S 54 0 P) - 1)) : CC mX9_post 3 0 0 [xR (some (9, 0)), xI (nI P), xI k, xI x] S (aI (-2) S) := by
  refine CC_of mpX9_post rfl (Nat.le_of_ble_eq_true rfl) ?_
  refine E_aload_n dX9_post_0 rfl rfl ?_
  refine E_iload_n dX9_post_1 rfl rfl ?_
  refine E_callV (m2 := mX9_has) dX9_post_2 kX9_165 mzX9_has (c_has_y hM hP h) rfl ⟨_, _, rfl⟩ rfl rfl (by decide) (xs8 (Nat.le_of_ble_eq_true rfl)) (by first | exact Nat.le_of_ble_eq_true rfl | omega) (by first | exact Nat.le_of_ble_eq_true rfl | omega) ?_
  rintro _ _ ⟨rfl, rfl⟩
  refine E_if_eq (tgt := 77) dX9_post_5 (by decide) (fun h5 => absurd h5 (by decide)) (fun h5 => ?_)
  refine E_iload_n dX9_post_8 rfl rfl ?_
  refine E_iconst (v := 0) dX9_post_9 (by decide) ?_
  refine E_aload_n dX9_post_10 rfl rfl ?_
  refine E_getR dX9_post_11 fX9_20 rfl rfl rfl (rM_4 hM) ?_
  refine E_iload_n dX9_post_14 rfl rfl ?_
  refine E_iald dX9_post_15 rfl rfl (by decide) (lM_4 hM) (vin hP (by omega)) (vnat hP (by omega)) rfl ?_
  refine E_iconst (v := 1) dX9_post_16 (by decide) ?_
  refine E_isub dX9_post_17 ?_
  refine E_callS (m2 := mX9_in) dX9_post_18 kX9_141 mzX9_in (c_X9_in _ _ _) rfl rfl (by decide) (xs8 (Nat.le_of_ble_eq_true rfl)) (by first | exact Nat.le_of_ble_eq_true rfl | omega) (by first | exact Nat.le_of_ble_eq_true rfl | omega) ?_
  rintro _ _ ⟨rfl, rfl⟩; rw [if_neg hk]
  refine E_if_eq (tgt := 77) dX9_post_21 (by decide) (fun h21 => ?_) (fun h21 => absurd h21 (by decide))
  refine E_bipush (v := -2) dX9_post_77 (by decide) ?_
  refine E_iret dX9_post_79 rfl rfl ?_
  exact ⟨rfl, rfl⟩
theorem c_r_post_t {S : xS} (hM : xShM S) {P : Nat} (hP : P < 4) (hp : ¬ (gI S 51 0 P) = 0) (k : Int32) (hk : 0 ≤ k ∧ k ≤ (gI S 54 0 P) - 1) (x : Int32) (h : ¬ (0 ≤ x ∧ x ≤ (gI S 9 0 22) - 1)) : CC mX9_post 3 0 0 [xR (some (9, 0)), xI (nI P), xI k, xI x] S (aI (-2) S) := by
  refine CC_of mpX9_post rfl (Nat.le_of_ble_eq_true rfl) ?_
  refine E_aload_n dX9_post_0 rfl rfl ?_
  refine E_iload_n dX9_post_1 rfl rfl ?_
  refine E_callV (m2 := mX9_has) dX9_post_2 kX9_165 mzX9_has (c_has_y hM hP hp) rfl ⟨_, _, rfl⟩ rfl rfl (by decide) (xs8 (Nat.le_of_ble_eq_true rfl)) (by first | exact Nat.le_of_ble_eq_true rfl | omega) (by first | exact Nat.le_of_ble_eq_true rfl | omega) ?_
  rintro _ _ ⟨rfl, rfl⟩
  refine E_if_eq (tgt := 77) dX9_post_5 (by decide) (fun h5 => absurd h5 (by decide)) (fun h5 => ?_)
  refine E_iload_n dX9_post_8 rfl rfl ?_
  refine E_iconst (v := 0) dX9_post_9 (by decide) ?_
  refine E_aload_n dX9_post_10 rfl rfl ?_
  refine E_getR dX9_post_11 fX9_20 rfl rfl rfl (rM_4 hM) ?_
  refine E_iload_n dX9_post_14 rfl rfl ?_
  refine E_iald dX9_post_15 rfl rfl (by decide) (lM_4 hM) (vin hP (by omega)) (vnat hP (by omega)) rfl ?_
  refine E_iconst (v := 1) dX9_post_16 (by decide) ?_
  refine E_isub dX9_post_17 ?_
  refine E_callS (m2 := mX9_in) dX9_post_18 kX9_141 mzX9_in (c_X9_in _ _ _) rfl rfl (by decide) (xs8 (Nat.le_of_ble_eq_true rfl)) (by first | exact Nat.le_of_ble_eq_true rfl | omega) (by first | exact Nat.le_of_ble_eq_true rfl | omega) ?_
  rintro _ _ ⟨rfl, rfl⟩; rw [if_pos hk]
  refine E_if_eq (tgt := 77) dX9_post_21 (by decide) (fun h21 => absurd h21 (by decide)) (fun h21 => ?_)
  refine E_aload_n dX9_post_24 rfl rfl ?_
  refine E_iload_n dX9_post_25 rfl rfl ?_
  refine E_callV (m2 := mX9_isTicket) dX9_post_26 kX9_185 mzX9_isTicket (c_isTicket _) rfl ⟨_, _, rfl⟩ rfl rfl (by decide) (xs8 (Nat.le_of_ble_eq_true rfl)) (by first | exact Nat.le_of_ble_eq_true rfl | omega) (by first | exact Nat.le_of_ble_eq_true rfl | omega) ?_
  rintro _ _ ⟨rfl, rfl⟩; rw [if_neg h]
  refine E_if_eq (tgt := 77) dX9_post_29 (by decide) (fun h29 => ?_) (fun h29 => absurd h29 (by decide))
  refine E_bipush (v := -2) dX9_post_77 (by decide) ?_
  refine E_iret dX9_post_79 rfl rfl ?_
  exact ⟨rfl, rfl⟩
theorem c_r_post_c {S : xS} (hM : xShM S) {P : Nat} (hP : P < 4) (hp : ¬ (gI S 51 0 P) = 0) (k : Int32) (hk : 0 ≤ k ∧ k ≤ (gI S 54 0 P) - 1) {T t : Nat} (hT : (gI S 9 0 22) = nI T) (hT2 : T ≤ 200) (ht : t < T) (hc : ¬ ((gI S 74 0 t) = 5 ∧ ¬ (gI S 79 0 t) = 0 ∧ (gI S 73 0 t) = nI P ∧ 20 ≤ (gI S 9 0 0) - (gI S 82 0 t))) : CC mX9_post 3 0 0 [xR (some (9, 0)), xI (nI P), xI k, xI (nI t)] S (aI (-2) S) := by
  refine CC_of mpX9_post rfl (Nat.le_of_ble_eq_true rfl) ?_
  have e0 : 0 ≤ nI t ∧ nI t ≤ (gI S 9 0 22) - 1 := by rw [hT]; exact (rng1 (by omega) (by omega)).mpr ht
  have ht2 : t < 200 := by omega
  refine E_aload_n dX9_post_0 rfl rfl ?_
  refine E_iload_n dX9_post_1 rfl rfl ?_
  refine E_callV (m2 := mX9_has) dX9_post_2 kX9_165 mzX9_has (c_has_y hM hP hp) rfl ⟨_, _, rfl⟩ rfl rfl (by decide) (xs8 (Nat.le_of_ble_eq_true rfl)) (by first | exact Nat.le_of_ble_eq_true rfl | omega) (by first | exact Nat.le_of_ble_eq_true rfl | omega) ?_
  rintro _ _ ⟨rfl, rfl⟩
  refine E_if_eq (tgt := 77) dX9_post_5 (by decide) (fun h5 => absurd h5 (by decide)) (fun h5 => ?_)
  refine E_iload_n dX9_post_8 rfl rfl ?_
  refine E_iconst (v := 0) dX9_post_9 (by decide) ?_
  refine E_aload_n dX9_post_10 rfl rfl ?_
  refine E_getR dX9_post_11 fX9_20 rfl rfl rfl (rM_4 hM) ?_
  refine E_iload_n dX9_post_14 rfl rfl ?_
  refine E_iald dX9_post_15 rfl rfl (by decide) (lM_4 hM) (vin hP (by omega)) (vnat hP (by omega)) rfl ?_
  refine E_iconst (v := 1) dX9_post_16 (by decide) ?_
  refine E_isub dX9_post_17 ?_
  refine E_callS (m2 := mX9_in) dX9_post_18 kX9_141 mzX9_in (c_X9_in _ _ _) rfl rfl (by decide) (xs8 (Nat.le_of_ble_eq_true rfl)) (by first | exact Nat.le_of_ble_eq_true rfl | omega) (by first | exact Nat.le_of_ble_eq_true rfl | omega) ?_
  rintro _ _ ⟨rfl, rfl⟩; rw [if_pos hk]
  refine E_if_eq (tgt := 77) dX9_post_21 (by decide) (fun h21 => absurd h21 (by decide)) (fun h21 => ?_)
  refine E_aload_n dX9_post_24 rfl rfl ?_
  refine E_iload_n dX9_post_25 rfl rfl ?_
  refine E_callV (m2 := mX9_isTicket) dX9_post_26 kX9_185 mzX9_isTicket (c_isTicket _) rfl ⟨_, _, rfl⟩ rfl rfl (by decide) (xs8 (Nat.le_of_ble_eq_true rfl)) (by first | exact Nat.le_of_ble_eq_true rfl | omega) (by first | exact Nat.le_of_ble_eq_true rfl | omega) ?_
  rintro _ _ ⟨rfl, rfl⟩; rw [if_pos e0]
  refine E_if_eq (tgt := 77) dX9_post_29 (by decide) (fun h29 => absurd h29 (by decide)) (fun h29 => ?_)
  refine E_aload_n dX9_post_32 rfl rfl ?_
  refine E_getR dX9_post_33 fX9_77 rfl rfl rfl (rM_24 hM) ?_
  refine E_iload_n dX9_post_36 rfl rfl ?_
  refine E_iald dX9_post_37 rfl rfl (by decide) (lM_24 hM) (vin ht2 (by omega)) (vnat ht2 (by omega)) rfl ?_
  refine E_iconst (v := 5) dX9_post_38 (by decide) ?_
  refine E_icmp_ne (tgt := 77) dX9_post_39 (by decide) (fun h39 => ?_) (fun h39 => ?_)
  · refine E_bipush (v := -2) dX9_post_77 (by decide) ?_
    refine E_iret dX9_post_79 rfl rfl ?_
    exact ⟨rfl, rfl⟩
  · refine E_aload_n dX9_post_42 rfl rfl ?_
    refine E_getR dX9_post_43 fX9_92 rfl rfl rfl (rM_29 hM) ?_
    refine E_iload_n dX9_post_46 rfl rfl ?_
    refine E_zald dX9_post_47 rfl rfl (by decide) (lM_29 hM) (vin ht2 (by omega)) (vnat ht2 (by omega)) rfl ?_
    refine E_if_eq (tgt := 77) dX9_post_48 (by decide) (fun h48 => ?_) (fun h48 => ?_)
    · refine E_bipush (v := -2) dX9_post_77 (by decide) ?_
      refine E_iret dX9_post_79 rfl rfl ?_
      exact ⟨rfl, rfl⟩
    · refine E_aload_n dX9_post_51 rfl rfl ?_
      refine E_getR dX9_post_52 fX9_74 rfl rfl rfl (rM_23 hM) ?_
      refine E_iload_n dX9_post_55 rfl rfl ?_
      refine E_iald dX9_post_56 rfl rfl (by decide) (lM_23 hM) (vin ht2 (by omega)) (vnat ht2 (by omega)) rfl ?_
      refine E_iload_n dX9_post_57 rfl rfl ?_
      refine E_icmp_ne (tgt := 77) dX9_post_58 (by decide) (fun h58 => ?_) (fun h58 => ?_)
      · refine E_bipush (v := -2) dX9_post_77 (by decide) ?_
        refine E_iret dX9_post_79 rfl rfl ?_
        exact ⟨rfl, rfl⟩
      · refine E_aload_n dX9_post_61 rfl rfl ?_
        refine E_getI dX9_post_62 fX9_148 rfl rfl rfl rfl ?_
        refine E_aload_n dX9_post_65 rfl rfl ?_
        refine E_getR dX9_post_66 fX9_101 rfl rfl rfl (rM_32 hM) ?_
        refine E_iload_n dX9_post_69 rfl rfl ?_
        refine E_iald dX9_post_70 rfl rfl (by decide) (lM_32 hM) (vin ht2 (by omega)) (vnat ht2 (by omega)) rfl ?_
        refine E_isub dX9_post_71 ?_
        refine E_bipush (v := 20) dX9_post_72 (by decide) ?_
        refine E_icmp_ge (tgt := 80) dX9_post_74 (by decide) (fun h74 => ?_) (fun h74 => ?_)
        · exact absurd ⟨h39, h48, h58, h74⟩ hc
        · refine E_bipush (v := -2) dX9_post_77 (by decide) ?_
          refine E_iret dX9_post_79 rfl rfl ?_
          exact ⟨rfl, rfl⟩
theorem l_r_post_l {S : xS} (hM : xShM S) {P t j : Nat} (hP : P < 4) (hj : j < 3) (hs : (gI S 70 0 (3 * P + j)) = nI t) (h0 : ∀ i, i < j → ¬ (gI S 70 0 (3 * P + i)) = nI t) (k : Int32) : ∀ (n i : Nat), i + n = j → ∀ o5, Ex mX9_post 3 0 0 (0, fun _ => 0) (aI (-2) S) 83 [some (xR (some (9, 0))), some (xI (nI P)), some (xI k), some (xI (nI t)), some (xI (nI i)), o5] [] S
  | 0, i, hi, o5 => by
    have hi : i = j := by omega
    subst hi
    have hA : 3 * P + i < 12 := by omega
    refine E_iload dX9_post_83 rfl ?_
    refine E_iconst (v := 3) dX9_post_85 (by decide) ?_
    refine E_icmp_ge (tgt := 113) dX9_post_86 (by decide) (fun h86 => absurd h86 ((nI_ge (a := i) (b := 3) (by omega) (by omega)))) (fun h86 => ?_)
    refine E_aload_n dX9_post_89 rfl rfl ?_
    refine E_getR dX9_post_90 fX9_68 rfl rfl rfl (rM_20 hM) ?_
    refine E_iconst (v := 3) dX9_post_93 (by decide) ?_
    refine E_iload_n dX9_post_94 rfl rfl ?_
    refine E_imul dX9_post_95 ?_
    refine E_iload dX9_post_96 rfl ?_
    refine E_iadd dX9_post_98 ?_
    rw [nI_3]
    refine E_iald dX9_post_99 rfl rfl (by decide) (lM_20 hM) (vin hA (by omega)) (vnat hA (by omega)) rfl ?_
    refine E_iload_n dX9_post_100 rfl rfl ?_
    refine E_icmp_ne (tgt := 107) dX9_post_101 (by decide) (fun h101 => absurd h101 (fun z => z hs)) (fun h101 => ?_)
    refine E_bipush (v := -2) dX9_post_104 (by decide) ?_
    refine E_iret dX9_post_106 rfl rfl ?_
    exact ⟨rfl, rfl⟩
  | n + 1, i, hi, o5 => by
    have hA : 3 * P + i < 12 := by omega
    refine E_iload dX9_post_83 rfl ?_
    refine E_iconst (v := 3) dX9_post_85 (by decide) ?_
    refine E_icmp_ge (tgt := 113) dX9_post_86 (by decide) (fun h86 => absurd h86 ((nI_ge (a := i) (b := 3) (by omega) (by omega)))) (fun h86 => ?_)
    refine E_aload_n dX9_post_89 rfl rfl ?_
    refine E_getR dX9_post_90 fX9_68 rfl rfl rfl (rM_20 hM) ?_
    refine E_iconst (v := 3) dX9_post_93 (by decide) ?_
    refine E_iload_n dX9_post_94 rfl rfl ?_
    refine E_imul dX9_post_95 ?_
    refine E_iload dX9_post_96 rfl ?_
    refine E_iadd dX9_post_98 ?_
    rw [nI_3]
    refine E_iald dX9_post_99 rfl rfl (by decide) (lM_20 hM) (vin hA (by omega)) (vnat hA (by omega)) rfl ?_
    refine E_iload_n dX9_post_100 rfl rfl ?_
    refine E_icmp_ne (tgt := 107) dX9_post_101 (by decide) (fun h101 => ?_) (fun h101 => absurd h101 (h0 i (by omega)))
    refine E_iinc (v := nI (i + 1)) dX9_post_107 rfl (nI_i1 i) (by decide) rfl ?_
    refine E_goto (tgt := 83) dX9_post_110 (by decide) ?_
    exact l_r_post_l hM hP hj hs h0 k n (i + 1) (by omega) _
theorem l_r_post_y {S : xS} (hM : xShM S) {P t : Nat} (hP : P < 4) (h0 : ∀ i, i < 3 → ¬ (gI S 70 0 (3 * P + i)) = nI t) (k : Int32) {Q : Option xV → xS → Prop} (hk : ∀ o4 o5, Ex mX9_post 3 0 0 (0, fun _ => 0) Q 113 [some (xR (some (9, 0))), some (xI (nI P)), some (xI k), some (xI (nI t)), o4, o5] [] S) : ∀ (n i : Nat), i + n = 3 → ∀ o5, Ex mX9_post 3 0 0 (0, fun _ => 0) Q 83 [some (xR (some (9, 0))), some (xI (nI P)), some (xI k), some (xI (nI t)), some (xI (nI i)), o5] [] S
  | 0, i, hi, o5 => by
    refine E_iload dX9_post_83 rfl ?_
    refine E_iconst (v := 3) dX9_post_85 (by decide) ?_
    refine E_icmp_ge (tgt := 113) dX9_post_86 (by decide) (fun h86 => ?_) (fun h86 => absurd h86 ((fun z => z (nI_le (a := 3) (b := i) (by omega) (by omega)))))
    exact hk _ _
  | n + 1, i, hi, o5 => by
    have hA : 3 * P + i < 12 := by omega
    refine E_iload dX9_post_83 rfl ?_
    refine E_iconst (v := 3) dX9_post_85 (by decide) ?_
    refine E_icmp_ge (tgt := 113) dX9_post_86 (by decide) (fun h86 => absurd h86 ((nI_ge (a := i) (b := 3) (by omega) (by omega)))) (fun h86 => ?_)
    refine E_aload_n dX9_post_89 rfl rfl ?_
    refine E_getR dX9_post_90 fX9_68 rfl rfl rfl (rM_20 hM) ?_
    refine E_iconst (v := 3) dX9_post_93 (by decide) ?_
    refine E_iload_n dX9_post_94 rfl rfl ?_
    refine E_imul dX9_post_95 ?_
    refine E_iload dX9_post_96 rfl ?_
    refine E_iadd dX9_post_98 ?_
    rw [nI_3]
    refine E_iald dX9_post_99 rfl rfl (by decide) (lM_20 hM) (vin hA (by omega)) (vnat hA (by omega)) rfl ?_
    refine E_iload_n dX9_post_100 rfl rfl ?_
    refine E_icmp_ne (tgt := 107) dX9_post_101 (by decide) (fun h101 => ?_) (fun h101 => absurd h101 (h0 i (by omega)))
    refine E_iinc (v := nI (i + 1)) dX9_post_107 rfl (nI_i1 i) (by decide) rfl ?_
    refine E_goto (tgt := 83) dX9_post_110 (by decide) ?_
    exact l_r_post_y hM hP h0 k hk n (i + 1) (by omega) _
theorem c_r_post_l {S : xS} (hM : xShM S) {P : Nat} (hP : P < 4) (hp : ¬ (gI S 51 0 P) = 0) (k : Int32) (hk : 0 ≤ k ∧ k ≤ (gI S 54 0 P) - 1) {T t : Nat} (hT : (gI S 9 0 22) = nI T) (hT2 : T ≤ 200) (ht : t < T) (hc : (gI S 74 0 t) = 5 ∧ ¬ (gI S 79 0 t) = 0 ∧ (gI S 73 0 t) = nI P ∧ 20 ≤ (gI S 9 0 0) - (gI S 82 0 t)) {j : Nat} (hj : j < 3) (hs : (gI S 70 0 (3 * P + j)) = nI t) (h0 : ∀ i, i < j → ¬ (gI S 70 0 (3 * P + i)) = nI t) : CC mX9_post 3 0 0 [xR (some (9, 0)), xI (nI P), xI k, xI (nI t)] S (aI (-2) S) := by
  refine CC_of mpX9_post rfl (Nat.le_of_ble_eq_true rfl) ?_
  have e0 : 0 ≤ nI t ∧ nI t ≤ (gI S 9 0 22) - 1 := by rw [hT]; exact (rng1 (by omega) (by omega)).mpr ht
  have ht2 : t < 200 := by omega
  obtain ⟨y1, y2, y3, y4⟩ := hc
  refine E_aload_n dX9_post_0 rfl rfl ?_
  refine E_iload_n dX9_post_1 rfl rfl ?_
  refine E_callV (m2 := mX9_has) dX9_post_2 kX9_165 mzX9_has (c_has_y hM hP hp) rfl ⟨_, _, rfl⟩ rfl rfl (by decide) (xs8 (Nat.le_of_ble_eq_true rfl)) (by first | exact Nat.le_of_ble_eq_true rfl | omega) (by first | exact Nat.le_of_ble_eq_true rfl | omega) ?_
  rintro _ _ ⟨rfl, rfl⟩
  refine E_if_eq (tgt := 77) dX9_post_5 (by decide) (fun h5 => absurd h5 (by decide)) (fun h5 => ?_)
  refine E_iload_n dX9_post_8 rfl rfl ?_
  refine E_iconst (v := 0) dX9_post_9 (by decide) ?_
  refine E_aload_n dX9_post_10 rfl rfl ?_
  refine E_getR dX9_post_11 fX9_20 rfl rfl rfl (rM_4 hM) ?_
  refine E_iload_n dX9_post_14 rfl rfl ?_
  refine E_iald dX9_post_15 rfl rfl (by decide) (lM_4 hM) (vin hP (by omega)) (vnat hP (by omega)) rfl ?_
  refine E_iconst (v := 1) dX9_post_16 (by decide) ?_
  refine E_isub dX9_post_17 ?_
  refine E_callS (m2 := mX9_in) dX9_post_18 kX9_141 mzX9_in (c_X9_in _ _ _) rfl rfl (by decide) (xs8 (Nat.le_of_ble_eq_true rfl)) (by first | exact Nat.le_of_ble_eq_true rfl | omega) (by first | exact Nat.le_of_ble_eq_true rfl | omega) ?_
  rintro _ _ ⟨rfl, rfl⟩; rw [if_pos hk]
  refine E_if_eq (tgt := 77) dX9_post_21 (by decide) (fun h21 => absurd h21 (by decide)) (fun h21 => ?_)
  refine E_aload_n dX9_post_24 rfl rfl ?_
  refine E_iload_n dX9_post_25 rfl rfl ?_
  refine E_callV (m2 := mX9_isTicket) dX9_post_26 kX9_185 mzX9_isTicket (c_isTicket _) rfl ⟨_, _, rfl⟩ rfl rfl (by decide) (xs8 (Nat.le_of_ble_eq_true rfl)) (by first | exact Nat.le_of_ble_eq_true rfl | omega) (by first | exact Nat.le_of_ble_eq_true rfl | omega) ?_
  rintro _ _ ⟨rfl, rfl⟩; rw [if_pos e0]
  refine E_if_eq (tgt := 77) dX9_post_29 (by decide) (fun h29 => absurd h29 (by decide)) (fun h29 => ?_)
  refine E_aload_n dX9_post_32 rfl rfl ?_
  refine E_getR dX9_post_33 fX9_77 rfl rfl rfl (rM_24 hM) ?_
  refine E_iload_n dX9_post_36 rfl rfl ?_
  refine E_iald dX9_post_37 rfl rfl (by decide) (lM_24 hM) (vin ht2 (by omega)) (vnat ht2 (by omega)) rfl ?_
  refine E_iconst (v := 5) dX9_post_38 (by decide) ?_
  refine E_icmp_ne (tgt := 77) dX9_post_39 (by decide) (fun h39 => absurd h39 (fun z => z y1)) (fun h39 => ?_)
  refine E_aload_n dX9_post_42 rfl rfl ?_
  refine E_getR dX9_post_43 fX9_92 rfl rfl rfl (rM_29 hM) ?_
  refine E_iload_n dX9_post_46 rfl rfl ?_
  refine E_zald dX9_post_47 rfl rfl (by decide) (lM_29 hM) (vin ht2 (by omega)) (vnat ht2 (by omega)) rfl ?_
  refine E_if_eq (tgt := 77) dX9_post_48 (by decide) (fun h48 => absurd h48 (y2)) (fun h48 => ?_)
  refine E_aload_n dX9_post_51 rfl rfl ?_
  refine E_getR dX9_post_52 fX9_74 rfl rfl rfl (rM_23 hM) ?_
  refine E_iload_n dX9_post_55 rfl rfl ?_
  refine E_iald dX9_post_56 rfl rfl (by decide) (lM_23 hM) (vin ht2 (by omega)) (vnat ht2 (by omega)) rfl ?_
  refine E_iload_n dX9_post_57 rfl rfl ?_
  refine E_icmp_ne (tgt := 77) dX9_post_58 (by decide) (fun h58 => absurd h58 (fun z => z y3)) (fun h58 => ?_)
  refine E_aload_n dX9_post_61 rfl rfl ?_
  refine E_getI dX9_post_62 fX9_148 rfl rfl rfl rfl ?_
  refine E_aload_n dX9_post_65 rfl rfl ?_
  refine E_getR dX9_post_66 fX9_101 rfl rfl rfl (rM_32 hM) ?_
  refine E_iload_n dX9_post_69 rfl rfl ?_
  refine E_iald dX9_post_70 rfl rfl (by decide) (lM_32 hM) (vin ht2 (by omega)) (vnat ht2 (by omega)) rfl ?_
  refine E_isub dX9_post_71 ?_
  refine E_bipush (v := 20) dX9_post_72 (by decide) ?_
  refine E_icmp_ge (tgt := 80) dX9_post_74 (by decide) (fun h74 => ?_) (fun h74 => absurd h74 (fun z => z y4))
  refine E_iconst (v := 0) dX9_post_80 (by decide) ?_
  refine E_istore dX9_post_81 (by decide) rfl ?_
  exact l_r_post_l hM hP hj hs h0 k j 0 (by omega) _
def xrst (S : xS) (A t : Nat) : xS := (sI (sI S 70 0 A (nI t)) 71 0 A (gI S 9 0 0))
theorem c_r_post_e {S : xS} (hM : xShM S) {P : Nat} (hP : P < 4) (hp : ¬ (gI S 51 0 P) = 0) {k : Nat} (hk3 : k < 3) (hk : 0 ≤ nI k ∧ nI k ≤ (gI S 54 0 P) - 1) {T t : Nat} (hT : (gI S 9 0 22) = nI T) (hT2 : T ≤ 200) (ht : t < T) (hc : (gI S 74 0 t) = 5 ∧ ¬ (gI S 79 0 t) = 0 ∧ (gI S 73 0 t) = nI P ∧ 20 ≤ (gI S 9 0 0) - (gI S 82 0 t)) (h0 : ∀ i, i < 3 → ¬ (gI S 70 0 (3 * P + i)) = nI t) (hw : (gI S 70 0 (3 * P + k)) = -1) : CC mX9_post 3 0 0 [xR (some (9, 0)), xI (nI P), xI (nI k), xI (nI t)] S (aI (-1) (xrst S (3 * P + k) t)) := by
  refine CC_of mpX9_post rfl (Nat.le_of_ble_eq_true rfl) ?_
  have hA : 3 * P + k < 12 := by omega
  have key : ∀ o4 o5, Ex mX9_post 3 0 0 (0, fun _ => 0) (aI (-1) (xrst S (3 * P + k) t)) 113 [some (xR (some (9, 0))), some (xI (nI P)), some (xI (nI k)), some (xI (nI t)), o4, o5] [] S := by
    intro o4 o5
    refine E_iconst (v := 3) dX9_post_113 (by decide) ?_
    refine E_iload_n dX9_post_114 rfl rfl ?_
    refine E_imul dX9_post_115 ?_
    refine E_iload_n dX9_post_116 rfl rfl ?_
    refine E_iadd dX9_post_117 ?_
    rw [nI_3]
    refine E_istore dX9_post_118 (by decide) rfl ?_
    refine E_aload_n dX9_post_120 rfl rfl ?_
    refine E_getR dX9_post_121 fX9_68 rfl rfl rfl (rM_20 hM) ?_
    refine E_iload dX9_post_124 rfl ?_
    refine E_iald dX9_post_126 rfl rfl (by decide) (lM_20 hM) (vin hA (by omega)) (vnat hA (by omega)) hw ?_
    refine E_istore dX9_post_127 (by decide) rfl ?_
    refine E_iload dX9_post_129 rfl ?_
    refine E_iconst (v := -1) dX9_post_131 (by decide) ?_
    refine E_icmp_eq (tgt := 141) dX9_post_132 (by decide) (fun h132 => ?_) (fun h132 => absurd h132 (fun z => z rfl))
    refine E_aload_n dX9_post_141 rfl rfl ?_
    refine E_getR dX9_post_142 fX9_68 rfl rfl rfl (rM_20 hM) ?_
    refine E_iload dX9_post_145 rfl ?_
    refine E_iload_n dX9_post_147 rfl rfl ?_
    refine E_iast dX9_post_148 rfl rfl (by decide) (lM_20 hM) (vin hA (by omega)) (vnat hA (by omega)) ?_
    refine E_aload_n dX9_post_149 rfl rfl ?_
    refine E_getR dX9_post_150 fX9_71 rfl rfl rfl (rM_21 hM) ?_
    refine E_iload dX9_post_153 rfl ?_
    refine E_aload_n dX9_post_155 rfl rfl ?_
    refine E_getI dX9_post_156 fX9_148 rfl rfl rfl rfl ?_
    refine E_iast dX9_post_159 rfl rfl (by decide) (lM_21 hM) (vin hA (by omega)) (vnat hA (by omega)) ?_
    refine E_iload dX9_post_160 rfl ?_
    refine E_iret dX9_post_162 rfl rfl ?_
    exact ⟨rfl, rfl⟩
  have e0 : 0 ≤ nI t ∧ nI t ≤ (gI S 9 0 22) - 1 := by rw [hT]; exact (rng1 (by omega) (by omega)).mpr ht
  have ht2 : t < 200 := by omega
  obtain ⟨y1, y2, y3, y4⟩ := hc
  refine E_aload_n dX9_post_0 rfl rfl ?_
  refine E_iload_n dX9_post_1 rfl rfl ?_
  refine E_callV (m2 := mX9_has) dX9_post_2 kX9_165 mzX9_has (c_has_y hM hP hp) rfl ⟨_, _, rfl⟩ rfl rfl (by decide) (xs8 (Nat.le_of_ble_eq_true rfl)) (by first | exact Nat.le_of_ble_eq_true rfl | omega) (by first | exact Nat.le_of_ble_eq_true rfl | omega) ?_
  rintro _ _ ⟨rfl, rfl⟩
  refine E_if_eq (tgt := 77) dX9_post_5 (by decide) (fun h5 => absurd h5 (by decide)) (fun h5 => ?_)
  refine E_iload_n dX9_post_8 rfl rfl ?_
  refine E_iconst (v := 0) dX9_post_9 (by decide) ?_
  refine E_aload_n dX9_post_10 rfl rfl ?_
  refine E_getR dX9_post_11 fX9_20 rfl rfl rfl (rM_4 hM) ?_
  refine E_iload_n dX9_post_14 rfl rfl ?_
  refine E_iald dX9_post_15 rfl rfl (by decide) (lM_4 hM) (vin hP (by omega)) (vnat hP (by omega)) rfl ?_
  refine E_iconst (v := 1) dX9_post_16 (by decide) ?_
  refine E_isub dX9_post_17 ?_
  refine E_callS (m2 := mX9_in) dX9_post_18 kX9_141 mzX9_in (c_X9_in _ _ _) rfl rfl (by decide) (xs8 (Nat.le_of_ble_eq_true rfl)) (by first | exact Nat.le_of_ble_eq_true rfl | omega) (by first | exact Nat.le_of_ble_eq_true rfl | omega) ?_
  rintro _ _ ⟨rfl, rfl⟩; rw [if_pos hk]
  refine E_if_eq (tgt := 77) dX9_post_21 (by decide) (fun h21 => absurd h21 (by decide)) (fun h21 => ?_)
  refine E_aload_n dX9_post_24 rfl rfl ?_
  refine E_iload_n dX9_post_25 rfl rfl ?_
  refine E_callV (m2 := mX9_isTicket) dX9_post_26 kX9_185 mzX9_isTicket (c_isTicket _) rfl ⟨_, _, rfl⟩ rfl rfl (by decide) (xs8 (Nat.le_of_ble_eq_true rfl)) (by first | exact Nat.le_of_ble_eq_true rfl | omega) (by first | exact Nat.le_of_ble_eq_true rfl | omega) ?_
  rintro _ _ ⟨rfl, rfl⟩; rw [if_pos e0]
  refine E_if_eq (tgt := 77) dX9_post_29 (by decide) (fun h29 => absurd h29 (by decide)) (fun h29 => ?_)
  refine E_aload_n dX9_post_32 rfl rfl ?_
  refine E_getR dX9_post_33 fX9_77 rfl rfl rfl (rM_24 hM) ?_
  refine E_iload_n dX9_post_36 rfl rfl ?_
  refine E_iald dX9_post_37 rfl rfl (by decide) (lM_24 hM) (vin ht2 (by omega)) (vnat ht2 (by omega)) rfl ?_
  refine E_iconst (v := 5) dX9_post_38 (by decide) ?_
  refine E_icmp_ne (tgt := 77) dX9_post_39 (by decide) (fun h39 => absurd h39 (fun z => z y1)) (fun h39 => ?_)
  refine E_aload_n dX9_post_42 rfl rfl ?_
  refine E_getR dX9_post_43 fX9_92 rfl rfl rfl (rM_29 hM) ?_
  refine E_iload_n dX9_post_46 rfl rfl ?_
  refine E_zald dX9_post_47 rfl rfl (by decide) (lM_29 hM) (vin ht2 (by omega)) (vnat ht2 (by omega)) rfl ?_
  refine E_if_eq (tgt := 77) dX9_post_48 (by decide) (fun h48 => absurd h48 (y2)) (fun h48 => ?_)
  refine E_aload_n dX9_post_51 rfl rfl ?_
  refine E_getR dX9_post_52 fX9_74 rfl rfl rfl (rM_23 hM) ?_
  refine E_iload_n dX9_post_55 rfl rfl ?_
  refine E_iald dX9_post_56 rfl rfl (by decide) (lM_23 hM) (vin ht2 (by omega)) (vnat ht2 (by omega)) rfl ?_
  refine E_iload_n dX9_post_57 rfl rfl ?_
  refine E_icmp_ne (tgt := 77) dX9_post_58 (by decide) (fun h58 => absurd h58 (fun z => z y3)) (fun h58 => ?_)
  refine E_aload_n dX9_post_61 rfl rfl ?_
  refine E_getI dX9_post_62 fX9_148 rfl rfl rfl rfl ?_
  refine E_aload_n dX9_post_65 rfl rfl ?_
  refine E_getR dX9_post_66 fX9_101 rfl rfl rfl (rM_32 hM) ?_
  refine E_iload_n dX9_post_69 rfl rfl ?_
  refine E_iald dX9_post_70 rfl rfl (by decide) (lM_32 hM) (vin ht2 (by omega)) (vnat ht2 (by omega)) rfl ?_
  refine E_isub dX9_post_71 ?_
  refine E_bipush (v := 20) dX9_post_72 (by decide) ?_
  refine E_icmp_ge (tgt := 80) dX9_post_74 (by decide) (fun h74 => ?_) (fun h74 => absurd h74 (fun z => z y4))
  refine E_iconst (v := 0) dX9_post_80 (by decide) ?_
  refine E_istore dX9_post_81 (by decide) rfl ?_
  exact l_r_post_y hM hP h0 (nI k) key 3 0 rfl _
theorem c_r_post_s {S : xS} (hM : xShM S) {P : Nat} (hP : P < 4) (hp : ¬ (gI S 51 0 P) = 0) {k : Nat} (hk3 : k < 3) (hk : 0 ≤ nI k ∧ nI k ≤ (gI S 54 0 P) - 1) {T t : Nat} (hT : (gI S 9 0 22) = nI T) (hT2 : T ≤ 200) (ht : t < T) (hc : (gI S 74 0 t) = 5 ∧ ¬ (gI S 79 0 t) = 0 ∧ (gI S 73 0 t) = nI P ∧ 20 ≤ (gI S 9 0 0) - (gI S 82 0 t)) (h0 : ∀ i, i < 3 → ¬ (gI S 70 0 (3 * P + i)) = nI t) {U : Nat} (hU : U < 200) (hw : (gI S 70 0 (3 * P + k)) = nI U) : CC mX9_post 3 0 0 [xR (some (9, 0)), xI (nI P), xI (nI k), xI (nI t)] S (aI (nI U) (xrst (xrlv S (3 * P + k) U) (3 * P + k) t)) := by
  refine CC_of mpX9_post rfl (Nat.le_of_ble_eq_true rfl) ?_
  have hA : 3 * P + k < 12 := by omega
  have hne : ¬ nI U = -1 := fun z => by rw [fa_eq, nI_toInt (by omega)] at z; rw [show (-1 : Int32).toInt = -1 from by decide] at z; omega
  have key : ∀ o4 o5, Ex mX9_post 3 0 0 (0, fun _ => 0) (aI (nI U) (xrst (xrlv S (3 * P + k) U) (3 * P + k) t)) 113 [some (xR (some (9, 0))), some (xI (nI P)), some (xI (nI k)), some (xI (nI t)), o4, o5] [] S := by
    intro o4 o5
    refine E_iconst (v := 3) dX9_post_113 (by decide) ?_
    refine E_iload_n dX9_post_114 rfl rfl ?_
    refine E_imul dX9_post_115 ?_
    refine E_iload_n dX9_post_116 rfl rfl ?_
    refine E_iadd dX9_post_117 ?_
    rw [nI_3]
    refine E_istore dX9_post_118 (by decide) rfl ?_
    refine E_aload_n dX9_post_120 rfl rfl ?_
    refine E_getR dX9_post_121 fX9_68 rfl rfl rfl (rM_20 hM) ?_
    refine E_iload dX9_post_124 rfl ?_
    refine E_iald dX9_post_126 rfl rfl (by decide) (lM_20 hM) (vin hA (by omega)) (vnat hA (by omega)) hw ?_
    refine E_istore dX9_post_127 (by decide) rfl ?_
    refine E_iload dX9_post_129 rfl ?_
    refine E_iconst (v := -1) dX9_post_131 (by decide) ?_
    refine E_icmp_eq (tgt := 141) dX9_post_132 (by decide) (fun h132 => absurd h132 (hne)) (fun h132 => ?_)
    refine E_aload_n dX9_post_135 rfl rfl ?_
    refine E_iload dX9_post_136 rfl ?_
    refine E_callV (m2 := mX9_leaves) dX9_post_138 kX9_206 mzX9_leaves (c_r_leaves hM hA hU hw) rfl ⟨_, _, rfl⟩ rfl rfl (by decide) (xs8 (Nat.le_of_ble_eq_true rfl)) (by first | exact Nat.le_of_ble_eq_true rfl | omega) (by first | exact Nat.le_of_ble_eq_true rfl | omega) ?_
    rintro _ _ ⟨rfl, rfl⟩
    refine E_aload_n dX9_post_141 rfl rfl ?_
    refine E_getR dX9_post_142 fX9_68 rfl rfl rfl (rM_20 hM) ?_
    refine E_iload dX9_post_145 rfl ?_
    refine E_iload_n dX9_post_147 rfl rfl ?_
    refine E_iast dX9_post_148 rfl rfl (by decide) (lM_20 hM) (vin hA (by omega)) (vnat hA (by omega)) ?_
    refine E_aload_n dX9_post_149 rfl rfl ?_
    refine E_getR dX9_post_150 fX9_71 rfl rfl rfl (rM_21 hM) ?_
    refine E_iload dX9_post_153 rfl ?_
    refine E_aload_n dX9_post_155 rfl rfl ?_
    refine E_getI dX9_post_156 fX9_148 rfl rfl rfl rfl ?_
    refine E_iast dX9_post_159 rfl rfl (by decide) (lM_21 hM) (vin hA (by omega)) (vnat hA (by omega)) ?_
    refine E_iload dX9_post_160 rfl ?_
    refine E_iret dX9_post_162 rfl rfl ?_
    exact ⟨rfl, rfl⟩
  have e0 : 0 ≤ nI t ∧ nI t ≤ (gI S 9 0 22) - 1 := by rw [hT]; exact (rng1 (by omega) (by omega)).mpr ht
  have ht2 : t < 200 := by omega
  obtain ⟨y1, y2, y3, y4⟩ := hc
  refine E_aload_n dX9_post_0 rfl rfl ?_
  refine E_iload_n dX9_post_1 rfl rfl ?_
  refine E_callV (m2 := mX9_has) dX9_post_2 kX9_165 mzX9_has (c_has_y hM hP hp) rfl ⟨_, _, rfl⟩ rfl rfl (by decide) (xs8 (Nat.le_of_ble_eq_true rfl)) (by first | exact Nat.le_of_ble_eq_true rfl | omega) (by first | exact Nat.le_of_ble_eq_true rfl | omega) ?_
  rintro _ _ ⟨rfl, rfl⟩
  refine E_if_eq (tgt := 77) dX9_post_5 (by decide) (fun h5 => absurd h5 (by decide)) (fun h5 => ?_)
  refine E_iload_n dX9_post_8 rfl rfl ?_
  refine E_iconst (v := 0) dX9_post_9 (by decide) ?_
  refine E_aload_n dX9_post_10 rfl rfl ?_
  refine E_getR dX9_post_11 fX9_20 rfl rfl rfl (rM_4 hM) ?_
  refine E_iload_n dX9_post_14 rfl rfl ?_
  refine E_iald dX9_post_15 rfl rfl (by decide) (lM_4 hM) (vin hP (by omega)) (vnat hP (by omega)) rfl ?_
  refine E_iconst (v := 1) dX9_post_16 (by decide) ?_
  refine E_isub dX9_post_17 ?_
  refine E_callS (m2 := mX9_in) dX9_post_18 kX9_141 mzX9_in (c_X9_in _ _ _) rfl rfl (by decide) (xs8 (Nat.le_of_ble_eq_true rfl)) (by first | exact Nat.le_of_ble_eq_true rfl | omega) (by first | exact Nat.le_of_ble_eq_true rfl | omega) ?_
  rintro _ _ ⟨rfl, rfl⟩; rw [if_pos hk]
  refine E_if_eq (tgt := 77) dX9_post_21 (by decide) (fun h21 => absurd h21 (by decide)) (fun h21 => ?_)
  refine E_aload_n dX9_post_24 rfl rfl ?_
  refine E_iload_n dX9_post_25 rfl rfl ?_
  refine E_callV (m2 := mX9_isTicket) dX9_post_26 kX9_185 mzX9_isTicket (c_isTicket _) rfl ⟨_, _, rfl⟩ rfl rfl (by decide) (xs8 (Nat.le_of_ble_eq_true rfl)) (by first | exact Nat.le_of_ble_eq_true rfl | omega) (by first | exact Nat.le_of_ble_eq_true rfl | omega) ?_
  rintro _ _ ⟨rfl, rfl⟩; rw [if_pos e0]
  refine E_if_eq (tgt := 77) dX9_post_29 (by decide) (fun h29 => absurd h29 (by decide)) (fun h29 => ?_)
  refine E_aload_n dX9_post_32 rfl rfl ?_
  refine E_getR dX9_post_33 fX9_77 rfl rfl rfl (rM_24 hM) ?_
  refine E_iload_n dX9_post_36 rfl rfl ?_
  refine E_iald dX9_post_37 rfl rfl (by decide) (lM_24 hM) (vin ht2 (by omega)) (vnat ht2 (by omega)) rfl ?_
  refine E_iconst (v := 5) dX9_post_38 (by decide) ?_
  refine E_icmp_ne (tgt := 77) dX9_post_39 (by decide) (fun h39 => absurd h39 (fun z => z y1)) (fun h39 => ?_)
  refine E_aload_n dX9_post_42 rfl rfl ?_
  refine E_getR dX9_post_43 fX9_92 rfl rfl rfl (rM_29 hM) ?_
  refine E_iload_n dX9_post_46 rfl rfl ?_
  refine E_zald dX9_post_47 rfl rfl (by decide) (lM_29 hM) (vin ht2 (by omega)) (vnat ht2 (by omega)) rfl ?_
  refine E_if_eq (tgt := 77) dX9_post_48 (by decide) (fun h48 => absurd h48 (y2)) (fun h48 => ?_)
  refine E_aload_n dX9_post_51 rfl rfl ?_
  refine E_getR dX9_post_52 fX9_74 rfl rfl rfl (rM_23 hM) ?_
  refine E_iload_n dX9_post_55 rfl rfl ?_
  refine E_iald dX9_post_56 rfl rfl (by decide) (lM_23 hM) (vin ht2 (by omega)) (vnat ht2 (by omega)) rfl ?_
  refine E_iload_n dX9_post_57 rfl rfl ?_
  refine E_icmp_ne (tgt := 77) dX9_post_58 (by decide) (fun h58 => absurd h58 (fun z => z y3)) (fun h58 => ?_)
  refine E_aload_n dX9_post_61 rfl rfl ?_
  refine E_getI dX9_post_62 fX9_148 rfl rfl rfl rfl ?_
  refine E_aload_n dX9_post_65 rfl rfl ?_
  refine E_getR dX9_post_66 fX9_101 rfl rfl rfl (rM_32 hM) ?_
  refine E_iload_n dX9_post_69 rfl rfl ?_
  refine E_iald dX9_post_70 rfl rfl (by decide) (lM_32 hM) (vin ht2 (by omega)) (vnat ht2 (by omega)) rfl ?_
  refine E_isub dX9_post_71 ?_
  refine E_bipush (v := 20) dX9_post_72 (by decide) ?_
  refine E_icmp_ge (tgt := 80) dX9_post_74 (by decide) (fun h74 => ?_) (fun h74 => absurd h74 (fun z => z y4))
  refine E_iconst (v := 0) dX9_post_80 (by decide) ?_
  refine E_istore dX9_post_81 (by decide) rfl ?_
  exact l_r_post_y hM hP h0 (nI k) key 3 0 rfl _
theorem c_r_key_n {S : xS} (x : Int32) (h : ¬ (0 ≤ x ∧ x ≤ (gI S 9 0 22) - 1)) : CC mX9_key 3 0 0 [xR (some (9, 0)), xI x] S (aI (-1) S) := by
  refine CC_of mpX9_key rfl (Nat.le_of_ble_eq_true rfl) ?_
  refine E_aload_n dX9_key_0 rfl rfl ?_
  refine E_iload_n dX9_key_1 rfl rfl ?_
  refine E_callV (m2 := mX9_isTicket) dX9_key_2 kX9_185 mzX9_isTicket (c_isTicket _) rfl ⟨_, _, rfl⟩ rfl rfl (by decide) (xs8 (Nat.le_of_ble_eq_true rfl)) (by first | exact Nat.le_of_ble_eq_true rfl | omega) (by first | exact Nat.le_of_ble_eq_true rfl | omega) ?_
  rintro _ _ ⟨rfl, rfl⟩; rw [if_neg h]
  refine E_if_eq (tgt := 26) dX9_key_5 (by decide) (fun h5 => ?_) (fun h5 => absurd h5 (by decide))
  refine E_iconst (v := -1) dX9_key_26 (by decide) ?_
  refine E_iret dX9_key_27 rfl rfl ?_
  exact ⟨rfl, rfl⟩
theorem c_r_key_i {S : xS} (hM : xShM S) {T t : Nat} (hT : (gI S 9 0 22) = nI T) (hT2 : T ≤ 200) (ht : t < T) (hi : ¬ (¬ (gI S 79 0 t) = 0 ∧ xon (xlk S (nI t)) = -1)) : CC mX9_key 3 0 0 [xR (some (9, 0)), xI (nI t)] S (aI (-1) S) := by
  refine CC_of mpX9_key rfl (Nat.le_of_ble_eq_true rfl) ?_
  have e0 : 0 ≤ nI t ∧ nI t ≤ (gI S 9 0 22) - 1 := by rw [hT]; exact (rng1 (by omega) (by omega)).mpr ht
  have ht2 : t < 200 := by omega
  refine E_aload_n dX9_key_0 rfl rfl ?_
  refine E_iload_n dX9_key_1 rfl rfl ?_
  refine E_callV (m2 := mX9_isTicket) dX9_key_2 kX9_185 mzX9_isTicket (c_isTicket _) rfl ⟨_, _, rfl⟩ rfl rfl (by decide) (xs8 (Nat.le_of_ble_eq_true rfl)) (by first | exact Nat.le_of_ble_eq_true rfl | omega) (by first | exact Nat.le_of_ble_eq_true rfl | omega) ?_
  rintro _ _ ⟨rfl, rfl⟩; rw [if_pos e0]
  refine E_if_eq (tgt := 26) dX9_key_5 (by decide) (fun h5 => absurd h5 (by decide)) (fun h5 => ?_)
  refine E_aload_n dX9_key_8 rfl rfl ?_
  refine E_getR dX9_key_9 fX9_92 rfl rfl rfl (rM_29 hM) ?_
  refine E_iload_n dX9_key_12 rfl rfl ?_
  refine E_zald dX9_key_13 rfl rfl (by decide) (lM_29 hM) (vin ht2 (by omega)) (vnat ht2 (by omega)) rfl ?_
  refine E_if_eq (tgt := 26) dX9_key_14 (by decide) (fun h14 => ?_) (fun h14 => ?_)
  · refine E_iconst (v := -1) dX9_key_26 (by decide) ?_
    refine E_iret dX9_key_27 rfl rfl ?_
    exact ⟨rfl, rfl⟩
  · refine E_aload_n dX9_key_17 rfl rfl ?_
    refine E_iload_n dX9_key_18 rfl rfl ?_
    refine E_callV (m2 := mX9_lockerOf) dX9_key_19 kX9_210 mzX9_lockerOf (c_r_lockerOf hM (nI t)) rfl ⟨_, _, rfl⟩ rfl rfl (by decide) (xs8 (Nat.le_of_ble_eq_true rfl)) (by first | exact Nat.le_of_ble_eq_true rfl | omega) (by first | exact Nat.le_of_ble_eq_true rfl | omega) ?_
    rintro _ _ ⟨rfl, rfl⟩
    refine E_iconst (v := -1) dX9_key_22 (by decide) ?_
    refine E_icmp_eq (tgt := 28) dX9_key_23 (by decide) (fun h23 => ?_) (fun h23 => ?_)
    · exact absurd ⟨h14, h23⟩ hi
    · refine E_iconst (v := -1) dX9_key_26 (by decide) ?_
      refine E_iret dX9_key_27 rfl rfl ?_
      exact ⟨rfl, rfl⟩
theorem l_r_key_y {S : xS} (hM : xShM S) (x : Int32) {l : Nat} (hl : l < 30) (h0 : (gI S 83 0 l) = -1 ∧ (gI S 84 0 l) = -1) (h1 : ∀ j, j < l → ¬ ((gI S 83 0 j) = -1 ∧ (gI S 84 0 j) = -1)) : ∀ (n i : Nat), i + n = l → Ex mX9_key 3 0 0 (0, fun _ => 0) (aI (nI l) (sI S 83 0 l x)) 30 [some (xR (some (9, 0))), some (xI x), some (xI (nI i))] [] S
  | 0, i, hi => by
    have hi : i = l := by omega
    subst hi
    refine E_iload_n dX9_key_30 rfl rfl ?_
    refine E_bipush (v := 30) dX9_key_31 (by decide) ?_
    refine E_icmp_ge (tgt := 74) dX9_key_33 (by decide) (fun h33 => absurd h33 ((nI_ge (a := i) (b := 30) (by omega) (by omega)))) (fun h33 => ?_)
    refine E_aload_n dX9_key_36 rfl rfl ?_
    refine E_getR dX9_key_37 fX9_104 rfl rfl rfl (rM_33 hM) ?_
    refine E_iload_n dX9_key_40 rfl rfl ?_
    refine E_iald dX9_key_41 rfl rfl (by decide) (lM_33 hM) (vin hl (by omega)) (vnat hl (by omega)) rfl ?_
    refine E_iconst (v := -1) dX9_key_42 (by decide) ?_
    refine E_icmp_ne (tgt := 68) dX9_key_43 (by decide) (fun h43 => absurd h43 (fun z => z h0.1)) (fun h43 => ?_)
    refine E_aload_n dX9_key_46 rfl rfl ?_
    refine E_getR dX9_key_47 fX9_107 rfl rfl rfl (rM_34 hM) ?_
    refine E_iload_n dX9_key_50 rfl rfl ?_
    refine E_iald dX9_key_51 rfl rfl (by decide) (lM_34 hM) (vin hl (by omega)) (vnat hl (by omega)) rfl ?_
    refine E_iconst (v := -1) dX9_key_52 (by decide) ?_
    refine E_icmp_eq (tgt := 59) dX9_key_53 (by decide) (fun h53 => ?_) (fun h53 => absurd h53 (fun z => z h0.2))
    refine E_aload_n dX9_key_59 rfl rfl ?_
    refine E_getR dX9_key_60 fX9_104 rfl rfl rfl (rM_33 hM) ?_
    refine E_iload_n dX9_key_63 rfl rfl ?_
    refine E_iload_n dX9_key_64 rfl rfl ?_
    refine E_iast dX9_key_65 rfl rfl (by decide) (lM_33 hM) (vin hl (by omega)) (vnat hl (by omega)) ?_
    refine E_iload_n dX9_key_66 rfl rfl ?_
    refine E_iret dX9_key_67 rfl rfl ?_
    exact ⟨rfl, rfl⟩
  | n + 1, i, hi => by
    have hno := h1 i (by omega)
    refine E_iload_n dX9_key_30 rfl rfl ?_
    refine E_bipush (v := 30) dX9_key_31 (by decide) ?_
    refine E_icmp_ge (tgt := 74) dX9_key_33 (by decide) (fun h33 => absurd h33 ((nI_ge (a := i) (b := 30) (by omega) (by omega)))) (fun h33 => ?_)
    refine E_aload_n dX9_key_36 rfl rfl ?_
    refine E_getR dX9_key_37 fX9_104 rfl rfl rfl (rM_33 hM) ?_
    refine E_iload_n dX9_key_40 rfl rfl ?_
    refine E_iald dX9_key_41 rfl rfl (by decide) (lM_33 hM) (vin (by omega : i < 30) (by omega)) (vnat (by omega : i < 30) (by omega)) rfl ?_
    refine E_iconst (v := -1) dX9_key_42 (by decide) ?_
    refine E_icmp_ne (tgt := 68) dX9_key_43 (by decide) (fun h43 => ?_) (fun h43 => ?_)
    · refine E_iinc (v := nI (i + 1)) dX9_key_68 rfl (nI_i1 i) (by decide) rfl ?_
      refine E_goto (tgt := 30) dX9_key_71 (by decide) ?_
      exact l_r_key_y hM x hl h0 h1 n (i + 1) (by omega)
    · refine E_aload_n dX9_key_46 rfl rfl ?_
      refine E_getR dX9_key_47 fX9_107 rfl rfl rfl (rM_34 hM) ?_
      refine E_iload_n dX9_key_50 rfl rfl ?_
      refine E_iald dX9_key_51 rfl rfl (by decide) (lM_34 hM) (vin (by omega : i < 30) (by omega)) (vnat (by omega : i < 30) (by omega)) rfl ?_
      refine E_iconst (v := -1) dX9_key_52 (by decide) ?_
      refine E_icmp_eq (tgt := 59) dX9_key_53 (by decide) (fun h53 => ?_) (fun h53 => ?_)
      · exact absurd ⟨h43, h53⟩ hno
      · refine E_goto (tgt := 68) dX9_key_56 (by decide) ?_
        refine E_iinc (v := nI (i + 1)) dX9_key_68 rfl (nI_i1 i) (by decide) rfl ?_
        refine E_goto (tgt := 30) dX9_key_71 (by decide) ?_
        exact l_r_key_y hM x hl h0 h1 n (i + 1) (by omega)
theorem l_r_key_n {S : xS} (hM : xShM S) (x : Int32) (h1 : ∀ j, j < 30 → ¬ ((gI S 83 0 j) = -1 ∧ (gI S 84 0 j) = -1)) : ∀ (n i : Nat), i + n = 30 → Ex mX9_key 3 0 0 (0, fun _ => 0) (aI (-1) S) 30 [some (xR (some (9, 0))), some (xI x), some (xI (nI i))] [] S
  | 0, i, hi => by
    refine E_iload_n dX9_key_30 rfl rfl ?_
    refine E_bipush (v := 30) dX9_key_31 (by decide) ?_
    refine E_icmp_ge (tgt := 74) dX9_key_33 (by decide) (fun h33 => ?_) (fun h33 => absurd h33 ((fun z => z (nI_le (a := 30) (b := i) (by omega) (by omega)))))
    refine E_iconst (v := -1) dX9_key_74 (by decide) ?_
    refine E_iret dX9_key_75 rfl rfl ?_
    exact ⟨rfl, rfl⟩
  | n + 1, i, hi => by
    have hno := h1 i (by omega)
    refine E_iload_n dX9_key_30 rfl rfl ?_
    refine E_bipush (v := 30) dX9_key_31 (by decide) ?_
    refine E_icmp_ge (tgt := 74) dX9_key_33 (by decide) (fun h33 => absurd h33 ((nI_ge (a := i) (b := 30) (by omega) (by omega)))) (fun h33 => ?_)
    refine E_aload_n dX9_key_36 rfl rfl ?_
    refine E_getR dX9_key_37 fX9_104 rfl rfl rfl (rM_33 hM) ?_
    refine E_iload_n dX9_key_40 rfl rfl ?_
    refine E_iald dX9_key_41 rfl rfl (by decide) (lM_33 hM) (vin (by omega : i < 30) (by omega)) (vnat (by omega : i < 30) (by omega)) rfl ?_
    refine E_iconst (v := -1) dX9_key_42 (by decide) ?_
    refine E_icmp_ne (tgt := 68) dX9_key_43 (by decide) (fun h43 => ?_) (fun h43 => ?_)
    · refine E_iinc (v := nI (i + 1)) dX9_key_68 rfl (nI_i1 i) (by decide) rfl ?_
      refine E_goto (tgt := 30) dX9_key_71 (by decide) ?_
      exact l_r_key_n hM x h1 n (i + 1) (by omega)
    · refine E_aload_n dX9_key_46 rfl rfl ?_
      refine E_getR dX9_key_47 fX9_107 rfl rfl rfl (rM_34 hM) ?_
      refine E_iload_n dX9_key_50 rfl rfl ?_
      refine E_iald dX9_key_51 rfl rfl (by decide) (lM_34 hM) (vin (by omega : i < 30) (by omega)) (vnat (by omega : i < 30) (by omega)) rfl ?_
      refine E_iconst (v := -1) dX9_key_52 (by decide) ?_
      refine E_icmp_eq (tgt := 59) dX9_key_53 (by decide) (fun h53 => ?_) (fun h53 => ?_)
      · exact absurd ⟨h43, h53⟩ hno
      · refine E_goto (tgt := 68) dX9_key_56 (by decide) ?_
        refine E_iinc (v := nI (i + 1)) dX9_key_68 rfl (nI_i1 i) (by decide) rfl ?_
        refine E_goto (tgt := 30) dX9_key_71 (by decide) ?_
        exact l_r_key_n hM x h1 n (i + 1) (by omega)
theorem c_r_key_s {S : xS} (hM : xShM S) {T t : Nat} (hT : (gI S 9 0 22) = nI T) (hT2 : T ≤ 200) (ht : t < T) (hi : ¬ (gI S 79 0 t) = 0) (hk : xon (xlk S (nI t)) = -1) {l : Nat} (hl : l < 30) (h0 : (gI S 83 0 l) = -1 ∧ (gI S 84 0 l) = -1) (h1 : ∀ j, j < l → ¬ ((gI S 83 0 j) = -1 ∧ (gI S 84 0 j) = -1)) : CC mX9_key 3 0 0 [xR (some (9, 0)), xI (nI t)] S (aI (nI l) (sI S 83 0 l (nI t))) := by
  refine CC_of mpX9_key rfl (Nat.le_of_ble_eq_true rfl) ?_
  have e0 : 0 ≤ nI t ∧ nI t ≤ (gI S 9 0 22) - 1 := by rw [hT]; exact (rng1 (by omega) (by omega)).mpr ht
  have ht2 : t < 200 := by omega
  refine E_aload_n dX9_key_0 rfl rfl ?_
  refine E_iload_n dX9_key_1 rfl rfl ?_
  refine E_callV (m2 := mX9_isTicket) dX9_key_2 kX9_185 mzX9_isTicket (c_isTicket _) rfl ⟨_, _, rfl⟩ rfl rfl (by decide) (xs8 (Nat.le_of_ble_eq_true rfl)) (by first | exact Nat.le_of_ble_eq_true rfl | omega) (by first | exact Nat.le_of_ble_eq_true rfl | omega) ?_
  rintro _ _ ⟨rfl, rfl⟩; rw [if_pos e0]
  refine E_if_eq (tgt := 26) dX9_key_5 (by decide) (fun h5 => absurd h5 (by decide)) (fun h5 => ?_)
  refine E_aload_n dX9_key_8 rfl rfl ?_
  refine E_getR dX9_key_9 fX9_92 rfl rfl rfl (rM_29 hM) ?_
  refine E_iload_n dX9_key_12 rfl rfl ?_
  refine E_zald dX9_key_13 rfl rfl (by decide) (lM_29 hM) (vin ht2 (by omega)) (vnat ht2 (by omega)) rfl ?_
  refine E_if_eq (tgt := 26) dX9_key_14 (by decide) (fun h14 => absurd h14 (hi)) (fun h14 => ?_)
  refine E_aload_n dX9_key_17 rfl rfl ?_
  refine E_iload_n dX9_key_18 rfl rfl ?_
  refine E_callV (m2 := mX9_lockerOf) dX9_key_19 kX9_210 mzX9_lockerOf (c_r_lockerOf hM (nI t)) rfl ⟨_, _, rfl⟩ rfl rfl (by decide) (xs8 (Nat.le_of_ble_eq_true rfl)) (by first | exact Nat.le_of_ble_eq_true rfl | omega) (by first | exact Nat.le_of_ble_eq_true rfl | omega) ?_
  rintro _ _ ⟨rfl, rfl⟩; rw [hk]
  refine E_iconst (v := -1) dX9_key_22 (by decide) ?_
  refine E_icmp_eq (tgt := 28) dX9_key_23 (by decide) (fun h23 => ?_) (fun h23 => absurd h23 (fun z => z rfl))
  refine E_iconst (v := 0) dX9_key_28 (by decide) ?_
  refine E_istore_n dX9_key_29 rfl (by decide) rfl ?_
  exact l_r_key_y hM (nI t) hl h0 h1 l 0 (by omega)
theorem c_r_key_f {S : xS} (hM : xShM S) {T t : Nat} (hT : (gI S 9 0 22) = nI T) (hT2 : T ≤ 200) (ht : t < T) (hi : ¬ (gI S 79 0 t) = 0) (hk : xon (xlk S (nI t)) = -1) (h1 : ∀ j, j < 30 → ¬ ((gI S 83 0 j) = -1 ∧ (gI S 84 0 j) = -1)) : CC mX9_key 3 0 0 [xR (some (9, 0)), xI (nI t)] S (aI (-1) S) := by
  refine CC_of mpX9_key rfl (Nat.le_of_ble_eq_true rfl) ?_
  have e0 : 0 ≤ nI t ∧ nI t ≤ (gI S 9 0 22) - 1 := by rw [hT]; exact (rng1 (by omega) (by omega)).mpr ht
  have ht2 : t < 200 := by omega
  refine E_aload_n dX9_key_0 rfl rfl ?_
  refine E_iload_n dX9_key_1 rfl rfl ?_
  refine E_callV (m2 := mX9_isTicket) dX9_key_2 kX9_185 mzX9_isTicket (c_isTicket _) rfl ⟨_, _, rfl⟩ rfl rfl (by decide) (xs8 (Nat.le_of_ble_eq_true rfl)) (by first | exact Nat.le_of_ble_eq_true rfl | omega) (by first | exact Nat.le_of_ble_eq_true rfl | omega) ?_
  rintro _ _ ⟨rfl, rfl⟩; rw [if_pos e0]
  refine E_if_eq (tgt := 26) dX9_key_5 (by decide) (fun h5 => absurd h5 (by decide)) (fun h5 => ?_)
  refine E_aload_n dX9_key_8 rfl rfl ?_
  refine E_getR dX9_key_9 fX9_92 rfl rfl rfl (rM_29 hM) ?_
  refine E_iload_n dX9_key_12 rfl rfl ?_
  refine E_zald dX9_key_13 rfl rfl (by decide) (lM_29 hM) (vin ht2 (by omega)) (vnat ht2 (by omega)) rfl ?_
  refine E_if_eq (tgt := 26) dX9_key_14 (by decide) (fun h14 => absurd h14 (hi)) (fun h14 => ?_)
  refine E_aload_n dX9_key_17 rfl rfl ?_
  refine E_iload_n dX9_key_18 rfl rfl ?_
  refine E_callV (m2 := mX9_lockerOf) dX9_key_19 kX9_210 mzX9_lockerOf (c_r_lockerOf hM (nI t)) rfl ⟨_, _, rfl⟩ rfl rfl (by decide) (xs8 (Nat.le_of_ble_eq_true rfl)) (by first | exact Nat.le_of_ble_eq_true rfl | omega) (by first | exact Nat.le_of_ble_eq_true rfl | omega) ?_
  rintro _ _ ⟨rfl, rfl⟩; rw [hk]
  refine E_iconst (v := -1) dX9_key_22 (by decide) ?_
  refine E_icmp_eq (tgt := 28) dX9_key_23 (by decide) (fun h23 => ?_) (fun h23 => absurd h23 (fun z => z rfl))
  refine E_iconst (v := 0) dX9_key_28 (by decide) ?_
  refine E_istore_n dX9_key_29 rfl (by decide) rfl ?_
  exact l_r_key_n hM (nI t) h1 30 0 rfl
theorem c_r_give_n {S : xS} (x : Int32) (h : ¬ (0 ≤ x ∧ x ≤ (gI S 9 0 22) - 1)) : CC mX9_give 3 0 0 [xR (some (9, 0)), xI x] S (aI (-1) S) := by
  refine CC_of mpX9_give rfl (Nat.le_of_ble_eq_true rfl) ?_
  refine E_aload_n dX9_give_0 rfl rfl ?_
  refine E_iload_n dX9_give_1 rfl rfl ?_
  refine E_callV (m2 := mX9_isTicket) dX9_give_2 kX9_185 mzX9_isTicket (c_isTicket _) rfl ⟨_, _, rfl⟩ rfl rfl (by decide) (xs8 (Nat.le_of_ble_eq_true rfl)) (by first | exact Nat.le_of_ble_eq_true rfl | omega) (by first | exact Nat.le_of_ble_eq_true rfl | omega) ?_
  rintro _ _ ⟨rfl, rfl⟩; rw [if_neg h]
  refine E_if_eq (tgt := 16) dX9_give_5 (by decide) (fun h5 => ?_) (fun h5 => absurd h5 (by decide))
  refine E_iconst (v := -1) dX9_give_16 (by decide) ?_
  refine E_istore_n dX9_give_17 rfl (by decide) rfl ?_
  refine E_iload_n dX9_give_18 rfl rfl ?_
  refine E_iconst (v := -1) dX9_give_19 (by decide) ?_
  refine E_icmp_eq (tgt := 30) dX9_give_20 (by decide) (fun h20 => ?_) (fun h20 => absurd h20 (by decide))
  refine E_iload_n dX9_give_30 rfl rfl ?_
  refine E_iret dX9_give_31 rfl rfl ?_
  exact ⟨rfl, rfl⟩
theorem c_r_give_o {S : xS} (hM : xShM S) {T t : Nat} (hT : (gI S 9 0 22) = nI T) (hT2 : T ≤ 200) (ht : t < T) (hk : xlk S (nI t) = none) : CC mX9_give 3 0 0 [xR (some (9, 0)), xI (nI t)] S (aI (-1) S) := by
  refine CC_of mpX9_give rfl (Nat.le_of_ble_eq_true rfl) ?_
  have e0 : 0 ≤ nI t ∧ nI t ≤ (gI S 9 0 22) - 1 := by rw [hT]; exact (rng1 (by omega) (by omega)).mpr ht
  have ht2 : t < 200 := by omega
  refine E_aload_n dX9_give_0 rfl rfl ?_
  refine E_iload_n dX9_give_1 rfl rfl ?_
  refine E_callV (m2 := mX9_isTicket) dX9_give_2 kX9_185 mzX9_isTicket (c_isTicket _) rfl ⟨_, _, rfl⟩ rfl rfl (by decide) (xs8 (Nat.le_of_ble_eq_true rfl)) (by first | exact Nat.le_of_ble_eq_true rfl | omega) (by first | exact Nat.le_of_ble_eq_true rfl | omega) ?_
  rintro _ _ ⟨rfl, rfl⟩; rw [if_pos e0]
  refine E_if_eq (tgt := 16) dX9_give_5 (by decide) (fun h5 => absurd h5 (by decide)) (fun h5 => ?_)
  refine E_aload_n dX9_give_8 rfl rfl ?_
  refine E_iload_n dX9_give_9 rfl rfl ?_
  refine E_callV (m2 := mX9_lockerOf) dX9_give_10 kX9_210 mzX9_lockerOf (c_r_lockerOf hM (nI t)) rfl ⟨_, _, rfl⟩ rfl rfl (by decide) (xs8 (Nat.le_of_ble_eq_true rfl)) (by first | exact Nat.le_of_ble_eq_true rfl | omega) (by first | exact Nat.le_of_ble_eq_true rfl | omega) ?_
  rintro _ _ ⟨rfl, rfl⟩; rw [hk]
  refine E_goto (tgt := 17) dX9_give_13 (by decide) ?_
  refine E_istore_n dX9_give_17 rfl (by decide) rfl ?_
  refine E_iload_n dX9_give_18 rfl rfl ?_
  refine E_iconst (v := -1) dX9_give_19 (by decide) ?_
  refine E_icmp_eq (tgt := 30) dX9_give_20 (by decide) (fun h20 => ?_) (fun h20 => absurd h20 (fun z => z rfl))
  refine E_iload_n dX9_give_30 rfl rfl ?_
  refine E_iret dX9_give_31 rfl rfl ?_
  exact ⟨rfl, rfl⟩
theorem c_r_give_s {S : xS} (hM : xShM S) {T t : Nat} (hT : (gI S 9 0 22) = nI T) (hT2 : T ≤ 200) (ht : t < T) {l : Nat} (hk : xlk S (nI t) = some l) : CC mX9_give 3 0 0 [xR (some (9, 0)), xI (nI t)] S (aI (nI l) (sI S 83 0 l (-1))) := by
  refine CC_of mpX9_give rfl (Nat.le_of_ble_eq_true rfl) ?_
  have e0 : 0 ≤ nI t ∧ nI t ≤ (gI S 9 0 22) - 1 := by rw [hT]; exact (rng1 (by omega) (by omega)).mpr ht
  have ht2 : t < 200 := by omega
  have hl := (xfi_some hk).1
  have hne : ¬ nI l = -1 := fun z => by rw [fa_eq, nI_toInt (by omega)] at z; rw [show (-1 : Int32).toInt = -1 from by decide] at z; omega
  refine E_aload_n dX9_give_0 rfl rfl ?_
  refine E_iload_n dX9_give_1 rfl rfl ?_
  refine E_callV (m2 := mX9_isTicket) dX9_give_2 kX9_185 mzX9_isTicket (c_isTicket _) rfl ⟨_, _, rfl⟩ rfl rfl (by decide) (xs8 (Nat.le_of_ble_eq_true rfl)) (by first | exact Nat.le_of_ble_eq_true rfl | omega) (by first | exact Nat.le_of_ble_eq_true rfl | omega) ?_
  rintro _ _ ⟨rfl, rfl⟩; rw [if_pos e0]
  refine E_if_eq (tgt := 16) dX9_give_5 (by decide) (fun h5 => absurd h5 (by decide)) (fun h5 => ?_)
  refine E_aload_n dX9_give_8 rfl rfl ?_
  refine E_iload_n dX9_give_9 rfl rfl ?_
  refine E_callV (m2 := mX9_lockerOf) dX9_give_10 kX9_210 mzX9_lockerOf (c_r_lockerOf hM (nI t)) rfl ⟨_, _, rfl⟩ rfl rfl (by decide) (xs8 (Nat.le_of_ble_eq_true rfl)) (by first | exact Nat.le_of_ble_eq_true rfl | omega) (by first | exact Nat.le_of_ble_eq_true rfl | omega) ?_
  rintro _ _ ⟨rfl, rfl⟩; rw [hk]
  refine E_goto (tgt := 17) dX9_give_13 (by decide) ?_
  refine E_istore_n dX9_give_17 rfl (by decide) rfl ?_
  refine E_iload_n dX9_give_18 rfl rfl ?_
  refine E_iconst (v := -1) dX9_give_19 (by decide) ?_
  refine E_icmp_eq (tgt := 30) dX9_give_20 (by decide) (fun h20 => absurd h20 (hne)) (fun h20 => ?_)
  refine E_aload_n dX9_give_23 rfl rfl ?_
  refine E_getR dX9_give_24 fX9_104 rfl rfl rfl (rM_33 hM) ?_
  refine E_iload_n dX9_give_27 rfl rfl ?_
  refine E_iconst (v := -1) dX9_give_28 (by decide) ?_
  refine E_iast dX9_give_29 rfl rfl (by decide) (lM_33 hM) (vin hl (by omega)) (vnat hl (by omega)) ?_
  refine E_iload_n dX9_give_30 rfl rfl ?_
  refine E_iret dX9_give_31 rfl rfl ?_
  exact ⟨rfl, rfl⟩
theorem c_r_mend_n {S : xS} (x : Int32) (h : ¬ (0 ≤ x ∧ x ≤ 29)) : CC mX9_mend 3 0 0 [xR (some (9, 0)), xI x] S (aI (-1) S) := by
  refine CC_of mpX9_mend rfl (Nat.le_of_ble_eq_true rfl) ?_
  refine E_iload_n dX9_mend_0 rfl rfl ?_
  refine E_iconst (v := 0) dX9_mend_1 (by decide) ?_
  refine E_bipush (v := 29) dX9_mend_2 (by decide) ?_
  refine E_callS (m2 := mX9_in) dX9_mend_4 kX9_141 mzX9_in (c_X9_in _ _ _) rfl rfl (by decide) (xs8 (Nat.le_of_ble_eq_true rfl)) (by first | exact Nat.le_of_ble_eq_true rfl | omega) (by first | exact Nat.le_of_ble_eq_true rfl | omega) ?_
  rintro _ _ ⟨rfl, rfl⟩; rw [if_neg h]
  refine E_if_eq (tgt := 20) dX9_mend_7 (by decide) (fun h7 => ?_) (fun h7 => absurd h7 (by decide))
  refine E_iconst (v := -1) dX9_mend_20 (by decide) ?_
  refine E_iret dX9_mend_21 rfl rfl ?_
  exact ⟨rfl, rfl⟩
theorem c_r_mend_o {S : xS} (hM : xShM S) {l : Nat} (hl : l < 30) (h : (gI S 84 0 l) = -1) : CC mX9_mend 3 0 0 [xR (some (9, 0)), xI (nI l)] S (aI (-1) S) := by
  refine CC_of mpX9_mend rfl (Nat.le_of_ble_eq_true rfl) ?_
  have e1 : (0 : Int32) ≤ nI l ∧ nI l ≤ 29 := ⟨nI_le (a := 0) (by omega) (by omega), nI_le (b := 29) (by omega) (by omega)⟩
  refine E_iload_n dX9_mend_0 rfl rfl ?_
  refine E_iconst (v := 0) dX9_mend_1 (by decide) ?_
  refine E_bipush (v := 29) dX9_mend_2 (by decide) ?_
  refine E_callS (m2 := mX9_in) dX9_mend_4 kX9_141 mzX9_in (c_X9_in _ _ _) rfl rfl (by decide) (xs8 (Nat.le_of_ble_eq_true rfl)) (by first | exact Nat.le_of_ble_eq_true rfl | omega) (by first | exact Nat.le_of_ble_eq_true rfl | omega) ?_
  rintro _ _ ⟨rfl, rfl⟩; rw [if_pos e1]
  refine E_if_eq (tgt := 20) dX9_mend_7 (by decide) (fun h7 => absurd h7 (by decide)) (fun h7 => ?_)
  refine E_aload_n dX9_mend_10 rfl rfl ?_
  refine E_getR dX9_mend_11 fX9_107 rfl rfl rfl (rM_34 hM) ?_
  refine E_iload_n dX9_mend_14 rfl rfl ?_
  refine E_iald dX9_mend_15 rfl rfl (by decide) (lM_34 hM) (vin hl (by omega)) (vnat hl (by omega)) rfl ?_
  refine E_iconst (v := -1) dX9_mend_16 (by decide) ?_
  refine E_icmp_ne (tgt := 22) dX9_mend_17 (by decide) (fun h17 => absurd h17 (fun z => z h)) (fun h17 => ?_)
  refine E_iconst (v := -1) dX9_mend_20 (by decide) ?_
  refine E_iret dX9_mend_21 rfl rfl ?_
  exact ⟨rfl, rfl⟩
theorem c_r_mend_s {S : xS} (hM : xShM S) {l : Nat} (hl : l < 30) (h : ¬ (gI S 84 0 l) = -1) : CC mX9_mend 3 0 0 [xR (some (9, 0)), xI (nI l)] S (aI (gI S 84 0 l) (sI S 84 0 l (-1))) := by
  refine CC_of mpX9_mend rfl (Nat.le_of_ble_eq_true rfl) ?_
  have e1 : (0 : Int32) ≤ nI l ∧ nI l ≤ 29 := ⟨nI_le (a := 0) (by omega) (by omega), nI_le (b := 29) (by omega) (by omega)⟩
  refine E_iload_n dX9_mend_0 rfl rfl ?_
  refine E_iconst (v := 0) dX9_mend_1 (by decide) ?_
  refine E_bipush (v := 29) dX9_mend_2 (by decide) ?_
  refine E_callS (m2 := mX9_in) dX9_mend_4 kX9_141 mzX9_in (c_X9_in _ _ _) rfl rfl (by decide) (xs8 (Nat.le_of_ble_eq_true rfl)) (by first | exact Nat.le_of_ble_eq_true rfl | omega) (by first | exact Nat.le_of_ble_eq_true rfl | omega) ?_
  rintro _ _ ⟨rfl, rfl⟩; rw [if_pos e1]
  refine E_if_eq (tgt := 20) dX9_mend_7 (by decide) (fun h7 => absurd h7 (by decide)) (fun h7 => ?_)
  refine E_aload_n dX9_mend_10 rfl rfl ?_
  refine E_getR dX9_mend_11 fX9_107 rfl rfl rfl (rM_34 hM) ?_
  refine E_iload_n dX9_mend_14 rfl rfl ?_
  refine E_iald dX9_mend_15 rfl rfl (by decide) (lM_34 hM) (vin hl (by omega)) (vnat hl (by omega)) rfl ?_
  refine E_iconst (v := -1) dX9_mend_16 (by decide) ?_
  refine E_icmp_ne (tgt := 22) dX9_mend_17 (by decide) (fun h17 => ?_) (fun h17 => absurd h17 (h))
  refine E_aload_n dX9_mend_22 rfl rfl ?_
  refine E_getR dX9_mend_23 fX9_107 rfl rfl rfl (rM_34 hM) ?_
  refine E_iload_n dX9_mend_26 rfl rfl ?_
  refine E_iald dX9_mend_27 rfl rfl (by decide) (lM_34 hM) (vin hl (by omega)) (vnat hl (by omega)) rfl ?_
  refine E_istore_n dX9_mend_28 rfl (by decide) rfl ?_
  refine E_aload_n dX9_mend_29 rfl rfl ?_
  refine E_getR dX9_mend_30 fX9_107 rfl rfl rfl (rM_34 hM) ?_
  refine E_iload_n dX9_mend_33 rfl rfl ?_
  refine E_iconst (v := -1) dX9_mend_34 (by decide) ?_
  refine E_iast dX9_mend_35 rfl rfl (by decide) (lM_34 hM) (vin hl (by omega)) (vnat hl (by omega)) ?_
  refine E_iload_n dX9_mend_36 rfl rfl ?_
  refine E_iret dX9_mend_37 rfl rfl ?_
  exact ⟨rfl, rfl⟩
theorem c_r_locker_n {S : xS} (x : Int32) (h : ¬ (0 ≤ x ∧ x ≤ 29)) : CC mX9_locker 3 0 0 [xR (some (9, 0)), xI x] S (aI (-3) S) := by
  refine CC_of mpX9_locker rfl (Nat.le_of_ble_eq_true rfl) ?_
  refine E_iload_n dX9_locker_0 rfl rfl ?_
  refine E_iconst (v := 0) dX9_locker_1 (by decide) ?_
  refine E_bipush (v := 29) dX9_locker_2 (by decide) ?_
  refine E_callS (m2 := mX9_in) dX9_locker_4 kX9_141 mzX9_in (c_X9_in _ _ _) rfl rfl (by decide) (xs8 (Nat.le_of_ble_eq_true rfl)) (by first | exact Nat.le_of_ble_eq_true rfl | omega) (by first | exact Nat.le_of_ble_eq_true rfl | omega) ?_
  rintro _ _ ⟨rfl, rfl⟩; rw [if_neg h]
  refine E_if_ne (tgt := 15) dX9_locker_7 (by decide) (fun h7 => absurd h7 (by decide)) (fun h7 => ?_)
  refine E_bipush (v := -3) dX9_locker_10 (by decide) ?_
  refine E_goto (tgt := 36) dX9_locker_12 (by decide) ?_
  refine E_iret dX9_locker_36 rfl rfl ?_
  exact ⟨rfl, rfl⟩
theorem c_r_locker_s {S : xS} (hM : xShM S) {l : Nat} (hl : l < 30) : CC mX9_locker 3 0 0 [xR (some (9, 0)), xI (nI l)] S (aI (if (gI S 84 0 l) = -1 then (gI S 83 0 l) else -2) S) := by
  refine CC_of mpX9_locker rfl (Nat.le_of_ble_eq_true rfl) ?_
  have e1 : (0 : Int32) ≤ nI l ∧ nI l ≤ 29 := ⟨nI_le (a := 0) (by omega) (by omega), nI_le (b := 29) (by omega) (by omega)⟩
  refine E_iload_n dX9_locker_0 rfl rfl ?_
  refine E_iconst (v := 0) dX9_locker_1 (by decide) ?_
  refine E_bipush (v := 29) dX9_locker_2 (by decide) ?_
  refine E_callS (m2 := mX9_in) dX9_locker_4 kX9_141 mzX9_in (c_X9_in _ _ _) rfl rfl (by decide) (xs8 (Nat.le_of_ble_eq_true rfl)) (by first | exact Nat.le_of_ble_eq_true rfl | omega) (by first | exact Nat.le_of_ble_eq_true rfl | omega) ?_
  rintro _ _ ⟨rfl, rfl⟩; rw [if_pos e1]
  refine E_if_ne (tgt := 15) dX9_locker_7 (by decide) (fun h7 => ?_) (fun h7 => absurd h7 (by decide))
  refine E_aload_n dX9_locker_15 rfl rfl ?_
  refine E_getR dX9_locker_16 fX9_107 rfl rfl rfl (rM_34 hM) ?_
  refine E_iload_n dX9_locker_19 rfl rfl ?_
  refine E_iald dX9_locker_20 rfl rfl (by decide) (lM_34 hM) (vin hl (by omega)) (vnat hl (by omega)) rfl ?_
  refine E_iconst (v := -1) dX9_locker_21 (by decide) ?_
  refine E_icmp_eq (tgt := 30) dX9_locker_22 (by decide) (fun h22 => ?_) (fun h22 => ?_)
  · refine E_aload_n dX9_locker_30 rfl rfl ?_
    refine E_getR dX9_locker_31 fX9_104 rfl rfl rfl (rM_33 hM) ?_
    refine E_iload_n dX9_locker_34 rfl rfl ?_
    refine E_iald dX9_locker_35 rfl rfl (by decide) (lM_33 hM) (vin hl (by omega)) (vnat hl (by omega)) rfl ?_
    refine E_iret dX9_locker_36 rfl rfl ?_
    refine ⟨congrArg (fun z => some (xI z)) ?_, rfl⟩; split <;> first | rfl | contradiction
  · refine E_bipush (v := -2) dX9_locker_25 (by decide) ?_
    refine E_goto (tgt := 36) dX9_locker_27 (by decide) ?_
    refine E_iret dX9_locker_36 rfl rfl ?_
    refine ⟨congrArg (fun z => some (xI z)) ?_, rfl⟩; split <;> first | rfl | contradiction
theorem c_r_price_n {S : xS} (x y : Int32) (h : ¬ ((0 ≤ x ∧ x ≤ 23) ∧ 0 ≤ y ∧ y ≤ 10000)) : CC mX9_price 3 0 0 [xR (some (9, 0)), xI x, xI y] S (aI 0 S) := by
  refine CC_of mpX9_price rfl (Nat.le_of_ble_eq_true rfl) ?_
  refine E_iload_n dX9_price_0 rfl rfl ?_
  refine E_iconst (v := 0) dX9_price_1 (by decide) ?_
  refine E_bipush (v := 23) dX9_price_2 (by decide) ?_
  refine E_callS (m2 := mX9_in) dX9_price_4 kX9_141 mzX9_in (c_X9_in _ _ _) rfl rfl (by decide) (xs8 (Nat.le_of_ble_eq_true rfl)) (by first | exact Nat.le_of_ble_eq_true rfl | omega) (by first | exact Nat.le_of_ble_eq_true rfl | omega) ?_
  rintro _ _ ⟨rfl, rfl⟩
  refine E_if_eq (tgt := 21) dX9_price_7 (by decide) (fun h7 => ?_) (fun h7 => ?_)
  · refine E_iconst (v := 0) dX9_price_21 (by decide) ?_
    refine E_iret dX9_price_22 rfl rfl ?_
    exact ⟨rfl, rfl⟩
  · refine E_iload_n dX9_price_10 rfl rfl ?_
    refine E_iconst (v := 0) dX9_price_11 (by decide) ?_
    refine E_sipush (v := 10000) dX9_price_12 (by decide) ?_
    refine E_callS (m2 := mX9_in) dX9_price_15 kX9_141 mzX9_in (c_X9_in _ _ _) rfl rfl (by decide) (xs8 (Nat.le_of_ble_eq_true rfl)) (by first | exact Nat.le_of_ble_eq_true rfl | omega) (by first | exact Nat.le_of_ble_eq_true rfl | omega) ?_
    rintro _ _ ⟨rfl, rfl⟩
    refine E_if_ne (tgt := 23) dX9_price_18 (by decide) (fun h18 => ?_) (fun h18 => ?_)
    · exact absurd ⟨ite1 h7, ite1 h18⟩ h
    · refine E_iconst (v := 0) dX9_price_21 (by decide) ?_
      refine E_iret dX9_price_22 rfl rfl ?_
      exact ⟨rfl, rfl⟩
theorem c_r_price_s {S : xS} (hM : xShM S) {j : Nat} (y : Int32) (hj : j < 24) (e2 : 0 ≤ y ∧ y ≤ 10000) : CC mX9_price 3 0 0 [xR (some (9, 0)), xI (nI j), xI y] S (aI 1 (sI S 94 0 j y)) := by
  refine CC_of mpX9_price rfl (Nat.le_of_ble_eq_true rfl) ?_
  have e1 : (0 : Int32) ≤ nI j ∧ nI j ≤ 23 := ⟨nI_le (a := 0) (by omega) (by omega), nI_le (b := 23) (by omega) (by omega)⟩
  refine E_iload_n dX9_price_0 rfl rfl ?_
  refine E_iconst (v := 0) dX9_price_1 (by decide) ?_
  refine E_bipush (v := 23) dX9_price_2 (by decide) ?_
  refine E_callS (m2 := mX9_in) dX9_price_4 kX9_141 mzX9_in (c_X9_in _ _ _) rfl rfl (by decide) (xs8 (Nat.le_of_ble_eq_true rfl)) (by first | exact Nat.le_of_ble_eq_true rfl | omega) (by first | exact Nat.le_of_ble_eq_true rfl | omega) ?_
  rintro _ _ ⟨rfl, rfl⟩; rw [if_pos e1]
  refine E_if_eq (tgt := 21) dX9_price_7 (by decide) (fun h7 => absurd h7 (by decide)) (fun h7 => ?_)
  refine E_iload_n dX9_price_10 rfl rfl ?_
  refine E_iconst (v := 0) dX9_price_11 (by decide) ?_
  refine E_sipush (v := 10000) dX9_price_12 (by decide) ?_
  refine E_callS (m2 := mX9_in) dX9_price_15 kX9_141 mzX9_in (c_X9_in _ _ _) rfl rfl (by decide) (xs8 (Nat.le_of_ble_eq_true rfl)) (by first | exact Nat.le_of_ble_eq_true rfl | omega) (by first | exact Nat.le_of_ble_eq_true rfl | omega) ?_
  rintro _ _ ⟨rfl, rfl⟩; rw [if_pos e2]
  refine E_if_ne (tgt := 23) dX9_price_18 (by decide) (fun h18 => ?_) (fun h18 => absurd h18 (by decide))
  refine E_aload_n dX9_price_23 rfl rfl ?_
  refine E_getR dX9_price_24 fX9_135 rfl rfl rfl (rM_44 hM) ?_
  refine E_iload_n dX9_price_27 rfl rfl ?_
  refine E_iload_n dX9_price_28 rfl rfl ?_
  refine E_iast dX9_price_29 rfl rfl (by decide) (lM_44 hM) (vin hj (by omega)) (vnat hj (by omega)) ?_
  refine E_iconst (v := 1) dX9_price_30 (by decide) ?_
  refine E_iret dX9_price_31 rfl rfl ?_
  exact ⟨rfl, rfl⟩
theorem c_r_hour_n {S : xS} (x : Int32) (h : ¬ (¬ (gI S 9 0 46) = 0 ∧ 0 ≤ x ∧ x ≤ 24)) : CC mX9_hour 3 0 0 [xR (some (9, 0)), xI x] S (aI (-1) S) := by
  refine CC_of mpX9_hour rfl (Nat.le_of_ble_eq_true rfl) ?_
  refine E_aload_n dX9_hour_0 rfl rfl ?_
  refine E_getI dX9_hour_1 fX9_219 rfl rfl rfl rfl ?_
  refine E_if_eq (tgt := 17) dX9_hour_4 (by decide) (fun h4 => ?_) (fun h4 => ?_)
  · refine E_iconst (v := -1) dX9_hour_17 (by decide) ?_
    refine E_iret dX9_hour_18 rfl rfl ?_
    exact ⟨rfl, rfl⟩
  · refine E_iload_n dX9_hour_7 rfl rfl ?_
    refine E_iconst (v := 0) dX9_hour_8 (by decide) ?_
    refine E_bipush (v := 24) dX9_hour_9 (by decide) ?_
    refine E_callS (m2 := mX9_in) dX9_hour_11 kX9_141 mzX9_in (c_X9_in _ _ _) rfl rfl (by decide) (xs8 (Nat.le_of_ble_eq_true rfl)) (by first | exact Nat.le_of_ble_eq_true rfl | omega) (by first | exact Nat.le_of_ble_eq_true rfl | omega) ?_
    rintro _ _ ⟨rfl, rfl⟩
    refine E_if_ne (tgt := 19) dX9_hour_14 (by decide) (fun h14 => ?_) (fun h14 => ?_)
    · exact absurd ⟨h4, ite1 h14⟩ h
    · refine E_iconst (v := -1) dX9_hour_17 (by decide) ?_
      refine E_iret dX9_hour_18 rfl rfl ?_
      exact ⟨rfl, rfl⟩
theorem c_r_hour_a {S : xS} (hM : xShM S) (h : ¬ (gI S 9 0 46) = 0) : CC mX9_hour 3 0 0 [xR (some (9, 0)), xI 24] S (aI (gI S 9 0 47) S) := by
  refine CC_of mpX9_hour rfl (Nat.le_of_ble_eq_true rfl) ?_
  refine E_aload_n dX9_hour_0 rfl rfl ?_
  refine E_getI dX9_hour_1 fX9_219 rfl rfl rfl rfl ?_
  refine E_if_eq (tgt := 17) dX9_hour_4 (by decide) (fun h4 => absurd h4 (h)) (fun h4 => ?_)
  refine E_iload_n dX9_hour_7 rfl rfl ?_
  refine E_iconst (v := 0) dX9_hour_8 (by decide) ?_
  refine E_bipush (v := 24) dX9_hour_9 (by decide) ?_
  refine E_callS (m2 := mX9_in) dX9_hour_11 kX9_141 mzX9_in (c_X9_in _ _ _) rfl rfl (by decide) (xs8 (Nat.le_of_ble_eq_true rfl)) (by first | exact Nat.le_of_ble_eq_true rfl | omega) (by first | exact Nat.le_of_ble_eq_true rfl | omega) ?_
  rintro _ _ ⟨rfl, rfl⟩; rw [if_pos (by decide : (0 : Int32) ≤ 24 ∧ (24 : Int32) ≤ 24)]
  refine E_if_ne (tgt := 19) dX9_hour_14 (by decide) (fun h14 => ?_) (fun h14 => absurd h14 (by decide))
  refine E_iload_n dX9_hour_19 rfl rfl ?_
  refine E_bipush (v := 24) dX9_hour_20 (by decide) ?_
  refine E_icmp_ne (tgt := 32) dX9_hour_22 (by decide) (fun h22 => absurd h22 (fun z => z rfl)) (fun h22 => ?_)
  refine E_aload_n dX9_hour_25 rfl rfl ?_
  refine E_getI dX9_hour_26 fX9_223 rfl rfl rfl rfl ?_
  refine E_goto (tgt := 46) dX9_hour_29 (by decide) ?_
  refine E_iret dX9_hour_46 rfl rfl ?_
  exact ⟨rfl, rfl⟩
theorem c_r_hour_s {S : xS} (hM : xShM S) {j : Nat} (hj : j < 24) (h : ¬ (gI S 9 0 46) = 0) : CC mX9_hour 3 0 0 [xR (some (9, 0)), xI (nI j)] S (aI (if (gI S 95 0 j) = 0 then 0 else 1) S) := by
  refine CC_of mpX9_hour rfl (Nat.le_of_ble_eq_true rfl) ?_
  have e1 : (0 : Int32) ≤ nI j ∧ nI j ≤ 24 := ⟨nI_le (a := 0) (by omega) (by omega), nI_le (b := 24) (by omega) (by omega)⟩
  have e2 : ¬ nI j = 24 := fun z => by have := (nI_eq (b := 24) (by omega) (by omega)).mp z; omega
  refine E_aload_n dX9_hour_0 rfl rfl ?_
  refine E_getI dX9_hour_1 fX9_219 rfl rfl rfl rfl ?_
  refine E_if_eq (tgt := 17) dX9_hour_4 (by decide) (fun h4 => absurd h4 (h)) (fun h4 => ?_)
  refine E_iload_n dX9_hour_7 rfl rfl ?_
  refine E_iconst (v := 0) dX9_hour_8 (by decide) ?_
  refine E_bipush (v := 24) dX9_hour_9 (by decide) ?_
  refine E_callS (m2 := mX9_in) dX9_hour_11 kX9_141 mzX9_in (c_X9_in _ _ _) rfl rfl (by decide) (xs8 (Nat.le_of_ble_eq_true rfl)) (by first | exact Nat.le_of_ble_eq_true rfl | omega) (by first | exact Nat.le_of_ble_eq_true rfl | omega) ?_
  rintro _ _ ⟨rfl, rfl⟩; rw [if_pos e1]
  refine E_if_ne (tgt := 19) dX9_hour_14 (by decide) (fun h14 => ?_) (fun h14 => absurd h14 (by decide))
  refine E_iload_n dX9_hour_19 rfl rfl ?_
  refine E_bipush (v := 24) dX9_hour_20 (by decide) ?_
  refine E_icmp_ne (tgt := 32) dX9_hour_22 (by decide) (fun h22 => ?_) (fun h22 => absurd h22 (e2))
  refine E_aload_n dX9_hour_32 rfl rfl ?_
  refine E_getR dX9_hour_33 fX9_138 rfl rfl rfl (rM_45 hM) ?_
  refine E_iload_n dX9_hour_36 rfl rfl ?_
  refine E_zald dX9_hour_37 rfl rfl (by decide) (lM_45 hM) (vin hj (by omega)) (vnat hj (by omega)) rfl ?_
  refine E_if_eq (tgt := 45) dX9_hour_38 (by decide) (fun h38 => ?_) (fun h38 => ?_)
  · refine E_iconst (v := 0) dX9_hour_45 (by decide) ?_
    refine E_iret dX9_hour_46 rfl rfl ?_
    refine ⟨congrArg (fun z => some (xI z)) ?_, rfl⟩; split <;> first | rfl | contradiction
  · refine E_iconst (v := 1) dX9_hour_41 (by decide) ?_
    refine E_goto (tgt := 46) dX9_hour_42 (by decide) ?_
    refine E_iret dX9_hour_46 rfl rfl ?_
    refine ⟨congrArg (fun z => some (xI z)) ?_, rfl⟩; split <;> first | rfl | contradiction
