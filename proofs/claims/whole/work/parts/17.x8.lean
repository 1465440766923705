/-! BathHouse: what its calls share -/
def xpl (S : xS) (p : Int32) : Option (Nat × Nat) := if 0 ≤ p ∧ p ≤ 3 then gR S 10 0 p.toNatClampNeg else none
def xtl (S : xS) (t : Int32) : Option (Nat × Nat) := if 0 ≤ t ∧ t ≤ 199 then gR S 11 0 t.toNatClampNeg else none
def xcl (S : xS) (c : Int32) : Option (Nat × Nat) := if 0 ≤ c ∧ c ≤ 19 then gR S 12 0 c.toNatClampNeg else none
theorem c_poolOf {S : xS} (hX : xShX S) (p : Int32) {r : Option (Nat × Nat)} (h : xpl S p = r) : CC mX8_poolOf 2 0 0 [xR (some (8, 0)), xI p] S (aR r S) := by
  subst h
  exact c_X8_poolOf hX p
theorem c_ticketOf {S : xS} (hX : xShX S) (p : Int32) {r : Option (Nat × Nat)} (h : xtl S p = r) : CC mX8_ticketOf 2 0 0 [xR (some (8, 0)), xI p] S (aR r S) := by
  subst h
  refine CC_of mpX8_ticketOf rfl (Nat.le_of_ble_eq_true rfl) ?_
  unfold xtl
  by_cases hp : 0 ≤ p ∧ p ≤ 199
  · rw [if_pos hp]
    obtain ⟨j, hj, rfl⟩ := nI_of2 (n := 199) rfl (Int32.not_lt.mpr hp.1) hp.2
    refine E_iload_n dX8_ticketOf_0 rfl rfl ?_
    refine E_iconst (v := 0) dX8_ticketOf_1 (by decide) ?_
    refine E_sipush (v := 199) dX8_ticketOf_2 (by decide) ?_
    refine E_callS (m2 := mX8_isWithin) dX8_ticketOf_5 kX8_48 mzX8_isWithin (c_X8_isWithin _ _ _) rfl rfl (by decide) (xs8 (Nat.le_of_ble_eq_true rfl)) (by first | exact Nat.le_of_ble_eq_true rfl | omega) (by first | exact Nat.le_of_ble_eq_true rfl | omega) ?_
    rintro _ _ ⟨rfl, rfl⟩; rw [if_pos hp]
    refine E_if_eq (tgt := 20) dX8_ticketOf_8 (by decide) (fun h8 => absurd h8 (by decide)) (fun h8 => ?_)
    refine E_aload_n dX8_ticketOf_11 rfl rfl ?_
    refine E_getR dX8_ticketOf_12 fX8_17 rfl rfl rfl (rX_8_1 hX) ?_
    refine E_iload_n dX8_ticketOf_15 rfl rfl ?_
    refine E_aald dX8_ticketOf_16 rfl rfl (by decide) (lX_11 hX) (vin (by omega : j < 200) (by omega)) (vnat (by omega : j < 200) (by omega)) rfl ?_
    refine E_goto (tgt := 21) dX8_ticketOf_17 (by decide) ?_
    refine E_aret dX8_ticketOf_21 rfl (Or.inl ⟨_, rfl⟩) ?_
    rw [vnat (by omega : j < 200) (by decide)]; exact ⟨rfl, rfl⟩
  · rw [if_neg hp]
    refine E_iload_n dX8_ticketOf_0 rfl rfl ?_
    refine E_iconst (v := 0) dX8_ticketOf_1 (by decide) ?_
    refine E_sipush (v := 199) dX8_ticketOf_2 (by decide) ?_
    refine E_callS (m2 := mX8_isWithin) dX8_ticketOf_5 kX8_48 mzX8_isWithin (c_X8_isWithin _ _ _) rfl rfl (by decide) (xs8 (Nat.le_of_ble_eq_true rfl)) (by first | exact Nat.le_of_ble_eq_true rfl | omega) (by first | exact Nat.le_of_ble_eq_true rfl | omega) ?_
    rintro _ _ ⟨rfl, rfl⟩; rw [if_neg hp]
    refine E_if_eq (tgt := 20) dX8_ticketOf_8 (by decide) (fun h8 => ?_) (fun h8 => absurd h8 (by decide))
    refine E_null dX8_ticketOf_20 ?_
    refine E_aret dX8_ticketOf_21 rfl (Or.inl ⟨_, rfl⟩) ?_
    exact ⟨rfl, rfl⟩
theorem c_clubOf {S : xS} (hX : xShX S) (p : Int32) {r : Option (Nat × Nat)} (h : xcl S p = r) : CC mX8_clubOf 2 0 0 [xR (some (8, 0)), xI p] S (aR r S) := by
  subst h
  refine CC_of mpX8_clubOf rfl (Nat.le_of_ble_eq_true rfl) ?_
  unfold xcl
  by_cases hp : 0 ≤ p ∧ p ≤ 19
  · rw [if_pos hp]
    obtain ⟨j, hj, rfl⟩ := nI_of2 (n := 19) rfl (Int32.not_lt.mpr hp.1) hp.2
    refine E_iload_n dX8_clubOf_0 rfl rfl ?_
    refine E_iconst (v := 0) dX8_clubOf_1 (by decide) ?_
    refine E_bipush (v := 19) dX8_clubOf_2 (by decide) ?_
    refine E_callS (m2 := mX8_isWithin) dX8_clubOf_4 kX8_48 mzX8_isWithin (c_X8_isWithin _ _ _) rfl rfl (by decide) (xs8 (Nat.le_of_ble_eq_true rfl)) (by first | exact Nat.le_of_ble_eq_true rfl | omega) (by first | exact Nat.le_of_ble_eq_true rfl | omega) ?_
    rintro _ _ ⟨rfl, rfl⟩; rw [if_pos hp]
    refine E_if_eq (tgt := 19) dX8_clubOf_7 (by decide) (fun h7 => absurd h7 (by decide)) (fun h7 => ?_)
    refine E_aload_n dX8_clubOf_10 rfl rfl ?_
    refine E_getR dX8_clubOf_11 fX8_23 rfl rfl rfl (rX_8_2 hX) ?_
    refine E_iload_n dX8_clubOf_14 rfl rfl ?_
    refine E_aald dX8_clubOf_15 rfl rfl (by decide) (lX_12 hX) (vin (by omega : j < 20) (by omega)) (vnat (by omega : j < 20) (by omega)) rfl ?_
    refine E_goto (tgt := 20) dX8_clubOf_16 (by decide) ?_
    refine E_aret dX8_clubOf_20 rfl (Or.inl ⟨_, rfl⟩) ?_
    rw [vnat (by omega : j < 20) (by decide)]; exact ⟨rfl, rfl⟩
  · rw [if_neg hp]
    refine E_iload_n dX8_clubOf_0 rfl rfl ?_
    refine E_iconst (v := 0) dX8_clubOf_1 (by decide) ?_
    refine E_bipush (v := 19) dX8_clubOf_2 (by decide) ?_
    refine E_callS (m2 := mX8_isWithin) dX8_clubOf_4 kX8_48 mzX8_isWithin (c_X8_isWithin _ _ _) rfl rfl (by decide) (xs8 (Nat.le_of_ble_eq_true rfl)) (by first | exact Nat.le_of_ble_eq_true rfl | omega) (by first | exact Nat.le_of_ble_eq_true rfl | omega) ?_
    rintro _ _ ⟨rfl, rfl⟩; rw [if_neg hp]
    refine E_if_eq (tgt := 19) dX8_clubOf_7 (by decide) (fun h7 => ?_) (fun h7 => absurd h7 (by decide))
    refine E_null dX8_clubOf_19 ?_
    refine E_aret dX8_clubOf_20 rfl (Or.inl ⟨_, rfl⟩) ?_
    exact ⟨rfl, rfl⟩
theorem c_thingOf_n {S : xS} (hX : xShX S) (p i : Int32) (h : xpl S p = none) : CC mX8_thingOf 3 0 0 [xR (some (8, 0)), xI p, xI i] S (aR none S) := by
  refine CC_of mpX8_thingOf rfl (Nat.le_of_ble_eq_true rfl) ?_
  refine E_aload_n dX8_thingOf_0 rfl rfl ?_
  refine E_iload_n dX8_thingOf_1 rfl rfl ?_
  refine E_callV (m2 := mX8_poolOf) dX8_thingOf_2 kX8_58 mzX8_poolOf (c_poolOf hX p h) rfl ⟨_, _, rfl⟩ rfl rfl (by decide) (xs8 (Nat.le_of_ble_eq_true rfl)) (by first | exact Nat.le_of_ble_eq_true rfl | omega) (by first | exact Nat.le_of_ble_eq_true rfl | omega) ?_
  rintro _ _ ⟨rfl, rfl⟩
  refine E_astore_n dX8_thingOf_5 rfl (by decide) rfl ?_
  refine E_aload_n dX8_thingOf_6 rfl rfl ?_
  refine E_ifnull (tgt := 28) dX8_thingOf_7 (by decide) (fun h7 => ?_) (fun q7 h7 => absurd h7 (by intro z; cases z))
  refine E_null dX8_thingOf_28 ?_
  refine E_aret dX8_thingOf_29 rfl (Or.inl ⟨_, rfl⟩) ?_
  exact ⟨rfl, rfl⟩
theorem c_thingOf_o {S : xS} (hX : xShX S) (p i : Int32) {P : Nat} (h : xpl S p = some (3, P)) (hi : ¬ (0 ≤ i ∧ i ≤ 2)) : CC mX8_thingOf 3 0 0 [xR (some (8, 0)), xI p, xI i] S (aR none S) := by
  refine CC_of mpX8_thingOf rfl (Nat.le_of_ble_eq_true rfl) ?_
  refine E_aload_n dX8_thingOf_0 rfl rfl ?_
  refine E_iload_n dX8_thingOf_1 rfl rfl ?_
  refine E_callV (m2 := mX8_poolOf) dX8_thingOf_2 kX8_58 mzX8_poolOf (c_poolOf hX p h) rfl ⟨_, _, rfl⟩ rfl rfl (by decide) (xs8 (Nat.le_of_ble_eq_true rfl)) (by first | exact Nat.le_of_ble_eq_true rfl | omega) (by first | exact Nat.le_of_ble_eq_true rfl | omega) ?_
  rintro _ _ ⟨rfl, rfl⟩
  refine E_astore_n dX8_thingOf_5 rfl (by decide) rfl ?_
  refine E_aload_n dX8_thingOf_6 rfl rfl ?_
  refine E_ifnull (tgt := 28) dX8_thingOf_7 (by decide) (fun h7 => ?_) (fun q7 h7 => ?_)
  · cases h7
  · refine E_iload_n dX8_thingOf_10 rfl rfl ?_
    refine E_iconst (v := 0) dX8_thingOf_11 (by decide) ?_
    refine E_iconst (v := 2) dX8_thingOf_12 (by decide) ?_
    refine E_callS (m2 := mX8_isWithin) dX8_thingOf_13 kX8_48 mzX8_isWithin (c_X8_isWithin _ _ _) rfl rfl (by decide) (xs8 (Nat.le_of_ble_eq_true rfl)) (by first | exact Nat.le_of_ble_eq_true rfl | omega) (by first | exact Nat.le_of_ble_eq_true rfl | omega) ?_
    rintro _ _ ⟨rfl, rfl⟩; rw [if_neg hi]
    refine E_if_eq (tgt := 28) dX8_thingOf_16 (by decide) (fun h16 => ?_) (fun h16 => absurd h16 (by decide))
    refine E_null dX8_thingOf_28 ?_
    refine E_aret dX8_thingOf_29 rfl (Or.inl ⟨_, rfl⟩) ?_
    exact ⟨rfl, rfl⟩
theorem c_thingOf_s {S : xS} (hX : xShX S) (p : Int32) {P n i : Nat} (h : xpl S p = some (3, P)) (hp : xShP S P n) (hi : i < 3) : CC mX8_thingOf 3 0 0 [xR (some (8, 0)), xI p, xI (nI i)] S (aR (some (6, 3 * P + i)) S) := by
  refine CC_of mpX8_thingOf rfl (Nat.le_of_ble_eq_true rfl) ?_
  have h1 : (0 : Int32) ≤ nI i ∧ nI i ≤ 2 := ⟨nI_le (a := 0) (by omega) (by omega), nI_le (b := 2) (by omega) (by omega)⟩
  refine E_aload_n dX8_thingOf_0 rfl rfl ?_
  refine E_iload_n dX8_thingOf_1 rfl rfl ?_
  refine E_callV (m2 := mX8_poolOf) dX8_thingOf_2 kX8_58 mzX8_poolOf (c_poolOf hX p h) rfl ⟨_, _, rfl⟩ rfl rfl (by decide) (xs8 (Nat.le_of_ble_eq_true rfl)) (by first | exact Nat.le_of_ble_eq_true rfl | omega) (by first | exact Nat.le_of_ble_eq_true rfl | omega) ?_
  rintro _ _ ⟨rfl, rfl⟩
  refine E_astore_n dX8_thingOf_5 rfl (by decide) rfl ?_
  refine E_aload_n dX8_thingOf_6 rfl rfl ?_
  refine E_ifnull (tgt := 28) dX8_thingOf_7 (by decide) (fun h7 => ?_) (fun q7 h7 => ?_)
  · cases h7
  · refine E_iload_n dX8_thingOf_10 rfl rfl ?_
    refine E_iconst (v := 0) dX8_thingOf_11 (by decide) ?_
    refine E_iconst (v := 2) dX8_thingOf_12 (by decide) ?_
    refine E_callS (m2 := mX8_isWithin) dX8_thingOf_13 kX8_48 mzX8_isWithin (c_X8_isWithin _ _ _) rfl rfl (by decide) (xs8 (Nat.le_of_ble_eq_true rfl)) (by first | exact Nat.le_of_ble_eq_true rfl | omega) (by first | exact Nat.le_of_ble_eq_true rfl | omega) ?_
    rintro _ _ ⟨rfl, rfl⟩; rw [if_pos h1]
    refine E_if_eq (tgt := 28) dX8_thingOf_16 (by decide) (fun h16 => absurd h16 (by decide)) (fun h16 => ?_)
    refine E_aload_n dX8_thingOf_19 rfl rfl ?_
    refine E_getR dX8_thingOf_20 fX8_311 rfl rfl rfl (rP_4 hp) ?_
    refine E_iload_n dX8_thingOf_23 rfl rfl ?_
    refine E_aald dX8_thingOf_24 rfl rfl (by decide) (lP_18 hp) (vin hi (by omega)) (vnat hi (by omega)) (rP_18 hp hi) ?_
    refine E_goto (tgt := 29) dX8_thingOf_25 (by decide) ?_
    refine E_aret dX8_thingOf_29 rfl (Or.inl ⟨_, rfl⟩) ?_
    exact ⟨rfl, rfl⟩
theorem c_postOf_n {S : xS} (hX : xShX S) (p i : Int32) (h : xpl S p = none) : CC mX8_postOf 3 0 0 [xR (some (8, 0)), xI p, xI i] S (aR none S) := by
  refine CC_of mpX8_postOf rfl (Nat.le_of_ble_eq_true rfl) ?_
  refine E_aload_n dX8_postOf_0 rfl rfl ?_
  refine E_iload_n dX8_postOf_1 rfl rfl ?_
  refine E_callV (m2 := mX8_poolOf) dX8_postOf_2 kX8_58 mzX8_poolOf (c_poolOf hX p h) rfl ⟨_, _, rfl⟩ rfl rfl (by decide) (xs8 (Nat.le_of_ble_eq_true rfl)) (by first | exact Nat.le_of_ble_eq_true rfl | omega) (by first | exact Nat.le_of_ble_eq_true rfl | omega) ?_
  rintro _ _ ⟨rfl, rfl⟩
  refine E_astore_n dX8_postOf_5 rfl (by decide) rfl ?_
  refine E_aload_n dX8_postOf_6 rfl rfl ?_
  refine E_ifnull (tgt := 34) dX8_postOf_7 (by decide) (fun h7 => ?_) (fun q7 h7 => absurd h7 (by intro z; cases z))
  refine E_null dX8_postOf_34 ?_
  refine E_aret dX8_postOf_35 rfl (Or.inl ⟨_, rfl⟩) ?_
  exact ⟨rfl, rfl⟩
theorem c_postOf_o {S : xS} (hX : xShX S) (p i : Int32) {P n : Nat} (h : xpl S p = some (3, P)) (hp : xShP S P n) (hi : ¬ (0 ≤ i ∧ i ≤ nI n - 1)) : CC mX8_postOf 3 0 0 [xR (some (8, 0)), xI p, xI i] S (aR none S) := by
  refine CC_of mpX8_postOf rfl (Nat.le_of_ble_eq_true rfl) ?_
  refine E_aload_n dX8_postOf_0 rfl rfl ?_
  refine E_iload_n dX8_postOf_1 rfl rfl ?_
  refine E_callV (m2 := mX8_poolOf) dX8_postOf_2 kX8_58 mzX8_poolOf (c_poolOf hX p h) rfl ⟨_, _, rfl⟩ rfl rfl (by decide) (xs8 (Nat.le_of_ble_eq_true rfl)) (by first | exact Nat.le_of_ble_eq_true rfl | omega) (by first | exact Nat.le_of_ble_eq_true rfl | omega) ?_
  rintro _ _ ⟨rfl, rfl⟩
  refine E_astore_n dX8_postOf_5 rfl (by decide) rfl ?_
  refine E_aload_n dX8_postOf_6 rfl rfl ?_
  refine E_ifnull (tgt := 34) dX8_postOf_7 (by decide) (fun h7 => ?_) (fun q7 h7 => ?_)
  · cases h7
  · refine E_iload_n dX8_postOf_10 rfl rfl ?_
    refine E_iconst (v := 0) dX8_postOf_11 (by decide) ?_
    refine E_aload_n dX8_postOf_12 rfl rfl ?_
    refine E_getR dX8_postOf_13 fX8_315 rfl rfl rfl (rP_3 hp) ?_
    refine E_alen dX8_postOf_16 rfl (by decide) (lP_17 hp) (Eq.refl (nI _)) ?_
    refine E_iconst (v := 1) dX8_postOf_17 (by decide) ?_
    refine E_isub dX8_postOf_18 ?_
    refine E_callS (m2 := mX8_isWithin) dX8_postOf_19 kX8_48 mzX8_isWithin (c_X8_isWithin _ _ _) rfl rfl (by decide) (xs8 (Nat.le_of_ble_eq_true rfl)) (by first | exact Nat.le_of_ble_eq_true rfl | omega) (by first | exact Nat.le_of_ble_eq_true rfl | omega) ?_
    rintro _ _ ⟨rfl, rfl⟩; rw [if_neg hi]
    refine E_if_eq (tgt := 34) dX8_postOf_22 (by decide) (fun h22 => ?_) (fun h22 => absurd h22 (by decide))
    refine E_null dX8_postOf_34 ?_
    refine E_aret dX8_postOf_35 rfl (Or.inl ⟨_, rfl⟩) ?_
    exact ⟨rfl, rfl⟩
theorem c_postOf_s {S : xS} (hX : xShX S) (p : Int32) {P n i : Nat} (h : xpl S p = some (3, P)) (hp : xShP S P n) (hi : i < n) (h1 : (0 : Int32) ≤ nI i ∧ nI i ≤ nI n - 1) : CC mX8_postOf 3 0 0 [xR (some (8, 0)), xI p, xI (nI i)] S (aR (some (4, 3 * P + i)) S) := by
  refine CC_of mpX8_postOf rfl (Nat.le_of_ble_eq_true rfl) ?_
  have hn := hp.1
  refine E_aload_n dX8_postOf_0 rfl rfl ?_
  refine E_iload_n dX8_postOf_1 rfl rfl ?_
  refine E_callV (m2 := mX8_poolOf) dX8_postOf_2 kX8_58 mzX8_poolOf (c_poolOf hX p h) rfl ⟨_, _, rfl⟩ rfl rfl (by decide) (xs8 (Nat.le_of_ble_eq_true rfl)) (by first | exact Nat.le_of_ble_eq_true rfl | omega) (by first | exact Nat.le_of_ble_eq_true rfl | omega) ?_
  rintro _ _ ⟨rfl, rfl⟩
  refine E_astore_n dX8_postOf_5 rfl (by decide) rfl ?_
  refine E_aload_n dX8_postOf_6 rfl rfl ?_
  refine E_ifnull (tgt := 34) dX8_postOf_7 (by decide) (fun h7 => ?_) (fun q7 h7 => ?_)
  · cases h7
  · refine E_iload_n dX8_postOf_10 rfl rfl ?_
    refine E_iconst (v := 0) dX8_postOf_11 (by decide) ?_
    refine E_aload_n dX8_postOf_12 rfl rfl ?_
    refine E_getR dX8_postOf_13 fX8_315 rfl rfl rfl (rP_3 hp) ?_
    refine E_alen dX8_postOf_16 rfl (by decide) (lP_17 hp) (Eq.refl (nI _)) ?_
    refine E_iconst (v := 1) dX8_postOf_17 (by decide) ?_
    refine E_isub dX8_postOf_18 ?_
    refine E_callS (m2 := mX8_isWithin) dX8_postOf_19 kX8_48 mzX8_isWithin (c_X8_isWithin _ _ _) rfl rfl (by decide) (xs8 (Nat.le_of_ble_eq_true rfl)) (by first | exact Nat.le_of_ble_eq_true rfl | omega) (by first | exact Nat.le_of_ble_eq_true rfl | omega) ?_
    rintro _ _ ⟨rfl, rfl⟩; rw [if_pos h1]
    refine E_if_eq (tgt := 34) dX8_postOf_22 (by decide) (fun h22 => absurd h22 (by decide)) (fun h22 => ?_)
    refine E_aload_n dX8_postOf_25 rfl rfl ?_
    refine E_getR dX8_postOf_26 fX8_315 rfl rfl rfl (rP_3 hp) ?_
    refine E_iload_n dX8_postOf_29 rfl rfl ?_
    refine E_aald dX8_postOf_30 rfl rfl (by decide) (lP_17 hp) (vin hi (by omega)) (vnat hi (by omega)) (rP_17 hp hi) ?_
    refine E_goto (tgt := 35) dX8_postOf_31 (by decide) ?_
    refine E_aret dX8_postOf_35 rfl (Or.inl ⟨_, rfl⟩) ?_
    exact ⟨rfl, rfl⟩
/-- whether it is a ticket's time; whether it lacks a teacher -/
def xit (S : xS) (t : Nat) (x : Int32) : Int32 := match (gR S 7 t 4) with
  | none => if ¬ (gI S 7 t 2) = 4 ∨ (gI S 7 t 9) = 0 then 1 else 0
  | some q => if (gI S 0 q.2 2) ≤ x ∧ x < (gI S 0 q.2 4) then 1 else 0
def xlt (S : xS) (t : Nat) : Int32 := match (gR S 7 t 4) with
  | none => 0
  | some q => if (gI S 7 t 2) = 3 ∧ (gI S 7 t 5) = 0 ∧ (gI S 0 q.2 3) * (gI S 0 q.2 6) < (gI S 0 q.2 5) + 1 then 1 else 0
theorem c_isItsTime {S : xS} (t : Nat) (x : Int32) (hc : ∀ q, (gR S 7 t 4) = some q → q.1 = 0) : CC mX7_isItsTime 2 0 0 [xR (some (7, t)), xI x] S (aI (xit S t x) S) := by
  unfold xit
  cases hq : (gR S 7 t 4) with
  | none => exact c_X7_isItsTime_n t x hq
  | some q =>
    obtain ⟨k, c⟩ := q
    have hk : k = 0 := hc _ hq
    subst hk
    exact c_X7_isItsTime_s t c x hq
theorem c_lacksTeacher {S : xS} (t : Nat) (hc : ∀ q, (gR S 7 t 4) = some q → q.1 = 0) : CC mX7_lacksTeacher 1 0 0 [xR (some (7, t))] S (aI (xlt S t) S) := by
  unfold xlt
  cases hq : (gR S 7 t 4) with
  | none => exact c_X7_lacksTeacher_n t hq
  | some q =>
    obtain ⟨k, c⟩ := q
    have hk : k = 0 := hc _ hq
    subst hk
    exact c_X7_lacksTeacher_s t c hq
/-- the reason against a head; against a ticket -/
def xrh (S : xS) (t P n : Nat) : Int32 := if xit S t (gI S 8 0 5) = 0 then 2 else if ¬ xrs S P n (gI S 8 0 5) = 0 then 3 else if (gI S 3 P 1) ≤ xmn S P then 4 else if xlt S t = 0 then 0 else 5
def xrg (S : xS) (t P n : Nat) : Int32 := if ¬ (gI S 7 t 6) = 0 then 1 else if ¬ (if (gI S 7 t 2) = 5 then 0 else xrh S t P n) = 0 then (if (gI S 7 t 2) = 5 then 0 else xrh S t P n) else if 3 ≤ (gI S 1 P 5) then 6 else 0
theorem c_reasonAgainstHead {S : xS} (t P n : Nat) (ht : (gR S 7 t 1) = some (3, P)) (hp : xShP S P n) (hc : ∀ q, (gR S 7 t 4) = some q → q.1 = 0) : CC mX8_reasonAgainstHead 4 0 0 [xR (some (8, 0)), xR (some (7, t))] S (aI (xrh S t P n) S) := by
  refine CC_of mpX8_reasonAgainstHead rfl (Nat.le_of_ble_eq_true rfl) ?_
  unfold xrh
  refine E_aload_n dX8_reasonAgainstHead_0 rfl rfl ?_
  refine E_getR dX8_reasonAgainstHead_1 fX8_108 rfl rfl rfl ht ?_
  refine E_astore_n dX8_reasonAgainstHead_4 rfl (by decide) rfl ?_
  refine E_aload_n dX8_reasonAgainstHead_5 rfl rfl ?_
  refine E_aload_n dX8_reasonAgainstHead_6 rfl rfl ?_
  refine E_getI dX8_reasonAgainstHead_7 fX8_45 rfl rfl rfl rfl ?_
  refine E_callV (m2 := mX7_isItsTime) dX8_reasonAgainstHead_10 kX8_349 mzX7_isItsTime (c_isItsTime t _ hc) rfl ⟨_, _, rfl⟩ rfl rfl (by decide) (xs8 (Nat.le_of_ble_eq_true rfl)) (by first | exact Nat.le_of_ble_eq_true rfl | omega) (by first | exact Nat.le_of_ble_eq_true rfl | omega) ?_
  rintro _ _ ⟨rfl, rfl⟩
  refine E_if_ne (tgt := 18) dX8_reasonAgainstHead_13 (by decide) (fun h13 => ?_) (fun h13 => ?_)
  · refine E_aload_n dX8_reasonAgainstHead_18 rfl rfl ?_
    refine E_aload_n dX8_reasonAgainstHead_19 rfl rfl ?_
    refine E_getI dX8_reasonAgainstHead_20 fX8_45 rfl rfl rfl rfl ?_
    refine E_callV (m2 := mX3_reasonsIn) dX8_reasonAgainstHead_23 kX8_213 mzX3_reasonsIn (c_X3_reasonsIn P n hp _) rfl ⟨_, _, rfl⟩ rfl rfl (by decide) (xs8 (Nat.le_of_ble_eq_true rfl)) (by first | exact Nat.le_of_ble_eq_true rfl | omega) (by first | exact Nat.le_of_ble_eq_true rfl | omega) ?_
    rintro _ _ ⟨rfl, rfl⟩
    refine E_if_eq (tgt := 31) dX8_reasonAgainstHead_26 (by decide) (fun h26 => ?_) (fun h26 => ?_)
    · refine E_aload_n dX8_reasonAgainstHead_31 rfl rfl ?_
      refine E_getR dX8_reasonAgainstHead_32 fX8_120 rfl rfl rfl (rP_5 hp) ?_
      refine E_callV (m2 := mX1_mostNow) dX8_reasonAgainstHead_35 kX8_166 mzX1_mostNow (c_X1_mostNow P) rfl ⟨_, _, rfl⟩ rfl rfl (by decide) (xs8 (Nat.le_of_ble_eq_true rfl)) (by first | exact Nat.le_of_ble_eq_true rfl | omega) (by first | exact Nat.le_of_ble_eq_true rfl | omega) ?_
      rintro _ _ ⟨rfl, rfl⟩
      refine E_aload_n dX8_reasonAgainstHead_38 rfl rfl ?_
      refine E_getI dX8_reasonAgainstHead_39 fX8_172 rfl rfl rfl rfl ?_
      refine E_icmp_lt (tgt := 47) dX8_reasonAgainstHead_42 (by decide) (fun h42 => ?_) (fun h42 => ?_)
      · refine E_aload_n dX8_reasonAgainstHead_47 rfl rfl ?_
        refine E_callV (m2 := mX7_lacksTeacher) dX8_reasonAgainstHead_48 kX8_352 mzX7_lacksTeacher (c_lacksTeacher t hc) rfl ⟨_, _, rfl⟩ rfl rfl (by decide) (xs8 (Nat.le_of_ble_eq_true rfl)) (by first | exact Nat.le_of_ble_eq_true rfl | omega) (by first | exact Nat.le_of_ble_eq_true rfl | omega) ?_
        rintro _ _ ⟨rfl, rfl⟩
        refine E_if_eq (tgt := 58) dX8_reasonAgainstHead_51 (by decide) (fun h51 => ?_) (fun h51 => ?_)
        · refine E_iconst (v := 0) dX8_reasonAgainstHead_58 (by decide) ?_
          refine E_iret dX8_reasonAgainstHead_59 rfl rfl ?_
          refine ⟨congrArg (fun z => some (xI z)) ?_, rfl⟩; simp_all [Int32.not_le]
        · refine E_iconst (v := 5) dX8_reasonAgainstHead_54 (by decide) ?_
          refine E_goto (tgt := 59) dX8_reasonAgainstHead_55 (by decide) ?_
          refine E_iret dX8_reasonAgainstHead_59 rfl rfl ?_
          refine ⟨congrArg (fun z => some (xI z)) ?_, rfl⟩; simp_all [Int32.not_le]
      · refine E_iconst (v := 4) dX8_reasonAgainstHead_45 (by decide) ?_
        refine E_iret dX8_reasonAgainstHead_46 rfl rfl ?_
        refine ⟨congrArg (fun z => some (xI z)) ?_, rfl⟩; simp_all [Int32.not_le]
    · refine E_iconst (v := 3) dX8_reasonAgainstHead_29 (by decide) ?_
      refine E_iret dX8_reasonAgainstHead_30 rfl rfl ?_
      refine ⟨congrArg (fun z => some (xI z)) ?_, rfl⟩; simp_all [Int32.not_le]
  · refine E_iconst (v := 2) dX8_reasonAgainstHead_16 (by decide) ?_
    refine E_iret dX8_reasonAgainstHead_17 rfl rfl ?_
    refine ⟨congrArg (fun z => some (xI z)) ?_, rfl⟩; simp_all [Int32.not_le]
theorem c_reasonAgainst {S : xS} (t P n : Nat) (ht : (gR S 7 t 1) = some (3, P)) (hp : xShP S P n) (hc : ∀ q, (gR S 7 t 4) = some q → q.1 = 0) : CC mX8_reasonAgainst 5 0 0 [xR (some (8, 0)), xR (some (7, t))] S (aI (xrg S t P n) S) := by
  refine CC_of mpX8_reasonAgainst rfl (Nat.le_of_ble_eq_true rfl) ?_
  unfold xrg
  generalize hz : xrh S t P n = z
  refine E_aload_n dX8_reasonAgainst_0 rfl rfl ?_
  refine E_getI dX8_reasonAgainst_1 fX8_116 rfl rfl rfl rfl ?_
  refine E_if_eq (tgt := 9) dX8_reasonAgainst_4 (by decide) (fun h4 => ?_) (fun h4 => ?_)
  · refine E_aload_n dX8_reasonAgainst_9 rfl rfl ?_
    refine E_getI dX8_reasonAgainst_10 fX8_262 rfl rfl rfl rfl ?_
    refine E_iconst (v := 5) dX8_reasonAgainst_13 (by decide) ?_
    refine E_icmp_ne (tgt := 21) dX8_reasonAgainst_14 (by decide) (fun h14 => ?_) (fun h14 => ?_)
    · refine E_aload_n dX8_reasonAgainst_21 rfl rfl ?_
      refine E_aload_n dX8_reasonAgainst_22 rfl rfl ?_
      refine E_callV (m2 := mX8_reasonAgainstHead) dX8_reasonAgainst_23 kX8_343 mzX8_reasonAgainstHead (c_reasonAgainstHead t P n ht hp hc) rfl ⟨_, _, rfl⟩ rfl rfl (by decide) (xs8 (Nat.le_of_ble_eq_true rfl)) (by first | exact Nat.le_of_ble_eq_true rfl | omega) (by first | exact Nat.le_of_ble_eq_true rfl | omega) ?_
      rintro _ _ ⟨rfl, rfl⟩; rw [hz]
      refine E_istore_n dX8_reasonAgainst_26 rfl (by decide) rfl ?_
      refine E_iload_n dX8_reasonAgainst_27 rfl rfl ?_
      refine E_if_eq (tgt := 33) dX8_reasonAgainst_28 (by decide) (fun h28 => ?_) (fun h28 => ?_)
      · refine E_aload_n dX8_reasonAgainst_33 rfl rfl ?_
        refine E_getR dX8_reasonAgainst_34 fX8_108 rfl rfl rfl ht ?_
        refine E_getR dX8_reasonAgainst_37 fX8_120 rfl rfl rfl (rP_5 hp) ?_
        refine E_getI dX8_reasonAgainst_40 fX8_346 rfl rfl rfl rfl ?_
        refine E_iconst (v := 3) dX8_reasonAgainst_43 (by decide) ?_
        refine E_icmp_lt (tgt := 52) dX8_reasonAgainst_44 (by decide) (fun h44 => ?_) (fun h44 => ?_)
        · refine E_iconst (v := 0) dX8_reasonAgainst_52 (by decide) ?_
          refine E_iret dX8_reasonAgainst_53 rfl rfl ?_
          refine ⟨congrArg (fun z => some (xI z)) ?_, rfl⟩; simp_all
        · refine E_bipush (v := 6) dX8_reasonAgainst_47 (by decide) ?_
          refine E_goto (tgt := 53) dX8_reasonAgainst_49 (by decide) ?_
          refine E_iret dX8_reasonAgainst_53 rfl rfl ?_
          refine ⟨congrArg (fun z => some (xI z)) ?_, rfl⟩; simp_all
      · refine E_iload_n dX8_reasonAgainst_31 rfl rfl ?_
        refine E_iret dX8_reasonAgainst_32 rfl rfl ?_
        refine ⟨congrArg (fun z => some (xI z)) ?_, rfl⟩; simp_all
    · refine E_iconst (v := 0) dX8_reasonAgainst_17 (by decide) ?_
      refine E_goto (tgt := 26) dX8_reasonAgainst_18 (by decide) ?_
      refine E_istore_n dX8_reasonAgainst_26 rfl (by decide) rfl ?_
      refine E_iload_n dX8_reasonAgainst_27 rfl rfl ?_
      refine E_if_eq (tgt := 33) dX8_reasonAgainst_28 (by decide) (fun h28 => ?_) (fun h28 => absurd h28 (by decide))
      refine E_aload_n dX8_reasonAgainst_33 rfl rfl ?_
      refine E_getR dX8_reasonAgainst_34 fX8_108 rfl rfl rfl ht ?_
      refine E_getR dX8_reasonAgainst_37 fX8_120 rfl rfl rfl (rP_5 hp) ?_
      refine E_getI dX8_reasonAgainst_40 fX8_346 rfl rfl rfl rfl ?_
      refine E_iconst (v := 3) dX8_reasonAgainst_43 (by decide) ?_
      refine E_icmp_lt (tgt := 52) dX8_reasonAgainst_44 (by decide) (fun h44 => ?_) (fun h44 => ?_)
      · refine E_iconst (v := 0) dX8_reasonAgainst_52 (by decide) ?_
        refine E_iret dX8_reasonAgainst_53 rfl rfl ?_
        refine ⟨congrArg (fun z => some (xI z)) ?_, rfl⟩; simp_all
      · refine E_bipush (v := 6) dX8_reasonAgainst_47 (by decide) ?_
        refine E_goto (tgt := 53) dX8_reasonAgainst_49 (by decide) ?_
        refine E_iret dX8_reasonAgainst_53 rfl rfl ?_
        refine ⟨congrArg (fun z => some (xI z)) ?_, rfl⟩; simp_all
  · refine E_iconst (v := 1) dX8_reasonAgainst_7 (by decide) ?_
    refine E_iret dX8_reasonAgainst_8 rfl rfl ?_
    refine ⟨congrArg (fun z => some (xI z)) ?_, rfl⟩; simp_all
/-! the pools, one after the other -/
/-- what is inside all pools: the first n -/
def xin (S : xS) (p : Nat) : Int32 := match gR S 10 0 p with
  | none => 0
  | some q => (gI S 3 q.2 6)
theorem l_X8_inside {S : xS} (hX : xShX S) (hq : ∀ p, p < 4 → ∀ q, gR S 10 0 p = some q → q.1 = 3) : ∀ (n i : Nat), i + n = 4 → ∀ (v : Int32) (o : Option xV), v = xsm (xin S) i → Ex mX8_insideAllPools 1 0 0 (0, fun _ => 0) (aI (xsm (xin S) 4) S) 4 [some (xR (some (8, 0))), some (xI v), some (xI (nI i)), o] [] S
  | 0, i, hi, v, o, hv => by
    refine E_iload_n dX8_insideAllPools_4 rfl rfl ?_
    refine E_iconst (v := 4) dX8_insideAllPools_5 (by decide) ?_
    refine E_icmp_ge (tgt := 37) dX8_insideAllPools_6 (by decide) (fun h6 => ?_) (fun h6 => absurd h6 ((fun z => z (nI_le (a := 4) (b := i) (by omega) (by omega)))))
    refine E_iload_n dX8_insideAllPools_37 rfl rfl ?_
    refine E_iret dX8_insideAllPools_38 rfl rfl ?_
    exact ⟨by rw [hv, show i = 4 by omega], rfl⟩
  | n + 1, i, hi, v, o, hv => by
    cases hr : gR S 10 0 i with
    | none =>
      refine E_iload_n dX8_insideAllPools_4 rfl rfl ?_
      refine E_iconst (v := 4) dX8_insideAllPools_5 (by decide) ?_
      refine E_icmp_ge (tgt := 37) dX8_insideAllPools_6 (by decide) (fun h6 => absurd h6 ((nI_ge (a := i) (b := 4) (by omega) (by omega)))) (fun h6 => ?_)
      refine E_aload_n dX8_insideAllPools_9 rfl rfl ?_
      refine E_getR dX8_insideAllPools_10 fX8_11 rfl rfl rfl (rX_8_0 hX) ?_
      refine E_iload_n dX8_insideAllPools_13 rfl rfl ?_
      refine E_aald dX8_insideAllPools_14 rfl rfl (by decide) (lX_10 hX) (vin (by omega : i < 4) (by omega)) (vnat (by omega : i < 4) (by omega)) hr ?_
      refine E_astore_n dX8_insideAllPools_15 rfl (by decide) rfl ?_
      refine E_iload_n dX8_insideAllPools_16 rfl rfl ?_
      refine E_aload_n dX8_insideAllPools_17 rfl rfl ?_
      refine E_ifnonnull (tgt := 25) dX8_insideAllPools_18 (by decide) (fun q18 h18 => absurd h18 (by intro z; cases z)) (fun h18 => ?_)
      refine E_iconst (v := 0) dX8_insideAllPools_21 (by decide) ?_
      refine E_goto (tgt := 29) dX8_insideAllPools_22 (by decide) ?_
      refine E_iadd dX8_insideAllPools_29 ?_
      refine E_istore_n dX8_insideAllPools_30 rfl (by decide) rfl ?_
      refine E_iinc (v := nI (i + 1)) dX8_insideAllPools_31 rfl (nI_i1 i) (by decide) rfl ?_
      refine E_goto (tgt := 4) dX8_insideAllPools_34 (by decide) ?_
      refine l_X8_inside hX hq n (i + 1) (by omega) _ _ ?_
      rw [xsm_succ, ← hv]; congr 1; unfold xin; rw [hr]
    | some q =>
      obtain ⟨k, P⟩ := q
      have hk : k = 3 := hq i (by omega) _ hr
      subst hk
      refine E_iload_n dX8_insideAllPools_4 rfl rfl ?_
      refine E_iconst (v := 4) dX8_insideAllPools_5 (by decide) ?_
      refine E_icmp_ge (tgt := 37) dX8_insideAllPools_6 (by decide) (fun h6 => absurd h6 ((nI_ge (a := i) (b := 4) (by omega) (by omega)))) (fun h6 => ?_)
      refine E_aload_n dX8_insideAllPools_9 rfl rfl ?_
      refine E_getR dX8_insideAllPools_10 fX8_11 rfl rfl rfl (rX_8_0 hX) ?_
      refine E_iload_n dX8_insideAllPools_13 rfl rfl ?_
      refine E_aald dX8_insideAllPools_14 rfl rfl (by decide) (lX_10 hX) (vin (by omega : i < 4) (by omega)) (vnat (by omega : i < 4) (by omega)) hr ?_
      refine E_astore_n dX8_insideAllPools_15 rfl (by decide) rfl ?_
      refine E_iload_n dX8_insideAllPools_16 rfl rfl ?_
      refine E_aload_n dX8_insideAllPools_17 rfl rfl ?_
      refine E_ifnonnull (tgt := 25) dX8_insideAllPools_18 (by decide) (fun q18 h18 => ?_) (fun h18 => ?_)
      · refine E_aload_n dX8_insideAllPools_25 rfl rfl ?_
        refine E_getI dX8_insideAllPools_26 fX8_156 rfl rfl rfl rfl ?_
        refine E_iadd dX8_insideAllPools_29 ?_
        refine E_istore_n dX8_insideAllPools_30 rfl (by decide) rfl ?_
        refine E_iinc (v := nI (i + 1)) dX8_insideAllPools_31 rfl (nI_i1 i) (by decide) rfl ?_
        refine E_goto (tgt := 4) dX8_insideAllPools_34 (by decide) ?_
        refine l_X8_inside hX hq n (i + 1) (by omega) _ _ ?_
        rw [xsm_succ, ← hv]; congr 1; unfold xin; rw [hr]
      · cases h18
theorem c_insideAllPools {S : xS} (hX : xShX S) (hq : ∀ p, p < 4 → ∀ q, gR S 10 0 p = some q → q.1 = 3) : CC mX8_insideAllPools 1 0 0 [xR (some (8, 0))] S (aI (xsm (xin S) 4) S) := by
  refine CC_of mpX8_insideAllPools rfl (Nat.le_of_ble_eq_true rfl) ?_
  refine E_iconst (v := 0) dX8_insideAllPools_0 (by decide) ?_
  refine E_istore_n dX8_insideAllPools_1 rfl (by decide) rfl ?_
  refine E_iconst (v := 0) dX8_insideAllPools_2 (by decide) ?_
  refine E_istore_n dX8_insideAllPools_3 rfl (by decide) rfl ?_
  exact l_X8_inside hX hq 4 0 rfl 0 _ rfl
/-! how many bits -/
def xbc1 (x : Int32) : Int32 := x - ((x.toUInt32 >>> ((1 : Int32).toUInt32 &&& Int32.toUInt32 31)).toInt32 &&& 1431655765)
def xbc2 (x : Int32) : Int32 := (x &&& 858993459) + ((x.toUInt32 >>> ((2 : Int32).toUInt32 &&& Int32.toUInt32 31)).toInt32 &&& 858993459)
def xbc3 (x : Int32) : Int32 := (x + (x.toUInt32 >>> ((4 : Int32).toUInt32 &&& Int32.toUInt32 31)).toInt32) &&& 252645135
def xbc4 (x : Int32) : Int32 := x + (x.toUInt32 >>> ((8 : Int32).toUInt32 &&& Int32.toUInt32 31)).toInt32
def xbc5 (x : Int32) : Int32 := x + (x.toUInt32 >>> ((16 : Int32).toUInt32 &&& Int32.toUInt32 31)).toInt32
def xbc (x : Int32) : Int32 := xbc5 (xbc4 (xbc3 (xbc2 (xbc1 x)))) &&& 63
theorem c_bitCount {S : xS} (x : Int32) : CC mJ6_bitCount_0f7a4 1 0 0 [xI x] S (aI (xbc x) S) := by
  refine CC_of mpJ6_bitCount_0f7a4 rfl (Nat.le_of_ble_eq_true rfl) ?_
  refine E_iload_n dJ6_bitCount_0f7a4_0 rfl rfl ?_
  refine E_iload_n dJ6_bitCount_0f7a4_1 rfl rfl ?_
  refine E_iconst (v := 1) dJ6_bitCount_0f7a4_2 (by decide) ?_
  refine E_iushr dJ6_bitCount_0f7a4_3 rfl ?_
  refine E_ldcw dJ6_bitCount_0f7a4_4 oJ6_265 ?_
  refine E_iand dJ6_bitCount_0f7a4_7 ?_
  refine E_isub dJ6_bitCount_0f7a4_8 ?_
  refine E_istore_n dJ6_bitCount_0f7a4_9 rfl (by decide) rfl ?_
  refine E_iload_n dJ6_bitCount_0f7a4_10 rfl rfl ?_
  refine E_ldcw dJ6_bitCount_0f7a4_11 oJ6_266 ?_
  refine E_iand dJ6_bitCount_0f7a4_14 ?_
  refine E_iload_n dJ6_bitCount_0f7a4_15 rfl rfl ?_
  refine E_iconst (v := 2) dJ6_bitCount_0f7a4_16 (by decide) ?_
  refine E_iushr dJ6_bitCount_0f7a4_17 rfl ?_
  refine E_ldcw dJ6_bitCount_0f7a4_18 oJ6_266 ?_
  refine E_iand dJ6_bitCount_0f7a4_21 ?_
  refine E_iadd dJ6_bitCount_0f7a4_22 ?_
  refine E_istore_n dJ6_bitCount_0f7a4_23 rfl (by decide) rfl ?_
  refine E_iload_n dJ6_bitCount_0f7a4_24 rfl rfl ?_
  refine E_iload_n dJ6_bitCount_0f7a4_25 rfl rfl ?_
  refine E_iconst (v := 4) dJ6_bitCount_0f7a4_26 (by decide) ?_
  refine E_iushr dJ6_bitCount_0f7a4_27 rfl ?_
  refine E_iadd dJ6_bitCount_0f7a4_28 ?_
  refine E_ldcw dJ6_bitCount_0f7a4_29 oJ6_267 ?_
  refine E_iand dJ6_bitCount_0f7a4_32 ?_
  refine E_istore_n dJ6_bitCount_0f7a4_33 rfl (by decide) rfl ?_
  refine E_iload_n dJ6_bitCount_0f7a4_34 rfl rfl ?_
  refine E_iload_n dJ6_bitCount_0f7a4_35 rfl rfl ?_
  refine E_bipush (v := 8) dJ6_bitCount_0f7a4_36 (by decide) ?_
  refine E_iushr dJ6_bitCount_0f7a4_38 rfl ?_
  refine E_iadd dJ6_bitCount_0f7a4_39 ?_
  refine E_istore_n dJ6_bitCount_0f7a4_40 rfl (by decide) rfl ?_
  refine E_iload_n dJ6_bitCount_0f7a4_41 rfl rfl ?_
  refine E_iload_n dJ6_bitCount_0f7a4_42 rfl rfl ?_
  refine E_bipush (v := 16) dJ6_bitCount_0f7a4_43 (by decide) ?_
  refine E_iushr dJ6_bitCount_0f7a4_45 rfl ?_
  refine E_iadd dJ6_bitCount_0f7a4_46 ?_
  refine E_istore_n dJ6_bitCount_0f7a4_47 rfl (by decide) rfl ?_
  refine E_iload_n dJ6_bitCount_0f7a4_48 rfl rfl ?_
  refine E_bipush (v := 63) dJ6_bitCount_0f7a4_49 (by decide) ?_
  refine E_iand dJ6_bitCount_0f7a4_51 ?_
  refine E_iret dJ6_bitCount_0f7a4_52 rfl rfl ?_
  exact ⟨rfl, rfl⟩
