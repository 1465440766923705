/-! the reference: what its calls share -/
def xfi (p : Nat → Bool) : Nat → Option Nat
  | 0 => none
  | n + 1 => match xfi p n with
    | some k => some k
    | none => if p n = true then some n else none
theorem xfi_some {p : Nat → Bool} : ∀ {n k : Nat}, xfi p n = some k → k < n ∧ p k = true ∧ ∀ j, j < k → p j = false
  | 0, k, h => by cases h
  | n + 1, k, h => by
    unfold xfi at h
    cases hk : xfi p n with
    | some m =>
      rw [hk] at h
      cases h
      obtain ⟨h1, h2, h3⟩ := xfi_some hk
      exact ⟨by omega, h2, h3⟩
    | none =>
      rw [hk] at h
      simp only at h
      split at h
      · cases h
        rename_i hp
        refine ⟨by omega, hp, fun j hj => ?_⟩
        exact xfi_none hk j hj
      · cases h
  where xfi_none {p : Nat → Bool} : ∀ {n : Nat}, xfi p n = none → ∀ j, j < n → p j = false
  | 0, _, j, hj => absurd hj (by omega)
  | n + 1, h, j, hj => by
    unfold xfi at h
    cases hk : xfi p n with
    | some m => rw [hk] at h; cases h
    | none =>
      rw [hk] at h
      simp only at h
      split at h
      · cases h
      · rename_i hp
        by_cases hjn : j = n
        · subst hjn; simpa using hp
        · exact xfi_none hk j (by omega)
theorem xfi_none {p : Nat → Bool} {n : Nat} (h : xfi p n = none) (j : Nat) (hj : j < n) : p j = false := xfi_some.xfi_none h j hj
theorem xfi_is {p : Nat → Bool} {n k : Nat} (hk : k < n) (h : p k = true) (h2 : ∀ j, j < k → p j = false) : xfi p n = some k := by
  cases hx : xfi p n with
  | none => have := xfi_none hx k hk; rw [h] at this; cases this
  | some m =>
    obtain ⟨h3, h4, h5⟩ := xfi_some hx
    rcases Nat.lt_trichotomy k m with q | q | q
    · have := h5 k q; rw [h] at this; cases this
    · rw [q]
    · have := h2 m q; rw [h4] at this; cases this
theorem xfi_no {p : Nat → Bool} {n : Nat} (h2 : ∀ j, j < n → p j = false) : xfi p n = none := by
  cases hx : xfi p n with
  | none => rfl
  | some m =>
    obtain ⟨h3, h4, h5⟩ := xfi_some hx
    have := h2 m h3; rw [h4] at this; cases this
theorem xShM_2 {S S' : xS} (h : xShM S) (e : S'.2 = S.2) : xShM S' := by
  obtain ⟨a, b⟩ := S
  obtain ⟨a', b'⟩ := S'
  cases e
  exact h
def xhas (S : xS) (p : Int32) : Prop := (0 ≤ p ∧ p ≤ 3) ∧ ¬ (gI S 51 0 p.toNatClampNeg) = 0
theorem c_has_y {S : xS} (hM : xShM S) {P : Nat} (hP : P < 4) (h : ¬ (gI S 51 0 P) = 0) : CC mX9_has 2 0 0 [xR (some (9, 0)), xI (nI P)] S (aI 1 S) := by
  refine CC_of mpX9_has rfl (Nat.le_of_ble_eq_true rfl) ?_
  have e1 : (0 : Int32) ≤ nI P ∧ nI P ≤ 3 := ⟨nI_le (a := 0) (by omega) (by omega), nI_le (b := 3) (by omega) (by omega)⟩
  refine E_iload_n dX9_has_0 rfl rfl ?_
  refine E_iconst (v := 0) dX9_has_1 (by decide) ?_
  refine E_iconst (v := 3) dX9_has_2 (by decide) ?_
  refine E_callS (m2 := mX9_in) dX9_has_3 kX9_141 mzX9_in (c_X9_in _ _ _) rfl rfl (by decide) (xs8 (Nat.le_of_ble_eq_true rfl)) (by first | exact Nat.le_of_ble_eq_true rfl | omega) (by first | exact Nat.le_of_ble_eq_true rfl | omega) ?_
  rintro _ _ ⟨rfl, rfl⟩; rw [if_pos e1]
  refine E_if_eq (tgt := 22) dX9_has_6 (by decide) (fun h6 => absurd h6 (by decide)) (fun h6 => ?_)
  refine E_aload_n dX9_has_9 rfl rfl ?_
  refine E_getR dX9_has_10 fX9_7 rfl rfl rfl (rM_1 hM) ?_
  refine E_iload_n dX9_has_13 rfl rfl ?_
  refine E_zald dX9_has_14 rfl rfl (by decide) (lM_1 hM) (vin hP (by omega)) (vnat hP (by omega)) rfl ?_
  refine E_if_eq (tgt := 22) dX9_has_15 (by decide) (fun h15 => absurd h15 (h)) (fun h15 => ?_)
  refine E_iconst (v := 1) dX9_has_18 (by decide) ?_
  refine E_goto (tgt := 23) dX9_has_19 (by decide) ?_
  refine E_iret dX9_has_23 rfl rfl ?_
  exact ⟨rfl, rfl⟩
theorem c_has_n {S : xS} (hM : xShM S) (p : Int32) (h : ¬ xhas S p) : CC mX9_has 2 0 0 [xR (some (9, 0)), xI p] S (aI 0 S) := by
  refine CC_of mpX9_has rfl (Nat.le_of_ble_eq_true rfl) ?_
  by_cases e1 : 0 ≤ p ∧ p ≤ 3
  · obtain ⟨j, hj, rfl⟩ := nI_of2 (n := 3) rfl (Int32.not_lt.mpr e1.1) e1.2
    have h0 : (gI S 51 0 j) = 0 := Decidable.byContradiction fun z => h ⟨e1, by rw [vnat (by omega : j < 4) (by decide)]; exact z⟩
    refine E_iload_n dX9_has_0 rfl rfl ?_
    refine E_iconst (v := 0) dX9_has_1 (by decide) ?_
    refine E_iconst (v := 3) dX9_has_2 (by decide) ?_
    refine E_callS (m2 := mX9_in) dX9_has_3 kX9_141 mzX9_in (c_X9_in _ _ _) rfl rfl (by decide) (xs8 (Nat.le_of_ble_eq_true rfl)) (by first | exact Nat.le_of_ble_eq_true rfl | omega) (by first | exact Nat.le_of_ble_eq_true rfl | omega) ?_
    rintro _ _ ⟨rfl, rfl⟩; rw [if_pos e1]
    refine E_if_eq (tgt := 22) dX9_has_6 (by decide) (fun h6 => absurd h6 (by decide)) (fun h6 => ?_)
    refine E_aload_n dX9_has_9 rfl rfl ?_
    refine E_getR dX9_has_10 fX9_7 rfl rfl rfl (rM_1 hM) ?_
    refine E_iload_n dX9_has_13 rfl rfl ?_
    refine E_zald dX9_has_14 rfl rfl (by decide) (lM_1 hM) (vin (by omega : j < 4) (by omega)) (vnat (by omega : j < 4) (by omega)) rfl ?_
    refine E_if_eq (tgt := 22) dX9_has_15 (by decide) (fun h15 => ?_) (fun h15 => absurd h15 (fun z => z h0))
    refine E_iconst (v := 0) dX9_has_22 (by decide) ?_
    refine E_iret dX9_has_23 rfl rfl ?_
    exact ⟨rfl, rfl⟩
  · skip
    refine E_iload_n dX9_has_0 rfl rfl ?_
    refine E_iconst (v := 0) dX9_has_1 (by decide) ?_
    refine E_iconst (v := 3) dX9_has_2 (by decide) ?_
    refine E_callS (m2 := mX9_in) dX9_has_3 kX9_141 mzX9_in (c_X9_in _ _ _) rfl rfl (by decide) (xs8 (Nat.le_of_ble_eq_true rfl)) (by first | exact Nat.le_of_ble_eq_true rfl | omega) (by first | exact Nat.le_of_ble_eq_true rfl | omega) ?_
    rintro _ _ ⟨rfl, rfl⟩; rw [if_neg e1]
    refine E_if_eq (tgt := 22) dX9_has_6 (by decide) (fun h6 => ?_) (fun h6 => absurd h6 (by decide))
    refine E_iconst (v := 0) dX9_has_22 (by decide) ?_
    refine E_iret dX9_has_23 rfl rfl ?_
    exact ⟨rfl, rfl⟩
theorem c_isTicket {S : xS} (x : Int32) : CC mX9_isTicket 2 0 0 [xR (some (9, 0)), xI x] S (aI (if 0 ≤ x ∧ x ≤ (gI S 9 0 22) - 1 then 1 else 0) S) := by
  refine CC_of mpX9_isTicket rfl (Nat.le_of_ble_eq_true rfl) ?_
  refine E_iload_n dX9_isTicket_0 rfl rfl ?_
  refine E_iconst (v := 0) dX9_isTicket_1 (by decide) ?_
  refine E_aload_n dX9_isTicket_2 rfl rfl ?_
  refine E_getI dX9_isTicket_3 fX9_145 rfl rfl rfl rfl ?_
  refine E_iconst (v := 1) dX9_isTicket_6 (by decide) ?_
  refine E_isub dX9_isTicket_7 ?_
  refine E_callS (m2 := mX9_in) dX9_isTicket_8 kX9_141 mzX9_in (c_X9_in _ _ _) rfl rfl (by decide) (xs8 (Nat.le_of_ble_eq_true rfl)) (by first | exact Nat.le_of_ble_eq_true rfl | omega) (by first | exact Nat.le_of_ble_eq_true rfl | omega) ?_
  rintro _ _ ⟨rfl, rfl⟩
  refine E_iret dX9_isTicket_11 rfl (xB_if _).n ?_
  exact ⟨rfl, rfl⟩
def xrv (S : xS) (P : Nat) : Int32 := if (gI S 59 0 P) = 0 then (gI S 55 0 P) + (gI S 57 0 P) - (gI S 58 0 P) else (gI S 55 0 P) - 3
def xrln (S : xS) (P : Nat) : Int32 := if 0 ≤ xrv S P then xrv S P else 0
def xrmn (S : xS) (P : Nat) : Int32 := if (gI S 59 0 P) = 0 then (gI S 56 0 P) + (gI S 57 0 P) - (gI S 58 0 P) else (gI S 56 0 P) + 3
theorem c_r_leastNow {S : xS} (hM : xShM S) {P : Nat} (hP : P < 4) : CC mX9_leastNow 1 0 0 [xR (some (9, 0)), xI (nI P)] S (aI (xrln S P) S) := by
  refine CC_of mpX9_leastNow rfl (Nat.le_of_ble_eq_true rfl) ?_
  unfold xrln xrv
  refine E_aload_n dX9_leastNow_0 rfl rfl ?_
  refine E_getR dX9_leastNow_1 fX9_35 rfl rfl rfl (rM_9 hM) ?_
  refine E_iload_n dX9_leastNow_4 rfl rfl ?_
  refine E_zald dX9_leastNow_5 rfl rfl (by decide) (lM_9 hM) (vin hP (by omega)) (vnat hP (by omega)) rfl ?_
  refine E_if_eq (tgt := 20) dX9_leastNow_6 (by decide) (fun h6 => ?_) (fun h6 => ?_)
  · refine E_aload_n dX9_leastNow_20 rfl rfl ?_
    refine E_getR dX9_leastNow_21 fX9_23 rfl rfl rfl (rM_5 hM) ?_
    refine E_iload_n dX9_leastNow_24 rfl rfl ?_
    refine E_iald dX9_leastNow_25 rfl rfl (by decide) (lM_5 hM) (vin hP (by omega)) (vnat hP (by omega)) rfl ?_
    refine E_aload_n dX9_leastNow_26 rfl rfl ?_
    refine E_getR dX9_leastNow_27 fX9_29 rfl rfl rfl (rM_7 hM) ?_
    refine E_iload_n dX9_leastNow_30 rfl rfl ?_
    refine E_iald dX9_leastNow_31 rfl rfl (by decide) (lM_7 hM) (vin hP (by omega)) (vnat hP (by omega)) rfl ?_
    refine E_iadd dX9_leastNow_32 ?_
    refine E_aload_n dX9_leastNow_33 rfl rfl ?_
    refine E_getR dX9_leastNow_34 fX9_32 rfl rfl rfl (rM_8 hM) ?_
    refine E_iload_n dX9_leastNow_37 rfl rfl ?_
    refine E_iald dX9_leastNow_38 rfl rfl (by decide) (lM_8 hM) (vin hP (by omega)) (vnat hP (by omega)) rfl ?_
    refine E_isub dX9_leastNow_39 ?_
    refine E_istore_n dX9_leastNow_40 rfl (by decide) rfl ?_
    refine E_iload_n dX9_leastNow_41 rfl rfl ?_
    refine E_if_ge (tgt := 49) dX9_leastNow_42 (by decide) (fun h42 => ?_) (fun h42 => ?_)
    · refine E_iload_n dX9_leastNow_49 rfl rfl ?_
      refine E_iret dX9_leastNow_50 rfl rfl ?_
      refine ⟨congrArg (fun z => some (xI z)) ?_, rfl⟩; simp only [h6, if_true, if_false]; first | rw [if_neg h42] | rw [if_pos h42]
    · refine E_iconst (v := 0) dX9_leastNow_45 (by decide) ?_
      refine E_goto (tgt := 50) dX9_leastNow_46 (by decide) ?_
      refine E_iret dX9_leastNow_50 rfl rfl ?_
      refine ⟨congrArg (fun z => some (xI z)) ?_, rfl⟩; simp only [h6, if_true, if_false]; first | rw [if_neg h42] | rw [if_pos h42]
  · refine E_aload_n dX9_leastNow_9 rfl rfl ?_
    refine E_getR dX9_leastNow_10 fX9_23 rfl rfl rfl (rM_5 hM) ?_
    refine E_iload_n dX9_leastNow_13 rfl rfl ?_
    refine E_iald dX9_leastNow_14 rfl rfl (by decide) (lM_5 hM) (vin hP (by omega)) (vnat hP (by omega)) rfl ?_
    refine E_iconst (v := 3) dX9_leastNow_15 (by decide) ?_
    refine E_isub dX9_leastNow_16 ?_
    refine E_goto (tgt := 40) dX9_leastNow_17 (by decide) ?_
    refine E_istore_n dX9_leastNow_40 rfl (by decide) rfl ?_
    refine E_iload_n dX9_leastNow_41 rfl rfl ?_
    refine E_if_ge (tgt := 49) dX9_leastNow_42 (by decide) (fun h42 => ?_) (fun h42 => ?_)
    · refine E_iload_n dX9_leastNow_49 rfl rfl ?_
      refine E_iret dX9_leastNow_50 rfl rfl ?_
      refine ⟨congrArg (fun z => some (xI z)) ?_, rfl⟩; simp only [h6, if_true, if_false]; first | rw [if_neg h42] | rw [if_pos h42]
    · refine E_iconst (v := 0) dX9_leastNow_45 (by decide) ?_
      refine E_goto (tgt := 50) dX9_leastNow_46 (by decide) ?_
      refine E_iret dX9_leastNow_50 rfl rfl ?_
      refine ⟨congrArg (fun z => some (xI z)) ?_, rfl⟩; simp only [h6, if_true, if_false]; first | rw [if_neg h42] | rw [if_pos h42]
theorem c_r_mostNow {S : xS} (hM : xShM S) {P : Nat} (hP : P < 4) : CC mX9_mostNow 1 0 0 [xR (some (9, 0)), xI (nI P)] S (aI (xrmn S P) S) := by
  refine CC_of mpX9_mostNow rfl (Nat.le_of_ble_eq_true rfl) ?_
  unfold xrmn
  refine E_aload_n dX9_mostNow_0 rfl rfl ?_
  refine E_getR dX9_mostNow_1 fX9_35 rfl rfl rfl (rM_9 hM) ?_
  refine E_iload_n dX9_mostNow_4 rfl rfl ?_
  refine E_zald dX9_mostNow_5 rfl rfl (by decide) (lM_9 hM) (vin hP (by omega)) (vnat hP (by omega)) rfl ?_
  refine E_if_eq (tgt := 20) dX9_mostNow_6 (by decide) (fun h6 => ?_) (fun h6 => ?_)
  · refine E_aload_n dX9_mostNow_20 rfl rfl ?_
    refine E_getR dX9_mostNow_21 fX9_26 rfl rfl rfl (rM_6 hM) ?_
    refine E_iload_n dX9_mostNow_24 rfl rfl ?_
    refine E_iald dX9_mostNow_25 rfl rfl (by decide) (lM_6 hM) (vin hP (by omega)) (vnat hP (by omega)) rfl ?_
    refine E_aload_n dX9_mostNow_26 rfl rfl ?_
    refine E_getR dX9_mostNow_27 fX9_29 rfl rfl rfl (rM_7 hM) ?_
    refine E_iload_n dX9_mostNow_30 rfl rfl ?_
    refine E_iald dX9_mostNow_31 rfl rfl (by decide) (lM_7 hM) (vin hP (by omega)) (vnat hP (by omega)) rfl ?_
    refine E_iadd dX9_mostNow_32 ?_
    refine E_aload_n dX9_mostNow_33 rfl rfl ?_
    refine E_getR dX9_mostNow_34 fX9_32 rfl rfl rfl (rM_8 hM) ?_
    refine E_iload_n dX9_mostNow_37 rfl rfl ?_
    refine E_iald dX9_mostNow_38 rfl rfl (by decide) (lM_8 hM) (vin hP (by omega)) (vnat hP (by omega)) rfl ?_
    refine E_isub dX9_mostNow_39 ?_
    refine E_iret dX9_mostNow_40 rfl rfl ?_
    refine ⟨congrArg (fun z => some (xI z)) ?_, rfl⟩; simp_all
  · refine E_aload_n dX9_mostNow_9 rfl rfl ?_
    refine E_getR dX9_mostNow_10 fX9_26 rfl rfl rfl (rM_6 hM) ?_
    refine E_iload_n dX9_mostNow_13 rfl rfl ?_
    refine E_iald dX9_mostNow_14 rfl rfl (by decide) (lM_6 hM) (vin hP (by omega)) (vnat hP (by omega)) rfl ?_
    refine E_iconst (v := 3) dX9_mostNow_15 (by decide) ?_
    refine E_iadd dX9_mostNow_16 ?_
    refine E_goto (tgt := 40) dX9_mostNow_17 (by decide) ?_
    refine E_iret dX9_mostNow_40 rfl rfl ?_
    refine ⟨congrArg (fun z => some (xI z)) ?_, rfl⟩; simp_all
def xrbg (S : xS) (P : Nat) (a b : Int32) : xS := (sI (sI (sI (sI (sI S 55 0 P a) 56 0 P b) 57 0 P 0) 58 0 P 0) 59 0 P (if (gI S 60 0 P) = 0 then 1 else 0))
theorem c_r_begins {S : xS} (hM : xShM S) {P : Nat} (hP : P < 4) (a b : Int32) : CC mX9_begins 1 0 0 [xR (some (9, 0)), xI (nI P), xI a, xI b] S (aV (xrbg S P a b)) := by
  refine CC_of mpX9_begins rfl (Nat.le_of_ble_eq_true rfl) ?_
  unfold xrbg
  refine E_aload_n dX9_begins_0 rfl rfl ?_
  refine E_getR dX9_begins_1 fX9_23 rfl rfl rfl (rM_5 hM) ?_
  refine E_iload_n dX9_begins_4 rfl rfl ?_
  refine E_iload_n dX9_begins_5 rfl rfl ?_
  refine E_iast dX9_begins_6 rfl rfl (by decide) (lM_5 hM) (vin hP (by omega)) (vnat hP (by omega)) ?_
  refine E_aload_n dX9_begins_7 rfl rfl ?_
  refine E_getR dX9_begins_8 fX9_26 rfl rfl rfl (rM_6 hM) ?_
  refine E_iload_n dX9_begins_11 rfl rfl ?_
  refine E_iload_n dX9_begins_12 rfl rfl ?_
  refine E_iast dX9_begins_13 rfl rfl (by decide) (lM_6 hM) (vin hP (by omega)) (vnat hP (by omega)) ?_
  refine E_aload_n dX9_begins_14 rfl rfl ?_
  refine E_getR dX9_begins_15 fX9_29 rfl rfl rfl (rM_7 hM) ?_
  refine E_iload_n dX9_begins_18 rfl rfl ?_
  refine E_iconst (v := 0) dX9_begins_19 (by decide) ?_
  refine E_iast dX9_begins_20 rfl rfl (by decide) (lM_7 hM) (vin hP (by omega)) (vnat hP (by omega)) ?_
  refine E_aload_n dX9_begins_21 rfl rfl ?_
  refine E_getR dX9_begins_22 fX9_32 rfl rfl rfl (rM_8 hM) ?_
  refine E_iload_n dX9_begins_25 rfl rfl ?_
  refine E_iconst (v := 0) dX9_begins_26 (by decide) ?_
  refine E_iast dX9_begins_27 rfl rfl (by decide) (lM_8 hM) (vin hP (by omega)) (vnat hP (by omega)) ?_
  refine E_aload_n dX9_begins_28 rfl rfl ?_
  refine E_getR dX9_begins_29 fX9_35 rfl rfl rfl (rM_9 hM) ?_
  refine E_iload_n dX9_begins_32 rfl rfl ?_
  refine E_aload_n dX9_begins_33 rfl rfl ?_
  refine E_getR dX9_begins_34 fX9_38 rfl rfl rfl (rM_10 hM) ?_
  refine E_iload_n dX9_begins_37 rfl rfl ?_
  refine E_zald dX9_begins_38 rfl rfl (by decide) (lM_10 hM) (vin hP (by omega)) (vnat hP (by omega)) (Eq.refl (gI S 60 0 P)) ?_
  refine E_if_ne (tgt := 46) dX9_begins_39 (by decide) (fun h39 => ?_) (fun h39 => ?_)
  · refine E_iconst (v := 0) dX9_begins_46 (by decide) ?_
    refine E_zast dX9_begins_47 rfl rfl (by decide) (lM_9 hM) (vin hP (by omega)) (vnat hP (by omega)) rfl ?_
    refine E_vret dX9_begins_48 rfl ?_
    refine ⟨rfl, ?_⟩; first | rw [if_pos (by assumption)] | rw [if_neg (by assumption)]
  · refine E_iconst (v := 1) dX9_begins_42 (by decide) ?_
    refine E_goto (tgt := 47) dX9_begins_43 (by decide) ?_
    refine E_zast dX9_begins_47 rfl rfl (by decide) (lM_9 hM) (vin hP (by omega)) (vnat hP (by omega)) rfl ?_
    refine E_vret dX9_begins_48 rfl ?_
    refine ⟨rfl, ?_⟩; first | rw [if_pos (by assumption)] | rw [if_neg (by assumption)]
theorem c_r_isThere {S : xS} (hM : xShM S) {c : Nat} (hc : c < 20) : CC mX9_isThere 1 0 0 [xR (some (9, 0)), xI (nI c)] S (aI (if (gI S 89 0 c) ≤ (gI S 9 0 0) ∧ (gI S 9 0 0) < (gI S 90 0 c) then 1 else 0) S) := by
  refine CC_of mpX9_isThere rfl (Nat.le_of_ble_eq_true rfl) ?_
  refine E_aload_n dX9_isThere_0 rfl rfl ?_
  refine E_getI dX9_isThere_1 fX9_148 rfl rfl rfl rfl ?_
  refine E_aload_n dX9_isThere_4 rfl rfl ?_
  refine E_getR dX9_isThere_5 fX9_120 rfl rfl rfl (rM_39 hM) ?_
  refine E_iload_n dX9_isThere_8 rfl rfl ?_
  refine E_iald dX9_isThere_9 rfl rfl (by decide) (lM_39 hM) (vin hc (by omega)) (vnat hc (by omega)) rfl ?_
  refine E_icmp_lt (tgt := 30) dX9_isThere_10 (by decide) (fun h10 => ?_) (fun h10 => ?_)
  · refine E_iconst (v := 0) dX9_isThere_30 (by decide) ?_
    refine E_iret dX9_isThere_31 rfl rfl ?_
    refine ⟨congrArg (fun z => some (xI z)) ?_, rfl⟩; (try split) <;> first | rfl | (exfalso; simp only [fa_lt, fa_le, fa_eq] at *; omega)
  · refine E_aload_n dX9_isThere_13 rfl rfl ?_
    refine E_getI dX9_isThere_14 fX9_148 rfl rfl rfl rfl ?_
    refine E_aload_n dX9_isThere_17 rfl rfl ?_
    refine E_getR dX9_isThere_18 fX9_123 rfl rfl rfl (rM_40 hM) ?_
    refine E_iload_n dX9_isThere_21 rfl rfl ?_
    refine E_iald dX9_isThere_22 rfl rfl (by decide) (lM_40 hM) (vin hc (by omega)) (vnat hc (by omega)) rfl ?_
    refine E_icmp_ge (tgt := 30) dX9_isThere_23 (by decide) (fun h23 => ?_) (fun h23 => ?_)
    · refine E_iconst (v := 0) dX9_isThere_30 (by decide) ?_
      refine E_iret dX9_isThere_31 rfl rfl ?_
      refine ⟨congrArg (fun z => some (xI z)) ?_, rfl⟩; (try split) <;> first | rfl | (exfalso; simp only [fa_lt, fa_le, fa_eq] at *; omega)
    · refine E_iconst (v := 1) dX9_isThere_26 (by decide) ?_
      refine E_goto (tgt := 31) dX9_isThere_27 (by decide) ?_
      refine E_iret dX9_isThere_31 rfl rfl ?_
      refine ⟨congrArg (fun z => some (xI z)) ?_, rfl⟩; (try split) <;> first | rfl | (exfalso; simp only [fa_lt, fa_le, fa_eq] at *; omega)
def xrfl (S : xS) (A : Nat) : Int32 := if ¬ (gI S 70 0 A) = -1 ∧ (gI S 9 0 0) - (gI S 71 0 A) < 60 then 1 else 0
theorem c_r_isFilled {S : xS} (hM : xShM S) {A : Nat} (hA : A < 12) : CC mX9_isFilled 1 0 0 [xR (some (9, 0)), xI (nI A)] S (aI (xrfl S A) S) := by
  refine CC_of mpX9_isFilled rfl (Nat.le_of_ble_eq_true rfl) ?_
  unfold xrfl
  refine E_aload_n dX9_isFilled_0 rfl rfl ?_
  refine E_getR dX9_isFilled_1 fX9_68 rfl rfl rfl (rM_20 hM) ?_
  refine E_iload_n dX9_isFilled_4 rfl rfl ?_
  refine E_iald dX9_isFilled_5 rfl rfl (by decide) (lM_20 hM) (vin hA (by omega)) (vnat hA (by omega)) rfl ?_
  refine E_iconst (v := -1) dX9_isFilled_6 (by decide) ?_
  refine E_icmp_eq (tgt := 30) dX9_isFilled_7 (by decide) (fun h7 => ?_) (fun h7 => ?_)
  · refine E_iconst (v := 0) dX9_isFilled_30 (by decide) ?_
    refine E_iret dX9_isFilled_31 rfl rfl ?_
    refine ⟨congrArg (fun z => some (xI z)) ?_, rfl⟩; simp_all [Int32.not_le]
  · refine E_aload_n dX9_isFilled_10 rfl rfl ?_
    refine E_getI dX9_isFilled_11 fX9_148 rfl rfl rfl rfl ?_
    refine E_aload_n dX9_isFilled_14 rfl rfl ?_
    refine E_getR dX9_isFilled_15 fX9_71 rfl rfl rfl (rM_21 hM) ?_
    refine E_iload_n dX9_isFilled_18 rfl rfl ?_
    refine E_iald dX9_isFilled_19 rfl rfl (by decide) (lM_21 hM) (vin hA (by omega)) (vnat hA (by omega)) rfl ?_
    refine E_isub dX9_isFilled_20 ?_
    refine E_bipush (v := 60) dX9_isFilled_21 (by decide) ?_
    refine E_icmp_ge (tgt := 30) dX9_isFilled_23 (by decide) (fun h23 => ?_) (fun h23 => ?_)
    · refine E_iconst (v := 0) dX9_isFilled_30 (by decide) ?_
      refine E_iret dX9_isFilled_31 rfl rfl ?_
      refine ⟨congrArg (fun z => some (xI z)) ?_, rfl⟩; simp_all [Int32.not_le]
    · refine E_iconst (v := 1) dX9_isFilled_26 (by decide) ?_
      refine E_goto (tgt := 31) dX9_isFilled_27 (by decide) ?_
      refine E_iret dX9_isFilled_31 rfl rfl ?_
      refine ⟨congrArg (fun z => some (xI z)) ?_, rfl⟩; simp_all [Int32.not_le]
theorem nI_3 (P k : Nat) : (3 : Int32) * nI P + nI k = nI (3 * P + k) := by
  rw [← nI_add, show (3 : Int32) * nI P = nI (3 * P) from (Int32.ofNat_mul 3 P).symm]
/-- what is wrong in a pool, its first things and posts -/
def xr1 (S : xS) (P k : Nat) (a : Int32) : Int32 := if ¬ (gI S 67 0 (3 * P + k)) = 0 ∧ ¬ ((gI S 64 0 (3 * P + k)) ≤ (gI S 66 0 (3 * P + k)) ∧ (gI S 66 0 (3 * P + k)) ≤ (gI S 65 0 (3 * P + k))) then a ||| 1 <<< (nI k &&& 31) else a
def xr2 (S : xS) (P k : Nat) (a : Int32) : Int32 := if 120 ≤ (gI S 9 0 0) - (gI S 68 0 (3 * P + k)) then a ||| 8 else a
def xr3 (S : xS) (P k : Nat) (a : Int32) : Int32 := if nI k < (gI S 54 0 P) ∧ xrfl S (3 * P + k) = 0 then a ||| 32 else a
def xrrl (S : xS) (P : Nat) : Nat → Int32
  | 0 => if (gI S 9 0 0) < (gI S 69 0 P) then 16 else 0
  | k + 1 => xr3 S P k (xr2 S P k (xr1 S P k (xrrl S P k)))
theorem l_r_reasons3 {S : xS} (hM : xShM S) {P k : Nat} (hP : P < 4) (hk : k < 3) (v : Int32) (h : ∀ o, Ex mX9_reasons 2 0 0 (0, fun _ => 0) (aI (xrrl S P 3) S) 22 [some (xR (some (9, 0))), some (xI (nI P)), some (xI (xr3 S P k v)), some (xI (nI (k + 1))), o] [] S) : Ex mX9_reasons 2 0 0 (0, fun _ => 0) (aI (xrrl S P 3) S) 99 [some (xR (some (9, 0))), some (xI (nI P)), some (xI v), some (xI (nI k)), some (xI (nI (3 * P + k)))] [] S := by
  have hA : 3 * P + k < 12 := by omega
  have h := h (some (xI (nI (3 * P + k))))
  unfold xr3 at h
  refine E_iload_n dX9_reasons_99 rfl rfl ?_
  refine E_aload_n dX9_reasons_100 rfl rfl ?_
  refine E_getR dX9_reasons_101 fX9_20 rfl rfl rfl (rM_4 hM) ?_
  refine E_iload_n dX9_reasons_104 rfl rfl ?_
  refine E_iald dX9_reasons_105 rfl rfl (by decide) (lM_4 hM) (vin hP (by omega)) (vnat hP (by omega)) rfl ?_
  refine E_icmp_ge (tgt := 123) dX9_reasons_106 (by decide) (fun h106 => ?_) (fun h106 => ?_)
  · rw [if_neg (fun z => Int32.not_lt.mpr h106 z.1)] at h
    refine E_iinc (v := nI (k + 1)) dX9_reasons_123 rfl (nI_i1 k) (by decide) rfl ?_
    refine E_goto (tgt := 22) dX9_reasons_126 (by decide) ?_
    exact h
  · refine E_aload_n dX9_reasons_109 rfl rfl ?_
    refine E_iload dX9_reasons_110 rfl ?_
    refine E_callV (m2 := mX9_isFilled) dX9_reasons_112 kX9_175 mzX9_isFilled (c_r_isFilled hM hA) rfl ⟨_, _, rfl⟩ rfl rfl (by decide) (xs8 (Nat.le_of_ble_eq_true rfl)) (by first | exact Nat.le_of_ble_eq_true rfl | omega) (by first | exact Nat.le_of_ble_eq_true rfl | omega) ?_
    rintro _ _ ⟨rfl, rfl⟩
    refine E_if_ne (tgt := 123) dX9_reasons_115 (by decide) (fun h115 => ?_) (fun h115 => ?_)
    · rw [if_neg (fun z => h115 z.2)] at h
      refine E_iinc (v := nI (k + 1)) dX9_reasons_123 rfl (nI_i1 k) (by decide) rfl ?_
      refine E_goto (tgt := 22) dX9_reasons_126 (by decide) ?_
      exact h
    · rw [if_pos ⟨Int32.not_le.mp h106, h115⟩] at h
      refine E_iload_n dX9_reasons_118 rfl rfl ?_
      refine E_bipush (v := 32) dX9_reasons_119 (by decide) ?_
      refine E_ior dX9_reasons_121 ?_
      refine E_istore_n dX9_reasons_122 rfl (by decide) rfl ?_
      refine E_iinc (v := nI (k + 1)) dX9_reasons_123 rfl (nI_i1 k) (by decide) rfl ?_
      refine E_goto (tgt := 22) dX9_reasons_126 (by decide) ?_
      exact h
theorem l_r_reasons2 {S : xS} (hM : xShM S) {P k : Nat} (hP : P < 4) (hk : k < 3) (v : Int32) (h : ∀ o, Ex mX9_reasons 2 0 0 (0, fun _ => 0) (aI (xrrl S P 3) S) 22 [some (xR (some (9, 0))), some (xI (nI P)), some (xI (xr3 S P k (xr2 S P k v))), some (xI (nI (k + 1))), o] [] S) : Ex mX9_reasons 2 0 0 (0, fun _ => 0) (aI (xrrl S P 3) S) 77 [some (xR (some (9, 0))), some (xI (nI P)), some (xI v), some (xI (nI k)), some (xI (nI (3 * P + k)))] [] S := by
  have hA : 3 * P + k < 12 := by omega
  unfold xr2 at h
  refine E_aload_n dX9_reasons_77 rfl rfl ?_
  refine E_getI dX9_reasons_78 fX9_148 rfl rfl rfl rfl ?_
  refine E_aload_n dX9_reasons_81 rfl rfl ?_
  refine E_getR dX9_reasons_82 fX9_62 rfl rfl rfl (rM_18 hM) ?_
  refine E_iload dX9_reasons_85 rfl ?_
  refine E_iald dX9_reasons_87 rfl rfl (by decide) (lM_18 hM) (vin hA (by omega)) (vnat hA (by omega)) rfl ?_
  refine E_isub dX9_reasons_88 ?_
  refine E_bipush (v := 120) dX9_reasons_89 (by decide) ?_
  refine E_icmp_lt (tgt := 99) dX9_reasons_91 (by decide) (fun h91 => ?_) (fun h91 => ?_)
  · rw [if_neg (Int32.not_le.mpr h91)] at h
    exact l_r_reasons3 hM hP hk _ h
  · rw [if_pos (Int32.not_lt.mp h91)] at h
    refine E_iload_n dX9_reasons_94 rfl rfl ?_
    refine E_bipush (v := 8) dX9_reasons_95 (by decide) ?_
    refine E_ior dX9_reasons_97 ?_
    refine E_istore_n dX9_reasons_98 rfl (by decide) rfl ?_
    exact l_r_reasons3 hM hP hk _ h
theorem l_r_reasons {S : xS} (hM : xShM S) {P : Nat} (hP : P < 4) : ∀ (n k : Nat), k + n = 3 → ∀ o, Ex mX9_reasons 2 0 0 (0, fun _ => 0) (aI (xrrl S P 3) S) 22 [some (xR (some (9, 0))), some (xI (nI P)), some (xI (xrrl S P k)), some (xI (nI k)), o] [] S
  | 0, k, hk, o => by
    have hk : k = 3 := by omega
    subst hk
    refine E_iload_n dX9_reasons_22 rfl rfl ?_
    refine E_iconst (v := 3) dX9_reasons_23 (by decide) ?_
    refine E_icmp_ge (tgt := 129) dX9_reasons_24 (by decide) (fun h24 => ?_) (fun h24 => absurd h24 ((fun z => z (nI_le (a := 3) (b := 3) (by omega) (by omega)))))
    refine E_iload_n dX9_reasons_129 rfl rfl ?_
    refine E_iret dX9_reasons_130 rfl rfl ?_
    exact ⟨rfl, rfl⟩
  | n + 1, k, hk, o => by
    have ih := l_r_reasons hM hP n (k + 1) (by omega)
    have hA : 3 * P + k < 12 := by omega
    have e : xrrl S P (k + 1) = xr3 S P k (xr2 S P k (xr1 S P k (xrrl S P k))) := rfl
    rw [e] at ih
    generalize xrrl S P k = v at ih ⊢
    unfold xr1 at ih
    refine E_iload_n dX9_reasons_22 rfl rfl ?_
    refine E_iconst (v := 3) dX9_reasons_23 (by decide) ?_
    refine E_icmp_ge (tgt := 129) dX9_reasons_24 (by decide) (fun h24 => absurd h24 ((nI_ge (a := k) (b := 3) (by omega) (by omega)))) (fun h24 => ?_)
    refine E_iconst (v := 3) dX9_reasons_27 (by decide) ?_
    refine E_iload_n dX9_reasons_28 rfl rfl ?_
    refine E_imul dX9_reasons_29 ?_
    refine E_iload_n dX9_reasons_30 rfl rfl ?_
    refine E_iadd dX9_reasons_31 ?_
    rw [nI_3]
    refine E_istore dX9_reasons_32 (by decide) rfl ?_
    refine E_aload_n dX9_reasons_34 rfl rfl ?_
    refine E_getR dX9_reasons_35 fX9_59 rfl rfl rfl (rM_17 hM) ?_
    refine E_iload dX9_reasons_38 rfl ?_
    refine E_zald dX9_reasons_40 rfl rfl (by decide) (lM_17 hM) (vin hA (by omega)) (vnat hA (by omega)) rfl ?_
    refine E_if_eq (tgt := 77) dX9_reasons_41 (by decide) (fun h41 => ?_) (fun h41 => ?_)
    · rw [if_neg (fun z => z.1 h41)] at ih
      exact l_r_reasons2 hM hP (by omega) _ ih
    · refine E_aload_n dX9_reasons_44 rfl rfl ?_
      refine E_getR dX9_reasons_45 fX9_56 rfl rfl rfl (rM_16 hM) ?_
      refine E_iload dX9_reasons_48 rfl ?_
      refine E_iald dX9_reasons_50 rfl rfl (by decide) (lM_16 hM) (vin hA (by omega)) (vnat hA (by omega)) rfl ?_
      refine E_aload_n dX9_reasons_51 rfl rfl ?_
      refine E_getR dX9_reasons_52 fX9_50 rfl rfl rfl (rM_14 hM) ?_
      refine E_iload dX9_reasons_55 rfl ?_
      refine E_iald dX9_reasons_57 rfl rfl (by decide) (lM_14 hM) (vin hA (by omega)) (vnat hA (by omega)) rfl ?_
      refine E_aload_n dX9_reasons_58 rfl rfl ?_
      refine E_getR dX9_reasons_59 fX9_53 rfl rfl rfl (rM_15 hM) ?_
      refine E_iload dX9_reasons_62 rfl ?_
      refine E_iald dX9_reasons_64 rfl rfl (by decide) (lM_15 hM) (vin hA (by omega)) (vnat hA (by omega)) rfl ?_
      refine E_callS (m2 := mX9_in) dX9_reasons_65 kX9_141 mzX9_in (c_X9_in _ _ _) rfl rfl (by decide) (xs8 (Nat.le_of_ble_eq_true rfl)) (by first | exact Nat.le_of_ble_eq_true rfl | omega) (by first | exact Nat.le_of_ble_eq_true rfl | omega) ?_
      rintro _ _ ⟨rfl, rfl⟩
      refine E_if_ne (tgt := 77) dX9_reasons_68 (by decide) (fun h68 => ?_) (fun h68 => ?_)
      · rw [if_neg (fun z => z.2 (ite1 h68))] at ih
        exact l_r_reasons2 hM hP (by omega) _ ih
      · rw [if_pos ⟨h41, ite0 h68⟩] at ih
        refine E_iload_n dX9_reasons_71 rfl rfl ?_
        refine E_iconst (v := 1) dX9_reasons_72 (by decide) ?_
        refine E_iload_n dX9_reasons_73 rfl rfl ?_
        refine E_ishl dX9_reasons_74 ?_
        refine E_ior dX9_reasons_75 ?_
        refine E_istore_n dX9_reasons_76 rfl (by decide) rfl ?_
        exact l_r_reasons2 hM hP (by omega) _ ih
theorem c_r_reasons {S : xS} (hM : xShM S) {P : Nat} (hP : P < 4) : CC mX9_reasons 2 0 0 [xR (some (9, 0)), xI (nI P)] S (aI (xrrl S P 3) S) := by
  refine CC_of mpX9_reasons rfl (Nat.le_of_ble_eq_true rfl) ?_
  have h := l_r_reasons hM hP 3 0 rfl
  unfold xrrl at h
  refine E_aload_n dX9_reasons_0 rfl rfl ?_
  refine E_getI dX9_reasons_1 fX9_148 rfl rfl rfl rfl ?_
  refine E_aload_n dX9_reasons_4 rfl rfl ?_
  refine E_getR dX9_reasons_5 fX9_65 rfl rfl rfl (rM_19 hM) ?_
  refine E_iload_n dX9_reasons_8 rfl rfl ?_
  refine E_iald dX9_reasons_9 rfl rfl (by decide) (lM_19 hM) (vin hP (by omega)) (vnat hP (by omega)) rfl ?_
  refine E_icmp_ge (tgt := 18) dX9_reasons_10 (by decide) (fun h10 => ?_) (fun h10 => ?_)
  · rw [if_neg (Int32.not_lt.mpr h10)] at h
    refine E_iconst (v := 0) dX9_reasons_18 (by decide) ?_
    refine E_istore_n dX9_reasons_19 rfl (by decide) rfl ?_
    refine E_iconst (v := 0) dX9_reasons_20 (by decide) ?_
    refine E_istore_n dX9_reasons_21 rfl (by decide) rfl ?_
    exact h _
  · rw [if_pos (Int32.not_le.mp h10)] at h
    refine E_bipush (v := 16) dX9_reasons_13 (by decide) ?_
    refine E_goto (tgt := 19) dX9_reasons_15 (by decide) ?_
    refine E_istore_n dX9_reasons_19 rfl (by decide) rfl ?_
    refine E_iconst (v := 0) dX9_reasons_20 (by decide) ?_
    refine E_istore_n dX9_reasons_21 rfl (by decide) rfl ?_
    exact h _
