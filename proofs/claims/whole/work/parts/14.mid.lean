/-! Lockers, Pool, Door, Ticket: methods that call, loops -/
theorem c_X2_hangKey_y {S : xS} (hX : xShX S) (l : Nat) (hl : l < 30) : CC mX2_hangKey 2 0 0 [xR (some (2, 0)), xI (nI l)] S (aV (sI (sI S 13 0 l (-1)) 14 0 l 0)) := by
  refine CC_of mpX2_hangKey rfl (Nat.le_of_ble_eq_true rfl) ?_
  have h1 : (0 : Int32) ≤ nI l ∧ nI l < 30 := ⟨nI_le (a := 0) (by omega) (by omega), nI_lt (b := 30) (by omega) (by omega)⟩
  refine E_iload_n dX2_hangKey_0 rfl rfl ?_
  refine E_callS (m2 := mX2_isLocker) dX2_hangKey_1 kX2_19 mzX2_isLocker (c_X2_isLocker _) rfl rfl (by decide) (xs8 (Nat.le_of_ble_eq_true rfl)) (by first | exact Nat.le_of_ble_eq_true rfl | omega) (by first | exact Nat.le_of_ble_eq_true rfl | omega) ?_
  rintro _ _ ⟨rfl, rfl⟩; rw [if_pos h1]
  refine E_if_eq (tgt := 21) dX2_hangKey_4 (by decide) (fun h4 => absurd h4 (by decide)) (fun h4 => ?_)
  refine E_aload_n dX2_hangKey_7 rfl rfl ?_
  refine E_getR dX2_hangKey_8 fX2_9 rfl rfl rfl (rX_2_0 hX) ?_
  refine E_iload_n dX2_hangKey_11 rfl rfl ?_
  refine E_iconst (v := -1) dX2_hangKey_12 (by decide) ?_
  refine E_iast dX2_hangKey_13 rfl rfl (by decide) (lX_13 hX) (vin hl (by omega)) (vnat hl (by omega)) ?_
  refine E_aload_n dX2_hangKey_14 rfl rfl ?_
  refine E_getR dX2_hangKey_15 fX2_15 rfl rfl rfl (rX_2_1 hX) ?_
  refine E_iload_n dX2_hangKey_18 rfl rfl ?_
  refine E_iconst (v := 0) dX2_hangKey_19 (by decide) ?_
  refine E_zast dX2_hangKey_20 rfl rfl (by decide) (lX_14 hX) (vin hl (by omega)) (vnat hl (by omega)) rfl ?_
  refine E_vret dX2_hangKey_21 rfl ?_
  exact ⟨rfl, rfl⟩
theorem c_X2_hangKey_n {S : xS} (x : Int32) (h1 : ¬ (0 ≤ x ∧ x < 30)) : CC mX2_hangKey 2 0 0 [xR (some (2, 0)), xI x] S (aV S) := by
  refine CC_of mpX2_hangKey rfl (Nat.le_of_ble_eq_true rfl) ?_
  refine E_iload_n dX2_hangKey_0 rfl rfl ?_
  refine E_callS (m2 := mX2_isLocker) dX2_hangKey_1 kX2_19 mzX2_isLocker (c_X2_isLocker _) rfl rfl (by decide) (xs8 (Nat.le_of_ble_eq_true rfl)) (by first | exact Nat.le_of_ble_eq_true rfl | omega) (by first | exact Nat.le_of_ble_eq_true rfl | omega) ?_
  rintro _ _ ⟨rfl, rfl⟩; rw [if_neg h1]
  refine E_if_eq (tgt := 21) dX2_hangKey_4 (by decide) (fun h4 => ?_) (fun h4 => absurd h4 (by decide))
  refine E_vret dX2_hangKey_21 rfl ?_
  exact ⟨rfl, rfl⟩
theorem c_X2_lose_y {S : xS} (hX : xShX S) (l : Nat) (hl : l < 30) : CC mX2_lose 2 0 0 [xR (some (2, 0)), xI (nI l)] S (aV (sI S 14 0 l 1)) := by
  refine CC_of mpX2_lose rfl (Nat.le_of_ble_eq_true rfl) ?_
  have h1 : (0 : Int32) ≤ nI l ∧ nI l < 30 := ⟨nI_le (a := 0) (by omega) (by omega), nI_lt (b := 30) (by omega) (by omega)⟩
  refine E_iload_n dX2_lose_0 rfl rfl ?_
  refine E_callS (m2 := mX2_isLocker) dX2_lose_1 kX2_19 mzX2_isLocker (c_X2_isLocker _) rfl rfl (by decide) (xs8 (Nat.le_of_ble_eq_true rfl)) (by first | exact Nat.le_of_ble_eq_true rfl | omega) (by first | exact Nat.le_of_ble_eq_true rfl | omega) ?_
  rintro _ _ ⟨rfl, rfl⟩; rw [if_pos h1]
  refine E_if_eq (tgt := 14) dX2_lose_4 (by decide) (fun h4 => absurd h4 (by decide)) (fun h4 => ?_)
  refine E_aload_n dX2_lose_7 rfl rfl ?_
  refine E_getR dX2_lose_8 fX2_15 rfl rfl rfl (rX_2_1 hX) ?_
  refine E_iload_n dX2_lose_11 rfl rfl ?_
  refine E_iconst (v := 1) dX2_lose_12 (by decide) ?_
  refine E_zast dX2_lose_13 rfl rfl (by decide) (lX_14 hX) (vin hl (by omega)) (vnat hl (by omega)) rfl ?_
  refine E_vret dX2_lose_14 rfl ?_
  exact ⟨rfl, rfl⟩
theorem c_X2_lose_n {S : xS} (x : Int32) (h1 : ¬ (0 ≤ x ∧ x < 30)) : CC mX2_lose 2 0 0 [xR (some (2, 0)), xI x] S (aV S) := by
  refine CC_of mpX2_lose rfl (Nat.le_of_ble_eq_true rfl) ?_
  refine E_iload_n dX2_lose_0 rfl rfl ?_
  refine E_callS (m2 := mX2_isLocker) dX2_lose_1 kX2_19 mzX2_isLocker (c_X2_isLocker _) rfl rfl (by decide) (xs8 (Nat.le_of_ble_eq_true rfl)) (by first | exact Nat.le_of_ble_eq_true rfl | omega) (by first | exact Nat.le_of_ble_eq_true rfl | omega) ?_
  rintro _ _ ⟨rfl, rfl⟩; rw [if_neg h1]
  refine E_if_eq (tgt := 14) dX2_lose_4 (by decide) (fun h4 => ?_) (fun h4 => absurd h4 (by decide))
  refine E_vret dX2_lose_14 rfl ?_
  exact ⟨rfl, rfl⟩
theorem l_X2_lostOnes {S : xS} (hX : xShX S) : ∀ (n i : Nat), i + n = 30 → ∀ v, v = xsm (fun l => if (gI S 14 0 l) = 0 then 0 else 1) i → Ex mX2_lostOnes 1 0 0 (0, fun _ => 0) (aI (xsm (fun l => if (gI S 14 0 l) = 0 then 0 else 1) 30) S) 4 [some (xR (some (2, 0))), some (xI v), some (xI (nI i))] [] S
  | 0, i, hi, v, hv => by
    refine E_iload_n dX2_lostOnes_4 rfl rfl ?_
    refine E_bipush (v := 30) dX2_lostOnes_5 (by decide) ?_
    refine E_icmp_ge (tgt := 33) dX2_lostOnes_7 (by decide) (fun h7 => ?_) (fun h7 => absurd h7 ((fun z => z (nI_le (a := 30) (b := i) (by omega) (by omega)))))
    refine E_iload_n dX2_lostOnes_33 rfl rfl ?_
    refine E_iret dX2_lostOnes_34 rfl rfl ?_
    exact ⟨by rw [hv, show i = 30 by omega], rfl⟩
  | n + 1, i, hi, v, hv => by
    refine E_iload_n dX2_lostOnes_4 rfl rfl ?_
    refine E_bipush (v := 30) dX2_lostOnes_5 (by decide) ?_
    refine E_icmp_ge (tgt := 33) dX2_lostOnes_7 (by decide) (fun h7 => absurd h7 ((nI_ge (a := i) (b := 30) (by omega) (by omega)))) (fun h7 => ?_)
    refine E_iload_n dX2_lostOnes_10 rfl rfl ?_
    refine E_aload_n dX2_lostOnes_11 rfl rfl ?_
    refine E_getR dX2_lostOnes_12 fX2_15 rfl rfl rfl (rX_2_1 hX) ?_
    refine E_iload_n dX2_lostOnes_15 rfl rfl ?_
    refine E_zald dX2_lostOnes_16 rfl rfl (by decide) (lX_14 hX) (vin (by omega : i < 30) (by omega)) (vnat (by omega : i < 30) (by omega)) rfl ?_
    refine E_if_eq (tgt := 24) dX2_lostOnes_17 (by decide) (fun h17 => ?_) (fun h17 => ?_)
    · refine E_iconst (v := 0) dX2_lostOnes_24 (by decide) ?_
      refine E_iadd dX2_lostOnes_25 ?_
      refine E_istore_n dX2_lostOnes_26 rfl (by decide) rfl ?_
      refine E_iinc (v := nI (i + 1)) dX2_lostOnes_27 rfl (nI_i1 i) (by decide) rfl ?_
      refine E_goto (tgt := 4) dX2_lostOnes_30 (by decide) ?_
      refine l_X2_lostOnes hX n (i + 1) (by omega) _ ?_
      rw [xsm_succ, ← hv]; congr 1; (try split) <;> simp_all
    · refine E_iconst (v := 1) dX2_lostOnes_20 (by decide) ?_
      refine E_goto (tgt := 25) dX2_lostOnes_21 (by decide) ?_
      refine E_iadd dX2_lostOnes_25 ?_
      refine E_istore_n dX2_lostOnes_26 rfl (by decide) rfl ?_
      refine E_iinc (v := nI (i + 1)) dX2_lostOnes_27 rfl (nI_i1 i) (by decide) rfl ?_
      refine E_goto (tgt := 4) dX2_lostOnes_30 (by decide) ?_
      refine l_X2_lostOnes hX n (i + 1) (by omega) _ ?_
      rw [xsm_succ, ← hv]; congr 1; (try split) <;> simp_all
theorem c_X2_lostOnes {S : xS} (hX : xShX S) : CC mX2_lostOnes 1 0 0 [xR (some (2, 0))] S (aI (xsm (fun l => if (gI S 14 0 l) = 0 then 0 else 1) 30) S) := by
  refine CC_of mpX2_lostOnes rfl (Nat.le_of_ble_eq_true rfl) ?_
  refine E_iconst (v := 0) dX2_lostOnes_0 (by decide) ?_
  refine E_istore_n dX2_lostOnes_1 rfl (by decide) rfl ?_
  refine E_iconst (v := 0) dX2_lostOnes_2 (by decide) ?_
  refine E_istore_n dX2_lostOnes_3 rfl (by decide) rfl ?_
  exact l_X2_lostOnes hX 30 0 rfl 0 rfl
theorem l_X2_keysOut {S : xS} (hX : xShX S) : ∀ (n i : Nat), i + n = 30 → ∀ v, v = xsm (fun l => if ¬ (gI S 13 0 l) = -1 ∧ (gI S 14 0 l) = 0 then 1 else 0) i → Ex mX2_keysOut 1 0 0 (0, fun _ => 0) (aI (xsm (fun l => if ¬ (gI S 13 0 l) = -1 ∧ (gI S 14 0 l) = 0 then 1 else 0) 30) S) 4 [some (xR (some (2, 0))), some (xI v), some (xI (nI i))] [] S
  | 0, i, hi, v, hv => by
    refine E_iload_n dX2_keysOut_4 rfl rfl ?_
    refine E_bipush (v := 30) dX2_keysOut_5 (by decide) ?_
    refine E_icmp_ge (tgt := 43) dX2_keysOut_7 (by decide) (fun h7 => ?_) (fun h7 => absurd h7 ((fun z => z (nI_le (a := 30) (b := i) (by omega) (by omega)))))
    refine E_iload_n dX2_keysOut_43 rfl rfl ?_
    refine E_iret dX2_keysOut_44 rfl rfl ?_
    exact ⟨by rw [hv, show i = 30 by omega], rfl⟩
  | n + 1, i, hi, v, hv => by
    refine E_iload_n dX2_keysOut_4 rfl rfl ?_
    refine E_bipush (v := 30) dX2_keysOut_5 (by decide) ?_
    refine E_icmp_ge (tgt := 43) dX2_keysOut_7 (by decide) (fun h7 => absurd h7 ((nI_ge (a := i) (b := 30) (by omega) (by omega)))) (fun h7 => ?_)
    refine E_iload_n dX2_keysOut_10 rfl rfl ?_
    refine E_aload_n dX2_keysOut_11 rfl rfl ?_
    refine E_getR dX2_keysOut_12 fX2_9 rfl rfl rfl (rX_2_0 hX) ?_
    refine E_iload_n dX2_keysOut_15 rfl rfl ?_
    refine E_iald dX2_keysOut_16 rfl rfl (by decide) (lX_13 hX) (vin (by omega : i < 30) (by omega)) (vnat (by omega : i < 30) (by omega)) rfl ?_
    refine E_iconst (v := -1) dX2_keysOut_17 (by decide) ?_
    refine E_icmp_eq (tgt := 34) dX2_keysOut_18 (by decide) (fun h18 => ?_) (fun h18 => ?_)
    · refine E_iconst (v := 0) dX2_keysOut_34 (by decide) ?_
      refine E_iadd dX2_keysOut_35 ?_
      refine E_istore_n dX2_keysOut_36 rfl (by decide) rfl ?_
      refine E_iinc (v := nI (i + 1)) dX2_keysOut_37 rfl (nI_i1 i) (by decide) rfl ?_
      refine E_goto (tgt := 4) dX2_keysOut_40 (by decide) ?_
      refine l_X2_keysOut hX n (i + 1) (by omega) _ ?_
      rw [xsm_succ, ← hv]; congr 1; (try split) <;> simp_all
    · refine E_aload_n dX2_keysOut_21 rfl rfl ?_
      refine E_getR dX2_keysOut_22 fX2_15 rfl rfl rfl (rX_2_1 hX) ?_
      refine E_iload_n dX2_keysOut_25 rfl rfl ?_
      refine E_zald dX2_keysOut_26 rfl rfl (by decide) (lX_14 hX) (vin (by omega : i < 30) (by omega)) (vnat (by omega : i < 30) (by omega)) rfl ?_
      refine E_if_ne (tgt := 34) dX2_keysOut_27 (by decide) (fun h27 => ?_) (fun h27 => ?_)
      · refine E_iconst (v := 0) dX2_keysOut_34 (by decide) ?_
        refine E_iadd dX2_keysOut_35 ?_
        refine E_istore_n dX2_keysOut_36 rfl (by decide) rfl ?_
        refine E_iinc (v := nI (i + 1)) dX2_keysOut_37 rfl (nI_i1 i) (by decide) rfl ?_
        refine E_goto (tgt := 4) dX2_keysOut_40 (by decide) ?_
        refine l_X2_keysOut hX n (i + 1) (by omega) _ ?_
        rw [xsm_succ, ← hv]; congr 1; (try split) <;> simp_all
      · refine E_iconst (v := 1) dX2_keysOut_30 (by decide) ?_
        refine E_goto (tgt := 35) dX2_keysOut_31 (by decide) ?_
        refine E_iadd dX2_keysOut_35 ?_
        refine E_istore_n dX2_keysOut_36 rfl (by decide) rfl ?_
        refine E_iinc (v := nI (i + 1)) dX2_keysOut_37 rfl (nI_i1 i) (by decide) rfl ?_
        refine E_goto (tgt := 4) dX2_keysOut_40 (by decide) ?_
        refine l_X2_keysOut hX n (i + 1) (by omega) _ ?_
        rw [xsm_succ, ← hv]; congr 1; (try split) <;> simp_all
theorem c_X2_keysOut {S : xS} (hX : xShX S) : CC mX2_keysOut 1 0 0 [xR (some (2, 0))] S (aI (xsm (fun l => if ¬ (gI S 13 0 l) = -1 ∧ (gI S 14 0 l) = 0 then 1 else 0) 30) S) := by
  refine CC_of mpX2_keysOut rfl (Nat.le_of_ble_eq_true rfl) ?_
  refine E_iconst (v := 0) dX2_keysOut_0 (by decide) ?_
  refine E_istore_n dX2_keysOut_1 rfl (by decide) rfl ?_
  refine E_iconst (v := 0) dX2_keysOut_2 (by decide) ?_
  refine E_istore_n dX2_keysOut_3 rfl (by decide) rfl ?_
  exact l_X2_keysOut hX 30 0 rfl 0 rfl
theorem l_X2_takeLowest_y {S : xS} (hX : xShX S) (x : Int32) (l : Nat) (hl : l < 30) (h0 : (gI S 13 0 l) = -1) (h1 : ∀ k, k < l → ¬ (gI S 13 0 k) = -1) : ∀ (n i : Nat), i + n = l → Ex mX2_takeLowest 1 0 0 (0, fun _ => 0) (aI (nI l) (sI S 13 0 l x)) 2 [some (xR (some (2, 0))), some (xI x), some (xI (nI i))] [] S
  | 0, i, hi => by
    have hil : i = l := by omega
    subst hil
    refine E_iload_n dX2_takeLowest_2 rfl rfl ?_
    refine E_bipush (v := 30) dX2_takeLowest_3 (by decide) ?_
    refine E_icmp_ge (tgt := 33) dX2_takeLowest_5 (by decide) (fun h5 => absurd h5 ((nI_ge (a := i) (b := 30) (by omega) (by omega)))) (fun h5 => ?_)
    refine E_aload_n dX2_takeLowest_8 rfl rfl ?_
    refine E_getR dX2_takeLowest_9 fX2_9 rfl rfl rfl (rX_2_0 hX) ?_
    refine E_iload_n dX2_takeLowest_12 rfl rfl ?_
    refine E_iald dX2_takeLowest_13 rfl rfl (by decide) (lX_13 hX) (vin hl (by omega)) (vnat hl (by omega)) rfl ?_
    refine E_iconst (v := -1) dX2_takeLowest_14 (by decide) ?_
    refine E_icmp_ne (tgt := 27) dX2_takeLowest_15 (by decide) (fun h15 => absurd h15 (fun z => z h0)) (fun h15 => ?_)
    refine E_aload_n dX2_takeLowest_18 rfl rfl ?_
    refine E_getR dX2_takeLowest_19 fX2_9 rfl rfl rfl (rX_2_0 hX) ?_
    refine E_iload_n dX2_takeLowest_22 rfl rfl ?_
    refine E_iload_n dX2_takeLowest_23 rfl rfl ?_
    refine E_iast dX2_takeLowest_24 rfl rfl (by decide) (lX_13 hX) (vin hl (by omega)) (vnat hl (by omega)) ?_
    refine E_iload_n dX2_takeLowest_25 rfl rfl ?_
    refine E_iret dX2_takeLowest_26 rfl rfl ?_
    exact ⟨rfl, rfl⟩
  | n + 1, i, hi => by
    refine E_iload_n dX2_takeLowest_2 rfl rfl ?_
    refine E_bipush (v := 30) dX2_takeLowest_3 (by decide) ?_
    refine E_icmp_ge (tgt := 33) dX2_takeLowest_5 (by decide) (fun h5 => absurd h5 ((nI_ge (a := i) (b := 30) (by omega) (by omega)))) (fun h5 => ?_)
    refine E_aload_n dX2_takeLowest_8 rfl rfl ?_
    refine E_getR dX2_takeLowest_9 fX2_9 rfl rfl rfl (rX_2_0 hX) ?_
    refine E_iload_n dX2_takeLowest_12 rfl rfl ?_
    refine E_iald dX2_takeLowest_13 rfl rfl (by decide) (lX_13 hX) (vin (by omega : i < 30) (by omega)) (vnat (by omega : i < 30) (by omega)) rfl ?_
    refine E_iconst (v := -1) dX2_takeLowest_14 (by decide) ?_
    refine E_icmp_ne (tgt := 27) dX2_takeLowest_15 (by decide) (fun h15 => ?_) (fun h15 => absurd h15 (h1 i (by omega)))
    refine E_iinc (v := nI (i + 1)) dX2_takeLowest_27 rfl (nI_i1 i) (by decide) rfl ?_
    refine E_goto (tgt := 2) dX2_takeLowest_30 (by decide) ?_
    exact l_X2_takeLowest_y hX x l hl h0 h1 n (i + 1) (by omega)
theorem c_X2_takeLowest_y {S : xS} (hX : xShX S) (x : Int32) (l : Nat) (hl : l < 30) (h0 : (gI S 13 0 l) = -1) (h1 : ∀ k, k < l → ¬ (gI S 13 0 k) = -1) : CC mX2_takeLowest 1 0 0 [xR (some (2, 0)), xI x] S (aI (nI l) (sI S 13 0 l x)) := by
  refine CC_of mpX2_takeLowest rfl (Nat.le_of_ble_eq_true rfl) ?_
  refine E_iconst (v := 0) dX2_takeLowest_0 (by decide) ?_
  refine E_istore_n dX2_takeLowest_1 rfl (by decide) rfl ?_
  exact l_X2_takeLowest_y hX x l hl h0 h1 l 0 (by omega)
theorem l_X2_takeLowest_n {S : xS} (hX : xShX S) (x : Int32) (h1 : ∀ k, k < 30 → ¬ (gI S 13 0 k) = -1) : ∀ (n i : Nat), i + n = 30 → Ex mX2_takeLowest 1 0 0 (0, fun _ => 0) (aI (-1) S) 2 [some (xR (some (2, 0))), some (xI x), some (xI (nI i))] [] S
  | 0, i, hi => by
    refine E_iload_n dX2_takeLowest_2 rfl rfl ?_
    refine E_bipush (v := 30) dX2_takeLowest_3 (by decide) ?_
    refine E_icmp_ge (tgt := 33) dX2_takeLowest_5 (by decide) (fun h5 => ?_) (fun h5 => absurd h5 ((fun z => z (nI_le (a := 30) (b := i) (by omega) (by omega)))))
    refine E_iconst (v := -1) dX2_takeLowest_33 (by decide) ?_
    refine E_iret dX2_takeLowest_34 rfl rfl ?_
    exact ⟨rfl, rfl⟩
  | n + 1, i, hi => by
    refine E_iload_n dX2_takeLowest_2 rfl rfl ?_
    refine E_bipush (v := 30) dX2_takeLowest_3 (by decide) ?_
    refine E_icmp_ge (tgt := 33) dX2_takeLowest_5 (by decide) (fun h5 => absurd h5 ((nI_ge (a := i) (b := 30) (by omega) (by omega)))) (fun h5 => ?_)
    refine E_aload_n dX2_takeLowest_8 rfl rfl ?_
    refine E_getR dX2_takeLowest_9 fX2_9 rfl rfl rfl (rX_2_0 hX) ?_
    refine E_iload_n dX2_takeLowest_12 rfl rfl ?_
    refine E_iald dX2_takeLowest_13 rfl rfl (by decide) (lX_13 hX) (vin (by omega : i < 30) (by omega)) (vnat (by omega : i < 30) (by omega)) rfl ?_
    refine E_iconst (v := -1) dX2_takeLowest_14 (by decide) ?_
    refine E_icmp_ne (tgt := 27) dX2_takeLowest_15 (by decide) (fun h15 => ?_) (fun h15 => absurd h15 (h1 i (by omega)))
    refine E_iinc (v := nI (i + 1)) dX2_takeLowest_27 rfl (nI_i1 i) (by decide) rfl ?_
    refine E_goto (tgt := 2) dX2_takeLowest_30 (by decide) ?_
    exact l_X2_takeLowest_n hX x h1 n (i + 1) (by omega)
theorem c_X2_takeLowest_n {S : xS} (hX : xShX S) (x : Int32) (h1 : ∀ k, k < 30 → ¬ (gI S 13 0 k) = -1) : CC mX2_takeLowest 1 0 0 [xR (some (2, 0)), xI x] S (aI (-1) S) := by
  refine CC_of mpX2_takeLowest rfl (Nat.le_of_ble_eq_true rfl) ?_
  refine E_iconst (v := 0) dX2_takeLowest_0 (by decide) ?_
  refine E_istore_n dX2_takeLowest_1 rfl (by decide) rfl ?_
  exact l_X2_takeLowest_n hX x h1 30 0 rfl
theorem c_X3_hasLanes {S : xS} (p : Nat) (x : Int32) : CC mX3_hasLanes 1 0 0 [xR (some (3, p)), xI x] S (aI (if 0 < x ∧ x < 1 <<< ((gI S 3 p 2) &&& 31) then 1 else 0) S) := by
  refine CC_of mpX3_hasLanes rfl (Nat.le_of_ble_eq_true rfl) ?_
  refine E_iload_n dX3_hasLanes_0 rfl rfl ?_
  refine E_if_le (tgt := 18) dX3_hasLanes_1 (by decide) (fun h1 => ?_) (fun h1 => ?_)
  · refine E_iconst (v := 0) dX3_hasLanes_18 (by decide) ?_
    refine E_iret dX3_hasLanes_19 rfl rfl ?_
    refine ⟨congrArg (fun z => some (xI z)) ?_, rfl⟩; (try split) <;> first | rfl | (exfalso; simp only [fa_lt, fa_le, fa_eq] at *; omega)
  · refine E_iload_n dX3_hasLanes_4 rfl rfl ?_
    refine E_iconst (v := 1) dX3_hasLanes_5 (by decide) ?_
    refine E_aload_n dX3_hasLanes_6 rfl rfl ?_
    refine E_getI dX3_hasLanes_7 fX3_31 rfl rfl rfl rfl ?_
    refine E_ishl dX3_hasLanes_10 ?_
    refine E_icmp_ge (tgt := 18) dX3_hasLanes_11 (by decide) (fun h11 => ?_) (fun h11 => ?_)
    · refine E_iconst (v := 0) dX3_hasLanes_18 (by decide) ?_
      refine E_iret dX3_hasLanes_19 rfl rfl ?_
      refine ⟨congrArg (fun z => some (xI z)) ?_, rfl⟩; (try split) <;> first | rfl | (exfalso; simp only [fa_lt, fa_le, fa_eq] at *; omega)
    · refine E_iconst (v := 1) dX3_hasLanes_14 (by decide) ?_
      refine E_goto (tgt := 19) dX3_hasLanes_15 (by decide) ?_
      refine E_iret dX3_hasLanes_19 rfl rfl ?_
      refine ⟨congrArg (fun z => some (xI z)) ?_, rfl⟩; (try split) <;> first | rfl | (exfalso; simp only [fa_lt, fa_le, fa_eq] at *; omega)
theorem c_X3_letIn {S : xS} (p t n : Nat) (hp : xShP S p n) : CC mX3_letIn 1 0 0 [xR (some (3, p)), xR (some (7, t))] S (aV (sI (sI (sI (sI S 3 p 6 ((gI S 3 p 6) + 1)) 3 p 7 ((gI S 3 p 7) + (if (gI S 7 t 2) = 5 then 1 else 0))) 1 p 5 ((gI S 1 p 5) + 1)) 1 p 4 ((gI S 1 p 4) + 1))) := by
  refine CC_of mpX3_letIn rfl (Nat.le_of_ble_eq_true rfl) ?_
  refine E_aload_n dX3_letIn_0 rfl rfl ?_
  refine E_dup dX3_letIn_1 rfl ?_
  refine E_getI dX3_letIn_2 fX3_48 rfl rfl rfl rfl ?_
  refine E_iconst (v := 1) dX3_letIn_5 (by decide) ?_
  refine E_iadd dX3_letIn_6 ?_
  refine E_putI dX3_letIn_7 fX3_48 rfl rfl rfl rfl rfl ?_
  refine E_aload_n dX3_letIn_10 rfl rfl ?_
  refine E_dup dX3_letIn_11 rfl ?_
  refine E_getI dX3_letIn_12 fX3_51 rfl rfl rfl rfl ?_
  refine E_aload_n dX3_letIn_15 rfl rfl ?_
  refine E_getI dX3_letIn_16 fX3_54 rfl rfl rfl rfl ?_
  refine E_iconst (v := 5) dX3_letIn_19 (by decide) ?_
  refine E_icmp_ne (tgt := 27) dX3_letIn_20 (by decide) (fun h20 => ?_) (fun h20 => ?_)
  · refine E_iconst (v := 0) dX3_letIn_27 (by decide) ?_
    refine E_iadd dX3_letIn_28 ?_
    refine E_putI dX3_letIn_29 fX3_51 rfl rfl rfl rfl rfl ?_
    refine E_aload_n dX3_letIn_32 rfl rfl ?_
    refine E_getR dX3_letIn_33 fX3_20 rfl rfl rfl (rP_5 hp) ?_
    refine E_dup dX3_letIn_36 rfl ?_
    refine E_getI dX3_letIn_37 fX3_59 rfl rfl rfl rfl ?_
    refine E_iconst (v := 1) dX3_letIn_40 (by decide) ?_
    refine E_iadd dX3_letIn_41 ?_
    refine E_putI dX3_letIn_42 fX3_59 rfl rfl rfl rfl rfl ?_
    refine E_aload_n dX3_letIn_45 rfl rfl ?_
    refine E_getR dX3_letIn_46 fX3_20 rfl rfl rfl (rP_5 hp) ?_
    refine E_dup dX3_letIn_49 rfl ?_
    refine E_getI dX3_letIn_50 fX3_62 rfl rfl rfl rfl ?_
    refine E_iconst (v := 1) dX3_letIn_53 (by decide) ?_
    refine E_iadd dX3_letIn_54 ?_
    refine E_putI dX3_letIn_55 fX3_62 rfl rfl rfl rfl rfl ?_
    refine E_vret dX3_letIn_58 rfl ?_
    refine ⟨rfl, ?_⟩; first | (rw [if_pos (show (gI S 7 t 2) = 5 from h20)]; rfl) | (rw [if_neg (show ¬ (gI S 7 t 2) = 5 from h20)]; rfl)
  · refine E_iconst (v := 1) dX3_letIn_23 (by decide) ?_
    refine E_goto (tgt := 28) dX3_letIn_24 (by decide) ?_
    refine E_iadd dX3_letIn_28 ?_
    refine E_putI dX3_letIn_29 fX3_51 rfl rfl rfl rfl rfl ?_
    refine E_aload_n dX3_letIn_32 rfl rfl ?_
    refine E_getR dX3_letIn_33 fX3_20 rfl rfl rfl (rP_5 hp) ?_
    refine E_dup dX3_letIn_36 rfl ?_
    refine E_getI dX3_letIn_37 fX3_59 rfl rfl rfl rfl ?_
    refine E_iconst (v := 1) dX3_letIn_40 (by decide) ?_
    refine E_iadd dX3_letIn_41 ?_
    refine E_putI dX3_letIn_42 fX3_59 rfl rfl rfl rfl rfl ?_
    refine E_aload_n dX3_letIn_45 rfl rfl ?_
    refine E_getR dX3_letIn_46 fX3_20 rfl rfl rfl (rP_5 hp) ?_
    refine E_dup dX3_letIn_49 rfl ?_
    refine E_getI dX3_letIn_50 fX3_62 rfl rfl rfl rfl ?_
    refine E_iconst (v := 1) dX3_letIn_53 (by decide) ?_
    refine E_iadd dX3_letIn_54 ?_
    refine E_putI dX3_letIn_55 fX3_62 rfl rfl rfl rfl rfl ?_
    refine E_vret dX3_letIn_58 rfl ?_
    refine ⟨rfl, ?_⟩; first | (rw [if_pos (show (gI S 7 t 2) = 5 from h20)]; rfl) | (rw [if_neg (show ¬ (gI S 7 t 2) = 5 from h20)]; rfl)
theorem c_X3_letOut {S : xS} (p t n : Nat) (hp : xShP S p n) : CC mX3_letOut 1 0 0 [xR (some (3, p)), xR (some (7, t))] S (aV (sI (sI (sI (sI S 3 p 6 ((gI S 3 p 6) - 1)) 3 p 7 ((gI S 3 p 7) - (if (gI S 7 t 2) = 5 then 1 else 0))) 1 p 6 ((gI S 1 p 6) + 1)) 1 p 4 ((gI S 1 p 4) - 1))) := by
  refine CC_of mpX3_letOut rfl (Nat.le_of_ble_eq_true rfl) ?_
  refine E_aload_n dX3_letOut_0 rfl rfl ?_
  refine E_dup dX3_letOut_1 rfl ?_
  refine E_getI dX3_letOut_2 fX3_48 rfl rfl rfl rfl ?_
  refine E_iconst (v := 1) dX3_letOut_5 (by decide) ?_
  refine E_isub dX3_letOut_6 ?_
  refine E_putI dX3_letOut_7 fX3_48 rfl rfl rfl rfl rfl ?_
  refine E_aload_n dX3_letOut_10 rfl rfl ?_
  refine E_dup dX3_letOut_11 rfl ?_
  refine E_getI dX3_letOut_12 fX3_51 rfl rfl rfl rfl ?_
  refine E_aload_n dX3_letOut_15 rfl rfl ?_
  refine E_getI dX3_letOut_16 fX3_54 rfl rfl rfl rfl ?_
  refine E_iconst (v := 5) dX3_letOut_19 (by decide) ?_
  refine E_icmp_ne (tgt := 27) dX3_letOut_20 (by decide) (fun h20 => ?_) (fun h20 => ?_)
  · refine E_iconst (v := 0) dX3_letOut_27 (by decide) ?_
    refine E_isub dX3_letOut_28 ?_
    refine E_putI dX3_letOut_29 fX3_51 rfl rfl rfl rfl rfl ?_
    refine E_aload_n dX3_letOut_32 rfl rfl ?_
    refine E_getR dX3_letOut_33 fX3_20 rfl rfl rfl (rP_5 hp) ?_
    refine E_dup dX3_letOut_36 rfl ?_
    refine E_getI dX3_letOut_37 fX3_65 rfl rfl rfl rfl ?_
    refine E_iconst (v := 1) dX3_letOut_40 (by decide) ?_
    refine E_iadd dX3_letOut_41 ?_
    refine E_putI dX3_letOut_42 fX3_65 rfl rfl rfl rfl rfl ?_
    refine E_aload_n dX3_letOut_45 rfl rfl ?_
    refine E_getR dX3_letOut_46 fX3_20 rfl rfl rfl (rP_5 hp) ?_
    refine E_dup dX3_letOut_49 rfl ?_
    refine E_getI dX3_letOut_50 fX3_62 rfl rfl rfl rfl ?_
    refine E_iconst (v := 1) dX3_letOut_53 (by decide) ?_
    refine E_isub dX3_letOut_54 ?_
    refine E_putI dX3_letOut_55 fX3_62 rfl rfl rfl rfl rfl ?_
    refine E_vret dX3_letOut_58 rfl ?_
    refine ⟨rfl, ?_⟩; first | (rw [if_pos (show (gI S 7 t 2) = 5 from h20)]; rfl) | (rw [if_neg (show ¬ (gI S 7 t 2) = 5 from h20)]; rfl)
  · refine E_iconst (v := 1) dX3_letOut_23 (by decide) ?_
    refine E_goto (tgt := 28) dX3_letOut_24 (by decide) ?_
    refine E_isub dX3_letOut_28 ?_
    refine E_putI dX3_letOut_29 fX3_51 rfl rfl rfl rfl rfl ?_
    refine E_aload_n dX3_letOut_32 rfl rfl ?_
    refine E_getR dX3_letOut_33 fX3_20 rfl rfl rfl (rP_5 hp) ?_
    refine E_dup dX3_letOut_36 rfl ?_
    refine E_getI dX3_letOut_37 fX3_65 rfl rfl rfl rfl ?_
    refine E_iconst (v := 1) dX3_letOut_40 (by decide) ?_
    refine E_iadd dX3_letOut_41 ?_
    refine E_putI dX3_letOut_42 fX3_65 rfl rfl rfl rfl rfl ?_
    refine E_aload_n dX3_letOut_45 rfl rfl ?_
    refine E_getR dX3_letOut_46 fX3_20 rfl rfl rfl (rP_5 hp) ?_
    refine E_dup dX3_letOut_49 rfl ?_
    refine E_getI dX3_letOut_50 fX3_62 rfl rfl rfl rfl ?_
    refine E_iconst (v := 1) dX3_letOut_53 (by decide) ?_
    refine E_isub dX3_letOut_54 ?_
    refine E_putI dX3_letOut_55 fX3_62 rfl rfl rfl rfl rfl ?_
    refine E_vret dX3_letOut_58 rfl ?_
    refine ⟨rfl, ?_⟩; first | (rw [if_pos (show (gI S 7 t 2) = 5 from h20)]; rfl) | (rw [if_neg (show ¬ (gI S 7 t 2) = 5 from h20)]; rfl)
theorem l_X3_filledPosts {S : xS} (p n : Nat) (hp : xShP S p n) (x : Int32) : ∀ (k i : Nat), i + k = n → ∀ v, v = xsm (fun k => xfil S (3 * p + k) x) i → Ex mX3_filledPosts 2 0 0 (0, fun _ => 0) (aI (xsm (fun k => xfil S (3 * p + k) x) n) S) 4 [some (xR (some (3, p))), some (xI x), some (xI v), some (xI (nI i))] [] S
  | 0, i, hi, v, hv => by
    have hn := hp.1
    refine E_iload_n dX3_filledPosts_4 rfl rfl ?_
    refine E_aload_n dX3_filledPosts_5 rfl rfl ?_
    refine E_getR dX3_filledPosts_6 fX3_42 rfl rfl rfl (rP_3 hp) ?_
    refine E_alen dX3_filledPosts_9 rfl (by decide) (lP_17 hp) (Eq.refl (nI _)) ?_
    refine E_icmp_ge (tgt := 40) dX3_filledPosts_10 (by decide) (fun h10 => ?_) (fun h10 => absurd h10 ((fun z => z (nI_le (a := n) (b := i) (by omega) (by omega)))))
    refine E_iload_n dX3_filledPosts_40 rfl rfl ?_
    refine E_iret dX3_filledPosts_41 rfl rfl ?_
    exact ⟨by rw [hv, show i = n by omega], rfl⟩
  | k + 1, i, hi, v, hv => by
    have hn := hp.1
    refine E_iload_n dX3_filledPosts_4 rfl rfl ?_
    refine E_aload_n dX3_filledPosts_5 rfl rfl ?_
    refine E_getR dX3_filledPosts_6 fX3_42 rfl rfl rfl (rP_3 hp) ?_
    refine E_alen dX3_filledPosts_9 rfl (by decide) (lP_17 hp) (Eq.refl (nI _)) ?_
    refine E_icmp_ge (tgt := 40) dX3_filledPosts_10 (by decide) (fun h10 => absurd h10 ((nI_ge (a := i) (b := n) (by omega) (by omega)))) (fun h10 => ?_)
    refine E_iload_n dX3_filledPosts_13 rfl rfl ?_
    refine E_aload_n dX3_filledPosts_14 rfl rfl ?_
    refine E_getR dX3_filledPosts_15 fX3_42 rfl rfl rfl (rP_3 hp) ?_
    refine E_iload_n dX3_filledPosts_18 rfl rfl ?_
    refine E_aald dX3_filledPosts_19 rfl rfl (by decide) (lP_17 hp) (vin (by omega : i < n) (by omega)) (vnat (by omega : i < n) (by omega)) (rP_17 hp (by omega : i < n)) ?_
    refine E_iload_n dX3_filledPosts_20 rfl rfl ?_
    refine E_callV (m2 := mX4_isFilled) dX3_filledPosts_21 kX3_68 mzX4_isFilled (c_X4_isFilled _ _) rfl ⟨_, _, rfl⟩ rfl rfl (by decide) (xs8 (Nat.le_of_ble_eq_true rfl)) (by first | exact Nat.le_of_ble_eq_true rfl | omega) (by first | exact Nat.le_of_ble_eq_true rfl | omega) ?_
    rintro _ _ ⟨rfl, rfl⟩
    refine E_if_eq (tgt := 31) dX3_filledPosts_24 (by decide) (fun h24 => ?_) (fun h24 => ?_)
    · refine E_iconst (v := 0) dX3_filledPosts_31 (by decide) ?_
      refine E_iadd dX3_filledPosts_32 ?_
      refine E_istore_n dX3_filledPosts_33 rfl (by decide) rfl ?_
      refine E_iinc (v := nI (i + 1)) dX3_filledPosts_34 rfl (nI_i1 i) (by decide) rfl ?_
      refine E_goto (tgt := 4) dX3_filledPosts_37 (by decide) ?_
      refine l_X3_filledPosts p n hp x k (i + 1) (by omega) _ ?_
      rw [xsm_succ, ← hv]; unfold xfil at h24 ⊢; congr 1; split at h24 <;> simp_all
    · refine E_iconst (v := 1) dX3_filledPosts_27 (by decide) ?_
      refine E_goto (tgt := 32) dX3_filledPosts_28 (by decide) ?_
      refine E_iadd dX3_filledPosts_32 ?_
      refine E_istore_n dX3_filledPosts_33 rfl (by decide) rfl ?_
      refine E_iinc (v := nI (i + 1)) dX3_filledPosts_34 rfl (nI_i1 i) (by decide) rfl ?_
      refine E_goto (tgt := 4) dX3_filledPosts_37 (by decide) ?_
      refine l_X3_filledPosts p n hp x k (i + 1) (by omega) _ ?_
      rw [xsm_succ, ← hv]; unfold xfil at h24 ⊢; congr 1; split at h24 <;> simp_all
theorem c_X3_filledPosts {S : xS} (p n : Nat) (hp : xShP S p n) (x : Int32) : CC mX3_filledPosts 2 0 0 [xR (some (3, p)), xI x] S (aI (xsm (fun k => xfil S (3 * p + k) x) n) S) := by
  refine CC_of mpX3_filledPosts rfl (Nat.le_of_ble_eq_true rfl) ?_
  refine E_iconst (v := 0) dX3_filledPosts_0 (by decide) ?_
  refine E_istore_n dX3_filledPosts_1 rfl (by decide) rfl ?_
  refine E_iconst (v := 0) dX3_filledPosts_2 (by decide) ?_
  refine E_istore_n dX3_filledPosts_3 rfl (by decide) rfl ?_
  exact l_X3_filledPosts p n hp x n 0 (by omega) 0 rfl
theorem l_X3_reasonsIn {S : xS} (p n : Nat) (hp : xShP S p n) (x : Int32) : ∀ (k i : Nat), i + k = 3 → ∀ v, v = xrl S p x i → Ex mX3_reasonsIn 3 0 0 (0, fun _ => 0) (aI (xrs S p n x) S) 17 [some (xR (some (3, p))), some (xI x), some (xI v), some (xI (nI i))] [] S
  | 0, i, hi, v, hv => by
    refine E_iload_n dX3_reasonsIn_17 rfl rfl ?_
    refine E_iconst (v := 3) dX3_reasonsIn_18 (by decide) ?_
    refine E_icmp_ge (tgt := 72) dX3_reasonsIn_19 (by decide) (fun h19 => ?_) (fun h19 => absurd h19 ((fun z => z (nI_le (a := 3) (b := i) (by omega) (by omega)))))
    refine E_iload_n dX3_reasonsIn_72 rfl rfl ?_
    refine E_aload_n dX3_reasonsIn_73 rfl rfl ?_
    refine E_iload_n dX3_reasonsIn_74 rfl rfl ?_
    refine E_callV (m2 := mX3_filledPosts) dX3_reasonsIn_75 kX3_82 mzX3_filledPosts (c_X3_filledPosts p n hp x) rfl ⟨_, _, rfl⟩ rfl rfl (by decide) (xs8 (Nat.le_of_ble_eq_true rfl)) (by first | exact Nat.le_of_ble_eq_true rfl | omega) (by first | exact Nat.le_of_ble_eq_true rfl | omega) ?_
    rintro _ _ ⟨rfl, rfl⟩
    refine E_aload_n dX3_reasonsIn_78 rfl rfl ?_
    refine E_getR dX3_reasonsIn_79 fX3_42 rfl rfl rfl (rP_3 hp) ?_
    refine E_alen dX3_reasonsIn_82 rfl (by decide) (lP_17 hp) (Eq.refl (nI _)) ?_
    refine E_icmp_ge (tgt := 91) dX3_reasonsIn_83 (by decide) (fun h83 => ?_) (fun h83 => ?_)
    · refine E_iconst (v := 0) dX3_reasonsIn_91 (by decide) ?_
      refine E_ior dX3_reasonsIn_92 ?_
      refine E_istore_n dX3_reasonsIn_93 rfl (by decide) rfl ?_
      refine E_iload_n dX3_reasonsIn_94 rfl rfl ?_
      refine E_iret dX3_reasonsIn_95 rfl rfl ?_
      refine ⟨congrArg (fun z => some (xI z)) ?_, rfl⟩; unfold xrs; rw [hv, show i = 3 by omega]; congr 1; split <;> first | rfl | (exfalso; simp only [fa_lt, fa_le] at *; omega)
    · refine E_bipush (v := 32) dX3_reasonsIn_86 (by decide) ?_
      refine E_goto (tgt := 92) dX3_reasonsIn_88 (by decide) ?_
      refine E_ior dX3_reasonsIn_92 ?_
      refine E_istore_n dX3_reasonsIn_93 rfl (by decide) rfl ?_
      refine E_iload_n dX3_reasonsIn_94 rfl rfl ?_
      refine E_iret dX3_reasonsIn_95 rfl rfl ?_
      refine ⟨congrArg (fun z => some (xI z)) ?_, rfl⟩; unfold xrs; rw [hv, show i = 3 by omega]; congr 1; split <;> first | rfl | (exfalso; simp only [fa_lt, fa_le] at *; omega)
  | k + 1, i, hi, v, hv => by
    refine E_iload_n dX3_reasonsIn_17 rfl rfl ?_
    refine E_iconst (v := 3) dX3_reasonsIn_18 (by decide) ?_
    refine E_icmp_ge (tgt := 72) dX3_reasonsIn_19 (by decide) (fun h19 => absurd h19 ((nI_ge (a := i) (b := 3) (by omega) (by omega)))) (fun h19 => ?_)
    refine E_iload_n dX3_reasonsIn_22 rfl rfl ?_
    refine E_aload_n dX3_reasonsIn_23 rfl rfl ?_
    refine E_getR dX3_reasonsIn_24 fX3_11 rfl rfl rfl (rP_4 hp) ?_
    refine E_iload_n dX3_reasonsIn_27 rfl rfl ?_
    refine E_aald dX3_reasonsIn_28 rfl rfl (by decide) (lP_18 hp) (vin (by omega : i < 3) (by omega)) (vnat (by omega : i < 3) (by omega)) (rP_18 hp (by omega : i < 3)) ?_
    refine E_callV (m2 := mX6_isRight) dX3_reasonsIn_29 kX3_75 mzX6_isRight (c_X6_isRight _) rfl ⟨_, _, rfl⟩ rfl rfl (by decide) (xs8 (Nat.le_of_ble_eq_true rfl)) (by first | exact Nat.le_of_ble_eq_true rfl | omega) (by first | exact Nat.le_of_ble_eq_true rfl | omega) ?_
    rintro _ _ ⟨rfl, rfl⟩
    refine E_if_eq (tgt := 39) dX3_reasonsIn_32 (by decide) (fun h32 => ?_) (fun h32 => ?_)
    · refine E_iconst (v := 1) dX3_reasonsIn_39 (by decide) ?_
      refine E_iload_n dX3_reasonsIn_40 rfl rfl ?_
      refine E_ishl dX3_reasonsIn_41 ?_
      refine E_ior dX3_reasonsIn_42 ?_
      refine E_istore_n dX3_reasonsIn_43 rfl (by decide) rfl ?_
      refine E_iload_n dX3_reasonsIn_44 rfl rfl ?_
      refine E_aload_n dX3_reasonsIn_45 rfl rfl ?_
      refine E_getR dX3_reasonsIn_46 fX3_11 rfl rfl rfl (rP_4 hp) ?_
      refine E_iload_n dX3_reasonsIn_49 rfl rfl ?_
      refine E_aald dX3_reasonsIn_50 rfl rfl (by decide) (lP_18 hp) (vin (by omega : i < 3) (by omega)) (vnat (by omega : i < 3) (by omega)) (rP_18 hp (by omega : i < 3)) ?_
      refine E_iload_n dX3_reasonsIn_51 rfl rfl ?_
      refine E_callV (m2 := mX6_isStale) dX3_reasonsIn_52 kX3_79 mzX6_isStale (c_X6_isStale _ _) rfl ⟨_, _, rfl⟩ rfl rfl (by decide) (xs8 (Nat.le_of_ble_eq_true rfl)) (by first | exact Nat.le_of_ble_eq_true rfl | omega) (by first | exact Nat.le_of_ble_eq_true rfl | omega) ?_
      rintro _ _ ⟨rfl, rfl⟩
      refine E_if_eq (tgt := 63) dX3_reasonsIn_55 (by decide) (fun h55 => ?_) (fun h55 => ?_)
      · refine E_iconst (v := 0) dX3_reasonsIn_63 (by decide) ?_
        refine E_ior dX3_reasonsIn_64 ?_
        refine E_istore_n dX3_reasonsIn_65 rfl (by decide) rfl ?_
        refine E_iinc (v := nI (i + 1)) dX3_reasonsIn_66 rfl (nI_i1 i) (by decide) rfl ?_
        refine E_goto (tgt := 17) dX3_reasonsIn_69 (by decide) ?_
        refine l_X3_reasonsIn p n hp x k (i + 1) (by omega) _ ?_
        show _ = (xrl S p x i ||| xra S p i) ||| xrb S p x i
        rw [← hv]
        unfold xra xrb
        split <;> split <;> first | rfl | (exfalso; simp_all)
      · refine E_bipush (v := 8) dX3_reasonsIn_58 (by decide) ?_
        refine E_goto (tgt := 64) dX3_reasonsIn_60 (by decide) ?_
        refine E_ior dX3_reasonsIn_64 ?_
        refine E_istore_n dX3_reasonsIn_65 rfl (by decide) rfl ?_
        refine E_iinc (v := nI (i + 1)) dX3_reasonsIn_66 rfl (nI_i1 i) (by decide) rfl ?_
        refine E_goto (tgt := 17) dX3_reasonsIn_69 (by decide) ?_
        refine l_X3_reasonsIn p n hp x k (i + 1) (by omega) _ ?_
        show _ = (xrl S p x i ||| xra S p i) ||| xrb S p x i
        rw [← hv]
        unfold xra xrb
        split <;> split <;> first | rfl | (exfalso; simp_all)
    · refine E_iconst (v := 0) dX3_reasonsIn_35 (by decide) ?_
      refine E_goto (tgt := 42) dX3_reasonsIn_36 (by decide) ?_
      refine E_ior dX3_reasonsIn_42 ?_
      refine E_istore_n dX3_reasonsIn_43 rfl (by decide) rfl ?_
      refine E_iload_n dX3_reasonsIn_44 rfl rfl ?_
      refine E_aload_n dX3_reasonsIn_45 rfl rfl ?_
      refine E_getR dX3_reasonsIn_46 fX3_11 rfl rfl rfl (rP_4 hp) ?_
      refine E_iload_n dX3_reasonsIn_49 rfl rfl ?_
      refine E_aald dX3_reasonsIn_50 rfl rfl (by decide) (lP_18 hp) (vin (by omega : i < 3) (by omega)) (vnat (by omega : i < 3) (by omega)) (rP_18 hp (by omega : i < 3)) ?_
      refine E_iload_n dX3_reasonsIn_51 rfl rfl ?_
      refine E_callV (m2 := mX6_isStale) dX3_reasonsIn_52 kX3_79 mzX6_isStale (c_X6_isStale _ _) rfl ⟨_, _, rfl⟩ rfl rfl (by decide) (xs8 (Nat.le_of_ble_eq_true rfl)) (by first | exact Nat.le_of_ble_eq_true rfl | omega) (by first | exact Nat.le_of_ble_eq_true rfl | omega) ?_
      rintro _ _ ⟨rfl, rfl⟩
      refine E_if_eq (tgt := 63) dX3_reasonsIn_55 (by decide) (fun h55 => ?_) (fun h55 => ?_)
      · refine E_iconst (v := 0) dX3_reasonsIn_63 (by decide) ?_
        refine E_ior dX3_reasonsIn_64 ?_
        refine E_istore_n dX3_reasonsIn_65 rfl (by decide) rfl ?_
        refine E_iinc (v := nI (i + 1)) dX3_reasonsIn_66 rfl (nI_i1 i) (by decide) rfl ?_
        refine E_goto (tgt := 17) dX3_reasonsIn_69 (by decide) ?_
        refine l_X3_reasonsIn p n hp x k (i + 1) (by omega) _ ?_
        show _ = (xrl S p x i ||| xra S p i) ||| xrb S p x i
        rw [← hv]
        unfold xra xrb
        split <;> split <;> first | rfl | (exfalso; simp_all)
      · refine E_bipush (v := 8) dX3_reasonsIn_58 (by decide) ?_
        refine E_goto (tgt := 64) dX3_reasonsIn_60 (by decide) ?_
        refine E_ior dX3_reasonsIn_64 ?_
        refine E_istore_n dX3_reasonsIn_65 rfl (by decide) rfl ?_
        refine E_iinc (v := nI (i + 1)) dX3_reasonsIn_66 rfl (nI_i1 i) (by decide) rfl ?_
        refine E_goto (tgt := 17) dX3_reasonsIn_69 (by decide) ?_
        refine l_X3_reasonsIn p n hp x k (i + 1) (by omega) _ ?_
        show _ = (xrl S p x i ||| xra S p i) ||| xrb S p x i
        rw [← hv]
        unfold xra xrb
        split <;> split <;> first | rfl | (exfalso; simp_all)
theorem c_X3_reasonsIn {S : xS} (p n : Nat) (hp : xShP S p n) (x : Int32) : CC mX3_reasonsIn 3 0 0 [xR (some (3, p)), xI x] S (aI (xrs S p n x) S) := by
  refine CC_of mpX3_reasonsIn rfl (Nat.le_of_ble_eq_true rfl) ?_
  refine E_iload_n dX3_reasonsIn_0 rfl rfl ?_
  refine E_aload_n dX3_reasonsIn_1 rfl rfl ?_
  refine E_getI dX3_reasonsIn_2 fX3_72 rfl rfl rfl rfl ?_
  refine E_icmp_ge (tgt := 13) dX3_reasonsIn_5 (by decide) (fun h5 => ?_) (fun h5 => ?_)
  · refine E_iconst (v := 0) dX3_reasonsIn_13 (by decide) ?_
    refine E_istore_n dX3_reasonsIn_14 rfl (by decide) rfl ?_
    refine E_iconst (v := 0) dX3_reasonsIn_15 (by decide) ?_
    refine E_istore_n dX3_reasonsIn_16 rfl (by decide) rfl ?_
    refine l_X3_reasonsIn p n hp x 3 0 rfl _ ?_
    unfold xrl; split <;> first | rfl | (exfalso; simp only [fa_lt, fa_le] at *; omega)
  · refine E_bipush (v := 16) dX3_reasonsIn_8 (by decide) ?_
    refine E_goto (tgt := 14) dX3_reasonsIn_10 (by decide) ?_
    refine E_istore_n dX3_reasonsIn_14 rfl (by decide) rfl ?_
    refine E_iconst (v := 0) dX3_reasonsIn_15 (by decide) ?_
    refine E_istore_n dX3_reasonsIn_16 rfl (by decide) rfl ?_
    refine l_X3_reasonsIn p n hp x 3 0 rfl _ ?_
    unfold xrl; split <;> first | rfl | (exfalso; simp only [fa_lt, fa_le] at *; omega)
theorem c_X1_endMinute {S : xS} (p : Nat) : CC mX1_endMinute 2 0 0 [xR (some (1, p))] S (aV (sI (sI (xsf S p (xln S p) (xmn S p)) 1 p 5 0) 1 p 6 0)) := by
  refine CC_of mpX1_endMinute rfl (Nat.le_of_ble_eq_true rfl) ?_
  refine E_aload_n dX1_endMinute_0 rfl rfl ?_
  refine E_aload_n dX1_endMinute_1 rfl rfl ?_
  refine E_callV (m2 := mX1_leastNow) dX1_endMinute_2 kX1_34 mzX1_leastNow (c_X1_leastNow p) rfl ⟨_, _, rfl⟩ rfl rfl (by decide) (xs8 (Nat.le_of_ble_eq_true rfl)) (by first | exact Nat.le_of_ble_eq_true rfl | omega) (by first | exact Nat.le_of_ble_eq_true rfl | omega) ?_
  rintro _ _ ⟨rfl, rfl⟩
  refine E_aload_n dX1_endMinute_5 rfl rfl ?_
  refine E_callV (m2 := mX1_mostNow) dX1_endMinute_6 kX1_38 mzX1_mostNow (c_X1_mostNow p) rfl ⟨_, _, rfl⟩ rfl rfl (by decide) (xs8 (Nat.le_of_ble_eq_true rfl)) (by first | exact Nat.le_of_ble_eq_true rfl | omega) (by first | exact Nat.le_of_ble_eq_true rfl | omega) ?_
  rintro _ _ ⟨rfl, rfl⟩
  refine E_callV (m2 := mX1_startFrom) dX1_endMinute_9 kX1_41 mzX1_startFrom (c_X1_startFrom p _ _) rfl ⟨_, _, rfl⟩ rfl rfl (by decide) (xs8 (Nat.le_of_ble_eq_true rfl)) (by first | exact Nat.le_of_ble_eq_true rfl | omega) (by first | exact Nat.le_of_ble_eq_true rfl | omega) ?_
  rintro _ _ ⟨rfl, rfl⟩
  refine E_aload_n dX1_endMinute_12 rfl rfl ?_
  refine E_iconst (v := 0) dX1_endMinute_13 (by decide) ?_
  refine E_putI dX1_endMinute_14 fX1_45 rfl rfl rfl rfl rfl ?_
  refine E_aload_n dX1_endMinute_17 rfl rfl ?_
  refine E_iconst (v := 0) dX1_endMinute_18 (by decide) ?_
  refine E_putI dX1_endMinute_19 fX1_48 rfl rfl rfl rfl rfl ?_
  refine E_vret dX1_endMinute_22 rfl ?_
  exact ⟨rfl, rfl⟩
theorem c_X3_endMinute {S : xS} (p n : Nat) (hp : xShP S p n) (x : Int32) : CC mX3_endMinute 4 0 0 [xR (some (3, p)), xI x] S (aV (sI (sI (xsf (sI S 3 p 9 ((gI S 3 p 9) + (if xrs S p n x = 0 then 0 else 1))) p (xln S p) (xmn S p)) 1 p 5 0) 1 p 6 0)) := by
  refine CC_of mpX3_endMinute rfl (Nat.le_of_ble_eq_true rfl) ?_
  refine E_aload_n dX3_endMinute_0 rfl rfl ?_
  refine E_dup dX3_endMinute_1 rfl ?_
  refine E_getI dX3_endMinute_2 fX3_86 rfl rfl rfl rfl ?_
  refine E_aload_n dX3_endMinute_5 rfl rfl ?_
  refine E_iload_n dX3_endMinute_6 rfl rfl ?_
  refine E_callV (m2 := mX3_reasonsIn) dX3_endMinute_7 kX3_89 mzX3_reasonsIn (c_X3_reasonsIn p n hp x) rfl ⟨_, _, rfl⟩ rfl rfl (by decide) (xs8 (Nat.le_of_ble_eq_true rfl)) (by first | exact Nat.le_of_ble_eq_true rfl | omega) (by first | exact Nat.le_of_ble_eq_true rfl | omega) ?_
  rintro _ _ ⟨rfl, rfl⟩
  refine E_if_eq (tgt := 17) dX3_endMinute_10 (by decide) (fun h10 => ?_) (fun h10 => ?_)
  · refine E_iconst (v := 0) dX3_endMinute_17 (by decide) ?_
    refine E_iadd dX3_endMinute_18 ?_
    refine E_putI dX3_endMinute_19 fX3_86 rfl rfl rfl rfl rfl ?_
    refine E_aload_n dX3_endMinute_22 rfl rfl ?_
    refine E_getR dX3_endMinute_23 fX3_20 rfl rfl rfl (rP_5 hp) ?_
    refine E_callV (m2 := mX1_endMinute) dX3_endMinute_26 kX3_92 mzX1_endMinute (c_X1_endMinute p) rfl ⟨_, _, rfl⟩ rfl rfl (by decide) (xs8 (Nat.le_of_ble_eq_true rfl)) (by first | exact Nat.le_of_ble_eq_true rfl | omega) (by first | exact Nat.le_of_ble_eq_true rfl | omega) ?_
    rintro _ _ ⟨rfl, rfl⟩
    refine E_vret dX3_endMinute_29 rfl ?_
    refine ⟨rfl, ?_⟩; first | rw [if_pos h10]; rfl | rw [if_neg h10]; rfl
  · refine E_iconst (v := 1) dX3_endMinute_13 (by decide) ?_
    refine E_goto (tgt := 18) dX3_endMinute_14 (by decide) ?_
    refine E_iadd dX3_endMinute_18 ?_
    refine E_putI dX3_endMinute_19 fX3_86 rfl rfl rfl rfl rfl ?_
    refine E_aload_n dX3_endMinute_22 rfl rfl ?_
    refine E_getR dX3_endMinute_23 fX3_20 rfl rfl rfl (rP_5 hp) ?_
    refine E_callV (m2 := mX1_endMinute) dX3_endMinute_26 kX3_92 mzX1_endMinute (c_X1_endMinute p) rfl ⟨_, _, rfl⟩ rfl rfl (by decide) (xs8 (Nat.le_of_ble_eq_true rfl)) (by first | exact Nat.le_of_ble_eq_true rfl | omega) (by first | exact Nat.le_of_ble_eq_true rfl | omega) ?_
    rintro _ _ ⟨rfl, rfl⟩
    refine E_vret dX3_endMinute_29 rfl ?_
    refine ⟨rfl, ?_⟩; first | rw [if_pos h10]; rfl | rw [if_neg h10]; rfl
