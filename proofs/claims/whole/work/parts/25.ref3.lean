/-! the reference: its calls -/
theorem c_r_pool_y {S : xS} (hM : xShM S) {P : Nat} (x2 x3 x4 : Int32) (hnow : (gI S 9 0 0) = 0) (hP : P < 4) (hr : (gI S 51 0 P) = 0) (e2 : 1 ≤ x2 ∧ x2 ≤ 200) (e3 : 1 ≤ x3 ∧ x3 ≤ 8) (e4 : 0 ≤ x4 ∧ x4 ≤ 3) : CC mX9_pool 2 0 0 [xR (some (9, 0)), xI (nI P), xI x2, xI x3, xI x4] S (aI 1 (sI (sI (sI (sI S 51 0 P 1) 52 0 P x2) 53 0 P x3) 54 0 P x4)) := by
  refine CC_of mpX9_pool rfl (Nat.le_of_ble_eq_true rfl) ?_
  have e1 : (0 : Int32) ≤ nI P ∧ nI P ≤ 3 := ⟨nI_le (a := 0) (by omega) (by omega), nI_le (b := 3) (by omega) (by omega)⟩
  refine E_aload_n dX9_pool_0 rfl rfl ?_
  refine E_getI dX9_pool_1 fX9_148 rfl rfl rfl rfl ?_
  refine E_if_ne (tgt := 56) dX9_pool_4 (by decide) (fun h4 => absurd h4 (fun z => z hnow)) (fun h4 => ?_)
  refine E_iload_n dX9_pool_7 rfl rfl ?_
  refine E_iconst (v := 0) dX9_pool_8 (by decide) ?_
  refine E_iconst (v := 3) dX9_pool_9 (by decide) ?_
  refine E_callS (m2 := mX9_in) dX9_pool_10 kX9_141 mzX9_in (c_X9_in _ _ _) rfl rfl (by decide) (xs8 (Nat.le_of_ble_eq_true rfl)) (by first | exact Nat.le_of_ble_eq_true rfl | omega) (by first | exact Nat.le_of_ble_eq_true rfl | omega) ?_
  rintro _ _ ⟨rfl, rfl⟩; rw [if_pos e1]
  refine E_if_eq (tgt := 56) dX9_pool_13 (by decide) (fun h13 => absurd h13 (by decide)) (fun h13 => ?_)
  refine E_aload_n dX9_pool_16 rfl rfl ?_
  refine E_getR dX9_pool_17 fX9_7 rfl rfl rfl (rM_1 hM) ?_
  refine E_iload_n dX9_pool_20 rfl rfl ?_
  refine E_zald dX9_pool_21 rfl rfl (by decide) (lM_1 hM) (vin hP (by omega)) (vnat hP (by omega)) rfl ?_
  refine E_if_ne (tgt := 56) dX9_pool_22 (by decide) (fun h22 => absurd h22 (fun z => z hr)) (fun h22 => ?_)
  refine E_iload_n dX9_pool_25 rfl rfl ?_
  refine E_iconst (v := 1) dX9_pool_26 (by decide) ?_
  refine E_sipush (v := 200) dX9_pool_27 (by decide) ?_
  refine E_callS (m2 := mX9_in) dX9_pool_30 kX9_141 mzX9_in (c_X9_in _ _ _) rfl rfl (by decide) (xs8 (Nat.le_of_ble_eq_true rfl)) (by first | exact Nat.le_of_ble_eq_true rfl | omega) (by first | exact Nat.le_of_ble_eq_true rfl | omega) ?_
  rintro _ _ ⟨rfl, rfl⟩; rw [if_pos e2]
  refine E_if_eq (tgt := 56) dX9_pool_33 (by decide) (fun h33 => absurd h33 (by decide)) (fun h33 => ?_)
  refine E_iload_n dX9_pool_36 rfl rfl ?_
  refine E_iconst (v := 1) dX9_pool_37 (by decide) ?_
  refine E_bipush (v := 8) dX9_pool_38 (by decide) ?_
  refine E_callS (m2 := mX9_in) dX9_pool_40 kX9_141 mzX9_in (c_X9_in _ _ _) rfl rfl (by decide) (xs8 (Nat.le_of_ble_eq_true rfl)) (by first | exact Nat.le_of_ble_eq_true rfl | omega) (by first | exact Nat.le_of_ble_eq_true rfl | omega) ?_
  rintro _ _ ⟨rfl, rfl⟩; rw [if_pos e3]
  refine E_if_eq (tgt := 56) dX9_pool_43 (by decide) (fun h43 => absurd h43 (by decide)) (fun h43 => ?_)
  refine E_iload dX9_pool_46 rfl ?_
  refine E_iconst (v := 0) dX9_pool_48 (by decide) ?_
  refine E_iconst (v := 3) dX9_pool_49 (by decide) ?_
  refine E_callS (m2 := mX9_in) dX9_pool_50 kX9_141 mzX9_in (c_X9_in _ _ _) rfl rfl (by decide) (xs8 (Nat.le_of_ble_eq_true rfl)) (by first | exact Nat.le_of_ble_eq_true rfl | omega) (by first | exact Nat.le_of_ble_eq_true rfl | omega) ?_
  rintro _ _ ⟨rfl, rfl⟩; rw [if_pos e4]
  refine E_if_ne (tgt := 58) dX9_pool_53 (by decide) (fun h53 => ?_) (fun h53 => absurd h53 (by decide))
  refine E_aload_n dX9_pool_58 rfl rfl ?_
  refine E_getR dX9_pool_59 fX9_7 rfl rfl rfl (rM_1 hM) ?_
  refine E_iload_n dX9_pool_62 rfl rfl ?_
  refine E_iconst (v := 1) dX9_pool_63 (by decide) ?_
  refine E_zast dX9_pool_64 rfl rfl (by decide) (lM_1 hM) (vin hP (by omega)) (vnat hP (by omega)) rfl ?_
  refine E_aload_n dX9_pool_65 rfl rfl ?_
  refine E_getR dX9_pool_66 fX9_13 rfl rfl rfl (rM_2 hM) ?_
  refine E_iload_n dX9_pool_69 rfl rfl ?_
  refine E_iload_n dX9_pool_70 rfl rfl ?_
  refine E_iast dX9_pool_71 rfl rfl (by decide) (lM_2 hM) (vin hP (by omega)) (vnat hP (by omega)) ?_
  refine E_aload_n dX9_pool_72 rfl rfl ?_
  refine E_getR dX9_pool_73 fX9_17 rfl rfl rfl (rM_3 hM) ?_
  refine E_iload_n dX9_pool_76 rfl rfl ?_
  refine E_iload_n dX9_pool_77 rfl rfl ?_
  refine E_iast dX9_pool_78 rfl rfl (by decide) (lM_3 hM) (vin hP (by omega)) (vnat hP (by omega)) ?_
  refine E_aload_n dX9_pool_79 rfl rfl ?_
  refine E_getR dX9_pool_80 fX9_20 rfl rfl rfl (rM_4 hM) ?_
  refine E_iload_n dX9_pool_83 rfl rfl ?_
  refine E_iload dX9_pool_84 rfl ?_
  refine E_iast dX9_pool_86 rfl rfl (by decide) (lM_4 hM) (vin hP (by omega)) (vnat hP (by omega)) ?_
  refine E_iconst (v := 1) dX9_pool_87 (by decide) ?_
  refine E_iret dX9_pool_88 rfl rfl ?_
  exact ⟨rfl, rfl⟩
theorem c_r_pool_n {S : xS} (hM : xShM S) (p x2 x3 x4 : Int32) (h : ¬ ((gI S 9 0 0) = 0 ∧ (0 ≤ p ∧ p ≤ 3) ∧ (gI S 51 0 p.toNatClampNeg) = 0 ∧ (1 ≤ x2 ∧ x2 ≤ 200) ∧ (1 ≤ x3 ∧ x3 ≤ 8) ∧ 0 ≤ x4 ∧ x4 ≤ 3)) : CC mX9_pool 2 0 0 [xR (some (9, 0)), xI p, xI x2, xI x3, xI x4] S (aI 0 S) := by
  refine CC_of mpX9_pool rfl (Nat.le_of_ble_eq_true rfl) ?_
  by_cases e1 : 0 ≤ p ∧ p ≤ 3
  · obtain ⟨j, hj, rfl⟩ := nI_of2 (n := 3) rfl (Int32.not_lt.mpr e1.1) e1.2
    rw [vnat (by omega : j < 4) (by decide)] at h
    refine E_aload_n dX9_pool_0 rfl rfl ?_
    refine E_getI dX9_pool_1 fX9_148 rfl rfl rfl rfl ?_
    refine E_if_ne (tgt := 56) dX9_pool_4 (by decide) (fun h4 => ?_) (fun h4 => ?_)
    · refine E_iconst (v := 0) dX9_pool_56 (by decide) ?_
      refine E_iret dX9_pool_57 rfl rfl ?_
      exact ⟨rfl, rfl⟩
    · refine E_iload_n dX9_pool_7 rfl rfl ?_
      refine E_iconst (v := 0) dX9_pool_8 (by decide) ?_
      refine E_iconst (v := 3) dX9_pool_9 (by decide) ?_
      refine E_callS (m2 := mX9_in) dX9_pool_10 kX9_141 mzX9_in (c_X9_in _ _ _) rfl rfl (by decide) (xs8 (Nat.le_of_ble_eq_true rfl)) (by first | exact Nat.le_of_ble_eq_true rfl | omega) (by first | exact Nat.le_of_ble_eq_true rfl | omega) ?_
      rintro _ _ ⟨rfl, rfl⟩; rw [if_pos e1]
      refine E_if_eq (tgt := 56) dX9_pool_13 (by decide) (fun h13 => absurd h13 (by decide)) (fun h13 => ?_)
      refine E_aload_n dX9_pool_16 rfl rfl ?_
      refine E_getR dX9_pool_17 fX9_7 rfl rfl rfl (rM_1 hM) ?_
      refine E_iload_n dX9_pool_20 rfl rfl ?_
      refine E_zald dX9_pool_21 rfl rfl (by decide) (lM_1 hM) (vin (by omega : j < 4) (by omega)) (vnat (by omega : j < 4) (by omega)) rfl ?_
      refine E_if_ne (tgt := 56) dX9_pool_22 (by decide) (fun h22 => ?_) (fun h22 => ?_)
      · refine E_iconst (v := 0) dX9_pool_56 (by decide) ?_
        refine E_iret dX9_pool_57 rfl rfl ?_
        exact ⟨rfl, rfl⟩
      · refine E_iload_n dX9_pool_25 rfl rfl ?_
        refine E_iconst (v := 1) dX9_pool_26 (by decide) ?_
        refine E_sipush (v := 200) dX9_pool_27 (by decide) ?_
        refine E_callS (m2 := mX9_in) dX9_pool_30 kX9_141 mzX9_in (c_X9_in _ _ _) rfl rfl (by decide) (xs8 (Nat.le_of_ble_eq_true rfl)) (by first | exact Nat.le_of_ble_eq_true rfl | omega) (by first | exact Nat.le_of_ble_eq_true rfl | omega) ?_
        rintro _ _ ⟨rfl, rfl⟩
        refine E_if_eq (tgt := 56) dX9_pool_33 (by decide) (fun h33 => ?_) (fun h33 => ?_)
        · refine E_iconst (v := 0) dX9_pool_56 (by decide) ?_
          refine E_iret dX9_pool_57 rfl rfl ?_
          exact ⟨rfl, rfl⟩
        · refine E_iload_n dX9_pool_36 rfl rfl ?_
          refine E_iconst (v := 1) dX9_pool_37 (by decide) ?_
          refine E_bipush (v := 8) dX9_pool_38 (by decide) ?_
          refine E_callS (m2 := mX9_in) dX9_pool_40 kX9_141 mzX9_in (c_X9_in _ _ _) rfl rfl (by decide) (xs8 (Nat.le_of_ble_eq_true rfl)) (by first | exact Nat.le_of_ble_eq_true rfl | omega) (by first | exact Nat.le_of_ble_eq_true rfl | omega) ?_
          rintro _ _ ⟨rfl, rfl⟩
          refine E_if_eq (tgt := 56) dX9_pool_43 (by decide) (fun h43 => ?_) (fun h43 => ?_)
          · refine E_iconst (v := 0) dX9_pool_56 (by decide) ?_
            refine E_iret dX9_pool_57 rfl rfl ?_
            exact ⟨rfl, rfl⟩
          · refine E_iload dX9_pool_46 rfl ?_
            refine E_iconst (v := 0) dX9_pool_48 (by decide) ?_
            refine E_iconst (v := 3) dX9_pool_49 (by decide) ?_
            refine E_callS (m2 := mX9_in) dX9_pool_50 kX9_141 mzX9_in (c_X9_in _ _ _) rfl rfl (by decide) (xs8 (Nat.le_of_ble_eq_true rfl)) (by first | exact Nat.le_of_ble_eq_true rfl | omega) (by first | exact Nat.le_of_ble_eq_true rfl | omega) ?_
            rintro _ _ ⟨rfl, rfl⟩
            refine E_if_ne (tgt := 58) dX9_pool_53 (by decide) (fun h53 => ?_) (fun h53 => ?_)
            · exact absurd ⟨h4, e1, h22, ite1 h33, ite1 h43, ite1 h53⟩ h
            · refine E_iconst (v := 0) dX9_pool_56 (by decide) ?_
              refine E_iret dX9_pool_57 rfl rfl ?_
              exact ⟨rfl, rfl⟩
  · skip
    refine E_aload_n dX9_pool_0 rfl rfl ?_
    refine E_getI dX9_pool_1 fX9_148 rfl rfl rfl rfl ?_
    refine E_if_ne (tgt := 56) dX9_pool_4 (by decide) (fun h4 => ?_) (fun h4 => ?_)
    · refine E_iconst (v := 0) dX9_pool_56 (by decide) ?_
      refine E_iret dX9_pool_57 rfl rfl ?_
      exact ⟨rfl, rfl⟩
    · refine E_iload_n dX9_pool_7 rfl rfl ?_
      refine E_iconst (v := 0) dX9_pool_8 (by decide) ?_
      refine E_iconst (v := 3) dX9_pool_9 (by decide) ?_
      refine E_callS (m2 := mX9_in) dX9_pool_10 kX9_141 mzX9_in (c_X9_in _ _ _) rfl rfl (by decide) (xs8 (Nat.le_of_ble_eq_true rfl)) (by first | exact Nat.le_of_ble_eq_true rfl | omega) (by first | exact Nat.le_of_ble_eq_true rfl | omega) ?_
      rintro _ _ ⟨rfl, rfl⟩; rw [if_neg e1]
      refine E_if_eq (tgt := 56) dX9_pool_13 (by decide) (fun h13 => ?_) (fun h13 => absurd h13 (by decide))
      refine E_iconst (v := 0) dX9_pool_56 (by decide) ?_
      refine E_iret dX9_pool_57 rfl rfl ?_
      exact ⟨rfl, rfl⟩
/-- a pool's minute ends; the first pools' -/
def xrm1 (S : xS) (P : Nat) : xS := (sI (sI (xrbg (sI S 63 0 P ((gI S 63 0 P) + (if 0 < xrrl S P 3 then 1 else 0))) P (xrln S P) (xrmn S P)) 61 0 P 0) 62 0 P 0)
def xrm (S : xS) : Nat → xS
  | 0 => S
  | p + 1 => if (gI S 51 0 p) = 0 then xrm S p else xrm1 (xrm S p) p
theorem xrm_2 {S : xS} : ∀ p, (xrm S p).2 = S.2
  | 0 => rfl
  | p + 1 => by
    unfold xrm
    split
    · exact xrm_2 p
    · exact (show (xrm1 (xrm S p) p).2 = (xrm S p).2 from rfl).trans (xrm_2 p)
theorem xrm_I {S : xS} {a b c : Nat} (h : a < 55 ∨ 63 < a ∨ a = 60) : ∀ p, gI (xrm S p) a b c = gI S a b c
  | 0 => rfl
  | p + 1 => by
    unfold xrm
    split
    · exact xrm_I h p
    · unfold xrm1 xrbg
      simp only [gI_sI]
      rw [if_neg (by omega), if_neg (by omega), if_neg (by omega), if_neg (by omega), if_neg (by omega), if_neg (by omega), if_neg (by omega), if_neg (by omega)]
      exact xrm_I h p
def xrgm (S : xS) : Nat → xS
  | 0 => S
  | i + 1 => (sI (xrm (xrgm S i) 4) 9 0 0 ((gI (xrm (xrgm S i) 4) 9 0 0) + 1))
theorem xrgm_2 {S : xS} : ∀ i, (xrgm S i).2 = S.2
  | 0 => rfl
  | i + 1 => (show (xrgm S (i + 1)).2 = (xrm (xrgm S i) 4).2 from rfl).trans ((xrm_2 4).trans (xrgm_2 i))
theorem l_r_go1 {S : xS} (hM0 : xShM S) (x y : Int32) {Q : Option xV → xS → Prop} (hk : ∀ o, Ex mX9_go 3 0 0 (0, fun _ => 0) Q 108 [some (xR (some (9, 0))), some (xI x), some (xI y), o] [] (xrm S 4)) : ∀ (n i : Nat), i + n = 4 → Ex mX9_go 3 0 0 (0, fun _ => 0) Q 34 [some (xR (some (9, 0))), some (xI x), some (xI y), some (xI (nI i))] [] (xrm S i)
  | 0, i, hi => by
    have hi : i = 4 := by omega
    subst hi
    refine E_iload_n dX9_go_34 rfl rfl ?_
    refine E_iconst (v := 4) dX9_go_35 (by decide) ?_
    refine E_icmp_ge (tgt := 108) dX9_go_36 (by decide) (fun h36 => ?_) (fun h36 => absurd h36 ((fun z => z (nI_le (a := 4) (b := 4) (by omega) (by omega)))))
    exact hk _
  | n + 1, i, hi => by
    have hM := xShM_2 hM0 (xrm_2 (S := S) i)
    have hi4 : i < 4 := by omega
    by_cases h0 : (gI S 51 0 i) = 0
    · have e : xrm S (i + 1) = xrm S i := by rw [xrm, if_pos h0]
      refine E_iload_n dX9_go_34 rfl rfl ?_
      refine E_iconst (v := 4) dX9_go_35 (by decide) ?_
      refine E_icmp_ge (tgt := 108) dX9_go_36 (by decide) (fun h36 => absurd h36 ((nI_ge (a := i) (b := 4) (by omega) (by omega)))) (fun h36 => ?_)
      refine E_aload_n dX9_go_39 rfl rfl ?_
      refine E_getR dX9_go_40 fX9_7 rfl rfl rfl (rM_1 hM) ?_
      refine E_iload_n dX9_go_43 rfl rfl ?_
      refine E_zald dX9_go_44 rfl rfl (by decide) (lM_1 hM) (vin hi4 (by omega)) (vnat hi4 (by omega)) (xrm_I (by decide) i) ?_
      refine E_if_ne (tgt := 51) dX9_go_45 (by decide) (fun h45 => absurd h45 (fun z => z h0)) (fun h45 => ?_)
      refine E_goto (tgt := 102) dX9_go_48 (by decide) ?_
      refine E_iinc (v := nI (i + 1)) dX9_go_102 rfl (nI_i1 i) (by decide) rfl ?_
      refine E_goto (tgt := 34) dX9_go_105 (by decide) ?_
      rw [← e]
      exact l_r_go1 hM0 x y hk n (i + 1) (by omega)
    · have e : xrm S (i + 1) = xrm1 (xrm S i) i := by rw [xrm, if_neg h0]
      have h1 := xrm_I (S := S) (a := 51) (b := 0) (c := i) (by decide) i
      refine E_iload_n dX9_go_34 rfl rfl ?_
      refine E_iconst (v := 4) dX9_go_35 (by decide) ?_
      refine E_icmp_ge (tgt := 108) dX9_go_36 (by decide) (fun h36 => absurd h36 ((nI_ge (a := i) (b := 4) (by omega) (by omega)))) (fun h36 => ?_)
      refine E_aload_n dX9_go_39 rfl rfl ?_
      refine E_getR dX9_go_40 fX9_7 rfl rfl rfl (rM_1 hM) ?_
      refine E_iload_n dX9_go_43 rfl rfl ?_
      refine E_zald dX9_go_44 rfl rfl (by decide) (lM_1 hM) (vin hi4 (by omega)) (vnat hi4 (by omega)) h1 ?_
      refine E_if_ne (tgt := 51) dX9_go_45 (by decide) (fun h45 => ?_) (fun h45 => absurd h45 (h0))
      refine E_aload_n dX9_go_51 rfl rfl ?_
      refine E_getR dX9_go_52 fX9_47 rfl rfl rfl (rM_13 hM) ?_
      refine E_iload_n dX9_go_55 rfl rfl ?_
      refine E_dup2 dX9_go_56 rfl rfl ?_
      refine E_iald dX9_go_57 rfl rfl (by decide) (lM_13 hM) (vin hi4 (by omega)) (vnat hi4 (by omega)) rfl ?_
      refine E_aload_n dX9_go_58 rfl rfl ?_
      refine E_iload_n dX9_go_59 rfl rfl ?_
      refine E_callV (m2 := mX9_reasons) dX9_go_60 kX9_151 mzX9_reasons (c_r_reasons hM hi4) rfl ⟨_, _, rfl⟩ rfl rfl (by decide) (xs8 (Nat.le_of_ble_eq_true rfl)) (by first | exact Nat.le_of_ble_eq_true rfl | omega) (by first | exact Nat.le_of_ble_eq_true rfl | omega) ?_
      rintro _ _ ⟨rfl, rfl⟩
      refine E_if_le (tgt := 70) dX9_go_63 (by decide) (fun h63 => ?_) (fun h63 => ?_)
      · refine E_iconst (v := 0) dX9_go_70 (by decide) ?_
        refine E_iadd dX9_go_71 ?_
        refine E_iast dX9_go_72 rfl rfl (by decide) (lM_13 hM) (vin hi4 (by omega)) (vnat hi4 (by omega)) ?_
        refine E_aload_n dX9_go_73 rfl rfl ?_
        refine E_iload_n dX9_go_74 rfl rfl ?_
        refine E_aload_n dX9_go_75 rfl rfl ?_
        refine E_iload_n dX9_go_76 rfl rfl ?_
        refine E_callV (m2 := mX9_leastNow) dX9_go_77 kX9_155 mzX9_leastNow (c_r_leastNow (S := (sI (xrm S i) 63 0 i ((gI (xrm S i) 63 0 i) + _))) hM hi4) rfl ⟨_, _, rfl⟩ rfl rfl (by decide) (xs8 (Nat.le_of_ble_eq_true rfl)) (by first | exact Nat.le_of_ble_eq_true rfl | omega) (by first | exact Nat.le_of_ble_eq_true rfl | omega) ?_
        rintro _ _ ⟨rfl, rfl⟩
        refine E_aload_n dX9_go_80 rfl rfl ?_
        refine E_iload_n dX9_go_81 rfl rfl ?_
        refine E_callV (m2 := mX9_mostNow) dX9_go_82 kX9_158 mzX9_mostNow (c_r_mostNow (S := (sI (xrm S i) 63 0 i ((gI (xrm S i) 63 0 i) + _))) hM hi4) rfl ⟨_, _, rfl⟩ rfl rfl (by decide) (xs8 (Nat.le_of_ble_eq_true rfl)) (by first | exact Nat.le_of_ble_eq_true rfl | omega) (by first | exact Nat.le_of_ble_eq_true rfl | omega) ?_
        rintro _ _ ⟨rfl, rfl⟩
        refine E_callV (m2 := mX9_begins) dX9_go_85 kX9_161 mzX9_begins (c_r_begins (S := (sI (xrm S i) 63 0 i ((gI (xrm S i) 63 0 i) + _))) hM hi4 _ _) rfl ⟨_, _, rfl⟩ rfl rfl (by decide) (xs8 (Nat.le_of_ble_eq_true rfl)) (by first | exact Nat.le_of_ble_eq_true rfl | omega) (by first | exact Nat.le_of_ble_eq_true rfl | omega) ?_
        rintro _ _ ⟨rfl, rfl⟩
        refine E_aload_n dX9_go_88 rfl rfl ?_
        refine E_getR dX9_go_89 fX9_41 rfl rfl rfl (rM_11 hM) ?_
        refine E_iload_n dX9_go_92 rfl rfl ?_
        refine E_iconst (v := 0) dX9_go_93 (by decide) ?_
        refine E_iast dX9_go_94 rfl rfl (by decide) (lM_11 hM) (vin hi4 (by omega)) (vnat hi4 (by omega)) ?_
        refine E_aload_n dX9_go_95 rfl rfl ?_
        refine E_getR dX9_go_96 fX9_44 rfl rfl rfl (rM_12 hM) ?_
        refine E_iload_n dX9_go_99 rfl rfl ?_
        refine E_iconst (v := 0) dX9_go_100 (by decide) ?_
        refine E_iast dX9_go_101 rfl rfl (by decide) (lM_12 hM) (vin hi4 (by omega)) (vnat hi4 (by omega)) ?_
        refine E_iinc (v := nI (i + 1)) dX9_go_102 rfl (nI_i1 i) (by decide) rfl ?_
        refine E_goto (tgt := 34) dX9_go_105 (by decide) ?_
        have e3 := l_r_go1 hM0 x y hk n (i + 1) (by omega)
        rw [e] at e3
        unfold xrm1 at e3
        first | (rw [if_pos (Int32.not_le.mp h63)] at e3; exact e3) | (rw [if_neg (Int32.not_lt.mpr h63)] at e3; exact e3)
      · refine E_iconst (v := 1) dX9_go_66 (by decide) ?_
        refine E_goto (tgt := 71) dX9_go_67 (by decide) ?_
        refine E_iadd dX9_go_71 ?_
        refine E_iast dX9_go_72 rfl rfl (by decide) (lM_13 hM) (vin hi4 (by omega)) (vnat hi4 (by omega)) ?_
        refine E_aload_n dX9_go_73 rfl rfl ?_
        refine E_iload_n dX9_go_74 rfl rfl ?_
        refine E_aload_n dX9_go_75 rfl rfl ?_
        refine E_iload_n dX9_go_76 rfl rfl ?_
        refine E_callV (m2 := mX9_leastNow) dX9_go_77 kX9_155 mzX9_leastNow (c_r_leastNow (S := (sI (xrm S i) 63 0 i ((gI (xrm S i) 63 0 i) + _))) hM hi4) rfl ⟨_, _, rfl⟩ rfl rfl (by decide) (xs8 (Nat.le_of_ble_eq_true rfl)) (by first | exact Nat.le_of_ble_eq_true rfl | omega) (by first | exact Nat.le_of_ble_eq_true rfl | omega) ?_
        rintro _ _ ⟨rfl, rfl⟩
        refine E_aload_n dX9_go_80 rfl rfl ?_
        refine E_iload_n dX9_go_81 rfl rfl ?_
        refine E_callV (m2 := mX9_mostNow) dX9_go_82 kX9_158 mzX9_mostNow (c_r_mostNow (S := (sI (xrm S i) 63 0 i ((gI (xrm S i) 63 0 i) + _))) hM hi4) rfl ⟨_, _, rfl⟩ rfl rfl (by decide) (xs8 (Nat.le_of_ble_eq_true rfl)) (by first | exact Nat.le_of_ble_eq_true rfl | omega) (by first | exact Nat.le_of_ble_eq_true rfl | omega) ?_
        rintro _ _ ⟨rfl, rfl⟩
        refine E_callV (m2 := mX9_begins) dX9_go_85 kX9_161 mzX9_begins (c_r_begins (S := (sI (xrm S i) 63 0 i ((gI (xrm S i) 63 0 i) + _))) hM hi4 _ _) rfl ⟨_, _, rfl⟩ rfl rfl (by decide) (xs8 (Nat.le_of_ble_eq_true rfl)) (by first | exact Nat.le_of_ble_eq_true rfl | omega) (by first | exact Nat.le_of_ble_eq_true rfl | omega) ?_
        rintro _ _ ⟨rfl, rfl⟩
        refine E_aload_n dX9_go_88 rfl rfl ?_
        refine E_getR dX9_go_89 fX9_41 rfl rfl rfl (rM_11 hM) ?_
        refine E_iload_n dX9_go_92 rfl rfl ?_
        refine E_iconst (v := 0) dX9_go_93 (by decide) ?_
        refine E_iast dX9_go_94 rfl rfl (by decide) (lM_11 hM) (vin hi4 (by omega)) (vnat hi4 (by omega)) ?_
        refine E_aload_n dX9_go_95 rfl rfl ?_
        refine E_getR dX9_go_96 fX9_44 rfl rfl rfl (rM_12 hM) ?_
        refine E_iload_n dX9_go_99 rfl rfl ?_
        refine E_iconst (v := 0) dX9_go_100 (by decide) ?_
        refine E_iast dX9_go_101 rfl rfl (by decide) (lM_12 hM) (vin hi4 (by omega)) (vnat hi4 (by omega)) ?_
        refine E_iinc (v := nI (i + 1)) dX9_go_102 rfl (nI_i1 i) (by decide) rfl ?_
        refine E_goto (tgt := 34) dX9_go_105 (by decide) ?_
        have e3 := l_r_go1 hM0 x y hk n (i + 1) (by omega)
        rw [e] at e3
        unfold xrm1 at e3
        first | (rw [if_pos (Int32.not_le.mp h63)] at e3; exact e3) | (rw [if_neg (Int32.not_lt.mpr h63)] at e3; exact e3)
