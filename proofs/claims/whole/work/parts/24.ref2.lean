/-! the reference: loops over tickets, lockers, clubs -/
def xtru (S : xS) (p w : Int32) : Nat → Int32 := xsm (fun t => if ¬ (gI S 79 0 t) = 0 ∧ (gI S 73 0 t) = p ∧ (w = 0 ∨ (gI S 74 0 t) = 5) then 1 else 0)
theorem l_r_truth {S : xS} (hM : xShM S) {T : Nat} (hT : (gI S 9 0 22) = nI T) (hT2 : T ≤ 200) (p w : Int32) : ∀ (n i : Nat), i + n = T → ∀ v, v = xtru S p w i → Ex mX9_truth 1 0 0 (0, fun _ => 0) (aI (xtru S p w T) S) 5 [some (xR (some (9, 0))), some (xI p), some (xI w), some (xI v), some (xI (nI i))] [] S
  | 0, i, hi, v, hv => by
    refine E_iload dX9_truth_5 rfl ?_
    refine E_aload_n dX9_truth_7 rfl rfl ?_
    refine E_getI dX9_truth_8 fX9_145 rfl rfl rfl hT ?_
    refine E_icmp_ge (tgt := 64) dX9_truth_11 (by decide) (fun h11 => ?_) (fun h11 => absurd h11 ((fun z => z (nI_le (a := T) (b := i) (by omega) (by omega)))))
    refine E_iload_n dX9_truth_64 rfl rfl ?_
    refine E_iret dX9_truth_65 rfl rfl ?_
    exact ⟨by rw [hv, show i = T by omega], rfl⟩
  | n + 1, i, hi, v, hv => by
    unfold xtru at hv
    refine E_iload dX9_truth_5 rfl ?_
    refine E_aload_n dX9_truth_7 rfl rfl ?_
    refine E_getI dX9_truth_8 fX9_145 rfl rfl rfl hT ?_
    refine E_icmp_ge (tgt := 64) dX9_truth_11 (by decide) (fun h11 => absurd h11 ((nI_ge (a := i) (b := T) (by omega) (by omega)))) (fun h11 => ?_)
    refine E_iload_n dX9_truth_14 rfl rfl ?_
    refine E_aload_n dX9_truth_15 rfl rfl ?_
    refine E_getR dX9_truth_16 fX9_92 rfl rfl rfl (rM_29 hM) ?_
    refine E_iload dX9_truth_19 rfl ?_
    refine E_zald dX9_truth_21 rfl rfl (by decide) (lM_29 hM) (vin (by omega : i < 200) (by omega)) (vnat (by omega : i < 200) (by omega)) rfl ?_
    refine E_if_eq (tgt := 55) dX9_truth_22 (by decide) (fun h22 => ?_) (fun h22 => ?_)
    · refine E_iconst (v := 0) dX9_truth_55 (by decide) ?_
      refine E_iadd dX9_truth_56 ?_
      refine E_istore_n dX9_truth_57 rfl (by decide) rfl ?_
      refine E_iinc (v := nI (i + 1)) dX9_truth_58 rfl (nI_i1 i) (by decide) rfl ?_
      refine E_goto (tgt := 5) dX9_truth_61 (by decide) ?_
      refine l_r_truth hM hT hT2 p w n (i + 1) (by omega) _ ?_
      unfold xtru; rw [xsm_succ, ← hv]; congr 1; (try split) <;> simp_all
    · refine E_aload_n dX9_truth_25 rfl rfl ?_
      refine E_getR dX9_truth_26 fX9_74 rfl rfl rfl (rM_23 hM) ?_
      refine E_iload dX9_truth_29 rfl ?_
      refine E_iald dX9_truth_31 rfl rfl (by decide) (lM_23 hM) (vin (by omega : i < 200) (by omega)) (vnat (by omega : i < 200) (by omega)) rfl ?_
      refine E_iload_n dX9_truth_32 rfl rfl ?_
      refine E_icmp_ne (tgt := 55) dX9_truth_33 (by decide) (fun h33 => ?_) (fun h33 => ?_)
      · refine E_iconst (v := 0) dX9_truth_55 (by decide) ?_
        refine E_iadd dX9_truth_56 ?_
        refine E_istore_n dX9_truth_57 rfl (by decide) rfl ?_
        refine E_iinc (v := nI (i + 1)) dX9_truth_58 rfl (nI_i1 i) (by decide) rfl ?_
        refine E_goto (tgt := 5) dX9_truth_61 (by decide) ?_
        refine l_r_truth hM hT hT2 p w n (i + 1) (by omega) _ ?_
        unfold xtru; rw [xsm_succ, ← hv]; congr 1; (try split) <;> simp_all
      · refine E_iload_n dX9_truth_36 rfl rfl ?_
        refine E_if_eq (tgt := 51) dX9_truth_37 (by decide) (fun h37 => ?_) (fun h37 => ?_)
        · refine E_iconst (v := 1) dX9_truth_51 (by decide) ?_
          refine E_goto (tgt := 56) dX9_truth_52 (by decide) ?_
          refine E_iadd dX9_truth_56 ?_
          refine E_istore_n dX9_truth_57 rfl (by decide) rfl ?_
          refine E_iinc (v := nI (i + 1)) dX9_truth_58 rfl (nI_i1 i) (by decide) rfl ?_
          refine E_goto (tgt := 5) dX9_truth_61 (by decide) ?_
          refine l_r_truth hM hT hT2 p w n (i + 1) (by omega) _ ?_
          unfold xtru; rw [xsm_succ, ← hv]; congr 1; (try split) <;> simp_all
        · refine E_aload_n dX9_truth_40 rfl rfl ?_
          refine E_getR dX9_truth_41 fX9_77 rfl rfl rfl (rM_24 hM) ?_
          refine E_iload dX9_truth_44 rfl ?_
          refine E_iald dX9_truth_46 rfl rfl (by decide) (lM_24 hM) (vin (by omega : i < 200) (by omega)) (vnat (by omega : i < 200) (by omega)) rfl ?_
          refine E_iconst (v := 5) dX9_truth_47 (by decide) ?_
          refine E_icmp_ne (tgt := 55) dX9_truth_48 (by decide) (fun h48 => ?_) (fun h48 => ?_)
          · refine E_iconst (v := 0) dX9_truth_55 (by decide) ?_
            refine E_iadd dX9_truth_56 ?_
            refine E_istore_n dX9_truth_57 rfl (by decide) rfl ?_
            refine E_iinc (v := nI (i + 1)) dX9_truth_58 rfl (nI_i1 i) (by decide) rfl ?_
            refine E_goto (tgt := 5) dX9_truth_61 (by decide) ?_
            refine l_r_truth hM hT hT2 p w n (i + 1) (by omega) _ ?_
            unfold xtru; rw [xsm_succ, ← hv]; congr 1; (try split) <;> simp_all
          · refine E_iconst (v := 1) dX9_truth_51 (by decide) ?_
            refine E_goto (tgt := 56) dX9_truth_52 (by decide) ?_
            refine E_iadd dX9_truth_56 ?_
            refine E_istore_n dX9_truth_57 rfl (by decide) rfl ?_
            refine E_iinc (v := nI (i + 1)) dX9_truth_58 rfl (nI_i1 i) (by decide) rfl ?_
            refine E_goto (tgt := 5) dX9_truth_61 (by decide) ?_
            refine l_r_truth hM hT hT2 p w n (i + 1) (by omega) _ ?_
            unfold xtru; rw [xsm_succ, ← hv]; congr 1; (try split) <;> simp_all
theorem c_r_truth {S : xS} (hM : xShM S) {T : Nat} (hT : (gI S 9 0 22) = nI T) (hT2 : T ≤ 200) (p w : Int32) : CC mX9_truth 1 0 0 [xR (some (9, 0)), xI p, xI w] S (aI (xtru S p w T) S) := by
  refine CC_of mpX9_truth rfl (Nat.le_of_ble_eq_true rfl) ?_
  refine E_iconst (v := 0) dX9_truth_0 (by decide) ?_
  refine E_istore_n dX9_truth_1 rfl (by decide) rfl ?_
  refine E_iconst (v := 0) dX9_truth_2 (by decide) ?_
  refine E_istore dX9_truth_3 (by decide) rfl ?_
  exact l_r_truth hM hT hT2 p w T 0 (by omega) 0 rfl
def xsch (S : xS) (c b : Int32) : Nat → Int32 := xsm (fun t => if ¬ (gI S 79 0 t) = 0 ∧ (gI S 74 0 t) = 3 ∧ (gI S 75 0 t) = c ∧ (gI S 76 0 t) = b then 1 else 0)
theorem l_r_inSchool {S : xS} (hM : xShM S) {T : Nat} (hT : (gI S 9 0 22) = nI T) (hT2 : T ≤ 200) (p w : Int32) : ∀ (n i : Nat), i + n = T → ∀ v, v = xsch S p w i → Ex mX9_inSchool 1 0 0 (0, fun _ => 0) (aI (xsch S p w T) S) 5 [some (xR (some (9, 0))), some (xI p), some (xI w), some (xI v), some (xI (nI i))] [] S
  | 0, i, hi, v, hv => by
    refine E_iload dX9_inSchool_5 rfl ?_
    refine E_aload_n dX9_inSchool_7 rfl rfl ?_
    refine E_getI dX9_inSchool_8 fX9_145 rfl rfl rfl hT ?_
    refine E_icmp_ge (tgt := 71) dX9_inSchool_11 (by decide) (fun h11 => ?_) (fun h11 => absurd h11 ((fun z => z (nI_le (a := T) (b := i) (by omega) (by omega)))))
    refine E_iload_n dX9_inSchool_71 rfl rfl ?_
    refine E_iret dX9_inSchool_72 rfl rfl ?_
    exact ⟨by rw [hv, show i = T by omega], rfl⟩
  | n + 1, i, hi, v, hv => by
    unfold xsch at hv
    refine E_iload dX9_inSchool_5 rfl ?_
    refine E_aload_n dX9_inSchool_7 rfl rfl ?_
    refine E_getI dX9_inSchool_8 fX9_145 rfl rfl rfl hT ?_
    refine E_icmp_ge (tgt := 71) dX9_inSchool_11 (by decide) (fun h11 => absurd h11 ((nI_ge (a := i) (b := T) (by omega) (by omega)))) (fun h11 => ?_)
    refine E_iload_n dX9_inSchool_14 rfl rfl ?_
    refine E_aload_n dX9_inSchool_15 rfl rfl ?_
    refine E_getR dX9_inSchool_16 fX9_92 rfl rfl rfl (rM_29 hM) ?_
    refine E_iload dX9_inSchool_19 rfl ?_
    refine E_zald dX9_inSchool_21 rfl rfl (by decide) (lM_29 hM) (vin (by omega : i < 200) (by omega)) (vnat (by omega : i < 200) (by omega)) rfl ?_
    refine E_if_eq (tgt := 62) dX9_inSchool_22 (by decide) (fun h22 => ?_) (fun h22 => ?_)
    · refine E_iconst (v := 0) dX9_inSchool_62 (by decide) ?_
      refine E_iadd dX9_inSchool_63 ?_
      refine E_istore_n dX9_inSchool_64 rfl (by decide) rfl ?_
      refine E_iinc (v := nI (i + 1)) dX9_inSchool_65 rfl (nI_i1 i) (by decide) rfl ?_
      refine E_goto (tgt := 5) dX9_inSchool_68 (by decide) ?_
      refine l_r_inSchool hM hT hT2 p w n (i + 1) (by omega) _ ?_
      unfold xsch; rw [xsm_succ, ← hv]; congr 1; (try split) <;> simp_all
    · refine E_aload_n dX9_inSchool_25 rfl rfl ?_
      refine E_getR dX9_inSchool_26 fX9_77 rfl rfl rfl (rM_24 hM) ?_
      refine E_iload dX9_inSchool_29 rfl ?_
      refine E_iald dX9_inSchool_31 rfl rfl (by decide) (lM_24 hM) (vin (by omega : i < 200) (by omega)) (vnat (by omega : i < 200) (by omega)) rfl ?_
      refine E_iconst (v := 3) dX9_inSchool_32 (by decide) ?_
      refine E_icmp_ne (tgt := 62) dX9_inSchool_33 (by decide) (fun h33 => ?_) (fun h33 => ?_)
      · refine E_iconst (v := 0) dX9_inSchool_62 (by decide) ?_
        refine E_iadd dX9_inSchool_63 ?_
        refine E_istore_n dX9_inSchool_64 rfl (by decide) rfl ?_
        refine E_iinc (v := nI (i + 1)) dX9_inSchool_65 rfl (nI_i1 i) (by decide) rfl ?_
        refine E_goto (tgt := 5) dX9_inSchool_68 (by decide) ?_
        refine l_r_inSchool hM hT hT2 p w n (i + 1) (by omega) _ ?_
        unfold xsch; rw [xsm_succ, ← hv]; congr 1; (try split) <;> simp_all
      · refine E_aload_n dX9_inSchool_36 rfl rfl ?_
        refine E_getR dX9_inSchool_37 fX9_80 rfl rfl rfl (rM_25 hM) ?_
        refine E_iload dX9_inSchool_40 rfl ?_
        refine E_iald dX9_inSchool_42 rfl rfl (by decide) (lM_25 hM) (vin (by omega : i < 200) (by omega)) (vnat (by omega : i < 200) (by omega)) rfl ?_
        refine E_iload_n dX9_inSchool_43 rfl rfl ?_
        refine E_icmp_ne (tgt := 62) dX9_inSchool_44 (by decide) (fun h44 => ?_) (fun h44 => ?_)
        · refine E_iconst (v := 0) dX9_inSchool_62 (by decide) ?_
          refine E_iadd dX9_inSchool_63 ?_
          refine E_istore_n dX9_inSchool_64 rfl (by decide) rfl ?_
          refine E_iinc (v := nI (i + 1)) dX9_inSchool_65 rfl (nI_i1 i) (by decide) rfl ?_
          refine E_goto (tgt := 5) dX9_inSchool_68 (by decide) ?_
          refine l_r_inSchool hM hT hT2 p w n (i + 1) (by omega) _ ?_
          unfold xsch; rw [xsm_succ, ← hv]; congr 1; (try split) <;> simp_all
        · refine E_aload_n dX9_inSchool_47 rfl rfl ?_
          refine E_getR dX9_inSchool_48 fX9_83 rfl rfl rfl (rM_26 hM) ?_
          refine E_iload dX9_inSchool_51 rfl ?_
          refine E_zald dX9_inSchool_53 rfl rfl (by decide) (lM_26 hM) (vin (by omega : i < 200) (by omega)) (vnat (by omega : i < 200) (by omega)) rfl ?_
          refine E_iload_n dX9_inSchool_54 rfl rfl ?_
          refine E_icmp_ne (tgt := 62) dX9_inSchool_55 (by decide) (fun h55 => ?_) (fun h55 => ?_)
          · refine E_iconst (v := 0) dX9_inSchool_62 (by decide) ?_
            refine E_iadd dX9_inSchool_63 ?_
            refine E_istore_n dX9_inSchool_64 rfl (by decide) rfl ?_
            refine E_iinc (v := nI (i + 1)) dX9_inSchool_65 rfl (nI_i1 i) (by decide) rfl ?_
            refine E_goto (tgt := 5) dX9_inSchool_68 (by decide) ?_
            refine l_r_inSchool hM hT hT2 p w n (i + 1) (by omega) _ ?_
            unfold xsch; rw [xsm_succ, ← hv]; congr 1; (try split) <;> simp_all
          · refine E_iconst (v := 1) dX9_inSchool_58 (by decide) ?_
            refine E_goto (tgt := 63) dX9_inSchool_59 (by decide) ?_
            refine E_iadd dX9_inSchool_63 ?_
            refine E_istore_n dX9_inSchool_64 rfl (by decide) rfl ?_
            refine E_iinc (v := nI (i + 1)) dX9_inSchool_65 rfl (nI_i1 i) (by decide) rfl ?_
            refine E_goto (tgt := 5) dX9_inSchool_68 (by decide) ?_
            refine l_r_inSchool hM hT hT2 p w n (i + 1) (by omega) _ ?_
            unfold xsch; rw [xsm_succ, ← hv]; congr 1; (try split) <;> simp_all
theorem c_r_inSchool {S : xS} (hM : xShM S) {T : Nat} (hT : (gI S 9 0 22) = nI T) (hT2 : T ≤ 200) (p w : Int32) : CC mX9_inSchool 1 0 0 [xR (some (9, 0)), xI p, xI w] S (aI (xsch S p w T) S) := by
  refine CC_of mpX9_inSchool rfl (Nat.le_of_ble_eq_true rfl) ?_
  refine E_iconst (v := 0) dX9_inSchool_0 (by decide) ?_
  refine E_istore_n dX9_inSchool_1 rfl (by decide) rfl ?_
  refine E_iconst (v := 0) dX9_inSchool_2 (by decide) ?_
  refine E_istore dX9_inSchool_3 (by decide) rfl ?_
  exact l_r_inSchool hM hT hT2 p w T 0 (by omega) 0 rfl
theorem c_r_isClubbed {S : xS} (hM : xShM S) {t : Nat} (ht : t < 200) : CC mX9_isClubbed 1 0 0 [xR (some (9, 0)), xI (nI t)] S (aI (if (gI S 74 0 t) = 2 ∨ (gI S 74 0 t) = 3 then 1 else 0) S) := by
  refine CC_of mpX9_isClubbed rfl (Nat.le_of_ble_eq_true rfl) ?_
  refine E_aload_n dX9_isClubbed_0 rfl rfl ?_
  refine E_getR dX9_isClubbed_1 fX9_77 rfl rfl rfl (rM_24 hM) ?_
  refine E_iload_n dX9_isClubbed_4 rfl rfl ?_
  refine E_iald dX9_isClubbed_5 rfl rfl (by decide) (lM_24 hM) (vin ht (by omega)) (vnat ht (by omega)) rfl ?_
  refine E_iconst (v := 2) dX9_isClubbed_6 (by decide) ?_
  refine E_icmp_eq (tgt := 20) dX9_isClubbed_7 (by decide) (fun h7 => ?_) (fun h7 => ?_)
  · refine E_iconst (v := 1) dX9_isClubbed_20 (by decide) ?_
    refine E_goto (tgt := 25) dX9_isClubbed_21 (by decide) ?_
    refine E_iret dX9_isClubbed_25 rfl rfl ?_
    refine ⟨congrArg (fun z => some (xI z)) ?_, rfl⟩; (try split) <;> first | rfl | (exfalso; simp only [fa_lt, fa_le, fa_eq] at *; omega)
  · refine E_aload_n dX9_isClubbed_10 rfl rfl ?_
    refine E_getR dX9_isClubbed_11 fX9_77 rfl rfl rfl (rM_24 hM) ?_
    refine E_iload_n dX9_isClubbed_14 rfl rfl ?_
    refine E_iald dX9_isClubbed_15 rfl rfl (by decide) (lM_24 hM) (vin ht (by omega)) (vnat ht (by omega)) rfl ?_
    refine E_iconst (v := 3) dX9_isClubbed_16 (by decide) ?_
    refine E_icmp_ne (tgt := 24) dX9_isClubbed_17 (by decide) (fun h17 => ?_) (fun h17 => ?_)
    · refine E_iconst (v := 0) dX9_isClubbed_24 (by decide) ?_
      refine E_iret dX9_isClubbed_25 rfl rfl ?_
      refine ⟨congrArg (fun z => some (xI z)) ?_, rfl⟩; (try split) <;> first | rfl | (exfalso; simp only [fa_lt, fa_le, fa_eq] at *; omega)
    · refine E_iconst (v := 1) dX9_isClubbed_20 (by decide) ?_
      refine E_goto (tgt := 25) dX9_isClubbed_21 (by decide) ?_
      refine E_iret dX9_isClubbed_25 rfl rfl ?_
      refine ⟨congrArg (fun z => some (xI z)) ?_, rfl⟩; (try split) <;> first | rfl | (exfalso; simp only [fa_lt, fa_le, fa_eq] at *; omega)
theorem c_r_isTimed {S : xS} (hM : xShM S) {t : Nat} (ht : t < 200) : CC mX9_isTimed 2 0 0 [xR (some (9, 0)), xI (nI t)] S (aI (if (gI S 74 0 t) = 1 ∨ (gI S 74 0 t) = 2 ∨ (gI S 74 0 t) = 3 then 1 else 0) S) := by
  refine CC_of mpX9_isTimed rfl (Nat.le_of_ble_eq_true rfl) ?_
  refine E_aload_n dX9_isTimed_0 rfl rfl ?_
  refine E_getR dX9_isTimed_1 fX9_77 rfl rfl rfl (rM_24 hM) ?_
  refine E_iload_n dX9_isTimed_4 rfl rfl ?_
  refine E_iald dX9_isTimed_5 rfl rfl (by decide) (lM_24 hM) (vin ht (by omega)) (vnat ht (by omega)) rfl ?_
  refine E_iconst (v := 1) dX9_isTimed_6 (by decide) ?_
  refine E_icmp_eq (tgt := 18) dX9_isTimed_7 (by decide) (fun h7 => ?_) (fun h7 => ?_)
  · refine E_iconst (v := 1) dX9_isTimed_18 (by decide) ?_
    refine E_goto (tgt := 23) dX9_isTimed_19 (by decide) ?_
    refine E_iret dX9_isTimed_23 rfl rfl ?_
    refine ⟨congrArg (fun z => some (xI z)) ?_, rfl⟩; simp_all
  · refine E_aload_n dX9_isTimed_10 rfl rfl ?_
    refine E_iload_n dX9_isTimed_11 rfl rfl ?_
    refine E_callV (m2 := mX9_isClubbed) dX9_isTimed_12 kX9_188 mzX9_isClubbed (c_r_isClubbed hM ht) rfl ⟨_, _, rfl⟩ rfl rfl (by decide) (xs8 (Nat.le_of_ble_eq_true rfl)) (by first | exact Nat.le_of_ble_eq_true rfl | omega) (by first | exact Nat.le_of_ble_eq_true rfl | omega) ?_
    rintro _ _ ⟨rfl, rfl⟩
    refine E_if_eq (tgt := 22) dX9_isTimed_15 (by decide) (fun h15 => ?_) (fun h15 => ?_)
    · refine E_iconst (v := 0) dX9_isTimed_22 (by decide) ?_
      refine E_iret dX9_isTimed_23 rfl rfl ?_
      refine ⟨congrArg (fun z => some (xI z)) ?_, rfl⟩; simp_all
    · refine E_iconst (v := 1) dX9_isTimed_18 (by decide) ?_
      refine E_goto (tgt := 23) dX9_isTimed_19 (by decide) ?_
      refine E_iret dX9_isTimed_23 rfl rfl ?_
      refine ⟨congrArg (fun z => some (xI z)) ?_, rfl⟩; simp_all
def xrby (S : xS) (t : Nat) : Int32 := if (gI S 74 0 t) = 1 ∨ (gI S 74 0 t) = 2 ∨ (gI S 74 0 t) = 3 then (gI S 9 0 0) - (gI S 77 0 t) - (gI S 78 0 t) + 1 else 0
theorem c_r_beyond {S : xS} (hM : xShM S) {t : Nat} (ht : t < 200) : CC mX9_beyond 3 0 0 [xR (some (9, 0)), xI (nI t)] S (aI (xrby S t) S) := by
  refine CC_of mpX9_beyond rfl (Nat.le_of_ble_eq_true rfl) ?_
  unfold xrby
  refine E_aload_n dX9_beyond_0 rfl rfl ?_
  refine E_iload_n dX9_beyond_1 rfl rfl ?_
  refine E_callV (m2 := mX9_isTimed) dX9_beyond_2 kX9_200 mzX9_isTimed (c_r_isTimed hM ht) rfl ⟨_, _, rfl⟩ rfl rfl (by decide) (xs8 (Nat.le_of_ble_eq_true rfl)) (by first | exact Nat.le_of_ble_eq_true rfl | omega) (by first | exact Nat.le_of_ble_eq_true rfl | omega) ?_
  rintro _ _ ⟨rfl, rfl⟩
  refine E_if_eq (tgt := 31) dX9_beyond_5 (by decide) (fun h5 => ?_) (fun h5 => ?_)
  · refine E_iconst (v := 0) dX9_beyond_31 (by decide) ?_
    refine E_iret dX9_beyond_32 rfl rfl ?_
    refine ⟨congrArg (fun z => some (xI z)) ?_, rfl⟩; first | rw [if_neg (ite0 h5)] | rw [if_pos (ite1 h5)]
  · refine E_aload_n dX9_beyond_8 rfl rfl ?_
    refine E_getI dX9_beyond_9 fX9_148 rfl rfl rfl rfl ?_
    refine E_aload_n dX9_beyond_12 rfl rfl ?_
    refine E_getR dX9_beyond_13 fX9_86 rfl rfl rfl (rM_27 hM) ?_
    refine E_iload_n dX9_beyond_16 rfl rfl ?_
    refine E_iald dX9_beyond_17 rfl rfl (by decide) (lM_27 hM) (vin ht (by omega)) (vnat ht (by omega)) rfl ?_
    refine E_isub dX9_beyond_18 ?_
    refine E_aload_n dX9_beyond_19 rfl rfl ?_
    refine E_getR dX9_beyond_20 fX9_89 rfl rfl rfl (rM_28 hM) ?_
    refine E_iload_n dX9_beyond_23 rfl rfl ?_
    refine E_iald dX9_beyond_24 rfl rfl (by decide) (lM_28 hM) (vin ht (by omega)) (vnat ht (by omega)) rfl ?_
    refine E_isub dX9_beyond_25 ?_
    refine E_iconst (v := 1) dX9_beyond_26 (by decide) ?_
    refine E_iadd dX9_beyond_27 ?_
    refine E_goto (tgt := 32) dX9_beyond_28 (by decide) ?_
    refine E_iret dX9_beyond_32 rfl rfl ?_
    refine ⟨congrArg (fun z => some (xI z)) ?_, rfl⟩; first | rw [if_neg (ite0 h5)] | rw [if_pos (ite1 h5)]
def xrlv (S : xS) (A U : Nat) : xS := (sI (sI S 82 0 U (gI S 9 0 0)) 70 0 A (-1))
theorem c_r_leaves {S : xS} (hM : xShM S) {A U : Nat} (hA : A < 12) (hU : U < 200) (h : (gI S 70 0 A) = nI U) : CC mX9_leaves 1 0 0 [xR (some (9, 0)), xI (nI A)] S (aV (xrlv S A U)) := by
  refine CC_of mpX9_leaves rfl (Nat.le_of_ble_eq_true rfl) ?_
  refine E_aload_n dX9_leaves_0 rfl rfl ?_
  refine E_getR dX9_leaves_1 fX9_101 rfl rfl rfl (rM_32 hM) ?_
  refine E_aload_n dX9_leaves_4 rfl rfl ?_
  refine E_getR dX9_leaves_5 fX9_68 rfl rfl rfl (rM_20 hM) ?_
  refine E_iload_n dX9_leaves_8 rfl rfl ?_
  refine E_iald dX9_leaves_9 rfl rfl (by decide) (lM_20 hM) (vin hA (by omega)) (vnat hA (by omega)) h ?_
  refine E_aload_n dX9_leaves_10 rfl rfl ?_
  refine E_getI dX9_leaves_11 fX9_148 rfl rfl rfl rfl ?_
  refine E_iast dX9_leaves_14 rfl rfl (by decide) (lM_32 hM) (vin hU (by omega)) (vnat hU (by omega)) ?_
  refine E_aload_n dX9_leaves_15 rfl rfl ?_
  refine E_getR dX9_leaves_16 fX9_68 rfl rfl rfl (rM_20 hM) ?_
  refine E_iload_n dX9_leaves_19 rfl rfl ?_
  refine E_iconst (v := -1) dX9_leaves_20 (by decide) ?_
  refine E_iast dX9_leaves_21 rfl rfl (by decide) (lM_20 hM) (vin hA (by omega)) (vnat hA (by omega)) ?_
  refine E_vret dX9_leaves_22 rfl ?_
  exact ⟨rfl, rfl⟩
def xlk (S : xS) (x : Int32) : Option Nat := xfi (fun l => decide ((gI S 83 0 l) = x)) 30
theorem l_r_lockerOf_y {S : xS} (hM : xShM S) (x : Int32) {l : Nat} (hl : l < 30) (h0 : (gI S 83 0 l) = x) (h1 : ∀ j, j < l → ¬ (gI S 83 0 j) = x) : ∀ (n i : Nat), i + n = l → Ex mX9_lockerOf 1 0 0 (0, fun _ => 0) (aI (nI l) S) 2 [some (xR (some (9, 0))), some (xI x), some (xI (nI i))] [] S
  | 0, i, hi => by
    have hi : i = l := by omega
    subst hi
    refine E_iload_n dX9_lockerOf_2 rfl rfl ?_
    refine E_bipush (v := 30) dX9_lockerOf_3 (by decide) ?_
    refine E_icmp_ge (tgt := 26) dX9_lockerOf_5 (by decide) (fun h5 => absurd h5 ((nI_ge (a := i) (b := 30) (by omega) (by omega)))) (fun h5 => ?_)
    refine E_aload_n dX9_lockerOf_8 rfl rfl ?_
    refine E_getR dX9_lockerOf_9 fX9_104 rfl rfl rfl (rM_33 hM) ?_
    refine E_iload_n dX9_lockerOf_12 rfl rfl ?_
    refine E_iald dX9_lockerOf_13 rfl rfl (by decide) (lM_33 hM) (vin hl (by omega)) (vnat hl (by omega)) rfl ?_
    refine E_iload_n dX9_lockerOf_14 rfl rfl ?_
    refine E_icmp_ne (tgt := 20) dX9_lockerOf_15 (by decide) (fun h15 => absurd h15 (fun z => z h0)) (fun h15 => ?_)
    refine E_iload_n dX9_lockerOf_18 rfl rfl ?_
    refine E_iret dX9_lockerOf_19 rfl rfl ?_
    exact ⟨rfl, rfl⟩
  | n + 1, i, hi => by
    refine E_iload_n dX9_lockerOf_2 rfl rfl ?_
    refine E_bipush (v := 30) dX9_lockerOf_3 (by decide) ?_
    refine E_icmp_ge (tgt := 26) dX9_lockerOf_5 (by decide) (fun h5 => absurd h5 ((nI_ge (a := i) (b := 30) (by omega) (by omega)))) (fun h5 => ?_)
    refine E_aload_n dX9_lockerOf_8 rfl rfl ?_
    refine E_getR dX9_lockerOf_9 fX9_104 rfl rfl rfl (rM_33 hM) ?_
    refine E_iload_n dX9_lockerOf_12 rfl rfl ?_
    refine E_iald dX9_lockerOf_13 rfl rfl (by decide) (lM_33 hM) (vin (by omega : i < 30) (by omega)) (vnat (by omega : i < 30) (by omega)) rfl ?_
    refine E_iload_n dX9_lockerOf_14 rfl rfl ?_
    refine E_icmp_ne (tgt := 20) dX9_lockerOf_15 (by decide) (fun h15 => ?_) (fun h15 => absurd h15 (h1 i (by omega)))
    refine E_iinc (v := nI (i + 1)) dX9_lockerOf_20 rfl (nI_i1 i) (by decide) rfl ?_
    refine E_goto (tgt := 2) dX9_lockerOf_23 (by decide) ?_
    exact l_r_lockerOf_y hM x hl h0 h1 n (i + 1) (by omega)
theorem l_r_lockerOf_n {S : xS} (hM : xShM S) (x : Int32) (h1 : ∀ j, j < 30 → ¬ (gI S 83 0 j) = x) : ∀ (n i : Nat), i + n = 30 → Ex mX9_lockerOf 1 0 0 (0, fun _ => 0) (aI (-1) S) 2 [some (xR (some (9, 0))), some (xI x), some (xI (nI i))] [] S
  | 0, i, hi => by
    refine E_iload_n dX9_lockerOf_2 rfl rfl ?_
    refine E_bipush (v := 30) dX9_lockerOf_3 (by decide) ?_
    refine E_icmp_ge (tgt := 26) dX9_lockerOf_5 (by decide) (fun h5 => ?_) (fun h5 => absurd h5 ((fun z => z (nI_le (a := 30) (b := i) (by omega) (by omega)))))
    refine E_iconst (v := -1) dX9_lockerOf_26 (by decide) ?_
    refine E_iret dX9_lockerOf_27 rfl rfl ?_
    exact ⟨rfl, rfl⟩
  | n + 1, i, hi => by
    refine E_iload_n dX9_lockerOf_2 rfl rfl ?_
    refine E_bipush (v := 30) dX9_lockerOf_3 (by decide) ?_
    refine E_icmp_ge (tgt := 26) dX9_lockerOf_5 (by decide) (fun h5 => absurd h5 ((nI_ge (a := i) (b := 30) (by omega) (by omega)))) (fun h5 => ?_)
    refine E_aload_n dX9_lockerOf_8 rfl rfl ?_
    refine E_getR dX9_lockerOf_9 fX9_104 rfl rfl rfl (rM_33 hM) ?_
    refine E_iload_n dX9_lockerOf_12 rfl rfl ?_
    refine E_iald dX9_lockerOf_13 rfl rfl (by decide) (lM_33 hM) (vin (by omega : i < 30) (by omega)) (vnat (by omega : i < 30) (by omega)) rfl ?_
    refine E_iload_n dX9_lockerOf_14 rfl rfl ?_
    refine E_icmp_ne (tgt := 20) dX9_lockerOf_15 (by decide) (fun h15 => ?_) (fun h15 => absurd h15 (h1 i (by omega)))
    refine E_iinc (v := nI (i + 1)) dX9_lockerOf_20 rfl (nI_i1 i) (by decide) rfl ?_
    refine E_goto (tgt := 2) dX9_lockerOf_23 (by decide) ?_
    exact l_r_lockerOf_n hM x h1 n (i + 1) (by omega)
theorem c_r_lockerOf {S : xS} (hM : xShM S) (x : Int32) : CC mX9_lockerOf 1 0 0 [xR (some (9, 0)), xI x] S (aI (xon (xlk S x)) S) := by
  refine CC_of mpX9_lockerOf rfl (Nat.le_of_ble_eq_true rfl) ?_
  cases h : xlk S x with
  | none =>
    have h1 : ∀ j, j < 30 → ¬ (gI S 83 0 j) = x := fun j hj => by simpa using xfi_none h j hj
    refine E_iconst (v := 0) dX9_lockerOf_0 (by decide) ?_
    refine E_istore_n dX9_lockerOf_1 rfl (by decide) rfl ?_
    exact l_r_lockerOf_n hM x h1 30 0 rfl
  | some l =>
    obtain ⟨hl, h0, h1⟩ := xfi_some h
    refine E_iconst (v := 0) dX9_lockerOf_0 (by decide) ?_
    refine E_istore_n dX9_lockerOf_1 rfl (by decide) rfl ?_
    exact l_r_lockerOf_y hM x hl (by simpa using h0) (fun j hj => by simpa using h1 j hj) l 0 (by omega)
/-- a club has this lane now -/
def xhl (S : xS) (p x : Int32) (c : Nat) : Prop := (gI S 87 0 c) = p ∧ ((gI S 89 0 c) ≤ (gI S 9 0 0) ∧ (gI S 9 0 0) < (gI S 90 0 c)) ∧ ((gI S 88 0 c) >>> (x &&& 31)) &&& 1 = 1
theorem l_r_isFree_n {S : xS} (hM : xShM S) {C : Nat} (hC : (gI S 9 0 35) = nI C) (hC2 : C ≤ 20) (p x : Int32) {c : Nat} (hc : c < C) (h0 : xhl S p x c) (h1 : ∀ j, j < c → ¬ xhl S p x j) : ∀ (n i : Nat), i + n = c → Ex mX9_isFree 2 0 0 (0, fun _ => 0) (aI 0 S) 2 [some (xR (some (9, 0))), some (xI p), some (xI x), some (xI (nI i))] [] S
  | 0, i, hi => by
    have hi : i = c := by omega
    subst hi
    refine E_iload_n dX9_isFree_2 rfl rfl ?_
    refine E_aload_n dX9_isFree_3 rfl rfl ?_
    refine E_getI dX9_isFree_4 fX9_172 rfl rfl rfl hC ?_
    refine E_icmp_ge (tgt := 50) dX9_isFree_7 (by decide) (fun h7 => absurd h7 ((nI_ge (a := i) (b := C) (by omega) (by omega)))) (fun h7 => ?_)
    refine E_aload_n dX9_isFree_10 rfl rfl ?_
    refine E_getR dX9_isFree_11 fX9_114 rfl rfl rfl (rM_37 hM) ?_
    refine E_iload_n dX9_isFree_14 rfl rfl ?_
    refine E_iald dX9_isFree_15 rfl rfl (by decide) (lM_37 hM) (vin (by omega : i < 20) (by omega)) (vnat (by omega : i < 20) (by omega)) rfl ?_
    refine E_iload_n dX9_isFree_16 rfl rfl ?_
    refine E_icmp_ne (tgt := 44) dX9_isFree_17 (by decide) (fun h17 => absurd h17 (fun z => z h0.1)) (fun h17 => ?_)
    refine E_aload_n dX9_isFree_20 rfl rfl ?_
    refine E_iload_n dX9_isFree_21 rfl rfl ?_
    refine E_callV (m2 := mX9_isThere) dX9_isFree_22 kX9_191 mzX9_isThere (c_r_isThere hM (by omega)) rfl ⟨_, _, rfl⟩ rfl rfl (by decide) (xs8 (Nat.le_of_ble_eq_true rfl)) (by first | exact Nat.le_of_ble_eq_true rfl | omega) (by first | exact Nat.le_of_ble_eq_true rfl | omega) ?_
    rintro _ _ ⟨rfl, rfl⟩; rw [if_pos h0.2.1]
    refine E_if_eq (tgt := 44) dX9_isFree_25 (by decide) (fun h25 => absurd h25 (by decide)) (fun h25 => ?_)
    refine E_aload_n dX9_isFree_28 rfl rfl ?_
    refine E_getR dX9_isFree_29 fX9_117 rfl rfl rfl (rM_38 hM) ?_
    refine E_iload_n dX9_isFree_32 rfl rfl ?_
    refine E_iald dX9_isFree_33 rfl rfl (by decide) (lM_38 hM) (vin (by omega : i < 20) (by omega)) (vnat (by omega : i < 20) (by omega)) rfl ?_
    refine E_iload_n dX9_isFree_34 rfl rfl ?_
    refine E_ishr dX9_isFree_35 ?_
    refine E_iconst (v := 1) dX9_isFree_36 (by decide) ?_
    refine E_iand dX9_isFree_37 ?_
    refine E_iconst (v := 1) dX9_isFree_38 (by decide) ?_
    refine E_icmp_ne (tgt := 44) dX9_isFree_39 (by decide) (fun h39 => absurd h39 (fun z => z h0.2.2)) (fun h39 => ?_)
    refine E_iconst (v := 0) dX9_isFree_42 (by decide) ?_
    refine E_iret dX9_isFree_43 rfl rfl ?_
    exact ⟨rfl, rfl⟩
  | n + 1, i, hi => by
    have hno := h1 i (by omega)
    refine E_iload_n dX9_isFree_2 rfl rfl ?_
    refine E_aload_n dX9_isFree_3 rfl rfl ?_
    refine E_getI dX9_isFree_4 fX9_172 rfl rfl rfl hC ?_
    refine E_icmp_ge (tgt := 50) dX9_isFree_7 (by decide) (fun h7 => absurd h7 ((nI_ge (a := i) (b := C) (by omega) (by omega)))) (fun h7 => ?_)
    refine E_aload_n dX9_isFree_10 rfl rfl ?_
    refine E_getR dX9_isFree_11 fX9_114 rfl rfl rfl (rM_37 hM) ?_
    refine E_iload_n dX9_isFree_14 rfl rfl ?_
    refine E_iald dX9_isFree_15 rfl rfl (by decide) (lM_37 hM) (vin (by omega : i < 20) (by omega)) (vnat (by omega : i < 20) (by omega)) rfl ?_
    refine E_iload_n dX9_isFree_16 rfl rfl ?_
    refine E_icmp_ne (tgt := 44) dX9_isFree_17 (by decide) (fun h17 => ?_) (fun h17 => ?_)
    · refine E_iinc (v := nI (i + 1)) dX9_isFree_44 rfl (nI_i1 i) (by decide) rfl ?_
      refine E_goto (tgt := 2) dX9_isFree_47 (by decide) ?_
      exact l_r_isFree_n hM hC hC2 p x hc h0 h1 n (i + 1) (by omega)
    · refine E_aload_n dX9_isFree_20 rfl rfl ?_
      refine E_iload_n dX9_isFree_21 rfl rfl ?_
      refine E_callV (m2 := mX9_isThere) dX9_isFree_22 kX9_191 mzX9_isThere (c_r_isThere hM (by omega)) rfl ⟨_, _, rfl⟩ rfl rfl (by decide) (xs8 (Nat.le_of_ble_eq_true rfl)) (by first | exact Nat.le_of_ble_eq_true rfl | omega) (by first | exact Nat.le_of_ble_eq_true rfl | omega) ?_
      rintro _ _ ⟨rfl, rfl⟩
      refine E_if_eq (tgt := 44) dX9_isFree_25 (by decide) (fun h25 => ?_) (fun h25 => ?_)
      · refine E_iinc (v := nI (i + 1)) dX9_isFree_44 rfl (nI_i1 i) (by decide) rfl ?_
        refine E_goto (tgt := 2) dX9_isFree_47 (by decide) ?_
        exact l_r_isFree_n hM hC hC2 p x hc h0 h1 n (i + 1) (by omega)
      · refine E_aload_n dX9_isFree_28 rfl rfl ?_
        refine E_getR dX9_isFree_29 fX9_117 rfl rfl rfl (rM_38 hM) ?_
        refine E_iload_n dX9_isFree_32 rfl rfl ?_
        refine E_iald dX9_isFree_33 rfl rfl (by decide) (lM_38 hM) (vin (by omega : i < 20) (by omega)) (vnat (by omega : i < 20) (by omega)) rfl ?_
        refine E_iload_n dX9_isFree_34 rfl rfl ?_
        refine E_ishr dX9_isFree_35 ?_
        refine E_iconst (v := 1) dX9_isFree_36 (by decide) ?_
        refine E_iand dX9_isFree_37 ?_
        refine E_iconst (v := 1) dX9_isFree_38 (by decide) ?_
        refine E_icmp_ne (tgt := 44) dX9_isFree_39 (by decide) (fun h39 => ?_) (fun h39 => ?_)
        · refine E_iinc (v := nI (i + 1)) dX9_isFree_44 rfl (nI_i1 i) (by decide) rfl ?_
          refine E_goto (tgt := 2) dX9_isFree_47 (by decide) ?_
          exact l_r_isFree_n hM hC hC2 p x hc h0 h1 n (i + 1) (by omega)
        · exact absurd ⟨h17, ite1 h25, h39⟩ hno
theorem l_r_isFree_y {S : xS} (hM : xShM S) {C : Nat} (hC : (gI S 9 0 35) = nI C) (hC2 : C ≤ 20) (p x : Int32) (h1 : ∀ j, j < C → ¬ xhl S p x j) : ∀ (n i : Nat), i + n = C → Ex mX9_isFree 2 0 0 (0, fun _ => 0) (aI 1 S) 2 [some (xR (some (9, 0))), some (xI p), some (xI x), some (xI (nI i))] [] S
  | 0, i, hi => by
    refine E_iload_n dX9_isFree_2 rfl rfl ?_
    refine E_aload_n dX9_isFree_3 rfl rfl ?_
    refine E_getI dX9_isFree_4 fX9_172 rfl rfl rfl hC ?_
    refine E_icmp_ge (tgt := 50) dX9_isFree_7 (by decide) (fun h7 => ?_) (fun h7 => absurd h7 ((fun z => z (nI_le (a := C) (b := i) (by omega) (by omega)))))
    refine E_iconst (v := 1) dX9_isFree_50 (by decide) ?_
    refine E_iret dX9_isFree_51 rfl rfl ?_
    exact ⟨rfl, rfl⟩
  | n + 1, i, hi => by
    have hno := h1 i (by omega)
    refine E_iload_n dX9_isFree_2 rfl rfl ?_
    refine E_aload_n dX9_isFree_3 rfl rfl ?_
    refine E_getI dX9_isFree_4 fX9_172 rfl rfl rfl hC ?_
    refine E_icmp_ge (tgt := 50) dX9_isFree_7 (by decide) (fun h7 => absurd h7 ((nI_ge (a := i) (b := C) (by omega) (by omega)))) (fun h7 => ?_)
    refine E_aload_n dX9_isFree_10 rfl rfl ?_
    refine E_getR dX9_isFree_11 fX9_114 rfl rfl rfl (rM_37 hM) ?_
    refine E_iload_n dX9_isFree_14 rfl rfl ?_
    refine E_iald dX9_isFree_15 rfl rfl (by decide) (lM_37 hM) (vin (by omega : i < 20) (by omega)) (vnat (by omega : i < 20) (by omega)) rfl ?_
    refine E_iload_n dX9_isFree_16 rfl rfl ?_
    refine E_icmp_ne (tgt := 44) dX9_isFree_17 (by decide) (fun h17 => ?_) (fun h17 => ?_)
    · refine E_iinc (v := nI (i + 1)) dX9_isFree_44 rfl (nI_i1 i) (by decide) rfl ?_
      refine E_goto (tgt := 2) dX9_isFree_47 (by decide) ?_
      exact l_r_isFree_y hM hC hC2 p x h1 n (i + 1) (by omega)
    · refine E_aload_n dX9_isFree_20 rfl rfl ?_
      refine E_iload_n dX9_isFree_21 rfl rfl ?_
      refine E_callV (m2 := mX9_isThere) dX9_isFree_22 kX9_191 mzX9_isThere (c_r_isThere hM (by omega)) rfl ⟨_, _, rfl⟩ rfl rfl (by decide) (xs8 (Nat.le_of_ble_eq_true rfl)) (by first | exact Nat.le_of_ble_eq_true rfl | omega) (by first | exact Nat.le_of_ble_eq_true rfl | omega) ?_
      rintro _ _ ⟨rfl, rfl⟩
      refine E_if_eq (tgt := 44) dX9_isFree_25 (by decide) (fun h25 => ?_) (fun h25 => ?_)
      · refine E_iinc (v := nI (i + 1)) dX9_isFree_44 rfl (nI_i1 i) (by decide) rfl ?_
        refine E_goto (tgt := 2) dX9_isFree_47 (by decide) ?_
        exact l_r_isFree_y hM hC hC2 p x h1 n (i + 1) (by omega)
      · refine E_aload_n dX9_isFree_28 rfl rfl ?_
        refine E_getR dX9_isFree_29 fX9_117 rfl rfl rfl (rM_38 hM) ?_
        refine E_iload_n dX9_isFree_32 rfl rfl ?_
        refine E_iald dX9_isFree_33 rfl rfl (by decide) (lM_38 hM) (vin (by omega : i < 20) (by omega)) (vnat (by omega : i < 20) (by omega)) rfl ?_
        refine E_iload_n dX9_isFree_34 rfl rfl ?_
        refine E_ishr dX9_isFree_35 ?_
        refine E_iconst (v := 1) dX9_isFree_36 (by decide) ?_
        refine E_iand dX9_isFree_37 ?_
        refine E_iconst (v := 1) dX9_isFree_38 (by decide) ?_
        refine E_icmp_ne (tgt := 44) dX9_isFree_39 (by decide) (fun h39 => ?_) (fun h39 => ?_)
        · refine E_iinc (v := nI (i + 1)) dX9_isFree_44 rfl (nI_i1 i) (by decide) rfl ?_
          refine E_goto (tgt := 2) dX9_isFree_47 (by decide) ?_
          exact l_r_isFree_y hM hC hC2 p x h1 n (i + 1) (by omega)
        · exact absurd ⟨h17, ite1 h25, h39⟩ hno
theorem c_r_isFree_y {S : xS} (hM : xShM S) {C : Nat} (hC : (gI S 9 0 35) = nI C) (hC2 : C ≤ 20) (p x : Int32) (h1 : ∀ j, j < C → ¬ xhl S p x j) : CC mX9_isFree 2 0 0 [xR (some (9, 0)), xI p, xI x] S (aI 1 S) := by
  refine CC_of mpX9_isFree rfl (Nat.le_of_ble_eq_true rfl) ?_
  refine E_iconst (v := 0) dX9_isFree_0 (by decide) ?_
  refine E_istore_n dX9_isFree_1 rfl (by decide) rfl ?_
  exact l_r_isFree_y hM hC hC2 p x h1 C 0 (by omega)
theorem c_r_isFree_n {S : xS} (hM : xShM S) {C : Nat} (hC : (gI S 9 0 35) = nI C) (hC2 : C ≤ 20) (p x : Int32) {c : Nat} (hc : c < C) (h0 : xhl S p x c) (h1 : ∀ j, j < c → ¬ xhl S p x j) : CC mX9_isFree 2 0 0 [xR (some (9, 0)), xI p, xI x] S (aI 0 S) := by
  refine CC_of mpX9_isFree rfl (Nat.le_of_ble_eq_true rfl) ?_
  refine E_iconst (v := 0) dX9_isFree_0 (by decide) ?_
  refine E_istore_n dX9_isFree_1 rfl (by decide) rfl ?_
  exact l_r_isFree_n hM hC hC2 p x hc h0 h1 c 0 (by omega)
