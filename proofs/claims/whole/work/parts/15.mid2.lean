/-! Ticket's larger methods -/
def xml (S : xS) (t : Nat) (x : Int32) : Int32 := if (gI S 7 t 6) = 0 ∨ (¬ (gI S 7 t 2) = 1 ∧ (gR S 7 t 4) = none) then 0 else (gI S 7 t 7) + (gI S 7 t 8) - x - 1
def xow (b : Int32) : Int32 := if 0 < b then (b + 15 - 1) / 15 * 20 else 0
def xpass (S : xS) (c : Nat) (b x : Int32) : xS := if b = 0 then (sI S 0 c 5 ((gI S 0 c 5) + x)) else (sI S 0 c 6 ((gI S 0 c 6) + x))
/-- a ticket's club is told that it came or went -/
def xpc (S : xS) (t : Nat) (x : Int32) : xS := match (gR S 7 t 4) with
  | none => S
  | some q => xpass S q.2 (gI S 7 t 5) x
/-- a ticket leaves its post -/
def xlp (S : xS) (t : Nat) (x : Int32) : xS := match (gR S 7 t 12) with
  | none => S
  | some q => (sI (sR (sR S 4 q.2 0 none) 7 t 12 none) 7 t 13 x)
def xci (S : xS) (t : Nat) (x w : Int32) : xS := (sI (sI (sI (sI S 7 t 6 1) 7 t 7 x) 7 t 8 w) 7 t 9 ((gI S 7 t 9) + 1))
def xgo (S : xS) (t : Nat) (w : Int32) : xS := (sI (sI S 7 t 6 0) 7 t 10 ((gI S 7 t 10) + w))
theorem c_X7_owes {S : xS} (t : Nat) (x : Int32) : CC mX7_owes 2 0 0 [xR (some (7, t)), xI x] S (aI (xow (-(xml S t x))) S) := by
  refine CC_of mpX7_owes rfl (Nat.le_of_ble_eq_true rfl) ?_
  refine E_aload_n dX7_owes_0 rfl rfl ?_
  refine E_iload_n dX7_owes_1 rfl rfl ?_
  refine E_callV (m2 := mX7_minutesLeft) dX7_owes_2 kX7_80 mzX7_minutesLeft (c_X7_minutesLeft t x) rfl ⟨_, _, rfl⟩ rfl rfl (by decide) (xs8 (Nat.le_of_ble_eq_true rfl)) (by first | exact Nat.le_of_ble_eq_true rfl | omega) (by first | exact Nat.le_of_ble_eq_true rfl | omega) ?_
  rintro _ _ ⟨rfl, rfl⟩; change Ex _ _ _ _ _ _ _ _ [xI (xml S t x)] S; generalize xml S t x = z
  refine E_ineg dX7_owes_5 ?_
  refine E_istore_n dX7_owes_6 rfl (by decide) rfl ?_
  refine E_iload_n dX7_owes_7 rfl rfl ?_
  refine E_if_le (tgt := 26) dX7_owes_8 (by decide) (fun h8 => ?_) (fun h8 => ?_)
  · refine E_iconst (v := 0) dX7_owes_26 (by decide) ?_
    refine E_iret dX7_owes_27 rfl rfl ?_
    unfold xow; refine ⟨congrArg (fun z => some (xI z)) ?_, rfl⟩; (try split) <;> first | rfl | (exfalso; simp only [fa_lt, fa_le, fa_eq] at *; omega)
  · refine E_iload_n dX7_owes_11 rfl rfl ?_
    refine E_bipush (v := 15) dX7_owes_12 (by decide) ?_
    refine E_iadd dX7_owes_14 ?_
    refine E_iconst (v := 1) dX7_owes_15 (by decide) ?_
    refine E_isub dX7_owes_16 ?_
    refine E_bipush (v := 15) dX7_owes_17 (by decide) ?_
    refine E_idiv dX7_owes_19 (by decide) ?_
    refine E_bipush (v := 20) dX7_owes_20 (by decide) ?_
    refine E_imul dX7_owes_22 ?_
    refine E_goto (tgt := 27) dX7_owes_23 (by decide) ?_
    refine E_iret dX7_owes_27 rfl rfl ?_
    unfold xow; refine ⟨congrArg (fun z => some (xI z)) ?_, rfl⟩; (try split) <;> first | rfl | (exfalso; simp only [fa_lt, fa_le, fa_eq] at *; omega)
theorem c_X7_isItsTime_n {S : xS} (t : Nat) (x : Int32) (hc : (gR S 7 t 4) = none) : CC mX7_isItsTime 2 0 0 [xR (some (7, t)), xI x] S (aI (if ¬ (gI S 7 t 2) = 4 ∨ (gI S 7 t 9) = 0 then 1 else 0) S) := by
  refine CC_of mpX7_isItsTime rfl (Nat.le_of_ble_eq_true rfl) ?_
  refine E_aload_n dX7_isItsTime_0 rfl rfl ?_
  refine E_getR dX7_isItsTime_1 fX7_34 rfl rfl rfl hc ?_
  refine E_ifnull (tgt := 16) dX7_isItsTime_4 (by decide) (fun h4 => ?_) (fun q4 h4 => ?_)
  · refine E_aload_n dX7_isItsTime_16 rfl rfl ?_
    refine E_getI dX7_isItsTime_17 fX7_28 rfl rfl rfl rfl ?_
    refine E_iconst (v := 4) dX7_isItsTime_20 (by decide) ?_
    refine E_icmp_ne (tgt := 31) dX7_isItsTime_21 (by decide) (fun h21 => ?_) (fun h21 => ?_)
    · refine E_iconst (v := 1) dX7_isItsTime_31 (by decide) ?_
      refine E_goto (tgt := 36) dX7_isItsTime_32 (by decide) ?_
      refine E_iret dX7_isItsTime_36 rfl rfl ?_
      refine ⟨congrArg (fun z => some (xI z)) ?_, rfl⟩; simp_all
    · refine E_aload_n dX7_isItsTime_24 rfl rfl ?_
      refine E_getI dX7_isItsTime_25 fX7_48 rfl rfl rfl rfl ?_
      refine E_if_ne (tgt := 35) dX7_isItsTime_28 (by decide) (fun h28 => ?_) (fun h28 => ?_)
      · refine E_iconst (v := 0) dX7_isItsTime_35 (by decide) ?_
        refine E_iret dX7_isItsTime_36 rfl rfl ?_
        refine ⟨congrArg (fun z => some (xI z)) ?_, rfl⟩; simp_all
      · refine E_iconst (v := 1) dX7_isItsTime_31 (by decide) ?_
        refine E_goto (tgt := 36) dX7_isItsTime_32 (by decide) ?_
        refine E_iret dX7_isItsTime_36 rfl rfl ?_
        refine ⟨congrArg (fun z => some (xI z)) ?_, rfl⟩; simp_all
  · cases h4
theorem c_X7_isItsTime_s {S : xS} (t c : Nat) (x : Int32) (hc : (gR S 7 t 4) = some (0, c)) : CC mX7_isItsTime 2 0 0 [xR (some (7, t)), xI x] S (aI (if (gI S 0 c 2) ≤ x ∧ x < (gI S 0 c 4) then 1 else 0) S) := by
  refine CC_of mpX7_isItsTime rfl (Nat.le_of_ble_eq_true rfl) ?_
  refine E_aload_n dX7_isItsTime_0 rfl rfl ?_
  refine E_getR dX7_isItsTime_1 fX7_34 rfl rfl rfl hc ?_
  refine E_ifnull (tgt := 16) dX7_isItsTime_4 (by decide) (fun h4 => ?_) (fun q4 h4 => ?_)
  · cases h4
  · refine E_aload_n dX7_isItsTime_7 rfl rfl ?_
    refine E_getR dX7_isItsTime_8 fX7_34 rfl rfl rfl hc ?_
    refine E_iload_n dX7_isItsTime_11 rfl rfl ?_
    refine E_callV (m2 := mX0_isThere) dX7_isItsTime_12 kX7_42 mzX0_isThere (c_X0_isThere c x) rfl ⟨_, _, rfl⟩ rfl rfl (by decide) (xs8 (Nat.le_of_ble_eq_true rfl)) (by first | exact Nat.le_of_ble_eq_true rfl | omega) (by first | exact Nat.le_of_ble_eq_true rfl | omega) ?_
    rintro _ _ ⟨rfl, rfl⟩
    refine E_iret dX7_isItsTime_15 rfl (xB_if _).n ?_
    exact ⟨rfl, rfl⟩
theorem c_X7_lacksTeacher_n {S : xS} (t : Nat) (hc : (gR S 7 t 4) = none) : CC mX7_lacksTeacher 1 0 0 [xR (some (7, t))] S (aI 0 S) := by
  refine CC_of mpX7_lacksTeacher rfl (Nat.le_of_ble_eq_true rfl) ?_
  refine E_aload_n dX7_lacksTeacher_0 rfl rfl ?_
  refine E_getI dX7_lacksTeacher_1 fX7_28 rfl rfl rfl rfl ?_
  refine E_iconst (v := 3) dX7_lacksTeacher_4 (by decide) ?_
  refine E_icmp_ne (tgt := 53) dX7_lacksTeacher_5 (by decide) (fun h5 => ?_) (fun h5 => ?_)
  · refine E_iconst (v := 0) dX7_lacksTeacher_53 (by decide) ?_
    refine E_iret dX7_lacksTeacher_54 rfl rfl ?_
    exact ⟨rfl, rfl⟩
  · refine E_aload_n dX7_lacksTeacher_8 rfl rfl ?_
    refine E_getR dX7_lacksTeacher_9 fX7_34 rfl rfl rfl hc ?_
    refine E_ifnull (tgt := 53) dX7_lacksTeacher_12 (by decide) (fun h12 => ?_) (fun q12 h12 => ?_)
    · refine E_iconst (v := 0) dX7_lacksTeacher_53 (by decide) ?_
      refine E_iret dX7_lacksTeacher_54 rfl rfl ?_
      exact ⟨rfl, rfl⟩
    · cases h12
theorem c_X7_lacksTeacher_s {S : xS} (t c : Nat) (hc : (gR S 7 t 4) = some (0, c)) : CC mX7_lacksTeacher 1 0 0 [xR (some (7, t))] S (aI (if (gI S 7 t 2) = 3 ∧ (gI S 7 t 5) = 0 ∧ (gI S 0 c 3) * (gI S 0 c 6) < (gI S 0 c 5) + 1 then 1 else 0) S) := by
  refine CC_of mpX7_lacksTeacher rfl (Nat.le_of_ble_eq_true rfl) ?_
  refine E_aload_n dX7_lacksTeacher_0 rfl rfl ?_
  refine E_getI dX7_lacksTeacher_1 fX7_28 rfl rfl rfl rfl ?_
  refine E_iconst (v := 3) dX7_lacksTeacher_4 (by decide) ?_
  refine E_icmp_ne (tgt := 53) dX7_lacksTeacher_5 (by decide) (fun h5 => ?_) (fun h5 => ?_)
  · refine E_iconst (v := 0) dX7_lacksTeacher_53 (by decide) ?_
    refine E_iret dX7_lacksTeacher_54 rfl rfl ?_
    refine ⟨congrArg (fun z => some (xI z)) ?_, rfl⟩; (try split) <;> first | rfl | (exfalso; simp only [fa_lt, fa_le, fa_eq] at *; omega)
  · refine E_aload_n dX7_lacksTeacher_8 rfl rfl ?_
    refine E_getR dX7_lacksTeacher_9 fX7_34 rfl rfl rfl hc ?_
    refine E_ifnull (tgt := 53) dX7_lacksTeacher_12 (by decide) (fun h12 => ?_) (fun q12 h12 => ?_)
    · cases h12
    · refine E_aload_n dX7_lacksTeacher_15 rfl rfl ?_
      refine E_getI dX7_lacksTeacher_16 fX7_38 rfl rfl rfl rfl ?_
      refine E_if_ne (tgt := 53) dX7_lacksTeacher_19 (by decide) (fun h19 => ?_) (fun h19 => ?_)
      · refine E_iconst (v := 0) dX7_lacksTeacher_53 (by decide) ?_
        refine E_iret dX7_lacksTeacher_54 rfl rfl ?_
        refine ⟨congrArg (fun z => some (xI z)) ?_, rfl⟩; (try split) <;> first | rfl | (exfalso; simp only [fa_lt, fa_le, fa_eq] at *; omega)
      · refine E_aload_n dX7_lacksTeacher_22 rfl rfl ?_
        refine E_getR dX7_lacksTeacher_23 fX7_34 rfl rfl rfl hc ?_
        refine E_getI dX7_lacksTeacher_26 fX7_51 rfl rfl rfl rfl ?_
        refine E_iconst (v := 1) dX7_lacksTeacher_29 (by decide) ?_
        refine E_iadd dX7_lacksTeacher_30 ?_
        refine E_aload_n dX7_lacksTeacher_31 rfl rfl ?_
        refine E_getR dX7_lacksTeacher_32 fX7_34 rfl rfl rfl hc ?_
        refine E_getI dX7_lacksTeacher_35 fX7_54 rfl rfl rfl rfl ?_
        refine E_aload_n dX7_lacksTeacher_38 rfl rfl ?_
        refine E_getR dX7_lacksTeacher_39 fX7_34 rfl rfl rfl hc ?_
        refine E_getI dX7_lacksTeacher_42 fX7_57 rfl rfl rfl rfl ?_
        refine E_imul dX7_lacksTeacher_45 ?_
        refine E_icmp_le (tgt := 53) dX7_lacksTeacher_46 (by decide) (fun h46 => ?_) (fun h46 => ?_)
        · refine E_iconst (v := 0) dX7_lacksTeacher_53 (by decide) ?_
          refine E_iret dX7_lacksTeacher_54 rfl rfl ?_
          refine ⟨congrArg (fun z => some (xI z)) ?_, rfl⟩; (try split) <;> first | rfl | (exfalso; simp only [fa_lt, fa_le, fa_eq] at *; omega)
        · refine E_iconst (v := 1) dX7_lacksTeacher_49 (by decide) ?_
          refine E_goto (tgt := 54) dX7_lacksTeacher_50 (by decide) ?_
          refine E_iret dX7_lacksTeacher_54 rfl rfl ?_
          refine ⟨congrArg (fun z => some (xI z)) ?_, rfl⟩; (try split) <;> first | rfl | (exfalso; simp only [fa_lt, fa_le, fa_eq] at *; omega)
theorem c_X7_comeIn {S : xS} (t : Nat) (x : Int32) (hc : ∀ q, (gR S 7 t 4) = some q → q.1 = 0) : CC mX7_comeIn 2 0 0 [xR (some (7, t)), xI x] S (aV (xpc (xci S t x (match (gR S 7 t 4) with | none => (gI S 7 t 3) | some q => (gI S 0 q.2 4) - x)) t 1)) := by
  refine CC_of mpX7_comeIn rfl (Nat.le_of_ble_eq_true rfl) ?_
  cases hq : (gR S 7 t 4) with
  | none =>
    refine E_aload_n dX7_comeIn_0 rfl rfl ?_
    refine E_iconst (v := 1) dX7_comeIn_1 (by decide) ?_
    refine E_putI dX7_comeIn_2 fX7_60 rfl rfl rfl rfl rfl ?_
    refine E_aload_n dX7_comeIn_5 rfl rfl ?_
    refine E_iload_n dX7_comeIn_6 rfl rfl ?_
    refine E_putI dX7_comeIn_7 fX7_9 rfl rfl rfl rfl rfl ?_
    refine E_aload_n dX7_comeIn_10 rfl rfl ?_
    refine E_aload_n dX7_comeIn_11 rfl rfl ?_
    refine E_getR dX7_comeIn_12 fX7_34 rfl rfl rfl hq ?_
    refine E_ifnull (tgt := 30) dX7_comeIn_15 (by decide) (fun h15 => ?_) (fun q15 h15 => ?_)
    · refine E_aload_n dX7_comeIn_30 rfl rfl ?_
      refine E_getI dX7_comeIn_31 fX7_31 rfl rfl rfl rfl ?_
      refine E_putI dX7_comeIn_34 fX7_66 rfl rfl rfl rfl rfl ?_
      refine E_aload_n dX7_comeIn_37 rfl rfl ?_
      refine E_dup dX7_comeIn_38 rfl ?_
      refine E_getI dX7_comeIn_39 fX7_48 rfl rfl rfl rfl ?_
      refine E_iconst (v := 1) dX7_comeIn_42 (by decide) ?_
      refine E_iadd dX7_comeIn_43 ?_
      refine E_putI dX7_comeIn_44 fX7_48 rfl rfl rfl rfl rfl ?_
      refine E_aload_n dX7_comeIn_47 rfl rfl ?_
      refine E_getR dX7_comeIn_48 fX7_34 rfl rfl rfl hq ?_
      refine E_ifnull (tgt := 66) dX7_comeIn_51 (by decide) (fun h51 => ?_) (fun q51 h51 => ?_)
      · refine E_vret dX7_comeIn_66 rfl ?_
        exact ⟨rfl, (by unfold xpc; rw [show gR (xci S t x (gI S 7 t 3)) 7 t 4 = none from hq]; rfl)⟩
      · cases h51
    · cases h15
  | some q =>
    obtain ⟨k, c⟩ := q
    have hk : k = 0 := hc _ hq
    subst hk
    refine E_aload_n dX7_comeIn_0 rfl rfl ?_
    refine E_iconst (v := 1) dX7_comeIn_1 (by decide) ?_
    refine E_putI dX7_comeIn_2 fX7_60 rfl rfl rfl rfl rfl ?_
    refine E_aload_n dX7_comeIn_5 rfl rfl ?_
    refine E_iload_n dX7_comeIn_6 rfl rfl ?_
    refine E_putI dX7_comeIn_7 fX7_9 rfl rfl rfl rfl rfl ?_
    refine E_aload_n dX7_comeIn_10 rfl rfl ?_
    refine E_aload_n dX7_comeIn_11 rfl rfl ?_
    refine E_getR dX7_comeIn_12 fX7_34 rfl rfl rfl hq ?_
    refine E_ifnull (tgt := 30) dX7_comeIn_15 (by decide) (fun h15 => ?_) (fun q15 h15 => ?_)
    · cases h15
    · refine E_aload_n dX7_comeIn_18 rfl rfl ?_
      refine E_getR dX7_comeIn_19 fX7_34 rfl rfl rfl hq ?_
      refine E_getI dX7_comeIn_22 fX7_63 rfl rfl rfl rfl ?_
      refine E_iload_n dX7_comeIn_25 rfl rfl ?_
      refine E_isub dX7_comeIn_26 ?_
      refine E_goto (tgt := 34) dX7_comeIn_27 (by decide) ?_
      refine E_putI dX7_comeIn_34 fX7_66 rfl rfl rfl rfl rfl ?_
      refine E_aload_n dX7_comeIn_37 rfl rfl ?_
      refine E_dup dX7_comeIn_38 rfl ?_
      refine E_getI dX7_comeIn_39 fX7_48 rfl rfl rfl rfl ?_
      refine E_iconst (v := 1) dX7_comeIn_42 (by decide) ?_
      refine E_iadd dX7_comeIn_43 ?_
      refine E_putI dX7_comeIn_44 fX7_48 rfl rfl rfl rfl rfl ?_
      refine E_aload_n dX7_comeIn_47 rfl rfl ?_
      refine E_getR dX7_comeIn_48 fX7_34 rfl rfl rfl hq ?_
      refine E_ifnull (tgt := 66) dX7_comeIn_51 (by decide) (fun h51 => ?_) (fun q51 h51 => ?_)
      · cases h51
      · refine E_aload_n dX7_comeIn_54 rfl rfl ?_
        refine E_getR dX7_comeIn_55 fX7_34 rfl rfl rfl hq ?_
        refine E_aload_n dX7_comeIn_58 rfl rfl ?_
        refine E_getI dX7_comeIn_59 fX7_38 rfl rfl rfl rfl ?_
        refine E_iconst (v := 1) dX7_comeIn_62 (by decide) ?_
        refine E_callV (m2 := mX0_pass) dX7_comeIn_63 kX7_69 mzX0_pass (c_X0_pass c _ 1) rfl ⟨_, _, rfl⟩ rfl rfl (by decide) (xs8 (Nat.le_of_ble_eq_true rfl)) (by first | exact Nat.le_of_ble_eq_true rfl | omega) (by first | exact Nat.le_of_ble_eq_true rfl | omega) ?_
        rintro _ _ ⟨rfl, rfl⟩
        refine E_vret dX7_comeIn_66 rfl ?_
        exact ⟨rfl, (by unfold xpc; rw [show gR (xci S t x _) 7 t 4 = some (0, c) from hq]; rfl)⟩
theorem c_X7_leavePost {S : xS} (t : Nat) (x : Int32) (hp : ∀ q, (gR S 7 t 12) = some q → q.1 = 4) : CC mX7_leavePost 1 0 0 [xR (some (7, t)), xI x] S (aV (xlp S t x)) := by
  unfold xlp
  cases hq : (gR S 7 t 12) with
  | none => exact c_X7_leavePost_n t x hq
  | some q =>
    obtain ⟨k, i⟩ := q
    have hk : k = 4 := hp _ hq
    subst hk
    exact c_X7_leavePost_s t i x hq
theorem xpass_post {S : xS} {c t j : Nat} {b x : Int32} : gR (xpass S c b x) 7 t j = gR S 7 t j := by unfold xpass; split <;> rfl
theorem xpc_post {S : xS} {t u j : Nat} {x : Int32} : gR (xpc S t x) 7 u j = gR S 7 u j := by
  unfold xpc
  split
  · rfl
  · exact xpass_post
theorem c_X7_goOut {S : xS} (t : Nat) (x w : Int32) (hc : ∀ q, (gR S 7 t 4) = some q → q.1 = 0) (hp : ∀ q, (gR S 7 t 12) = some q → q.1 = 4) : CC mX7_goOut 2 0 0 [xR (some (7, t)), xI x, xI w] S (aV (xlp (xpc (xgo S t w) t (-1)) t x)) := by
  refine CC_of mpX7_goOut rfl (Nat.le_of_ble_eq_true rfl) ?_
  cases hq : (gR S 7 t 4) with
  | none =>
    have e : xpc (xgo S t w) t (-1) = xgo S t w := by unfold xpc; rw [show gR (xgo S t w) 7 t 4 = none from hq]
    rw [e]
    refine E_aload_n dX7_goOut_0 rfl rfl ?_
    refine E_iconst (v := 0) dX7_goOut_1 (by decide) ?_
    refine E_putI dX7_goOut_2 fX7_60 rfl rfl rfl rfl rfl ?_
    refine E_aload_n dX7_goOut_5 rfl rfl ?_
    refine E_dup dX7_goOut_6 rfl ?_
    refine E_getI dX7_goOut_7 fX7_73 rfl rfl rfl rfl ?_
    refine E_iload_n dX7_goOut_10 rfl rfl ?_
    refine E_iadd dX7_goOut_11 ?_
    refine E_putI dX7_goOut_12 fX7_73 rfl rfl rfl rfl rfl ?_
    refine E_aload_n dX7_goOut_15 rfl rfl ?_
    refine E_getR dX7_goOut_16 fX7_34 rfl rfl rfl hq ?_
    refine E_ifnull (tgt := 34) dX7_goOut_19 (by decide) (fun h19 => ?_) (fun q19 h19 => ?_)
    · refine E_aload_n dX7_goOut_34 rfl rfl ?_
      refine E_iload_n dX7_goOut_35 rfl rfl ?_
      refine E_callV (m2 := mX7_leavePost) dX7_goOut_36 kX7_76 mzX7_leavePost (c_X7_leavePost (S := xgo S t w) t x hp) rfl ⟨_, _, rfl⟩ rfl rfl (by decide) (xs8 (Nat.le_of_ble_eq_true rfl)) (by first | exact Nat.le_of_ble_eq_true rfl | omega) (by first | exact Nat.le_of_ble_eq_true rfl | omega) ?_
      rintro _ _ ⟨rfl, rfl⟩
      refine E_vret dX7_goOut_39 rfl ?_
      exact ⟨rfl, rfl⟩
    · cases h19
  | some q =>
    obtain ⟨k, c⟩ := q
    have hk : k = 0 := hc _ hq
    subst hk
    have e : xpc (xgo S t w) t (-1) = xpass (xgo S t w) c (gI S 7 t 5) (-1) := by unfold xpc; rw [show gR (xgo S t w) 7 t 4 = some (0, c) from hq]; rfl
    rw [e]
    refine E_aload_n dX7_goOut_0 rfl rfl ?_
    refine E_iconst (v := 0) dX7_goOut_1 (by decide) ?_
    refine E_putI dX7_goOut_2 fX7_60 rfl rfl rfl rfl rfl ?_
    refine E_aload_n dX7_goOut_5 rfl rfl ?_
    refine E_dup dX7_goOut_6 rfl ?_
    refine E_getI dX7_goOut_7 fX7_73 rfl rfl rfl rfl ?_
    refine E_iload_n dX7_goOut_10 rfl rfl ?_
    refine E_iadd dX7_goOut_11 ?_
    refine E_putI dX7_goOut_12 fX7_73 rfl rfl rfl rfl rfl ?_
    refine E_aload_n dX7_goOut_15 rfl rfl ?_
    refine E_getR dX7_goOut_16 fX7_34 rfl rfl rfl hq ?_
    refine E_ifnull (tgt := 34) dX7_goOut_19 (by decide) (fun h19 => ?_) (fun q19 h19 => ?_)
    · cases h19
    · refine E_aload_n dX7_goOut_22 rfl rfl ?_
      refine E_getR dX7_goOut_23 fX7_34 rfl rfl rfl hq ?_
      refine E_aload_n dX7_goOut_26 rfl rfl ?_
      refine E_getI dX7_goOut_27 fX7_38 rfl rfl rfl rfl ?_
      refine E_iconst (v := -1) dX7_goOut_30 (by decide) ?_
      refine E_callV (m2 := mX0_pass) dX7_goOut_31 kX7_69 mzX0_pass (c_X0_pass c _ (-1)) rfl ⟨_, _, rfl⟩ rfl rfl (by decide) (xs8 (Nat.le_of_ble_eq_true rfl)) (by first | exact Nat.le_of_ble_eq_true rfl | omega) (by first | exact Nat.le_of_ble_eq_true rfl | omega) ?_
      rintro _ _ ⟨rfl, rfl⟩
      refine E_aload_n dX7_goOut_34 rfl rfl ?_
      refine E_iload_n dX7_goOut_35 rfl rfl ?_
      refine E_callV (m2 := mX7_leavePost) dX7_goOut_36 kX7_76 mzX7_leavePost (c_X7_leavePost (S := xpass (xgo S t w) c (gI S 7 t 5) (-1)) t x (fun q h => hp q (by rw [xpass_post] at h; exact h))) rfl ⟨_, _, rfl⟩ rfl rfl (by decide) (xs8 (Nat.le_of_ble_eq_true rfl)) (by first | exact Nat.le_of_ble_eq_true rfl | omega) (by first | exact Nat.le_of_ble_eq_true rfl | omega) ?_
      rintro _ _ ⟨rfl, rfl⟩
      refine E_vret dX7_goOut_39 rfl ?_
      exact ⟨rfl, rfl⟩
theorem c_X0_clashesWith {S : xS} (c k0 i P1 P2 : Nat) (hk : xCls k0 = true) (hk2 : xk k0 = 0) (h1 : gR S 0 c 0 = some (3, P1)) (h2 : gR S k0 i 0 = some (3, P2)) : CC mX0_clashesWith 1 0 0 [xR (some (0, c)), xR (some (k0, i))] S (aI (if P1 = P2 ∧ ¬ (gI S 0 c 1) &&& gI S k0 i 1 = 0 ∧ (if (gI S 0 c 2) < gI S k0 i 2 then gI S k0 i 2 else (gI S 0 c 2)) < (if gI S k0 i 4 < (gI S 0 c 4) then gI S k0 i 4 else (gI S 0 c 4)) then 1 else 0) S) := by
  refine CC_of mpX0_clashesWith rfl (Nat.le_of_ble_eq_true rfl) ?_
  refine E_aload_n dX0_clashesWith_0 rfl rfl ?_
  refine E_getR dX0_clashesWith_1 fX0_7 rfl rfl rfl h1 ?_
  refine E_aload_n dX0_clashesWith_4 rfl rfl ?_
  refine E_getR dX0_clashesWith_5 fX0_7 hk hk2 rfl h2 ?_
  refine E_acmp_ne (tgt := 52) dX0_clashesWith_8 (by decide) (by intro q h; cases h; simp) (by intro q h; cases h; simp) (fun h8 => ?_) (fun h8 => ?_)
  · rw [if_neg (fun z => h8 (by rw [z.1]))]
    refine E_iconst (v := 0) dX0_clashesWith_52 (by decide) ?_
    refine E_iret dX0_clashesWith_53 rfl rfl ?_
    exact ⟨rfl, rfl⟩
  · have h8 : P1 = P2 := by cases h8; rfl
    refine E_aload_n dX0_clashesWith_11 rfl rfl ?_
    refine E_getI dX0_clashesWith_12 fX0_13 rfl rfl rfl rfl ?_
    refine E_aload_n dX0_clashesWith_15 rfl rfl ?_
    refine E_getI dX0_clashesWith_16 fX0_13 hk hk2 rfl rfl ?_
    refine E_iand dX0_clashesWith_19 ?_
    refine E_if_eq (tgt := 52) dX0_clashesWith_20 (by decide) (fun h20 => ?_) (fun h20 => ?_)
    · rw [if_neg (fun z => z.2.1 h20)]
      refine E_iconst (v := 0) dX0_clashesWith_52 (by decide) ?_
      refine E_iret dX0_clashesWith_53 rfl rfl ?_
      exact ⟨rfl, rfl⟩
    · refine E_aload_n dX0_clashesWith_23 rfl rfl ?_
      refine E_getI dX0_clashesWith_24 fX0_17 rfl rfl rfl rfl ?_
      refine E_aload_n dX0_clashesWith_27 rfl rfl ?_
      refine E_getI dX0_clashesWith_28 fX0_17 hk hk2 rfl rfl ?_
      refine E_max dX0_clashesWith_31 kX0_26 (by decide) (xs8 (Nat.le_of_ble_eq_true rfl)) ?_
      refine E_aload_n dX0_clashesWith_34 rfl rfl ?_
      refine E_getI dX0_clashesWith_35 fX0_20 rfl rfl rfl rfl ?_
      refine E_aload_n dX0_clashesWith_38 rfl rfl ?_
      refine E_getI dX0_clashesWith_39 fX0_20 hk hk2 rfl rfl ?_
      refine E_min dX0_clashesWith_42 kX0_32 (by decide) (xs8 (Nat.le_of_ble_eq_true rfl)) ?_
      refine E_icmp_ge (tgt := 52) dX0_clashesWith_45 (by decide) (fun h45 => ?_) (fun h45 => ?_)
      · rw [if_neg (fun z => Int32.not_lt.mpr h45 z.2.2)]
        refine E_iconst (v := 0) dX0_clashesWith_52 (by decide) ?_
        refine E_iret dX0_clashesWith_53 rfl rfl ?_
        exact ⟨rfl, rfl⟩
      · rw [if_pos ⟨h8, h20, Int32.not_le.mp h45⟩]
        refine E_iconst (v := 1) dX0_clashesWith_48 (by decide) ?_
        refine E_goto (tgt := 53) dX0_clashesWith_49 (by decide) ?_
        refine E_iret dX0_clashesWith_53 rfl rfl ?_
        exact ⟨rfl, rfl⟩
/-! the pump -/
/-- the cheapest hour that is free, of the first n: the earliest of them -/
def xbst (pr tk : Nat → Int32) : Nat → Option Nat
  | 0 => none
  | h + 1 => if tk h = 0 then (match xbst pr tk h with
      | none => some h
      | some b => if pr h < pr b then some h else some b)
    else xbst pr tk h
def xon (o : Option Nat) : Int32 := match o with
  | none => -1
  | some b => nI b
theorem xbst_lt (pr tk : Nat → Int32) : ∀ n b, xbst pr tk n = some b → b < n
  | 0, b, h => by cases h
  | n + 1, b, h => by
    unfold xbst at h
    split at h
    · split at h
      · cases h; omega
      · rename_i b' hb'
        have := xbst_lt pr tk n b' hb'
        split at h <;> cases h <;> omega
    · have := xbst_lt pr tk n b h
      omega
def xtn (S : xS) : xS := match xbst (fun h => gI S 15 0 h) (fun h => gI S 16 0 h) 24 with
  | none => S
  | some b => (sI (sI S 16 0 b 1) 5 0 3 ((gI S 5 0 3) + (gI S 15 0 b)))
def xclr (S : xS) : Nat → xS
  | 0 => S
  | n + 1 => (sI (xclr S n) 16 0 n 0)
def xtk (S : xS) : Nat → xS
  | 0 => S
  | n + 1 => xtn (xtk S n)
theorem xon_ne {o : Option Nat} (h : ∀ b, o = some b → b < 100) : xon o = -1 ↔ o = none := by
  cases o with
  | none => simp [xon]
  | some b =>
    have hb := h b rfl
    constructor
    · intro z
      have h2 : (nI b).toInt = (b : Int) := nI_toInt (by omega)
      have h3 : nI b = -1 := z
      rw [h3] at h2
      have h4 : ((-1 : Int32)).toInt = -1 := by decide
      rw [h4] at h2
      omega
    · intro z; cases z
theorem l_X5_takeNext {S : xS} (hX : xShX S) : ∀ (n i : Nat), i + n = 24 → ∀ v, v = xon (xbst (fun h => gI S 15 0 h) (fun h => gI S 16 0 h) i) → Ex mX5_takeNext 1 0 0 (0, fun _ => 0) (aV (xtn S)) 4 [some (xR (some (5, 0))), some (xI v), some (xI (nI i))] [] S
  | 0, i, hi, v, hv => by
    have hi : i = 24 := by omega
    subst hi
    unfold xtn
    cases hb : xbst (fun h => gI S 15 0 h) (fun h => gI S 16 0 h) 24 with
    | none =>
      rw [hb] at hv
      have hv : v = -1 := hv
      subst hv
      refine E_iload_n dX5_takeNext_4 rfl rfl ?_
      refine E_bipush (v := 24) dX5_takeNext_5 (by decide) ?_
      refine E_icmp_ge (tgt := 47) dX5_takeNext_7 (by decide) (fun h7 => ?_) (fun h7 => absurd h7 ((fun z => z (nI_le (a := 24) (b := 24) (by omega) (by omega)))))
      refine E_iload_n dX5_takeNext_47 rfl rfl ?_
      refine E_iconst (v := -1) dX5_takeNext_48 (by decide) ?_
      refine E_icmp_eq (tgt := 74) dX5_takeNext_49 (by decide) (fun h49 => ?_) (fun h49 => absurd h49 (by decide))
      refine E_vret dX5_takeNext_74 rfl ?_
      exact ⟨rfl, rfl⟩
    | some b =>
      have hl := xbst_lt _ _ _ _ hb
      rw [hb] at hv
      have hv : v = nI b := hv
      subst hv
      have hne : ¬ nI b = -1 := fun z => by have h := (xon_ne (o := some b) (fun c hc => by cases hc; omega)).mp z; cases h
      refine E_iload_n dX5_takeNext_4 rfl rfl ?_
      refine E_bipush (v := 24) dX5_takeNext_5 (by decide) ?_
      refine E_icmp_ge (tgt := 47) dX5_takeNext_7 (by decide) (fun h7 => ?_) (fun h7 => absurd h7 ((fun z => z (nI_le (a := 24) (b := 24) (by omega) (by omega)))))
      refine E_iload_n dX5_takeNext_47 rfl rfl ?_
      refine E_iconst (v := -1) dX5_takeNext_48 (by decide) ?_
      refine E_icmp_eq (tgt := 74) dX5_takeNext_49 (by decide) (fun h49 => absurd h49 (hne)) (fun h49 => ?_)
      refine E_aload_n dX5_takeNext_52 rfl rfl ?_
      refine E_getR dX5_takeNext_53 fX5_15 rfl rfl rfl (rX_5_1 hX) ?_
      refine E_iload_n dX5_takeNext_56 rfl rfl ?_
      refine E_iconst (v := 1) dX5_takeNext_57 (by decide) ?_
      refine E_zast dX5_takeNext_58 rfl rfl (by decide) (lX_16 hX) (vin hl (by omega)) (vnat hl (by omega)) rfl ?_
      refine E_aload_n dX5_takeNext_59 rfl rfl ?_
      refine E_dup dX5_takeNext_60 rfl ?_
      refine E_getI dX5_takeNext_61 fX5_23 rfl rfl rfl rfl ?_
      refine E_aload_n dX5_takeNext_64 rfl rfl ?_
      refine E_getR dX5_takeNext_65 fX5_9 rfl rfl rfl (rX_5_0 hX) ?_
      refine E_iload_n dX5_takeNext_68 rfl rfl ?_
      refine E_iald dX5_takeNext_69 rfl rfl (by decide) (lX_15 hX) (vin hl (by omega)) (vnat hl (by omega)) rfl ?_
      refine E_iadd dX5_takeNext_70 ?_
      refine E_putI dX5_takeNext_71 fX5_23 rfl rfl rfl rfl rfl ?_
      refine E_vret dX5_takeNext_74 rfl ?_
      exact ⟨rfl, rfl⟩
  | n + 1, i, hi, v, hv => by
    have hlt : ∀ b, xbst (fun h => gI S 15 0 h) (fun h => gI S 16 0 h) i = some b → b < 24 := fun b hb => by have := xbst_lt _ _ _ _ hb; omega
    have hx := xon_ne (o := xbst (fun h => gI S 15 0 h) (fun h => gI S 16 0 h) i) (fun b hb => by have := hlt b hb; omega)
    cases hb : xbst (fun h => gI S 15 0 h) (fun h => gI S 16 0 h) i with
    | none =>
      have hv1 : v = -1 := by rw [hv, hb]; rfl
      refine E_iload_n dX5_takeNext_4 rfl rfl ?_
      refine E_bipush (v := 24) dX5_takeNext_5 (by decide) ?_
      refine E_icmp_ge (tgt := 47) dX5_takeNext_7 (by decide) (fun h7 => absurd h7 ((nI_ge (a := i) (b := 24) (by omega) (by omega)))) (fun h7 => ?_)
      refine E_aload_n dX5_takeNext_10 rfl rfl ?_
      refine E_getR dX5_takeNext_11 fX5_15 rfl rfl rfl (rX_5_1 hX) ?_
      refine E_iload_n dX5_takeNext_14 rfl rfl ?_
      refine E_zald dX5_takeNext_15 rfl rfl (by decide) (lX_16 hX) (vin (by omega : i < 24) (by omega)) (vnat (by omega : i < 24) (by omega)) rfl ?_
      refine E_if_ne (tgt := 41) dX5_takeNext_16 (by decide) (fun h16 => ?_) (fun h16 => ?_)
      · refine E_iinc (v := nI (i + 1)) dX5_takeNext_41 rfl (nI_i1 i) (by decide) rfl ?_
        refine E_goto (tgt := 4) dX5_takeNext_44 (by decide) ?_
        refine l_X5_takeNext hX n (i + 1) (by omega) _ ?_
        first | (rw [xbst, if_pos (by first | exact Decidable.byContradiction h16 | exact h16), hb]; rfl) | (rw [xbst, if_neg h16]; exact hv)
      · refine E_iload_n dX5_takeNext_19 rfl rfl ?_
        refine E_iconst (v := -1) dX5_takeNext_20 (by decide) ?_
        refine E_icmp_eq (tgt := 39) dX5_takeNext_21 (by decide) (fun h21 => ?_) (fun h21 => absurd h21 (fun z => z hv1))
        refine E_iload_n dX5_takeNext_39 rfl rfl ?_
        refine E_istore_n dX5_takeNext_40 rfl (by decide) rfl ?_
        refine E_iinc (v := nI (i + 1)) dX5_takeNext_41 rfl (nI_i1 i) (by decide) rfl ?_
        refine E_goto (tgt := 4) dX5_takeNext_44 (by decide) ?_
        refine l_X5_takeNext hX n (i + 1) (by omega) _ ?_
        first | (rw [xbst, if_pos (by first | exact Decidable.byContradiction h16 | exact h16), hb]; rfl) | (rw [xbst, if_neg h16]; exact hv)
    | some b =>
      have hl := hlt b hb
      have hv1 : v = nI b := by rw [hv, hb]; rfl
      subst hv1
      have hne : ¬ nI b = -1 := fun z => by rw [← hv] at hx; have := hx.mp z; rw [hb] at this; cases this
      refine E_iload_n dX5_takeNext_4 rfl rfl ?_
      refine E_bipush (v := 24) dX5_takeNext_5 (by decide) ?_
      refine E_icmp_ge (tgt := 47) dX5_takeNext_7 (by decide) (fun h7 => absurd h7 ((nI_ge (a := i) (b := 24) (by omega) (by omega)))) (fun h7 => ?_)
      refine E_aload_n dX5_takeNext_10 rfl rfl ?_
      refine E_getR dX5_takeNext_11 fX5_15 rfl rfl rfl (rX_5_1 hX) ?_
      refine E_iload_n dX5_takeNext_14 rfl rfl ?_
      refine E_zald dX5_takeNext_15 rfl rfl (by decide) (lX_16 hX) (vin (by omega : i < 24) (by omega)) (vnat (by omega : i < 24) (by omega)) rfl ?_
      refine E_if_ne (tgt := 41) dX5_takeNext_16 (by decide) (fun h16 => ?_) (fun h16 => ?_)
      · refine E_iinc (v := nI (i + 1)) dX5_takeNext_41 rfl (nI_i1 i) (by decide) rfl ?_
        refine E_goto (tgt := 4) dX5_takeNext_44 (by decide) ?_
        refine l_X5_takeNext hX n (i + 1) (by omega) _ ?_
        first | (rw [xbst, if_neg h16]; exact hv) | (rw [xbst, if_pos h16, hb]; show _ = xon (if gI S 15 0 i < gI S 15 0 b then some i else some b); first | (rw [if_neg (Int32.not_lt.mpr h36)]; rfl) | (rw [if_pos (Int32.not_le.mp h36)]; rfl))
      · refine E_iload_n dX5_takeNext_19 rfl rfl ?_
        refine E_iconst (v := -1) dX5_takeNext_20 (by decide) ?_
        refine E_icmp_eq (tgt := 39) dX5_takeNext_21 (by decide) (fun h21 => absurd h21 (hne)) (fun h21 => ?_)
        refine E_aload_n dX5_takeNext_24 rfl rfl ?_
        refine E_getR dX5_takeNext_25 fX5_9 rfl rfl rfl (rX_5_0 hX) ?_
        refine E_iload_n dX5_takeNext_28 rfl rfl ?_
        refine E_iald dX5_takeNext_29 rfl rfl (by decide) (lX_15 hX) (vin (by omega : i < 24) (by omega)) (vnat (by omega : i < 24) (by omega)) rfl ?_
        refine E_aload_n dX5_takeNext_30 rfl rfl ?_
        refine E_getR dX5_takeNext_31 fX5_9 rfl rfl rfl (rX_5_0 hX) ?_
        refine E_iload_n dX5_takeNext_34 rfl rfl ?_
        refine E_iald dX5_takeNext_35 rfl rfl (by decide) (lX_15 hX) (vin hl (by omega)) (vnat hl (by omega)) rfl ?_
        refine E_icmp_ge (tgt := 41) dX5_takeNext_36 (by decide) (fun h36 => ?_) (fun h36 => ?_)
        · refine E_iinc (v := nI (i + 1)) dX5_takeNext_41 rfl (nI_i1 i) (by decide) rfl ?_
          refine E_goto (tgt := 4) dX5_takeNext_44 (by decide) ?_
          refine l_X5_takeNext hX n (i + 1) (by omega) _ ?_
          first | (rw [xbst, if_neg h16]; exact hv) | (rw [xbst, if_pos h16, hb]; show _ = xon (if gI S 15 0 i < gI S 15 0 b then some i else some b); first | (rw [if_neg (Int32.not_lt.mpr h36)]; rfl) | (rw [if_pos (Int32.not_le.mp h36)]; rfl))
        · refine E_iload_n dX5_takeNext_39 rfl rfl ?_
          refine E_istore_n dX5_takeNext_40 rfl (by decide) rfl ?_
          refine E_iinc (v := nI (i + 1)) dX5_takeNext_41 rfl (nI_i1 i) (by decide) rfl ?_
          refine E_goto (tgt := 4) dX5_takeNext_44 (by decide) ?_
          refine l_X5_takeNext hX n (i + 1) (by omega) _ ?_
          first | (rw [xbst, if_neg h16]; exact hv) | (rw [xbst, if_pos h16, hb]; show _ = xon (if gI S 15 0 i < gI S 15 0 b then some i else some b); first | (rw [if_neg (Int32.not_lt.mpr h36)]; rfl) | (rw [if_pos (Int32.not_le.mp h36)]; rfl))
