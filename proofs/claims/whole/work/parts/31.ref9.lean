/-! the reference: count, told, all -/
theorem c_r_count_n {S : xS} (hM : xShM S) (p x : Int32) (h : ¬ xhas S p) : CC mX9_count 3 0 0 [xR (some (9, 0)), xI p, xI x] S (aI (-1) S) := by
  refine CC_of mpX9_count rfl (Nat.le_of_ble_eq_true rfl) ?_
  refine E_aload_n dX9_count_0 rfl rfl ?_
  refine E_iload_n dX9_count_1 rfl rfl ?_
  refine E_callV (m2 := mX9_has) dX9_count_2 kX9_165 mzX9_has (c_has_n hM p h) rfl ⟨_, _, rfl⟩ rfl rfl (by decide) (xs8 (Nat.le_of_ble_eq_true rfl)) (by first | exact Nat.le_of_ble_eq_true rfl | omega) (by first | exact Nat.le_of_ble_eq_true rfl | omega) ?_
  rintro _ _ ⟨rfl, rfl⟩
  refine E_if_ne (tgt := 10) dX9_count_5 (by decide) (fun h5 => absurd h5 (by decide)) (fun h5 => ?_)
  refine E_iconst (v := -1) dX9_count_8 (by decide) ?_
  refine E_iret dX9_count_9 rfl rfl ?_
  exact ⟨rfl, rfl⟩
theorem c_r_count_o {S : xS} (hM : xShM S) {P : Nat} (hP : P < 4) (h : ¬ (gI S 51 0 P) = 0) (x : Int32) (hx : x.toInt < 0 ∨ 7 < x.toInt) : CC mX9_count 3 0 0 [xR (some (9, 0)), xI (nI P), xI x] S (aI (-1) S) := by
  refine CC_of mpX9_count rfl (Nat.le_of_ble_eq_true rfl) ?_
  refine E_aload_n dX9_count_0 rfl rfl ?_
  refine E_iload_n dX9_count_1 rfl rfl ?_
  refine E_callV (m2 := mX9_has) dX9_count_2 kX9_165 mzX9_has (c_has_y hM hP h) rfl ⟨_, _, rfl⟩ rfl rfl (by decide) (xs8 (Nat.le_of_ble_eq_true rfl)) (by first | exact Nat.le_of_ble_eq_true rfl | omega) (by first | exact Nat.le_of_ble_eq_true rfl | omega) ?_
  rintro _ _ ⟨rfl, rfl⟩
  refine E_if_ne (tgt := 10) dX9_count_5 (by decide) (fun h5 => ?_) (fun h5 => absurd h5 (by decide))
  refine E_iconst (v := 0) dX9_count_10 (by decide) ?_
  refine E_istore_n dX9_count_11 rfl (by decide) rfl ?_
  refine E_iload_n dX9_count_12 rfl rfl ?_
  refine E_tabOut (tgt := 191) dX9_count_13 hx (by decide) ?_
  refine E_iconst (v := -1) dX9_count_191 (by decide) ?_
  refine E_iret dX9_count_192 rfl rfl ?_
  exact ⟨rfl, rfl⟩
theorem c_r_count_0 {S : xS} (hM : xShM S) {P : Nat} (hP : P < 4) (h : ¬ (gI S 51 0 P) = 0) : CC mX9_count 3 0 0 [xR (some (9, 0)), xI (nI P), xI 0] S (aI (xrln S P) S) := by
  refine CC_of mpX9_count rfl (Nat.le_of_ble_eq_true rfl) ?_
  refine E_aload_n dX9_count_0 rfl rfl ?_
  refine E_iload_n dX9_count_1 rfl rfl ?_
  refine E_callV (m2 := mX9_has) dX9_count_2 kX9_165 mzX9_has (c_has_y hM hP h) rfl ⟨_, _, rfl⟩ rfl rfl (by decide) (xs8 (Nat.le_of_ble_eq_true rfl)) (by first | exact Nat.le_of_ble_eq_true rfl | omega) (by first | exact Nat.le_of_ble_eq_true rfl | omega) ?_
  rintro _ _ ⟨rfl, rfl⟩
  refine E_if_ne (tgt := 10) dX9_count_5 (by decide) (fun h5 => ?_) (fun h5 => absurd h5 (by decide))
  refine E_iconst (v := 0) dX9_count_10 (by decide) ?_
  refine E_istore_n dX9_count_11 rfl (by decide) rfl ?_
  refine E_iload_n dX9_count_12 rfl rfl ?_
  refine E_tabIn (tgt := 60) (off := 47) dX9_count_13 (by decide) (by decide) rfl (by decide) ?_
  refine E_aload_n dX9_count_60 rfl rfl ?_
  refine E_iload_n dX9_count_61 rfl rfl ?_
  refine E_callV (m2 := mX9_leastNow) dX9_count_62 kX9_155 mzX9_leastNow (c_r_leastNow hM hP) rfl ⟨_, _, rfl⟩ rfl rfl (by decide) (xs8 (Nat.le_of_ble_eq_true rfl)) (by first | exact Nat.le_of_ble_eq_true rfl | omega) (by first | exact Nat.le_of_ble_eq_true rfl | omega) ?_
  rintro _ _ ⟨rfl, rfl⟩
  refine E_iret dX9_count_65 rfl rfl ?_
  exact ⟨rfl, rfl⟩
theorem c_r_count_1 {S : xS} (hM : xShM S) {P : Nat} (hP : P < 4) (h : ¬ (gI S 51 0 P) = 0) : CC mX9_count 3 0 0 [xR (some (9, 0)), xI (nI P), xI 1] S (aI (xrmn S P) S) := by
  refine CC_of mpX9_count rfl (Nat.le_of_ble_eq_true rfl) ?_
  refine E_aload_n dX9_count_0 rfl rfl ?_
  refine E_iload_n dX9_count_1 rfl rfl ?_
  refine E_callV (m2 := mX9_has) dX9_count_2 kX9_165 mzX9_has (c_has_y hM hP h) rfl ⟨_, _, rfl⟩ rfl rfl (by decide) (xs8 (Nat.le_of_ble_eq_true rfl)) (by first | exact Nat.le_of_ble_eq_true rfl | omega) (by first | exact Nat.le_of_ble_eq_true rfl | omega) ?_
  rintro _ _ ⟨rfl, rfl⟩
  refine E_if_ne (tgt := 10) dX9_count_5 (by decide) (fun h5 => ?_) (fun h5 => absurd h5 (by decide))
  refine E_iconst (v := 0) dX9_count_10 (by decide) ?_
  refine E_istore_n dX9_count_11 rfl (by decide) rfl ?_
  refine E_iload_n dX9_count_12 rfl rfl ?_
  refine E_tabIn (tgt := 66) (off := 53) dX9_count_13 (by decide) (by decide) rfl (by decide) ?_
  refine E_aload_n dX9_count_66 rfl rfl ?_
  refine E_iload_n dX9_count_67 rfl rfl ?_
  refine E_callV (m2 := mX9_mostNow) dX9_count_68 kX9_158 mzX9_mostNow (c_r_mostNow hM hP) rfl ⟨_, _, rfl⟩ rfl rfl (by decide) (xs8 (Nat.le_of_ble_eq_true rfl)) (by first | exact Nat.le_of_ble_eq_true rfl | omega) (by first | exact Nat.le_of_ble_eq_true rfl | omega) ?_
  rintro _ _ ⟨rfl, rfl⟩
  refine E_iret dX9_count_71 rfl rfl ?_
  exact ⟨rfl, rfl⟩
theorem c_r_count_2 {S : xS} (hM : xShM S) {P : Nat} (hP : P < 4) (h : ¬ (gI S 51 0 P) = 0) {T : Nat} (hT : (gI S 9 0 22) = nI T) (hT2 : T ≤ 200) : CC mX9_count 3 0 0 [xR (some (9, 0)), xI (nI P), xI 2] S (aI (xtru S (nI P) 0 T) S) := by
  refine CC_of mpX9_count rfl (Nat.le_of_ble_eq_true rfl) ?_
  refine E_aload_n dX9_count_0 rfl rfl ?_
  refine E_iload_n dX9_count_1 rfl rfl ?_
  refine E_callV (m2 := mX9_has) dX9_count_2 kX9_165 mzX9_has (c_has_y hM hP h) rfl ⟨_, _, rfl⟩ rfl rfl (by decide) (xs8 (Nat.le_of_ble_eq_true rfl)) (by first | exact Nat.le_of_ble_eq_true rfl | omega) (by first | exact Nat.le_of_ble_eq_true rfl | omega) ?_
  rintro _ _ ⟨rfl, rfl⟩
  refine E_if_ne (tgt := 10) dX9_count_5 (by decide) (fun h5 => ?_) (fun h5 => absurd h5 (by decide))
  refine E_iconst (v := 0) dX9_count_10 (by decide) ?_
  refine E_istore_n dX9_count_11 rfl (by decide) rfl ?_
  refine E_iload_n dX9_count_12 rfl rfl ?_
  refine E_tabIn (tgt := 72) (off := 59) dX9_count_13 (by decide) (by decide) rfl (by decide) ?_
  refine E_aload_n dX9_count_72 rfl rfl ?_
  refine E_iload_n dX9_count_73 rfl rfl ?_
  refine E_iconst (v := 0) dX9_count_74 (by decide) ?_
  refine E_callV (m2 := mX9_truth) dX9_count_75 kX9_168 mzX9_truth (c_r_truth hM hT hT2 (nI P) 0) rfl ⟨_, _, rfl⟩ rfl rfl (by decide) (xs8 (Nat.le_of_ble_eq_true rfl)) (by first | exact Nat.le_of_ble_eq_true rfl | omega) (by first | exact Nat.le_of_ble_eq_true rfl | omega) ?_
  rintro _ _ ⟨rfl, rfl⟩
  refine E_iret dX9_count_78 rfl rfl ?_
  exact ⟨rfl, rfl⟩
theorem c_r_count_3 {S : xS} (hM : xShM S) {P : Nat} (hP : P < 4) (h : ¬ (gI S 51 0 P) = 0) {T : Nat} (hT : (gI S 9 0 22) = nI T) (hT2 : T ≤ 200) : CC mX9_count 3 0 0 [xR (some (9, 0)), xI (nI P), xI 3] S (aI (xtru S (nI P) 1 T) S) := by
  refine CC_of mpX9_count rfl (Nat.le_of_ble_eq_true rfl) ?_
  refine E_aload_n dX9_count_0 rfl rfl ?_
  refine E_iload_n dX9_count_1 rfl rfl ?_
  refine E_callV (m2 := mX9_has) dX9_count_2 kX9_165 mzX9_has (c_has_y hM hP h) rfl ⟨_, _, rfl⟩ rfl rfl (by decide) (xs8 (Nat.le_of_ble_eq_true rfl)) (by first | exact Nat.le_of_ble_eq_true rfl | omega) (by first | exact Nat.le_of_ble_eq_true rfl | omega) ?_
  rintro _ _ ⟨rfl, rfl⟩
  refine E_if_ne (tgt := 10) dX9_count_5 (by decide) (fun h5 => ?_) (fun h5 => absurd h5 (by decide))
  refine E_iconst (v := 0) dX9_count_10 (by decide) ?_
  refine E_istore_n dX9_count_11 rfl (by decide) rfl ?_
  refine E_iload_n dX9_count_12 rfl rfl ?_
  refine E_tabIn (tgt := 79) (off := 66) dX9_count_13 (by decide) (by decide) rfl (by decide) ?_
  refine E_aload_n dX9_count_79 rfl rfl ?_
  refine E_iload_n dX9_count_80 rfl rfl ?_
  refine E_iconst (v := 1) dX9_count_81 (by decide) ?_
  refine E_callV (m2 := mX9_truth) dX9_count_82 kX9_168 mzX9_truth (c_r_truth hM hT hT2 (nI P) 1) rfl ⟨_, _, rfl⟩ rfl rfl (by decide) (xs8 (Nat.le_of_ble_eq_true rfl)) (by first | exact Nat.le_of_ble_eq_true rfl | omega) (by first | exact Nat.le_of_ble_eq_true rfl | omega) ?_
  rintro _ _ ⟨rfl, rfl⟩
  refine E_iret dX9_count_85 rfl rfl ?_
  exact ⟨rfl, rfl⟩
theorem c_r_count_4 {S : xS} (hM : xShM S) {P : Nat} (hP : P < 4) (h : ¬ (gI S 51 0 P) = 0) : CC mX9_count 3 0 0 [xR (some (9, 0)), xI (nI P), xI 4] S (aI ((gI S 52 0 P)) S) := by
  refine CC_of mpX9_count rfl (Nat.le_of_ble_eq_true rfl) ?_
  refine E_aload_n dX9_count_0 rfl rfl ?_
  refine E_iload_n dX9_count_1 rfl rfl ?_
  refine E_callV (m2 := mX9_has) dX9_count_2 kX9_165 mzX9_has (c_has_y hM hP h) rfl ⟨_, _, rfl⟩ rfl rfl (by decide) (xs8 (Nat.le_of_ble_eq_true rfl)) (by first | exact Nat.le_of_ble_eq_true rfl | omega) (by first | exact Nat.le_of_ble_eq_true rfl | omega) ?_
  rintro _ _ ⟨rfl, rfl⟩
  refine E_if_ne (tgt := 10) dX9_count_5 (by decide) (fun h5 => ?_) (fun h5 => absurd h5 (by decide))
  refine E_iconst (v := 0) dX9_count_10 (by decide) ?_
  refine E_istore_n dX9_count_11 rfl (by decide) rfl ?_
  refine E_iload_n dX9_count_12 rfl rfl ?_
  refine E_tabIn (tgt := 86) (off := 73) dX9_count_13 (by decide) (by decide) rfl (by decide) ?_
  refine E_aload_n dX9_count_86 rfl rfl ?_
  refine E_getR dX9_count_87 fX9_13 rfl rfl rfl (rM_2 hM) ?_
  refine E_iload_n dX9_count_90 rfl rfl ?_
  refine E_iald dX9_count_91 rfl rfl (by decide) (lM_2 hM) (vin hP (by omega)) (vnat hP (by omega)) rfl ?_
  refine E_iret dX9_count_92 rfl rfl ?_
  exact ⟨rfl, rfl⟩
theorem c_r_count_7 {S : xS} (hM : xShM S) {P : Nat} (hP : P < 4) (h : ¬ (gI S 51 0 P) = 0) : CC mX9_count 3 0 0 [xR (some (9, 0)), xI (nI P), xI 7] S (aI (if (gI S 60 0 P) = 0 then 0 else 1) S) := by
  refine CC_of mpX9_count rfl (Nat.le_of_ble_eq_true rfl) ?_
  refine E_aload_n dX9_count_0 rfl rfl ?_
  refine E_iload_n dX9_count_1 rfl rfl ?_
  refine E_callV (m2 := mX9_has) dX9_count_2 kX9_165 mzX9_has (c_has_y hM hP h) rfl ⟨_, _, rfl⟩ rfl rfl (by decide) (xs8 (Nat.le_of_ble_eq_true rfl)) (by first | exact Nat.le_of_ble_eq_true rfl | omega) (by first | exact Nat.le_of_ble_eq_true rfl | omega) ?_
  rintro _ _ ⟨rfl, rfl⟩
  refine E_if_ne (tgt := 10) dX9_count_5 (by decide) (fun h5 => ?_) (fun h5 => absurd h5 (by decide))
  refine E_iconst (v := 0) dX9_count_10 (by decide) ?_
  refine E_istore_n dX9_count_11 rfl (by decide) rfl ?_
  refine E_iload_n dX9_count_12 rfl rfl ?_
  refine E_tabIn (tgt := 176) (off := 163) dX9_count_13 (by decide) (by decide) rfl (by decide) ?_
  refine E_aload_n dX9_count_176 rfl rfl ?_
  refine E_getR dX9_count_177 fX9_38 rfl rfl rfl (rM_10 hM) ?_
  refine E_iload_n dX9_count_180 rfl rfl ?_
  refine E_zald dX9_count_181 rfl rfl (by decide) (lM_10 hM) (vin hP (by omega)) (vnat hP (by omega)) rfl ?_
  refine E_if_eq (tgt := 189) dX9_count_182 (by decide) (fun h182 => ?_) (fun h182 => ?_)
  · refine E_iconst (v := 0) dX9_count_189 (by decide) ?_
    refine E_iret dX9_count_190 rfl rfl ?_
    refine ⟨congrArg (fun z => some (xI z)) ?_, rfl⟩; split <;> first | rfl | contradiction
  · refine E_iconst (v := 1) dX9_count_185 (by decide) ?_
    refine E_goto (tgt := 190) dX9_count_186 (by decide) ?_
    refine E_iret dX9_count_190 rfl rfl ?_
    refine ⟨congrArg (fun z => some (xI z)) ?_, rfl⟩; split <;> first | rfl | contradiction
def xhd (S : xS) (p x : Int32) (c : Nat) : Bool := decide ((gI S 87 0 c) = p ∧ ((gI S 89 0 c) ≤ (gI S 9 0 0) ∧ (gI S 9 0 0) < (gI S 90 0 c)) ∧ ((gI S 88 0 c) >>> (x &&& 31)) &&& 1 = 1)
theorem xhd_t {S : xS} {p x : Int32} {c : Nat} : xhd S p x c = true → xhl S p x c := fun h => by unfold xhd at h; unfold xhl; exact of_decide_eq_true h
theorem xhd_f {S : xS} {p x : Int32} {c : Nat} : xhd S p x c = false → ¬ xhl S p x c := fun h => by unfold xhd at h; unfold xhl; exact of_decide_eq_false h
/-- whether a lane is free: no club has it now -/
def xfr (S : xS) (C : Nat) (p : Int32) (x : Nat) : Int32 := match xfi (xhd S p (nI x)) C with
  | none => 1
  | some _ => 0
theorem c_r_isFree {S : xS} (hM : xShM S) {C : Nat} (hC : (gI S 9 0 35) = nI C) (hC2 : C ≤ 20) (p : Int32) (x : Nat) : CC mX9_isFree 2 0 0 [xR (some (9, 0)), xI p, xI (nI x)] S (aI (xfr S C p x) S) := by
  unfold xfr
  cases h : xfi (xhd S p (nI x)) C with
  | none => exact c_r_isFree_y hM hC hC2 p (nI x) (fun j hj => xhd_f (xfi_none h j hj))
  | some c =>
    obtain ⟨h1, h2, h3⟩ := xfi_some h
    exact c_r_isFree_n hM hC hC2 p (nI x) h1 (xhd_t h2) (fun j hj => xhd_f (h3 j hj))
theorem l_r_count5 {S : xS} (hM : xShM S) {P C N : Nat} (hP : P < 4) (hC : (gI S 9 0 35) = nI C) (hC2 : C ≤ 20) (hN : (gI S 53 0 P) = nI N) (hN2 : N < 100) (w : Int32) : ∀ (n i : Nat), i + n = N → ∀ v, v = xsm (xfr S C (nI P)) i → Ex mX9_count 3 0 0 (0, fun _ => 0) (aI (xsm (xfr S C (nI P)) N) S) 96 [some (xR (some (9, 0))), some (xI (nI P)), some (xI w), some (xI v), some (xI (nI i))] [] S
  | 0, i, hi, v, hv => by
    refine E_iload dX9_count_96 rfl ?_
    refine E_aload_n dX9_count_98 rfl rfl ?_
    refine E_getR dX9_count_99 fX9_17 rfl rfl rfl (rM_3 hM) ?_
    refine E_iload_n dX9_count_102 rfl rfl ?_
    refine E_iald dX9_count_103 rfl rfl (by decide) (lM_3 hM) (vin hP (by omega)) (vnat hP (by omega)) hN ?_
    refine E_icmp_ge (tgt := 131) dX9_count_104 (by decide) (fun h104 => ?_) (fun h104 => absurd h104 ((fun z => z (nI_le (a := N) (b := i) (by omega) (by omega)))))
    refine E_iload_n dX9_count_131 rfl rfl ?_
    refine E_iret dX9_count_132 rfl rfl ?_
    exact ⟨by rw [hv, show i = N by omega], rfl⟩
  | n + 1, i, hi, v, hv => by
    refine E_iload dX9_count_96 rfl ?_
    refine E_aload_n dX9_count_98 rfl rfl ?_
    refine E_getR dX9_count_99 fX9_17 rfl rfl rfl (rM_3 hM) ?_
    refine E_iload_n dX9_count_102 rfl rfl ?_
    refine E_iald dX9_count_103 rfl rfl (by decide) (lM_3 hM) (vin hP (by omega)) (vnat hP (by omega)) hN ?_
    refine E_icmp_ge (tgt := 131) dX9_count_104 (by decide) (fun h104 => absurd h104 ((nI_ge (a := i) (b := N) (by omega) (by omega)))) (fun h104 => ?_)
    refine E_iload_n dX9_count_107 rfl rfl ?_
    refine E_aload_n dX9_count_108 rfl rfl ?_
    refine E_iload_n dX9_count_109 rfl rfl ?_
    refine E_iload dX9_count_110 rfl ?_
    refine E_callV (m2 := mX9_isFree) dX9_count_112 kX9_213 mzX9_isFree (c_r_isFree hM hC hC2 (nI P) i) rfl ⟨_, _, rfl⟩ rfl rfl (by decide) (xs8 (Nat.le_of_ble_eq_true rfl)) (by first | exact Nat.le_of_ble_eq_true rfl | omega) (by first | exact Nat.le_of_ble_eq_true rfl | omega) ?_
    rintro _ _ ⟨rfl, rfl⟩
    refine E_if_eq (tgt := 122) dX9_count_115 (by decide) (fun h115 => ?_) (fun h115 => ?_)
    · refine E_iconst (v := 0) dX9_count_122 (by decide) ?_
      refine E_iadd dX9_count_123 ?_
      refine E_istore_n dX9_count_124 rfl (by decide) rfl ?_
      refine E_iinc (v := nI (i + 1)) dX9_count_125 rfl (nI_i1 i) (by decide) rfl ?_
      refine E_goto (tgt := 96) dX9_count_128 (by decide) ?_
      refine l_r_count5 hM hP hC hC2 hN hN2 w n (i + 1) (by omega) _ ?_
      rw [xsm_succ, ← hv]; unfold xfr at h115 ⊢; congr 1; split at h115 <;> simp_all
    · refine E_iconst (v := 1) dX9_count_118 (by decide) ?_
      refine E_goto (tgt := 123) dX9_count_119 (by decide) ?_
      refine E_iadd dX9_count_123 ?_
      refine E_istore_n dX9_count_124 rfl (by decide) rfl ?_
      refine E_iinc (v := nI (i + 1)) dX9_count_125 rfl (nI_i1 i) (by decide) rfl ?_
      refine E_goto (tgt := 96) dX9_count_128 (by decide) ?_
      refine l_r_count5 hM hP hC hC2 hN hN2 w n (i + 1) (by omega) _ ?_
      rw [xsm_succ, ← hv]; unfold xfr at h115 ⊢; congr 1; split at h115 <;> simp_all
theorem l_r_count6 {S : xS} (hM : xShM S) {P N : Nat} (hP : P < 4) (hN : (gI S 54 0 P) = nI N) (hN2 : N ≤ 3) (w : Int32) : ∀ (n i : Nat), i + n = N → ∀ v, v = xsm (fun k => xrfl S (3 * P + k)) i → Ex mX9_count 3 0 0 (0, fun _ => 0) (aI (xsm (fun k => xrfl S (3 * P + k)) N) S) 136 [some (xR (some (9, 0))), some (xI (nI P)), some (xI w), some (xI v), some (xI (nI i))] [] S
  | 0, i, hi, v, hv => by
    refine E_iload dX9_count_136 rfl ?_
    refine E_aload_n dX9_count_138 rfl rfl ?_
    refine E_getR dX9_count_139 fX9_20 rfl rfl rfl (rM_4 hM) ?_
    refine E_iload_n dX9_count_142 rfl rfl ?_
    refine E_iald dX9_count_143 rfl rfl (by decide) (lM_4 hM) (vin hP (by omega)) (vnat hP (by omega)) hN ?_
    refine E_icmp_ge (tgt := 174) dX9_count_144 (by decide) (fun h144 => ?_) (fun h144 => absurd h144 ((fun z => z (nI_le (a := N) (b := i) (by omega) (by omega)))))
    refine E_iload_n dX9_count_174 rfl rfl ?_
    refine E_iret dX9_count_175 rfl rfl ?_
    exact ⟨by rw [hv, show i = N by omega], rfl⟩
  | n + 1, i, hi, v, hv => by
    have hA : 3 * P + i < 12 := by omega
    refine E_iload dX9_count_136 rfl ?_
    refine E_aload_n dX9_count_138 rfl rfl ?_
    refine E_getR dX9_count_139 fX9_20 rfl rfl rfl (rM_4 hM) ?_
    refine E_iload_n dX9_count_142 rfl rfl ?_
    refine E_iald dX9_count_143 rfl rfl (by decide) (lM_4 hM) (vin hP (by omega)) (vnat hP (by omega)) hN ?_
    refine E_icmp_ge (tgt := 174) dX9_count_144 (by decide) (fun h144 => absurd h144 ((nI_ge (a := i) (b := N) (by omega) (by omega)))) (fun h144 => ?_)
    refine E_iload_n dX9_count_147 rfl rfl ?_
    refine E_aload_n dX9_count_148 rfl rfl ?_
    refine E_iconst (v := 3) dX9_count_149 (by decide) ?_
    refine E_iload_n dX9_count_150 rfl rfl ?_
    refine E_imul dX9_count_151 ?_
    refine E_iload dX9_count_152 rfl ?_
    refine E_iadd dX9_count_154 ?_
    rw [nI_3]
    refine E_callV (m2 := mX9_isFilled) dX9_count_155 kX9_175 mzX9_isFilled (c_r_isFilled hM hA) rfl ⟨_, _, rfl⟩ rfl rfl (by decide) (xs8 (Nat.le_of_ble_eq_true rfl)) (by first | exact Nat.le_of_ble_eq_true rfl | omega) (by first | exact Nat.le_of_ble_eq_true rfl | omega) ?_
    rintro _ _ ⟨rfl, rfl⟩
    refine E_if_eq (tgt := 165) dX9_count_158 (by decide) (fun h158 => ?_) (fun h158 => ?_)
    · refine E_iconst (v := 0) dX9_count_165 (by decide) ?_
      refine E_iadd dX9_count_166 ?_
      refine E_istore_n dX9_count_167 rfl (by decide) rfl ?_
      refine E_iinc (v := nI (i + 1)) dX9_count_168 rfl (nI_i1 i) (by decide) rfl ?_
      refine E_goto (tgt := 136) dX9_count_171 (by decide) ?_
      refine l_r_count6 hM hP hN hN2 w n (i + 1) (by omega) _ ?_
      rw [xsm_succ, ← hv]; unfold xrfl at h158 ⊢; congr 1; split at h158 <;> simp_all
    · refine E_iconst (v := 1) dX9_count_161 (by decide) ?_
      refine E_goto (tgt := 166) dX9_count_162 (by decide) ?_
      refine E_iadd dX9_count_166 ?_
      refine E_istore_n dX9_count_167 rfl (by decide) rfl ?_
      refine E_iinc (v := nI (i + 1)) dX9_count_168 rfl (nI_i1 i) (by decide) rfl ?_
      refine E_goto (tgt := 136) dX9_count_171 (by decide) ?_
      refine l_r_count6 hM hP hN hN2 w n (i + 1) (by omega) _ ?_
      rw [xsm_succ, ← hv]; unfold xrfl at h158 ⊢; congr 1; split at h158 <;> simp_all
theorem c_r_count_5 {S : xS} (hM : xShM S) {P : Nat} (hP : P < 4) (h : ¬ (gI S 51 0 P) = 0) {C N : Nat} (hC : (gI S 9 0 35) = nI C) (hC2 : C ≤ 20) (hN : (gI S 53 0 P) = nI N) (hN2 : N < 100) : CC mX9_count 3 0 0 [xR (some (9, 0)), xI (nI P), xI 5] S (aI (xsm (xfr S C (nI P)) N) S) := by
  refine CC_of mpX9_count rfl (Nat.le_of_ble_eq_true rfl) ?_
  refine E_aload_n dX9_count_0 rfl rfl ?_
  refine E_iload_n dX9_count_1 rfl rfl ?_
  refine E_callV (m2 := mX9_has) dX9_count_2 kX9_165 mzX9_has (c_has_y hM hP h) rfl ⟨_, _, rfl⟩ rfl rfl (by decide) (xs8 (Nat.le_of_ble_eq_true rfl)) (by first | exact Nat.le_of_ble_eq_true rfl | omega) (by first | exact Nat.le_of_ble_eq_true rfl | omega) ?_
  rintro _ _ ⟨rfl, rfl⟩
  refine E_if_ne (tgt := 10) dX9_count_5 (by decide) (fun h5 => ?_) (fun h5 => absurd h5 (by decide))
  refine E_iconst (v := 0) dX9_count_10 (by decide) ?_
  refine E_istore_n dX9_count_11 rfl (by decide) rfl ?_
  refine E_iload_n dX9_count_12 rfl rfl ?_
  refine E_tabIn (tgt := 93) (off := 80) dX9_count_13 (by decide) (by decide) rfl (by decide) ?_
  refine E_iconst (v := 0) dX9_count_93 (by decide) ?_
  refine E_istore dX9_count_94 (by decide) rfl ?_
  exact l_r_count5 hM hP hC hC2 hN hN2 5 N 0 (by omega) 0 rfl
theorem c_r_count_6 {S : xS} (hM : xShM S) {P : Nat} (hP : P < 4) (h : ¬ (gI S 51 0 P) = 0) {N : Nat} (hN : (gI S 54 0 P) = nI N) (hN2 : N ≤ 3) : CC mX9_count 3 0 0 [xR (some (9, 0)), xI (nI P), xI 6] S (aI (xsm (fun k => xrfl S (3 * P + k)) N) S) := by
  refine CC_of mpX9_count rfl (Nat.le_of_ble_eq_true rfl) ?_
  refine E_aload_n dX9_count_0 rfl rfl ?_
  refine E_iload_n dX9_count_1 rfl rfl ?_
  refine E_callV (m2 := mX9_has) dX9_count_2 kX9_165 mzX9_has (c_has_y hM hP h) rfl ⟨_, _, rfl⟩ rfl rfl (by decide) (xs8 (Nat.le_of_ble_eq_true rfl)) (by first | exact Nat.le_of_ble_eq_true rfl | omega) (by first | exact Nat.le_of_ble_eq_true rfl | omega) ?_
  rintro _ _ ⟨rfl, rfl⟩
  refine E_if_ne (tgt := 10) dX9_count_5 (by decide) (fun h5 => ?_) (fun h5 => absurd h5 (by decide))
  refine E_iconst (v := 0) dX9_count_10 (by decide) ?_
  refine E_istore_n dX9_count_11 rfl (by decide) rfl ?_
  refine E_iload_n dX9_count_12 rfl rfl ?_
  refine E_tabIn (tgt := 133) (off := 120) dX9_count_13 (by decide) (by decide) rfl (by decide) ?_
  refine E_iconst (v := 0) dX9_count_133 (by decide) ?_
  refine E_istore dX9_count_134 (by decide) rfl ?_
  exact l_r_count6 hM hP hN hN2 6 N 0 (by omega) 0 rfl
theorem c_r_told_n {S : xS} (x w : Int32) (h : ¬ (0 ≤ x ∧ x ≤ (gI S 9 0 22) - 1)) : CC mX9_told 4 0 0 [xR (some (9, 0)), xI x, xI w] S (aI (-1) S) := by
  refine CC_of mpX9_told rfl (Nat.le_of_ble_eq_true rfl) ?_
  refine E_aload_n dX9_told_0 rfl rfl ?_
  refine E_iload_n dX9_told_1 rfl rfl ?_
  refine E_callV (m2 := mX9_isTicket) dX9_told_2 kX9_185 mzX9_isTicket (c_isTicket _) rfl ⟨_, _, rfl⟩ rfl rfl (by decide) (xs8 (Nat.le_of_ble_eq_true rfl)) (by first | exact Nat.le_of_ble_eq_true rfl | omega) (by first | exact Nat.le_of_ble_eq_true rfl | omega) ?_
  rintro _ _ ⟨rfl, rfl⟩; rw [if_neg h]
  refine E_if_ne (tgt := 10) dX9_told_5 (by decide) (fun h5 => absurd h5 (by decide)) (fun h5 => ?_)
  refine E_iconst (v := -1) dX9_told_8 (by decide) ?_
  refine E_iret dX9_told_9 rfl rfl ?_
  exact ⟨rfl, rfl⟩
theorem c_r_told_o {S : xS} (hM : xShM S) {T t : Nat} (hT : (gI S 9 0 22) = nI T) (hT2 : T ≤ 200) (ht : t < T) (x : Int32) (hx : x.toInt < 0 ∨ 7 < x.toInt) : CC mX9_told 4 0 0 [xR (some (9, 0)), xI (nI t), xI x] S (aI (-1) S) := by
  refine CC_of mpX9_told rfl (Nat.le_of_ble_eq_true rfl) ?_
  have e0 : 0 ≤ nI t ∧ nI t ≤ (gI S 9 0 22) - 1 := by rw [hT]; exact (rng1 (by omega) (by omega)).mpr ht
  have ht2 : t < 200 := by omega
  refine E_aload_n dX9_told_0 rfl rfl ?_
  refine E_iload_n dX9_told_1 rfl rfl ?_
  refine E_callV (m2 := mX9_isTicket) dX9_told_2 kX9_185 mzX9_isTicket (c_isTicket _) rfl ⟨_, _, rfl⟩ rfl rfl (by decide) (xs8 (Nat.le_of_ble_eq_true rfl)) (by first | exact Nat.le_of_ble_eq_true rfl | omega) (by first | exact Nat.le_of_ble_eq_true rfl | omega) ?_
  rintro _ _ ⟨rfl, rfl⟩; rw [if_pos e0]
  refine E_if_ne (tgt := 10) dX9_told_5 (by decide) (fun h5 => ?_) (fun h5 => absurd h5 (by decide))
  refine E_iload_n dX9_told_10 rfl rfl ?_
  refine E_tabOut (tgt := 132) dX9_told_11 hx (by decide) ?_
  refine E_iconst (v := -1) dX9_told_132 (by decide) ?_
  refine E_iret dX9_told_133 rfl rfl ?_
  exact ⟨rfl, rfl⟩
theorem c_r_told_0 {S : xS} (hM : xShM S) {T t : Nat} (hT : (gI S 9 0 22) = nI T) (hT2 : T ≤ 200) (ht : t < T) : CC mX9_told 4 0 0 [xR (some (9, 0)), xI (nI t), xI 0] S (aI ((gI S 73 0 t)) S) := by
  refine CC_of mpX9_told rfl (Nat.le_of_ble_eq_true rfl) ?_
  have e0 : 0 ≤ nI t ∧ nI t ≤ (gI S 9 0 22) - 1 := by rw [hT]; exact (rng1 (by omega) (by omega)).mpr ht
  have ht2 : t < 200 := by omega
  refine E_aload_n dX9_told_0 rfl rfl ?_
  refine E_iload_n dX9_told_1 rfl rfl ?_
  refine E_callV (m2 := mX9_isTicket) dX9_told_2 kX9_185 mzX9_isTicket (c_isTicket _) rfl ⟨_, _, rfl⟩ rfl rfl (by decide) (xs8 (Nat.le_of_ble_eq_true rfl)) (by first | exact Nat.le_of_ble_eq_true rfl | omega) (by first | exact Nat.le_of_ble_eq_true rfl | omega) ?_
  rintro _ _ ⟨rfl, rfl⟩; rw [if_pos e0]
  refine E_if_ne (tgt := 10) dX9_told_5 (by decide) (fun h5 => ?_) (fun h5 => absurd h5 (by decide))
  refine E_iload_n dX9_told_10 rfl rfl ?_
  refine E_tabIn (tgt := 56) (off := 45) dX9_told_11 (by decide) (by decide) rfl (by decide) ?_
  refine E_aload_n dX9_told_56 rfl rfl ?_
  refine E_getR dX9_told_57 fX9_74 rfl rfl rfl (rM_23 hM) ?_
  refine E_iload_n dX9_told_60 rfl rfl ?_
  refine E_iald dX9_told_61 rfl rfl (by decide) (lM_23 hM) (vin ht2 (by omega)) (vnat ht2 (by omega)) rfl ?_
  refine E_iret dX9_told_62 rfl rfl ?_
  exact ⟨rfl, rfl⟩
theorem c_r_told_1 {S : xS} (hM : xShM S) {T t : Nat} (hT : (gI S 9 0 22) = nI T) (hT2 : T ≤ 200) (ht : t < T) : CC mX9_told 4 0 0 [xR (some (9, 0)), xI (nI t), xI 1] S (aI ((gI S 74 0 t)) S) := by
  refine CC_of mpX9_told rfl (Nat.le_of_ble_eq_true rfl) ?_
  have e0 : 0 ≤ nI t ∧ nI t ≤ (gI S 9 0 22) - 1 := by rw [hT]; exact (rng1 (by omega) (by omega)).mpr ht
  have ht2 : t < 200 := by omega
  refine E_aload_n dX9_told_0 rfl rfl ?_
  refine E_iload_n dX9_told_1 rfl rfl ?_
  refine E_callV (m2 := mX9_isTicket) dX9_told_2 kX9_185 mzX9_isTicket (c_isTicket _) rfl ⟨_, _, rfl⟩ rfl rfl (by decide) (xs8 (Nat.le_of_ble_eq_true rfl)) (by first | exact Nat.le_of_ble_eq_true rfl | omega) (by first | exact Nat.le_of_ble_eq_true rfl | omega) ?_
  rintro _ _ ⟨rfl, rfl⟩; rw [if_pos e0]
  refine E_if_ne (tgt := 10) dX9_told_5 (by decide) (fun h5 => ?_) (fun h5 => absurd h5 (by decide))
  refine E_iload_n dX9_told_10 rfl rfl ?_
  refine E_tabIn (tgt := 63) (off := 52) dX9_told_11 (by decide) (by decide) rfl (by decide) ?_
  refine E_aload_n dX9_told_63 rfl rfl ?_
  refine E_getR dX9_told_64 fX9_77 rfl rfl rfl (rM_24 hM) ?_
  refine E_iload_n dX9_told_67 rfl rfl ?_
  refine E_iald dX9_told_68 rfl rfl (by decide) (lM_24 hM) (vin ht2 (by omega)) (vnat ht2 (by omega)) rfl ?_
  refine E_iret dX9_told_69 rfl rfl ?_
  exact ⟨rfl, rfl⟩
theorem c_r_told_2 {S : xS} (hM : xShM S) {T t : Nat} (hT : (gI S 9 0 22) = nI T) (hT2 : T ≤ 200) (ht : t < T) : CC mX9_told 4 0 0 [xR (some (9, 0)), xI (nI t), xI 2] S (aI ((gI S 77 0 t)) S) := by
  refine CC_of mpX9_told rfl (Nat.le_of_ble_eq_true rfl) ?_
  have e0 : 0 ≤ nI t ∧ nI t ≤ (gI S 9 0 22) - 1 := by rw [hT]; exact (rng1 (by omega) (by omega)).mpr ht
  have ht2 : t < 200 := by omega
  refine E_aload_n dX9_told_0 rfl rfl ?_
  refine E_iload_n dX9_told_1 rfl rfl ?_
  refine E_callV (m2 := mX9_isTicket) dX9_told_2 kX9_185 mzX9_isTicket (c_isTicket _) rfl ⟨_, _, rfl⟩ rfl rfl (by decide) (xs8 (Nat.le_of_ble_eq_true rfl)) (by first | exact Nat.le_of_ble_eq_true rfl | omega) (by first | exact Nat.le_of_ble_eq_true rfl | omega) ?_
  rintro _ _ ⟨rfl, rfl⟩; rw [if_pos e0]
  refine E_if_ne (tgt := 10) dX9_told_5 (by decide) (fun h5 => ?_) (fun h5 => absurd h5 (by decide))
  refine E_iload_n dX9_told_10 rfl rfl ?_
  refine E_tabIn (tgt := 70) (off := 59) dX9_told_11 (by decide) (by decide) rfl (by decide) ?_
  refine E_aload_n dX9_told_70 rfl rfl ?_
  refine E_getR dX9_told_71 fX9_86 rfl rfl rfl (rM_27 hM) ?_
  refine E_iload_n dX9_told_74 rfl rfl ?_
  refine E_iald dX9_told_75 rfl rfl (by decide) (lM_27 hM) (vin ht2 (by omega)) (vnat ht2 (by omega)) rfl ?_
  refine E_iret dX9_told_76 rfl rfl ?_
  exact ⟨rfl, rfl⟩
theorem c_r_told_3 {S : xS} (hM : xShM S) {T t : Nat} (hT : (gI S 9 0 22) = nI T) (hT2 : T ≤ 200) (ht : t < T) : CC mX9_told 4 0 0 [xR (some (9, 0)), xI (nI t), xI 3] S (aI (if (gI S 79 0 t) = 0 then 0 else 1) S) := by
  refine CC_of mpX9_told rfl (Nat.le_of_ble_eq_true rfl) ?_
  have e0 : 0 ≤ nI t ∧ nI t ≤ (gI S 9 0 22) - 1 := by rw [hT]; exact (rng1 (by omega) (by omega)).mpr ht
  have ht2 : t < 200 := by omega
  refine E_aload_n dX9_told_0 rfl rfl ?_
  refine E_iload_n dX9_told_1 rfl rfl ?_
  refine E_callV (m2 := mX9_isTicket) dX9_told_2 kX9_185 mzX9_isTicket (c_isTicket _) rfl ⟨_, _, rfl⟩ rfl rfl (by decide) (xs8 (Nat.le_of_ble_eq_true rfl)) (by first | exact Nat.le_of_ble_eq_true rfl | omega) (by first | exact Nat.le_of_ble_eq_true rfl | omega) ?_
  rintro _ _ ⟨rfl, rfl⟩; rw [if_pos e0]
  refine E_if_ne (tgt := 10) dX9_told_5 (by decide) (fun h5 => ?_) (fun h5 => absurd h5 (by decide))
  refine E_iload_n dX9_told_10 rfl rfl ?_
  refine E_tabIn (tgt := 77) (off := 66) dX9_told_11 (by decide) (by decide) rfl (by decide) ?_
  refine E_aload_n dX9_told_77 rfl rfl ?_
  refine E_getR dX9_told_78 fX9_92 rfl rfl rfl (rM_29 hM) ?_
  refine E_iload_n dX9_told_81 rfl rfl ?_
  refine E_zald dX9_told_82 rfl rfl (by decide) (lM_29 hM) (vin ht2 (by omega)) (vnat ht2 (by omega)) rfl ?_
  refine E_if_eq (tgt := 90) dX9_told_83 (by decide) (fun h83 => ?_) (fun h83 => ?_)
  · refine E_iconst (v := 0) dX9_told_90 (by decide) ?_
    refine E_iret dX9_told_91 rfl rfl ?_
    refine ⟨congrArg (fun z => some (xI z)) ?_, rfl⟩; split <;> first | rfl | contradiction
  · refine E_iconst (v := 1) dX9_told_86 (by decide) ?_
    refine E_goto (tgt := 91) dX9_told_87 (by decide) ?_
    refine E_iret dX9_told_91 rfl rfl ?_
    refine ⟨congrArg (fun z => some (xI z)) ?_, rfl⟩; split <;> first | rfl | contradiction
theorem c_r_told_4 {S : xS} (hM : xShM S) {T t : Nat} (hT : (gI S 9 0 22) = nI T) (hT2 : T ≤ 200) (ht : t < T) : CC mX9_told 4 0 0 [xR (some (9, 0)), xI (nI t), xI 4] S (aI (xon (xlk S (nI t))) S) := by
  refine CC_of mpX9_told rfl (Nat.le_of_ble_eq_true rfl) ?_
  have e0 : 0 ≤ nI t ∧ nI t ≤ (gI S 9 0 22) - 1 := by rw [hT]; exact (rng1 (by omega) (by omega)).mpr ht
  have ht2 : t < 200 := by omega
  refine E_aload_n dX9_told_0 rfl rfl ?_
  refine E_iload_n dX9_told_1 rfl rfl ?_
  refine E_callV (m2 := mX9_isTicket) dX9_told_2 kX9_185 mzX9_isTicket (c_isTicket _) rfl ⟨_, _, rfl⟩ rfl rfl (by decide) (xs8 (Nat.le_of_ble_eq_true rfl)) (by first | exact Nat.le_of_ble_eq_true rfl | omega) (by first | exact Nat.le_of_ble_eq_true rfl | omega) ?_
  rintro _ _ ⟨rfl, rfl⟩; rw [if_pos e0]
  refine E_if_ne (tgt := 10) dX9_told_5 (by decide) (fun h5 => ?_) (fun h5 => absurd h5 (by decide))
  refine E_iload_n dX9_told_10 rfl rfl ?_
  refine E_tabIn (tgt := 92) (off := 81) dX9_told_11 (by decide) (by decide) rfl (by decide) ?_
  refine E_aload_n dX9_told_92 rfl rfl ?_
  refine E_iload_n dX9_told_93 rfl rfl ?_
  refine E_callV (m2 := mX9_lockerOf) dX9_told_94 kX9_210 mzX9_lockerOf (c_r_lockerOf hM (nI t)) rfl ⟨_, _, rfl⟩ rfl rfl (by decide) (xs8 (Nat.le_of_ble_eq_true rfl)) (by first | exact Nat.le_of_ble_eq_true rfl | omega) (by first | exact Nat.le_of_ble_eq_true rfl | omega) ?_
  rintro _ _ ⟨rfl, rfl⟩
  refine E_iret dX9_told_97 rfl rfl ?_
  exact ⟨rfl, rfl⟩
theorem c_r_told_5 {S : xS} (hM : xShM S) {T t : Nat} (hT : (gI S 9 0 22) = nI T) (hT2 : T ≤ 200) (ht : t < T) : CC mX9_told 4 0 0 [xR (some (9, 0)), xI (nI t), xI 5] S (aI ((gI S 80 0 t)) S) := by
  refine CC_of mpX9_told rfl (Nat.le_of_ble_eq_true rfl) ?_
  have e0 : 0 ≤ nI t ∧ nI t ≤ (gI S 9 0 22) - 1 := by rw [hT]; exact (rng1 (by omega) (by omega)).mpr ht
  have ht2 : t < 200 := by omega
  refine E_aload_n dX9_told_0 rfl rfl ?_
  refine E_iload_n dX9_told_1 rfl rfl ?_
  refine E_callV (m2 := mX9_isTicket) dX9_told_2 kX9_185 mzX9_isTicket (c_isTicket _) rfl ⟨_, _, rfl⟩ rfl rfl (by decide) (xs8 (Nat.le_of_ble_eq_true rfl)) (by first | exact Nat.le_of_ble_eq_true rfl | omega) (by first | exact Nat.le_of_ble_eq_true rfl | omega) ?_
  rintro _ _ ⟨rfl, rfl⟩; rw [if_pos e0]
  refine E_if_ne (tgt := 10) dX9_told_5 (by decide) (fun h5 => ?_) (fun h5 => absurd h5 (by decide))
  refine E_iload_n dX9_told_10 rfl rfl ?_
  refine E_tabIn (tgt := 98) (off := 87) dX9_told_11 (by decide) (by decide) rfl (by decide) ?_
  refine E_aload_n dX9_told_98 rfl rfl ?_
  refine E_getR dX9_told_99 fX9_95 rfl rfl rfl (rM_30 hM) ?_
  refine E_iload_n dX9_told_102 rfl rfl ?_
  refine E_iald dX9_told_103 rfl rfl (by decide) (lM_30 hM) (vin ht2 (by omega)) (vnat ht2 (by omega)) rfl ?_
  refine E_iret dX9_told_104 rfl rfl ?_
  exact ⟨rfl, rfl⟩
theorem c_r_told_6 {S : xS} (hM : xShM S) {T t : Nat} (hT : (gI S 9 0 22) = nI T) (hT2 : T ≤ 200) (ht : t < T) : CC mX9_told 4 0 0 [xR (some (9, 0)), xI (nI t), xI 6] S (aI ((gI S 81 0 t)) S) := by
  refine CC_of mpX9_told rfl (Nat.le_of_ble_eq_true rfl) ?_
  have e0 : 0 ≤ nI t ∧ nI t ≤ (gI S 9 0 22) - 1 := by rw [hT]; exact (rng1 (by omega) (by omega)).mpr ht
  have ht2 : t < 200 := by omega
  refine E_aload_n dX9_told_0 rfl rfl ?_
  refine E_iload_n dX9_told_1 rfl rfl ?_
  refine E_callV (m2 := mX9_isTicket) dX9_told_2 kX9_185 mzX9_isTicket (c_isTicket _) rfl ⟨_, _, rfl⟩ rfl rfl (by decide) (xs8 (Nat.le_of_ble_eq_true rfl)) (by first | exact Nat.le_of_ble_eq_true rfl | omega) (by first | exact Nat.le_of_ble_eq_true rfl | omega) ?_
  rintro _ _ ⟨rfl, rfl⟩; rw [if_pos e0]
  refine E_if_ne (tgt := 10) dX9_told_5 (by decide) (fun h5 => ?_) (fun h5 => absurd h5 (by decide))
  refine E_iload_n dX9_told_10 rfl rfl ?_
  refine E_tabIn (tgt := 105) (off := 94) dX9_told_11 (by decide) (by decide) rfl (by decide) ?_
  refine E_aload_n dX9_told_105 rfl rfl ?_
  refine E_getR dX9_told_106 fX9_98 rfl rfl rfl (rM_31 hM) ?_
  refine E_iload_n dX9_told_109 rfl rfl ?_
  refine E_iald dX9_told_110 rfl rfl (by decide) (lM_31 hM) (vin ht2 (by omega)) (vnat ht2 (by omega)) rfl ?_
  refine E_iret dX9_told_111 rfl rfl ?_
  exact ⟨rfl, rfl⟩
theorem c_r_told_7 {S : xS} (hM : xShM S) {T t : Nat} (hT : (gI S 9 0 22) = nI T) (hT2 : T ≤ 200) (ht : t < T) : CC mX9_told 4 0 0 [xR (some (9, 0)), xI (nI t), xI 7] S (aI (if (gI S 79 0 t) = 0 then 0 else -(xrby S t)) S) := by
  refine CC_of mpX9_told rfl (Nat.le_of_ble_eq_true rfl) ?_
  have e0 : 0 ≤ nI t ∧ nI t ≤ (gI S 9 0 22) - 1 := by rw [hT]; exact (rng1 (by omega) (by omega)).mpr ht
  have ht2 : t < 200 := by omega
  refine E_aload_n dX9_told_0 rfl rfl ?_
  refine E_iload_n dX9_told_1 rfl rfl ?_
  refine E_callV (m2 := mX9_isTicket) dX9_told_2 kX9_185 mzX9_isTicket (c_isTicket _) rfl ⟨_, _, rfl⟩ rfl rfl (by decide) (xs8 (Nat.le_of_ble_eq_true rfl)) (by first | exact Nat.le_of_ble_eq_true rfl | omega) (by first | exact Nat.le_of_ble_eq_true rfl | omega) ?_
  rintro _ _ ⟨rfl, rfl⟩; rw [if_pos e0]
  refine E_if_ne (tgt := 10) dX9_told_5 (by decide) (fun h5 => ?_) (fun h5 => absurd h5 (by decide))
  refine E_iload_n dX9_told_10 rfl rfl ?_
  refine E_tabIn (tgt := 112) (off := 101) dX9_told_11 (by decide) (by decide) rfl (by decide) ?_
  refine E_aload_n dX9_told_112 rfl rfl ?_
  refine E_getR dX9_told_113 fX9_92 rfl rfl rfl (rM_29 hM) ?_
  refine E_iload_n dX9_told_116 rfl rfl ?_
  refine E_zald dX9_told_117 rfl rfl (by decide) (lM_29 hM) (vin ht2 (by omega)) (vnat ht2 (by omega)) rfl ?_
  refine E_if_eq (tgt := 130) dX9_told_118 (by decide) (fun h118 => ?_) (fun h118 => ?_)
  · refine E_iconst (v := 0) dX9_told_130 (by decide) ?_
    refine E_iret dX9_told_131 rfl rfl ?_
    refine ⟨congrArg (fun z => some (xI z)) ?_, rfl⟩; split <;> first | rfl | contradiction
  · refine E_aload_n dX9_told_121 rfl rfl ?_
    refine E_iload_n dX9_told_122 rfl rfl ?_
    refine E_callV (m2 := mX9_beyond) dX9_told_123 kX9_203 mzX9_beyond (c_r_beyond hM ht2) rfl ⟨_, _, rfl⟩ rfl rfl (by decide) (xs8 (Nat.le_of_ble_eq_true rfl)) (by first | exact Nat.le_of_ble_eq_true rfl | omega) (by first | exact Nat.le_of_ble_eq_true rfl | omega) ?_
    rintro _ _ ⟨rfl, rfl⟩
    refine E_ineg dX9_told_126 ?_
    refine E_goto (tgt := 131) dX9_told_127 (by decide) ?_
    refine E_iret dX9_told_131 rfl rfl ?_
    refine ⟨congrArg (fun z => some (xI z)) ?_, rfl⟩; split <;> first | rfl | contradiction
theorem c_r_all_o {S : xS} (x : Int32) (hx : x.toInt < 0 ∨ 6 < x.toInt) : CC mX9_all 3 0 0 [xR (some (9, 0)), xI x] S (aI (-1) S) := by
  refine CC_of mpX9_all rfl (Nat.le_of_ble_eq_true rfl) ?_
  refine E_iconst (v := 0) dX9_all_0 (by decide) ?_
  refine E_istore_n dX9_all_1 rfl (by decide) rfl ?_
  refine E_iload_n dX9_all_2 rfl rfl ?_
  refine E_tabOut (tgt := 189) dX9_all_3 hx (by decide) ?_
  refine E_iconst (v := -1) dX9_all_189 (by decide) ?_
  refine E_iret dX9_all_190 rfl rfl ?_
  exact ⟨rfl, rfl⟩
theorem c_r_all_0 {S : xS}  : CC mX9_all 3 0 0 [xR (some (9, 0)), xI 0] S (aI (gI S 9 0 0) S) := by
  refine CC_of mpX9_all rfl (Nat.le_of_ble_eq_true rfl) ?_
  refine E_iconst (v := 0) dX9_all_0 (by decide) ?_
  refine E_istore_n dX9_all_1 rfl (by decide) rfl ?_
  refine E_iload_n dX9_all_2 rfl rfl ?_
  refine E_tabIn (tgt := 44) (off := 41) dX9_all_3 (by decide) (by decide) rfl (by decide) ?_
  refine E_aload_n dX9_all_44 rfl rfl ?_
  refine E_getI dX9_all_45 fX9_148 rfl rfl rfl rfl ?_
  refine E_iret dX9_all_48 rfl rfl ?_
  exact ⟨rfl, rfl⟩
theorem c_r_all_1 {S : xS}  : CC mX9_all 3 0 0 [xR (some (9, 0)), xI 1] S (aI (gI S 9 0 22) S) := by
  refine CC_of mpX9_all rfl (Nat.le_of_ble_eq_true rfl) ?_
  refine E_iconst (v := 0) dX9_all_0 (by decide) ?_
  refine E_istore_n dX9_all_1 rfl (by decide) rfl ?_
  refine E_iload_n dX9_all_2 rfl rfl ?_
  refine E_tabIn (tgt := 49) (off := 46) dX9_all_3 (by decide) (by decide) rfl (by decide) ?_
  refine E_aload_n dX9_all_49 rfl rfl ?_
  refine E_getI dX9_all_50 fX9_145 rfl rfl rfl rfl ?_
  refine E_iret dX9_all_53 rfl rfl ?_
  exact ⟨rfl, rfl⟩
theorem c_r_all_2 {S : xS}  : CC mX9_all 3 0 0 [xR (some (9, 0)), xI 2] S (aI (gI S 9 0 35) S) := by
  refine CC_of mpX9_all rfl (Nat.le_of_ble_eq_true rfl) ?_
  refine E_iconst (v := 0) dX9_all_0 (by decide) ?_
  refine E_istore_n dX9_all_1 rfl (by decide) rfl ?_
  refine E_iload_n dX9_all_2 rfl rfl ?_
  refine E_tabIn (tgt := 54) (off := 51) dX9_all_3 (by decide) (by decide) rfl (by decide) ?_
  refine E_aload_n dX9_all_54 rfl rfl ?_
  refine E_getI dX9_all_55 fX9_172 rfl rfl rfl rfl ?_
  refine E_iret dX9_all_58 rfl rfl ?_
  exact ⟨rfl, rfl⟩
theorem l_r_all3 {S : xS} (hM : xShM S) : ∀ (n i : Nat), i + n = 30 → ∀ v, v = xsm (fun l => if (gI S 84 0 l) = -1 then 0 else 1) i → Ex mX9_all 3 0 0 (0, fun _ => 0) (aI (xsm (fun l => if (gI S 84 0 l) = -1 then 0 else 1) 30) S) 61 [some (xR (some (9, 0))), some (xI 3), some (xI v), some (xI (nI i))] [] S
  | 0, i, hi, v, hv => by
    refine E_iload_n dX9_all_61 rfl rfl ?_
    refine E_bipush (v := 30) dX9_all_62 (by decide) ?_
    refine E_icmp_ge (tgt := 91) dX9_all_64 (by decide) (fun h64 => ?_) (fun h64 => absurd h64 ((fun z => z (nI_le (a := 30) (b := i) (by omega) (by omega)))))
    refine E_iload_n dX9_all_91 rfl rfl ?_
    refine E_iret dX9_all_92 rfl rfl ?_
    exact ⟨by rw [hv, show i = 30 by omega], rfl⟩
  | n + 1, i, hi, v, hv => by
    refine E_iload_n dX9_all_61 rfl rfl ?_
    refine E_bipush (v := 30) dX9_all_62 (by decide) ?_
    refine E_icmp_ge (tgt := 91) dX9_all_64 (by decide) (fun h64 => absurd h64 ((nI_ge (a := i) (b := 30) (by omega) (by omega)))) (fun h64 => ?_)
    refine E_iload_n dX9_all_67 rfl rfl ?_
    refine E_aload_n dX9_all_68 rfl rfl ?_
    refine E_getR dX9_all_69 fX9_107 rfl rfl rfl (rM_34 hM) ?_
    refine E_iload_n dX9_all_72 rfl rfl ?_
    refine E_iald dX9_all_73 rfl rfl (by decide) (lM_34 hM) (vin (by omega : i < 30) (by omega)) (vnat (by omega : i < 30) (by omega)) rfl ?_
    refine E_iconst (v := -1) dX9_all_74 (by decide) ?_
    refine E_icmp_eq (tgt := 82) dX9_all_75 (by decide) (fun h75 => ?_) (fun h75 => ?_)
    · refine E_iconst (v := 0) dX9_all_82 (by decide) ?_
      refine E_iadd dX9_all_83 ?_
      refine E_istore_n dX9_all_84 rfl (by decide) rfl ?_
      refine E_iinc (v := nI (i + 1)) dX9_all_85 rfl (nI_i1 i) (by decide) rfl ?_
      refine E_goto (tgt := 61) dX9_all_88 (by decide) ?_
      refine l_r_all3 hM n (i + 1) (by omega) _ ?_
      rw [xsm_succ, ← hv]; congr 1; (try split) <;> simp_all
    · refine E_iconst (v := 1) dX9_all_78 (by decide) ?_
      refine E_goto (tgt := 83) dX9_all_79 (by decide) ?_
      refine E_iadd dX9_all_83 ?_
      refine E_istore_n dX9_all_84 rfl (by decide) rfl ?_
      refine E_iinc (v := nI (i + 1)) dX9_all_85 rfl (nI_i1 i) (by decide) rfl ?_
      refine E_goto (tgt := 61) dX9_all_88 (by decide) ?_
      refine l_r_all3 hM n (i + 1) (by omega) _ ?_
      rw [xsm_succ, ← hv]; congr 1; (try split) <;> simp_all
theorem l_r_all6 {S : xS} (hM : xShM S) : ∀ (n i : Nat), i + n = 30 → ∀ v, v = xsm (fun l => if (gI S 83 0 l) = -1 then 0 else 1) i → Ex mX9_all 3 0 0 (0, fun _ => 0) (aI (xsm (fun l => if (gI S 83 0 l) = -1 then 0 else 1) 30) S) 157 [some (xR (some (9, 0))), some (xI 6), some (xI v), some (xI (nI i))] [] S
  | 0, i, hi, v, hv => by
    refine E_iload_n dX9_all_157 rfl rfl ?_
    refine E_bipush (v := 30) dX9_all_158 (by decide) ?_
    refine E_icmp_ge (tgt := 187) dX9_all_160 (by decide) (fun h160 => ?_) (fun h160 => absurd h160 ((fun z => z (nI_le (a := 30) (b := i) (by omega) (by omega)))))
    refine E_iload_n dX9_all_187 rfl rfl ?_
    refine E_iret dX9_all_188 rfl rfl ?_
    exact ⟨by rw [hv, show i = 30 by omega], rfl⟩
  | n + 1, i, hi, v, hv => by
    refine E_iload_n dX9_all_157 rfl rfl ?_
    refine E_bipush (v := 30) dX9_all_158 (by decide) ?_
    refine E_icmp_ge (tgt := 187) dX9_all_160 (by decide) (fun h160 => absurd h160 ((nI_ge (a := i) (b := 30) (by omega) (by omega)))) (fun h160 => ?_)
    refine E_iload_n dX9_all_163 rfl rfl ?_
    refine E_aload_n dX9_all_164 rfl rfl ?_
    refine E_getR dX9_all_165 fX9_104 rfl rfl rfl (rM_33 hM) ?_
    refine E_iload_n dX9_all_168 rfl rfl ?_
    refine E_iald dX9_all_169 rfl rfl (by decide) (lM_33 hM) (vin (by omega : i < 30) (by omega)) (vnat (by omega : i < 30) (by omega)) rfl ?_
    refine E_iconst (v := -1) dX9_all_170 (by decide) ?_
    refine E_icmp_eq (tgt := 178) dX9_all_171 (by decide) (fun h171 => ?_) (fun h171 => ?_)
    · refine E_iconst (v := 0) dX9_all_178 (by decide) ?_
      refine E_iadd dX9_all_179 ?_
      refine E_istore_n dX9_all_180 rfl (by decide) rfl ?_
      refine E_iinc (v := nI (i + 1)) dX9_all_181 rfl (nI_i1 i) (by decide) rfl ?_
      refine E_goto (tgt := 157) dX9_all_184 (by decide) ?_
      refine l_r_all6 hM n (i + 1) (by omega) _ ?_
      rw [xsm_succ, ← hv]; congr 1; (try split) <;> simp_all
    · refine E_iconst (v := 1) dX9_all_174 (by decide) ?_
      refine E_goto (tgt := 179) dX9_all_175 (by decide) ?_
      refine E_iadd dX9_all_179 ?_
      refine E_istore_n dX9_all_180 rfl (by decide) rfl ?_
      refine E_iinc (v := nI (i + 1)) dX9_all_181 rfl (nI_i1 i) (by decide) rfl ?_
      refine E_goto (tgt := 157) dX9_all_184 (by decide) ?_
      refine l_r_all6 hM n (i + 1) (by omega) _ ?_
      rw [xsm_succ, ← hv]; congr 1; (try split) <;> simp_all
theorem l_r_all4 {S : xS} (hM : xShM S) {T : Nat} (hT : (gI S 9 0 22) = nI T) (hT2 : T ≤ 200) : ∀ (n i : Nat), i + n = T → ∀ v, v = xsm (fun t => (gI S 80 0 t)) i → Ex mX9_all 3 0 0 (0, fun _ => 0) (aI (xsm (fun t => (gI S 80 0 t)) T) S) 95 [some (xR (some (9, 0))), some (xI 4), some (xI v), some (xI (nI i))] [] S
  | 0, i, hi, v, hv => by
    refine E_iload_n dX9_all_95 rfl rfl ?_
    refine E_aload_n dX9_all_96 rfl rfl ?_
    refine E_getI dX9_all_97 fX9_145 rfl rfl rfl hT ?_
    refine E_icmp_ge (tgt := 118) dX9_all_100 (by decide) (fun h100 => ?_) (fun h100 => absurd h100 ((fun z => z (nI_le (a := T) (b := i) (by omega) (by omega)))))
    refine E_iload_n dX9_all_118 rfl rfl ?_
    refine E_iret dX9_all_119 rfl rfl ?_
    exact ⟨by rw [hv, show i = T by omega], rfl⟩
  | n + 1, i, hi, v, hv => by
    refine E_iload_n dX9_all_95 rfl rfl ?_
    refine E_aload_n dX9_all_96 rfl rfl ?_
    refine E_getI dX9_all_97 fX9_145 rfl rfl rfl hT ?_
    refine E_icmp_ge (tgt := 118) dX9_all_100 (by decide) (fun h100 => absurd h100 ((nI_ge (a := i) (b := T) (by omega) (by omega)))) (fun h100 => ?_)
    refine E_iload_n dX9_all_103 rfl rfl ?_
    refine E_aload_n dX9_all_104 rfl rfl ?_
    refine E_getR dX9_all_105 fX9_95 rfl rfl rfl (rM_30 hM) ?_
    refine E_iload_n dX9_all_108 rfl rfl ?_
    refine E_iald dX9_all_109 rfl rfl (by decide) (lM_30 hM) (vin (by omega : i < 200) (by omega)) (vnat (by omega : i < 200) (by omega)) rfl ?_
    refine E_iadd dX9_all_110 ?_
    refine E_istore_n dX9_all_111 rfl (by decide) rfl ?_
    refine E_iinc (v := nI (i + 1)) dX9_all_112 rfl (nI_i1 i) (by decide) rfl ?_
    refine E_goto (tgt := 95) dX9_all_115 (by decide) ?_
    refine l_r_all4 hM hT hT2 n (i + 1) (by omega) _ ?_
    rw [xsm_succ, ← hv]
theorem l_r_all5 {S : xS} (hM : xShM S) {T : Nat} (hT : (gI S 9 0 22) = nI T) (hT2 : T ≤ 200) : ∀ (n i : Nat), i + n = T → ∀ v, v = xsm (fun t => if (gI S 79 0 t) = 0 then 0 else 1) i → Ex mX9_all 3 0 0 (0, fun _ => 0) (aI (xsm (fun t => if (gI S 79 0 t) = 0 then 0 else 1) T) S) 122 [some (xR (some (9, 0))), some (xI 5), some (xI v), some (xI (nI i))] [] S
  | 0, i, hi, v, hv => by
    refine E_iload_n dX9_all_122 rfl rfl ?_
    refine E_aload_n dX9_all_123 rfl rfl ?_
    refine E_getI dX9_all_124 fX9_145 rfl rfl rfl hT ?_
    refine E_icmp_ge (tgt := 153) dX9_all_127 (by decide) (fun h127 => ?_) (fun h127 => absurd h127 ((fun z => z (nI_le (a := T) (b := i) (by omega) (by omega)))))
    refine E_iload_n dX9_all_153 rfl rfl ?_
    refine E_iret dX9_all_154 rfl rfl ?_
    exact ⟨by rw [hv, show i = T by omega], rfl⟩
  | n + 1, i, hi, v, hv => by
    refine E_iload_n dX9_all_122 rfl rfl ?_
    refine E_aload_n dX9_all_123 rfl rfl ?_
    refine E_getI dX9_all_124 fX9_145 rfl rfl rfl hT ?_
    refine E_icmp_ge (tgt := 153) dX9_all_127 (by decide) (fun h127 => absurd h127 ((nI_ge (a := i) (b := T) (by omega) (by omega)))) (fun h127 => ?_)
    refine E_iload_n dX9_all_130 rfl rfl ?_
    refine E_aload_n dX9_all_131 rfl rfl ?_
    refine E_getR dX9_all_132 fX9_92 rfl rfl rfl (rM_29 hM) ?_
    refine E_iload_n dX9_all_135 rfl rfl ?_
    refine E_zald dX9_all_136 rfl rfl (by decide) (lM_29 hM) (vin (by omega : i < 200) (by omega)) (vnat (by omega : i < 200) (by omega)) rfl ?_
    refine E_if_eq (tgt := 144) dX9_all_137 (by decide) (fun h137 => ?_) (fun h137 => ?_)
    · refine E_iconst (v := 0) dX9_all_144 (by decide) ?_
      refine E_iadd dX9_all_145 ?_
      refine E_istore_n dX9_all_146 rfl (by decide) rfl ?_
      refine E_iinc (v := nI (i + 1)) dX9_all_147 rfl (nI_i1 i) (by decide) rfl ?_
      refine E_goto (tgt := 122) dX9_all_150 (by decide) ?_
      refine l_r_all5 hM hT hT2 n (i + 1) (by omega) _ ?_
      rw [xsm_succ, ← hv]; congr 1; (try split) <;> simp_all
    · refine E_iconst (v := 1) dX9_all_140 (by decide) ?_
      refine E_goto (tgt := 145) dX9_all_141 (by decide) ?_
      refine E_iadd dX9_all_145 ?_
      refine E_istore_n dX9_all_146 rfl (by decide) rfl ?_
      refine E_iinc (v := nI (i + 1)) dX9_all_147 rfl (nI_i1 i) (by decide) rfl ?_
      refine E_goto (tgt := 122) dX9_all_150 (by decide) ?_
      refine l_r_all5 hM hT hT2 n (i + 1) (by omega) _ ?_
      rw [xsm_succ, ← hv]; congr 1; (try split) <;> simp_all
theorem c_r_all_3 {S : xS} (hM : xShM S)  : CC mX9_all 3 0 0 [xR (some (9, 0)), xI 3] S (aI (xsm (fun l => if (gI S 84 0 l) = -1 then 0 else 1) 30) S) := by
  refine CC_of mpX9_all rfl (Nat.le_of_ble_eq_true rfl) ?_
  refine E_iconst (v := 0) dX9_all_0 (by decide) ?_
  refine E_istore_n dX9_all_1 rfl (by decide) rfl ?_
  refine E_iload_n dX9_all_2 rfl rfl ?_
  refine E_tabIn (tgt := 59) (off := 56) dX9_all_3 (by decide) (by decide) rfl (by decide) ?_
  refine E_iconst (v := 0) dX9_all_59 (by decide) ?_
  refine E_istore_n dX9_all_60 rfl (by decide) rfl ?_
  exact l_r_all3 hM 30 0 (by omega) 0 rfl
theorem c_r_all_6 {S : xS} (hM : xShM S)  : CC mX9_all 3 0 0 [xR (some (9, 0)), xI 6] S (aI (xsm (fun l => if (gI S 83 0 l) = -1 then 0 else 1) 30) S) := by
  refine CC_of mpX9_all rfl (Nat.le_of_ble_eq_true rfl) ?_
  refine E_iconst (v := 0) dX9_all_0 (by decide) ?_
  refine E_istore_n dX9_all_1 rfl (by decide) rfl ?_
  refine E_iload_n dX9_all_2 rfl rfl ?_
  refine E_tabIn (tgt := 155) (off := 152) dX9_all_3 (by decide) (by decide) rfl (by decide) ?_
  refine E_iconst (v := 0) dX9_all_155 (by decide) ?_
  refine E_istore_n dX9_all_156 rfl (by decide) rfl ?_
  exact l_r_all6 hM 30 0 (by omega) 0 rfl
theorem c_r_all_4 {S : xS} (hM : xShM S)  {T : Nat} (hT : (gI S 9 0 22) = nI T) (hT2 : T ≤ 200) : CC mX9_all 3 0 0 [xR (some (9, 0)), xI 4] S (aI (xsm (fun t => (gI S 80 0 t)) T) S) := by
  refine CC_of mpX9_all rfl (Nat.le_of_ble_eq_true rfl) ?_
  refine E_iconst (v := 0) dX9_all_0 (by decide) ?_
  refine E_istore_n dX9_all_1 rfl (by decide) rfl ?_
  refine E_iload_n dX9_all_2 rfl rfl ?_
  refine E_tabIn (tgt := 93) (off := 90) dX9_all_3 (by decide) (by decide) rfl (by decide) ?_
  refine E_iconst (v := 0) dX9_all_93 (by decide) ?_
  refine E_istore_n dX9_all_94 rfl (by decide) rfl ?_
  exact l_r_all4 hM hT hT2 T 0 (by omega) 0 rfl
theorem c_r_all_5 {S : xS} (hM : xShM S)  {T : Nat} (hT : (gI S 9 0 22) = nI T) (hT2 : T ≤ 200) : CC mX9_all 3 0 0 [xR (some (9, 0)), xI 5] S (aI (xsm (fun t => if (gI S 79 0 t) = 0 then 0 else 1) T) S) := by
  refine CC_of mpX9_all rfl (Nat.le_of_ble_eq_true rfl) ?_
  refine E_iconst (v := 0) dX9_all_0 (by decide) ?_
  refine E_istore_n dX9_all_1 rfl (by decide) rfl ?_
  refine E_iload_n dX9_all_2 rfl rfl ?_
  refine E_tabIn (tgt := 120) (off := 117) dX9_all_3 (by decide) (by decide) rfl (by decide) ?_
  refine E_iconst (v := 0) dX9_all_120 (by decide) ?_
  refine E_istore_n dX9_all_121 rfl (by decide) rfl ?_
  exact l_r_all5 hM hT hT2 T 0 (by omega) 0 rfl
