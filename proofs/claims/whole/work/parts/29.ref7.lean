/-! the reference: in, out, posts, keys -/
theorem c_r_isClubbed_y {S : xS} (hM : xShM S) {t : Nat} (ht : t < 200) (k : (gI S 74 0 t) = 2 ∨ (gI S 74 0 t) = 3) : CC mX9_isClubbed 1 0 0 [xR (some (9, 0)), xI (nI t)] S (aI 1 S) := by
  have h := c_r_isClubbed hM ht
  rwa [if_pos k] at h
theorem c_r_isClubbed_n {S : xS} (hM : xShM S) {t : Nat} (ht : t < 200) (k : ¬ ((gI S 74 0 t) = 2 ∨ (gI S 74 0 t) = 3)) : CC mX9_isClubbed 1 0 0 [xR (some (9, 0)), xI (nI t)] S (aI 0 S) := by
  have h := c_r_isClubbed hM ht
  rwa [if_neg k] at h
def xrin (S : xS) (t P : Nat) (w : Int32) : xS := (sI (sI (sI (sI (sI (sI S 79 0 t 1) 77 0 t (gI S 9 0 0)) 78 0 t w) 81 0 t ((gI S 81 0 t) + 1)) 61 0 P ((gI S 61 0 P) + 1)) 57 0 P ((gI S 57 0 P) + (if (gI S 60 0 P) = 0 then 0 else 1)))
theorem c_r_in_no {S : xS} (x r : Int32) (hmay : CC mX9_may 4 0 0 [xR (some (9, 0)), xI x] S (aI r S)) (hr : ¬ r = 0) : CC mX9_in_ 5 0 0 [xR (some (9, 0)), xI x] S (aI r S) := by
  refine CC_of mpX9_in_ rfl (Nat.le_of_ble_eq_true rfl) ?_
  refine E_aload_n dX9_in__0 rfl rfl ?_
  refine E_iload_n dX9_in__1 rfl rfl ?_
  refine E_callV (m2 := mX9_may) dX9_in__2 kX9_197 mzX9_may hmay rfl ⟨_, _, rfl⟩ rfl rfl (by decide) (xs8 (Nat.le_of_ble_eq_true rfl)) (by first | exact Nat.le_of_ble_eq_true rfl | omega) (by first | exact Nat.le_of_ble_eq_true rfl | omega) ?_
  rintro _ _ ⟨rfl, rfl⟩
  refine E_istore_n dX9_in__5 rfl (by decide) rfl ?_
  refine E_iload_n dX9_in__6 rfl rfl ?_
  refine E_if_eq (tgt := 12) dX9_in__7 (by decide) (fun h7 => absurd h7 (hr)) (fun h7 => ?_)
  refine E_iload_n dX9_in__10 rfl rfl ?_
  refine E_iret dX9_in__11 rfl rfl ?_
  exact ⟨rfl, rfl⟩
theorem c_r_in_1 {S : xS} (hM : xShM S) {t P : Nat} (hmay : CC mX9_may 4 0 0 [xR (some (9, 0)), xI (nI t)] S (aI 0 S)) (ht : t < 200) (hP : P < 4) (hp : (gI S 73 0 t) = nI P) (k : (gI S 74 0 t) = 1) : CC mX9_in_ 5 0 0 [xR (some (9, 0)), xI (nI t)] S (aI 0 (xrin S t P (gI S 75 0 t))) := by
  refine CC_of mpX9_in_ rfl (Nat.le_of_ble_eq_true rfl) ?_
  unfold xrin
  refine E_aload_n dX9_in__0 rfl rfl ?_
  refine E_iload_n dX9_in__1 rfl rfl ?_
  refine E_callV (m2 := mX9_may) dX9_in__2 kX9_197 mzX9_may hmay rfl ⟨_, _, rfl⟩ rfl rfl (by decide) (xs8 (Nat.le_of_ble_eq_true rfl)) (by first | exact Nat.le_of_ble_eq_true rfl | omega) (by first | exact Nat.le_of_ble_eq_true rfl | omega) ?_
  rintro _ _ ⟨rfl, rfl⟩
  refine E_istore_n dX9_in__5 rfl (by decide) rfl ?_
  refine E_iload_n dX9_in__6 rfl rfl ?_
  refine E_if_eq (tgt := 12) dX9_in__7 (by decide) (fun h7 => ?_) (fun h7 => absurd h7 (by decide))
  refine E_aload_n dX9_in__12 rfl rfl ?_
  refine E_getR dX9_in__13 fX9_74 rfl rfl rfl (rM_23 hM) ?_
  refine E_iload_n dX9_in__16 rfl rfl ?_
  refine E_iald dX9_in__17 rfl rfl (by decide) (lM_23 hM) (vin ht (by omega)) (vnat ht (by omega)) hp ?_
  refine E_istore_n dX9_in__18 rfl (by decide) rfl ?_
  refine E_aload_n dX9_in__19 rfl rfl ?_
  refine E_getR dX9_in__20 fX9_92 rfl rfl rfl (rM_29 hM) ?_
  refine E_iload_n dX9_in__23 rfl rfl ?_
  refine E_iconst (v := 1) dX9_in__24 (by decide) ?_
  refine E_zast dX9_in__25 rfl rfl (by decide) (lM_29 hM) (vin ht (by omega)) (vnat ht (by omega)) rfl ?_
  refine E_aload_n dX9_in__26 rfl rfl ?_
  refine E_getR dX9_in__27 fX9_86 rfl rfl rfl (rM_27 hM) ?_
  refine E_iload_n dX9_in__30 rfl rfl ?_
  refine E_aload_n dX9_in__31 rfl rfl ?_
  refine E_getI dX9_in__32 fX9_148 rfl rfl rfl rfl ?_
  refine E_iast dX9_in__35 rfl rfl (by decide) (lM_27 hM) (vin ht (by omega)) (vnat ht (by omega)) ?_
  refine E_aload_n dX9_in__36 rfl rfl ?_
  refine E_getR dX9_in__37 fX9_89 rfl rfl rfl (rM_28 hM) ?_
  refine E_iload_n dX9_in__40 rfl rfl ?_
  refine E_aload_n dX9_in__41 rfl rfl ?_
  refine E_getR dX9_in__42 fX9_77 rfl rfl rfl (rM_24 hM) ?_
  refine E_iload_n dX9_in__45 rfl rfl ?_
  refine E_iald dX9_in__46 rfl rfl (by decide) (lM_24 hM) (vin ht (by omega)) (vnat ht (by omega)) rfl ?_
  refine E_iconst (v := 1) dX9_in__47 (by decide) ?_
  refine E_icmp_ne (tgt := 60) dX9_in__48 (by decide) (fun h48 => absurd h48 (fun z => z k)) (fun h48 => ?_)
  refine E_aload_n dX9_in__51 rfl rfl ?_
  refine E_getR dX9_in__52 fX9_80 rfl rfl rfl (rM_25 hM) ?_
  refine E_iload_n dX9_in__55 rfl rfl ?_
  refine E_iald dX9_in__56 rfl rfl (by decide) (lM_25 hM) (vin ht (by omega)) (vnat ht (by omega)) rfl ?_
  refine E_goto (tgt := 88) dX9_in__57 (by decide) ?_
  refine E_iast dX9_in__88 rfl rfl (by decide) (lM_28 hM) (vin ht (by omega)) (vnat ht (by omega)) ?_
  refine E_aload_n dX9_in__89 rfl rfl ?_
  refine E_getR dX9_in__90 fX9_98 rfl rfl rfl (rM_31 hM) ?_
  refine E_iload_n dX9_in__93 rfl rfl ?_
  refine E_dup2 dX9_in__94 rfl rfl ?_
  refine E_iald dX9_in__95 rfl rfl (by decide) (lM_31 hM) (vin ht (by omega)) (vnat ht (by omega)) rfl ?_
  refine E_iconst (v := 1) dX9_in__96 (by decide) ?_
  refine E_iadd dX9_in__97 ?_
  refine E_iast dX9_in__98 rfl rfl (by decide) (lM_31 hM) (vin ht (by omega)) (vnat ht (by omega)) ?_
  refine E_aload_n dX9_in__99 rfl rfl ?_
  refine E_getR dX9_in__100 fX9_41 rfl rfl rfl (rM_11 hM) ?_
  refine E_iload_n dX9_in__103 rfl rfl ?_
  refine E_dup2 dX9_in__104 rfl rfl ?_
  refine E_iald dX9_in__105 rfl rfl (by decide) (lM_11 hM) (vin hP (by omega)) (vnat hP (by omega)) rfl ?_
  refine E_iconst (v := 1) dX9_in__106 (by decide) ?_
  refine E_iadd dX9_in__107 ?_
  refine E_iast dX9_in__108 rfl rfl (by decide) (lM_11 hM) (vin hP (by omega)) (vnat hP (by omega)) ?_
  refine E_aload_n dX9_in__109 rfl rfl ?_
  refine E_getR dX9_in__110 fX9_29 rfl rfl rfl (rM_7 hM) ?_
  refine E_iload_n dX9_in__113 rfl rfl ?_
  refine E_dup2 dX9_in__114 rfl rfl ?_
  refine E_iald dX9_in__115 rfl rfl (by decide) (lM_7 hM) (vin hP (by omega)) (vnat hP (by omega)) rfl ?_
  refine E_aload_n dX9_in__116 rfl rfl ?_
  refine E_getR dX9_in__117 fX9_38 rfl rfl rfl (rM_10 hM) ?_
  refine E_iload_n dX9_in__120 rfl rfl ?_
  refine E_zald dX9_in__121 rfl rfl (by decide) (lM_10 hM) (vin hP (by omega)) (vnat hP (by omega)) (Eq.refl (gI S 60 0 P)) ?_
  refine E_if_eq (tgt := 129) dX9_in__122 (by decide) (fun h122 => ?_) (fun h122 => ?_)
  · refine E_iconst (v := 0) dX9_in__129 (by decide) ?_
    refine E_iadd dX9_in__130 ?_
    refine E_iast dX9_in__131 rfl rfl (by decide) (lM_7 hM) (vin hP (by omega)) (vnat hP (by omega)) ?_
    refine E_iconst (v := 0) dX9_in__132 (by decide) ?_
    refine E_iret dX9_in__133 rfl rfl ?_
    first | (rw [if_pos (by assumption)]; exact ⟨rfl, rfl⟩) | (rw [if_neg (by assumption)]; exact ⟨rfl, rfl⟩)
  · refine E_iconst (v := 1) dX9_in__125 (by decide) ?_
    refine E_goto (tgt := 130) dX9_in__126 (by decide) ?_
    refine E_iadd dX9_in__130 ?_
    refine E_iast dX9_in__131 rfl rfl (by decide) (lM_7 hM) (vin hP (by omega)) (vnat hP (by omega)) ?_
    refine E_iconst (v := 0) dX9_in__132 (by decide) ?_
    refine E_iret dX9_in__133 rfl rfl ?_
    first | (rw [if_pos (by assumption)]; exact ⟨rfl, rfl⟩) | (rw [if_neg (by assumption)]; exact ⟨rfl, rfl⟩)
theorem c_r_in_c {S : xS} (hM : xShM S) {t P : Nat} (hmay : CC mX9_may 4 0 0 [xR (some (9, 0)), xI (nI t)] S (aI 0 S)) (ht : t < 200) (hP : P < 4) (hp : (gI S 73 0 t) = nI P) (k : (gI S 74 0 t) = 2 ∨ (gI S 74 0 t) = 3) {c : Nat} (hc : c < 20) (hw : (gI S 75 0 t) = nI c) : CC mX9_in_ 5 0 0 [xR (some (9, 0)), xI (nI t)] S (aI 0 (xrin S t P ((gI S 90 0 c) - (gI S 9 0 0)))) := by
  refine CC_of mpX9_in_ rfl (Nat.le_of_ble_eq_true rfl) ?_
  unfold xrin
  refine E_aload_n dX9_in__0 rfl rfl ?_
  refine E_iload_n dX9_in__1 rfl rfl ?_
  refine E_callV (m2 := mX9_may) dX9_in__2 kX9_197 mzX9_may hmay rfl ⟨_, _, rfl⟩ rfl rfl (by decide) (xs8 (Nat.le_of_ble_eq_true rfl)) (by first | exact Nat.le_of_ble_eq_true rfl | omega) (by first | exact Nat.le_of_ble_eq_true rfl | omega) ?_
  rintro _ _ ⟨rfl, rfl⟩
  refine E_istore_n dX9_in__5 rfl (by decide) rfl ?_
  refine E_iload_n dX9_in__6 rfl rfl ?_
  refine E_if_eq (tgt := 12) dX9_in__7 (by decide) (fun h7 => ?_) (fun h7 => absurd h7 (by decide))
  refine E_aload_n dX9_in__12 rfl rfl ?_
  refine E_getR dX9_in__13 fX9_74 rfl rfl rfl (rM_23 hM) ?_
  refine E_iload_n dX9_in__16 rfl rfl ?_
  refine E_iald dX9_in__17 rfl rfl (by decide) (lM_23 hM) (vin ht (by omega)) (vnat ht (by omega)) hp ?_
  refine E_istore_n dX9_in__18 rfl (by decide) rfl ?_
  refine E_aload_n dX9_in__19 rfl rfl ?_
  refine E_getR dX9_in__20 fX9_92 rfl rfl rfl (rM_29 hM) ?_
  refine E_iload_n dX9_in__23 rfl rfl ?_
  refine E_iconst (v := 1) dX9_in__24 (by decide) ?_
  refine E_zast dX9_in__25 rfl rfl (by decide) (lM_29 hM) (vin ht (by omega)) (vnat ht (by omega)) rfl ?_
  refine E_aload_n dX9_in__26 rfl rfl ?_
  refine E_getR dX9_in__27 fX9_86 rfl rfl rfl (rM_27 hM) ?_
  refine E_iload_n dX9_in__30 rfl rfl ?_
  refine E_aload_n dX9_in__31 rfl rfl ?_
  refine E_getI dX9_in__32 fX9_148 rfl rfl rfl rfl ?_
  refine E_iast dX9_in__35 rfl rfl (by decide) (lM_27 hM) (vin ht (by omega)) (vnat ht (by omega)) ?_
  refine E_aload_n dX9_in__36 rfl rfl ?_
  refine E_getR dX9_in__37 fX9_89 rfl rfl rfl (rM_28 hM) ?_
  refine E_iload_n dX9_in__40 rfl rfl ?_
  refine E_aload_n dX9_in__41 rfl rfl ?_
  refine E_getR dX9_in__42 fX9_77 rfl rfl rfl (rM_24 hM) ?_
  refine E_iload_n dX9_in__45 rfl rfl ?_
  refine E_iald dX9_in__46 rfl rfl (by decide) (lM_24 hM) (vin ht (by omega)) (vnat ht (by omega)) rfl ?_
  refine E_iconst (v := 1) dX9_in__47 (by decide) ?_
  refine E_icmp_ne (tgt := 60) dX9_in__48 (by decide) (fun h48 => ?_) (fun h48 => absurd h48 ((fun z => by rw [show (gI S 74 0 t) = 1 from z] at k; revert k; decide)))
  refine E_aload_n dX9_in__60 rfl rfl ?_
  refine E_iload_n dX9_in__61 rfl rfl ?_
  refine E_callV (m2 := mX9_isClubbed) dX9_in__62 kX9_188 mzX9_isClubbed (c_r_isClubbed_y (S := (sI (sI S 79 0 t 1) 77 0 t (gI S 9 0 0))) hM ht k) rfl ⟨_, _, rfl⟩ rfl rfl (by decide) (xs8 (Nat.le_of_ble_eq_true rfl)) (by first | exact Nat.le_of_ble_eq_true rfl | omega) (by first | exact Nat.le_of_ble_eq_true rfl | omega) ?_
  rintro _ _ ⟨rfl, rfl⟩
  refine E_if_eq (tgt := 87) dX9_in__65 (by decide) (fun h65 => absurd h65 (by decide)) (fun h65 => ?_)
  refine E_aload_n dX9_in__68 rfl rfl ?_
  refine E_getR dX9_in__69 fX9_123 rfl rfl rfl (rM_40 hM) ?_
  refine E_aload_n dX9_in__72 rfl rfl ?_
  refine E_getR dX9_in__73 fX9_80 rfl rfl rfl (rM_25 hM) ?_
  refine E_iload_n dX9_in__76 rfl rfl ?_
  refine E_iald dX9_in__77 rfl rfl (by decide) (lM_25 hM) (vin ht (by omega)) (vnat ht (by omega)) hw ?_
  refine E_iald dX9_in__78 rfl rfl (by decide) (lM_40 hM) (vin hc (by omega)) (vnat hc (by omega)) rfl ?_
  refine E_aload_n dX9_in__79 rfl rfl ?_
  refine E_getI dX9_in__80 fX9_148 rfl rfl rfl rfl ?_
  refine E_isub dX9_in__83 ?_
  refine E_goto (tgt := 88) dX9_in__84 (by decide) ?_
  refine E_iast dX9_in__88 rfl rfl (by decide) (lM_28 hM) (vin ht (by omega)) (vnat ht (by omega)) ?_
  refine E_aload_n dX9_in__89 rfl rfl ?_
  refine E_getR dX9_in__90 fX9_98 rfl rfl rfl (rM_31 hM) ?_
  refine E_iload_n dX9_in__93 rfl rfl ?_
  refine E_dup2 dX9_in__94 rfl rfl ?_
  refine E_iald dX9_in__95 rfl rfl (by decide) (lM_31 hM) (vin ht (by omega)) (vnat ht (by omega)) rfl ?_
  refine E_iconst (v := 1) dX9_in__96 (by decide) ?_
  refine E_iadd dX9_in__97 ?_
  refine E_iast dX9_in__98 rfl rfl (by decide) (lM_31 hM) (vin ht (by omega)) (vnat ht (by omega)) ?_
  refine E_aload_n dX9_in__99 rfl rfl ?_
  refine E_getR dX9_in__100 fX9_41 rfl rfl rfl (rM_11 hM) ?_
  refine E_iload_n dX9_in__103 rfl rfl ?_
  refine E_dup2 dX9_in__104 rfl rfl ?_
  refine E_iald dX9_in__105 rfl rfl (by decide) (lM_11 hM) (vin hP (by omega)) (vnat hP (by omega)) rfl ?_
  refine E_iconst (v := 1) dX9_in__106 (by decide) ?_
  refine E_iadd dX9_in__107 ?_
  refine E_iast dX9_in__108 rfl rfl (by decide) (lM_11 hM) (vin hP (by omega)) (vnat hP (by omega)) ?_
  refine E_aload_n dX9_in__109 rfl rfl ?_
  refine E_getR dX9_in__110 fX9_29 rfl rfl rfl (rM_7 hM) ?_
  refine E_iload_n dX9_in__113 rfl rfl ?_
  refine E_dup2 dX9_in__114 rfl rfl ?_
  refine E_iald dX9_in__115 rfl rfl (by decide) (lM_7 hM) (vin hP (by omega)) (vnat hP (by omega)) rfl ?_
  refine E_aload_n dX9_in__116 rfl rfl ?_
  refine E_getR dX9_in__117 fX9_38 rfl rfl rfl (rM_10 hM) ?_
  refine E_iload_n dX9_in__120 rfl rfl ?_
  refine E_zald dX9_in__121 rfl rfl (by decide) (lM_10 hM) (vin hP (by omega)) (vnat hP (by omega)) (Eq.refl (gI S 60 0 P)) ?_
  refine E_if_eq (tgt := 129) dX9_in__122 (by decide) (fun h122 => ?_) (fun h122 => ?_)
  · refine E_iconst (v := 0) dX9_in__129 (by decide) ?_
    refine E_iadd dX9_in__130 ?_
    refine E_iast dX9_in__131 rfl rfl (by decide) (lM_7 hM) (vin hP (by omega)) (vnat hP (by omega)) ?_
    refine E_iconst (v := 0) dX9_in__132 (by decide) ?_
    refine E_iret dX9_in__133 rfl rfl ?_
    first | (rw [if_pos (by assumption)]; exact ⟨rfl, rfl⟩) | (rw [if_neg (by assumption)]; exact ⟨rfl, rfl⟩)
  · refine E_iconst (v := 1) dX9_in__125 (by decide) ?_
    refine E_goto (tgt := 130) dX9_in__126 (by decide) ?_
    refine E_iadd dX9_in__130 ?_
    refine E_iast dX9_in__131 rfl rfl (by decide) (lM_7 hM) (vin hP (by omega)) (vnat hP (by omega)) ?_
    refine E_iconst (v := 0) dX9_in__132 (by decide) ?_
    refine E_iret dX9_in__133 rfl rfl ?_
    first | (rw [if_pos (by assumption)]; exact ⟨rfl, rfl⟩) | (rw [if_neg (by assumption)]; exact ⟨rfl, rfl⟩)
theorem c_r_in_u {S : xS} (hM : xShM S) {t P : Nat} (hmay : CC mX9_may 4 0 0 [xR (some (9, 0)), xI (nI t)] S (aI 0 S)) (ht : t < 200) (hP : P < 4) (hp : (gI S 73 0 t) = nI P) (k1 : ¬ (gI S 74 0 t) = 1) (k : ¬ ((gI S 74 0 t) = 2 ∨ (gI S 74 0 t) = 3)) : CC mX9_in_ 5 0 0 [xR (some (9, 0)), xI (nI t)] S (aI 0 (xrin S t P 0)) := by
  refine CC_of mpX9_in_ rfl (Nat.le_of_ble_eq_true rfl) ?_
  unfold xrin
  refine E_aload_n dX9_in__0 rfl rfl ?_
  refine E_iload_n dX9_in__1 rfl rfl ?_
  refine E_callV (m2 := mX9_may) dX9_in__2 kX9_197 mzX9_may hmay rfl ⟨_, _, rfl⟩ rfl rfl (by decide) (xs8 (Nat.le_of_ble_eq_true rfl)) (by first | exact Nat.le_of_ble_eq_true rfl | omega) (by first | exact Nat.le_of_ble_eq_true rfl | omega) ?_
  rintro _ _ ⟨rfl, rfl⟩
  refine E_istore_n dX9_in__5 rfl (by decide) rfl ?_
  refine E_iload_n dX9_in__6 rfl rfl ?_
  refine E_if_eq (tgt := 12) dX9_in__7 (by decide) (fun h7 => ?_) (fun h7 => absurd h7 (by decide))
  refine E_aload_n dX9_in__12 rfl rfl ?_
  refine E_getR dX9_in__13 fX9_74 rfl rfl rfl (rM_23 hM) ?_
  refine E_iload_n dX9_in__16 rfl rfl ?_
  refine E_iald dX9_in__17 rfl rfl (by decide) (lM_23 hM) (vin ht (by omega)) (vnat ht (by omega)) hp ?_
  refine E_istore_n dX9_in__18 rfl (by decide) rfl ?_
  refine E_aload_n dX9_in__19 rfl rfl ?_
  refine E_getR dX9_in__20 fX9_92 rfl rfl rfl (rM_29 hM) ?_
  refine E_iload_n dX9_in__23 rfl rfl ?_
  refine E_iconst (v := 1) dX9_in__24 (by decide) ?_
  refine E_zast dX9_in__25 rfl rfl (by decide) (lM_29 hM) (vin ht (by omega)) (vnat ht (by omega)) rfl ?_
  refine E_aload_n dX9_in__26 rfl rfl ?_
  refine E_getR dX9_in__27 fX9_86 rfl rfl rfl (rM_27 hM) ?_
  refine E_iload_n dX9_in__30 rfl rfl ?_
  refine E_aload_n dX9_in__31 rfl rfl ?_
  refine E_getI dX9_in__32 fX9_148 rfl rfl rfl rfl ?_
  refine E_iast dX9_in__35 rfl rfl (by decide) (lM_27 hM) (vin ht (by omega)) (vnat ht (by omega)) ?_
  refine E_aload_n dX9_in__36 rfl rfl ?_
  refine E_getR dX9_in__37 fX9_89 rfl rfl rfl (rM_28 hM) ?_
  refine E_iload_n dX9_in__40 rfl rfl ?_
  refine E_aload_n dX9_in__41 rfl rfl ?_
  refine E_getR dX9_in__42 fX9_77 rfl rfl rfl (rM_24 hM) ?_
  refine E_iload_n dX9_in__45 rfl rfl ?_
  refine E_iald dX9_in__46 rfl rfl (by decide) (lM_24 hM) (vin ht (by omega)) (vnat ht (by omega)) rfl ?_
  refine E_iconst (v := 1) dX9_in__47 (by decide) ?_
  refine E_icmp_ne (tgt := 60) dX9_in__48 (by decide) (fun h48 => ?_) (fun h48 => absurd h48 (k1))
  refine E_aload_n dX9_in__60 rfl rfl ?_
  refine E_iload_n dX9_in__61 rfl rfl ?_
  refine E_callV (m2 := mX9_isClubbed) dX9_in__62 kX9_188 mzX9_isClubbed (c_r_isClubbed_n (S := (sI (sI S 79 0 t 1) 77 0 t (gI S 9 0 0))) hM ht k) rfl ⟨_, _, rfl⟩ rfl rfl (by decide) (xs8 (Nat.le_of_ble_eq_true rfl)) (by first | exact Nat.le_of_ble_eq_true rfl | omega) (by first | exact Nat.le_of_ble_eq_true rfl | omega) ?_
  rintro _ _ ⟨rfl, rfl⟩
  refine E_if_eq (tgt := 87) dX9_in__65 (by decide) (fun h65 => ?_) (fun h65 => absurd h65 (by decide))
  refine E_iconst (v := 0) dX9_in__87 (by decide) ?_
  refine E_iast dX9_in__88 rfl rfl (by decide) (lM_28 hM) (vin ht (by omega)) (vnat ht (by omega)) ?_
  refine E_aload_n dX9_in__89 rfl rfl ?_
  refine E_getR dX9_in__90 fX9_98 rfl rfl rfl (rM_31 hM) ?_
  refine E_iload_n dX9_in__93 rfl rfl ?_
  refine E_dup2 dX9_in__94 rfl rfl ?_
  refine E_iald dX9_in__95 rfl rfl (by decide) (lM_31 hM) (vin ht (by omega)) (vnat ht (by omega)) rfl ?_
  refine E_iconst (v := 1) dX9_in__96 (by decide) ?_
  refine E_iadd dX9_in__97 ?_
  refine E_iast dX9_in__98 rfl rfl (by decide) (lM_31 hM) (vin ht (by omega)) (vnat ht (by omega)) ?_
  refine E_aload_n dX9_in__99 rfl rfl ?_
  refine E_getR dX9_in__100 fX9_41 rfl rfl rfl (rM_11 hM) ?_
  refine E_iload_n dX9_in__103 rfl rfl ?_
  refine E_dup2 dX9_in__104 rfl rfl ?_
  refine E_iald dX9_in__105 rfl rfl (by decide) (lM_11 hM) (vin hP (by omega)) (vnat hP (by omega)) rfl ?_
  refine E_iconst (v := 1) dX9_in__106 (by decide) ?_
  refine E_iadd dX9_in__107 ?_
  refine E_iast dX9_in__108 rfl rfl (by decide) (lM_11 hM) (vin hP (by omega)) (vnat hP (by omega)) ?_
  refine E_aload_n dX9_in__109 rfl rfl ?_
  refine E_getR dX9_in__110 fX9_29 rfl rfl rfl (rM_7 hM) ?_
  refine E_iload_n dX9_in__113 rfl rfl ?_
  refine E_dup2 dX9_in__114 rfl rfl ?_
  refine E_iald dX9_in__115 rfl rfl (by decide) (lM_7 hM) (vin hP (by omega)) (vnat hP (by omega)) rfl ?_
  refine E_aload_n dX9_in__116 rfl rfl ?_
  refine E_getR dX9_in__117 fX9_38 rfl rfl rfl (rM_10 hM) ?_
  refine E_iload_n dX9_in__120 rfl rfl ?_
  refine E_zald dX9_in__121 rfl rfl (by decide) (lM_10 hM) (vin hP (by omega)) (vnat hP (by omega)) (Eq.refl (gI S 60 0 P)) ?_
  refine E_if_eq (tgt := 129) dX9_in__122 (by decide) (fun h122 => ?_) (fun h122 => ?_)
  · refine E_iconst (v := 0) dX9_in__129 (by decide) ?_
    refine E_iadd dX9_in__130 ?_
    refine E_iast dX9_in__131 rfl rfl (by decide) (lM_7 hM) (vin hP (by omega)) (vnat hP (by omega)) ?_
    refine E_iconst (v := 0) dX9_in__132 (by decide) ?_
    refine E_iret dX9_in__133 rfl rfl ?_
    first | (rw [if_pos (by assumption)]; exact ⟨rfl, rfl⟩) | (rw [if_neg (by assumption)]; exact ⟨rfl, rfl⟩)
  · refine E_iconst (v := 1) dX9_in__125 (by decide) ?_
    refine E_goto (tgt := 130) dX9_in__126 (by decide) ?_
    refine E_iadd dX9_in__130 ?_
    refine E_iast dX9_in__131 rfl rfl (by decide) (lM_7 hM) (vin hP (by omega)) (vnat hP (by omega)) ?_
    refine E_iconst (v := 0) dX9_in__132 (by decide) ?_
    refine E_iret dX9_in__133 rfl rfl ?_
    first | (rw [if_pos (by assumption)]; exact ⟨rfl, rfl⟩) | (rw [if_neg (by assumption)]; exact ⟨rfl, rfl⟩)
def xrcn (S : xS) (t : Nat) : Int32 := if 0 < xrby S t then 20 * ((xrby S t + 14) / 15) else 0
def xro1 (S : xS) (t P : Nat) : xS := (sI (sI (sI (sI S 80 0 t ((gI S 80 0 t) + xrcn S t)) 79 0 t 0) 62 0 P ((gI S 62 0 P) + 1)) 58 0 P ((gI S 58 0 P) + (if (gI S 60 0 P) = 0 then 0 else 1)))
/-- the posts of pool P, the first of them, where t stood, are left -/
def xrol (S : xS) (t P : Nat) : Nat → xS
  | 0 => S
  | k + 1 => if (gI (xrol S t P k) 70 0 (3 * P + k)) = nI t then xrlv (xrol S t P k) (3 * P + k) t else xrol S t P k
theorem xrol_2 {S : xS} {t P : Nat} : ∀ k, (xrol S t P k).2 = S.2
  | 0 => rfl
  | k + 1 => by
    unfold xrol
    split
    · exact (show (xrlv (xrol S t P k) (3 * P + k) t).2 = (xrol S t P k).2 from rfl).trans (xrol_2 k)
    · exact xrol_2 k
def xro (S : xS) (t P : Nat) : xS := match xlk (xrol (xro1 S t P) t P 3) (nI t) with
  | none => xrol (xro1 S t P) t P 3
  | some l => (sI (sI (xrol (xro1 S t P) t P 3) 83 0 l (-1)) 84 0 l (nI t))
theorem l_r_out {S : xS} (hM0 : xShM S) {t P : Nat} (ht : t < 200) (hP : P < 4) (coins b3 : Int32) {Q : Option xV → xS → Prop} (hk : ∀ o, Ex mX9_out 4 0 0 (0, fun _ => 0) Q 156 [some (xR (some (9, 0))), some (xI (nI t)), some (xI (nI P)), some (xI b3), some (xI coins), o] [] (xrol S t P 3)) : ∀ (n k : Nat), k + n = 3 → Ex mX9_out 4 0 0 (0, fun _ => 0) Q 119 [some (xR (some (9, 0))), some (xI (nI t)), some (xI (nI P)), some (xI b3), some (xI coins), some (xI (nI k))] [] (xrol S t P k)
  | 0, k, hi => by
    have hi : k = 3 := by omega
    subst hi
    refine E_iload dX9_out_119 rfl ?_
    refine E_iconst (v := 3) dX9_out_121 (by decide) ?_
    refine E_icmp_ge (tgt := 156) dX9_out_122 (by decide) (fun h122 => ?_) (fun h122 => absurd h122 ((fun z => z (nI_le (a := 3) (b := 3) (by omega) (by omega)))))
    exact hk _
  | n + 1, k, hi => by
    have hM := xShM_2 hM0 (xrol_2 (S := S) (t := t) (P := P) k)
    have hA : 3 * P + k < 12 := by omega
    have ih := l_r_out hM0 ht hP coins b3 hk n (k + 1) (by omega)
    unfold xrol at ih
    refine E_iload dX9_out_119 rfl ?_
    refine E_iconst (v := 3) dX9_out_121 (by decide) ?_
    refine E_icmp_ge (tgt := 156) dX9_out_122 (by decide) (fun h122 => absurd h122 ((nI_ge (a := k) (b := 3) (by omega) (by omega)))) (fun h122 => ?_)
    refine E_aload_n dX9_out_125 rfl rfl ?_
    refine E_getR dX9_out_126 fX9_68 rfl rfl rfl (rM_20 hM) ?_
    refine E_iconst (v := 3) dX9_out_129 (by decide) ?_
    refine E_iload_n dX9_out_130 rfl rfl ?_
    refine E_imul dX9_out_131 ?_
    refine E_iload dX9_out_132 rfl ?_
    refine E_iadd dX9_out_134 ?_
    rw [nI_3]
    refine E_iald dX9_out_135 rfl rfl (by decide) (lM_20 hM) (vin hA (by omega)) (vnat hA (by omega)) rfl ?_
    refine E_iload_n dX9_out_136 rfl rfl ?_
    refine E_icmp_ne (tgt := 150) dX9_out_137 (by decide) (fun h137 => ?_) (fun h137 => ?_)
    · rw [if_neg h137] at ih
      refine E_iinc (v := nI (k + 1)) dX9_out_150 rfl (nI_i1 k) (by decide) rfl ?_
      refine E_goto (tgt := 119) dX9_out_153 (by decide) ?_
      exact ih
    · rw [if_pos h137] at ih
      refine E_aload_n dX9_out_140 rfl rfl ?_
      refine E_iconst (v := 3) dX9_out_141 (by decide) ?_
      refine E_iload_n dX9_out_142 rfl rfl ?_
      refine E_imul dX9_out_143 ?_
      refine E_iload dX9_out_144 rfl ?_
      refine E_iadd dX9_out_146 ?_
      rw [nI_3]
      refine E_callV (m2 := mX9_leaves) dX9_out_147 kX9_206 mzX9_leaves (c_r_leaves hM hA ht h137) rfl ⟨_, _, rfl⟩ rfl rfl (by decide) (xs8 (Nat.le_of_ble_eq_true rfl)) (by first | exact Nat.le_of_ble_eq_true rfl | omega) (by first | exact Nat.le_of_ble_eq_true rfl | omega) ?_
      rintro _ _ ⟨rfl, rfl⟩
      refine E_iinc (v := nI (k + 1)) dX9_out_150 rfl (nI_i1 k) (by decide) rfl ?_
      refine E_goto (tgt := 119) dX9_out_153 (by decide) ?_
      exact ih
theorem c_r_out_n {S : xS} (x : Int32) (h : ¬ (0 ≤ x ∧ x ≤ (gI S 9 0 22) - 1)) : CC mX9_out 4 0 0 [xR (some (9, 0)), xI x] S (aI (-1) S) := by
  refine CC_of mpX9_out rfl (Nat.le_of_ble_eq_true rfl) ?_
  refine E_aload_n dX9_out_0 rfl rfl ?_
  refine E_iload_n dX9_out_1 rfl rfl ?_
  refine E_callV (m2 := mX9_isTicket) dX9_out_2 kX9_185 mzX9_isTicket (c_isTicket x) rfl ⟨_, _, rfl⟩ rfl rfl (by decide) (xs8 (Nat.le_of_ble_eq_true rfl)) (by first | exact Nat.le_of_ble_eq_true rfl | omega) (by first | exact Nat.le_of_ble_eq_true rfl | omega) ?_
  rintro _ _ ⟨rfl, rfl⟩; rw [if_neg h]
  refine E_if_eq (tgt := 17) dX9_out_5 (by decide) (fun h5 => ?_) (fun h5 => absurd h5 (by decide))
  refine E_iconst (v := -1) dX9_out_17 (by decide) ?_
  refine E_iret dX9_out_18 rfl rfl ?_
  exact ⟨rfl, rfl⟩
theorem c_r_out_i {S : xS} (hM : xShM S) {T t : Nat} (hT : (gI S 9 0 22) = nI T) (hT2 : T ≤ 200) (ht : t < T) (h : (gI S 79 0 t) = 0) : CC mX9_out 4 0 0 [xR (some (9, 0)), xI (nI t)] S (aI (-1) S) := by
  refine CC_of mpX9_out rfl (Nat.le_of_ble_eq_true rfl) ?_
  have e0 : 0 ≤ nI t ∧ nI t ≤ (gI S 9 0 22) - 1 := by rw [hT]; exact (rng1 (by omega) (by omega)).mpr ht
  have ht2 : t < 200 := by omega
  refine E_aload_n dX9_out_0 rfl rfl ?_
  refine E_iload_n dX9_out_1 rfl rfl ?_
  refine E_callV (m2 := mX9_isTicket) dX9_out_2 kX9_185 mzX9_isTicket (c_isTicket _) rfl ⟨_, _, rfl⟩ rfl rfl (by decide) (xs8 (Nat.le_of_ble_eq_true rfl)) (by first | exact Nat.le_of_ble_eq_true rfl | omega) (by first | exact Nat.le_of_ble_eq_true rfl | omega) ?_
  rintro _ _ ⟨rfl, rfl⟩; rw [if_pos e0]
  refine E_if_eq (tgt := 17) dX9_out_5 (by decide) (fun h5 => absurd h5 (by decide)) (fun h5 => ?_)
  refine E_aload_n dX9_out_8 rfl rfl ?_
  refine E_getR dX9_out_9 fX9_92 rfl rfl rfl (rM_29 hM) ?_
  refine E_iload_n dX9_out_12 rfl rfl ?_
  refine E_zald dX9_out_13 rfl rfl (by decide) (lM_29 hM) (vin ht2 (by omega)) (vnat ht2 (by omega)) rfl ?_
  refine E_if_ne (tgt := 19) dX9_out_14 (by decide) (fun h14 => absurd h14 (fun z => z h)) (fun h14 => ?_)
  refine E_iconst (v := -1) dX9_out_17 (by decide) ?_
  refine E_iret dX9_out_18 rfl rfl ?_
  exact ⟨rfl, rfl⟩
theorem c_r_out_d {S : xS} (hM : xShM S) {T t : Nat} (hT : (gI S 9 0 22) = nI T) (hT2 : T ≤ 200) (ht : t < T) {P : Nat} (hP : P < 4) (hp : (gI S 73 0 t) = nI P) (h : ¬ (gI S 79 0 t) = 0) (hd : (gI S 62 0 P) = 3) : CC mX9_out 4 0 0 [xR (some (9, 0)), xI (nI t)] S (aI (-2) S) := by
  refine CC_of mpX9_out rfl (Nat.le_of_ble_eq_true rfl) ?_
  have e0 : 0 ≤ nI t ∧ nI t ≤ (gI S 9 0 22) - 1 := by rw [hT]; exact (rng1 (by omega) (by omega)).mpr ht
  have ht2 : t < 200 := by omega
  refine E_aload_n dX9_out_0 rfl rfl ?_
  refine E_iload_n dX9_out_1 rfl rfl ?_
  refine E_callV (m2 := mX9_isTicket) dX9_out_2 kX9_185 mzX9_isTicket (c_isTicket _) rfl ⟨_, _, rfl⟩ rfl rfl (by decide) (xs8 (Nat.le_of_ble_eq_true rfl)) (by first | exact Nat.le_of_ble_eq_true rfl | omega) (by first | exact Nat.le_of_ble_eq_true rfl | omega) ?_
  rintro _ _ ⟨rfl, rfl⟩; rw [if_pos e0]
  refine E_if_eq (tgt := 17) dX9_out_5 (by decide) (fun h5 => absurd h5 (by decide)) (fun h5 => ?_)
  refine E_aload_n dX9_out_8 rfl rfl ?_
  refine E_getR dX9_out_9 fX9_92 rfl rfl rfl (rM_29 hM) ?_
  refine E_iload_n dX9_out_12 rfl rfl ?_
  refine E_zald dX9_out_13 rfl rfl (by decide) (lM_29 hM) (vin ht2 (by omega)) (vnat ht2 (by omega)) rfl ?_
  refine E_if_ne (tgt := 19) dX9_out_14 (by decide) (fun h14 => ?_) (fun h14 => absurd h14 (h))
  refine E_aload_n dX9_out_19 rfl rfl ?_
  refine E_getR dX9_out_20 fX9_74 rfl rfl rfl (rM_23 hM) ?_
  refine E_iload_n dX9_out_23 rfl rfl ?_
  refine E_iald dX9_out_24 rfl rfl (by decide) (lM_23 hM) (vin ht2 (by omega)) (vnat ht2 (by omega)) hp ?_
  refine E_istore_n dX9_out_25 rfl (by decide) rfl ?_
  refine E_aload_n dX9_out_26 rfl rfl ?_
  refine E_getR dX9_out_27 fX9_44 rfl rfl rfl (rM_12 hM) ?_
  refine E_iload_n dX9_out_30 rfl rfl ?_
  refine E_iald dX9_out_31 rfl rfl (by decide) (lM_12 hM) (vin hP (by omega)) (vnat hP (by omega)) rfl ?_
  refine E_iconst (v := 3) dX9_out_32 (by decide) ?_
  refine E_icmp_ne (tgt := 39) dX9_out_33 (by decide) (fun h33 => absurd h33 (fun z => z hd)) (fun h33 => ?_)
  refine E_bipush (v := -2) dX9_out_36 (by decide) ?_
  refine E_iret dX9_out_38 rfl rfl ?_
  exact ⟨rfl, rfl⟩
theorem c_r_out_s {S : xS} (hM : xShM S) {T t : Nat} (hT : (gI S 9 0 22) = nI T) (hT2 : T ≤ 200) (ht : t < T) {P : Nat} (hP : P < 4) (hp : (gI S 73 0 t) = nI P) (h : ¬ (gI S 79 0 t) = 0) (hd : ¬ (gI S 62 0 P) = 3) : CC mX9_out 4 0 0 [xR (some (9, 0)), xI (nI t)] S (aI (xrcn S t) (xro S t P)) := by
  refine CC_of mpX9_out rfl (Nat.le_of_ble_eq_true rfl) ?_
  have e0 : 0 ≤ nI t ∧ nI t ≤ (gI S 9 0 22) - 1 := by rw [hT]; exact (rng1 (by omega) (by omega)).mpr ht
  have ht2 : t < 200 := by omega
  have hM2 := xShM_2 (S := S) hM (xrol_2 (S := xro1 S t P) (t := t) (P := P) 3)
  have key : ∀ o, Ex mX9_out 4 0 0 (0, fun _ => 0) (aI (xrcn S t) (xro S t P)) 156 [some (xR (some (9, 0))), some (xI (nI t)), some (xI (nI P)), some (xI (xrby S t)), some (xI (xrcn S t)), o] [] (xrol (xro1 S t P) t P 3) := by
    intro o
    unfold xro
    have hM := hM2
    cases hl : xlk (xrol (xro1 S t P) t P 3) (nI t) with
    | none =>
      refine E_aload_n dX9_out_156 rfl rfl ?_
      refine E_iload_n dX9_out_157 rfl rfl ?_
      refine E_callV (m2 := mX9_lockerOf) dX9_out_158 kX9_210 mzX9_lockerOf (c_r_lockerOf hM (nI t)) rfl ⟨_, _, rfl⟩ rfl rfl (by decide) (xs8 (Nat.le_of_ble_eq_true rfl)) (by first | exact Nat.le_of_ble_eq_true rfl | omega) (by first | exact Nat.le_of_ble_eq_true rfl | omega) ?_
      rintro _ _ ⟨rfl, rfl⟩; rw [hl]
      refine E_istore dX9_out_161 (by decide) rfl ?_
      refine E_iload dX9_out_163 rfl ?_
      refine E_iconst (v := -1) dX9_out_165 (by decide) ?_
      refine E_icmp_eq (tgt := 185) dX9_out_166 (by decide) (fun h166 => ?_) (fun h166 => absurd h166 (by intro z; exact z rfl))
      refine E_iload dX9_out_185 rfl ?_
      refine E_iret dX9_out_187 rfl rfl ?_
      exact ⟨rfl, rfl⟩
    | some l =>
      have hl2 : l < 30 := (xfi_some hl).1
      refine E_aload_n dX9_out_156 rfl rfl ?_
      refine E_iload_n dX9_out_157 rfl rfl ?_
      refine E_callV (m2 := mX9_lockerOf) dX9_out_158 kX9_210 mzX9_lockerOf (c_r_lockerOf hM (nI t)) rfl ⟨_, _, rfl⟩ rfl rfl (by decide) (xs8 (Nat.le_of_ble_eq_true rfl)) (by first | exact Nat.le_of_ble_eq_true rfl | omega) (by first | exact Nat.le_of_ble_eq_true rfl | omega) ?_
      rintro _ _ ⟨rfl, rfl⟩; rw [hl]
      refine E_istore dX9_out_161 (by decide) rfl ?_
      refine E_iload dX9_out_163 rfl ?_
      refine E_iconst (v := -1) dX9_out_165 (by decide) ?_
      refine E_icmp_eq (tgt := 185) dX9_out_166 (by decide) (fun h166 => absurd h166 ((fun z => by have h2 := (xon_ne (o := some l) (fun b hb => by cases hb; omega)).mp z; cases h2))) (fun h166 => ?_)
      refine E_aload_n dX9_out_169 rfl rfl ?_
      refine E_getR dX9_out_170 fX9_104 rfl rfl rfl (rM_33 hM) ?_
      refine E_iload dX9_out_173 rfl ?_
      refine E_iconst (v := -1) dX9_out_175 (by decide) ?_
      refine E_iast dX9_out_176 rfl rfl (by decide) (lM_33 hM) (vin hl2 (by omega)) (vnat hl2 (by omega)) ?_
      refine E_aload_n dX9_out_177 rfl rfl ?_
      refine E_getR dX9_out_178 fX9_107 rfl rfl rfl (rM_34 hM) ?_
      refine E_iload dX9_out_181 rfl ?_
      refine E_iload_n dX9_out_183 rfl rfl ?_
      refine E_iast dX9_out_184 rfl rfl (by decide) (lM_34 hM) (vin hl2 (by omega)) (vnat hl2 (by omega)) ?_
      refine E_iload dX9_out_185 rfl ?_
      refine E_iret dX9_out_187 rfl rfl ?_
      exact ⟨rfl, rfl⟩
  have key2 := l_r_out (S := xro1 S t P) hM ht2 hP (xrcn S t) (xrby S t) key 3 0 rfl
  unfold xro1 at key2
  refine E_aload_n dX9_out_0 rfl rfl ?_
  refine E_iload_n dX9_out_1 rfl rfl ?_
  refine E_callV (m2 := mX9_isTicket) dX9_out_2 kX9_185 mzX9_isTicket (c_isTicket _) rfl ⟨_, _, rfl⟩ rfl rfl (by decide) (xs8 (Nat.le_of_ble_eq_true rfl)) (by first | exact Nat.le_of_ble_eq_true rfl | omega) (by first | exact Nat.le_of_ble_eq_true rfl | omega) ?_
  rintro _ _ ⟨rfl, rfl⟩; rw [if_pos e0]
  refine E_if_eq (tgt := 17) dX9_out_5 (by decide) (fun h5 => absurd h5 (by decide)) (fun h5 => ?_)
  refine E_aload_n dX9_out_8 rfl rfl ?_
  refine E_getR dX9_out_9 fX9_92 rfl rfl rfl (rM_29 hM) ?_
  refine E_iload_n dX9_out_12 rfl rfl ?_
  refine E_zald dX9_out_13 rfl rfl (by decide) (lM_29 hM) (vin ht2 (by omega)) (vnat ht2 (by omega)) rfl ?_
  refine E_if_ne (tgt := 19) dX9_out_14 (by decide) (fun h14 => ?_) (fun h14 => absurd h14 (h))
  refine E_aload_n dX9_out_19 rfl rfl ?_
  refine E_getR dX9_out_20 fX9_74 rfl rfl rfl (rM_23 hM) ?_
  refine E_iload_n dX9_out_23 rfl rfl ?_
  refine E_iald dX9_out_24 rfl rfl (by decide) (lM_23 hM) (vin ht2 (by omega)) (vnat ht2 (by omega)) hp ?_
  refine E_istore_n dX9_out_25 rfl (by decide) rfl ?_
  refine E_aload_n dX9_out_26 rfl rfl ?_
  refine E_getR dX9_out_27 fX9_44 rfl rfl rfl (rM_12 hM) ?_
  refine E_iload_n dX9_out_30 rfl rfl ?_
  refine E_iald dX9_out_31 rfl rfl (by decide) (lM_12 hM) (vin hP (by omega)) (vnat hP (by omega)) rfl ?_
  refine E_iconst (v := 3) dX9_out_32 (by decide) ?_
  refine E_icmp_ne (tgt := 39) dX9_out_33 (by decide) (fun h33 => ?_) (fun h33 => absurd h33 (hd))
  refine E_aload_n dX9_out_39 rfl rfl ?_
  refine E_iload_n dX9_out_40 rfl rfl ?_
  refine E_callV (m2 := mX9_beyond) dX9_out_41 kX9_203 mzX9_beyond (c_r_beyond hM ht2) rfl ⟨_, _, rfl⟩ rfl rfl (by decide) (xs8 (Nat.le_of_ble_eq_true rfl)) (by first | exact Nat.le_of_ble_eq_true rfl | omega) (by first | exact Nat.le_of_ble_eq_true rfl | omega) ?_
  rintro _ _ ⟨rfl, rfl⟩
  refine E_istore_n dX9_out_44 rfl (by decide) rfl ?_
  refine E_iload_n dX9_out_45 rfl rfl ?_
  refine E_if_le (tgt := 62) dX9_out_46 (by decide) (fun h46 => ?_) (fun h46 => ?_)
  · have ec : xrcn S t = 0 := if_neg (Int32.not_lt.mpr h46)
    rw [ec] at key2 ⊢
    refine E_iconst (v := 0) dX9_out_62 (by decide) ?_
    refine E_istore dX9_out_63 (by decide) rfl ?_
    refine E_aload_n dX9_out_65 rfl rfl ?_
    refine E_getR dX9_out_66 fX9_95 rfl rfl rfl (rM_30 hM) ?_
    refine E_iload_n dX9_out_69 rfl rfl ?_
    refine E_dup2 dX9_out_70 rfl rfl ?_
    refine E_iald dX9_out_71 rfl rfl (by decide) (lM_30 hM) (vin ht2 (by omega)) (vnat ht2 (by omega)) rfl ?_
    refine E_iload dX9_out_72 rfl ?_
    refine E_iadd dX9_out_74 ?_
    refine E_iast dX9_out_75 rfl rfl (by decide) (lM_30 hM) (vin ht2 (by omega)) (vnat ht2 (by omega)) ?_
    refine E_aload_n dX9_out_76 rfl rfl ?_
    refine E_getR dX9_out_77 fX9_92 rfl rfl rfl (rM_29 hM) ?_
    refine E_iload_n dX9_out_80 rfl rfl ?_
    refine E_iconst (v := 0) dX9_out_81 (by decide) ?_
    refine E_zast dX9_out_82 rfl rfl (by decide) (lM_29 hM) (vin ht2 (by omega)) (vnat ht2 (by omega)) rfl ?_
    refine E_aload_n dX9_out_83 rfl rfl ?_
    refine E_getR dX9_out_84 fX9_44 rfl rfl rfl (rM_12 hM) ?_
    refine E_iload_n dX9_out_87 rfl rfl ?_
    refine E_dup2 dX9_out_88 rfl rfl ?_
    refine E_iald dX9_out_89 rfl rfl (by decide) (lM_12 hM) (vin hP (by omega)) (vnat hP (by omega)) rfl ?_
    refine E_iconst (v := 1) dX9_out_90 (by decide) ?_
    refine E_iadd dX9_out_91 ?_
    refine E_iast dX9_out_92 rfl rfl (by decide) (lM_12 hM) (vin hP (by omega)) (vnat hP (by omega)) ?_
    refine E_aload_n dX9_out_93 rfl rfl ?_
    refine E_getR dX9_out_94 fX9_32 rfl rfl rfl (rM_8 hM) ?_
    refine E_iload_n dX9_out_97 rfl rfl ?_
    refine E_dup2 dX9_out_98 rfl rfl ?_
    refine E_iald dX9_out_99 rfl rfl (by decide) (lM_8 hM) (vin hP (by omega)) (vnat hP (by omega)) rfl ?_
    refine E_aload_n dX9_out_100 rfl rfl ?_
    refine E_getR dX9_out_101 fX9_38 rfl rfl rfl (rM_10 hM) ?_
    refine E_iload_n dX9_out_104 rfl rfl ?_
    refine E_zald dX9_out_105 rfl rfl (by decide) (lM_10 hM) (vin hP (by omega)) (vnat hP (by omega)) (Eq.refl (gI S 60 0 P)) ?_
    refine E_if_eq (tgt := 113) dX9_out_106 (by decide) (fun h106 => ?_) (fun h106 => ?_)
    · rw [if_pos h106] at key2
      refine E_iconst (v := 0) dX9_out_113 (by decide) ?_
      refine E_iadd dX9_out_114 ?_
      refine E_iast dX9_out_115 rfl rfl (by decide) (lM_8 hM) (vin hP (by omega)) (vnat hP (by omega)) ?_
      refine E_iconst (v := 0) dX9_out_116 (by decide) ?_
      refine E_istore dX9_out_117 (by decide) rfl ?_
      exact key2
    · rw [if_neg h106] at key2
      refine E_iconst (v := 1) dX9_out_109 (by decide) ?_
      refine E_goto (tgt := 114) dX9_out_110 (by decide) ?_
      refine E_iadd dX9_out_114 ?_
      refine E_iast dX9_out_115 rfl rfl (by decide) (lM_8 hM) (vin hP (by omega)) (vnat hP (by omega)) ?_
      refine E_iconst (v := 0) dX9_out_116 (by decide) ?_
      refine E_istore dX9_out_117 (by decide) rfl ?_
      exact key2
  · have ec : xrcn S t = 20 * ((xrby S t + 14) / 15) := if_pos (Int32.not_le.mp h46)
    rw [ec] at key2 ⊢
    refine E_bipush (v := 20) dX9_out_49 (by decide) ?_
    refine E_iload_n dX9_out_51 rfl rfl ?_
    refine E_bipush (v := 14) dX9_out_52 (by decide) ?_
    refine E_iadd dX9_out_54 ?_
    refine E_bipush (v := 15) dX9_out_55 (by decide) ?_
    refine E_idiv dX9_out_57 (by decide) ?_
    refine E_imul dX9_out_58 ?_
    refine E_goto (tgt := 63) dX9_out_59 (by decide) ?_
    refine E_istore dX9_out_63 (by decide) rfl ?_
    refine E_aload_n dX9_out_65 rfl rfl ?_
    refine E_getR dX9_out_66 fX9_95 rfl rfl rfl (rM_30 hM) ?_
    refine E_iload_n dX9_out_69 rfl rfl ?_
    refine E_dup2 dX9_out_70 rfl rfl ?_
    refine E_iald dX9_out_71 rfl rfl (by decide) (lM_30 hM) (vin ht2 (by omega)) (vnat ht2 (by omega)) rfl ?_
    refine E_iload dX9_out_72 rfl ?_
    refine E_iadd dX9_out_74 ?_
    refine E_iast dX9_out_75 rfl rfl (by decide) (lM_30 hM) (vin ht2 (by omega)) (vnat ht2 (by omega)) ?_
    refine E_aload_n dX9_out_76 rfl rfl ?_
    refine E_getR dX9_out_77 fX9_92 rfl rfl rfl (rM_29 hM) ?_
    refine E_iload_n dX9_out_80 rfl rfl ?_
    refine E_iconst (v := 0) dX9_out_81 (by decide) ?_
    refine E_zast dX9_out_82 rfl rfl (by decide) (lM_29 hM) (vin ht2 (by omega)) (vnat ht2 (by omega)) rfl ?_
    refine E_aload_n dX9_out_83 rfl rfl ?_
    refine E_getR dX9_out_84 fX9_44 rfl rfl rfl (rM_12 hM) ?_
    refine E_iload_n dX9_out_87 rfl rfl ?_
    refine E_dup2 dX9_out_88 rfl rfl ?_
    refine E_iald dX9_out_89 rfl rfl (by decide) (lM_12 hM) (vin hP (by omega)) (vnat hP (by omega)) rfl ?_
    refine E_iconst (v := 1) dX9_out_90 (by decide) ?_
    refine E_iadd dX9_out_91 ?_
    refine E_iast dX9_out_92 rfl rfl (by decide) (lM_12 hM) (vin hP (by omega)) (vnat hP (by omega)) ?_
    refine E_aload_n dX9_out_93 rfl rfl ?_
    refine E_getR dX9_out_94 fX9_32 rfl rfl rfl (rM_8 hM) ?_
    refine E_iload_n dX9_out_97 rfl rfl ?_
    refine E_dup2 dX9_out_98 rfl rfl ?_
    refine E_iald dX9_out_99 rfl rfl (by decide) (lM_8 hM) (vin hP (by omega)) (vnat hP (by omega)) rfl ?_
    refine E_aload_n dX9_out_100 rfl rfl ?_
    refine E_getR dX9_out_101 fX9_38 rfl rfl rfl (rM_10 hM) ?_
    refine E_iload_n dX9_out_104 rfl rfl ?_
    refine E_zald dX9_out_105 rfl rfl (by decide) (lM_10 hM) (vin hP (by omega)) (vnat hP (by omega)) (Eq.refl (gI S 60 0 P)) ?_
    refine E_if_eq (tgt := 113) dX9_out_106 (by decide) (fun h106 => ?_) (fun h106 => ?_)
    · rw [if_pos h106] at key2
      refine E_iconst (v := 0) dX9_out_113 (by decide) ?_
      refine E_iadd dX9_out_114 ?_
      refine E_iast dX9_out_115 rfl rfl (by decide) (lM_8 hM) (vin hP (by omega)) (vnat hP (by omega)) ?_
      refine E_iconst (v := 0) dX9_out_116 (by decide) ?_
      refine E_istore dX9_out_117 (by decide) rfl ?_
      exact key2
    · rw [if_neg h106] at key2
      refine E_iconst (v := 1) dX9_out_109 (by decide) ?_
      refine E_goto (tgt := 114) dX9_out_110 (by decide) ?_
      refine E_iadd dX9_out_114 ?_
      refine E_iast dX9_out_115 rfl rfl (by decide) (lM_8 hM) (vin hP (by omega)) (vnat hP (by omega)) ?_
      refine E_iconst (v := 0) dX9_out_116 (by decide) ?_
      refine E_istore dX9_out_117 (by decide) rfl ?_
      exact key2
