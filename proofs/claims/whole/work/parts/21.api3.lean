/-! BathHouse: its calls, the last -/
/-- ticket t takes post i of which nobody, or u, was the watcher -/
def xst (S : xS) (t i : Nat) : xS := (sI (sR (sR S 7 t 12 (some (4, i))) 4 i 0 (some (7, t))) 4 i 1 (gI S 8 0 5))
theorem c_post_e {S : xS} (hX : xShX S) (p k x : Int32) {i t P : Nat} (hn : CC mX8_postOf 3 0 0 [xR (some (8, 0)), xI p, xI k] S (aR (some (4, i)) S)) (ht : xtl S x = some (7, t)) (hp : xpl S p = some (3, P)) (htp : (gR S 7 t 1) = some (3, P)) (hy : (gI S 7 t 2) = 5 ∧ ¬ (gI S 7 t 6) = 0 ∧ (gR S 7 t 12) = none ∧ 20 ≤ (gI S 8 0 5) - (gI S 7 t 13)) (hw : (gR S 4 i 0) = none) : CC mX8_post 4 0 0 [xR (some (8, 0)), xI p, xI k, xI x] S (aI (-1) (xst S t i)) := by
  refine CC_of mpX8_post rfl (Nat.le_of_ble_eq_true rfl) ?_
  refine E_aload_n dX8_post_0 rfl rfl ?_
  refine E_iload_n dX8_post_1 rfl rfl ?_
  refine E_iload_n dX8_post_2 rfl rfl ?_
  refine E_callV (m2 := mX8_postOf) dX8_post_3 kX8_219 mzX8_postOf hn rfl ⟨_, _, rfl⟩ rfl rfl (by decide) (xs8 (Nat.le_of_ble_eq_true rfl)) (by first | exact Nat.le_of_ble_eq_true rfl | omega) (by first | exact Nat.le_of_ble_eq_true rfl | omega) ?_
  rintro _ _ ⟨rfl, rfl⟩
  refine E_astore dX8_post_6 (by decide) rfl ?_
  refine E_aload_n dX8_post_8 rfl rfl ?_
  refine E_iload_n dX8_post_9 rfl rfl ?_
  refine E_callV (m2 := mX8_ticketOf) dX8_post_10 kX8_96 mzX8_ticketOf (c_ticketOf hX x ht) rfl ⟨_, _, rfl⟩ rfl rfl (by decide) (xs8 (Nat.le_of_ble_eq_true rfl)) (by first | exact Nat.le_of_ble_eq_true rfl | omega) (by first | exact Nat.le_of_ble_eq_true rfl | omega) ?_
  rintro _ _ ⟨rfl, rfl⟩
  refine E_astore dX8_post_13 (by decide) rfl ?_
  refine E_aload dX8_post_15 rfl ?_
  refine E_ifnull (tgt := 50) dX8_post_17 (by decide) (fun h17 => ?_) (fun q17 h17 => ?_)
  · cases h17
  · refine E_aload dX8_post_20 rfl ?_
    refine E_ifnull (tgt := 50) dX8_post_22 (by decide) (fun h22 => ?_) (fun q22 h22 => ?_)
    · cases h22
    · refine E_aload dX8_post_25 rfl ?_
      refine E_getR dX8_post_27 fX8_108 rfl rfl rfl htp ?_
      refine E_aload_n dX8_post_30 rfl rfl ?_
      refine E_iload_n dX8_post_31 rfl rfl ?_
      refine E_callV (m2 := mX8_poolOf) dX8_post_32 kX8_58 mzX8_poolOf (c_poolOf hX p hp) rfl ⟨_, _, rfl⟩ rfl rfl (by decide) (xs8 (Nat.le_of_ble_eq_true rfl)) (by first | exact Nat.le_of_ble_eq_true rfl | omega) (by first | exact Nat.le_of_ble_eq_true rfl | omega) ?_
      rintro _ _ ⟨rfl, rfl⟩
      refine E_acmp_ne (tgt := 50) dX8_post_35 (by decide) (by intro q h; cases h; simp) (by intro q h; cases h; simp) (fun h35 => absurd h35 (fun z => z rfl)) (fun h35 => ?_)
      refine E_aload dX8_post_38 rfl ?_
      refine E_aload_n dX8_post_40 rfl rfl ?_
      refine E_getI dX8_post_41 fX8_45 rfl rfl rfl rfl ?_
      refine E_callV (m2 := mX7_mayStand) dX8_post_44 kX8_223 mzX7_mayStand (c_X7_mayStand t _) rfl ⟨_, _, rfl⟩ rfl rfl (by decide) (xs8 (Nat.le_of_ble_eq_true rfl)) (by first | exact Nat.le_of_ble_eq_true rfl | omega) (by first | exact Nat.le_of_ble_eq_true rfl | omega) ?_
      rintro _ _ ⟨rfl, rfl⟩; rw [if_pos hy]
      refine E_if_ne (tgt := 53) dX8_post_47 (by decide) (fun h47 => ?_) (fun h47 => absurd h47 (by decide))
      refine E_aload dX8_post_53 rfl ?_
      refine E_getR dX8_post_55 fX8_226 rfl rfl rfl hw ?_
      refine E_astore dX8_post_58 (by decide) rfl ?_
      refine E_aload dX8_post_60 rfl ?_
      refine E_ifnull (tgt := 74) dX8_post_62 (by decide) (fun h62 => ?_) (fun q62 h62 => ?_)
      · refine E_aload dX8_post_74 rfl ?_
        refine E_aload dX8_post_76 rfl ?_
        refine E_aload_n dX8_post_78 rfl rfl ?_
        refine E_getI dX8_post_79 fX8_45 rfl rfl rfl rfl ?_
        refine E_callV (m2 := mX7_standAt) dX8_post_82 kX8_235 mzX7_standAt (c_X7_standAt t i _) rfl ⟨_, _, rfl⟩ rfl rfl (by decide) (xs8 (Nat.le_of_ble_eq_true rfl)) (by first | exact Nat.le_of_ble_eq_true rfl | omega) (by first | exact Nat.le_of_ble_eq_true rfl | omega) ?_
        rintro _ _ ⟨rfl, rfl⟩
        refine E_aload dX8_post_85 rfl ?_
        refine E_callS (m2 := mX8_numberOf) dX8_post_87 kX8_239 mzX8_numberOf c_X8_numberOf_n rfl rfl (by decide) (xs8 (Nat.le_of_ble_eq_true rfl)) (by first | exact Nat.le_of_ble_eq_true rfl | omega) (by first | exact Nat.le_of_ble_eq_true rfl | omega) ?_
        rintro _ _ ⟨rfl, rfl⟩
        refine E_iret dX8_post_90 rfl rfl ?_
        exact ⟨rfl, rfl⟩
      · cases h62
theorem c_post_s {S : xS} (hX : xShX S) (p k x : Int32) {i t P u j : Nat} (hn : CC mX8_postOf 3 0 0 [xR (some (8, 0)), xI p, xI k] S (aR (some (4, i)) S)) (ht : xtl S x = some (7, t)) (hp : xpl S p = some (3, P)) (htp : (gR S 7 t 1) = some (3, P)) (hy : (gI S 7 t 2) = 5 ∧ ¬ (gI S 7 t 6) = 0 ∧ (gR S 7 t 12) = none ∧ 20 ≤ (gI S 8 0 5) - (gI S 7 t 13)) (hw : (gR S 4 i 0) = some (7, u)) (hu : (gR S 7 u 12) = some (4, j)) : CC mX8_post 4 0 0 [xR (some (8, 0)), xI p, xI k, xI x] S (aI (gI S 7 u 0) (xst (sI (sR (sR S 4 j 0 none) 7 u 12 none) 7 u 13 (gI S 8 0 5)) t i)) := by
  refine CC_of mpX8_post rfl (Nat.le_of_ble_eq_true rfl) ?_
  refine E_aload_n dX8_post_0 rfl rfl ?_
  refine E_iload_n dX8_post_1 rfl rfl ?_
  refine E_iload_n dX8_post_2 rfl rfl ?_
  refine E_callV (m2 := mX8_postOf) dX8_post_3 kX8_219 mzX8_postOf hn rfl ⟨_, _, rfl⟩ rfl rfl (by decide) (xs8 (Nat.le_of_ble_eq_true rfl)) (by first | exact Nat.le_of_ble_eq_true rfl | omega) (by first | exact Nat.le_of_ble_eq_true rfl | omega) ?_
  rintro _ _ ⟨rfl, rfl⟩
  refine E_astore dX8_post_6 (by decide) rfl ?_
  refine E_aload_n dX8_post_8 rfl rfl ?_
  refine E_iload_n dX8_post_9 rfl rfl ?_
  refine E_callV (m2 := mX8_ticketOf) dX8_post_10 kX8_96 mzX8_ticketOf (c_ticketOf hX x ht) rfl ⟨_, _, rfl⟩ rfl rfl (by decide) (xs8 (Nat.le_of_ble_eq_true rfl)) (by first | exact Nat.le_of_ble_eq_true rfl | omega) (by first | exact Nat.le_of_ble_eq_true rfl | omega) ?_
  rintro _ _ ⟨rfl, rfl⟩
  refine E_astore dX8_post_13 (by decide) rfl ?_
  refine E_aload dX8_post_15 rfl ?_
  refine E_ifnull (tgt := 50) dX8_post_17 (by decide) (fun h17 => ?_) (fun q17 h17 => ?_)
  · cases h17
  · refine E_aload dX8_post_20 rfl ?_
    refine E_ifnull (tgt := 50) dX8_post_22 (by decide) (fun h22 => ?_) (fun q22 h22 => ?_)
    · cases h22
    · refine E_aload dX8_post_25 rfl ?_
      refine E_getR dX8_post_27 fX8_108 rfl rfl rfl htp ?_
      refine E_aload_n dX8_post_30 rfl rfl ?_
      refine E_iload_n dX8_post_31 rfl rfl ?_
      refine E_callV (m2 := mX8_poolOf) dX8_post_32 kX8_58 mzX8_poolOf (c_poolOf hX p hp) rfl ⟨_, _, rfl⟩ rfl rfl (by decide) (xs8 (Nat.le_of_ble_eq_true rfl)) (by first | exact Nat.le_of_ble_eq_true rfl | omega) (by first | exact Nat.le_of_ble_eq_true rfl | omega) ?_
      rintro _ _ ⟨rfl, rfl⟩
      refine E_acmp_ne (tgt := 50) dX8_post_35 (by decide) (by intro q h; cases h; simp) (by intro q h; cases h; simp) (fun h35 => absurd h35 (fun z => z rfl)) (fun h35 => ?_)
      refine E_aload dX8_post_38 rfl ?_
      refine E_aload_n dX8_post_40 rfl rfl ?_
      refine E_getI dX8_post_41 fX8_45 rfl rfl rfl rfl ?_
      refine E_callV (m2 := mX7_mayStand) dX8_post_44 kX8_223 mzX7_mayStand (c_X7_mayStand t _) rfl ⟨_, _, rfl⟩ rfl rfl (by decide) (xs8 (Nat.le_of_ble_eq_true rfl)) (by first | exact Nat.le_of_ble_eq_true rfl | omega) (by first | exact Nat.le_of_ble_eq_true rfl | omega) ?_
      rintro _ _ ⟨rfl, rfl⟩; rw [if_pos hy]
      refine E_if_ne (tgt := 53) dX8_post_47 (by decide) (fun h47 => ?_) (fun h47 => absurd h47 (by decide))
      refine E_aload dX8_post_53 rfl ?_
      refine E_getR dX8_post_55 fX8_226 rfl rfl rfl hw ?_
      refine E_astore dX8_post_58 (by decide) rfl ?_
      refine E_aload dX8_post_60 rfl ?_
      refine E_ifnull (tgt := 74) dX8_post_62 (by decide) (fun h62 => ?_) (fun q62 h62 => ?_)
      · cases h62
      · refine E_aload dX8_post_65 rfl ?_
        refine E_aload_n dX8_post_67 rfl rfl ?_
        refine E_getI dX8_post_68 fX8_45 rfl rfl rfl rfl ?_
        refine E_callV (m2 := mX7_leavePost) dX8_post_71 kX8_232 mzX7_leavePost (c_X7_leavePost_s u j _ hu) rfl ⟨_, _, rfl⟩ rfl rfl (by decide) (xs8 (Nat.le_of_ble_eq_true rfl)) (by first | exact Nat.le_of_ble_eq_true rfl | omega) (by first | exact Nat.le_of_ble_eq_true rfl | omega) ?_
        rintro _ _ ⟨rfl, rfl⟩
        refine E_aload dX8_post_74 rfl ?_
        refine E_aload dX8_post_76 rfl ?_
        refine E_aload_n dX8_post_78 rfl rfl ?_
        refine E_getI dX8_post_79 fX8_45 rfl rfl rfl rfl ?_
        refine E_callV (m2 := mX7_standAt) dX8_post_82 kX8_235 mzX7_standAt (c_X7_standAt t i _) rfl ⟨_, _, rfl⟩ rfl rfl (by decide) (xs8 (Nat.le_of_ble_eq_true rfl)) (by first | exact Nat.le_of_ble_eq_true rfl | omega) (by first | exact Nat.le_of_ble_eq_true rfl | omega) ?_
        rintro _ _ ⟨rfl, rfl⟩
        refine E_aload dX8_post_85 rfl ?_
        refine E_callS (m2 := mX8_numberOf) dX8_post_87 kX8_239 mzX8_numberOf (c_X8_numberOf_s u) rfl rfl (by decide) (xs8 (Nat.le_of_ble_eq_true rfl)) (by first | exact Nat.le_of_ble_eq_true rfl | omega) (by first | exact Nat.le_of_ble_eq_true rfl | omega) ?_
        rintro _ _ ⟨rfl, rfl⟩
        refine E_iret dX8_post_90 rfl rfl ?_
        exact ⟨rfl, rfl⟩
theorem c_key_n {S : xS} (hX : xShX S) (x : Int32) (h : xtl S x = none) : CC mX8_key 3 0 0 [xR (some (8, 0)), xI x] S (aI (-1) S) := by
  refine CC_of mpX8_key rfl (Nat.le_of_ble_eq_true rfl) ?_
  refine E_aload_n dX8_key_0 rfl rfl ?_
  refine E_iload_n dX8_key_1 rfl rfl ?_
  refine E_callV (m2 := mX8_ticketOf) dX8_key_2 kX8_96 mzX8_ticketOf (c_ticketOf hX x h) rfl ⟨_, _, rfl⟩ rfl rfl (by decide) (xs8 (Nat.le_of_ble_eq_true rfl)) (by first | exact Nat.le_of_ble_eq_true rfl | omega) (by first | exact Nat.le_of_ble_eq_true rfl | omega) ?_
  rintro _ _ ⟨rfl, rfl⟩
  refine E_astore_n dX8_key_5 rfl (by decide) rfl ?_
  refine E_aload_n dX8_key_6 rfl rfl ?_
  refine E_ifnull (tgt := 25) dX8_key_7 (by decide) (fun h7 => ?_) (fun q7 h7 => absurd h7 (by intro z; cases z))
  refine E_iconst (v := -1) dX8_key_25 (by decide) ?_
  refine E_iret dX8_key_26 rfl rfl ?_
  exact ⟨rfl, rfl⟩
theorem c_key_i {S : xS} (hX : xShX S) (x : Int32) {t : Nat} (h : xtl S x = some (7, t)) (hi : ¬ (¬ (gI S 7 t 6) = 0 ∧ (gI S 7 t 11) = -1)) : CC mX8_key 3 0 0 [xR (some (8, 0)), xI x] S (aI (-1) S) := by
  refine CC_of mpX8_key rfl (Nat.le_of_ble_eq_true rfl) ?_
  refine E_aload_n dX8_key_0 rfl rfl ?_
  refine E_iload_n dX8_key_1 rfl rfl ?_
  refine E_callV (m2 := mX8_ticketOf) dX8_key_2 kX8_96 mzX8_ticketOf (c_ticketOf hX x h) rfl ⟨_, _, rfl⟩ rfl rfl (by decide) (xs8 (Nat.le_of_ble_eq_true rfl)) (by first | exact Nat.le_of_ble_eq_true rfl | omega) (by first | exact Nat.le_of_ble_eq_true rfl | omega) ?_
  rintro _ _ ⟨rfl, rfl⟩
  refine E_astore_n dX8_key_5 rfl (by decide) rfl ?_
  refine E_aload_n dX8_key_6 rfl rfl ?_
  refine E_ifnull (tgt := 25) dX8_key_7 (by decide) (fun h7 => ?_) (fun q7 h7 => ?_)
  · cases h7
  · refine E_aload_n dX8_key_10 rfl rfl ?_
    refine E_getI dX8_key_11 fX8_116 rfl rfl rfl rfl ?_
    refine E_if_eq (tgt := 25) dX8_key_14 (by decide) (fun h14 => ?_) (fun h14 => ?_)
    · refine E_iconst (v := -1) dX8_key_25 (by decide) ?_
      refine E_iret dX8_key_26 rfl rfl ?_
      exact ⟨rfl, rfl⟩
    · refine E_aload_n dX8_key_17 rfl rfl ?_
      refine E_getI dX8_key_18 fX8_143 rfl rfl rfl rfl ?_
      refine E_iconst (v := -1) dX8_key_21 (by decide) ?_
      refine E_icmp_eq (tgt := 27) dX8_key_22 (by decide) (fun h22 => ?_) (fun h22 => ?_)
      · exact absurd ⟨h14, h22⟩ hi
      · refine E_iconst (v := -1) dX8_key_25 (by decide) ?_
        refine E_iret dX8_key_26 rfl rfl ?_
        exact ⟨rfl, rfl⟩
theorem c_key_f {S : xS} (hX : xShX S) (x : Int32) {t : Nat} (h : xtl S x = some (7, t)) (hi : ¬ (gI S 7 t 6) = 0) (hl : (gI S 7 t 11) = -1) (h1 : ∀ k, k < 30 → ¬ (gI S 13 0 k) = -1) : CC mX8_key 3 0 0 [xR (some (8, 0)), xI x] S (aI (-1) (sI S 7 t 11 (-1))) := by
  refine CC_of mpX8_key rfl (Nat.le_of_ble_eq_true rfl) ?_
  refine E_aload_n dX8_key_0 rfl rfl ?_
  refine E_iload_n dX8_key_1 rfl rfl ?_
  refine E_callV (m2 := mX8_ticketOf) dX8_key_2 kX8_96 mzX8_ticketOf (c_ticketOf hX x h) rfl ⟨_, _, rfl⟩ rfl rfl (by decide) (xs8 (Nat.le_of_ble_eq_true rfl)) (by first | exact Nat.le_of_ble_eq_true rfl | omega) (by first | exact Nat.le_of_ble_eq_true rfl | omega) ?_
  rintro _ _ ⟨rfl, rfl⟩
  refine E_astore_n dX8_key_5 rfl (by decide) rfl ?_
  refine E_aload_n dX8_key_6 rfl rfl ?_
  refine E_ifnull (tgt := 25) dX8_key_7 (by decide) (fun h7 => ?_) (fun q7 h7 => ?_)
  · cases h7
  · refine E_aload_n dX8_key_10 rfl rfl ?_
    refine E_getI dX8_key_11 fX8_116 rfl rfl rfl rfl ?_
    refine E_if_eq (tgt := 25) dX8_key_14 (by decide) (fun h14 => absurd h14 (hi)) (fun h14 => ?_)
    refine E_aload_n dX8_key_17 rfl rfl ?_
    refine E_getI dX8_key_18 fX8_143 rfl rfl rfl rfl ?_
    refine E_iconst (v := -1) dX8_key_21 (by decide) ?_
    refine E_icmp_eq (tgt := 27) dX8_key_22 (by decide) (fun h22 => ?_) (fun h22 => absurd h22 (fun z => z hl))
    refine E_aload_n dX8_key_27 rfl rfl ?_
    refine E_aload_n dX8_key_28 rfl rfl ?_
    refine E_getR dX8_key_29 fX8_30 rfl rfl rfl (rX_8_3 hX) ?_
    refine E_iload_n dX8_key_32 rfl rfl ?_
    refine E_callV (m2 := mX2_takeLowest) dX8_key_33 kX8_242 mzX2_takeLowest (c_X2_takeLowest_n hX x h1) rfl ⟨_, _, rfl⟩ rfl rfl (by decide) (xs8 (Nat.le_of_ble_eq_true rfl)) (by first | exact Nat.le_of_ble_eq_true rfl | omega) (by first | exact Nat.le_of_ble_eq_true rfl | omega) ?_
    rintro _ _ ⟨rfl, rfl⟩
    refine E_putI dX8_key_36 fX8_143 rfl rfl rfl rfl rfl ?_
    refine E_aload_n dX8_key_39 rfl rfl ?_
    refine E_getI dX8_key_40 fX8_143 rfl rfl rfl (show gI (sI S 7 t 11 (-1)) 7 t 11 = -1 by rw [gI_sI, if_pos ⟨rfl, rfl, rfl⟩]) ?_
    refine E_iret dX8_key_43 rfl rfl ?_
    exact ⟨rfl, rfl⟩
theorem c_key_s {S : xS} (hX : xShX S) (x : Int32) {t l : Nat} (h : xtl S x = some (7, t)) (hi : ¬ (gI S 7 t 6) = 0) (hl : (gI S 7 t 11) = -1) (hl2 : l < 30) (h0 : (gI S 13 0 l) = -1) (h1 : ∀ k, k < l → ¬ (gI S 13 0 k) = -1) : CC mX8_key 3 0 0 [xR (some (8, 0)), xI x] S (aI (nI l) (sI (sI S 13 0 l x) 7 t 11 (nI l))) := by
  refine CC_of mpX8_key rfl (Nat.le_of_ble_eq_true rfl) ?_
  refine E_aload_n dX8_key_0 rfl rfl ?_
  refine E_iload_n dX8_key_1 rfl rfl ?_
  refine E_callV (m2 := mX8_ticketOf) dX8_key_2 kX8_96 mzX8_ticketOf (c_ticketOf hX x h) rfl ⟨_, _, rfl⟩ rfl rfl (by decide) (xs8 (Nat.le_of_ble_eq_true rfl)) (by first | exact Nat.le_of_ble_eq_true rfl | omega) (by first | exact Nat.le_of_ble_eq_true rfl | omega) ?_
  rintro _ _ ⟨rfl, rfl⟩
  refine E_astore_n dX8_key_5 rfl (by decide) rfl ?_
  refine E_aload_n dX8_key_6 rfl rfl ?_
  refine E_ifnull (tgt := 25) dX8_key_7 (by decide) (fun h7 => ?_) (fun q7 h7 => ?_)
  · cases h7
  · refine E_aload_n dX8_key_10 rfl rfl ?_
    refine E_getI dX8_key_11 fX8_116 rfl rfl rfl rfl ?_
    refine E_if_eq (tgt := 25) dX8_key_14 (by decide) (fun h14 => absurd h14 (hi)) (fun h14 => ?_)
    refine E_aload_n dX8_key_17 rfl rfl ?_
    refine E_getI dX8_key_18 fX8_143 rfl rfl rfl rfl ?_
    refine E_iconst (v := -1) dX8_key_21 (by decide) ?_
    refine E_icmp_eq (tgt := 27) dX8_key_22 (by decide) (fun h22 => ?_) (fun h22 => absurd h22 (fun z => z hl))
    refine E_aload_n dX8_key_27 rfl rfl ?_
    refine E_aload_n dX8_key_28 rfl rfl ?_
    refine E_getR dX8_key_29 fX8_30 rfl rfl rfl (rX_8_3 hX) ?_
    refine E_iload_n dX8_key_32 rfl rfl ?_
    refine E_callV (m2 := mX2_takeLowest) dX8_key_33 kX8_242 mzX2_takeLowest (c_X2_takeLowest_y hX x l hl2 h0 h1) rfl ⟨_, _, rfl⟩ rfl rfl (by decide) (xs8 (Nat.le_of_ble_eq_true rfl)) (by first | exact Nat.le_of_ble_eq_true rfl | omega) (by first | exact Nat.le_of_ble_eq_true rfl | omega) ?_
    rintro _ _ ⟨rfl, rfl⟩
    refine E_putI dX8_key_36 fX8_143 rfl rfl rfl rfl rfl ?_
    refine E_aload_n dX8_key_39 rfl rfl ?_
    refine E_getI dX8_key_40 fX8_143 rfl rfl rfl (show gI (sI (sI S 13 0 l x) 7 t 11 (nI l)) 7 t 11 = nI l by rw [gI_sI, if_pos ⟨rfl, rfl, rfl⟩]) ?_
    refine E_iret dX8_key_43 rfl rfl ?_
    exact ⟨rfl, rfl⟩
theorem c_give_n {S : xS} (hX : xShX S) (x : Int32) (h : xtl S x = none) : CC mX8_give 3 0 0 [xR (some (8, 0)), xI x] S (aI (-1) S) := by
  refine CC_of mpX8_give rfl (Nat.le_of_ble_eq_true rfl) ?_
  refine E_aload_n dX8_give_0 rfl rfl ?_
  refine E_iload_n dX8_give_1 rfl rfl ?_
  refine E_callV (m2 := mX8_ticketOf) dX8_give_2 kX8_96 mzX8_ticketOf (c_ticketOf hX x h) rfl ⟨_, _, rfl⟩ rfl rfl (by decide) (xs8 (Nat.le_of_ble_eq_true rfl)) (by first | exact Nat.le_of_ble_eq_true rfl | omega) (by first | exact Nat.le_of_ble_eq_true rfl | omega) ?_
  rintro _ _ ⟨rfl, rfl⟩
  refine E_astore_n dX8_give_5 rfl (by decide) rfl ?_
  refine E_aload_n dX8_give_6 rfl rfl ?_
  refine E_ifnonnull (tgt := 12) dX8_give_7 (by decide) (fun q7 h7 => absurd h7 (by intro z; cases z)) (fun h7 => ?_)
  refine E_iconst (v := -1) dX8_give_10 (by decide) ?_
  refine E_iret dX8_give_11 rfl rfl ?_
  exact ⟨rfl, rfl⟩
theorem c_give_o {S : xS} (hX : xShX S) (x : Int32) {t : Nat} (h : xtl S x = some (7, t)) (hl : (gI S 7 t 11) = -1) : CC mX8_give 3 0 0 [xR (some (8, 0)), xI x] S (aI (-1) (sI S 7 t 11 (-1))) := by
  refine CC_of mpX8_give rfl (Nat.le_of_ble_eq_true rfl) ?_
  refine E_aload_n dX8_give_0 rfl rfl ?_
  refine E_iload_n dX8_give_1 rfl rfl ?_
  refine E_callV (m2 := mX8_ticketOf) dX8_give_2 kX8_96 mzX8_ticketOf (c_ticketOf hX x h) rfl ⟨_, _, rfl⟩ rfl rfl (by decide) (xs8 (Nat.le_of_ble_eq_true rfl)) (by first | exact Nat.le_of_ble_eq_true rfl | omega) (by first | exact Nat.le_of_ble_eq_true rfl | omega) ?_
  rintro _ _ ⟨rfl, rfl⟩
  refine E_astore_n dX8_give_5 rfl (by decide) rfl ?_
  refine E_aload_n dX8_give_6 rfl rfl ?_
  refine E_ifnonnull (tgt := 12) dX8_give_7 (by decide) (fun q7 h7 => ?_) (fun h7 => ?_)
  · refine E_aload_n dX8_give_12 rfl rfl ?_
    refine E_getI dX8_give_13 fX8_143 rfl rfl rfl hl ?_
    refine E_istore_n dX8_give_16 rfl (by decide) rfl ?_
    refine E_aload_n dX8_give_17 rfl rfl ?_
    refine E_getR dX8_give_18 fX8_30 rfl rfl rfl (rX_8_3 hX) ?_
    refine E_iload_n dX8_give_21 rfl rfl ?_
    refine E_callV (m2 := mX2_hangKey) dX8_give_22 kX8_245 mzX2_hangKey (c_X2_hangKey_n (-1) (by decide)) rfl ⟨_, _, rfl⟩ rfl rfl (by decide) (xs8 (Nat.le_of_ble_eq_true rfl)) (by first | exact Nat.le_of_ble_eq_true rfl | omega) (by first | exact Nat.le_of_ble_eq_true rfl | omega) ?_
    rintro _ _ ⟨rfl, rfl⟩
    refine E_aload_n dX8_give_25 rfl rfl ?_
    refine E_iconst (v := -1) dX8_give_26 (by decide) ?_
    refine E_putI dX8_give_27 fX8_143 rfl rfl rfl rfl rfl ?_
    refine E_iload_n dX8_give_30 rfl rfl ?_
    refine E_iret dX8_give_31 rfl rfl ?_
    exact ⟨rfl, rfl⟩
  · cases h7
theorem c_give_s {S : xS} (hX : xShX S) (x : Int32) {t l : Nat} (h : xtl S x = some (7, t)) (hl2 : l < 30) (hl : (gI S 7 t 11) = nI l) : CC mX8_give 3 0 0 [xR (some (8, 0)), xI x] S (aI (nI l) (sI (sI (sI S 13 0 l (-1)) 14 0 l 0) 7 t 11 (-1))) := by
  refine CC_of mpX8_give rfl (Nat.le_of_ble_eq_true rfl) ?_
  refine E_aload_n dX8_give_0 rfl rfl ?_
  refine E_iload_n dX8_give_1 rfl rfl ?_
  refine E_callV (m2 := mX8_ticketOf) dX8_give_2 kX8_96 mzX8_ticketOf (c_ticketOf hX x h) rfl ⟨_, _, rfl⟩ rfl rfl (by decide) (xs8 (Nat.le_of_ble_eq_true rfl)) (by first | exact Nat.le_of_ble_eq_true rfl | omega) (by first | exact Nat.le_of_ble_eq_true rfl | omega) ?_
  rintro _ _ ⟨rfl, rfl⟩
  refine E_astore_n dX8_give_5 rfl (by decide) rfl ?_
  refine E_aload_n dX8_give_6 rfl rfl ?_
  refine E_ifnonnull (tgt := 12) dX8_give_7 (by decide) (fun q7 h7 => ?_) (fun h7 => ?_)
  · refine E_aload_n dX8_give_12 rfl rfl ?_
    refine E_getI dX8_give_13 fX8_143 rfl rfl rfl hl ?_
    refine E_istore_n dX8_give_16 rfl (by decide) rfl ?_
    refine E_aload_n dX8_give_17 rfl rfl ?_
    refine E_getR dX8_give_18 fX8_30 rfl rfl rfl (rX_8_3 hX) ?_
    refine E_iload_n dX8_give_21 rfl rfl ?_
    refine E_callV (m2 := mX2_hangKey) dX8_give_22 kX8_245 mzX2_hangKey (c_X2_hangKey_y hX l hl2) rfl ⟨_, _, rfl⟩ rfl rfl (by decide) (xs8 (Nat.le_of_ble_eq_true rfl)) (by first | exact Nat.le_of_ble_eq_true rfl | omega) (by first | exact Nat.le_of_ble_eq_true rfl | omega) ?_
    rintro _ _ ⟨rfl, rfl⟩
    refine E_aload_n dX8_give_25 rfl rfl ?_
    refine E_iconst (v := -1) dX8_give_26 (by decide) ?_
    refine E_putI dX8_give_27 fX8_143 rfl rfl rfl rfl rfl ?_
    refine E_iload_n dX8_give_30 rfl rfl ?_
    refine E_iret dX8_give_31 rfl rfl ?_
    exact ⟨rfl, rfl⟩
  · cases h7
theorem c_mend_n {S : xS} (x : Int32) (h : ¬ (0 ≤ x ∧ x < 30)) : CC mX8_mend 3 0 0 [xR (some (8, 0)), xI x] S (aI (-1) S) := by
  refine CC_of mpX8_mend rfl (Nat.le_of_ble_eq_true rfl) ?_
  refine E_iload_n dX8_mend_0 rfl rfl ?_
  refine E_callS (m2 := mX2_isLocker) dX8_mend_1 kX8_248 mzX2_isLocker (c_X2_isLocker _) rfl rfl (by decide) (xs8 (Nat.le_of_ble_eq_true rfl)) (by first | exact Nat.le_of_ble_eq_true rfl | omega) (by first | exact Nat.le_of_ble_eq_true rfl | omega) ?_
  rintro _ _ ⟨rfl, rfl⟩; rw [if_neg h]
  refine E_if_eq (tgt := 19) dX8_mend_4 (by decide) (fun h4 => ?_) (fun h4 => absurd h4 (by decide))
  refine E_iconst (v := -1) dX8_mend_19 (by decide) ?_
  refine E_iret dX8_mend_20 rfl rfl ?_
  exact ⟨rfl, rfl⟩
theorem c_mend_o {S : xS} (hX : xShX S) {l : Nat} (hl : l < 30) (h : (gI S 14 0 l) = 0) : CC mX8_mend 3 0 0 [xR (some (8, 0)), xI (nI l)] S (aI (-1) S) := by
  refine CC_of mpX8_mend rfl (Nat.le_of_ble_eq_true rfl) ?_
  have e1 : (0 : Int32) ≤ nI l ∧ nI l < 30 := ⟨nI_le (a := 0) (by omega) (by omega), nI_lt (b := 30) (by omega) (by omega)⟩
  refine E_iload_n dX8_mend_0 rfl rfl ?_
  refine E_callS (m2 := mX2_isLocker) dX8_mend_1 kX8_248 mzX2_isLocker (c_X2_isLocker _) rfl rfl (by decide) (xs8 (Nat.le_of_ble_eq_true rfl)) (by first | exact Nat.le_of_ble_eq_true rfl | omega) (by first | exact Nat.le_of_ble_eq_true rfl | omega) ?_
  rintro _ _ ⟨rfl, rfl⟩; rw [if_pos e1]
  refine E_if_eq (tgt := 19) dX8_mend_4 (by decide) (fun h4 => absurd h4 (by decide)) (fun h4 => ?_)
  refine E_aload_n dX8_mend_7 rfl rfl ?_
  refine E_getR dX8_mend_8 fX8_30 rfl rfl rfl (rX_8_3 hX) ?_
  refine E_getR dX8_mend_11 fX8_251 rfl rfl rfl (rX_2_1 hX) ?_
  refine E_iload_n dX8_mend_14 rfl rfl ?_
  refine E_zald dX8_mend_15 rfl rfl (by decide) (lX_14 hX) (vin hl (by omega)) (vnat hl (by omega)) rfl ?_
  refine E_if_ne (tgt := 21) dX8_mend_16 (by decide) (fun h16 => absurd h16 (fun z => z h)) (fun h16 => ?_)
  refine E_iconst (v := -1) dX8_mend_19 (by decide) ?_
  refine E_iret dX8_mend_20 rfl rfl ?_
  exact ⟨rfl, rfl⟩
theorem c_mend_s {S : xS} (hX : xShX S) {l : Nat} (hl : l < 30) (h : ¬ (gI S 14 0 l) = 0) : CC mX8_mend 3 0 0 [xR (some (8, 0)), xI (nI l)] S (aI (gI S 13 0 l) (sI (sI S 13 0 l (-1)) 14 0 l 0)) := by
  refine CC_of mpX8_mend rfl (Nat.le_of_ble_eq_true rfl) ?_
  have e1 : (0 : Int32) ≤ nI l ∧ nI l < 30 := ⟨nI_le (a := 0) (by omega) (by omega), nI_lt (b := 30) (by omega) (by omega)⟩
  refine E_iload_n dX8_mend_0 rfl rfl ?_
  refine E_callS (m2 := mX2_isLocker) dX8_mend_1 kX8_248 mzX2_isLocker (c_X2_isLocker _) rfl rfl (by decide) (xs8 (Nat.le_of_ble_eq_true rfl)) (by first | exact Nat.le_of_ble_eq_true rfl | omega) (by first | exact Nat.le_of_ble_eq_true rfl | omega) ?_
  rintro _ _ ⟨rfl, rfl⟩; rw [if_pos e1]
  refine E_if_eq (tgt := 19) dX8_mend_4 (by decide) (fun h4 => absurd h4 (by decide)) (fun h4 => ?_)
  refine E_aload_n dX8_mend_7 rfl rfl ?_
  refine E_getR dX8_mend_8 fX8_30 rfl rfl rfl (rX_8_3 hX) ?_
  refine E_getR dX8_mend_11 fX8_251 rfl rfl rfl (rX_2_1 hX) ?_
  refine E_iload_n dX8_mend_14 rfl rfl ?_
  refine E_zald dX8_mend_15 rfl rfl (by decide) (lX_14 hX) (vin hl (by omega)) (vnat hl (by omega)) rfl ?_
  refine E_if_ne (tgt := 21) dX8_mend_16 (by decide) (fun h16 => ?_) (fun h16 => absurd h16 (h))
  refine E_aload_n dX8_mend_21 rfl rfl ?_
  refine E_getR dX8_mend_22 fX8_30 rfl rfl rfl (rX_8_3 hX) ?_
  refine E_getR dX8_mend_25 fX8_255 rfl rfl rfl (rX_2_0 hX) ?_
  refine E_iload_n dX8_mend_28 rfl rfl ?_
  refine E_iald dX8_mend_29 rfl rfl (by decide) (lX_13 hX) (vin hl (by omega)) (vnat hl (by omega)) rfl ?_
  refine E_istore_n dX8_mend_30 rfl (by decide) rfl ?_
  refine E_aload_n dX8_mend_31 rfl rfl ?_
  refine E_getR dX8_mend_32 fX8_30 rfl rfl rfl (rX_8_3 hX) ?_
  refine E_iload_n dX8_mend_35 rfl rfl ?_
  refine E_callV (m2 := mX2_hangKey) dX8_mend_36 kX8_245 mzX2_hangKey (c_X2_hangKey_y hX l hl) rfl ⟨_, _, rfl⟩ rfl rfl (by decide) (xs8 (Nat.le_of_ble_eq_true rfl)) (by first | exact Nat.le_of_ble_eq_true rfl | omega) (by first | exact Nat.le_of_ble_eq_true rfl | omega) ?_
  rintro _ _ ⟨rfl, rfl⟩
  refine E_iload_n dX8_mend_39 rfl rfl ?_
  refine E_iret dX8_mend_40 rfl rfl ?_
  exact ⟨rfl, rfl⟩
theorem c_locker_n {S : xS} (x : Int32) (h : ¬ (0 ≤ x ∧ x < 30)) : CC mX8_locker 3 0 0 [xR (some (8, 0)), xI x] S (aI (-3) S) := by
  refine CC_of mpX8_locker rfl (Nat.le_of_ble_eq_true rfl) ?_
  refine E_iload_n dX8_locker_0 rfl rfl ?_
  refine E_callS (m2 := mX2_isLocker) dX8_locker_1 kX8_248 mzX2_isLocker (c_X2_isLocker _) rfl rfl (by decide) (xs8 (Nat.le_of_ble_eq_true rfl)) (by first | exact Nat.le_of_ble_eq_true rfl | omega) (by first | exact Nat.le_of_ble_eq_true rfl | omega) ?_
  rintro _ _ ⟨rfl, rfl⟩; rw [if_neg h]
  refine E_if_ne (tgt := 10) dX8_locker_4 (by decide) (fun h4 => absurd h4 (by decide)) (fun h4 => ?_)
  refine E_bipush (v := -3) dX8_locker_7 (by decide) ?_
  refine E_iret dX8_locker_9 rfl rfl ?_
  exact ⟨rfl, rfl⟩
theorem c_locker_s {S : xS} (hX : xShX S) {l : Nat} (hl : l < 30) : CC mX8_locker 3 0 0 [xR (some (8, 0)), xI (nI l)] S (aI (if (gI S 14 0 l) = 0 then (gI S 13 0 l) else -2) S) := by
  refine CC_of mpX8_locker rfl (Nat.le_of_ble_eq_true rfl) ?_
  have e1 : (0 : Int32) ≤ nI l ∧ nI l < 30 := ⟨nI_le (a := 0) (by omega) (by omega), nI_lt (b := 30) (by omega) (by omega)⟩
  refine E_iload_n dX8_locker_0 rfl rfl ?_
  refine E_callS (m2 := mX2_isLocker) dX8_locker_1 kX8_248 mzX2_isLocker (c_X2_isLocker _) rfl rfl (by decide) (xs8 (Nat.le_of_ble_eq_true rfl)) (by first | exact Nat.le_of_ble_eq_true rfl | omega) (by first | exact Nat.le_of_ble_eq_true rfl | omega) ?_
  rintro _ _ ⟨rfl, rfl⟩; rw [if_pos e1]
  refine E_if_ne (tgt := 10) dX8_locker_4 (by decide) (fun h4 => ?_) (fun h4 => absurd h4 (by decide))
  refine E_aload_n dX8_locker_10 rfl rfl ?_
  refine E_getR dX8_locker_11 fX8_30 rfl rfl rfl (rX_8_3 hX) ?_
  refine E_getR dX8_locker_14 fX8_251 rfl rfl rfl (rX_2_1 hX) ?_
  refine E_iload_n dX8_locker_17 rfl rfl ?_
  refine E_zald dX8_locker_18 rfl rfl (by decide) (lX_14 hX) (vin hl (by omega)) (vnat hl (by omega)) rfl ?_
  refine E_if_eq (tgt := 27) dX8_locker_19 (by decide) (fun h19 => ?_) (fun h19 => ?_)
  · refine E_aload_n dX8_locker_27 rfl rfl ?_
    refine E_getR dX8_locker_28 fX8_30 rfl rfl rfl (rX_8_3 hX) ?_
    refine E_getR dX8_locker_31 fX8_255 rfl rfl rfl (rX_2_0 hX) ?_
    refine E_iload_n dX8_locker_34 rfl rfl ?_
    refine E_iald dX8_locker_35 rfl rfl (by decide) (lX_13 hX) (vin hl (by omega)) (vnat hl (by omega)) rfl ?_
    refine E_iret dX8_locker_36 rfl rfl ?_
    refine ⟨congrArg (fun z => some (xI z)) ?_, rfl⟩; split <;> first | rfl | contradiction
  · refine E_bipush (v := -2) dX8_locker_22 (by decide) ?_
    refine E_goto (tgt := 36) dX8_locker_24 (by decide) ?_
    refine E_iret dX8_locker_36 rfl rfl ?_
    refine ⟨congrArg (fun z => some (xI z)) ?_, rfl⟩; split <;> first | rfl | contradiction
theorem c_told_n {S : xS} (hX : xShX S) (x w : Int32) (h : xtl S x = none) : CC mX8_told 3 0 0 [xR (some (8, 0)), xI x, xI w] S (aI (-1) S) := by
  refine CC_of mpX8_told rfl (Nat.le_of_ble_eq_true rfl) ?_
  refine E_aload_n dX8_told_0 rfl rfl ?_
  refine E_iload_n dX8_told_1 rfl rfl ?_
  refine E_callV (m2 := mX8_ticketOf) dX8_told_2 kX8_96 mzX8_ticketOf (c_ticketOf hX x h) rfl ⟨_, _, rfl⟩ rfl rfl (by decide) (xs8 (Nat.le_of_ble_eq_true rfl)) (by first | exact Nat.le_of_ble_eq_true rfl | omega) (by first | exact Nat.le_of_ble_eq_true rfl | omega) ?_
  rintro _ _ ⟨rfl, rfl⟩
  refine E_astore_n dX8_told_5 rfl (by decide) rfl ?_
  refine E_aload_n dX8_told_6 rfl rfl ?_
  refine E_ifnonnull (tgt := 12) dX8_told_7 (by decide) (fun q7 h7 => absurd h7 (by intro z; cases z)) (fun h7 => ?_)
  refine E_iconst (v := -1) dX8_told_10 (by decide) ?_
  refine E_iret dX8_told_11 rfl rfl ?_
  exact ⟨rfl, rfl⟩
theorem c_told_o {S : xS} (hX : xShX S) (x w : Int32) {t : Nat} (h : xtl S x = some (7, t)) (hx : w.toInt < 0 ∨ 7 < w.toInt) : CC mX8_told 3 0 0 [xR (some (8, 0)), xI x, xI w] S (aI (-1) S) := by
  refine CC_of mpX8_told rfl (Nat.le_of_ble_eq_true rfl) ?_
  refine E_aload_n dX8_told_0 rfl rfl ?_
  refine E_iload_n dX8_told_1 rfl rfl ?_
  refine E_callV (m2 := mX8_ticketOf) dX8_told_2 kX8_96 mzX8_ticketOf (c_ticketOf hX x h) rfl ⟨_, _, rfl⟩ rfl rfl (by decide) (xs8 (Nat.le_of_ble_eq_true rfl)) (by first | exact Nat.le_of_ble_eq_true rfl | omega) (by first | exact Nat.le_of_ble_eq_true rfl | omega) ?_
  rintro _ _ ⟨rfl, rfl⟩
  refine E_astore_n dX8_told_5 rfl (by decide) rfl ?_
  refine E_aload_n dX8_told_6 rfl rfl ?_
  refine E_ifnonnull (tgt := 12) dX8_told_7 (by decide) (fun q7 h7 => ?_) (fun h7 => ?_)
  · refine E_iload_n dX8_told_12 rfl rfl ?_
    refine E_tabOut (tgt := 115) dX8_told_13 hx (by decide) ?_
    refine E_iconst (v := -1) dX8_told_115 (by decide) ?_
    refine E_iret dX8_told_116 rfl rfl ?_
    exact ⟨rfl, rfl⟩
  · cases h7
theorem c_told_0 {S : xS} (hX : xShX S) (x : Int32) {t : Nat} (h : xtl S x = some (7, t)) {P : Nat} (htp : (gR S 7 t 1) = some (3, P)) : CC mX8_told 3 0 0 [xR (some (8, 0)), xI x, xI 0] S (aI ((gI S 3 P 0)) S) := by
  refine CC_of mpX8_told rfl (Nat.le_of_ble_eq_true rfl) ?_
  refine E_aload_n dX8_told_0 rfl rfl ?_
  refine E_iload_n dX8_told_1 rfl rfl ?_
  refine E_callV (m2 := mX8_ticketOf) dX8_told_2 kX8_96 mzX8_ticketOf (c_ticketOf hX x h) rfl ⟨_, _, rfl⟩ rfl rfl (by decide) (xs8 (Nat.le_of_ble_eq_true rfl)) (by first | exact Nat.le_of_ble_eq_true rfl | omega) (by first | exact Nat.le_of_ble_eq_true rfl | omega) ?_
  rintro _ _ ⟨rfl, rfl⟩
  refine E_astore_n dX8_told_5 rfl (by decide) rfl ?_
  refine E_aload_n dX8_told_6 rfl rfl ?_
  refine E_ifnonnull (tgt := 12) dX8_told_7 (by decide) (fun q7 h7 => ?_) (fun h7 => ?_)
  · refine E_iload_n dX8_told_12 rfl rfl ?_
    refine E_tabIn (tgt := 60) (off := 47) dX8_told_13 (by decide) (by decide) rfl (by decide) ?_
    refine E_aload_n dX8_told_60 rfl rfl ?_
    refine E_getR dX8_told_61 fX8_108 rfl rfl rfl htp ?_
    refine E_getI dX8_told_64 fX8_259 rfl rfl rfl rfl ?_
    refine E_iret dX8_told_67 rfl rfl ?_
    exact ⟨rfl, rfl⟩
  · cases h7
theorem c_told_1 {S : xS} (hX : xShX S) (x : Int32) {t : Nat} (h : xtl S x = some (7, t)) : CC mX8_told 3 0 0 [xR (some (8, 0)), xI x, xI 1] S (aI ((gI S 7 t 2)) S) := by
  refine CC_of mpX8_told rfl (Nat.le_of_ble_eq_true rfl) ?_
  refine E_aload_n dX8_told_0 rfl rfl ?_
  refine E_iload_n dX8_told_1 rfl rfl ?_
  refine E_callV (m2 := mX8_ticketOf) dX8_told_2 kX8_96 mzX8_ticketOf (c_ticketOf hX x h) rfl ⟨_, _, rfl⟩ rfl rfl (by decide) (xs8 (Nat.le_of_ble_eq_true rfl)) (by first | exact Nat.le_of_ble_eq_true rfl | omega) (by first | exact Nat.le_of_ble_eq_true rfl | omega) ?_
  rintro _ _ ⟨rfl, rfl⟩
  refine E_astore_n dX8_told_5 rfl (by decide) rfl ?_
  refine E_aload_n dX8_told_6 rfl rfl ?_
  refine E_ifnonnull (tgt := 12) dX8_told_7 (by decide) (fun q7 h7 => ?_) (fun h7 => ?_)
  · refine E_iload_n dX8_told_12 rfl rfl ?_
    refine E_tabIn (tgt := 68) (off := 55) dX8_told_13 (by decide) (by decide) rfl (by decide) ?_
    refine E_aload_n dX8_told_68 rfl rfl ?_
    refine E_getI dX8_told_69 fX8_262 rfl rfl rfl rfl ?_
    refine E_iret dX8_told_72 rfl rfl ?_
    exact ⟨rfl, rfl⟩
  · cases h7
theorem c_told_2 {S : xS} (hX : xShX S) (x : Int32) {t : Nat} (h : xtl S x = some (7, t)) : CC mX8_told 3 0 0 [xR (some (8, 0)), xI x, xI 2] S (aI ((gI S 7 t 7)) S) := by
  refine CC_of mpX8_told rfl (Nat.le_of_ble_eq_true rfl) ?_
  refine E_aload_n dX8_told_0 rfl rfl ?_
  refine E_iload_n dX8_told_1 rfl rfl ?_
  refine E_callV (m2 := mX8_ticketOf) dX8_told_2 kX8_96 mzX8_ticketOf (c_ticketOf hX x h) rfl ⟨_, _, rfl⟩ rfl rfl (by decide) (xs8 (Nat.le_of_ble_eq_true rfl)) (by first | exact Nat.le_of_ble_eq_true rfl | omega) (by first | exact Nat.le_of_ble_eq_true rfl | omega) ?_
  rintro _ _ ⟨rfl, rfl⟩
  refine E_astore_n dX8_told_5 rfl (by decide) rfl ?_
  refine E_aload_n dX8_told_6 rfl rfl ?_
  refine E_ifnonnull (tgt := 12) dX8_told_7 (by decide) (fun q7 h7 => ?_) (fun h7 => ?_)
  · refine E_iload_n dX8_told_12 rfl rfl ?_
    refine E_tabIn (tgt := 73) (off := 60) dX8_told_13 (by decide) (by decide) rfl (by decide) ?_
    refine E_aload_n dX8_told_73 rfl rfl ?_
    refine E_getI dX8_told_74 fX8_265 rfl rfl rfl rfl ?_
    refine E_iret dX8_told_77 rfl rfl ?_
    exact ⟨rfl, rfl⟩
  · cases h7
theorem c_told_3 {S : xS} (hX : xShX S) (x : Int32) {t : Nat} (h : xtl S x = some (7, t)) : CC mX8_told 3 0 0 [xR (some (8, 0)), xI x, xI 3] S (aI (if (gI S 7 t 6) = 0 then 0 else 1) S) := by
  refine CC_of mpX8_told rfl (Nat.le_of_ble_eq_true rfl) ?_
  refine E_aload_n dX8_told_0 rfl rfl ?_
  refine E_iload_n dX8_told_1 rfl rfl ?_
  refine E_callV (m2 := mX8_ticketOf) dX8_told_2 kX8_96 mzX8_ticketOf (c_ticketOf hX x h) rfl ⟨_, _, rfl⟩ rfl rfl (by decide) (xs8 (Nat.le_of_ble_eq_true rfl)) (by first | exact Nat.le_of_ble_eq_true rfl | omega) (by first | exact Nat.le_of_ble_eq_true rfl | omega) ?_
  rintro _ _ ⟨rfl, rfl⟩
  refine E_astore_n dX8_told_5 rfl (by decide) rfl ?_
  refine E_aload_n dX8_told_6 rfl rfl ?_
  refine E_ifnonnull (tgt := 12) dX8_told_7 (by decide) (fun q7 h7 => ?_) (fun h7 => ?_)
  · refine E_iload_n dX8_told_12 rfl rfl ?_
    refine E_tabIn (tgt := 78) (off := 65) dX8_told_13 (by decide) (by decide) rfl (by decide) ?_
    refine E_aload_n dX8_told_78 rfl rfl ?_
    refine E_getI dX8_told_79 fX8_116 rfl rfl rfl rfl ?_
    refine E_if_eq (tgt := 89) dX8_told_82 (by decide) (fun h82 => ?_) (fun h82 => ?_)
    · refine E_iconst (v := 0) dX8_told_89 (by decide) ?_
      refine E_iret dX8_told_90 rfl rfl ?_
      refine ⟨congrArg (fun z => some (xI z)) ?_, rfl⟩; split <;> first | rfl | contradiction
    · refine E_iconst (v := 1) dX8_told_85 (by decide) ?_
      refine E_goto (tgt := 90) dX8_told_86 (by decide) ?_
      refine E_iret dX8_told_90 rfl rfl ?_
      refine ⟨congrArg (fun z => some (xI z)) ?_, rfl⟩; split <;> first | rfl | contradiction
  · cases h7
theorem c_told_4 {S : xS} (hX : xShX S) (x : Int32) {t : Nat} (h : xtl S x = some (7, t)) : CC mX8_told 3 0 0 [xR (some (8, 0)), xI x, xI 4] S (aI ((gI S 7 t 11)) S) := by
  refine CC_of mpX8_told rfl (Nat.le_of_ble_eq_true rfl) ?_
  refine E_aload_n dX8_told_0 rfl rfl ?_
  refine E_iload_n dX8_told_1 rfl rfl ?_
  refine E_callV (m2 := mX8_ticketOf) dX8_told_2 kX8_96 mzX8_ticketOf (c_ticketOf hX x h) rfl ⟨_, _, rfl⟩ rfl rfl (by decide) (xs8 (Nat.le_of_ble_eq_true rfl)) (by first | exact Nat.le_of_ble_eq_true rfl | omega) (by first | exact Nat.le_of_ble_eq_true rfl | omega) ?_
  rintro _ _ ⟨rfl, rfl⟩
  refine E_astore_n dX8_told_5 rfl (by decide) rfl ?_
  refine E_aload_n dX8_told_6 rfl rfl ?_
  refine E_ifnonnull (tgt := 12) dX8_told_7 (by decide) (fun q7 h7 => ?_) (fun h7 => ?_)
  · refine E_iload_n dX8_told_12 rfl rfl ?_
    refine E_tabIn (tgt := 91) (off := 78) dX8_told_13 (by decide) (by decide) rfl (by decide) ?_
    refine E_aload_n dX8_told_91 rfl rfl ?_
    refine E_getI dX8_told_92 fX8_143 rfl rfl rfl rfl ?_
    refine E_iret dX8_told_95 rfl rfl ?_
    exact ⟨rfl, rfl⟩
  · cases h7
theorem c_told_5 {S : xS} (hX : xShX S) (x : Int32) {t : Nat} (h : xtl S x = some (7, t)) : CC mX8_told 3 0 0 [xR (some (8, 0)), xI x, xI 5] S (aI ((gI S 7 t 10)) S) := by
  refine CC_of mpX8_told rfl (Nat.le_of_ble_eq_true rfl) ?_
  refine E_aload_n dX8_told_0 rfl rfl ?_
  refine E_iload_n dX8_told_1 rfl rfl ?_
  refine E_callV (m2 := mX8_ticketOf) dX8_told_2 kX8_96 mzX8_ticketOf (c_ticketOf hX x h) rfl ⟨_, _, rfl⟩ rfl rfl (by decide) (xs8 (Nat.le_of_ble_eq_true rfl)) (by first | exact Nat.le_of_ble_eq_true rfl | omega) (by first | exact Nat.le_of_ble_eq_true rfl | omega) ?_
  rintro _ _ ⟨rfl, rfl⟩
  refine E_astore_n dX8_told_5 rfl (by decide) rfl ?_
  refine E_aload_n dX8_told_6 rfl rfl ?_
  refine E_ifnonnull (tgt := 12) dX8_told_7 (by decide) (fun q7 h7 => ?_) (fun h7 => ?_)
  · refine E_iload_n dX8_told_12 rfl rfl ?_
    refine E_tabIn (tgt := 96) (off := 83) dX8_told_13 (by decide) (by decide) rfl (by decide) ?_
    refine E_aload_n dX8_told_96 rfl rfl ?_
    refine E_getI dX8_told_97 fX8_268 rfl rfl rfl rfl ?_
    refine E_iret dX8_told_100 rfl rfl ?_
    exact ⟨rfl, rfl⟩
  · cases h7
theorem c_told_6 {S : xS} (hX : xShX S) (x : Int32) {t : Nat} (h : xtl S x = some (7, t)) : CC mX8_told 3 0 0 [xR (some (8, 0)), xI x, xI 6] S (aI ((gI S 7 t 9)) S) := by
  refine CC_of mpX8_told rfl (Nat.le_of_ble_eq_true rfl) ?_
  refine E_aload_n dX8_told_0 rfl rfl ?_
  refine E_iload_n dX8_told_1 rfl rfl ?_
  refine E_callV (m2 := mX8_ticketOf) dX8_told_2 kX8_96 mzX8_ticketOf (c_ticketOf hX x h) rfl ⟨_, _, rfl⟩ rfl rfl (by decide) (xs8 (Nat.le_of_ble_eq_true rfl)) (by first | exact Nat.le_of_ble_eq_true rfl | omega) (by first | exact Nat.le_of_ble_eq_true rfl | omega) ?_
  rintro _ _ ⟨rfl, rfl⟩
  refine E_astore_n dX8_told_5 rfl (by decide) rfl ?_
  refine E_aload_n dX8_told_6 rfl rfl ?_
  refine E_ifnonnull (tgt := 12) dX8_told_7 (by decide) (fun q7 h7 => ?_) (fun h7 => ?_)
  · refine E_iload_n dX8_told_12 rfl rfl ?_
    refine E_tabIn (tgt := 101) (off := 88) dX8_told_13 (by decide) (by decide) rfl (by decide) ?_
    refine E_aload_n dX8_told_101 rfl rfl ?_
    refine E_getI dX8_told_102 fX8_271 rfl rfl rfl rfl ?_
    refine E_iret dX8_told_105 rfl rfl ?_
    exact ⟨rfl, rfl⟩
  · cases h7
theorem c_told_7 {S : xS} (hX : xShX S) (x : Int32) {t : Nat} (h : xtl S x = some (7, t)) : CC mX8_told 3 0 0 [xR (some (8, 0)), xI x, xI 7] S (aI (xml S t (gI S 8 0 5)) S) := by
  refine CC_of mpX8_told rfl (Nat.le_of_ble_eq_true rfl) ?_
  refine E_aload_n dX8_told_0 rfl rfl ?_
  refine E_iload_n dX8_told_1 rfl rfl ?_
  refine E_callV (m2 := mX8_ticketOf) dX8_told_2 kX8_96 mzX8_ticketOf (c_ticketOf hX x h) rfl ⟨_, _, rfl⟩ rfl rfl (by decide) (xs8 (Nat.le_of_ble_eq_true rfl)) (by first | exact Nat.le_of_ble_eq_true rfl | omega) (by first | exact Nat.le_of_ble_eq_true rfl | omega) ?_
  rintro _ _ ⟨rfl, rfl⟩
  refine E_astore_n dX8_told_5 rfl (by decide) rfl ?_
  refine E_aload_n dX8_told_6 rfl rfl ?_
  refine E_ifnonnull (tgt := 12) dX8_told_7 (by decide) (fun q7 h7 => ?_) (fun h7 => ?_)
  · refine E_iload_n dX8_told_12 rfl rfl ?_
    refine E_tabIn (tgt := 106) (off := 93) dX8_told_13 (by decide) (by decide) rfl (by decide) ?_
    refine E_aload_n dX8_told_106 rfl rfl ?_
    refine E_aload_n dX8_told_107 rfl rfl ?_
    refine E_getI dX8_told_108 fX8_45 rfl rfl rfl rfl ?_
    refine E_callV (m2 := mX7_minutesLeft) dX8_told_111 kX8_274 mzX7_minutesLeft (c_X7_minutesLeft t _) rfl ⟨_, _, rfl⟩ rfl rfl (by decide) (xs8 (Nat.le_of_ble_eq_true rfl)) (by first | exact Nat.le_of_ble_eq_true rfl | omega) (by first | exact Nat.le_of_ble_eq_true rfl | omega) ?_
    rintro _ _ ⟨rfl, rfl⟩
    refine E_iret dX8_told_114 rfl rfl ?_
    exact ⟨rfl, rfl⟩
  · cases h7
theorem c_pump_n {S : xS} (hX : xShX S) (p x y : Int32) (h : xpl S p = none) : CC mX8_pump 3 0 0 [xR (some (8, 0)), xI p, xI x, xI y] S (aI 0 S) := by
  refine CC_of mpX8_pump rfl (Nat.le_of_ble_eq_true rfl) ?_
  refine E_aload_n dX8_pump_0 rfl rfl ?_
  refine E_iload_n dX8_pump_1 rfl rfl ?_
  refine E_callV (m2 := mX8_poolOf) dX8_pump_2 kX8_58 mzX8_poolOf (c_poolOf hX p h) rfl ⟨_, _, rfl⟩ rfl rfl (by decide) (xs8 (Nat.le_of_ble_eq_true rfl)) (by first | exact Nat.le_of_ble_eq_true rfl | omega) (by first | exact Nat.le_of_ble_eq_true rfl | omega) ?_
  rintro _ _ ⟨rfl, rfl⟩
  refine E_astore dX8_pump_5 (by decide) rfl ?_
  refine E_aload dX8_pump_7 rfl ?_
  refine E_ifnull (tgt := 33) dX8_pump_9 (by decide) (fun h9 => ?_) (fun q9 h9 => absurd h9 (by intro z; cases z))
  refine E_iconst (v := 0) dX8_pump_33 (by decide) ?_
  refine E_iret dX8_pump_34 rfl rfl ?_
  exact ⟨rfl, rfl⟩
theorem c_pump_s {S : xS} (hX : xShX S) (p x y : Int32) {P : Nat} (h : xpl S p = some (3, P)) : CC mX8_pump 3 0 0 [xR (some (8, 0)), xI p, xI x, xI y] S (aI (if (1 ≤ x ∧ x ≤ 100000) ∧ 1 ≤ y ∧ y ≤ 10000 then 1 else 0) (if (1 ≤ x ∧ x ≤ 100000) ∧ 1 ≤ y ∧ y ≤ 10000 then (sI (sI S 3 P 10 x) 3 P 11 y) else S)) := by
  refine CC_of mpX8_pump rfl (Nat.le_of_ble_eq_true rfl) ?_
  refine E_aload_n dX8_pump_0 rfl rfl ?_
  refine E_iload_n dX8_pump_1 rfl rfl ?_
  refine E_callV (m2 := mX8_poolOf) dX8_pump_2 kX8_58 mzX8_poolOf (c_poolOf hX p h) rfl ⟨_, _, rfl⟩ rfl rfl (by decide) (xs8 (Nat.le_of_ble_eq_true rfl)) (by first | exact Nat.le_of_ble_eq_true rfl | omega) (by first | exact Nat.le_of_ble_eq_true rfl | omega) ?_
  rintro _ _ ⟨rfl, rfl⟩
  refine E_astore dX8_pump_5 (by decide) rfl ?_
  refine E_aload dX8_pump_7 rfl ?_
  refine E_ifnull (tgt := 33) dX8_pump_9 (by decide) (fun h9 => ?_) (fun q9 h9 => ?_)
  · cases h9
  · refine E_iload_n dX8_pump_12 rfl rfl ?_
    refine E_iconst (v := 1) dX8_pump_13 (by decide) ?_
    refine E_ldc dX8_pump_14 oX8_187 ?_
    refine E_callS (m2 := mX8_isWithin) dX8_pump_16 kX8_48 mzX8_isWithin (c_X8_isWithin _ _ _) rfl rfl (by decide) (xs8 (Nat.le_of_ble_eq_true rfl)) (by first | exact Nat.le_of_ble_eq_true rfl | omega) (by first | exact Nat.le_of_ble_eq_true rfl | omega) ?_
    rintro _ _ ⟨rfl, rfl⟩
    refine E_if_eq (tgt := 33) dX8_pump_19 (by decide) (fun h19 => ?_) (fun h19 => ?_)
    · rw [if_neg (fun z => ite0 h19 z.1), if_neg (fun z => ite0 h19 z.1)]
      refine E_iconst (v := 0) dX8_pump_33 (by decide) ?_
      refine E_iret dX8_pump_34 rfl rfl ?_
      exact ⟨rfl, rfl⟩
    · refine E_iload_n dX8_pump_22 rfl rfl ?_
      refine E_iconst (v := 1) dX8_pump_23 (by decide) ?_
      refine E_sipush (v := 10000) dX8_pump_24 (by decide) ?_
      refine E_callS (m2 := mX8_isWithin) dX8_pump_27 kX8_48 mzX8_isWithin (c_X8_isWithin _ _ _) rfl rfl (by decide) (xs8 (Nat.le_of_ble_eq_true rfl)) (by first | exact Nat.le_of_ble_eq_true rfl | omega) (by first | exact Nat.le_of_ble_eq_true rfl | omega) ?_
      rintro _ _ ⟨rfl, rfl⟩
      refine E_if_ne (tgt := 35) dX8_pump_30 (by decide) (fun h30 => ?_) (fun h30 => ?_)
      · rw [if_pos ⟨ite1 h19, ite1 h30⟩, if_pos ⟨ite1 h19, ite1 h30⟩]
        refine E_aload dX8_pump_35 rfl ?_
        refine E_iload_n dX8_pump_37 rfl rfl ?_
        refine E_putI dX8_pump_38 fX8_277 rfl rfl rfl rfl rfl ?_
        refine E_aload dX8_pump_41 rfl ?_
        refine E_iload_n dX8_pump_43 rfl rfl ?_
        refine E_putI dX8_pump_44 fX8_280 rfl rfl rfl rfl rfl ?_
        refine E_iconst (v := 1) dX8_pump_47 (by decide) ?_
        refine E_iret dX8_pump_48 rfl rfl ?_
        exact ⟨rfl, rfl⟩
      · rw [if_neg (fun z => ite0 h30 z.2), if_neg (fun z => ite0 h30 z.2)]
        refine E_iconst (v := 0) dX8_pump_33 (by decide) ?_
        refine E_iret dX8_pump_34 rfl rfl ?_
        exact ⟨rfl, rfl⟩
theorem c_price_n {S : xS} (x y : Int32) (h : ¬ ((0 ≤ x ∧ x ≤ 23) ∧ 0 ≤ y ∧ y ≤ 10000)) : CC mX8_price 3 0 0 [xR (some (8, 0)), xI x, xI y] S (aI 0 S) := by
  refine CC_of mpX8_price rfl (Nat.le_of_ble_eq_true rfl) ?_
  refine E_iload_n dX8_price_0 rfl rfl ?_
  refine E_iconst (v := 0) dX8_price_1 (by decide) ?_
  refine E_bipush (v := 23) dX8_price_2 (by decide) ?_
  refine E_callS (m2 := mX8_isWithin) dX8_price_4 kX8_48 mzX8_isWithin (c_X8_isWithin _ _ _) rfl rfl (by decide) (xs8 (Nat.le_of_ble_eq_true rfl)) (by first | exact Nat.le_of_ble_eq_true rfl | omega) (by first | exact Nat.le_of_ble_eq_true rfl | omega) ?_
  rintro _ _ ⟨rfl, rfl⟩
  refine E_if_eq (tgt := 21) dX8_price_7 (by decide) (fun h7 => ?_) (fun h7 => ?_)
  · refine E_iconst (v := 0) dX8_price_21 (by decide) ?_
    refine E_iret dX8_price_22 rfl rfl ?_
    exact ⟨rfl, rfl⟩
  · refine E_iload_n dX8_price_10 rfl rfl ?_
    refine E_iconst (v := 0) dX8_price_11 (by decide) ?_
    refine E_sipush (v := 10000) dX8_price_12 (by decide) ?_
    refine E_callS (m2 := mX8_isWithin) dX8_price_15 kX8_48 mzX8_isWithin (c_X8_isWithin _ _ _) rfl rfl (by decide) (xs8 (Nat.le_of_ble_eq_true rfl)) (by first | exact Nat.le_of_ble_eq_true rfl | omega) (by first | exact Nat.le_of_ble_eq_true rfl | omega) ?_
    rintro _ _ ⟨rfl, rfl⟩
    refine E_if_ne (tgt := 23) dX8_price_18 (by decide) (fun h18 => ?_) (fun h18 => ?_)
    · exact absurd ⟨ite1 h7, ite1 h18⟩ h
    · refine E_iconst (v := 0) dX8_price_21 (by decide) ?_
      refine E_iret dX8_price_22 rfl rfl ?_
      exact ⟨rfl, rfl⟩
theorem c_price_s {S : xS} (hX : xShX S) {j : Nat} (y : Int32) (hj : j < 24) (e2 : 0 ≤ y ∧ y ≤ 10000) : CC mX8_price 3 0 0 [xR (some (8, 0)), xI (nI j), xI y] S (aI 1 (sI S 15 0 j y)) := by
  refine CC_of mpX8_price rfl (Nat.le_of_ble_eq_true rfl) ?_
  have e1 : (0 : Int32) ≤ nI j ∧ nI j ≤ 23 := ⟨nI_le (a := 0) (by omega) (by omega), nI_le (b := 23) (by omega) (by omega)⟩
  refine E_iload_n dX8_price_0 rfl rfl ?_
  refine E_iconst (v := 0) dX8_price_1 (by decide) ?_
  refine E_bipush (v := 23) dX8_price_2 (by decide) ?_
  refine E_callS (m2 := mX8_isWithin) dX8_price_4 kX8_48 mzX8_isWithin (c_X8_isWithin _ _ _) rfl rfl (by decide) (xs8 (Nat.le_of_ble_eq_true rfl)) (by first | exact Nat.le_of_ble_eq_true rfl | omega) (by first | exact Nat.le_of_ble_eq_true rfl | omega) ?_
  rintro _ _ ⟨rfl, rfl⟩; rw [if_pos e1]
  refine E_if_eq (tgt := 21) dX8_price_7 (by decide) (fun h7 => absurd h7 (by decide)) (fun h7 => ?_)
  refine E_iload_n dX8_price_10 rfl rfl ?_
  refine E_iconst (v := 0) dX8_price_11 (by decide) ?_
  refine E_sipush (v := 10000) dX8_price_12 (by decide) ?_
  refine E_callS (m2 := mX8_isWithin) dX8_price_15 kX8_48 mzX8_isWithin (c_X8_isWithin _ _ _) rfl rfl (by decide) (xs8 (Nat.le_of_ble_eq_true rfl)) (by first | exact Nat.le_of_ble_eq_true rfl | omega) (by first | exact Nat.le_of_ble_eq_true rfl | omega) ?_
  rintro _ _ ⟨rfl, rfl⟩; rw [if_pos e2]
  refine E_if_ne (tgt := 23) dX8_price_18 (by decide) (fun h18 => ?_) (fun h18 => absurd h18 (by decide))
  refine E_aload_n dX8_price_23 rfl rfl ?_
  refine E_getR dX8_price_24 fX8_37 rfl rfl rfl (rX_8_4 hX) ?_
  refine E_getR dX8_price_27 fX8_283 rfl rfl rfl (rX_5_0 hX) ?_
  refine E_iload_n dX8_price_30 rfl rfl ?_
  refine E_iload_n dX8_price_31 rfl rfl ?_
  refine E_iast dX8_price_32 rfl rfl (by decide) (lX_15 hX) (vin hj (by omega)) (vnat hj (by omega)) ?_
  refine E_iconst (v := 1) dX8_price_33 (by decide) ?_
  refine E_iret dX8_price_34 rfl rfl ?_
  exact ⟨rfl, rfl⟩
theorem c_turn_n {S : xS} (hX : xShX S) (p x : Int32) (h : xpl S p = none) : CC mX8_turn 3 0 0 [xR (some (8, 0)), xI p, xI x] S (aI (-1) S) := by
  refine CC_of mpX8_turn rfl (Nat.le_of_ble_eq_true rfl) ?_
  refine E_aload_n dX8_turn_0 rfl rfl ?_
  refine E_iload_n dX8_turn_1 rfl rfl ?_
  refine E_callV (m2 := mX8_poolOf) dX8_turn_2 kX8_58 mzX8_poolOf (c_poolOf hX p h) rfl ⟨_, _, rfl⟩ rfl rfl (by decide) (xs8 (Nat.le_of_ble_eq_true rfl)) (by first | exact Nat.le_of_ble_eq_true rfl | omega) (by first | exact Nat.le_of_ble_eq_true rfl | omega) ?_
  rintro _ _ ⟨rfl, rfl⟩
  refine E_astore_n dX8_turn_5 rfl (by decide) rfl ?_
  refine E_aload_n dX8_turn_6 rfl rfl ?_
  refine E_ifnull (tgt := 29) dX8_turn_7 (by decide) (fun h7 => ?_) (fun q7 h7 => absurd h7 (by intro z; cases z))
  refine E_iconst (v := -1) dX8_turn_29 (by decide) ?_
  refine E_iret dX8_turn_30 rfl rfl ?_
  exact ⟨rfl, rfl⟩
theorem c_turn_o {S : xS} (hX : xShX S) (p x : Int32) {P : Nat} (h : xpl S p = some (3, P)) (hn : ¬ (1 ≤ (gI S 3 P 11) ∧ 0 ≤ x ∧ x ≤ 1000)) : CC mX8_turn 3 0 0 [xR (some (8, 0)), xI p, xI x] S (aI (-1) S) := by
  refine CC_of mpX8_turn rfl (Nat.le_of_ble_eq_true rfl) ?_
  refine E_aload_n dX8_turn_0 rfl rfl ?_
  refine E_iload_n dX8_turn_1 rfl rfl ?_
  refine E_callV (m2 := mX8_poolOf) dX8_turn_2 kX8_58 mzX8_poolOf (c_poolOf hX p h) rfl ⟨_, _, rfl⟩ rfl rfl (by decide) (xs8 (Nat.le_of_ble_eq_true rfl)) (by first | exact Nat.le_of_ble_eq_true rfl | omega) (by first | exact Nat.le_of_ble_eq_true rfl | omega) ?_
  rintro _ _ ⟨rfl, rfl⟩
  refine E_astore_n dX8_turn_5 rfl (by decide) rfl ?_
  refine E_aload_n dX8_turn_6 rfl rfl ?_
  refine E_ifnull (tgt := 29) dX8_turn_7 (by decide) (fun h7 => ?_) (fun q7 h7 => ?_)
  · cases h7
  · refine E_aload_n dX8_turn_10 rfl rfl ?_
    refine E_getI dX8_turn_11 fX8_280 rfl rfl rfl rfl ?_
    refine E_iconst (v := 1) dX8_turn_14 (by decide) ?_
    refine E_icmp_lt (tgt := 29) dX8_turn_15 (by decide) (fun h15 => ?_) (fun h15 => ?_)
    · refine E_iconst (v := -1) dX8_turn_29 (by decide) ?_
      refine E_iret dX8_turn_30 rfl rfl ?_
      exact ⟨rfl, rfl⟩
    · refine E_iload_n dX8_turn_18 rfl rfl ?_
      refine E_iconst (v := 0) dX8_turn_19 (by decide) ?_
      refine E_sipush (v := 1000) dX8_turn_20 (by decide) ?_
      refine E_callS (m2 := mX8_isWithin) dX8_turn_23 kX8_48 mzX8_isWithin (c_X8_isWithin _ _ _) rfl rfl (by decide) (xs8 (Nat.le_of_ble_eq_true rfl)) (by first | exact Nat.le_of_ble_eq_true rfl | omega) (by first | exact Nat.le_of_ble_eq_true rfl | omega) ?_
      rintro _ _ ⟨rfl, rfl⟩
      refine E_if_ne (tgt := 31) dX8_turn_26 (by decide) (fun h26 => ?_) (fun h26 => ?_)
      · exact absurd ⟨Int32.not_lt.mp h15, ite1 h26⟩ hn
      · refine E_iconst (v := -1) dX8_turn_29 (by decide) ?_
        refine E_iret dX8_turn_30 rfl rfl ?_
        exact ⟨rfl, rfl⟩
/-- the hours that a turn needs -/
def xhn (S : xS) (P : Nat) (x : Int32) : Int32 := if (gI S 3 P 11) * 100 < 1 then 25 else ((gI S 3 P 10) * (100 + x) + (gI S 3 P 11) * 100 - 1) / ((gI S 3 P 11) * 100)
theorem c_turn_m {S : xS} (hX : xShX S) (p x : Int32) {P : Nat} (h : xpl S p = some (3, P)) (hn : 1 ≤ (gI S 3 P 11) ∧ 0 ≤ x ∧ x ≤ 1000) (hm : 24 < xhn S P x) : CC mX8_turn 3 0 0 [xR (some (8, 0)), xI p, xI x] S (aI 25 S) := by
  refine CC_of mpX8_turn rfl (Nat.le_of_ble_eq_true rfl) ?_
  refine E_aload_n dX8_turn_0 rfl rfl ?_
  refine E_iload_n dX8_turn_1 rfl rfl ?_
  refine E_callV (m2 := mX8_poolOf) dX8_turn_2 kX8_58 mzX8_poolOf (c_poolOf hX p h) rfl ⟨_, _, rfl⟩ rfl rfl (by decide) (xs8 (Nat.le_of_ble_eq_true rfl)) (by first | exact Nat.le_of_ble_eq_true rfl | omega) (by first | exact Nat.le_of_ble_eq_true rfl | omega) ?_
  rintro _ _ ⟨rfl, rfl⟩
  refine E_astore_n dX8_turn_5 rfl (by decide) rfl ?_
  refine E_aload_n dX8_turn_6 rfl rfl ?_
  refine E_ifnull (tgt := 29) dX8_turn_7 (by decide) (fun h7 => ?_) (fun q7 h7 => ?_)
  · cases h7
  · refine E_aload_n dX8_turn_10 rfl rfl ?_
    refine E_getI dX8_turn_11 fX8_280 rfl rfl rfl rfl ?_
    refine E_iconst (v := 1) dX8_turn_14 (by decide) ?_
    refine E_icmp_lt (tgt := 29) dX8_turn_15 (by decide) (fun h15 => absurd h15 (Int32.not_lt.mpr hn.1)) (fun h15 => ?_)
    refine E_iload_n dX8_turn_18 rfl rfl ?_
    refine E_iconst (v := 0) dX8_turn_19 (by decide) ?_
    refine E_sipush (v := 1000) dX8_turn_20 (by decide) ?_
    refine E_callS (m2 := mX8_isWithin) dX8_turn_23 kX8_48 mzX8_isWithin (c_X8_isWithin _ _ _) rfl rfl (by decide) (xs8 (Nat.le_of_ble_eq_true rfl)) (by first | exact Nat.le_of_ble_eq_true rfl | omega) (by first | exact Nat.le_of_ble_eq_true rfl | omega) ?_
    rintro _ _ ⟨rfl, rfl⟩; rw [if_pos hn.2]
    refine E_if_ne (tgt := 31) dX8_turn_26 (by decide) (fun h26 => ?_) (fun h26 => absurd h26 (by decide))
    refine E_aload_n dX8_turn_31 rfl rfl ?_
    refine E_getI dX8_turn_32 fX8_277 rfl rfl rfl rfl ?_
    refine E_aload_n dX8_turn_35 rfl rfl ?_
    refine E_getI dX8_turn_36 fX8_280 rfl rfl rfl rfl ?_
    refine E_iload_n dX8_turn_39 rfl rfl ?_
    refine E_callS (m2 := mX8_hoursNeeded) dX8_turn_40 kX8_286 mzX8_hoursNeeded (c_hoursNeeded _ _ _) rfl rfl (by decide) (xs8 (Nat.le_of_ble_eq_true rfl)) (by first | exact Nat.le_of_ble_eq_true rfl | omega) (by first | exact Nat.le_of_ble_eq_true rfl | omega) ?_
    rintro _ _ ⟨rfl, rfl⟩
    refine E_istore dX8_turn_43 (by decide) rfl ?_
    refine E_iload dX8_turn_45 rfl ?_
    refine E_bipush (v := 24) dX8_turn_47 (by decide) ?_
    refine E_icmp_le (tgt := 55) dX8_turn_49 (by decide) (fun h49 => absurd h49 (Int32.not_le.mpr hm)) (fun h49 => ?_)
    refine E_bipush (v := 25) dX8_turn_52 (by decide) ?_
    refine E_iret dX8_turn_54 rfl rfl ?_
    exact ⟨rfl, rfl⟩
theorem c_turn_s {S : xS} (hX : xShX S) (p x : Int32) {P m : Nat} (h : xpl S p = some (3, P)) (hn : 1 ≤ (gI S 3 P 11) ∧ 0 ≤ x ∧ x ≤ 1000) (hm : xhn S P x = nI m) (hm2 : m ≤ 24) : CC mX8_turn 3 0 0 [xR (some (8, 0)), xI p, xI x] S (aI (nI m) (xtc S m)) := by
  refine CC_of mpX8_turn rfl (Nat.le_of_ble_eq_true rfl) ?_
  refine E_aload_n dX8_turn_0 rfl rfl ?_
  refine E_iload_n dX8_turn_1 rfl rfl ?_
  refine E_callV (m2 := mX8_poolOf) dX8_turn_2 kX8_58 mzX8_poolOf (c_poolOf hX p h) rfl ⟨_, _, rfl⟩ rfl rfl (by decide) (xs8 (Nat.le_of_ble_eq_true rfl)) (by first | exact Nat.le_of_ble_eq_true rfl | omega) (by first | exact Nat.le_of_ble_eq_true rfl | omega) ?_
  rintro _ _ ⟨rfl, rfl⟩
  refine E_astore_n dX8_turn_5 rfl (by decide) rfl ?_
  refine E_aload_n dX8_turn_6 rfl rfl ?_
  refine E_ifnull (tgt := 29) dX8_turn_7 (by decide) (fun h7 => ?_) (fun q7 h7 => ?_)
  · cases h7
  · refine E_aload_n dX8_turn_10 rfl rfl ?_
    refine E_getI dX8_turn_11 fX8_280 rfl rfl rfl rfl ?_
    refine E_iconst (v := 1) dX8_turn_14 (by decide) ?_
    refine E_icmp_lt (tgt := 29) dX8_turn_15 (by decide) (fun h15 => absurd h15 (Int32.not_lt.mpr hn.1)) (fun h15 => ?_)
    refine E_iload_n dX8_turn_18 rfl rfl ?_
    refine E_iconst (v := 0) dX8_turn_19 (by decide) ?_
    refine E_sipush (v := 1000) dX8_turn_20 (by decide) ?_
    refine E_callS (m2 := mX8_isWithin) dX8_turn_23 kX8_48 mzX8_isWithin (c_X8_isWithin _ _ _) rfl rfl (by decide) (xs8 (Nat.le_of_ble_eq_true rfl)) (by first | exact Nat.le_of_ble_eq_true rfl | omega) (by first | exact Nat.le_of_ble_eq_true rfl | omega) ?_
    rintro _ _ ⟨rfl, rfl⟩; rw [if_pos hn.2]
    refine E_if_ne (tgt := 31) dX8_turn_26 (by decide) (fun h26 => ?_) (fun h26 => absurd h26 (by decide))
    refine E_aload_n dX8_turn_31 rfl rfl ?_
    refine E_getI dX8_turn_32 fX8_277 rfl rfl rfl rfl ?_
    refine E_aload_n dX8_turn_35 rfl rfl ?_
    refine E_getI dX8_turn_36 fX8_280 rfl rfl rfl rfl ?_
    refine E_iload_n dX8_turn_39 rfl rfl ?_
    refine E_callS (m2 := mX8_hoursNeeded) dX8_turn_40 kX8_286 mzX8_hoursNeeded (c_hoursNeeded _ _ _) rfl rfl (by decide) (xs8 (Nat.le_of_ble_eq_true rfl)) (by first | exact Nat.le_of_ble_eq_true rfl | omega) (by first | exact Nat.le_of_ble_eq_true rfl | omega) ?_
    rintro _ _ ⟨rfl, rfl⟩; rw [show (if (gI S 3 P 11) * 100 < 1 then (25 : Int32) else _) = nI m from hm]
    refine E_istore dX8_turn_43 (by decide) rfl ?_
    refine E_iload dX8_turn_45 rfl ?_
    refine E_bipush (v := 24) dX8_turn_47 (by decide) ?_
    refine E_icmp_le (tgt := 55) dX8_turn_49 (by decide) (fun h49 => ?_) (fun h49 => absurd h49 (fun z => z (nI_le (b := 24) hm2 (by omega))))
    refine E_aload_n dX8_turn_55 rfl rfl ?_
    refine E_getR dX8_turn_56 fX8_37 rfl rfl rfl (rX_8_4 hX) ?_
    refine E_iload dX8_turn_59 rfl ?_
    refine E_callV (m2 := mX5_takeCheapest) dX8_turn_61 kX8_290 mzX5_takeCheapest (c_X5_takeCheapest hX m (by omega)) rfl ⟨_, _, rfl⟩ rfl rfl (by decide) (xs8 (Nat.le_of_ble_eq_true rfl)) (by first | exact Nat.le_of_ble_eq_true rfl | omega) (by first | exact Nat.le_of_ble_eq_true rfl | omega) ?_
    rintro _ _ ⟨rfl, rfl⟩
    refine E_iload dX8_turn_64 rfl ?_
    refine E_iret dX8_turn_66 rfl rfl ?_
    exact ⟨rfl, rfl⟩
theorem c_hour_n {S : xS} (hX : xShX S) (x : Int32) (h : ¬ (¬ (gI S 5 0 2) = 0 ∧ 0 ≤ x ∧ x ≤ 24)) : CC mX8_hour 3 0 0 [xR (some (8, 0)), xI x] S (aI (-1) S) := by
  refine CC_of mpX8_hour rfl (Nat.le_of_ble_eq_true rfl) ?_
  refine E_aload_n dX8_hour_0 rfl rfl ?_
  refine E_getR dX8_hour_1 fX8_37 rfl rfl rfl (rX_8_4 hX) ?_
  refine E_getI dX8_hour_4 fX8_293 rfl rfl rfl rfl ?_
  refine E_if_eq (tgt := 20) dX8_hour_7 (by decide) (fun h7 => ?_) (fun h7 => ?_)
  · refine E_iconst (v := -1) dX8_hour_20 (by decide) ?_
    refine E_iret dX8_hour_21 rfl rfl ?_
    exact ⟨rfl, rfl⟩
  · refine E_iload_n dX8_hour_10 rfl rfl ?_
    refine E_iconst (v := 0) dX8_hour_11 (by decide) ?_
    refine E_bipush (v := 24) dX8_hour_12 (by decide) ?_
    refine E_callS (m2 := mX8_isWithin) dX8_hour_14 kX8_48 mzX8_isWithin (c_X8_isWithin _ _ _) rfl rfl (by decide) (xs8 (Nat.le_of_ble_eq_true rfl)) (by first | exact Nat.le_of_ble_eq_true rfl | omega) (by first | exact Nat.le_of_ble_eq_true rfl | omega) ?_
    rintro _ _ ⟨rfl, rfl⟩
    refine E_if_ne (tgt := 22) dX8_hour_17 (by decide) (fun h17 => ?_) (fun h17 => ?_)
    · exact absurd ⟨h7, ite1 h17⟩ h
    · refine E_iconst (v := -1) dX8_hour_20 (by decide) ?_
      refine E_iret dX8_hour_21 rfl rfl ?_
      exact ⟨rfl, rfl⟩
theorem c_hour_a {S : xS} (hX : xShX S) (h : ¬ (gI S 5 0 2) = 0) : CC mX8_hour 3 0 0 [xR (some (8, 0)), xI 24] S (aI (gI S 5 0 3) S) := by
  refine CC_of mpX8_hour rfl (Nat.le_of_ble_eq_true rfl) ?_
  refine E_aload_n dX8_hour_0 rfl rfl ?_
  refine E_getR dX8_hour_1 fX8_37 rfl rfl rfl (rX_8_4 hX) ?_
  refine E_getI dX8_hour_4 fX8_293 rfl rfl rfl rfl ?_
  refine E_if_eq (tgt := 20) dX8_hour_7 (by decide) (fun h7 => absurd h7 (h)) (fun h7 => ?_)
  refine E_iload_n dX8_hour_10 rfl rfl ?_
  refine E_iconst (v := 0) dX8_hour_11 (by decide) ?_
  refine E_bipush (v := 24) dX8_hour_12 (by decide) ?_
  refine E_callS (m2 := mX8_isWithin) dX8_hour_14 kX8_48 mzX8_isWithin (c_X8_isWithin _ _ _) rfl rfl (by decide) (xs8 (Nat.le_of_ble_eq_true rfl)) (by first | exact Nat.le_of_ble_eq_true rfl | omega) (by first | exact Nat.le_of_ble_eq_true rfl | omega) ?_
  rintro _ _ ⟨rfl, rfl⟩; rw [if_pos (by decide : (0 : Int32) ≤ 24 ∧ (24 : Int32) ≤ 24)]
  refine E_if_ne (tgt := 22) dX8_hour_17 (by decide) (fun h17 => ?_) (fun h17 => absurd h17 (by decide))
  refine E_iload_n dX8_hour_22 rfl rfl ?_
  refine E_bipush (v := 24) dX8_hour_23 (by decide) ?_
  refine E_icmp_ne (tgt := 36) dX8_hour_25 (by decide) (fun h25 => absurd h25 (fun z => z rfl)) (fun h25 => ?_)
  refine E_aload_n dX8_hour_28 rfl rfl ?_
  refine E_getR dX8_hour_29 fX8_37 rfl rfl rfl (rX_8_4 hX) ?_
  refine E_getI dX8_hour_32 fX8_296 rfl rfl rfl rfl ?_
  refine E_iret dX8_hour_35 rfl rfl ?_
  exact ⟨rfl, rfl⟩
theorem c_hour_s {S : xS} (hX : xShX S) {j : Nat} (hj : j < 24) (h : ¬ (gI S 5 0 2) = 0) : CC mX8_hour 3 0 0 [xR (some (8, 0)), xI (nI j)] S (aI (if (gI S 16 0 j) = 0 then 0 else 1) S) := by
  refine CC_of mpX8_hour rfl (Nat.le_of_ble_eq_true rfl) ?_
  have e1 : (0 : Int32) ≤ nI j ∧ nI j ≤ 24 := ⟨nI_le (a := 0) (by omega) (by omega), nI_le (b := 24) (by omega) (by omega)⟩
  have e2 : ¬ nI j = 24 := fun z => by have := (nI_eq (b := 24) (by omega) (by omega)).mp z; omega
  refine E_aload_n dX8_hour_0 rfl rfl ?_
  refine E_getR dX8_hour_1 fX8_37 rfl rfl rfl (rX_8_4 hX) ?_
  refine E_getI dX8_hour_4 fX8_293 rfl rfl rfl rfl ?_
  refine E_if_eq (tgt := 20) dX8_hour_7 (by decide) (fun h7 => absurd h7 (h)) (fun h7 => ?_)
  refine E_iload_n dX8_hour_10 rfl rfl ?_
  refine E_iconst (v := 0) dX8_hour_11 (by decide) ?_
  refine E_bipush (v := 24) dX8_hour_12 (by decide) ?_
  refine E_callS (m2 := mX8_isWithin) dX8_hour_14 kX8_48 mzX8_isWithin (c_X8_isWithin _ _ _) rfl rfl (by decide) (xs8 (Nat.le_of_ble_eq_true rfl)) (by first | exact Nat.le_of_ble_eq_true rfl | omega) (by first | exact Nat.le_of_ble_eq_true rfl | omega) ?_
  rintro _ _ ⟨rfl, rfl⟩; rw [if_pos e1]
  refine E_if_ne (tgt := 22) dX8_hour_17 (by decide) (fun h17 => ?_) (fun h17 => absurd h17 (by decide))
  refine E_iload_n dX8_hour_22 rfl rfl ?_
  refine E_bipush (v := 24) dX8_hour_23 (by decide) ?_
  refine E_icmp_ne (tgt := 36) dX8_hour_25 (by decide) (fun h25 => ?_) (fun h25 => absurd h25 (e2))
  refine E_aload_n dX8_hour_36 rfl rfl ?_
  refine E_getR dX8_hour_37 fX8_37 rfl rfl rfl (rX_8_4 hX) ?_
  refine E_getR dX8_hour_40 fX8_299 rfl rfl rfl (rX_5_1 hX) ?_
  refine E_iload_n dX8_hour_43 rfl rfl ?_
  refine E_zald dX8_hour_44 rfl rfl (by decide) (lX_16 hX) (vin hj (by omega)) (vnat hj (by omega)) rfl ?_
  refine E_if_eq (tgt := 52) dX8_hour_45 (by decide) (fun h45 => ?_) (fun h45 => ?_)
  · refine E_iconst (v := 0) dX8_hour_52 (by decide) ?_
    refine E_iret dX8_hour_53 rfl rfl ?_
    refine ⟨congrArg (fun z => some (xI z)) ?_, rfl⟩; split <;> first | rfl | contradiction
  · refine E_iconst (v := 1) dX8_hour_48 (by decide) ?_
    refine E_goto (tgt := 53) dX8_hour_49 (by decide) ?_
    refine E_iret dX8_hour_53 rfl rfl ?_
    refine ⟨congrArg (fun z => some (xI z)) ?_, rfl⟩; split <;> first | rfl | contradiction
theorem c_all_o {S : xS} (x : Int32) (hx : x.toInt < 0 ∨ 6 < x.toInt) : CC mX8_all 3 0 0 [xR (some (8, 0)), xI x] S (aI (-1) S) := by
  refine CC_of mpX8_all rfl (Nat.le_of_ble_eq_true rfl) ?_
  refine E_iload_n dX8_all_0 rfl rfl ?_
  refine E_tabOut (tgt := 85) dX8_all_1 hx (by decide) ?_
  refine E_iconst (v := -1) dX8_all_85 (by decide) ?_
  refine E_iret dX8_all_86 rfl rfl ?_
  exact ⟨rfl, rfl⟩
theorem c_all_0 {S : xS} (hX : xShX S) : CC mX8_all 3 0 0 [xR (some (8, 0)), xI 0] S (aI ((gI S 8 0 5)) S) := by
  refine CC_of mpX8_all rfl (Nat.le_of_ble_eq_true rfl) ?_
  refine E_iload_n dX8_all_0 rfl rfl ?_
  refine E_tabIn (tgt := 44) (off := 43) dX8_all_1 (by decide) (by decide) rfl (by decide) ?_
  refine E_aload_n dX8_all_44 rfl rfl ?_
  refine E_getI dX8_all_45 fX8_45 rfl rfl rfl rfl ?_
  refine E_iret dX8_all_48 rfl rfl ?_
  exact ⟨rfl, rfl⟩
theorem c_all_1 {S : xS} (hX : xShX S) : CC mX8_all 3 0 0 [xR (some (8, 0)), xI 1] S (aI ((gI S 8 0 6)) S) := by
  refine CC_of mpX8_all rfl (Nat.le_of_ble_eq_true rfl) ?_
  refine E_iload_n dX8_all_0 rfl rfl ?_
  refine E_tabIn (tgt := 49) (off := 48) dX8_all_1 (by decide) (by decide) rfl (by decide) ?_
  refine E_aload_n dX8_all_49 rfl rfl ?_
  refine E_getI dX8_all_50 fX8_62 rfl rfl rfl rfl ?_
  refine E_iret dX8_all_53 rfl rfl ?_
  exact ⟨rfl, rfl⟩
theorem c_all_2 {S : xS} (hX : xShX S) : CC mX8_all 3 0 0 [xR (some (8, 0)), xI 2] S (aI ((gI S 8 0 7)) S) := by
  refine CC_of mpX8_all rfl (Nat.le_of_ble_eq_true rfl) ?_
  refine E_iload_n dX8_all_0 rfl rfl ?_
  refine E_tabIn (tgt := 54) (off := 53) dX8_all_1 (by decide) (by decide) rfl (by decide) ?_
  refine E_aload_n dX8_all_54 rfl rfl ?_
  refine E_getI dX8_all_55 fX8_80 rfl rfl rfl rfl ?_
  refine E_iret dX8_all_58 rfl rfl ?_
  exact ⟨rfl, rfl⟩
theorem c_all_3 {S : xS} (hX : xShX S) : CC mX8_all 3 0 0 [xR (some (8, 0)), xI 3] S (aI (xsm (fun l => if (gI S 14 0 l) = 0 then 0 else 1) 30) S) := by
  refine CC_of mpX8_all rfl (Nat.le_of_ble_eq_true rfl) ?_
  refine E_iload_n dX8_all_0 rfl rfl ?_
  refine E_tabIn (tgt := 59) (off := 58) dX8_all_1 (by decide) (by decide) rfl (by decide) ?_
  refine E_aload_n dX8_all_59 rfl rfl ?_
  refine E_getR dX8_all_60 fX8_30 rfl rfl rfl (rX_8_3 hX) ?_
  refine E_callV (m2 := mX2_lostOnes) dX8_all_63 kX8_302 mzX2_lostOnes (c_X2_lostOnes hX) rfl ⟨_, _, rfl⟩ rfl rfl (by decide) (xs8 (Nat.le_of_ble_eq_true rfl)) (by first | exact Nat.le_of_ble_eq_true rfl | omega) (by first | exact Nat.le_of_ble_eq_true rfl | omega) ?_
  rintro _ _ ⟨rfl, rfl⟩
  refine E_iret dX8_all_66 rfl rfl ?_
  exact ⟨rfl, rfl⟩
theorem c_all_4 {S : xS} (hX : xShX S) : CC mX8_all 3 0 0 [xR (some (8, 0)), xI 4] S (aI ((gI S 8 0 9)) S) := by
  refine CC_of mpX8_all rfl (Nat.le_of_ble_eq_true rfl) ?_
  refine E_iload_n dX8_all_0 rfl rfl ?_
  refine E_tabIn (tgt := 67) (off := 66) dX8_all_1 (by decide) (by decide) rfl (by decide) ?_
  refine E_aload_n dX8_all_67 rfl rfl ?_
  refine E_getI dX8_all_68 fX8_133 rfl rfl rfl rfl ?_
  refine E_iret dX8_all_71 rfl rfl ?_
  exact ⟨rfl, rfl⟩
theorem c_all_5 {S : xS} (hX : xShX S) (hq : ∀ p, p < 4 → ∀ q, gR S 10 0 p = some q → q.1 = 3) : CC mX8_all 3 0 0 [xR (some (8, 0)), xI 5] S (aI (xsm (xin S) 4) S) := by
  refine CC_of mpX8_all rfl (Nat.le_of_ble_eq_true rfl) ?_
  refine E_iload_n dX8_all_0 rfl rfl ?_
  refine E_tabIn (tgt := 72) (off := 71) dX8_all_1 (by decide) (by decide) rfl (by decide) ?_
  refine E_aload_n dX8_all_72 rfl rfl ?_
  refine E_callV (m2 := mX8_insideAllPools) dX8_all_73 kX8_305 mzX8_insideAllPools (c_insideAllPools hX hq) rfl ⟨_, _, rfl⟩ rfl rfl (by decide) (xs8 (Nat.le_of_ble_eq_true rfl)) (by first | exact Nat.le_of_ble_eq_true rfl | omega) (by first | exact Nat.le_of_ble_eq_true rfl | omega) ?_
  rintro _ _ ⟨rfl, rfl⟩
  refine E_iret dX8_all_76 rfl rfl ?_
  exact ⟨rfl, rfl⟩
theorem c_all_6 {S : xS} (hX : xShX S) : CC mX8_all 3 0 0 [xR (some (8, 0)), xI 6] S (aI (xsm (fun l => if ¬ (gI S 13 0 l) = -1 ∧ (gI S 14 0 l) = 0 then 1 else 0) 30) S) := by
  refine CC_of mpX8_all rfl (Nat.le_of_ble_eq_true rfl) ?_
  refine E_iload_n dX8_all_0 rfl rfl ?_
  refine E_tabIn (tgt := 77) (off := 76) dX8_all_1 (by decide) (by decide) rfl (by decide) ?_
  refine E_aload_n dX8_all_77 rfl rfl ?_
  refine E_getR dX8_all_78 fX8_30 rfl rfl rfl (rX_8_3 hX) ?_
  refine E_callV (m2 := mX2_keysOut) dX8_all_81 kX8_308 mzX2_keysOut (c_X2_keysOut hX) rfl ⟨_, _, rfl⟩ rfl rfl (by decide) (xs8 (Nat.le_of_ble_eq_true rfl)) (by first | exact Nat.le_of_ble_eq_true rfl | omega) (by first | exact Nat.le_of_ble_eq_true rfl | omega) ?_
  rintro _ _ ⟨rfl, rfl⟩
  refine E_iret dX8_all_84 rfl rfl ?_
  exact ⟨rfl, rfl⟩
