/-! the reference: club, may, in, out -/
def xrcond (S : xS) (P : Nat) (l f t u : Int32) : Prop := (1 ≤ l ∧ l ≤ (1 <<< ((gI S 53 0 P) &&& 31)) - 1) ∧ (0 ≤ f ∧ f ≤ 1439) ∧ f < t ∧ t ≤ 1440 ∧ 0 ≤ u ∧ u ≤ 30
def xrkp (S : xS) (p l f t : Int32) (c : Nat) : Prop := (gI S 87 0 c) = p ∧ ¬ (gI S 88 0 c) &&& l = 0 ∧ (if f ≤ (gI S 89 0 c) then (gI S 89 0 c) else f) < (if (gI S 90 0 c) ≤ t then (gI S 90 0 c) else t)
def xrnc (S : xS) (C P : Nat) (l f t u : Int32) : xS := (sI (sI (sI (sI (sI (sI S 87 0 C (nI P)) 88 0 C l) 89 0 C f) 90 0 C t) 91 0 C u) 9 0 35 ((gI S 9 0 35) + 1))
theorem c_r_club_f {S : xS} (p l f t u : Int32) (h : (gI S 9 0 35) = 20) : CC mX9_club 3 0 0 [xR (some (9, 0)), xI p, xI l, xI f, xI t, xI u] S (aI (-1) S) := by
  refine CC_of mpX9_club rfl (Nat.le_of_ble_eq_true rfl) ?_
  refine E_aload_n dX9_club_0 rfl rfl ?_
  refine E_getI dX9_club_1 fX9_172 rfl rfl rfl rfl ?_
  refine E_bipush (v := 20) dX9_club_4 (by decide) ?_
  refine E_icmp_eq (tgt := 83) dX9_club_6 (by decide) (fun h6 => ?_) (fun h6 => absurd h6 (fun z => z h))
  refine E_iconst (v := -1) dX9_club_83 (by decide) ?_
  refine E_iret dX9_club_84 rfl rfl ?_
  exact ⟨rfl, rfl⟩
theorem c_r_club_p {S : xS} (hM : xShM S) (p l f t u : Int32) (h : ¬ xhas S p) : CC mX9_club 3 0 0 [xR (some (9, 0)), xI p, xI l, xI f, xI t, xI u] S (aI (-1) S) := by
  refine CC_of mpX9_club rfl (Nat.le_of_ble_eq_true rfl) ?_
  refine E_aload_n dX9_club_0 rfl rfl ?_
  refine E_getI dX9_club_1 fX9_172 rfl rfl rfl rfl ?_
  refine E_bipush (v := 20) dX9_club_4 (by decide) ?_
  refine E_icmp_eq (tgt := 83) dX9_club_6 (by decide) (fun h6 => ?_) (fun h6 => ?_)
  · refine E_iconst (v := -1) dX9_club_83 (by decide) ?_
    refine E_iret dX9_club_84 rfl rfl ?_
    exact ⟨rfl, rfl⟩
  · refine E_aload_n dX9_club_9 rfl rfl ?_
    refine E_iload_n dX9_club_10 rfl rfl ?_
    refine E_callV (m2 := mX9_has) dX9_club_11 kX9_165 mzX9_has (c_has_n hM p h) rfl ⟨_, _, rfl⟩ rfl rfl (by decide) (xs8 (Nat.le_of_ble_eq_true rfl)) (by first | exact Nat.le_of_ble_eq_true rfl | omega) (by first | exact Nat.le_of_ble_eq_true rfl | omega) ?_
    rintro _ _ ⟨rfl, rfl⟩
    refine E_if_eq (tgt := 83) dX9_club_14 (by decide) (fun h14 => ?_) (fun h14 => absurd h14 (by decide))
    refine E_iconst (v := -1) dX9_club_83 (by decide) ?_
    refine E_iret dX9_club_84 rfl rfl ?_
    exact ⟨rfl, rfl⟩
theorem c_r_club_n {S : xS} (hM : xShM S) {P : Nat} (hP : P < 4) (h : ¬ (gI S 51 0 P) = 0) (l f t u : Int32) (hn : ¬ xrcond S P l f t u) : CC mX9_club 3 0 0 [xR (some (9, 0)), xI (nI P), xI l, xI f, xI t, xI u] S (aI (-1) S) := by
  refine CC_of mpX9_club rfl (Nat.le_of_ble_eq_true rfl) ?_
  refine E_aload_n dX9_club_0 rfl rfl ?_
  refine E_getI dX9_club_1 fX9_172 rfl rfl rfl rfl ?_
  refine E_bipush (v := 20) dX9_club_4 (by decide) ?_
  refine E_icmp_eq (tgt := 83) dX9_club_6 (by decide) (fun h6 => ?_) (fun h6 => ?_)
  · refine E_iconst (v := -1) dX9_club_83 (by decide) ?_
    refine E_iret dX9_club_84 rfl rfl ?_
    exact ⟨rfl, rfl⟩
  · refine E_aload_n dX9_club_9 rfl rfl ?_
    refine E_iload_n dX9_club_10 rfl rfl ?_
    refine E_callV (m2 := mX9_has) dX9_club_11 kX9_165 mzX9_has (c_has_y hM hP h) rfl ⟨_, _, rfl⟩ rfl rfl (by decide) (xs8 (Nat.le_of_ble_eq_true rfl)) (by first | exact Nat.le_of_ble_eq_true rfl | omega) (by first | exact Nat.le_of_ble_eq_true rfl | omega) ?_
    rintro _ _ ⟨rfl, rfl⟩
    refine E_if_eq (tgt := 83) dX9_club_14 (by decide) (fun h14 => absurd h14 (by decide)) (fun h14 => ?_)
    refine E_iload_n dX9_club_17 rfl rfl ?_
    refine E_iconst (v := 1) dX9_club_18 (by decide) ?_
    refine E_iconst (v := 1) dX9_club_19 (by decide) ?_
    refine E_aload_n dX9_club_20 rfl rfl ?_
    refine E_getR dX9_club_21 fX9_17 rfl rfl rfl (rM_3 hM) ?_
    refine E_aload_n dX9_club_24 rfl rfl ?_
    refine E_iload_n dX9_club_25 rfl rfl ?_
    refine E_callV (m2 := mX9_has) dX9_club_26 kX9_165 mzX9_has (c_has_y hM hP h) rfl ⟨_, _, rfl⟩ rfl rfl (by decide) (xs8 (Nat.le_of_ble_eq_true rfl)) (by first | exact Nat.le_of_ble_eq_true rfl | omega) (by first | exact Nat.le_of_ble_eq_true rfl | omega) ?_
    rintro _ _ ⟨rfl, rfl⟩
    refine E_if_eq (tgt := 36) dX9_club_29 (by decide) (fun h29 => absurd h29 (by decide)) (fun h29 => ?_)
    refine E_iload_n dX9_club_32 rfl rfl ?_
    refine E_goto (tgt := 37) dX9_club_33 (by decide) ?_
    refine E_iald dX9_club_37 rfl rfl (by decide) (lM_3 hM) (vin hP (by omega)) (vnat hP (by omega)) rfl ?_
    refine E_ishl dX9_club_38 ?_
    refine E_iconst (v := 1) dX9_club_39 (by decide) ?_
    refine E_isub dX9_club_40 ?_
    refine E_callS (m2 := mX9_in) dX9_club_41 kX9_141 mzX9_in (c_X9_in _ _ _) rfl rfl (by decide) (xs8 (Nat.le_of_ble_eq_true rfl)) (by first | exact Nat.le_of_ble_eq_true rfl | omega) (by first | exact Nat.le_of_ble_eq_true rfl | omega) ?_
    rintro _ _ ⟨rfl, rfl⟩
    refine E_if_eq (tgt := 83) dX9_club_44 (by decide) (fun h44 => ?_) (fun h44 => ?_)
    · refine E_iconst (v := -1) dX9_club_83 (by decide) ?_
      refine E_iret dX9_club_84 rfl rfl ?_
      exact ⟨rfl, rfl⟩
    · refine E_iload_n dX9_club_47 rfl rfl ?_
      refine E_iconst (v := 0) dX9_club_48 (by decide) ?_
      refine E_sipush (v := 1439) dX9_club_49 (by decide) ?_
      refine E_callS (m2 := mX9_in) dX9_club_52 kX9_141 mzX9_in (c_X9_in _ _ _) rfl rfl (by decide) (xs8 (Nat.le_of_ble_eq_true rfl)) (by first | exact Nat.le_of_ble_eq_true rfl | omega) (by first | exact Nat.le_of_ble_eq_true rfl | omega) ?_
      rintro _ _ ⟨rfl, rfl⟩
      refine E_if_eq (tgt := 83) dX9_club_55 (by decide) (fun h55 => ?_) (fun h55 => ?_)
      · refine E_iconst (v := -1) dX9_club_83 (by decide) ?_
        refine E_iret dX9_club_84 rfl rfl ?_
        exact ⟨rfl, rfl⟩
      · refine E_iload dX9_club_58 rfl ?_
        refine E_iload_n dX9_club_60 rfl rfl ?_
        refine E_icmp_le (tgt := 83) dX9_club_61 (by decide) (fun h61 => ?_) (fun h61 => ?_)
        · refine E_iconst (v := -1) dX9_club_83 (by decide) ?_
          refine E_iret dX9_club_84 rfl rfl ?_
          exact ⟨rfl, rfl⟩
        · refine E_iload dX9_club_64 rfl ?_
          refine E_sipush (v := 1440) dX9_club_66 (by decide) ?_
          refine E_icmp_gt (tgt := 83) dX9_club_69 (by decide) (fun h69 => ?_) (fun h69 => ?_)
          · refine E_iconst (v := -1) dX9_club_83 (by decide) ?_
            refine E_iret dX9_club_84 rfl rfl ?_
            exact ⟨rfl, rfl⟩
          · refine E_iload dX9_club_72 rfl ?_
            refine E_iconst (v := 0) dX9_club_74 (by decide) ?_
            refine E_bipush (v := 30) dX9_club_75 (by decide) ?_
            refine E_callS (m2 := mX9_in) dX9_club_77 kX9_141 mzX9_in (c_X9_in _ _ _) rfl rfl (by decide) (xs8 (Nat.le_of_ble_eq_true rfl)) (by first | exact Nat.le_of_ble_eq_true rfl | omega) (by first | exact Nat.le_of_ble_eq_true rfl | omega) ?_
            rintro _ _ ⟨rfl, rfl⟩
            refine E_if_ne (tgt := 85) dX9_club_80 (by decide) (fun h80 => ?_) (fun h80 => ?_)
            · exact absurd ⟨ite1 h44, ite1 h55, Int32.not_le.mp h61, Int32.not_lt.mp h69, ite1 h80⟩ hn
            · refine E_iconst (v := -1) dX9_club_83 (by decide) ?_
              refine E_iret dX9_club_84 rfl rfl ?_
              exact ⟨rfl, rfl⟩
theorem l_r_club_c {S : xS} (hM : xShM S) {P C : Nat} (hC : (gI S 9 0 35) = nI C) (hC2 : C < 20) (l f t u : Int32) {c0 : Nat} (hc0 : c0 < C) (hy : xrkp S (nI P) l f t c0) (hn : ∀ c, c < c0 → ¬ xrkp S (nI P) l f t c) : ∀ (n i : Nat), i + n = c0 → ∀ o7 o8, Ex mX9_club 3 0 0 (0, fun _ => 0) (aI (-1) (sI S 9 0 36 (nI c0))) 88 [some (xR (some (9, 0))), some (xI (nI P)), some (xI l), some (xI f), some (xI t), some (xI u), some (xI (nI i)), o7, o8] [] S
  | 0, i, hi, o7, o8 => by
    have hi : i = c0 := by omega
    subst hi
    obtain ⟨hx1, hx2, hx⟩ := hy
    refine E_iload dX9_club_88 rfl ?_
    refine E_aload_n dX9_club_90 rfl rfl ?_
    refine E_getI dX9_club_91 fX9_172 rfl rfl rfl hC ?_
    refine E_icmp_ge (tgt := 194) dX9_club_94 (by decide) (fun h94 => absurd h94 ((nI_ge (a := i) (b := C) (by omega) (by omega)))) (fun h94 => ?_)
    refine E_iload_n dX9_club_97 rfl rfl ?_
    refine E_aload_n dX9_club_98 rfl rfl ?_
    refine E_getR dX9_club_99 fX9_120 rfl rfl rfl (rM_39 hM) ?_
    refine E_iload dX9_club_102 rfl ?_
    refine E_iald dX9_club_104 rfl rfl (by decide) (lM_39 hM) (vin (by omega : i < 20) (by omega)) (vnat (by omega : i < 20) (by omega)) rfl ?_
    refine E_icmp_le (tgt := 112) dX9_club_105 (by decide) (fun h105 => ?_) (fun h105 => ?_)
    · rw [if_pos h105] at hx
      refine E_aload_n dX9_club_112 rfl rfl ?_
      refine E_getR dX9_club_113 fX9_120 rfl rfl rfl (rM_39 hM) ?_
      refine E_iload dX9_club_116 rfl ?_
      refine E_iald dX9_club_118 rfl rfl (by decide) (lM_39 hM) (vin (by omega : i < 20) (by omega)) (vnat (by omega : i < 20) (by omega)) rfl ?_
      refine E_istore dX9_club_119 (by decide) rfl ?_
      refine E_iload dX9_club_121 rfl ?_
      refine E_aload_n dX9_club_123 rfl rfl ?_
      refine E_getR dX9_club_124 fX9_123 rfl rfl rfl (rM_40 hM) ?_
      refine E_iload dX9_club_127 rfl ?_
      refine E_iald dX9_club_129 rfl rfl (by decide) (lM_40 hM) (vin (by omega : i < 20) (by omega)) (vnat (by omega : i < 20) (by omega)) rfl ?_
      refine E_icmp_ge (tgt := 138) dX9_club_130 (by decide) (fun h130 => ?_) (fun h130 => ?_)
      · rw [if_pos h130] at hx
        refine E_aload_n dX9_club_138 rfl rfl ?_
        refine E_getR dX9_club_139 fX9_123 rfl rfl rfl (rM_40 hM) ?_
        refine E_iload dX9_club_142 rfl ?_
        refine E_iald dX9_club_144 rfl rfl (by decide) (lM_40 hM) (vin (by omega : i < 20) (by omega)) (vnat (by omega : i < 20) (by omega)) rfl ?_
        refine E_istore dX9_club_145 (by decide) rfl ?_
        refine E_aload_n dX9_club_147 rfl rfl ?_
        refine E_getR dX9_club_148 fX9_114 rfl rfl rfl (rM_37 hM) ?_
        refine E_iload dX9_club_151 rfl ?_
        refine E_iald dX9_club_153 rfl rfl (by decide) (lM_37 hM) (vin (by omega : i < 20) (by omega)) (vnat (by omega : i < 20) (by omega)) rfl ?_
        refine E_iload_n dX9_club_154 rfl rfl ?_
        refine E_icmp_ne (tgt := 188) dX9_club_155 (by decide) (fun h155 => absurd h155 (fun z => z hx1)) (fun h155 => ?_)
        refine E_aload_n dX9_club_158 rfl rfl ?_
        refine E_getR dX9_club_159 fX9_117 rfl rfl rfl (rM_38 hM) ?_
        refine E_iload dX9_club_162 rfl ?_
        refine E_iald dX9_club_164 rfl rfl (by decide) (lM_38 hM) (vin (by omega : i < 20) (by omega)) (vnat (by omega : i < 20) (by omega)) rfl ?_
        refine E_iload_n dX9_club_165 rfl rfl ?_
        refine E_iand dX9_club_166 ?_
        refine E_if_eq (tgt := 188) dX9_club_167 (by decide) (fun h167 => absurd h167 (hx2)) (fun h167 => ?_)
        refine E_iload dX9_club_170 rfl ?_
        refine E_iload dX9_club_172 rfl ?_
        refine E_icmp_lt (tgt := 180) dX9_club_174 (by decide) (fun h174 => ?_) (fun h174 => absurd h174 (fun z => z hx))
        refine E_aload_n dX9_club_180 rfl rfl ?_
        refine E_iload dX9_club_181 rfl ?_
        refine E_putI dX9_club_183 fX9_110 rfl rfl rfl rfl rfl ?_
        refine E_iconst (v := -1) dX9_club_186 (by decide) ?_
        refine E_iret dX9_club_187 rfl rfl ?_
        exact ⟨rfl, rfl⟩
      · rw [if_neg h130] at hx
        refine E_iload dX9_club_133 rfl ?_
        refine E_goto (tgt := 145) dX9_club_135 (by decide) ?_
        refine E_istore dX9_club_145 (by decide) rfl ?_
        refine E_aload_n dX9_club_147 rfl rfl ?_
        refine E_getR dX9_club_148 fX9_114 rfl rfl rfl (rM_37 hM) ?_
        refine E_iload dX9_club_151 rfl ?_
        refine E_iald dX9_club_153 rfl rfl (by decide) (lM_37 hM) (vin (by omega : i < 20) (by omega)) (vnat (by omega : i < 20) (by omega)) rfl ?_
        refine E_iload_n dX9_club_154 rfl rfl ?_
        refine E_icmp_ne (tgt := 188) dX9_club_155 (by decide) (fun h155 => absurd h155 (fun z => z hx1)) (fun h155 => ?_)
        refine E_aload_n dX9_club_158 rfl rfl ?_
        refine E_getR dX9_club_159 fX9_117 rfl rfl rfl (rM_38 hM) ?_
        refine E_iload dX9_club_162 rfl ?_
        refine E_iald dX9_club_164 rfl rfl (by decide) (lM_38 hM) (vin (by omega : i < 20) (by omega)) (vnat (by omega : i < 20) (by omega)) rfl ?_
        refine E_iload_n dX9_club_165 rfl rfl ?_
        refine E_iand dX9_club_166 ?_
        refine E_if_eq (tgt := 188) dX9_club_167 (by decide) (fun h167 => absurd h167 (hx2)) (fun h167 => ?_)
        refine E_iload dX9_club_170 rfl ?_
        refine E_iload dX9_club_172 rfl ?_
        refine E_icmp_lt (tgt := 180) dX9_club_174 (by decide) (fun h174 => ?_) (fun h174 => absurd h174 (fun z => z hx))
        refine E_aload_n dX9_club_180 rfl rfl ?_
        refine E_iload dX9_club_181 rfl ?_
        refine E_putI dX9_club_183 fX9_110 rfl rfl rfl rfl rfl ?_
        refine E_iconst (v := -1) dX9_club_186 (by decide) ?_
        refine E_iret dX9_club_187 rfl rfl ?_
        exact ⟨rfl, rfl⟩
    · rw [if_neg h105] at hx
      refine E_iload_n dX9_club_108 rfl rfl ?_
      refine E_goto (tgt := 119) dX9_club_109 (by decide) ?_
      refine E_istore dX9_club_119 (by decide) rfl ?_
      refine E_iload dX9_club_121 rfl ?_
      refine E_aload_n dX9_club_123 rfl rfl ?_
      refine E_getR dX9_club_124 fX9_123 rfl rfl rfl (rM_40 hM) ?_
      refine E_iload dX9_club_127 rfl ?_
      refine E_iald dX9_club_129 rfl rfl (by decide) (lM_40 hM) (vin (by omega : i < 20) (by omega)) (vnat (by omega : i < 20) (by omega)) rfl ?_
      refine E_icmp_ge (tgt := 138) dX9_club_130 (by decide) (fun h130 => ?_) (fun h130 => ?_)
      · rw [if_pos h130] at hx
        refine E_aload_n dX9_club_138 rfl rfl ?_
        refine E_getR dX9_club_139 fX9_123 rfl rfl rfl (rM_40 hM) ?_
        refine E_iload dX9_club_142 rfl ?_
        refine E_iald dX9_club_144 rfl rfl (by decide) (lM_40 hM) (vin (by omega : i < 20) (by omega)) (vnat (by omega : i < 20) (by omega)) rfl ?_
        refine E_istore dX9_club_145 (by decide) rfl ?_
        refine E_aload_n dX9_club_147 rfl rfl ?_
        refine E_getR dX9_club_148 fX9_114 rfl rfl rfl (rM_37 hM) ?_
        refine E_iload dX9_club_151 rfl ?_
        refine E_iald dX9_club_153 rfl rfl (by decide) (lM_37 hM) (vin (by omega : i < 20) (by omega)) (vnat (by omega : i < 20) (by omega)) rfl ?_
        refine E_iload_n dX9_club_154 rfl rfl ?_
        refine E_icmp_ne (tgt := 188) dX9_club_155 (by decide) (fun h155 => absurd h155 (fun z => z hx1)) (fun h155 => ?_)
        refine E_aload_n dX9_club_158 rfl rfl ?_
        refine E_getR dX9_club_159 fX9_117 rfl rfl rfl (rM_38 hM) ?_
        refine E_iload dX9_club_162 rfl ?_
        refine E_iald dX9_club_164 rfl rfl (by decide) (lM_38 hM) (vin (by omega : i < 20) (by omega)) (vnat (by omega : i < 20) (by omega)) rfl ?_
        refine E_iload_n dX9_club_165 rfl rfl ?_
        refine E_iand dX9_club_166 ?_
        refine E_if_eq (tgt := 188) dX9_club_167 (by decide) (fun h167 => absurd h167 (hx2)) (fun h167 => ?_)
        refine E_iload dX9_club_170 rfl ?_
        refine E_iload dX9_club_172 rfl ?_
        refine E_icmp_lt (tgt := 180) dX9_club_174 (by decide) (fun h174 => ?_) (fun h174 => absurd h174 (fun z => z hx))
        refine E_aload_n dX9_club_180 rfl rfl ?_
        refine E_iload dX9_club_181 rfl ?_
        refine E_putI dX9_club_183 fX9_110 rfl rfl rfl rfl rfl ?_
        refine E_iconst (v := -1) dX9_club_186 (by decide) ?_
        refine E_iret dX9_club_187 rfl rfl ?_
        exact ⟨rfl, rfl⟩
      · rw [if_neg h130] at hx
        refine E_iload dX9_club_133 rfl ?_
        refine E_goto (tgt := 145) dX9_club_135 (by decide) ?_
        refine E_istore dX9_club_145 (by decide) rfl ?_
        refine E_aload_n dX9_club_147 rfl rfl ?_
        refine E_getR dX9_club_148 fX9_114 rfl rfl rfl (rM_37 hM) ?_
        refine E_iload dX9_club_151 rfl ?_
        refine E_iald dX9_club_153 rfl rfl (by decide) (lM_37 hM) (vin (by omega : i < 20) (by omega)) (vnat (by omega : i < 20) (by omega)) rfl ?_
        refine E_iload_n dX9_club_154 rfl rfl ?_
        refine E_icmp_ne (tgt := 188) dX9_club_155 (by decide) (fun h155 => absurd h155 (fun z => z hx1)) (fun h155 => ?_)
        refine E_aload_n dX9_club_158 rfl rfl ?_
        refine E_getR dX9_club_159 fX9_117 rfl rfl rfl (rM_38 hM) ?_
        refine E_iload dX9_club_162 rfl ?_
        refine E_iald dX9_club_164 rfl rfl (by decide) (lM_38 hM) (vin (by omega : i < 20) (by omega)) (vnat (by omega : i < 20) (by omega)) rfl ?_
        refine E_iload_n dX9_club_165 rfl rfl ?_
        refine E_iand dX9_club_166 ?_
        refine E_if_eq (tgt := 188) dX9_club_167 (by decide) (fun h167 => absurd h167 (hx2)) (fun h167 => ?_)
        refine E_iload dX9_club_170 rfl ?_
        refine E_iload dX9_club_172 rfl ?_
        refine E_icmp_lt (tgt := 180) dX9_club_174 (by decide) (fun h174 => ?_) (fun h174 => absurd h174 (fun z => z hx))
        refine E_aload_n dX9_club_180 rfl rfl ?_
        refine E_iload dX9_club_181 rfl ?_
        refine E_putI dX9_club_183 fX9_110 rfl rfl rfl rfl rfl ?_
        refine E_iconst (v := -1) dX9_club_186 (by decide) ?_
        refine E_iret dX9_club_187 rfl rfl ?_
        exact ⟨rfl, rfl⟩
  | n + 1, i, hi, o7, o8 => by
    have hx := hn i (by omega)
    unfold xrkp at hx
    refine E_iload dX9_club_88 rfl ?_
    refine E_aload_n dX9_club_90 rfl rfl ?_
    refine E_getI dX9_club_91 fX9_172 rfl rfl rfl hC ?_
    refine E_icmp_ge (tgt := 194) dX9_club_94 (by decide) (fun h94 => absurd h94 ((nI_ge (a := i) (b := C) (by omega) (by omega)))) (fun h94 => ?_)
    refine E_iload_n dX9_club_97 rfl rfl ?_
    refine E_aload_n dX9_club_98 rfl rfl ?_
    refine E_getR dX9_club_99 fX9_120 rfl rfl rfl (rM_39 hM) ?_
    refine E_iload dX9_club_102 rfl ?_
    refine E_iald dX9_club_104 rfl rfl (by decide) (lM_39 hM) (vin (by omega : i < 20) (by omega)) (vnat (by omega : i < 20) (by omega)) rfl ?_
    refine E_icmp_le (tgt := 112) dX9_club_105 (by decide) (fun h105 => ?_) (fun h105 => ?_)
    · rw [if_pos h105] at hx
      refine E_aload_n dX9_club_112 rfl rfl ?_
      refine E_getR dX9_club_113 fX9_120 rfl rfl rfl (rM_39 hM) ?_
      refine E_iload dX9_club_116 rfl ?_
      refine E_iald dX9_club_118 rfl rfl (by decide) (lM_39 hM) (vin (by omega : i < 20) (by omega)) (vnat (by omega : i < 20) (by omega)) rfl ?_
      refine E_istore dX9_club_119 (by decide) rfl ?_
      refine E_iload dX9_club_121 rfl ?_
      refine E_aload_n dX9_club_123 rfl rfl ?_
      refine E_getR dX9_club_124 fX9_123 rfl rfl rfl (rM_40 hM) ?_
      refine E_iload dX9_club_127 rfl ?_
      refine E_iald dX9_club_129 rfl rfl (by decide) (lM_40 hM) (vin (by omega : i < 20) (by omega)) (vnat (by omega : i < 20) (by omega)) rfl ?_
      refine E_icmp_ge (tgt := 138) dX9_club_130 (by decide) (fun h130 => ?_) (fun h130 => ?_)
      · rw [if_pos h130] at hx
        refine E_aload_n dX9_club_138 rfl rfl ?_
        refine E_getR dX9_club_139 fX9_123 rfl rfl rfl (rM_40 hM) ?_
        refine E_iload dX9_club_142 rfl ?_
        refine E_iald dX9_club_144 rfl rfl (by decide) (lM_40 hM) (vin (by omega : i < 20) (by omega)) (vnat (by omega : i < 20) (by omega)) rfl ?_
        refine E_istore dX9_club_145 (by decide) rfl ?_
        refine E_aload_n dX9_club_147 rfl rfl ?_
        refine E_getR dX9_club_148 fX9_114 rfl rfl rfl (rM_37 hM) ?_
        refine E_iload dX9_club_151 rfl ?_
        refine E_iald dX9_club_153 rfl rfl (by decide) (lM_37 hM) (vin (by omega : i < 20) (by omega)) (vnat (by omega : i < 20) (by omega)) rfl ?_
        refine E_iload_n dX9_club_154 rfl rfl ?_
        refine E_icmp_ne (tgt := 188) dX9_club_155 (by decide) (fun h155 => ?_) (fun h155 => ?_)
        · refine E_iinc (v := nI (i + 1)) dX9_club_188 rfl (nI_i1 i) (by decide) rfl ?_
          refine E_goto (tgt := 88) dX9_club_191 (by decide) ?_
          exact l_r_club_c hM hC hC2 l f t u hc0 hy hn n (i + 1) (by omega) _ _
        · refine E_aload_n dX9_club_158 rfl rfl ?_
          refine E_getR dX9_club_159 fX9_117 rfl rfl rfl (rM_38 hM) ?_
          refine E_iload dX9_club_162 rfl ?_
          refine E_iald dX9_club_164 rfl rfl (by decide) (lM_38 hM) (vin (by omega : i < 20) (by omega)) (vnat (by omega : i < 20) (by omega)) rfl ?_
          refine E_iload_n dX9_club_165 rfl rfl ?_
          refine E_iand dX9_club_166 ?_
          refine E_if_eq (tgt := 188) dX9_club_167 (by decide) (fun h167 => ?_) (fun h167 => ?_)
          · refine E_iinc (v := nI (i + 1)) dX9_club_188 rfl (nI_i1 i) (by decide) rfl ?_
            refine E_goto (tgt := 88) dX9_club_191 (by decide) ?_
            exact l_r_club_c hM hC hC2 l f t u hc0 hy hn n (i + 1) (by omega) _ _
          · refine E_iload dX9_club_170 rfl ?_
            refine E_iload dX9_club_172 rfl ?_
            refine E_icmp_lt (tgt := 180) dX9_club_174 (by decide) (fun h174 => ?_) (fun h174 => ?_)
            · exact absurd ⟨h155, h167, h174⟩ hx
            · refine E_goto (tgt := 188) dX9_club_177 (by decide) ?_
              refine E_iinc (v := nI (i + 1)) dX9_club_188 rfl (nI_i1 i) (by decide) rfl ?_
              refine E_goto (tgt := 88) dX9_club_191 (by decide) ?_
              exact l_r_club_c hM hC hC2 l f t u hc0 hy hn n (i + 1) (by omega) _ _
      · rw [if_neg h130] at hx
        refine E_iload dX9_club_133 rfl ?_
        refine E_goto (tgt := 145) dX9_club_135 (by decide) ?_
        refine E_istore dX9_club_145 (by decide) rfl ?_
        refine E_aload_n dX9_club_147 rfl rfl ?_
        refine E_getR dX9_club_148 fX9_114 rfl rfl rfl (rM_37 hM) ?_
        refine E_iload dX9_club_151 rfl ?_
        refine E_iald dX9_club_153 rfl rfl (by decide) (lM_37 hM) (vin (by omega : i < 20) (by omega)) (vnat (by omega : i < 20) (by omega)) rfl ?_
        refine E_iload_n dX9_club_154 rfl rfl ?_
        refine E_icmp_ne (tgt := 188) dX9_club_155 (by decide) (fun h155 => ?_) (fun h155 => ?_)
        · refine E_iinc (v := nI (i + 1)) dX9_club_188 rfl (nI_i1 i) (by decide) rfl ?_
          refine E_goto (tgt := 88) dX9_club_191 (by decide) ?_
          exact l_r_club_c hM hC hC2 l f t u hc0 hy hn n (i + 1) (by omega) _ _
        · refine E_aload_n dX9_club_158 rfl rfl ?_
          refine E_getR dX9_club_159 fX9_117 rfl rfl rfl (rM_38 hM) ?_
          refine E_iload dX9_club_162 rfl ?_
          refine E_iald dX9_club_164 rfl rfl (by decide) (lM_38 hM) (vin (by omega : i < 20) (by omega)) (vnat (by omega : i < 20) (by omega)) rfl ?_
          refine E_iload_n dX9_club_165 rfl rfl ?_
          refine E_iand dX9_club_166 ?_
          refine E_if_eq (tgt := 188) dX9_club_167 (by decide) (fun h167 => ?_) (fun h167 => ?_)
          · refine E_iinc (v := nI (i + 1)) dX9_club_188 rfl (nI_i1 i) (by decide) rfl ?_
            refine E_goto (tgt := 88) dX9_club_191 (by decide) ?_
            exact l_r_club_c hM hC hC2 l f t u hc0 hy hn n (i + 1) (by omega) _ _
          · refine E_iload dX9_club_170 rfl ?_
            refine E_iload dX9_club_172 rfl ?_
            refine E_icmp_lt (tgt := 180) dX9_club_174 (by decide) (fun h174 => ?_) (fun h174 => ?_)
            · exact absurd ⟨h155, h167, h174⟩ hx
            · refine E_goto (tgt := 188) dX9_club_177 (by decide) ?_
              refine E_iinc (v := nI (i + 1)) dX9_club_188 rfl (nI_i1 i) (by decide) rfl ?_
              refine E_goto (tgt := 88) dX9_club_191 (by decide) ?_
              exact l_r_club_c hM hC hC2 l f t u hc0 hy hn n (i + 1) (by omega) _ _
    · rw [if_neg h105] at hx
      refine E_iload_n dX9_club_108 rfl rfl ?_
      refine E_goto (tgt := 119) dX9_club_109 (by decide) ?_
      refine E_istore dX9_club_119 (by decide) rfl ?_
      refine E_iload dX9_club_121 rfl ?_
      refine E_aload_n dX9_club_123 rfl rfl ?_
      refine E_getR dX9_club_124 fX9_123 rfl rfl rfl (rM_40 hM) ?_
      refine E_iload dX9_club_127 rfl ?_
      refine E_iald dX9_club_129 rfl rfl (by decide) (lM_40 hM) (vin (by omega : i < 20) (by omega)) (vnat (by omega : i < 20) (by omega)) rfl ?_
      refine E_icmp_ge (tgt := 138) dX9_club_130 (by decide) (fun h130 => ?_) (fun h130 => ?_)
      · rw [if_pos h130] at hx
        refine E_aload_n dX9_club_138 rfl rfl ?_
        refine E_getR dX9_club_139 fX9_123 rfl rfl rfl (rM_40 hM) ?_
        refine E_iload dX9_club_142 rfl ?_
        refine E_iald dX9_club_144 rfl rfl (by decide) (lM_40 hM) (vin (by omega : i < 20) (by omega)) (vnat (by omega : i < 20) (by omega)) rfl ?_
        refine E_istore dX9_club_145 (by decide) rfl ?_
        refine E_aload_n dX9_club_147 rfl rfl ?_
        refine E_getR dX9_club_148 fX9_114 rfl rfl rfl (rM_37 hM) ?_
        refine E_iload dX9_club_151 rfl ?_
        refine E_iald dX9_club_153 rfl rfl (by decide) (lM_37 hM) (vin (by omega : i < 20) (by omega)) (vnat (by omega : i < 20) (by omega)) rfl ?_
        refine E_iload_n dX9_club_154 rfl rfl ?_
        refine E_icmp_ne (tgt := 188) dX9_club_155 (by decide) (fun h155 => ?_) (fun h155 => ?_)
        · refine E_iinc (v := nI (i + 1)) dX9_club_188 rfl (nI_i1 i) (by decide) rfl ?_
          refine E_goto (tgt := 88) dX9_club_191 (by decide) ?_
          exact l_r_club_c hM hC hC2 l f t u hc0 hy hn n (i + 1) (by omega) _ _
        · refine E_aload_n dX9_club_158 rfl rfl ?_
          refine E_getR dX9_club_159 fX9_117 rfl rfl rfl (rM_38 hM) ?_
          refine E_iload dX9_club_162 rfl ?_
          refine E_iald dX9_club_164 rfl rfl (by decide) (lM_38 hM) (vin (by omega : i < 20) (by omega)) (vnat (by omega : i < 20) (by omega)) rfl ?_
          refine E_iload_n dX9_club_165 rfl rfl ?_
          refine E_iand dX9_club_166 ?_
          refine E_if_eq (tgt := 188) dX9_club_167 (by decide) (fun h167 => ?_) (fun h167 => ?_)
          · refine E_iinc (v := nI (i + 1)) dX9_club_188 rfl (nI_i1 i) (by decide) rfl ?_
            refine E_goto (tgt := 88) dX9_club_191 (by decide) ?_
            exact l_r_club_c hM hC hC2 l f t u hc0 hy hn n (i + 1) (by omega) _ _
          · refine E_iload dX9_club_170 rfl ?_
            refine E_iload dX9_club_172 rfl ?_
            refine E_icmp_lt (tgt := 180) dX9_club_174 (by decide) (fun h174 => ?_) (fun h174 => ?_)
            · exact absurd ⟨h155, h167, h174⟩ hx
            · refine E_goto (tgt := 188) dX9_club_177 (by decide) ?_
              refine E_iinc (v := nI (i + 1)) dX9_club_188 rfl (nI_i1 i) (by decide) rfl ?_
              refine E_goto (tgt := 88) dX9_club_191 (by decide) ?_
              exact l_r_club_c hM hC hC2 l f t u hc0 hy hn n (i + 1) (by omega) _ _
      · rw [if_neg h130] at hx
        refine E_iload dX9_club_133 rfl ?_
        refine E_goto (tgt := 145) dX9_club_135 (by decide) ?_
        refine E_istore dX9_club_145 (by decide) rfl ?_
        refine E_aload_n dX9_club_147 rfl rfl ?_
        refine E_getR dX9_club_148 fX9_114 rfl rfl rfl (rM_37 hM) ?_
        refine E_iload dX9_club_151 rfl ?_
        refine E_iald dX9_club_153 rfl rfl (by decide) (lM_37 hM) (vin (by omega : i < 20) (by omega)) (vnat (by omega : i < 20) (by omega)) rfl ?_
        refine E_iload_n dX9_club_154 rfl rfl ?_
        refine E_icmp_ne (tgt := 188) dX9_club_155 (by decide) (fun h155 => ?_) (fun h155 => ?_)
        · refine E_iinc (v := nI (i + 1)) dX9_club_188 rfl (nI_i1 i) (by decide) rfl ?_
          refine E_goto (tgt := 88) dX9_club_191 (by decide) ?_
          exact l_r_club_c hM hC hC2 l f t u hc0 hy hn n (i + 1) (by omega) _ _
        · refine E_aload_n dX9_club_158 rfl rfl ?_
          refine E_getR dX9_club_159 fX9_117 rfl rfl rfl (rM_38 hM) ?_
          refine E_iload dX9_club_162 rfl ?_
          refine E_iald dX9_club_164 rfl rfl (by decide) (lM_38 hM) (vin (by omega : i < 20) (by omega)) (vnat (by omega : i < 20) (by omega)) rfl ?_
          refine E_iload_n dX9_club_165 rfl rfl ?_
          refine E_iand dX9_club_166 ?_
          refine E_if_eq (tgt := 188) dX9_club_167 (by decide) (fun h167 => ?_) (fun h167 => ?_)
          · refine E_iinc (v := nI (i + 1)) dX9_club_188 rfl (nI_i1 i) (by decide) rfl ?_
            refine E_goto (tgt := 88) dX9_club_191 (by decide) ?_
            exact l_r_club_c hM hC hC2 l f t u hc0 hy hn n (i + 1) (by omega) _ _
          · refine E_iload dX9_club_170 rfl ?_
            refine E_iload dX9_club_172 rfl ?_
            refine E_icmp_lt (tgt := 180) dX9_club_174 (by decide) (fun h174 => ?_) (fun h174 => ?_)
            · exact absurd ⟨h155, h167, h174⟩ hx
            · refine E_goto (tgt := 188) dX9_club_177 (by decide) ?_
              refine E_iinc (v := nI (i + 1)) dX9_club_188 rfl (nI_i1 i) (by decide) rfl ?_
              refine E_goto (tgt := 88) dX9_club_191 (by decide) ?_
              exact l_r_club_c hM hC hC2 l f t u hc0 hy hn n (i + 1) (by omega) _ _
theorem l_r_club_y {S : xS} (hM : xShM S) {P C : Nat} (hC : (gI S 9 0 35) = nI C) (hC2 : C < 20) (l f t u : Int32) (hn : ∀ c, c < C → ¬ xrkp S (nI P) l f t c) : ∀ (n i : Nat), i + n = C → ∀ o7 o8, Ex mX9_club 3 0 0 (0, fun _ => 0) (aI (nI C) (xrnc S C P l f t u)) 88 [some (xR (some (9, 0))), some (xI (nI P)), some (xI l), some (xI f), some (xI t), some (xI u), some (xI (nI i)), o7, o8] [] S
  | 0, i, hi, o7, o8 => by
    refine E_iload dX9_club_88 rfl ?_
    refine E_aload_n dX9_club_90 rfl rfl ?_
    refine E_getI dX9_club_91 fX9_172 rfl rfl rfl hC ?_
    refine E_icmp_ge (tgt := 194) dX9_club_94 (by decide) (fun h94 => ?_) (fun h94 => absurd h94 ((fun z => z (nI_le (a := C) (b := i) (by omega) (by omega)))))
    refine E_aload_n dX9_club_194 rfl rfl ?_
    refine E_getR dX9_club_195 fX9_114 rfl rfl rfl (rM_37 hM) ?_
    refine E_aload_n dX9_club_198 rfl rfl ?_
    refine E_getI dX9_club_199 fX9_172 rfl rfl rfl hC ?_
    refine E_iload_n dX9_club_202 rfl rfl ?_
    refine E_iast dX9_club_203 rfl rfl (by decide) (lM_37 hM) (vin hC2 (by omega)) (vnat hC2 (by omega)) ?_
    refine E_aload_n dX9_club_204 rfl rfl ?_
    refine E_getR dX9_club_205 fX9_117 rfl rfl rfl (rM_38 hM) ?_
    refine E_aload_n dX9_club_208 rfl rfl ?_
    refine E_getI dX9_club_209 fX9_172 rfl rfl rfl hC ?_
    refine E_iload_n dX9_club_212 rfl rfl ?_
    refine E_iast dX9_club_213 rfl rfl (by decide) (lM_38 hM) (vin hC2 (by omega)) (vnat hC2 (by omega)) ?_
    refine E_aload_n dX9_club_214 rfl rfl ?_
    refine E_getR dX9_club_215 fX9_120 rfl rfl rfl (rM_39 hM) ?_
    refine E_aload_n dX9_club_218 rfl rfl ?_
    refine E_getI dX9_club_219 fX9_172 rfl rfl rfl hC ?_
    refine E_iload_n dX9_club_222 rfl rfl ?_
    refine E_iast dX9_club_223 rfl rfl (by decide) (lM_39 hM) (vin hC2 (by omega)) (vnat hC2 (by omega)) ?_
    refine E_aload_n dX9_club_224 rfl rfl ?_
    refine E_getR dX9_club_225 fX9_123 rfl rfl rfl (rM_40 hM) ?_
    refine E_aload_n dX9_club_228 rfl rfl ?_
    refine E_getI dX9_club_229 fX9_172 rfl rfl rfl hC ?_
    refine E_iload dX9_club_232 rfl ?_
    refine E_iast dX9_club_234 rfl rfl (by decide) (lM_40 hM) (vin hC2 (by omega)) (vnat hC2 (by omega)) ?_
    refine E_aload_n dX9_club_235 rfl rfl ?_
    refine E_getR dX9_club_236 fX9_126 rfl rfl rfl (rM_41 hM) ?_
    refine E_aload_n dX9_club_239 rfl rfl ?_
    refine E_getI dX9_club_240 fX9_172 rfl rfl rfl hC ?_
    refine E_iload dX9_club_243 rfl ?_
    refine E_iast dX9_club_245 rfl rfl (by decide) (lM_41 hM) (vin hC2 (by omega)) (vnat hC2 (by omega)) ?_
    refine E_aload_n dX9_club_246 rfl rfl ?_
    refine E_dup dX9_club_247 rfl ?_
    refine E_getI dX9_club_248 fX9_172 rfl rfl rfl (Eq.refl (gI S 9 0 35)) ?_
    refine E_iconst (v := 1) dX9_club_251 (by decide) ?_
    refine E_iadd dX9_club_252 ?_
    refine E_putI dX9_club_253 fX9_172 rfl rfl rfl rfl rfl ?_
    refine E_aload_n dX9_club_256 rfl rfl ?_
    refine E_getI dX9_club_257 fX9_172 rfl rfl rfl rfl ?_
    refine E_iconst (v := 1) dX9_club_260 (by decide) ?_
    refine E_isub dX9_club_261 ?_
    refine E_iret dX9_club_262 rfl rfl ?_
    exact ⟨congrArg (fun z => some (xI z)) (by rw [gI_sI, if_pos ⟨rfl, rfl, rfl⟩, hC, Int32.add_sub_cancel]), rfl⟩
  | n + 1, i, hi, o7, o8 => by
    have hx := hn i (by omega)
    unfold xrkp at hx
    refine E_iload dX9_club_88 rfl ?_
    refine E_aload_n dX9_club_90 rfl rfl ?_
    refine E_getI dX9_club_91 fX9_172 rfl rfl rfl hC ?_
    refine E_icmp_ge (tgt := 194) dX9_club_94 (by decide) (fun h94 => absurd h94 ((nI_ge (a := i) (b := C) (by omega) (by omega)))) (fun h94 => ?_)
    refine E_iload_n dX9_club_97 rfl rfl ?_
    refine E_aload_n dX9_club_98 rfl rfl ?_
    refine E_getR dX9_club_99 fX9_120 rfl rfl rfl (rM_39 hM) ?_
    refine E_iload dX9_club_102 rfl ?_
    refine E_iald dX9_club_104 rfl rfl (by decide) (lM_39 hM) (vin (by omega : i < 20) (by omega)) (vnat (by omega : i < 20) (by omega)) rfl ?_
    refine E_icmp_le (tgt := 112) dX9_club_105 (by decide) (fun h105 => ?_) (fun h105 => ?_)
    · rw [if_pos h105] at hx
      refine E_aload_n dX9_club_112 rfl rfl ?_
      refine E_getR dX9_club_113 fX9_120 rfl rfl rfl (rM_39 hM) ?_
      refine E_iload dX9_club_116 rfl ?_
      refine E_iald dX9_club_118 rfl rfl (by decide) (lM_39 hM) (vin (by omega : i < 20) (by omega)) (vnat (by omega : i < 20) (by omega)) rfl ?_
      refine E_istore dX9_club_119 (by decide) rfl ?_
      refine E_iload dX9_club_121 rfl ?_
      refine E_aload_n dX9_club_123 rfl rfl ?_
      refine E_getR dX9_club_124 fX9_123 rfl rfl rfl (rM_40 hM) ?_
      refine E_iload dX9_club_127 rfl ?_
      refine E_iald dX9_club_129 rfl rfl (by decide) (lM_40 hM) (vin (by omega : i < 20) (by omega)) (vnat (by omega : i < 20) (by omega)) rfl ?_
      refine E_icmp_ge (tgt := 138) dX9_club_130 (by decide) (fun h130 => ?_) (fun h130 => ?_)
      · rw [if_pos h130] at hx
        refine E_aload_n dX9_club_138 rfl rfl ?_
        refine E_getR dX9_club_139 fX9_123 rfl rfl rfl (rM_40 hM) ?_
        refine E_iload dX9_club_142 rfl ?_
        refine E_iald dX9_club_144 rfl rfl (by decide) (lM_40 hM) (vin (by omega : i < 20) (by omega)) (vnat (by omega : i < 20) (by omega)) rfl ?_
        refine E_istore dX9_club_145 (by decide) rfl ?_
        refine E_aload_n dX9_club_147 rfl rfl ?_
        refine E_getR dX9_club_148 fX9_114 rfl rfl rfl (rM_37 hM) ?_
        refine E_iload dX9_club_151 rfl ?_
        refine E_iald dX9_club_153 rfl rfl (by decide) (lM_37 hM) (vin (by omega : i < 20) (by omega)) (vnat (by omega : i < 20) (by omega)) rfl ?_
        refine E_iload_n dX9_club_154 rfl rfl ?_
        refine E_icmp_ne (tgt := 188) dX9_club_155 (by decide) (fun h155 => ?_) (fun h155 => ?_)
        · refine E_iinc (v := nI (i + 1)) dX9_club_188 rfl (nI_i1 i) (by decide) rfl ?_
          refine E_goto (tgt := 88) dX9_club_191 (by decide) ?_
          exact l_r_club_y hM hC hC2 l f t u hn n (i + 1) (by omega) _ _
        · refine E_aload_n dX9_club_158 rfl rfl ?_
          refine E_getR dX9_club_159 fX9_117 rfl rfl rfl (rM_38 hM) ?_
          refine E_iload dX9_club_162 rfl ?_
          refine E_iald dX9_club_164 rfl rfl (by decide) (lM_38 hM) (vin (by omega : i < 20) (by omega)) (vnat (by omega : i < 20) (by omega)) rfl ?_
          refine E_iload_n dX9_club_165 rfl rfl ?_
          refine E_iand dX9_club_166 ?_
          refine E_if_eq (tgt := 188) dX9_club_167 (by decide) (fun h167 => ?_) (fun h167 => ?_)
          · refine E_iinc (v := nI (i + 1)) dX9_club_188 rfl (nI_i1 i) (by decide) rfl ?_
            refine E_goto (tgt := 88) dX9_club_191 (by decide) ?_
            exact l_r_club_y hM hC hC2 l f t u hn n (i + 1) (by omega) _ _
          · refine E_iload dX9_club_170 rfl ?_
            refine E_iload dX9_club_172 rfl ?_
            refine E_icmp_lt (tgt := 180) dX9_club_174 (by decide) (fun h174 => ?_) (fun h174 => ?_)
            · exact absurd ⟨h155, h167, h174⟩ hx
            · refine E_goto (tgt := 188) dX9_club_177 (by decide) ?_
              refine E_iinc (v := nI (i + 1)) dX9_club_188 rfl (nI_i1 i) (by decide) rfl ?_
              refine E_goto (tgt := 88) dX9_club_191 (by decide) ?_
              exact l_r_club_y hM hC hC2 l f t u hn n (i + 1) (by omega) _ _
      · rw [if_neg h130] at hx
        refine E_iload dX9_club_133 rfl ?_
        refine E_goto (tgt := 145) dX9_club_135 (by decide) ?_
        refine E_istore dX9_club_145 (by decide) rfl ?_
        refine E_aload_n dX9_club_147 rfl rfl ?_
        refine E_getR dX9_club_148 fX9_114 rfl rfl rfl (rM_37 hM) ?_
        refine E_iload dX9_club_151 rfl ?_
        refine E_iald dX9_club_153 rfl rfl (by decide) (lM_37 hM) (vin (by omega : i < 20) (by omega)) (vnat (by omega : i < 20) (by omega)) rfl ?_
        refine E_iload_n dX9_club_154 rfl rfl ?_
        refine E_icmp_ne (tgt := 188) dX9_club_155 (by decide) (fun h155 => ?_) (fun h155 => ?_)
        · refine E_iinc (v := nI (i + 1)) dX9_club_188 rfl (nI_i1 i) (by decide) rfl ?_
          refine E_goto (tgt := 88) dX9_club_191 (by decide) ?_
          exact l_r_club_y hM hC hC2 l f t u hn n (i + 1) (by omega) _ _
        · refine E_aload_n dX9_club_158 rfl rfl ?_
          refine E_getR dX9_club_159 fX9_117 rfl rfl rfl (rM_38 hM) ?_
          refine E_iload dX9_club_162 rfl ?_
          refine E_iald dX9_club_164 rfl rfl (by decide) (lM_38 hM) (vin (by omega : i < 20) (by omega)) (vnat (by omega : i < 20) (by omega)) rfl ?_
          refine E_iload_n dX9_club_165 rfl rfl ?_
          refine E_iand dX9_club_166 ?_
          refine E_if_eq (tgt := 188) dX9_club_167 (by decide) (fun h167 => ?_) (fun h167 => ?_)
          · refine E_iinc (v := nI (i + 1)) dX9_club_188 rfl (nI_i1 i) (by decide) rfl ?_
            refine E_goto (tgt := 88) dX9_club_191 (by decide) ?_
            exact l_r_club_y hM hC hC2 l f t u hn n (i + 1) (by omega) _ _
          · refine E_iload dX9_club_170 rfl ?_
            refine E_iload dX9_club_172 rfl ?_
            refine E_icmp_lt (tgt := 180) dX9_club_174 (by decide) (fun h174 => ?_) (fun h174 => ?_)
            · exact absurd ⟨h155, h167, h174⟩ hx
            · refine E_goto (tgt := 188) dX9_club_177 (by decide) ?_
              refine E_iinc (v := nI (i + 1)) dX9_club_188 rfl (nI_i1 i) (by decide) rfl ?_
              refine E_goto (tgt := 88) dX9_club_191 (by decide) ?_
              exact l_r_club_y hM hC hC2 l f t u hn n (i + 1) (by omega) _ _
    · rw [if_neg h105] at hx
      refine E_iload_n dX9_club_108 rfl rfl ?_
      refine E_goto (tgt := 119) dX9_club_109 (by decide) ?_
      refine E_istore dX9_club_119 (by decide) rfl ?_
      refine E_iload dX9_club_121 rfl ?_
      refine E_aload_n dX9_club_123 rfl rfl ?_
      refine E_getR dX9_club_124 fX9_123 rfl rfl rfl (rM_40 hM) ?_
      refine E_iload dX9_club_127 rfl ?_
      refine E_iald dX9_club_129 rfl rfl (by decide) (lM_40 hM) (vin (by omega : i < 20) (by omega)) (vnat (by omega : i < 20) (by omega)) rfl ?_
      refine E_icmp_ge (tgt := 138) dX9_club_130 (by decide) (fun h130 => ?_) (fun h130 => ?_)
      · rw [if_pos h130] at hx
        refine E_aload_n dX9_club_138 rfl rfl ?_
        refine E_getR dX9_club_139 fX9_123 rfl rfl rfl (rM_40 hM) ?_
        refine E_iload dX9_club_142 rfl ?_
        refine E_iald dX9_club_144 rfl rfl (by decide) (lM_40 hM) (vin (by omega : i < 20) (by omega)) (vnat (by omega : i < 20) (by omega)) rfl ?_
        refine E_istore dX9_club_145 (by decide) rfl ?_
        refine E_aload_n dX9_club_147 rfl rfl ?_
        refine E_getR dX9_club_148 fX9_114 rfl rfl rfl (rM_37 hM) ?_
        refine E_iload dX9_club_151 rfl ?_
        refine E_iald dX9_club_153 rfl rfl (by decide) (lM_37 hM) (vin (by omega : i < 20) (by omega)) (vnat (by omega : i < 20) (by omega)) rfl ?_
        refine E_iload_n dX9_club_154 rfl rfl ?_
        refine E_icmp_ne (tgt := 188) dX9_club_155 (by decide) (fun h155 => ?_) (fun h155 => ?_)
        · refine E_iinc (v := nI (i + 1)) dX9_club_188 rfl (nI_i1 i) (by decide) rfl ?_
          refine E_goto (tgt := 88) dX9_club_191 (by decide) ?_
          exact l_r_club_y hM hC hC2 l f t u hn n (i + 1) (by omega) _ _
        · refine E_aload_n dX9_club_158 rfl rfl ?_
          refine E_getR dX9_club_159 fX9_117 rfl rfl rfl (rM_38 hM) ?_
          refine E_iload dX9_club_162 rfl ?_
          refine E_iald dX9_club_164 rfl rfl (by decide) (lM_38 hM) (vin (by omega : i < 20) (by omega)) (vnat (by omega : i < 20) (by omega)) rfl ?_
          refine E_iload_n dX9_club_165 rfl rfl ?_
          refine E_iand dX9_club_166 ?_
          refine E_if_eq (tgt := 188) dX9_club_167 (by decide) (fun h167 => ?_) (fun h167 => ?_)
          · refine E_iinc (v := nI (i + 1)) dX9_club_188 rfl (nI_i1 i) (by decide) rfl ?_
            refine E_goto (tgt := 88) dX9_club_191 (by decide) ?_
            exact l_r_club_y hM hC hC2 l f t u hn n (i + 1) (by omega) _ _
          · refine E_iload dX9_club_170 rfl ?_
            refine E_iload dX9_club_172 rfl ?_
            refine E_icmp_lt (tgt := 180) dX9_club_174 (by decide) (fun h174 => ?_) (fun h174 => ?_)
            · exact absurd ⟨h155, h167, h174⟩ hx
            · refine E_goto (tgt := 188) dX9_club_177 (by decide) ?_
              refine E_iinc (v := nI (i + 1)) dX9_club_188 rfl (nI_i1 i) (by decide) rfl ?_
              refine E_goto (tgt := 88) dX9_club_191 (by decide) ?_
              exact l_r_club_y hM hC hC2 l f t u hn n (i + 1) (by omega) _ _
      · rw [if_neg h130] at hx
        refine E_iload dX9_club_133 rfl ?_
        refine E_goto (tgt := 145) dX9_club_135 (by decide) ?_
        refine E_istore dX9_club_145 (by decide) rfl ?_
        refine E_aload_n dX9_club_147 rfl rfl ?_
        refine E_getR dX9_club_148 fX9_114 rfl rfl rfl (rM_37 hM) ?_
        refine E_iload dX9_club_151 rfl ?_
        refine E_iald dX9_club_153 rfl rfl (by decide) (lM_37 hM) (vin (by omega : i < 20) (by omega)) (vnat (by omega : i < 20) (by omega)) rfl ?_
        refine E_iload_n dX9_club_154 rfl rfl ?_
        refine E_icmp_ne (tgt := 188) dX9_club_155 (by decide) (fun h155 => ?_) (fun h155 => ?_)
        · refine E_iinc (v := nI (i + 1)) dX9_club_188 rfl (nI_i1 i) (by decide) rfl ?_
          refine E_goto (tgt := 88) dX9_club_191 (by decide) ?_
          exact l_r_club_y hM hC hC2 l f t u hn n (i + 1) (by omega) _ _
        · refine E_aload_n dX9_club_158 rfl rfl ?_
          refine E_getR dX9_club_159 fX9_117 rfl rfl rfl (rM_38 hM) ?_
          refine E_iload dX9_club_162 rfl ?_
          refine E_iald dX9_club_164 rfl rfl (by decide) (lM_38 hM) (vin (by omega : i < 20) (by omega)) (vnat (by omega : i < 20) (by omega)) rfl ?_
          refine E_iload_n dX9_club_165 rfl rfl ?_
          refine E_iand dX9_club_166 ?_
          refine E_if_eq (tgt := 188) dX9_club_167 (by decide) (fun h167 => ?_) (fun h167 => ?_)
          · refine E_iinc (v := nI (i + 1)) dX9_club_188 rfl (nI_i1 i) (by decide) rfl ?_
            refine E_goto (tgt := 88) dX9_club_191 (by decide) ?_
            exact l_r_club_y hM hC hC2 l f t u hn n (i + 1) (by omega) _ _
          · refine E_iload dX9_club_170 rfl ?_
            refine E_iload dX9_club_172 rfl ?_
            refine E_icmp_lt (tgt := 180) dX9_club_174 (by decide) (fun h174 => ?_) (fun h174 => ?_)
            · exact absurd ⟨h155, h167, h174⟩ hx
            · refine E_goto (tgt := 188) dX9_club_177 (by decide) ?_
              refine E_iinc (v := nI (i + 1)) dX9_club_188 rfl (nI_i1 i) (by decide) rfl ?_
              refine E_goto (tgt := 88) dX9_club_191 (by decide) ?_
              exact l_r_club_y hM hC hC2 l f t u hn n (i + 1) (by omega) _ _
theorem c_r_club_c {S : xS} (hM : xShM S) {P : Nat} (hP : P < 4) (h : ¬ (gI S 51 0 P) = 0) {C : Nat} (hC : (gI S 9 0 35) = nI C) (hC2 : C < 20) (l f t u : Int32) (hy : xrcond S P l f t u) {c0 : Nat} (hc0 : c0 < C) (hk : xrkp S (nI P) l f t c0) (hn : ∀ c, c < c0 → ¬ xrkp S (nI P) l f t c) : CC mX9_club 3 0 0 [xR (some (9, 0)), xI (nI P), xI l, xI f, xI t, xI u] S (aI (-1) (sI S 9 0 36 (nI c0))) := by
  refine CC_of mpX9_club rfl (Nat.le_of_ble_eq_true rfl) ?_
  have hne : ¬ nI C = 20 := fun z => by have := (nI_eq (b := 20) (by omega) (by omega)).mp z; omega
  obtain ⟨y1, y2, y3, y4, y5⟩ := hy
  refine E_aload_n dX9_club_0 rfl rfl ?_
  refine E_getI dX9_club_1 fX9_172 rfl rfl rfl hC ?_
  refine E_bipush (v := 20) dX9_club_4 (by decide) ?_
  refine E_icmp_eq (tgt := 83) dX9_club_6 (by decide) (fun h6 => absurd h6 (hne)) (fun h6 => ?_)
  refine E_aload_n dX9_club_9 rfl rfl ?_
  refine E_iload_n dX9_club_10 rfl rfl ?_
  refine E_callV (m2 := mX9_has) dX9_club_11 kX9_165 mzX9_has (c_has_y hM hP h) rfl ⟨_, _, rfl⟩ rfl rfl (by decide) (xs8 (Nat.le_of_ble_eq_true rfl)) (by first | exact Nat.le_of_ble_eq_true rfl | omega) (by first | exact Nat.le_of_ble_eq_true rfl | omega) ?_
  rintro _ _ ⟨rfl, rfl⟩
  refine E_if_eq (tgt := 83) dX9_club_14 (by decide) (fun h14 => absurd h14 (by decide)) (fun h14 => ?_)
  refine E_iload_n dX9_club_17 rfl rfl ?_
  refine E_iconst (v := 1) dX9_club_18 (by decide) ?_
  refine E_iconst (v := 1) dX9_club_19 (by decide) ?_
  refine E_aload_n dX9_club_20 rfl rfl ?_
  refine E_getR dX9_club_21 fX9_17 rfl rfl rfl (rM_3 hM) ?_
  refine E_aload_n dX9_club_24 rfl rfl ?_
  refine E_iload_n dX9_club_25 rfl rfl ?_
  refine E_callV (m2 := mX9_has) dX9_club_26 kX9_165 mzX9_has (c_has_y hM hP h) rfl ⟨_, _, rfl⟩ rfl rfl (by decide) (xs8 (Nat.le_of_ble_eq_true rfl)) (by first | exact Nat.le_of_ble_eq_true rfl | omega) (by first | exact Nat.le_of_ble_eq_true rfl | omega) ?_
  rintro _ _ ⟨rfl, rfl⟩
  refine E_if_eq (tgt := 36) dX9_club_29 (by decide) (fun h29 => absurd h29 (by decide)) (fun h29 => ?_)
  refine E_iload_n dX9_club_32 rfl rfl ?_
  refine E_goto (tgt := 37) dX9_club_33 (by decide) ?_
  refine E_iald dX9_club_37 rfl rfl (by decide) (lM_3 hM) (vin hP (by omega)) (vnat hP (by omega)) rfl ?_
  refine E_ishl dX9_club_38 ?_
  refine E_iconst (v := 1) dX9_club_39 (by decide) ?_
  refine E_isub dX9_club_40 ?_
  refine E_callS (m2 := mX9_in) dX9_club_41 kX9_141 mzX9_in (c_X9_in _ _ _) rfl rfl (by decide) (xs8 (Nat.le_of_ble_eq_true rfl)) (by first | exact Nat.le_of_ble_eq_true rfl | omega) (by first | exact Nat.le_of_ble_eq_true rfl | omega) ?_
  rintro _ _ ⟨rfl, rfl⟩; rw [if_pos y1]
  refine E_if_eq (tgt := 83) dX9_club_44 (by decide) (fun h44 => absurd h44 (by decide)) (fun h44 => ?_)
  refine E_iload_n dX9_club_47 rfl rfl ?_
  refine E_iconst (v := 0) dX9_club_48 (by decide) ?_
  refine E_sipush (v := 1439) dX9_club_49 (by decide) ?_
  refine E_callS (m2 := mX9_in) dX9_club_52 kX9_141 mzX9_in (c_X9_in _ _ _) rfl rfl (by decide) (xs8 (Nat.le_of_ble_eq_true rfl)) (by first | exact Nat.le_of_ble_eq_true rfl | omega) (by first | exact Nat.le_of_ble_eq_true rfl | omega) ?_
  rintro _ _ ⟨rfl, rfl⟩; rw [if_pos y2]
  refine E_if_eq (tgt := 83) dX9_club_55 (by decide) (fun h55 => absurd h55 (by decide)) (fun h55 => ?_)
  refine E_iload dX9_club_58 rfl ?_
  refine E_iload_n dX9_club_60 rfl rfl ?_
  refine E_icmp_le (tgt := 83) dX9_club_61 (by decide) (fun h61 => absurd h61 (Int32.not_le.mpr y3)) (fun h61 => ?_)
  refine E_iload dX9_club_64 rfl ?_
  refine E_sipush (v := 1440) dX9_club_66 (by decide) ?_
  refine E_icmp_gt (tgt := 83) dX9_club_69 (by decide) (fun h69 => absurd h69 (Int32.not_lt.mpr y4)) (fun h69 => ?_)
  refine E_iload dX9_club_72 rfl ?_
  refine E_iconst (v := 0) dX9_club_74 (by decide) ?_
  refine E_bipush (v := 30) dX9_club_75 (by decide) ?_
  refine E_callS (m2 := mX9_in) dX9_club_77 kX9_141 mzX9_in (c_X9_in _ _ _) rfl rfl (by decide) (xs8 (Nat.le_of_ble_eq_true rfl)) (by first | exact Nat.le_of_ble_eq_true rfl | omega) (by first | exact Nat.le_of_ble_eq_true rfl | omega) ?_
  rintro _ _ ⟨rfl, rfl⟩; rw [if_pos y5]
  refine E_if_ne (tgt := 85) dX9_club_80 (by decide) (fun h80 => ?_) (fun h80 => absurd h80 (by decide))
  refine E_iconst (v := 0) dX9_club_85 (by decide) ?_
  refine E_istore dX9_club_86 (by decide) rfl ?_
  exact l_r_club_c hM hC hC2 l f t u hc0 hk hn c0 0 (by omega) _ _
theorem c_r_club_y {S : xS} (hM : xShM S) {P : Nat} (hP : P < 4) (h : ¬ (gI S 51 0 P) = 0) {C : Nat} (hC : (gI S 9 0 35) = nI C) (hC2 : C < 20) (l f t u : Int32) (hy : xrcond S P l f t u) (hn : ∀ c, c < C → ¬ xrkp S (nI P) l f t c) : CC mX9_club 3 0 0 [xR (some (9, 0)), xI (nI P), xI l, xI f, xI t, xI u] S (aI (nI C) (xrnc S C P l f t u)) := by
  refine CC_of mpX9_club rfl (Nat.le_of_ble_eq_true rfl) ?_
  have hne : ¬ nI C = 20 := fun z => by have := (nI_eq (b := 20) (by omega) (by omega)).mp z; omega
  obtain ⟨y1, y2, y3, y4, y5⟩ := hy
  refine E_aload_n dX9_club_0 rfl rfl ?_
  refine E_getI dX9_club_1 fX9_172 rfl rfl rfl hC ?_
  refine E_bipush (v := 20) dX9_club_4 (by decide) ?_
  refine E_icmp_eq (tgt := 83) dX9_club_6 (by decide) (fun h6 => absurd h6 (hne)) (fun h6 => ?_)
  refine E_aload_n dX9_club_9 rfl rfl ?_
  refine E_iload_n dX9_club_10 rfl rfl ?_
  refine E_callV (m2 := mX9_has) dX9_club_11 kX9_165 mzX9_has (c_has_y hM hP h) rfl ⟨_, _, rfl⟩ rfl rfl (by decide) (xs8 (Nat.le_of_ble_eq_true rfl)) (by first | exact Nat.le_of_ble_eq_true rfl | omega) (by first | exact Nat.le_of_ble_eq_true rfl | omega) ?_
  rintro _ _ ⟨rfl, rfl⟩
  refine E_if_eq (tgt := 83) dX9_club_14 (by decide) (fun h14 => absurd h14 (by decide)) (fun h14 => ?_)
  refine E_iload_n dX9_club_17 rfl rfl ?_
  refine E_iconst (v := 1) dX9_club_18 (by decide) ?_
  refine E_iconst (v := 1) dX9_club_19 (by decide) ?_
  refine E_aload_n dX9_club_20 rfl rfl ?_
  refine E_getR dX9_club_21 fX9_17 rfl rfl rfl (rM_3 hM) ?_
  refine E_aload_n dX9_club_24 rfl rfl ?_
  refine E_iload_n dX9_club_25 rfl rfl ?_
  refine E_callV (m2 := mX9_has) dX9_club_26 kX9_165 mzX9_has (c_has_y hM hP h) rfl ⟨_, _, rfl⟩ rfl rfl (by decide) (xs8 (Nat.le_of_ble_eq_true rfl)) (by first | exact Nat.le_of_ble_eq_true rfl | omega) (by first | exact Nat.le_of_ble_eq_true rfl | omega) ?_
  rintro _ _ ⟨rfl, rfl⟩
  refine E_if_eq (tgt := 36) dX9_club_29 (by decide) (fun h29 => absurd h29 (by decide)) (fun h29 => ?_)
  refine E_iload_n dX9_club_32 rfl rfl ?_
  refine E_goto (tgt := 37) dX9_club_33 (by decide) ?_
  refine E_iald dX9_club_37 rfl rfl (by decide) (lM_3 hM) (vin hP (by omega)) (vnat hP (by omega)) rfl ?_
  refine E_ishl dX9_club_38 ?_
  refine E_iconst (v := 1) dX9_club_39 (by decide) ?_
  refine E_isub dX9_club_40 ?_
  refine E_callS (m2 := mX9_in) dX9_club_41 kX9_141 mzX9_in (c_X9_in _ _ _) rfl rfl (by decide) (xs8 (Nat.le_of_ble_eq_true rfl)) (by first | exact Nat.le_of_ble_eq_true rfl | omega) (by first | exact Nat.le_of_ble_eq_true rfl | omega) ?_
  rintro _ _ ⟨rfl, rfl⟩; rw [if_pos y1]
  refine E_if_eq (tgt := 83) dX9_club_44 (by decide) (fun h44 => absurd h44 (by decide)) (fun h44 => ?_)
  refine E_iload_n dX9_club_47 rfl rfl ?_
  refine E_iconst (v := 0) dX9_club_48 (by decide) ?_
  refine E_sipush (v := 1439) dX9_club_49 (by decide) ?_
  refine E_callS (m2 := mX9_in) dX9_club_52 kX9_141 mzX9_in (c_X9_in _ _ _) rfl rfl (by decide) (xs8 (Nat.le_of_ble_eq_true rfl)) (by first | exact Nat.le_of_ble_eq_true rfl | omega) (by first | exact Nat.le_of_ble_eq_true rfl | omega) ?_
  rintro _ _ ⟨rfl, rfl⟩; rw [if_pos y2]
  refine E_if_eq (tgt := 83) dX9_club_55 (by decide) (fun h55 => absurd h55 (by decide)) (fun h55 => ?_)
  refine E_iload dX9_club_58 rfl ?_
  refine E_iload_n dX9_club_60 rfl rfl ?_
  refine E_icmp_le (tgt := 83) dX9_club_61 (by decide) (fun h61 => absurd h61 (Int32.not_le.mpr y3)) (fun h61 => ?_)
  refine E_iload dX9_club_64 rfl ?_
  refine E_sipush (v := 1440) dX9_club_66 (by decide) ?_
  refine E_icmp_gt (tgt := 83) dX9_club_69 (by decide) (fun h69 => absurd h69 (Int32.not_lt.mpr y4)) (fun h69 => ?_)
  refine E_iload dX9_club_72 rfl ?_
  refine E_iconst (v := 0) dX9_club_74 (by decide) ?_
  refine E_bipush (v := 30) dX9_club_75 (by decide) ?_
  refine E_callS (m2 := mX9_in) dX9_club_77 kX9_141 mzX9_in (c_X9_in _ _ _) rfl rfl (by decide) (xs8 (Nat.le_of_ble_eq_true rfl)) (by first | exact Nat.le_of_ble_eq_true rfl | omega) (by first | exact Nat.le_of_ble_eq_true rfl | omega) ?_
  rintro _ _ ⟨rfl, rfl⟩; rw [if_pos y5]
  refine E_if_ne (tgt := 85) dX9_club_80 (by decide) (fun h80 => ?_) (fun h80 => absurd h80 (by decide))
  refine E_iconst (v := 0) dX9_club_85 (by decide) ?_
  refine E_istore dX9_club_86 (by decide) rfl ?_
  exact l_r_club_y hM hC hC2 l f t u hn C 0 (by omega) _ _
theorem c_r_may_n {S : xS} (x : Int32) (h : ¬ (0 ≤ x ∧ x ≤ (gI S 9 0 22) - 1)) : CC mX9_may 4 0 0 [xR (some (9, 0)), xI x] S (aI (-1) S) := by
  refine CC_of mpX9_may rfl (Nat.le_of_ble_eq_true rfl) ?_
  refine E_aload_n dX9_may_0 rfl rfl ?_
  refine E_iload_n dX9_may_1 rfl rfl ?_
  refine E_callV (m2 := mX9_isTicket) dX9_may_2 kX9_185 mzX9_isTicket (c_isTicket x) rfl ⟨_, _, rfl⟩ rfl rfl (by decide) (xs8 (Nat.le_of_ble_eq_true rfl)) (by first | exact Nat.le_of_ble_eq_true rfl | omega) (by first | exact Nat.le_of_ble_eq_true rfl | omega) ?_
  rintro _ _ ⟨rfl, rfl⟩; rw [if_neg h]
  refine E_if_ne (tgt := 10) dX9_may_5 (by decide) (fun h5 => absurd h5 (by decide)) (fun h5 => ?_)
  refine E_iconst (v := -1) dX9_may_8 (by decide) ?_
  refine E_iret dX9_may_9 rfl rfl ?_
  exact ⟨rfl, rfl⟩
/-- the reference's reason against a ticket, of a club c if it has one -/
def xrw (S : xS) (t P : Nat) : Int32 := if ¬ (gI S 74 0 t) = 5 ∧ ¬ xrrl S P 3 ≤ 0 then 3 else if ¬ (gI S 74 0 t) = 5 ∧ ¬ xrmn S P < (gI S 52 0 P) then 4 else 0
def xr6 (S : xS) (P : Nat) : Int32 := if (gI S 61 0 P) = 3 then 6 else 0
def xrmu (S : xS) (t P : Nat) : Int32 := if ¬ (gI S 79 0 t) = 0 then 1 else if (gI S 74 0 t) = 4 ∧ 0 < (gI S 81 0 t) then 2 else if ¬ xrw S t P = 0 then xrw S t P else xr6 S P
def xrmc (S : xS) (t P c T : Nat) : Int32 := if ¬ (gI S 79 0 t) = 0 then 1 else if ¬ ((gI S 89 0 c) ≤ (gI S 9 0 0) ∧ (gI S 9 0 0) < (gI S 90 0 c)) then 2 else if ¬ xrw S t P = 0 then xrw S t P else if (gI S 74 0 t) = 3 ∧ (gI S 76 0 t) = 0 ∧ ¬ xsch S (nI c) 0 T + 1 ≤ (gI S 91 0 c) * xsch S (nI c) 1 T then 5 else xr6 S P
theorem c_r_may_u {S : xS} (hM : xShM S) {T t P : Nat} (hT : (gI S 9 0 22) = nI T) (hT2 : T ≤ 200) (ht : t < T) (hP : P < 4) (hp : (gI S 73 0 t) = nI P) (k2 : ¬ (gI S 74 0 t) = 2) (k3 : ¬ (gI S 74 0 t) = 3) : CC mX9_may 4 0 0 [xR (some (9, 0)), xI (nI t)] S (aI (xrmu S t P) S) := by
  refine CC_of mpX9_may rfl (Nat.le_of_ble_eq_true rfl) ?_
  have e0 : 0 ≤ nI t ∧ nI t ≤ (gI S 9 0 22) - 1 := by rw [hT]; exact (rng1 (by omega) (by omega)).mpr ht
  have ht2 : t < 200 := by omega
  unfold xrmu xrw xr6
  refine E_aload_n dX9_may_0 rfl rfl ?_
  refine E_iload_n dX9_may_1 rfl rfl ?_
  refine E_callV (m2 := mX9_isTicket) dX9_may_2 kX9_185 mzX9_isTicket (c_isTicket _) rfl ⟨_, _, rfl⟩ rfl rfl (by decide) (xs8 (Nat.le_of_ble_eq_true rfl)) (by first | exact Nat.le_of_ble_eq_true rfl | omega) (by first | exact Nat.le_of_ble_eq_true rfl | omega) ?_
  rintro _ _ ⟨rfl, rfl⟩; rw [if_pos e0]
  refine E_if_ne (tgt := 10) dX9_may_5 (by decide) (fun h5 => ?_) (fun h5 => absurd h5 (by decide))
  refine E_aload_n dX9_may_10 rfl rfl ?_
  refine E_getR dX9_may_11 fX9_74 rfl rfl rfl (rM_23 hM) ?_
  refine E_iload_n dX9_may_14 rfl rfl ?_
  refine E_iald dX9_may_15 rfl rfl (by decide) (lM_23 hM) (vin ht2 (by omega)) (vnat ht2 (by omega)) hp ?_
  refine E_istore_n dX9_may_16 rfl (by decide) rfl ?_
  refine E_aload_n dX9_may_17 rfl rfl ?_
  refine E_getR dX9_may_18 fX9_77 rfl rfl rfl (rM_24 hM) ?_
  refine E_iload_n dX9_may_21 rfl rfl ?_
  refine E_iald dX9_may_22 rfl rfl (by decide) (lM_24 hM) (vin ht2 (by omega)) (vnat ht2 (by omega)) rfl ?_
  refine E_iconst (v := 5) dX9_may_23 (by decide) ?_
  refine E_icmp_ne (tgt := 31) dX9_may_24 (by decide) (fun h24 => ?_) (fun h24 => ?_)
  · refine E_iconst (v := 0) dX9_may_31 (by decide) ?_
    refine E_istore_n dX9_may_32 rfl (by decide) rfl ?_
    refine E_aload_n dX9_may_33 rfl rfl ?_
    refine E_getR dX9_may_34 fX9_92 rfl rfl rfl (rM_29 hM) ?_
    refine E_iload_n dX9_may_37 rfl rfl ?_
    refine E_zald dX9_may_38 rfl rfl (by decide) (lM_29 hM) (vin ht2 (by omega)) (vnat ht2 (by omega)) rfl ?_
    refine E_if_eq (tgt := 44) dX9_may_39 (by decide) (fun h39 => ?_) (fun h39 => ?_)
    · refine E_aload_n dX9_may_44 rfl rfl ?_
      refine E_getR dX9_may_45 fX9_77 rfl rfl rfl (rM_24 hM) ?_
      refine E_iload_n dX9_may_48 rfl rfl ?_
      refine E_iald dX9_may_49 rfl rfl (by decide) (lM_24 hM) (vin ht2 (by omega)) (vnat ht2 (by omega)) rfl ?_
      refine E_iconst (v := 4) dX9_may_50 (by decide) ?_
      refine E_icmp_ne (tgt := 63) dX9_may_51 (by decide) (fun h51 => ?_) (fun h51 => ?_)
      · refine E_aload_n dX9_may_63 rfl rfl ?_
        refine E_iload_n dX9_may_64 rfl rfl ?_
        refine E_callV (m2 := mX9_isClubbed) dX9_may_65 kX9_188 mzX9_isClubbed (c_r_isClubbed hM ht2) rfl ⟨_, _, rfl⟩ rfl rfl (by decide) (xs8 (Nat.le_of_ble_eq_true rfl)) (by first | exact Nat.le_of_ble_eq_true rfl | omega) (by first | exact Nat.le_of_ble_eq_true rfl | omega) ?_
        rintro _ _ ⟨rfl, rfl⟩; rw [if_neg (show ¬ ((gI S 74 0 t) = 2 ∨ (gI S 74 0 t) = 3) from fun z => z.elim k2 k3)]
        refine E_if_eq (tgt := 86) dX9_may_68 (by decide) (fun h68 => ?_) (fun h68 => absurd h68 (by decide))
        refine E_iload_n dX9_may_86 rfl rfl ?_
        refine E_if_ne (tgt := 100) dX9_may_87 (by decide) (fun h87 => absurd h87 (by decide)) (fun h87 => ?_)
        refine E_aload_n dX9_may_90 rfl rfl ?_
        refine E_iload_n dX9_may_91 rfl rfl ?_
        refine E_callV (m2 := mX9_reasons) dX9_may_92 kX9_151 mzX9_reasons (c_r_reasons hM hP) rfl ⟨_, _, rfl⟩ rfl rfl (by decide) (xs8 (Nat.le_of_ble_eq_true rfl)) (by first | exact Nat.le_of_ble_eq_true rfl | omega) (by first | exact Nat.le_of_ble_eq_true rfl | omega) ?_
        rintro _ _ ⟨rfl, rfl⟩
        refine E_if_le (tgt := 100) dX9_may_95 (by decide) (fun h95 => ?_) (fun h95 => ?_)
        · refine E_iload_n dX9_may_100 rfl rfl ?_
          refine E_if_ne (tgt := 120) dX9_may_101 (by decide) (fun h101 => absurd h101 (by decide)) (fun h101 => ?_)
          refine E_aload_n dX9_may_104 rfl rfl ?_
          refine E_iload_n dX9_may_105 rfl rfl ?_
          refine E_callV (m2 := mX9_mostNow) dX9_may_106 kX9_158 mzX9_mostNow (c_r_mostNow hM hP) rfl ⟨_, _, rfl⟩ rfl rfl (by decide) (xs8 (Nat.le_of_ble_eq_true rfl)) (by first | exact Nat.le_of_ble_eq_true rfl | omega) (by first | exact Nat.le_of_ble_eq_true rfl | omega) ?_
          rintro _ _ ⟨rfl, rfl⟩
          refine E_aload_n dX9_may_109 rfl rfl ?_
          refine E_getR dX9_may_110 fX9_13 rfl rfl rfl (rM_2 hM) ?_
          refine E_iload_n dX9_may_113 rfl rfl ?_
          refine E_iald dX9_may_114 rfl rfl (by decide) (lM_2 hM) (vin hP (by omega)) (vnat hP (by omega)) rfl ?_
          refine E_icmp_lt (tgt := 120) dX9_may_115 (by decide) (fun h115 => ?_) (fun h115 => ?_)
          · refine E_aload_n dX9_may_120 rfl rfl ?_
            refine E_getR dX9_may_121 fX9_77 rfl rfl rfl (rM_24 hM) ?_
            refine E_iload_n dX9_may_124 rfl rfl ?_
            refine E_iald dX9_may_125 rfl rfl (by decide) (lM_24 hM) (vin ht2 (by omega)) (vnat ht2 (by omega)) rfl ?_
            refine E_iconst (v := 3) dX9_may_126 (by decide) ?_
            refine E_icmp_ne (tgt := 180) dX9_may_127 (by decide) (fun h127 => ?_) (fun h127 => absurd h127 (k3))
            refine E_aload_n dX9_may_180 rfl rfl ?_
            refine E_getR dX9_may_181 fX9_41 rfl rfl rfl (rM_11 hM) ?_
            refine E_iload_n dX9_may_184 rfl rfl ?_
            refine E_iald dX9_may_185 rfl rfl (by decide) (lM_11 hM) (vin hP (by omega)) (vnat hP (by omega)) rfl ?_
            refine E_iconst (v := 3) dX9_may_186 (by decide) ?_
            refine E_icmp_ne (tgt := 195) dX9_may_187 (by decide) (fun h187 => ?_) (fun h187 => ?_)
            · refine E_iconst (v := 0) dX9_may_195 (by decide) ?_
              refine E_iret dX9_may_196 rfl rfl ?_
              refine ⟨congrArg (fun z => some (xI z)) ?_, rfl⟩; simp_all [-Int32.not_le, -Int32.not_lt]
            · refine E_bipush (v := 6) dX9_may_190 (by decide) ?_
              refine E_goto (tgt := 196) dX9_may_192 (by decide) ?_
              refine E_iret dX9_may_196 rfl rfl ?_
              refine ⟨congrArg (fun z => some (xI z)) ?_, rfl⟩; simp_all [-Int32.not_le, -Int32.not_lt]
          · refine E_iconst (v := 4) dX9_may_118 (by decide) ?_
            refine E_iret dX9_may_119 rfl rfl ?_
            refine ⟨congrArg (fun z => some (xI z)) ?_, rfl⟩; simp_all [-Int32.not_le, -Int32.not_lt]
        · refine E_iconst (v := 3) dX9_may_98 (by decide) ?_
          refine E_iret dX9_may_99 rfl rfl ?_
          refine ⟨congrArg (fun z => some (xI z)) ?_, rfl⟩; simp_all [-Int32.not_le, -Int32.not_lt]
      · refine E_aload_n dX9_may_54 rfl rfl ?_
        refine E_getR dX9_may_55 fX9_98 rfl rfl rfl (rM_31 hM) ?_
        refine E_iload_n dX9_may_58 rfl rfl ?_
        refine E_iald dX9_may_59 rfl rfl (by decide) (lM_31 hM) (vin ht2 (by omega)) (vnat ht2 (by omega)) rfl ?_
        refine E_if_gt (tgt := 84) dX9_may_60 (by decide) (fun h60 => ?_) (fun h60 => ?_)
        · refine E_iconst (v := 2) dX9_may_84 (by decide) ?_
          refine E_iret dX9_may_85 rfl rfl ?_
          refine ⟨congrArg (fun z => some (xI z)) ?_, rfl⟩; simp_all [-Int32.not_le, -Int32.not_lt]
        · refine E_aload_n dX9_may_63 rfl rfl ?_
          refine E_iload_n dX9_may_64 rfl rfl ?_
          refine E_callV (m2 := mX9_isClubbed) dX9_may_65 kX9_188 mzX9_isClubbed (c_r_isClubbed hM ht2) rfl ⟨_, _, rfl⟩ rfl rfl (by decide) (xs8 (Nat.le_of_ble_eq_true rfl)) (by first | exact Nat.le_of_ble_eq_true rfl | omega) (by first | exact Nat.le_of_ble_eq_true rfl | omega) ?_
          rintro _ _ ⟨rfl, rfl⟩; rw [if_neg (show ¬ ((gI S 74 0 t) = 2 ∨ (gI S 74 0 t) = 3) from fun z => z.elim k2 k3)]
          refine E_if_eq (tgt := 86) dX9_may_68 (by decide) (fun h68 => ?_) (fun h68 => absurd h68 (by decide))
          refine E_iload_n dX9_may_86 rfl rfl ?_
          refine E_if_ne (tgt := 100) dX9_may_87 (by decide) (fun h87 => absurd h87 (by decide)) (fun h87 => ?_)
          refine E_aload_n dX9_may_90 rfl rfl ?_
          refine E_iload_n dX9_may_91 rfl rfl ?_
          refine E_callV (m2 := mX9_reasons) dX9_may_92 kX9_151 mzX9_reasons (c_r_reasons hM hP) rfl ⟨_, _, rfl⟩ rfl rfl (by decide) (xs8 (Nat.le_of_ble_eq_true rfl)) (by first | exact Nat.le_of_ble_eq_true rfl | omega) (by first | exact Nat.le_of_ble_eq_true rfl | omega) ?_
          rintro _ _ ⟨rfl, rfl⟩
          refine E_if_le (tgt := 100) dX9_may_95 (by decide) (fun h95 => ?_) (fun h95 => ?_)
          · refine E_iload_n dX9_may_100 rfl rfl ?_
            refine E_if_ne (tgt := 120) dX9_may_101 (by decide) (fun h101 => absurd h101 (by decide)) (fun h101 => ?_)
            refine E_aload_n dX9_may_104 rfl rfl ?_
            refine E_iload_n dX9_may_105 rfl rfl ?_
            refine E_callV (m2 := mX9_mostNow) dX9_may_106 kX9_158 mzX9_mostNow (c_r_mostNow hM hP) rfl ⟨_, _, rfl⟩ rfl rfl (by decide) (xs8 (Nat.le_of_ble_eq_true rfl)) (by first | exact Nat.le_of_ble_eq_true rfl | omega) (by first | exact Nat.le_of_ble_eq_true rfl | omega) ?_
            rintro _ _ ⟨rfl, rfl⟩
            refine E_aload_n dX9_may_109 rfl rfl ?_
            refine E_getR dX9_may_110 fX9_13 rfl rfl rfl (rM_2 hM) ?_
            refine E_iload_n dX9_may_113 rfl rfl ?_
            refine E_iald dX9_may_114 rfl rfl (by decide) (lM_2 hM) (vin hP (by omega)) (vnat hP (by omega)) rfl ?_
            refine E_icmp_lt (tgt := 120) dX9_may_115 (by decide) (fun h115 => ?_) (fun h115 => ?_)
            · refine E_aload_n dX9_may_120 rfl rfl ?_
              refine E_getR dX9_may_121 fX9_77 rfl rfl rfl (rM_24 hM) ?_
              refine E_iload_n dX9_may_124 rfl rfl ?_
              refine E_iald dX9_may_125 rfl rfl (by decide) (lM_24 hM) (vin ht2 (by omega)) (vnat ht2 (by omega)) rfl ?_
              refine E_iconst (v := 3) dX9_may_126 (by decide) ?_
              refine E_icmp_ne (tgt := 180) dX9_may_127 (by decide) (fun h127 => ?_) (fun h127 => absurd h127 (k3))
              refine E_aload_n dX9_may_180 rfl rfl ?_
              refine E_getR dX9_may_181 fX9_41 rfl rfl rfl (rM_11 hM) ?_
              refine E_iload_n dX9_may_184 rfl rfl ?_
              refine E_iald dX9_may_185 rfl rfl (by decide) (lM_11 hM) (vin hP (by omega)) (vnat hP (by omega)) rfl ?_
              refine E_iconst (v := 3) dX9_may_186 (by decide) ?_
              refine E_icmp_ne (tgt := 195) dX9_may_187 (by decide) (fun h187 => ?_) (fun h187 => ?_)
              · refine E_iconst (v := 0) dX9_may_195 (by decide) ?_
                refine E_iret dX9_may_196 rfl rfl ?_
                refine ⟨congrArg (fun z => some (xI z)) ?_, rfl⟩; simp_all [-Int32.not_le, -Int32.not_lt]
              · refine E_bipush (v := 6) dX9_may_190 (by decide) ?_
                refine E_goto (tgt := 196) dX9_may_192 (by decide) ?_
                refine E_iret dX9_may_196 rfl rfl ?_
                refine ⟨congrArg (fun z => some (xI z)) ?_, rfl⟩; simp_all [-Int32.not_le, -Int32.not_lt]
            · refine E_iconst (v := 4) dX9_may_118 (by decide) ?_
              refine E_iret dX9_may_119 rfl rfl ?_
              refine ⟨congrArg (fun z => some (xI z)) ?_, rfl⟩; simp_all [-Int32.not_le, -Int32.not_lt]
          · refine E_iconst (v := 3) dX9_may_98 (by decide) ?_
            refine E_iret dX9_may_99 rfl rfl ?_
            refine ⟨congrArg (fun z => some (xI z)) ?_, rfl⟩; simp_all [-Int32.not_le, -Int32.not_lt]
    · refine E_iconst (v := 1) dX9_may_42 (by decide) ?_
      refine E_iret dX9_may_43 rfl rfl ?_
      refine ⟨congrArg (fun z => some (xI z)) ?_, rfl⟩; simp_all [-Int32.not_le, -Int32.not_lt]
  · refine E_iconst (v := 1) dX9_may_27 (by decide) ?_
    refine E_goto (tgt := 32) dX9_may_28 (by decide) ?_
    refine E_istore_n dX9_may_32 rfl (by decide) rfl ?_
    refine E_aload_n dX9_may_33 rfl rfl ?_
    refine E_getR dX9_may_34 fX9_92 rfl rfl rfl (rM_29 hM) ?_
    refine E_iload_n dX9_may_37 rfl rfl ?_
    refine E_zald dX9_may_38 rfl rfl (by decide) (lM_29 hM) (vin ht2 (by omega)) (vnat ht2 (by omega)) rfl ?_
    refine E_if_eq (tgt := 44) dX9_may_39 (by decide) (fun h39 => ?_) (fun h39 => ?_)
    · refine E_aload_n dX9_may_44 rfl rfl ?_
      refine E_getR dX9_may_45 fX9_77 rfl rfl rfl (rM_24 hM) ?_
      refine E_iload_n dX9_may_48 rfl rfl ?_
      refine E_iald dX9_may_49 rfl rfl (by decide) (lM_24 hM) (vin ht2 (by omega)) (vnat ht2 (by omega)) rfl ?_
      refine E_iconst (v := 4) dX9_may_50 (by decide) ?_
      refine E_icmp_ne (tgt := 63) dX9_may_51 (by decide) (fun h51 => ?_) (fun h51 => ?_)
      · refine E_aload_n dX9_may_63 rfl rfl ?_
        refine E_iload_n dX9_may_64 rfl rfl ?_
        refine E_callV (m2 := mX9_isClubbed) dX9_may_65 kX9_188 mzX9_isClubbed (c_r_isClubbed hM ht2) rfl ⟨_, _, rfl⟩ rfl rfl (by decide) (xs8 (Nat.le_of_ble_eq_true rfl)) (by first | exact Nat.le_of_ble_eq_true rfl | omega) (by first | exact Nat.le_of_ble_eq_true rfl | omega) ?_
        rintro _ _ ⟨rfl, rfl⟩; rw [if_neg (show ¬ ((gI S 74 0 t) = 2 ∨ (gI S 74 0 t) = 3) from fun z => z.elim k2 k3)]
        refine E_if_eq (tgt := 86) dX9_may_68 (by decide) (fun h68 => ?_) (fun h68 => absurd h68 (by decide))
        refine E_iload_n dX9_may_86 rfl rfl ?_
        refine E_if_ne (tgt := 100) dX9_may_87 (by decide) (fun h87 => ?_) (fun h87 => absurd h87 (by decide))
        refine E_iload_n dX9_may_100 rfl rfl ?_
        refine E_if_ne (tgt := 120) dX9_may_101 (by decide) (fun h101 => ?_) (fun h101 => absurd h101 (by decide))
        refine E_aload_n dX9_may_120 rfl rfl ?_
        refine E_getR dX9_may_121 fX9_77 rfl rfl rfl (rM_24 hM) ?_
        refine E_iload_n dX9_may_124 rfl rfl ?_
        refine E_iald dX9_may_125 rfl rfl (by decide) (lM_24 hM) (vin ht2 (by omega)) (vnat ht2 (by omega)) rfl ?_
        refine E_iconst (v := 3) dX9_may_126 (by decide) ?_
        refine E_icmp_ne (tgt := 180) dX9_may_127 (by decide) (fun h127 => ?_) (fun h127 => absurd h127 (k3))
        refine E_aload_n dX9_may_180 rfl rfl ?_
        refine E_getR dX9_may_181 fX9_41 rfl rfl rfl (rM_11 hM) ?_
        refine E_iload_n dX9_may_184 rfl rfl ?_
        refine E_iald dX9_may_185 rfl rfl (by decide) (lM_11 hM) (vin hP (by omega)) (vnat hP (by omega)) rfl ?_
        refine E_iconst (v := 3) dX9_may_186 (by decide) ?_
        refine E_icmp_ne (tgt := 195) dX9_may_187 (by decide) (fun h187 => ?_) (fun h187 => ?_)
        · refine E_iconst (v := 0) dX9_may_195 (by decide) ?_
          refine E_iret dX9_may_196 rfl rfl ?_
          refine ⟨congrArg (fun z => some (xI z)) ?_, rfl⟩; simp_all [-Int32.not_le, -Int32.not_lt]
        · refine E_bipush (v := 6) dX9_may_190 (by decide) ?_
          refine E_goto (tgt := 196) dX9_may_192 (by decide) ?_
          refine E_iret dX9_may_196 rfl rfl ?_
          refine ⟨congrArg (fun z => some (xI z)) ?_, rfl⟩; simp_all [-Int32.not_le, -Int32.not_lt]
      · refine E_aload_n dX9_may_54 rfl rfl ?_
        refine E_getR dX9_may_55 fX9_98 rfl rfl rfl (rM_31 hM) ?_
        refine E_iload_n dX9_may_58 rfl rfl ?_
        refine E_iald dX9_may_59 rfl rfl (by decide) (lM_31 hM) (vin ht2 (by omega)) (vnat ht2 (by omega)) rfl ?_
        refine E_if_gt (tgt := 84) dX9_may_60 (by decide) (fun h60 => ?_) (fun h60 => ?_)
        · refine E_iconst (v := 2) dX9_may_84 (by decide) ?_
          refine E_iret dX9_may_85 rfl rfl ?_
          refine ⟨congrArg (fun z => some (xI z)) ?_, rfl⟩; simp_all [-Int32.not_le, -Int32.not_lt]
        · refine E_aload_n dX9_may_63 rfl rfl ?_
          refine E_iload_n dX9_may_64 rfl rfl ?_
          refine E_callV (m2 := mX9_isClubbed) dX9_may_65 kX9_188 mzX9_isClubbed (c_r_isClubbed hM ht2) rfl ⟨_, _, rfl⟩ rfl rfl (by decide) (xs8 (Nat.le_of_ble_eq_true rfl)) (by first | exact Nat.le_of_ble_eq_true rfl | omega) (by first | exact Nat.le_of_ble_eq_true rfl | omega) ?_
          rintro _ _ ⟨rfl, rfl⟩; rw [if_neg (show ¬ ((gI S 74 0 t) = 2 ∨ (gI S 74 0 t) = 3) from fun z => z.elim k2 k3)]
          refine E_if_eq (tgt := 86) dX9_may_68 (by decide) (fun h68 => ?_) (fun h68 => absurd h68 (by decide))
          refine E_iload_n dX9_may_86 rfl rfl ?_
          refine E_if_ne (tgt := 100) dX9_may_87 (by decide) (fun h87 => ?_) (fun h87 => absurd h87 (by decide))
          refine E_iload_n dX9_may_100 rfl rfl ?_
          refine E_if_ne (tgt := 120) dX9_may_101 (by decide) (fun h101 => ?_) (fun h101 => absurd h101 (by decide))
          refine E_aload_n dX9_may_120 rfl rfl ?_
          refine E_getR dX9_may_121 fX9_77 rfl rfl rfl (rM_24 hM) ?_
          refine E_iload_n dX9_may_124 rfl rfl ?_
          refine E_iald dX9_may_125 rfl rfl (by decide) (lM_24 hM) (vin ht2 (by omega)) (vnat ht2 (by omega)) rfl ?_
          refine E_iconst (v := 3) dX9_may_126 (by decide) ?_
          refine E_icmp_ne (tgt := 180) dX9_may_127 (by decide) (fun h127 => ?_) (fun h127 => absurd h127 (k3))
          refine E_aload_n dX9_may_180 rfl rfl ?_
          refine E_getR dX9_may_181 fX9_41 rfl rfl rfl (rM_11 hM) ?_
          refine E_iload_n dX9_may_184 rfl rfl ?_
          refine E_iald dX9_may_185 rfl rfl (by decide) (lM_11 hM) (vin hP (by omega)) (vnat hP (by omega)) rfl ?_
          refine E_iconst (v := 3) dX9_may_186 (by decide) ?_
          refine E_icmp_ne (tgt := 195) dX9_may_187 (by decide) (fun h187 => ?_) (fun h187 => ?_)
          · refine E_iconst (v := 0) dX9_may_195 (by decide) ?_
            refine E_iret dX9_may_196 rfl rfl ?_
            refine ⟨congrArg (fun z => some (xI z)) ?_, rfl⟩; simp_all [-Int32.not_le, -Int32.not_lt]
          · refine E_bipush (v := 6) dX9_may_190 (by decide) ?_
            refine E_goto (tgt := 196) dX9_may_192 (by decide) ?_
            refine E_iret dX9_may_196 rfl rfl ?_
            refine ⟨congrArg (fun z => some (xI z)) ?_, rfl⟩; simp_all [-Int32.not_le, -Int32.not_lt]
    · refine E_iconst (v := 1) dX9_may_42 (by decide) ?_
      refine E_iret dX9_may_43 rfl rfl ?_
      refine ⟨congrArg (fun z => some (xI z)) ?_, rfl⟩; simp_all [-Int32.not_le, -Int32.not_lt]
theorem c_r_may_c {S : xS} (hM : xShM S) {T t P : Nat} (hT : (gI S 9 0 22) = nI T) (hT2 : T ≤ 200) (ht : t < T) (hP : P < 4) (hp : (gI S 73 0 t) = nI P) {c : Nat} (hc : c < 20) (hw : (gI S 75 0 t) = nI c) (k : (gI S 74 0 t) = 2 ∨ (gI S 74 0 t) = 3) : CC mX9_may 4 0 0 [xR (some (9, 0)), xI (nI t)] S (aI (xrmc S t P c T) S) := by
  refine CC_of mpX9_may rfl (Nat.le_of_ble_eq_true rfl) ?_
  have e0 : 0 ≤ nI t ∧ nI t ≤ (gI S 9 0 22) - 1 := by rw [hT]; exact (rng1 (by omega) (by omega)).mpr ht
  have ht2 : t < 200 := by omega
  have k4 : ¬ (gI S 74 0 t) = 4 := by rcases k with k | k <;> rw [k] <;> decide
  unfold xrmc xrw xr6
  refine E_aload_n dX9_may_0 rfl rfl ?_
  refine E_iload_n dX9_may_1 rfl rfl ?_
  refine E_callV (m2 := mX9_isTicket) dX9_may_2 kX9_185 mzX9_isTicket (c_isTicket _) rfl ⟨_, _, rfl⟩ rfl rfl (by decide) (xs8 (Nat.le_of_ble_eq_true rfl)) (by first | exact Nat.le_of_ble_eq_true rfl | omega) (by first | exact Nat.le_of_ble_eq_true rfl | omega) ?_
  rintro _ _ ⟨rfl, rfl⟩; rw [if_pos e0]
  refine E_if_ne (tgt := 10) dX9_may_5 (by decide) (fun h5 => ?_) (fun h5 => absurd h5 (by decide))
  refine E_aload_n dX9_may_10 rfl rfl ?_
  refine E_getR dX9_may_11 fX9_74 rfl rfl rfl (rM_23 hM) ?_
  refine E_iload_n dX9_may_14 rfl rfl ?_
  refine E_iald dX9_may_15 rfl rfl (by decide) (lM_23 hM) (vin ht2 (by omega)) (vnat ht2 (by omega)) hp ?_
  refine E_istore_n dX9_may_16 rfl (by decide) rfl ?_
  refine E_aload_n dX9_may_17 rfl rfl ?_
  refine E_getR dX9_may_18 fX9_77 rfl rfl rfl (rM_24 hM) ?_
  refine E_iload_n dX9_may_21 rfl rfl ?_
  refine E_iald dX9_may_22 rfl rfl (by decide) (lM_24 hM) (vin ht2 (by omega)) (vnat ht2 (by omega)) rfl ?_
  refine E_iconst (v := 5) dX9_may_23 (by decide) ?_
  refine E_icmp_ne (tgt := 31) dX9_may_24 (by decide) (fun h24 => ?_) (fun h24 => ?_)
  · refine E_iconst (v := 0) dX9_may_31 (by decide) ?_
    refine E_istore_n dX9_may_32 rfl (by decide) rfl ?_
    refine E_aload_n dX9_may_33 rfl rfl ?_
    refine E_getR dX9_may_34 fX9_92 rfl rfl rfl (rM_29 hM) ?_
    refine E_iload_n dX9_may_37 rfl rfl ?_
    refine E_zald dX9_may_38 rfl rfl (by decide) (lM_29 hM) (vin ht2 (by omega)) (vnat ht2 (by omega)) rfl ?_
    refine E_if_eq (tgt := 44) dX9_may_39 (by decide) (fun h39 => ?_) (fun h39 => ?_)
    · refine E_aload_n dX9_may_44 rfl rfl ?_
      refine E_getR dX9_may_45 fX9_77 rfl rfl rfl (rM_24 hM) ?_
      refine E_iload_n dX9_may_48 rfl rfl ?_
      refine E_iald dX9_may_49 rfl rfl (by decide) (lM_24 hM) (vin ht2 (by omega)) (vnat ht2 (by omega)) rfl ?_
      refine E_iconst (v := 4) dX9_may_50 (by decide) ?_
      refine E_icmp_ne (tgt := 63) dX9_may_51 (by decide) (fun h51 => ?_) (fun h51 => absurd h51 (k4))
      refine E_aload_n dX9_may_63 rfl rfl ?_
      refine E_iload_n dX9_may_64 rfl rfl ?_
      refine E_callV (m2 := mX9_isClubbed) dX9_may_65 kX9_188 mzX9_isClubbed (c_r_isClubbed hM ht2) rfl ⟨_, _, rfl⟩ rfl rfl (by decide) (xs8 (Nat.le_of_ble_eq_true rfl)) (by first | exact Nat.le_of_ble_eq_true rfl | omega) (by first | exact Nat.le_of_ble_eq_true rfl | omega) ?_
      rintro _ _ ⟨rfl, rfl⟩; rw [if_pos k]
      refine E_if_eq (tgt := 86) dX9_may_68 (by decide) (fun h68 => absurd h68 (by decide)) (fun h68 => ?_)
      refine E_aload_n dX9_may_71 rfl rfl ?_
      refine E_aload_n dX9_may_72 rfl rfl ?_
      refine E_getR dX9_may_73 fX9_80 rfl rfl rfl (rM_25 hM) ?_
      refine E_iload_n dX9_may_76 rfl rfl ?_
      refine E_iald dX9_may_77 rfl rfl (by decide) (lM_25 hM) (vin ht2 (by omega)) (vnat ht2 (by omega)) hw ?_
      refine E_callV (m2 := mX9_isThere) dX9_may_78 kX9_191 mzX9_isThere (c_r_isThere hM hc) rfl ⟨_, _, rfl⟩ rfl rfl (by decide) (xs8 (Nat.le_of_ble_eq_true rfl)) (by first | exact Nat.le_of_ble_eq_true rfl | omega) (by first | exact Nat.le_of_ble_eq_true rfl | omega) ?_
      rintro _ _ ⟨rfl, rfl⟩
      refine E_if_ne (tgt := 86) dX9_may_81 (by decide) (fun h81 => ?_) (fun h81 => ?_)
      · refine E_iload_n dX9_may_86 rfl rfl ?_
        refine E_if_ne (tgt := 100) dX9_may_87 (by decide) (fun h87 => absurd h87 (by decide)) (fun h87 => ?_)
        refine E_aload_n dX9_may_90 rfl rfl ?_
        refine E_iload_n dX9_may_91 rfl rfl ?_
        refine E_callV (m2 := mX9_reasons) dX9_may_92 kX9_151 mzX9_reasons (c_r_reasons hM hP) rfl ⟨_, _, rfl⟩ rfl rfl (by decide) (xs8 (Nat.le_of_ble_eq_true rfl)) (by first | exact Nat.le_of_ble_eq_true rfl | omega) (by first | exact Nat.le_of_ble_eq_true rfl | omega) ?_
        rintro _ _ ⟨rfl, rfl⟩
        refine E_if_le (tgt := 100) dX9_may_95 (by decide) (fun h95 => ?_) (fun h95 => ?_)
        · refine E_iload_n dX9_may_100 rfl rfl ?_
          refine E_if_ne (tgt := 120) dX9_may_101 (by decide) (fun h101 => absurd h101 (by decide)) (fun h101 => ?_)
          refine E_aload_n dX9_may_104 rfl rfl ?_
          refine E_iload_n dX9_may_105 rfl rfl ?_
          refine E_callV (m2 := mX9_mostNow) dX9_may_106 kX9_158 mzX9_mostNow (c_r_mostNow hM hP) rfl ⟨_, _, rfl⟩ rfl rfl (by decide) (xs8 (Nat.le_of_ble_eq_true rfl)) (by first | exact Nat.le_of_ble_eq_true rfl | omega) (by first | exact Nat.le_of_ble_eq_true rfl | omega) ?_
          rintro _ _ ⟨rfl, rfl⟩
          refine E_aload_n dX9_may_109 rfl rfl ?_
          refine E_getR dX9_may_110 fX9_13 rfl rfl rfl (rM_2 hM) ?_
          refine E_iload_n dX9_may_113 rfl rfl ?_
          refine E_iald dX9_may_114 rfl rfl (by decide) (lM_2 hM) (vin hP (by omega)) (vnat hP (by omega)) rfl ?_
          refine E_icmp_lt (tgt := 120) dX9_may_115 (by decide) (fun h115 => ?_) (fun h115 => ?_)
          · refine E_aload_n dX9_may_120 rfl rfl ?_
            refine E_getR dX9_may_121 fX9_77 rfl rfl rfl (rM_24 hM) ?_
            refine E_iload_n dX9_may_124 rfl rfl ?_
            refine E_iald dX9_may_125 rfl rfl (by decide) (lM_24 hM) (vin ht2 (by omega)) (vnat ht2 (by omega)) rfl ?_
            refine E_iconst (v := 3) dX9_may_126 (by decide) ?_
            refine E_icmp_ne (tgt := 180) dX9_may_127 (by decide) (fun h127 => ?_) (fun h127 => ?_)
            · refine E_aload_n dX9_may_180 rfl rfl ?_
              refine E_getR dX9_may_181 fX9_41 rfl rfl rfl (rM_11 hM) ?_
              refine E_iload_n dX9_may_184 rfl rfl ?_
              refine E_iald dX9_may_185 rfl rfl (by decide) (lM_11 hM) (vin hP (by omega)) (vnat hP (by omega)) rfl ?_
              refine E_iconst (v := 3) dX9_may_186 (by decide) ?_
              refine E_icmp_ne (tgt := 195) dX9_may_187 (by decide) (fun h187 => ?_) (fun h187 => ?_)
              · refine E_iconst (v := 0) dX9_may_195 (by decide) ?_
                refine E_iret dX9_may_196 rfl rfl ?_
                refine ⟨congrArg (fun z => some (xI z)) ?_, rfl⟩; simp_all [-Int32.not_le, -Int32.not_lt]
              · refine E_bipush (v := 6) dX9_may_190 (by decide) ?_
                refine E_goto (tgt := 196) dX9_may_192 (by decide) ?_
                refine E_iret dX9_may_196 rfl rfl ?_
                refine ⟨congrArg (fun z => some (xI z)) ?_, rfl⟩; simp_all [-Int32.not_le, -Int32.not_lt]
            · refine E_aload_n dX9_may_130 rfl rfl ?_
              refine E_getR dX9_may_131 fX9_83 rfl rfl rfl (rM_26 hM) ?_
              refine E_iload_n dX9_may_134 rfl rfl ?_
              refine E_zald dX9_may_135 rfl rfl (by decide) (lM_26 hM) (vin ht2 (by omega)) (vnat ht2 (by omega)) rfl ?_
              refine E_if_ne (tgt := 180) dX9_may_136 (by decide) (fun h136 => ?_) (fun h136 => ?_)
              · refine E_aload_n dX9_may_180 rfl rfl ?_
                refine E_getR dX9_may_181 fX9_41 rfl rfl rfl (rM_11 hM) ?_
                refine E_iload_n dX9_may_184 rfl rfl ?_
                refine E_iald dX9_may_185 rfl rfl (by decide) (lM_11 hM) (vin hP (by omega)) (vnat hP (by omega)) rfl ?_
                refine E_iconst (v := 3) dX9_may_186 (by decide) ?_
                refine E_icmp_ne (tgt := 195) dX9_may_187 (by decide) (fun h187 => ?_) (fun h187 => ?_)
                · refine E_iconst (v := 0) dX9_may_195 (by decide) ?_
                  refine E_iret dX9_may_196 rfl rfl ?_
                  refine ⟨congrArg (fun z => some (xI z)) ?_, rfl⟩; simp_all [-Int32.not_le, -Int32.not_lt]
                · refine E_bipush (v := 6) dX9_may_190 (by decide) ?_
                  refine E_goto (tgt := 196) dX9_may_192 (by decide) ?_
                  refine E_iret dX9_may_196 rfl rfl ?_
                  refine ⟨congrArg (fun z => some (xI z)) ?_, rfl⟩; simp_all [-Int32.not_le, -Int32.not_lt]
              · refine E_aload_n dX9_may_139 rfl rfl ?_
                refine E_aload_n dX9_may_140 rfl rfl ?_
                refine E_getR dX9_may_141 fX9_80 rfl rfl rfl (rM_25 hM) ?_
                refine E_iload_n dX9_may_144 rfl rfl ?_
                refine E_iald dX9_may_145 rfl rfl (by decide) (lM_25 hM) (vin ht2 (by omega)) (vnat ht2 (by omega)) hw ?_
                refine E_iconst (v := 0) dX9_may_146 (by decide) ?_
                refine E_callV (m2 := mX9_inSchool) dX9_may_147 kX9_194 mzX9_inSchool (c_r_inSchool hM hT hT2 (nI c) 0) rfl ⟨_, _, rfl⟩ rfl rfl (by decide) (xs8 (Nat.le_of_ble_eq_true rfl)) (by first | exact Nat.le_of_ble_eq_true rfl | omega) (by first | exact Nat.le_of_ble_eq_true rfl | omega) ?_
                rintro _ _ ⟨rfl, rfl⟩
                refine E_iconst (v := 1) dX9_may_150 (by decide) ?_
                refine E_iadd dX9_may_151 ?_
                refine E_aload_n dX9_may_152 rfl rfl ?_
                refine E_getR dX9_may_153 fX9_126 rfl rfl rfl (rM_41 hM) ?_
                refine E_aload_n dX9_may_156 rfl rfl ?_
                refine E_getR dX9_may_157 fX9_80 rfl rfl rfl (rM_25 hM) ?_
                refine E_iload_n dX9_may_160 rfl rfl ?_
                refine E_iald dX9_may_161 rfl rfl (by decide) (lM_25 hM) (vin ht2 (by omega)) (vnat ht2 (by omega)) hw ?_
                refine E_iald dX9_may_162 rfl rfl (by decide) (lM_41 hM) (vin hc (by omega)) (vnat hc (by omega)) rfl ?_
                refine E_aload_n dX9_may_163 rfl rfl ?_
                refine E_aload_n dX9_may_164 rfl rfl ?_
                refine E_getR dX9_may_165 fX9_80 rfl rfl rfl (rM_25 hM) ?_
                refine E_iload_n dX9_may_168 rfl rfl ?_
                refine E_iald dX9_may_169 rfl rfl (by decide) (lM_25 hM) (vin ht2 (by omega)) (vnat ht2 (by omega)) hw ?_
                refine E_iconst (v := 1) dX9_may_170 (by decide) ?_
                refine E_callV (m2 := mX9_inSchool) dX9_may_171 kX9_194 mzX9_inSchool (c_r_inSchool hM hT hT2 (nI c) 1) rfl ⟨_, _, rfl⟩ rfl rfl (by decide) (xs8 (Nat.le_of_ble_eq_true rfl)) (by first | exact Nat.le_of_ble_eq_true rfl | omega) (by first | exact Nat.le_of_ble_eq_true rfl | omega) ?_
                rintro _ _ ⟨rfl, rfl⟩
                refine E_imul dX9_may_174 ?_
                refine E_icmp_le (tgt := 180) dX9_may_175 (by decide) (fun h175 => ?_) (fun h175 => ?_)
                · refine E_aload_n dX9_may_180 rfl rfl ?_
                  refine E_getR dX9_may_181 fX9_41 rfl rfl rfl (rM_11 hM) ?_
                  refine E_iload_n dX9_may_184 rfl rfl ?_
                  refine E_iald dX9_may_185 rfl rfl (by decide) (lM_11 hM) (vin hP (by omega)) (vnat hP (by omega)) rfl ?_
                  refine E_iconst (v := 3) dX9_may_186 (by decide) ?_
                  refine E_icmp_ne (tgt := 195) dX9_may_187 (by decide) (fun h187 => ?_) (fun h187 => ?_)
                  · refine E_iconst (v := 0) dX9_may_195 (by decide) ?_
                    refine E_iret dX9_may_196 rfl rfl ?_
                    refine ⟨congrArg (fun z => some (xI z)) ?_, rfl⟩; simp_all [-Int32.not_le, -Int32.not_lt]
                  · refine E_bipush (v := 6) dX9_may_190 (by decide) ?_
                    refine E_goto (tgt := 196) dX9_may_192 (by decide) ?_
                    refine E_iret dX9_may_196 rfl rfl ?_
                    refine ⟨congrArg (fun z => some (xI z)) ?_, rfl⟩; simp_all [-Int32.not_le, -Int32.not_lt]
                · refine E_iconst (v := 5) dX9_may_178 (by decide) ?_
                  refine E_iret dX9_may_179 rfl rfl ?_
                  refine ⟨congrArg (fun z => some (xI z)) ?_, rfl⟩; simp_all [-Int32.not_le, -Int32.not_lt]
          · refine E_iconst (v := 4) dX9_may_118 (by decide) ?_
            refine E_iret dX9_may_119 rfl rfl ?_
            refine ⟨congrArg (fun z => some (xI z)) ?_, rfl⟩; simp_all [-Int32.not_le, -Int32.not_lt]
        · refine E_iconst (v := 3) dX9_may_98 (by decide) ?_
          refine E_iret dX9_may_99 rfl rfl ?_
          refine ⟨congrArg (fun z => some (xI z)) ?_, rfl⟩; simp_all [-Int32.not_le, -Int32.not_lt]
      · refine E_iconst (v := 2) dX9_may_84 (by decide) ?_
        refine E_iret dX9_may_85 rfl rfl ?_
        refine ⟨congrArg (fun z => some (xI z)) ?_, rfl⟩; simp_all [-Int32.not_le, -Int32.not_lt]
    · refine E_iconst (v := 1) dX9_may_42 (by decide) ?_
      refine E_iret dX9_may_43 rfl rfl ?_
      refine ⟨congrArg (fun z => some (xI z)) ?_, rfl⟩; simp_all [-Int32.not_le, -Int32.not_lt]
  · refine E_iconst (v := 1) dX9_may_27 (by decide) ?_
    refine E_goto (tgt := 32) dX9_may_28 (by decide) ?_
    refine E_istore_n dX9_may_32 rfl (by decide) rfl ?_
    refine E_aload_n dX9_may_33 rfl rfl ?_
    refine E_getR dX9_may_34 fX9_92 rfl rfl rfl (rM_29 hM) ?_
    refine E_iload_n dX9_may_37 rfl rfl ?_
    refine E_zald dX9_may_38 rfl rfl (by decide) (lM_29 hM) (vin ht2 (by omega)) (vnat ht2 (by omega)) rfl ?_
    refine E_if_eq (tgt := 44) dX9_may_39 (by decide) (fun h39 => ?_) (fun h39 => ?_)
    · refine E_aload_n dX9_may_44 rfl rfl ?_
      refine E_getR dX9_may_45 fX9_77 rfl rfl rfl (rM_24 hM) ?_
      refine E_iload_n dX9_may_48 rfl rfl ?_
      refine E_iald dX9_may_49 rfl rfl (by decide) (lM_24 hM) (vin ht2 (by omega)) (vnat ht2 (by omega)) rfl ?_
      refine E_iconst (v := 4) dX9_may_50 (by decide) ?_
      refine E_icmp_ne (tgt := 63) dX9_may_51 (by decide) (fun h51 => ?_) (fun h51 => absurd h51 (k4))
      refine E_aload_n dX9_may_63 rfl rfl ?_
      refine E_iload_n dX9_may_64 rfl rfl ?_
      refine E_callV (m2 := mX9_isClubbed) dX9_may_65 kX9_188 mzX9_isClubbed (c_r_isClubbed hM ht2) rfl ⟨_, _, rfl⟩ rfl rfl (by decide) (xs8 (Nat.le_of_ble_eq_true rfl)) (by first | exact Nat.le_of_ble_eq_true rfl | omega) (by first | exact Nat.le_of_ble_eq_true rfl | omega) ?_
      rintro _ _ ⟨rfl, rfl⟩; rw [if_pos k]
      refine E_if_eq (tgt := 86) dX9_may_68 (by decide) (fun h68 => absurd h68 (by decide)) (fun h68 => ?_)
      refine E_aload_n dX9_may_71 rfl rfl ?_
      refine E_aload_n dX9_may_72 rfl rfl ?_
      refine E_getR dX9_may_73 fX9_80 rfl rfl rfl (rM_25 hM) ?_
      refine E_iload_n dX9_may_76 rfl rfl ?_
      refine E_iald dX9_may_77 rfl rfl (by decide) (lM_25 hM) (vin ht2 (by omega)) (vnat ht2 (by omega)) hw ?_
      refine E_callV (m2 := mX9_isThere) dX9_may_78 kX9_191 mzX9_isThere (c_r_isThere hM hc) rfl ⟨_, _, rfl⟩ rfl rfl (by decide) (xs8 (Nat.le_of_ble_eq_true rfl)) (by first | exact Nat.le_of_ble_eq_true rfl | omega) (by first | exact Nat.le_of_ble_eq_true rfl | omega) ?_
      rintro _ _ ⟨rfl, rfl⟩
      refine E_if_ne (tgt := 86) dX9_may_81 (by decide) (fun h81 => ?_) (fun h81 => ?_)
      · refine E_iload_n dX9_may_86 rfl rfl ?_
        refine E_if_ne (tgt := 100) dX9_may_87 (by decide) (fun h87 => ?_) (fun h87 => absurd h87 (by decide))
        refine E_iload_n dX9_may_100 rfl rfl ?_
        refine E_if_ne (tgt := 120) dX9_may_101 (by decide) (fun h101 => ?_) (fun h101 => absurd h101 (by decide))
        refine E_aload_n dX9_may_120 rfl rfl ?_
        refine E_getR dX9_may_121 fX9_77 rfl rfl rfl (rM_24 hM) ?_
        refine E_iload_n dX9_may_124 rfl rfl ?_
        refine E_iald dX9_may_125 rfl rfl (by decide) (lM_24 hM) (vin ht2 (by omega)) (vnat ht2 (by omega)) rfl ?_
        refine E_iconst (v := 3) dX9_may_126 (by decide) ?_
        refine E_icmp_ne (tgt := 180) dX9_may_127 (by decide) (fun h127 => ?_) (fun h127 => ?_)
        · refine E_aload_n dX9_may_180 rfl rfl ?_
          refine E_getR dX9_may_181 fX9_41 rfl rfl rfl (rM_11 hM) ?_
          refine E_iload_n dX9_may_184 rfl rfl ?_
          refine E_iald dX9_may_185 rfl rfl (by decide) (lM_11 hM) (vin hP (by omega)) (vnat hP (by omega)) rfl ?_
          refine E_iconst (v := 3) dX9_may_186 (by decide) ?_
          refine E_icmp_ne (tgt := 195) dX9_may_187 (by decide) (fun h187 => ?_) (fun h187 => ?_)
          · refine E_iconst (v := 0) dX9_may_195 (by decide) ?_
            refine E_iret dX9_may_196 rfl rfl ?_
            refine ⟨congrArg (fun z => some (xI z)) ?_, rfl⟩; simp_all [-Int32.not_le, -Int32.not_lt]
          · refine E_bipush (v := 6) dX9_may_190 (by decide) ?_
            refine E_goto (tgt := 196) dX9_may_192 (by decide) ?_
            refine E_iret dX9_may_196 rfl rfl ?_
            refine ⟨congrArg (fun z => some (xI z)) ?_, rfl⟩; simp_all [-Int32.not_le, -Int32.not_lt]
        · refine E_aload_n dX9_may_130 rfl rfl ?_
          refine E_getR dX9_may_131 fX9_83 rfl rfl rfl (rM_26 hM) ?_
          refine E_iload_n dX9_may_134 rfl rfl ?_
          refine E_zald dX9_may_135 rfl rfl (by decide) (lM_26 hM) (vin ht2 (by omega)) (vnat ht2 (by omega)) rfl ?_
          refine E_if_ne (tgt := 180) dX9_may_136 (by decide) (fun h136 => ?_) (fun h136 => ?_)
          · refine E_aload_n dX9_may_180 rfl rfl ?_
            refine E_getR dX9_may_181 fX9_41 rfl rfl rfl (rM_11 hM) ?_
            refine E_iload_n dX9_may_184 rfl rfl ?_
            refine E_iald dX9_may_185 rfl rfl (by decide) (lM_11 hM) (vin hP (by omega)) (vnat hP (by omega)) rfl ?_
            refine E_iconst (v := 3) dX9_may_186 (by decide) ?_
            refine E_icmp_ne (tgt := 195) dX9_may_187 (by decide) (fun h187 => ?_) (fun h187 => ?_)
            · refine E_iconst (v := 0) dX9_may_195 (by decide) ?_
              refine E_iret dX9_may_196 rfl rfl ?_
              refine ⟨congrArg (fun z => some (xI z)) ?_, rfl⟩; simp_all [-Int32.not_le, -Int32.not_lt]
            · refine E_bipush (v := 6) dX9_may_190 (by decide) ?_
              refine E_goto (tgt := 196) dX9_may_192 (by decide) ?_
              refine E_iret dX9_may_196 rfl rfl ?_
              refine ⟨congrArg (fun z => some (xI z)) ?_, rfl⟩; simp_all [-Int32.not_le, -Int32.not_lt]
          · refine E_aload_n dX9_may_139 rfl rfl ?_
            refine E_aload_n dX9_may_140 rfl rfl ?_
            refine E_getR dX9_may_141 fX9_80 rfl rfl rfl (rM_25 hM) ?_
            refine E_iload_n dX9_may_144 rfl rfl ?_
            refine E_iald dX9_may_145 rfl rfl (by decide) (lM_25 hM) (vin ht2 (by omega)) (vnat ht2 (by omega)) hw ?_
            refine E_iconst (v := 0) dX9_may_146 (by decide) ?_
            refine E_callV (m2 := mX9_inSchool) dX9_may_147 kX9_194 mzX9_inSchool (c_r_inSchool hM hT hT2 (nI c) 0) rfl ⟨_, _, rfl⟩ rfl rfl (by decide) (xs8 (Nat.le_of_ble_eq_true rfl)) (by first | exact Nat.le_of_ble_eq_true rfl | omega) (by first | exact Nat.le_of_ble_eq_true rfl | omega) ?_
            rintro _ _ ⟨rfl, rfl⟩
            refine E_iconst (v := 1) dX9_may_150 (by decide) ?_
            refine E_iadd dX9_may_151 ?_
            refine E_aload_n dX9_may_152 rfl rfl ?_
            refine E_getR dX9_may_153 fX9_126 rfl rfl rfl (rM_41 hM) ?_
            refine E_aload_n dX9_may_156 rfl rfl ?_
            refine E_getR dX9_may_157 fX9_80 rfl rfl rfl (rM_25 hM) ?_
            refine E_iload_n dX9_may_160 rfl rfl ?_
            refine E_iald dX9_may_161 rfl rfl (by decide) (lM_25 hM) (vin ht2 (by omega)) (vnat ht2 (by omega)) hw ?_
            refine E_iald dX9_may_162 rfl rfl (by decide) (lM_41 hM) (vin hc (by omega)) (vnat hc (by omega)) rfl ?_
            refine E_aload_n dX9_may_163 rfl rfl ?_
            refine E_aload_n dX9_may_164 rfl rfl ?_
            refine E_getR dX9_may_165 fX9_80 rfl rfl rfl (rM_25 hM) ?_
            refine E_iload_n dX9_may_168 rfl rfl ?_
            refine E_iald dX9_may_169 rfl rfl (by decide) (lM_25 hM) (vin ht2 (by omega)) (vnat ht2 (by omega)) hw ?_
            refine E_iconst (v := 1) dX9_may_170 (by decide) ?_
            refine E_callV (m2 := mX9_inSchool) dX9_may_171 kX9_194 mzX9_inSchool (c_r_inSchool hM hT hT2 (nI c) 1) rfl ⟨_, _, rfl⟩ rfl rfl (by decide) (xs8 (Nat.le_of_ble_eq_true rfl)) (by first | exact Nat.le_of_ble_eq_true rfl | omega) (by first | exact Nat.le_of_ble_eq_true rfl | omega) ?_
            rintro _ _ ⟨rfl, rfl⟩
            refine E_imul dX9_may_174 ?_
            refine E_icmp_le (tgt := 180) dX9_may_175 (by decide) (fun h175 => ?_) (fun h175 => ?_)
            · refine E_aload_n dX9_may_180 rfl rfl ?_
              refine E_getR dX9_may_181 fX9_41 rfl rfl rfl (rM_11 hM) ?_
              refine E_iload_n dX9_may_184 rfl rfl ?_
              refine E_iald dX9_may_185 rfl rfl (by decide) (lM_11 hM) (vin hP (by omega)) (vnat hP (by omega)) rfl ?_
              refine E_iconst (v := 3) dX9_may_186 (by decide) ?_
              refine E_icmp_ne (tgt := 195) dX9_may_187 (by decide) (fun h187 => ?_) (fun h187 => ?_)
              · refine E_iconst (v := 0) dX9_may_195 (by decide) ?_
                refine E_iret dX9_may_196 rfl rfl ?_
                refine ⟨congrArg (fun z => some (xI z)) ?_, rfl⟩; simp_all [-Int32.not_le, -Int32.not_lt]
              · refine E_bipush (v := 6) dX9_may_190 (by decide) ?_
                refine E_goto (tgt := 196) dX9_may_192 (by decide) ?_
                refine E_iret dX9_may_196 rfl rfl ?_
                refine ⟨congrArg (fun z => some (xI z)) ?_, rfl⟩; simp_all [-Int32.not_le, -Int32.not_lt]
            · refine E_iconst (v := 5) dX9_may_178 (by decide) ?_
              refine E_iret dX9_may_179 rfl rfl ?_
              refine ⟨congrArg (fun z => some (xI z)) ?_, rfl⟩; simp_all [-Int32.not_le, -Int32.not_lt]
      · refine E_iconst (v := 2) dX9_may_84 (by decide) ?_
        refine E_iret dX9_may_85 rfl rfl ?_
        refine ⟨congrArg (fun z => some (xI z)) ?_, rfl⟩; simp_all [-Int32.not_le, -Int32.not_lt]
    · refine E_iconst (v := 1) dX9_may_42 (by decide) ?_
      refine E_iret dX9_may_43 rfl rfl ?_
      refine ⟨congrArg (fun z => some (xI z)) ?_, rfl⟩; simp_all [-Int32.not_le, -Int32.not_lt]
