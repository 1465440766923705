/-! the reference's turn -/
theorem E_lcmp {mm : xM} {d cb sb : Nat} {X : Nat × (Nat → Int32)} {Q : Option xV → xS → Prop} {pc : Nat} {ls : List (Option xV)} {st : List xV} {S : xS} {x y : Int64} (hd : decode mm.2.1 pc = .ok (.lcmp, 1)) (k : Ex mm d cb sb X Q (pc + 1) ls (xI (lg_cmp x y) :: st) S) : Ex mm d cb sb X Q pc ls (xJ y :: xJ x :: st) S := by
  intro _ p l e R s m args below meth c H locs cells slots D A al cA L Qf lsA hC hX hH hS hL ho hc hs hK
  exact W.lcmp hC.1 hC.2.1 hd (k () hC hX hH hS hL (xo_c xo_I (xo_t (xo_t ho))) hc hs hK)
/-- what is due, what so many hours give -/
def xdue (S : xS) (P : Nat) (x : Int32) : Int64 := (gI S 92 0 P).toInt64 * (100 + x).toInt64
def xgiv (S : xS) (P h : Nat) : Int64 := 100 * (gI S 93 0 P).toInt64 * (nI h).toInt64
def xrtn (S : xS) : xS := match xbst (fun h => gI S 94 0 h) (fun h => gI S 95 0 h) 24 with
  | none => S
  | some b => (sI (sI S 95 0 b 1) 9 0 47 ((gI S 9 0 47) + (gI S 94 0 b)))
def xrclr (S : xS) : Nat → xS
  | 0 => S
  | n + 1 => (sI (xrclr S n) 95 0 n 0)
def xrtk (S : xS) : Nat → xS
  | 0 => S
  | n + 1 => xrtn (xrtk S n)
theorem xrtn_2 {S : xS} : (xrtn S).2 = S.2 := by unfold xrtn; split <;> rfl
theorem xrtk_2 {S : xS} : ∀ n, (xrtk S n).2 = S.2
  | 0 => rfl
  | n + 1 => (xrtn_2 (S := xrtk S n)).trans (xrtk_2 n)
theorem xrclr_2 {S : xS} : ∀ n, (xrclr S n).2 = S.2
  | 0 => rfl
  | n + 1 => xrclr_2 n
def xrtc (S : xS) (m : Nat) : xS := xrtk (xrclr (sI (sI S 9 0 46 1) 9 0 47 0) 24) m
theorem c_r_turn_n {S : xS} (hM : xShM S) (p x : Int32) (h : ¬ xhas S p) : CC mX9_turn 3 0 0 [xR (some (9, 0)), xI p, xI x] S (aI (-1) S) := by
  refine CC_of mpX9_turn rfl (Nat.le_of_ble_eq_true rfl) ?_
  refine E_aload_n dX9_turn_0 rfl rfl ?_
  refine E_iload_n dX9_turn_1 rfl rfl ?_
  refine E_callV (m2 := mX9_has) dX9_turn_2 kX9_165 mzX9_has (c_has_n hM p h) rfl ⟨_, _, rfl⟩ rfl rfl (by decide) (xs8 (Nat.le_of_ble_eq_true rfl)) (by first | exact Nat.le_of_ble_eq_true rfl | omega) (by first | exact Nat.le_of_ble_eq_true rfl | omega) ?_
  rintro _ _ ⟨rfl, rfl⟩
  refine E_if_eq (tgt := 28) dX9_turn_5 (by decide) (fun h5 => ?_) (fun h5 => absurd h5 (by decide))
  refine E_iconst (v := -1) dX9_turn_28 (by decide) ?_
  refine E_iret dX9_turn_29 rfl rfl ?_
  exact ⟨rfl, rfl⟩
theorem c_r_turn_o {S : xS} (hM : xShM S) {P : Nat} (hP : P < 4) (h : ¬ (gI S 51 0 P) = 0) (x : Int32) (hn : ¬ (¬ (gI S 92 0 P) = 0 ∧ 0 ≤ x ∧ x ≤ 1000)) : CC mX9_turn 3 0 0 [xR (some (9, 0)), xI (nI P), xI x] S (aI (-1) S) := by
  refine CC_of mpX9_turn rfl (Nat.le_of_ble_eq_true rfl) ?_
  refine E_aload_n dX9_turn_0 rfl rfl ?_
  refine E_iload_n dX9_turn_1 rfl rfl ?_
  refine E_callV (m2 := mX9_has) dX9_turn_2 kX9_165 mzX9_has (c_has_y hM hP h) rfl ⟨_, _, rfl⟩ rfl rfl (by decide) (xs8 (Nat.le_of_ble_eq_true rfl)) (by first | exact Nat.le_of_ble_eq_true rfl | omega) (by first | exact Nat.le_of_ble_eq_true rfl | omega) ?_
  rintro _ _ ⟨rfl, rfl⟩
  refine E_if_eq (tgt := 28) dX9_turn_5 (by decide) (fun h5 => absurd h5 (by decide)) (fun h5 => ?_)
  refine E_aload_n dX9_turn_8 rfl rfl ?_
  refine E_getR dX9_turn_9 fX9_129 rfl rfl rfl (rM_42 hM) ?_
  refine E_iload_n dX9_turn_12 rfl rfl ?_
  refine E_iald dX9_turn_13 rfl rfl (by decide) (lM_42 hM) (vin hP (by omega)) (vnat hP (by omega)) rfl ?_
  refine E_if_eq (tgt := 28) dX9_turn_14 (by decide) (fun h14 => ?_) (fun h14 => ?_)
  · refine E_iconst (v := -1) dX9_turn_28 (by decide) ?_
    refine E_iret dX9_turn_29 rfl rfl ?_
    exact ⟨rfl, rfl⟩
  · refine E_iload_n dX9_turn_17 rfl rfl ?_
    refine E_iconst (v := 0) dX9_turn_18 (by decide) ?_
    refine E_sipush (v := 1000) dX9_turn_19 (by decide) ?_
    refine E_callS (m2 := mX9_in) dX9_turn_22 kX9_141 mzX9_in (c_X9_in _ _ _) rfl rfl (by decide) (xs8 (Nat.le_of_ble_eq_true rfl)) (by first | exact Nat.le_of_ble_eq_true rfl | omega) (by first | exact Nat.le_of_ble_eq_true rfl | omega) ?_
    rintro _ _ ⟨rfl, rfl⟩
    refine E_if_ne (tgt := 30) dX9_turn_25 (by decide) (fun h25 => ?_) (fun h25 => ?_)
    · exact absurd ⟨h14, ite1 h25⟩ hn
    · refine E_iconst (v := -1) dX9_turn_28 (by decide) ?_
      refine E_iret dX9_turn_29 rfl rfl ?_
      exact ⟨rfl, rfl⟩
theorem lgc_ge {x y : Int64} (h : ¬ x < y) : 0 ≤ lg_cmp x y := by
  unfold lg_cmp
  split
  · decide
  · rename_i h2
    have e : x = y := by
      rw [gt_iff_lt, Int64.lt_iff_toInt_lt] at h2
      rw [Int64.lt_iff_toInt_lt] at h
      exact Int64.toInt_inj.mp (by omega)
    rw [if_pos e]; decide
theorem lgc_lt {x y : Int64} (h : x < y) : ¬ 0 ≤ lg_cmp x y := by
  unfold lg_cmp
  have e : ¬ x = y := fun z => by rw [z, Int64.lt_iff_toInt_lt] at h; omega
  have e2 : ¬ y < x := fun z => by rw [Int64.lt_iff_toInt_lt] at h z; omega
  rw [if_neg e2, if_neg e]
  decide
theorem l_r_turn1 {S : xS} (hM : xShM S) {P : Nat} (hP : P < 4) (x : Int32) {m : Nat} (hm : m ≤ 25) (hl : ∀ h, h < m → xgiv S P h < xdue S P x) (hs : m = 25 ∨ ¬ xgiv S P m < xdue S P x) {Q : Option xV → xS → Prop} (hk : Ex mX9_turn 3 0 0 (0, fun _ => 0) Q 80 [some (xR (some (9, 0))), some (xI (nI P)), some (xI x), some (xJ (xdue S P x)), none, some (xI (nI m)), none, none, none] [] S) : ∀ (n h : Nat), h + n = m → Ex mX9_turn 3 0 0 (0, fun _ => 0) Q 47 [some (xR (some (9, 0))), some (xI (nI P)), some (xI x), some (xJ (xdue S P x)), none, some (xI (nI h)), none, none, none] [] S
  | 0, h, hi => by
    have hi : h = m := by omega
    subst hi
    rcases hs with hs | hs
    · subst hs
      refine E_iload dX9_turn_47 rfl ?_
      refine E_bipush (v := 24) dX9_turn_49 (by decide) ?_
      refine E_icmp_gt (tgt := 80) dX9_turn_51 (by decide) (fun h51 => hk) (fun h51 => absurd (nI_lt (a := 24) (b := 25) (by omega) (by omega)) h51)
    · by_cases h25 : h = 25
      · subst h25
        refine E_iload dX9_turn_47 rfl ?_
        refine E_bipush (v := 24) dX9_turn_49 (by decide) ?_
        refine E_icmp_gt (tgt := 80) dX9_turn_51 (by decide) (fun h51 => hk) (fun h51 => absurd (nI_lt (a := 24) (b := 25) (by omega) (by omega)) h51)
      · refine E_iload dX9_turn_47 rfl ?_
        refine E_bipush (v := 24) dX9_turn_49 (by decide) ?_
        refine E_icmp_gt (tgt := 80) dX9_turn_51 (by decide) (fun h51 => absurd h51 (nI_nlt (a := 24) (b := h) (by omega) (by omega))) (fun h51 => ?_)
        refine E_ldc2 dX9_turn_54 oX9_217 ?_
        refine E_aload_n dX9_turn_57 rfl rfl ?_
        refine E_getR dX9_turn_58 fX9_132 rfl rfl rfl (rM_43 hM) ?_
        refine E_iload_n dX9_turn_61 rfl rfl ?_
        refine E_iald dX9_turn_62 rfl rfl (by decide) (lM_43 hM) (vin hP (by omega)) (vnat hP (by omega)) rfl ?_
        refine E_i2l dX9_turn_63 ?_
        refine E_lmul dX9_turn_64 ?_
        refine E_iload dX9_turn_65 rfl ?_
        refine E_i2l dX9_turn_67 ?_
        refine E_lmul dX9_turn_68 ?_
        refine E_lload_n dX9_turn_69 rfl rfl ?_
        refine E_lcmp dX9_turn_70 ?_
        refine E_if_ge (tgt := 80) dX9_turn_71 (by decide) (fun h71 => hk) (fun h71 => absurd (lgc_ge hs) h71)
  | n + 1, h, hi => by
    have hlt := hl h (by omega)
    refine E_iload dX9_turn_47 rfl ?_
    refine E_bipush (v := 24) dX9_turn_49 (by decide) ?_
    refine E_icmp_gt (tgt := 80) dX9_turn_51 (by decide) (fun h51 => absurd h51 (nI_nlt (a := 24) (b := h) (by omega) (by omega))) (fun h51 => ?_)
    refine E_ldc2 dX9_turn_54 oX9_217 ?_
    refine E_aload_n dX9_turn_57 rfl rfl ?_
    refine E_getR dX9_turn_58 fX9_132 rfl rfl rfl (rM_43 hM) ?_
    refine E_iload_n dX9_turn_61 rfl rfl ?_
    refine E_iald dX9_turn_62 rfl rfl (by decide) (lM_43 hM) (vin hP (by omega)) (vnat hP (by omega)) rfl ?_
    refine E_i2l dX9_turn_63 ?_
    refine E_lmul dX9_turn_64 ?_
    refine E_iload dX9_turn_65 rfl ?_
    refine E_i2l dX9_turn_67 ?_
    refine E_lmul dX9_turn_68 ?_
    refine E_lload_n dX9_turn_69 rfl rfl ?_
    refine E_lcmp dX9_turn_70 ?_
    refine E_if_ge (tgt := 80) dX9_turn_71 (by decide) (fun h71 => absurd h71 (lgc_lt hlt)) (fun h71 => ?_)
    refine E_iinc (v := nI (h + 1)) dX9_turn_74 rfl (nI_i1 h) (by decide) rfl ?_
    refine E_goto (tgt := 47) dX9_turn_77 (by decide) ?_
    exact l_r_turn1 hM hP x hm hl hs hk n (h + 1) (by omega)
/-- the best hour, looked for -/
theorem l_r_turn3 {S : xS} (hM : xShM S) {b : Nat} (hb : xbst (fun h => gI S 94 0 h) (fun h => gI S 95 0 h) 24 = some b) (P x h i : Int32) (D : Int64) {Q : Option xV → xS → Prop} (hk : ∀ o, Ex mX9_turn 3 0 0 (0, fun _ => 0) Q 190 [some (xR (some (9, 0))), some (xI P), some (xI x), some (xJ D), none, some (xI h), some (xI i), some (xI (nI b)), o] [] S) : ∀ (n j : Nat), j + n = 24 → ∀ v, v = xon (xbst (fun h => gI S 94 0 h) (fun h => gI S 95 0 h) j) → Ex mX9_turn 3 0 0 (0, fun _ => 0) Q 140 [some (xR (some (9, 0))), some (xI P), some (xI x), some (xJ D), none, some (xI h), some (xI i), some (xI v), some (xI (nI j))] [] S
  | 0, j, hj, v, hv => by
    have hj : j = 24 := by omega
    subst hj
    rw [hb] at hv
    have hv : v = nI b := hv
    subst hv
    refine E_iload dX9_turn_140 rfl ?_
    refine E_bipush (v := 24) dX9_turn_142 (by decide) ?_
    refine E_icmp_ge (tgt := 190) dX9_turn_144 (by decide) (fun h144 => ?_) (fun h144 => absurd h144 ((fun z => z (nI_le (a := 24) (b := 24) (by omega) (by omega)))))
    exact hk _
  | n + 1, j, hj, v, hv => by
    have hlt : ∀ c, xbst (fun h => gI S 94 0 h) (fun h => gI S 95 0 h) j = some c → c < 24 := fun c hc => by have := xbst_lt _ _ _ _ hc; omega
    cases hc : xbst (fun h => gI S 94 0 h) (fun h => gI S 95 0 h) j with
    | none =>
      have hv1 : v = -1 := by rw [hv, hc]; rfl
      refine E_iload dX9_turn_140 rfl ?_
      refine E_bipush (v := 24) dX9_turn_142 (by decide) ?_
      refine E_icmp_ge (tgt := 190) dX9_turn_144 (by decide) (fun h144 => absurd h144 ((nI_ge (a := j) (b := 24) (by omega) (by omega)))) (fun h144 => ?_)
      refine E_aload_n dX9_turn_147 rfl rfl ?_
      refine E_getR dX9_turn_148 fX9_138 rfl rfl rfl (rM_45 hM) ?_
      refine E_iload dX9_turn_151 rfl ?_
      refine E_zald dX9_turn_153 rfl rfl (by decide) (lM_45 hM) (vin (by omega : j < 24) (by omega)) (vnat (by omega : j < 24) (by omega)) rfl ?_
      refine E_if_ne (tgt := 184) dX9_turn_154 (by decide) (fun h154 => ?_) (fun h154 => ?_)
      · refine E_iinc (v := nI (j + 1)) dX9_turn_184 rfl (nI_i1 j) (by decide) rfl ?_
        refine E_goto (tgt := 140) dX9_turn_187 (by decide) ?_
        refine l_r_turn3 hM hb P x h i D hk n (j + 1) (by omega) _ ?_
        first | (rw [xbst, if_pos (by first | exact Decidable.byContradiction h154 | exact h154), hc]; rfl) | (rw [xbst, if_neg h154]; exact hv)
      · refine E_iload dX9_turn_157 rfl ?_
        refine E_iconst (v := -1) dX9_turn_159 (by decide) ?_
        refine E_icmp_eq (tgt := 180) dX9_turn_160 (by decide) (fun h160 => ?_) (fun h160 => absurd h160 (fun z => z hv1))
        refine E_iload dX9_turn_180 rfl ?_
        refine E_istore dX9_turn_182 (by decide) rfl ?_
        refine E_iinc (v := nI (j + 1)) dX9_turn_184 rfl (nI_i1 j) (by decide) rfl ?_
        refine E_goto (tgt := 140) dX9_turn_187 (by decide) ?_
        refine l_r_turn3 hM hb P x h i D hk n (j + 1) (by omega) _ ?_
        first | (rw [xbst, if_pos (by first | exact Decidable.byContradiction h154 | exact h154), hc]; rfl) | (rw [xbst, if_neg h154]; exact hv)
    | some c =>
      have hl := hlt c hc
      have hv1 : v = nI c := by rw [hv, hc]; rfl
      subst hv1
      have hne : ¬ nI c = -1 := fun z => by rw [fa_eq, nI_toInt (by omega)] at z; rw [show (-1 : Int32).toInt = -1 from by decide] at z; omega
      refine E_iload dX9_turn_140 rfl ?_
      refine E_bipush (v := 24) dX9_turn_142 (by decide) ?_
      refine E_icmp_ge (tgt := 190) dX9_turn_144 (by decide) (fun h144 => absurd h144 ((nI_ge (a := j) (b := 24) (by omega) (by omega)))) (fun h144 => ?_)
      refine E_aload_n dX9_turn_147 rfl rfl ?_
      refine E_getR dX9_turn_148 fX9_138 rfl rfl rfl (rM_45 hM) ?_
      refine E_iload dX9_turn_151 rfl ?_
      refine E_zald dX9_turn_153 rfl rfl (by decide) (lM_45 hM) (vin (by omega : j < 24) (by omega)) (vnat (by omega : j < 24) (by omega)) rfl ?_
      refine E_if_ne (tgt := 184) dX9_turn_154 (by decide) (fun h154 => ?_) (fun h154 => ?_)
      · refine E_iinc (v := nI (j + 1)) dX9_turn_184 rfl (nI_i1 j) (by decide) rfl ?_
        refine E_goto (tgt := 140) dX9_turn_187 (by decide) ?_
        refine l_r_turn3 hM hb P x h i D hk n (j + 1) (by omega) _ ?_
        first | (rw [xbst, if_neg h154]; exact hv) | (rw [xbst, if_pos h154, hc]; show _ = xon (if gI S 94 0 j < gI S 94 0 c then some j else some c); first | (rw [if_neg (Int32.not_lt.mpr h177)]; rfl) | (rw [if_pos (Int32.not_le.mp h177)]; rfl))
      · refine E_iload dX9_turn_157 rfl ?_
        refine E_iconst (v := -1) dX9_turn_159 (by decide) ?_
        refine E_icmp_eq (tgt := 180) dX9_turn_160 (by decide) (fun h160 => absurd h160 (hne)) (fun h160 => ?_)
        refine E_aload_n dX9_turn_163 rfl rfl ?_
        refine E_getR dX9_turn_164 fX9_135 rfl rfl rfl (rM_44 hM) ?_
        refine E_iload dX9_turn_167 rfl ?_
        refine E_iald dX9_turn_169 rfl rfl (by decide) (lM_44 hM) (vin (by omega : j < 24) (by omega)) (vnat (by omega : j < 24) (by omega)) rfl ?_
        refine E_aload_n dX9_turn_170 rfl rfl ?_
        refine E_getR dX9_turn_171 fX9_135 rfl rfl rfl (rM_44 hM) ?_
        refine E_iload dX9_turn_174 rfl ?_
        refine E_iald dX9_turn_176 rfl rfl (by decide) (lM_44 hM) (vin hl (by omega)) (vnat hl (by omega)) rfl ?_
        refine E_icmp_ge (tgt := 184) dX9_turn_177 (by decide) (fun h177 => ?_) (fun h177 => ?_)
        · refine E_iinc (v := nI (j + 1)) dX9_turn_184 rfl (nI_i1 j) (by decide) rfl ?_
          refine E_goto (tgt := 140) dX9_turn_187 (by decide) ?_
          refine l_r_turn3 hM hb P x h i D hk n (j + 1) (by omega) _ ?_
          first | (rw [xbst, if_neg h154]; exact hv) | (rw [xbst, if_pos h154, hc]; show _ = xon (if gI S 94 0 j < gI S 94 0 c then some j else some c); first | (rw [if_neg (Int32.not_lt.mpr h177)]; rfl) | (rw [if_pos (Int32.not_le.mp h177)]; rfl))
        · refine E_iload dX9_turn_180 rfl ?_
          refine E_istore dX9_turn_182 (by decide) rfl ?_
          refine E_iinc (v := nI (j + 1)) dX9_turn_184 rfl (nI_i1 j) (by decide) rfl ?_
          refine E_goto (tgt := 140) dX9_turn_187 (by decide) ?_
          refine l_r_turn3 hM hb P x h i D hk n (j + 1) (by omega) _ ?_
          first | (rw [xbst, if_neg h154]; exact hv) | (rw [xbst, if_pos h154, hc]; show _ = xon (if gI S 94 0 j < gI S 94 0 c then some j else some c); first | (rw [if_neg (Int32.not_lt.mpr h177)]; rfl) | (rw [if_pos (Int32.not_le.mp h177)]; rfl))
theorem l_r_turn2 {S : xS} (hM0 : xShM S) (P x : Int32) (D : Int64) {m : Nat} (hm : m ≤ 24) (hb : ∀ i, i < m → ∃ b, xbst (fun h => gI (xrtk S i) 94 0 h) (fun h => gI (xrtk S i) 95 0 h) 24 = some b) : ∀ (n i : Nat), i + n = m → ∀ o7 o8, Ex mX9_turn 3 0 0 (0, fun _ => 0) (aI (nI m) (xrtk S m)) 127 [some (xR (some (9, 0))), some (xI P), some (xI x), some (xJ D), none, some (xI (nI m)), some (xI (nI i)), o7, o8] [] (xrtk S i)
  | 0, i, hi, o7, o8 => by
    have hi : i = m := by omega
    subst hi
    refine E_iload dX9_turn_127 rfl ?_
    refine E_iload dX9_turn_129 rfl ?_
    refine E_icmp_ge (tgt := 220) dX9_turn_131 (by decide) (fun h131 => ?_) (fun h131 => absurd h131 ((fun z => z (nI_le (a := i) (b := i) (by omega) (by omega)))))
    refine E_iload dX9_turn_220 rfl ?_
    refine E_iret dX9_turn_222 rfl rfl ?_
    exact ⟨rfl, rfl⟩
  | n + 1, i, hi, o7, o8 => by
    have hM := xShM_2 hM0 (xrtk_2 (S := S) i)
    obtain ⟨b, hb1⟩ := hb i (by omega)
    have hb2 := xbst_lt _ _ _ _ hb1
    have e : xrtk S (i + 1) = (sI (sI (xrtk S i) 95 0 b 1) 9 0 47 ((gI (xrtk S i) 9 0 47) + (gI (xrtk S i) 94 0 b))) := by
      show xrtn (xrtk S i) = _
      unfold xrtn
      rw [hb1]
    have ih := l_r_turn2 hM0 P x D hm hb n (i + 1) (by omega)
    rw [e] at ih
    refine E_iload dX9_turn_127 rfl ?_
    refine E_iload dX9_turn_129 rfl ?_
    refine E_icmp_ge (tgt := 220) dX9_turn_131 (by decide) (fun h131 => absurd h131 ((nI_ge (a := i) (b := m) (by omega) (by omega)))) (fun h131 => ?_)
    refine E_iconst (v := -1) dX9_turn_134 (by decide) ?_
    refine E_istore dX9_turn_135 (by decide) rfl ?_
    refine E_iconst (v := 0) dX9_turn_137 (by decide) ?_
    refine E_istore dX9_turn_138 (by decide) rfl ?_
    refine l_r_turn3 hM hb1 P x (nI m) (nI i) D ?_ 24 0 rfl (-1) rfl
    intro o
    refine E_aload_n dX9_turn_190 rfl rfl ?_
    refine E_getR dX9_turn_191 fX9_138 rfl rfl rfl (rM_45 hM) ?_
    refine E_iload dX9_turn_194 rfl ?_
    refine E_iconst (v := 1) dX9_turn_196 (by decide) ?_
    refine E_zast dX9_turn_197 rfl rfl (by decide) (lM_45 hM) (vin hb2 (by omega)) (vnat hb2 (by omega)) rfl ?_
    refine E_aload_n dX9_turn_198 rfl rfl ?_
    refine E_dup dX9_turn_199 rfl ?_
    refine E_getI dX9_turn_200 fX9_223 rfl rfl rfl rfl ?_
    refine E_aload_n dX9_turn_203 rfl rfl ?_
    refine E_getR dX9_turn_204 fX9_135 rfl rfl rfl (rM_44 hM) ?_
    refine E_iload dX9_turn_207 rfl ?_
    refine E_iald dX9_turn_209 rfl rfl (by decide) (lM_44 hM) (vin hb2 (by omega)) (vnat hb2 (by omega)) rfl ?_
    refine E_iadd dX9_turn_210 ?_
    refine E_putI dX9_turn_211 fX9_223 rfl rfl rfl rfl rfl ?_
    refine E_iinc (v := nI (i + 1)) dX9_turn_214 rfl (nI_i1 i) (by decide) rfl ?_
    refine E_goto (tgt := 127) dX9_turn_217 (by decide) ?_
    exact ih _ _
theorem l_r_turn4 {S : xS} (hM0 : xShM S) (P x h : Int32) (D : Int64) {Q : Option xV → xS → Prop} (hk : ∀ o, Ex mX9_turn 3 0 0 (0, fun _ => 0) Q 124 [some (xR (some (9, 0))), some (xI P), some (xI x), some (xJ D), none, some (xI h), o, none, none] [] (xrclr S 24)) : ∀ (n i : Nat), i + n = 24 → Ex mX9_turn 3 0 0 (0, fun _ => 0) Q 103 [some (xR (some (9, 0))), some (xI P), some (xI x), some (xJ D), none, some (xI h), some (xI (nI i)), none, none] [] (xrclr S i)
  | 0, i, hi => by
    have hi : i = 24 := by omega
    subst hi
    refine E_iload dX9_turn_103 rfl ?_
    refine E_bipush (v := 24) dX9_turn_105 (by decide) ?_
    refine E_icmp_ge (tgt := 124) dX9_turn_107 (by decide) (fun h107 => ?_) (fun h107 => absurd h107 ((fun z => z (nI_le (a := 24) (b := 24) (by omega) (by omega)))))
    exact hk _
  | n + 1, i, hi => by
    have hM := xShM_2 hM0 (xrclr_2 (S := S) i)
    refine E_iload dX9_turn_103 rfl ?_
    refine E_bipush (v := 24) dX9_turn_105 (by decide) ?_
    refine E_icmp_ge (tgt := 124) dX9_turn_107 (by decide) (fun h107 => absurd h107 ((nI_ge (a := i) (b := 24) (by omega) (by omega)))) (fun h107 => ?_)
    refine E_aload_n dX9_turn_110 rfl rfl ?_
    refine E_getR dX9_turn_111 fX9_138 rfl rfl rfl (rM_45 hM) ?_
    refine E_iload dX9_turn_114 rfl ?_
    refine E_iconst (v := 0) dX9_turn_116 (by decide) ?_
    refine E_zast dX9_turn_117 rfl rfl (by decide) (lM_45 hM) (vin (by omega : i < 24) (by omega)) (vnat (by omega : i < 24) (by omega)) rfl ?_
    refine E_iinc (v := nI (i + 1)) dX9_turn_118 rfl (nI_i1 i) (by decide) rfl ?_
    refine E_goto (tgt := 103) dX9_turn_121 (by decide) ?_
    exact l_r_turn4 hM0 P x h D hk n (i + 1) (by omega)
theorem c_r_turn_m {S : xS} (hM : xShM S) {P : Nat} (hP : P < 4) (h : ¬ (gI S 51 0 P) = 0) (x : Int32) (hn : ¬ (gI S 92 0 P) = 0 ∧ 0 ≤ x ∧ x ≤ 1000) (hl : ∀ h, h < 25 → xgiv S P h < xdue S P x) : CC mX9_turn 3 0 0 [xR (some (9, 0)), xI (nI P), xI x] S (aI 25 S) := by
  refine CC_of mpX9_turn rfl (Nat.le_of_ble_eq_true rfl) ?_
  refine E_aload_n dX9_turn_0 rfl rfl ?_
  refine E_iload_n dX9_turn_1 rfl rfl ?_
  refine E_callV (m2 := mX9_has) dX9_turn_2 kX9_165 mzX9_has (c_has_y hM hP h) rfl ⟨_, _, rfl⟩ rfl rfl (by decide) (xs8 (Nat.le_of_ble_eq_true rfl)) (by first | exact Nat.le_of_ble_eq_true rfl | omega) (by first | exact Nat.le_of_ble_eq_true rfl | omega) ?_
  rintro _ _ ⟨rfl, rfl⟩
  refine E_if_eq (tgt := 28) dX9_turn_5 (by decide) (fun h5 => absurd h5 (by decide)) (fun h5 => ?_)
  refine E_aload_n dX9_turn_8 rfl rfl ?_
  refine E_getR dX9_turn_9 fX9_129 rfl rfl rfl (rM_42 hM) ?_
  refine E_iload_n dX9_turn_12 rfl rfl ?_
  refine E_iald dX9_turn_13 rfl rfl (by decide) (lM_42 hM) (vin hP (by omega)) (vnat hP (by omega)) rfl ?_
  refine E_if_eq (tgt := 28) dX9_turn_14 (by decide) (fun h14 => absurd h14 (hn.1)) (fun h14 => ?_)
  refine E_iload_n dX9_turn_17 rfl rfl ?_
  refine E_iconst (v := 0) dX9_turn_18 (by decide) ?_
  refine E_sipush (v := 1000) dX9_turn_19 (by decide) ?_
  refine E_callS (m2 := mX9_in) dX9_turn_22 kX9_141 mzX9_in (c_X9_in _ _ _) rfl rfl (by decide) (xs8 (Nat.le_of_ble_eq_true rfl)) (by first | exact Nat.le_of_ble_eq_true rfl | omega) (by first | exact Nat.le_of_ble_eq_true rfl | omega) ?_
  rintro _ _ ⟨rfl, rfl⟩; rw [if_pos hn.2]
  refine E_if_ne (tgt := 30) dX9_turn_25 (by decide) (fun h25 => ?_) (fun h25 => absurd h25 (by decide))
  refine E_aload_n dX9_turn_30 rfl rfl ?_
  refine E_getR dX9_turn_31 fX9_129 rfl rfl rfl (rM_42 hM) ?_
  refine E_iload_n dX9_turn_34 rfl rfl ?_
  refine E_iald dX9_turn_35 rfl rfl (by decide) (lM_42 hM) (vin hP (by omega)) (vnat hP (by omega)) rfl ?_
  refine E_i2l dX9_turn_36 ?_
  refine E_bipush (v := 100) dX9_turn_37 (by decide) ?_
  refine E_iload_n dX9_turn_39 rfl rfl ?_
  refine E_iadd dX9_turn_40 ?_
  refine E_i2l dX9_turn_41 ?_
  refine E_lmul dX9_turn_42 ?_
  refine E_lstore_n dX9_turn_43 rfl (by decide) rfl ?_
  refine E_iconst (v := 0) dX9_turn_44 (by decide) ?_
  refine E_istore dX9_turn_45 (by decide) rfl ?_
  refine l_r_turn1 hM hP x (m := 25) (by omega) hl (Or.inl rfl) ?_ 25 0 rfl
  refine E_iload dX9_turn_80 rfl ?_
  refine E_bipush (v := 24) dX9_turn_82 (by decide) ?_
  refine E_icmp_le (tgt := 90) dX9_turn_84 (by decide) (fun h84 => absurd h84 (nI_ge (a := 24) (b := 25) (by omega) (by omega))) (fun h84 => ?_)
  refine E_bipush (v := 25) dX9_turn_87 (by decide) ?_
  refine E_iret dX9_turn_89 rfl rfl ?_
  exact ⟨rfl, rfl⟩
theorem c_r_turn_s {S : xS} (hM : xShM S) {P : Nat} (hP : P < 4) (h : ¬ (gI S 51 0 P) = 0) (x : Int32) (hn : ¬ (gI S 92 0 P) = 0 ∧ 0 ≤ x ∧ x ≤ 1000) {m : Nat} (hm : m ≤ 24) (hl : ∀ h, h < m → xgiv S P h < xdue S P x) (hs : ¬ xgiv S P m < xdue S P x) (hb : ∀ i, i < m → ∃ b, xbst (fun h => gI (xrtk (xrclr (sI (sI S 9 0 46 1) 9 0 47 0) 24) i) 94 0 h) (fun h => gI (xrtk (xrclr (sI (sI S 9 0 46 1) 9 0 47 0) 24) i) 95 0 h) 24 = some b) : CC mX9_turn 3 0 0 [xR (some (9, 0)), xI (nI P), xI x] S (aI (nI m) (xrtc S m)) := by
  refine CC_of mpX9_turn rfl (Nat.le_of_ble_eq_true rfl) ?_
  have hM2 := xShM_2 (S := (sI (sI S 9 0 46 1) 9 0 47 0)) hM (xrclr_2 24)
  have key := l_r_turn4 (S := (sI (sI S 9 0 46 1) 9 0 47 0)) hM (nI P) x (nI m) (xdue S P x) (Q := aI (nI m) (xrtc S m)) (fun o => by
    refine E_iconst (v := 0) dX9_turn_124 (by decide) ?_
    refine E_istore dX9_turn_125 (by decide) rfl ?_
    exact l_r_turn2 hM2 (nI P) x (xdue S P x) hm hb m 0 (by omega) none none) 24 0 rfl
  refine E_aload_n dX9_turn_0 rfl rfl ?_
  refine E_iload_n dX9_turn_1 rfl rfl ?_
  refine E_callV (m2 := mX9_has) dX9_turn_2 kX9_165 mzX9_has (c_has_y hM hP h) rfl ⟨_, _, rfl⟩ rfl rfl (by decide) (xs8 (Nat.le_of_ble_eq_true rfl)) (by first | exact Nat.le_of_ble_eq_true rfl | omega) (by first | exact Nat.le_of_ble_eq_true rfl | omega) ?_
  rintro _ _ ⟨rfl, rfl⟩
  refine E_if_eq (tgt := 28) dX9_turn_5 (by decide) (fun h5 => absurd h5 (by decide)) (fun h5 => ?_)
  refine E_aload_n dX9_turn_8 rfl rfl ?_
  refine E_getR dX9_turn_9 fX9_129 rfl rfl rfl (rM_42 hM) ?_
  refine E_iload_n dX9_turn_12 rfl rfl ?_
  refine E_iald dX9_turn_13 rfl rfl (by decide) (lM_42 hM) (vin hP (by omega)) (vnat hP (by omega)) rfl ?_
  refine E_if_eq (tgt := 28) dX9_turn_14 (by decide) (fun h14 => absurd h14 (hn.1)) (fun h14 => ?_)
  refine E_iload_n dX9_turn_17 rfl rfl ?_
  refine E_iconst (v := 0) dX9_turn_18 (by decide) ?_
  refine E_sipush (v := 1000) dX9_turn_19 (by decide) ?_
  refine E_callS (m2 := mX9_in) dX9_turn_22 kX9_141 mzX9_in (c_X9_in _ _ _) rfl rfl (by decide) (xs8 (Nat.le_of_ble_eq_true rfl)) (by first | exact Nat.le_of_ble_eq_true rfl | omega) (by first | exact Nat.le_of_ble_eq_true rfl | omega) ?_
  rintro _ _ ⟨rfl, rfl⟩; rw [if_pos hn.2]
  refine E_if_ne (tgt := 30) dX9_turn_25 (by decide) (fun h25 => ?_) (fun h25 => absurd h25 (by decide))
  refine E_aload_n dX9_turn_30 rfl rfl ?_
  refine E_getR dX9_turn_31 fX9_129 rfl rfl rfl (rM_42 hM) ?_
  refine E_iload_n dX9_turn_34 rfl rfl ?_
  refine E_iald dX9_turn_35 rfl rfl (by decide) (lM_42 hM) (vin hP (by omega)) (vnat hP (by omega)) rfl ?_
  refine E_i2l dX9_turn_36 ?_
  refine E_bipush (v := 100) dX9_turn_37 (by decide) ?_
  refine E_iload_n dX9_turn_39 rfl rfl ?_
  refine E_iadd dX9_turn_40 ?_
  refine E_i2l dX9_turn_41 ?_
  refine E_lmul dX9_turn_42 ?_
  refine E_lstore_n dX9_turn_43 rfl (by decide) rfl ?_
  refine E_iconst (v := 0) dX9_turn_44 (by decide) ?_
  refine E_istore dX9_turn_45 (by decide) rfl ?_
  refine l_r_turn1 hM hP x (m := m) (by omega) hl (Or.inr hs) ?_ m 0 (by omega)
  refine E_iload dX9_turn_80 rfl ?_
  refine E_bipush (v := 24) dX9_turn_82 (by decide) ?_
  refine E_icmp_le (tgt := 90) dX9_turn_84 (by decide) (fun h84 => ?_) (fun h84 => absurd (nI_le (a := m) (b := 24) hm (by omega)) h84)
  refine E_aload_n dX9_turn_90 rfl rfl ?_
  refine E_iconst (v := 1) dX9_turn_91 (by decide) ?_
  refine E_putI dX9_turn_92 fX9_219 rfl rfl rfl rfl rfl ?_
  refine E_aload_n dX9_turn_95 rfl rfl ?_
  refine E_iconst (v := 0) dX9_turn_96 (by decide) ?_
  refine E_putI dX9_turn_97 fX9_223 rfl rfl rfl rfl rfl ?_
  refine E_iconst (v := 0) dX9_turn_100 (by decide) ?_
  refine E_istore dX9_turn_101 (by decide) rfl ?_
  exact key
