/-! BathHouse: loops over pools and clubs -/
theorem ite1 {c : Prop} [Decidable c] (h : ¬ (if c then (1 : Int32) else 0) = 0) : c := Decidable.byContradiction fun z => h (if_neg z)
theorem ite0 {c : Prop} [Decidable c] (h : (if c then (1 : Int32) else 0) = 0) : ¬ c := fun z => by rw [if_pos z] at h; exact absurd h (by decide)
/-- a pool's minute ends -/
def xem1 (S : xS) (p n : Nat) (x : Int32) : xS := (sI (sI (xsf (sI S 3 p 9 ((gI S 3 p 9) + (if xrs S p n x = 0 then 0 else 1))) p (xln S p) (xmn S p)) 1 p 5 0) 1 p 6 0)
/-- the minute ends for the first pools -/
def xem (S : xS) (nP : Nat → Nat) (x : Int32) : Nat → xS
  | 0 => S
  | p + 1 => if gR S 10 0 p = none then xem S nP x p else xem1 (xem S nP x p) p (nP p) x
theorem xem_2 {S : xS} {nP : Nat → Nat} {x : Int32} : ∀ p, (xem S nP x p).2 = S.2
  | 0 => rfl
  | p + 1 => by
    unfold xem
    split
    · exact xem_2 p
    · exact (show (xem1 (xem S nP x p) p (nP p) x).2 = (xem S nP x p).2 from rfl).trans (xem_2 p)
theorem xem_8 {S : xS} {nP : Nat → Nat} {x : Int32} {a b c : Nat} (h3 : a ≠ 3) (h1 : a ≠ 1) : ∀ p, gI (xem S nP x p) a b c = gI S a b c
  | 0 => rfl
  | p + 1 => by
    unfold xem
    split
    · exact xem_8 h3 h1 p
    · unfold xem1 xsf
      simp only [gI_sI, h3, h1, false_and, if_false]
      exact xem_8 h3 h1 p
theorem xShP_2 {S S' : xS} {p n : Nat} (h : xShP S p n) (e : S'.2 = S.2) : xShP S' p n := by
  obtain ⟨a, b⟩ := S
  obtain ⟨a', b'⟩ := S'
  cases e
  exact h
def xpok (S : xS) (nP : Nat → Nat) : Prop := ∀ p, p < 4 → gR S 10 0 p = none ∨ (gR S 10 0 p = some (3, p) ∧ xShP S p (nP p))
theorem l_X8_endMinute {S : xS} (hX : xShX S) {nP : Nat → Nat} (hq : xpok S nP) : ∀ (n i : Nat), i + n = 4 → ∀ (o : Option xV), Ex mX8_endMinute 5 0 0 (0, fun _ => 0) (aV (xem S nP (gI S 8 0 5) 4)) 2 [some (xR (some (8, 0))), some (xI (nI i)), o] [] (xem S nP (gI S 8 0 5) i)
  | 0, i, hi, o => by
    have hi : i = 4 := by omega
    subst hi
    refine E_iload_n dX8_endMinute_2 rfl rfl ?_
    refine E_iconst (v := 4) dX8_endMinute_3 (by decide) ?_
    refine E_icmp_ge (tgt := 32) dX8_endMinute_4 (by decide) (fun h4 => ?_) (fun h4 => absurd h4 ((fun z => z (nI_le (a := 4) (b := 4) (by omega) (by omega)))))
    refine E_vret dX8_endMinute_32 rfl ?_
    exact ⟨rfl, rfl⟩
  | n + 1, i, hi, o => by
    have hX2 := xShX_2 hX (xem_2 (S := S) (nP := nP) (x := (gI S 8 0 5)) i)
    rcases hq i (by omega) with hr | ⟨hr, hp⟩
    · have hr2 := (gR_2 (xem_2 (S := S) (nP := nP) (x := (gI S 8 0 5)) i) 10 0 i).trans hr
      refine E_iload_n dX8_endMinute_2 rfl rfl ?_
      refine E_iconst (v := 4) dX8_endMinute_3 (by decide) ?_
      refine E_icmp_ge (tgt := 32) dX8_endMinute_4 (by decide) (fun h4 => absurd h4 ((nI_ge (a := i) (b := 4) (by omega) (by omega)))) (fun h4 => ?_)
      refine E_aload_n dX8_endMinute_7 rfl rfl ?_
      refine E_getR dX8_endMinute_8 fX8_11 rfl rfl rfl (rX_8_0 hX2) ?_
      refine E_iload_n dX8_endMinute_11 rfl rfl ?_
      refine E_aald dX8_endMinute_12 rfl rfl (by decide) (lX_10 hX2) (vin (by omega : i < 4) (by omega)) (vnat (by omega : i < 4) (by omega)) hr2 ?_
      refine E_astore_n dX8_endMinute_13 rfl (by decide) rfl ?_
      refine E_aload_n dX8_endMinute_14 rfl rfl ?_
      refine E_ifnull (tgt := 26) dX8_endMinute_15 (by decide) (fun h15 => ?_) (fun q15 h15 => absurd h15 (by intro z; cases z))
      refine E_iinc (v := nI (i + 1)) dX8_endMinute_26 rfl (nI_i1 i) (by decide) rfl ?_
      refine E_goto (tgt := 2) dX8_endMinute_29 (by decide) ?_
      have e : xem S nP (gI S 8 0 5) (i + 1) = xem S nP (gI S 8 0 5) i := by rw [xem, if_pos hr]
      rw [← e]
      exact l_X8_endMinute hX hq n (i + 1) (by omega) _
    · have hr2 := (gR_2 (xem_2 (S := S) (nP := nP) (x := (gI S 8 0 5)) i) 10 0 i).trans hr
      have hp2 := xShP_2 hp (xem_2 (S := S) (nP := nP) (x := (gI S 8 0 5)) i)
      refine E_iload_n dX8_endMinute_2 rfl rfl ?_
      refine E_iconst (v := 4) dX8_endMinute_3 (by decide) ?_
      refine E_icmp_ge (tgt := 32) dX8_endMinute_4 (by decide) (fun h4 => absurd h4 ((nI_ge (a := i) (b := 4) (by omega) (by omega)))) (fun h4 => ?_)
      refine E_aload_n dX8_endMinute_7 rfl rfl ?_
      refine E_getR dX8_endMinute_8 fX8_11 rfl rfl rfl (rX_8_0 hX2) ?_
      refine E_iload_n dX8_endMinute_11 rfl rfl ?_
      refine E_aald dX8_endMinute_12 rfl rfl (by decide) (lX_10 hX2) (vin (by omega : i < 4) (by omega)) (vnat (by omega : i < 4) (by omega)) hr2 ?_
      refine E_astore_n dX8_endMinute_13 rfl (by decide) rfl ?_
      refine E_aload_n dX8_endMinute_14 rfl rfl ?_
      refine E_ifnull (tgt := 26) dX8_endMinute_15 (by decide) (fun h15 => ?_) (fun q15 h15 => ?_)
      · cases h15
      · refine E_aload_n dX8_endMinute_18 rfl rfl ?_
        refine E_aload_n dX8_endMinute_19 rfl rfl ?_
        refine E_getI dX8_endMinute_20 fX8_45 rfl rfl rfl (xem_8 (by decide) (by decide) i) ?_
        refine E_callV (m2 := mX3_endMinute) dX8_endMinute_23 kX8_320 mzX3_endMinute (c_X3_endMinute i (nP i) hp2 _) rfl ⟨_, _, rfl⟩ rfl rfl (by decide) (xs8 (Nat.le_of_ble_eq_true rfl)) (by first | exact Nat.le_of_ble_eq_true rfl | omega) (by first | exact Nat.le_of_ble_eq_true rfl | omega) ?_
        rintro _ _ ⟨rfl, rfl⟩
        refine E_iinc (v := nI (i + 1)) dX8_endMinute_26 rfl (nI_i1 i) (by decide) rfl ?_
        refine E_goto (tgt := 2) dX8_endMinute_29 (by decide) ?_
        have e : xem S nP (gI S 8 0 5) (i + 1) = xem1 (xem S nP (gI S 8 0 5) i) i (nP i) (gI S 8 0 5) := by rw [xem, if_neg (by rw [hr]; intro z; cases z)]
        show Ex _ _ _ _ _ _ _ _ _ (xem1 (xem S nP (gI S 8 0 5) i) i (nP i) (gI S 8 0 5))
        rw [← e]
        exact l_X8_endMinute hX hq n (i + 1) (by omega) _
theorem c_endMinute {S : xS} (hX : xShX S) {nP : Nat → Nat} (hq : xpok S nP) : CC mX8_endMinute 5 0 0 [xR (some (8, 0))] S (aV (xem S nP (gI S 8 0 5) 4)) := by
  refine CC_of mpX8_endMinute rfl (Nat.le_of_ble_eq_true rfl) ?_
  refine E_iconst (v := 0) dX8_endMinute_0 (by decide) ?_
  refine E_istore_n dX8_endMinute_1 rfl (by decide) rfl ?_
  exact l_X8_endMinute hX hq 4 0 rfl _
/-- minutes go by -/
def xgm (S : xS) (nP : Nat → Nat) : Nat → xS
  | 0 => S
  | i + 1 => (sI (xem (xgm S nP i) nP (gI (xgm S nP i) 8 0 5) 4) 8 0 5 ((gI (xem (xgm S nP i) nP (gI (xgm S nP i) 8 0 5) 4) 8 0 5) + 1))
theorem xgm_2 {S : xS} {nP : Nat → Nat} : ∀ i, (xgm S nP i).2 = S.2
  | 0 => rfl
  | i + 1 => (show (xgm S nP (i + 1)).2 = (xem (xgm S nP i) nP (gI (xgm S nP i) 8 0 5) 4).2 from rfl).trans ((xem_2 4).trans (xgm_2 i))
theorem xpok_2 {S S' : xS} {nP : Nat → Nat} (h : xpok S nP) (e : S'.2 = S.2) : xpok S' nP := fun p hp => by
  rw [gR_2 e]
  rcases h p hp with h | ⟨h1, h2⟩
  · exact Or.inl h
  · exact Or.inr ⟨h1, xShP_2 h2 e⟩
theorem l_X8_go {S : xS} (hX : xShX S) {nP : Nat → Nat} (hq : xpok S nP) {m : Nat} (hm : m < 1000) : ∀ (n i : Nat), i + n = m → Ex mX8_go 6 0 0 (0, fun _ => 0) (aI (gI (xgm S nP m) 8 0 5) (xgm S nP m)) 27 [some (xR (some (8, 0))), some (xI (nI m)), some (xI (nI i))] [] (xgm S nP i)
  | 0, i, hi => by
    have hi : i = m := by omega
    subst hi
    refine E_iload_n dX8_go_27 rfl rfl ?_
    refine E_iload_n dX8_go_28 rfl rfl ?_
    refine E_icmp_ge (tgt := 52) dX8_go_29 (by decide) (fun h29 => ?_) (fun h29 => absurd h29 ((fun z => z (nI_le (a := i) (b := i) (by omega) (by omega)))))
    refine E_aload_n dX8_go_52 rfl rfl ?_
    refine E_getI dX8_go_53 fX8_45 rfl rfl rfl rfl ?_
    refine E_iret dX8_go_56 rfl rfl ?_
    exact ⟨rfl, rfl⟩
  | n + 1, i, hi => by
    refine E_iload_n dX8_go_27 rfl rfl ?_
    refine E_iload_n dX8_go_28 rfl rfl ?_
    refine E_icmp_ge (tgt := 52) dX8_go_29 (by decide) (fun h29 => absurd h29 ((nI_ge (a := i) (b := m) (by omega) (by omega)))) (fun h29 => ?_)
    refine E_aload_n dX8_go_32 rfl rfl ?_
    refine E_callV (m2 := mX8_endMinute) dX8_go_33 kX8_55 mzX8_endMinute (c_endMinute (xShX_2 hX (xgm_2 i)) (xpok_2 hq (xgm_2 i))) rfl ⟨_, _, rfl⟩ rfl rfl (by decide) (xs8 (Nat.le_of_ble_eq_true rfl)) (by first | exact Nat.le_of_ble_eq_true rfl | omega) (by first | exact Nat.le_of_ble_eq_true rfl | omega) ?_
    rintro _ _ ⟨rfl, rfl⟩
    refine E_aload_n dX8_go_36 rfl rfl ?_
    refine E_dup dX8_go_37 rfl ?_
    refine E_getI dX8_go_38 fX8_45 rfl rfl rfl rfl ?_
    refine E_iconst (v := 1) dX8_go_41 (by decide) ?_
    refine E_iadd dX8_go_42 ?_
    refine E_putI dX8_go_43 fX8_45 rfl rfl rfl rfl rfl ?_
    refine E_iinc (v := nI (i + 1)) dX8_go_46 rfl (nI_i1 i) (by decide) rfl ?_
    refine E_goto (tgt := 27) dX8_go_49 (by decide) ?_
    exact l_X8_go hX hq hm n (i + 1) (by omega)
theorem c_go_y {S : xS} (hX : xShX S) {nP : Nat → Nat} (hq : xpok S nP) {m : Nat} (hm1 : 1 ≤ m) (hm : m ≤ 240) (hn : (gI S 8 0 5) + nI m < 1440) : CC mX8_go 6 0 0 [xR (some (8, 0)), xI (nI m)] S (aI (gI (xgm S nP m) 8 0 5) (xgm S nP m)) := by
  refine CC_of mpX8_go rfl (Nat.le_of_ble_eq_true rfl) ?_
  have h1 : (1 : Int32) ≤ nI m ∧ nI m ≤ 240 := ⟨nI_le (a := 1) (by omega) (by omega), nI_le (b := 240) (by omega) (by omega)⟩
  refine E_iload_n dX8_go_0 rfl rfl ?_
  refine E_iconst (v := 1) dX8_go_1 (by decide) ?_
  refine E_sipush (v := 240) dX8_go_2 (by decide) ?_
  refine E_callS (m2 := mX8_isWithin) dX8_go_5 kX8_48 mzX8_isWithin (c_X8_isWithin _ _ _) rfl rfl (by decide) (xs8 (Nat.le_of_ble_eq_true rfl)) (by first | exact Nat.le_of_ble_eq_true rfl | omega) (by first | exact Nat.le_of_ble_eq_true rfl | omega) ?_
  rintro _ _ ⟨rfl, rfl⟩; rw [if_pos h1]
  refine E_if_eq (tgt := 23) dX8_go_8 (by decide) (fun h8 => absurd h8 (by decide)) (fun h8 => ?_)
  refine E_aload_n dX8_go_11 rfl rfl ?_
  refine E_getI dX8_go_12 fX8_45 rfl rfl rfl rfl ?_
  refine E_iload_n dX8_go_15 rfl rfl ?_
  refine E_iadd dX8_go_16 ?_
  refine E_sipush (v := 1440) dX8_go_17 (by decide) ?_
  refine E_icmp_lt (tgt := 25) dX8_go_20 (by decide) (fun h20 => ?_) (fun h20 => absurd h20 (fun z => z hn))
  refine E_iconst (v := 0) dX8_go_25 (by decide) ?_
  refine E_istore_n dX8_go_26 rfl (by decide) rfl ?_
  exact l_X8_go hX hq (by omega) m 0 (by omega)
theorem c_go_n {S : xS} (x : Int32) (h : ¬ ((1 ≤ x ∧ x ≤ 240) ∧ (gI S 8 0 5) + x < 1440)) : CC mX8_go 6 0 0 [xR (some (8, 0)), xI x] S (aI (-1) S) := by
  refine CC_of mpX8_go rfl (Nat.le_of_ble_eq_true rfl) ?_
  refine E_iload_n dX8_go_0 rfl rfl ?_
  refine E_iconst (v := 1) dX8_go_1 (by decide) ?_
  refine E_sipush (v := 240) dX8_go_2 (by decide) ?_
  refine E_callS (m2 := mX8_isWithin) dX8_go_5 kX8_48 mzX8_isWithin (c_X8_isWithin _ _ _) rfl rfl (by decide) (xs8 (Nat.le_of_ble_eq_true rfl)) (by first | exact Nat.le_of_ble_eq_true rfl | omega) (by first | exact Nat.le_of_ble_eq_true rfl | omega) ?_
  rintro _ _ ⟨rfl, rfl⟩
  refine E_if_eq (tgt := 23) dX8_go_8 (by decide) (fun h8 => ?_) (fun h8 => ?_)
  · refine E_iconst (v := -1) dX8_go_23 (by decide) ?_
    refine E_iret dX8_go_24 rfl rfl ?_
    exact ⟨rfl, rfl⟩
  · refine E_aload_n dX8_go_11 rfl rfl ?_
    refine E_getI dX8_go_12 fX8_45 rfl rfl rfl rfl ?_
    refine E_iload_n dX8_go_15 rfl rfl ?_
    refine E_iadd dX8_go_16 ?_
    refine E_sipush (v := 1440) dX8_go_17 (by decide) ?_
    refine E_icmp_lt (tgt := 25) dX8_go_20 (by decide) (fun h20 => ?_) (fun h20 => ?_)
    · exact absurd ⟨ite1 h8, h20⟩ h
    · refine E_iconst (v := -1) dX8_go_23 (by decide) ?_
      refine E_iret dX8_go_24 rfl rfl ?_
      exact ⟨rfl, rfl⟩
/-! clubs -/
def xkp (S : xS) (Pc : Nat → Nat) (c k0 i P2 : Nat) : Prop := Pc c = P2 ∧ ¬ (gI S 0 c 1) &&& gI S k0 i 1 = 0 ∧ (if (gI S 0 c 2) < gI S k0 i 2 then gI S k0 i 2 else (gI S 0 c 2)) < (if gI S k0 i 4 < (gI S 0 c 4) then gI S k0 i 4 else (gI S 0 c 4))
def xcok (S : xS) (C : Nat) (Pc : Nat → Nat) : Prop := (∀ c, c < 20 → gR S 12 0 c = if c < C then some (0, c) else none) ∧ ∀ c, c < C → gR S 0 c 0 = some (3, Pc c)
theorem l_lowestClash_y {S : xS} (hX : xShX S) {C : Nat} {Pc : Nat → Nat} (hq : xcok S C Pc) (k0 j P2 : Nat) (hk : xCls k0 = true) (hk2 : xk k0 = 0) (h2 : gR S k0 j 0 = some (3, P2)) (c0 : Nat) (hc0 : c0 < C) (hC : C ≤ 20) (hy : xkp S Pc c0 k0 j P2) (hn : ∀ c, c < c0 → ¬ xkp S Pc c k0 j P2) : ∀ (n i : Nat), i + n = c0 → ∀ o, Ex mX8_lowestClash 2 0 0 (0, fun _ => 0) (aI (nI c0) S) 2 [some (xR (some (8, 0))), some (xR (some (k0, j))), some (xI (nI i)), o] [] S
  | 0, i, hi, o => by
    have hi : i = c0 := by omega
    subst hi
    have hr : gR S 12 0 i = some (0, i) := (hq.1 i (by omega)).trans (if_pos (by omega))
    refine E_iload_n dX8_lowestClash_2 rfl rfl ?_
    refine E_bipush (v := 20) dX8_lowestClash_3 (by decide) ?_
    refine E_icmp_ge (tgt := 35) dX8_lowestClash_5 (by decide) (fun h5 => absurd h5 ((nI_ge (a := i) (b := 20) (by omega) (by omega)))) (fun h5 => ?_)
    refine E_aload_n dX8_lowestClash_8 rfl rfl ?_
    refine E_getR dX8_lowestClash_9 fX8_23 rfl rfl rfl (rX_8_2 hX) ?_
    refine E_iload_n dX8_lowestClash_12 rfl rfl ?_
    refine E_aald dX8_lowestClash_13 rfl rfl (by decide) (lX_12 hX) (vin (by omega : i < 20) (by omega)) (vnat (by omega : i < 20) (by omega)) hr ?_
    refine E_astore_n dX8_lowestClash_14 rfl (by decide) rfl ?_
    refine E_aload_n dX8_lowestClash_15 rfl rfl ?_
    refine E_ifnull (tgt := 29) dX8_lowestClash_16 (by decide) (fun h16 => ?_) (fun q16 h16 => ?_)
    · cases h16
    · refine E_aload_n dX8_lowestClash_19 rfl rfl ?_
      refine E_aload_n dX8_lowestClash_20 rfl rfl ?_
      refine E_callV (m2 := mX0_clashesWith) dX8_lowestClash_21 kX8_327 mzX0_clashesWith (c_X0_clashesWith i k0 j (Pc i) P2 hk hk2 (hq.2 i hc0) h2) rfl ⟨_, _, rfl⟩ rfl rfl (by decide) (xs8 (Nat.le_of_ble_eq_true rfl)) (by first | exact Nat.le_of_ble_eq_true rfl | omega) (by first | exact Nat.le_of_ble_eq_true rfl | omega) ?_
      rintro _ _ ⟨rfl, rfl⟩; rw [if_pos (show _ ∧ _ from hy)]
      refine E_if_eq (tgt := 29) dX8_lowestClash_24 (by decide) (fun h24 => absurd h24 (by decide)) (fun h24 => ?_)
      refine E_iload_n dX8_lowestClash_27 rfl rfl ?_
      refine E_iret dX8_lowestClash_28 rfl rfl ?_
      exact ⟨rfl, rfl⟩
  | n + 1, i, hi, o => by
    have hr : gR S 12 0 i = some (0, i) := (hq.1 i (by omega)).trans (if_pos (by omega))
    refine E_iload_n dX8_lowestClash_2 rfl rfl ?_
    refine E_bipush (v := 20) dX8_lowestClash_3 (by decide) ?_
    refine E_icmp_ge (tgt := 35) dX8_lowestClash_5 (by decide) (fun h5 => absurd h5 ((nI_ge (a := i) (b := 20) (by omega) (by omega)))) (fun h5 => ?_)
    refine E_aload_n dX8_lowestClash_8 rfl rfl ?_
    refine E_getR dX8_lowestClash_9 fX8_23 rfl rfl rfl (rX_8_2 hX) ?_
    refine E_iload_n dX8_lowestClash_12 rfl rfl ?_
    refine E_aald dX8_lowestClash_13 rfl rfl (by decide) (lX_12 hX) (vin (by omega : i < 20) (by omega)) (vnat (by omega : i < 20) (by omega)) hr ?_
    refine E_astore_n dX8_lowestClash_14 rfl (by decide) rfl ?_
    refine E_aload_n dX8_lowestClash_15 rfl rfl ?_
    refine E_ifnull (tgt := 29) dX8_lowestClash_16 (by decide) (fun h16 => ?_) (fun q16 h16 => ?_)
    · cases h16
    · refine E_aload_n dX8_lowestClash_19 rfl rfl ?_
      refine E_aload_n dX8_lowestClash_20 rfl rfl ?_
      refine E_callV (m2 := mX0_clashesWith) dX8_lowestClash_21 kX8_327 mzX0_clashesWith (c_X0_clashesWith i k0 j (Pc i) P2 hk hk2 (hq.2 i (by omega)) h2) rfl ⟨_, _, rfl⟩ rfl rfl (by decide) (xs8 (Nat.le_of_ble_eq_true rfl)) (by first | exact Nat.le_of_ble_eq_true rfl | omega) (by first | exact Nat.le_of_ble_eq_true rfl | omega) ?_
      rintro _ _ ⟨rfl, rfl⟩; rw [if_neg (show ¬ (_ ∧ _) from hn i (by omega))]
      refine E_if_eq (tgt := 29) dX8_lowestClash_24 (by decide) (fun h24 => ?_) (fun h24 => absurd h24 (by decide))
      refine E_iinc (v := nI (i + 1)) dX8_lowestClash_29 rfl (nI_i1 i) (by decide) rfl ?_
      refine E_goto (tgt := 2) dX8_lowestClash_32 (by decide) ?_
      exact l_lowestClash_y hX hq k0 j P2 hk hk2 h2 c0 hc0 hC hy hn n (i + 1) (by omega) _
theorem c_lowestClash_y {S : xS} (hX : xShX S) {C : Nat} {Pc : Nat → Nat} (hq : xcok S C Pc) (k0 j P2 : Nat) (hk : xCls k0 = true) (hk2 : xk k0 = 0) (h2 : gR S k0 j 0 = some (3, P2)) (c0 : Nat) (hc0 : c0 < C) (hC : C ≤ 20) (hy : xkp S Pc c0 k0 j P2) (hn : ∀ c, c < c0 → ¬ xkp S Pc c k0 j P2) : CC mX8_lowestClash 2 0 0 [xR (some (8, 0)), xR (some (k0, j))] S (aI (nI c0) S) := by
  refine CC_of mpX8_lowestClash rfl (Nat.le_of_ble_eq_true rfl) ?_
  refine E_iconst (v := 0) dX8_lowestClash_0 (by decide) ?_
  refine E_istore_n dX8_lowestClash_1 rfl (by decide) rfl ?_
  exact l_lowestClash_y hX hq k0 j P2 hk hk2 h2 c0 hc0 hC hy hn c0 0 (by omega) _
theorem l_lowestClash_n {S : xS} (hX : xShX S) {C : Nat} {Pc : Nat → Nat} (hq : xcok S C Pc) (k0 j P2 : Nat) (hk : xCls k0 = true) (hk2 : xk k0 = 0) (h2 : gR S k0 j 0 = some (3, P2)) (hn : ∀ c, c < C → ¬ xkp S Pc c k0 j P2) : ∀ (n i : Nat), i + n = 20 → ∀ o, Ex mX8_lowestClash 2 0 0 (0, fun _ => 0) (aI (-1) S) 2 [some (xR (some (8, 0))), some (xR (some (k0, j))), some (xI (nI i)), o] [] S
  | 0, i, hi, o => by
    refine E_iload_n dX8_lowestClash_2 rfl rfl ?_
    refine E_bipush (v := 20) dX8_lowestClash_3 (by decide) ?_
    refine E_icmp_ge (tgt := 35) dX8_lowestClash_5 (by decide) (fun h5 => ?_) (fun h5 => absurd h5 ((fun z => z (nI_le (a := 20) (b := i) (by omega) (by omega)))))
    refine E_iconst (v := -1) dX8_lowestClash_35 (by decide) ?_
    refine E_iret dX8_lowestClash_36 rfl rfl ?_
    exact ⟨rfl, rfl⟩
  | n + 1, i, hi, o => by
    by_cases hc : i < C
    · have hr : gR S 12 0 i = some (0, i) := (hq.1 i (by omega)).trans (if_pos hc)
      refine E_iload_n dX8_lowestClash_2 rfl rfl ?_
      refine E_bipush (v := 20) dX8_lowestClash_3 (by decide) ?_
      refine E_icmp_ge (tgt := 35) dX8_lowestClash_5 (by decide) (fun h5 => absurd h5 ((nI_ge (a := i) (b := 20) (by omega) (by omega)))) (fun h5 => ?_)
      refine E_aload_n dX8_lowestClash_8 rfl rfl ?_
      refine E_getR dX8_lowestClash_9 fX8_23 rfl rfl rfl (rX_8_2 hX) ?_
      refine E_iload_n dX8_lowestClash_12 rfl rfl ?_
      refine E_aald dX8_lowestClash_13 rfl rfl (by decide) (lX_12 hX) (vin (by omega : i < 20) (by omega)) (vnat (by omega : i < 20) (by omega)) hr ?_
      refine E_astore_n dX8_lowestClash_14 rfl (by decide) rfl ?_
      refine E_aload_n dX8_lowestClash_15 rfl rfl ?_
      refine E_ifnull (tgt := 29) dX8_lowestClash_16 (by decide) (fun h16 => ?_) (fun q16 h16 => ?_)
      · cases h16
      · refine E_aload_n dX8_lowestClash_19 rfl rfl ?_
        refine E_aload_n dX8_lowestClash_20 rfl rfl ?_
        refine E_callV (m2 := mX0_clashesWith) dX8_lowestClash_21 kX8_327 mzX0_clashesWith (c_X0_clashesWith i k0 j (Pc i) P2 hk hk2 (hq.2 i hc) h2) rfl ⟨_, _, rfl⟩ rfl rfl (by decide) (xs8 (Nat.le_of_ble_eq_true rfl)) (by first | exact Nat.le_of_ble_eq_true rfl | omega) (by first | exact Nat.le_of_ble_eq_true rfl | omega) ?_
        rintro _ _ ⟨rfl, rfl⟩; rw [if_neg (show ¬ (_ ∧ _) from hn i hc)]
        refine E_if_eq (tgt := 29) dX8_lowestClash_24 (by decide) (fun h24 => ?_) (fun h24 => absurd h24 (by decide))
        refine E_iinc (v := nI (i + 1)) dX8_lowestClash_29 rfl (nI_i1 i) (by decide) rfl ?_
        refine E_goto (tgt := 2) dX8_lowestClash_32 (by decide) ?_
        exact l_lowestClash_n hX hq k0 j P2 hk hk2 h2 hn n (i + 1) (by omega) _
    · have hr : gR S 12 0 i = none := (hq.1 i (by omega)).trans (if_neg hc)
      refine E_iload_n dX8_lowestClash_2 rfl rfl ?_
      refine E_bipush (v := 20) dX8_lowestClash_3 (by decide) ?_
      refine E_icmp_ge (tgt := 35) dX8_lowestClash_5 (by decide) (fun h5 => absurd h5 ((nI_ge (a := i) (b := 20) (by omega) (by omega)))) (fun h5 => ?_)
      refine E_aload_n dX8_lowestClash_8 rfl rfl ?_
      refine E_getR dX8_lowestClash_9 fX8_23 rfl rfl rfl (rX_8_2 hX) ?_
      refine E_iload_n dX8_lowestClash_12 rfl rfl ?_
      refine E_aald dX8_lowestClash_13 rfl rfl (by decide) (lX_12 hX) (vin (by omega : i < 20) (by omega)) (vnat (by omega : i < 20) (by omega)) hr ?_
      refine E_astore_n dX8_lowestClash_14 rfl (by decide) rfl ?_
      refine E_aload_n dX8_lowestClash_15 rfl rfl ?_
      refine E_ifnull (tgt := 29) dX8_lowestClash_16 (by decide) (fun h16 => ?_) (fun q16 h16 => absurd h16 (by intro z; cases z))
      refine E_iinc (v := nI (i + 1)) dX8_lowestClash_29 rfl (nI_i1 i) (by decide) rfl ?_
      refine E_goto (tgt := 2) dX8_lowestClash_32 (by decide) ?_
      exact l_lowestClash_n hX hq k0 j P2 hk hk2 h2 hn n (i + 1) (by omega) _
theorem c_lowestClash_n {S : xS} (hX : xShX S) {C : Nat} {Pc : Nat → Nat} (hq : xcok S C Pc) (k0 j P2 : Nat) (hk : xCls k0 = true) (hk2 : xk k0 = 0) (h2 : gR S k0 j 0 = some (3, P2)) (hn : ∀ c, c < C → ¬ xkp S Pc c k0 j P2) : CC mX8_lowestClash 2 0 0 [xR (some (8, 0)), xR (some (k0, j))] S (aI (-1) S) := by
  refine CC_of mpX8_lowestClash rfl (Nat.le_of_ble_eq_true rfl) ?_
  refine E_iconst (v := 0) dX8_lowestClash_0 (by decide) ?_
  refine E_istore_n dX8_lowestClash_1 rfl (by decide) rfl ?_
  exact l_lowestClash_n hX hq k0 j P2 hk hk2 h2 hn 20 0 (by omega) _
/-- the lanes that clubs have now, as bits -/
def xtkn (S : xS) (C : Nat) (Pc : Nat → Nat) (P : Nat) (x : Int32) : Nat → Int32
  | 0 => 0
  | c + 1 => if c < C ∧ Pc c = P ∧ (gI S 0 c 2) ≤ x ∧ x < (gI S 0 c 4) then xtkn S C Pc P x c ||| (gI S 0 c 1) else xtkn S C Pc P x c
theorem l_freeLanes {S : xS} (hX : xShX S) {C : Nat} {Pc : Nat → Nat} (hq : xcok S C Pc) (P : Nat) : ∀ (n i : Nat), i + n = 20 → ∀ o, ∀ v, v = xtkn S C Pc P (gI S 8 0 5) i → Ex mX8_freeLanes 2 0 0 (0, fun _ => 0) (aI ((gI S 3 P 2) - xbc (xtkn S C Pc P (gI S 8 0 5) 20)) S) 4 [some (xR (some (8, 0))), some (xR (some (3, P))), some (xI v), some (xI (nI i)), o] [] S
  | 0, i, hi, o, v, hv => by
    have hi : i = 20 := by omega
    subst hi
    rw [← hv]
    refine E_iload_n dX8_freeLanes_4 rfl rfl ?_
    refine E_bipush (v := 20) dX8_freeLanes_5 (by decide) ?_
    refine E_icmp_ge (tgt := 58) dX8_freeLanes_7 (by decide) (fun h7 => ?_) (fun h7 => absurd h7 ((fun z => z (nI_le (a := 20) (b := 20) (by omega) (by omega)))))
    refine E_aload_n dX8_freeLanes_58 rfl rfl ?_
    refine E_getI dX8_freeLanes_59 fX8_337 rfl rfl rfl rfl ?_
    refine E_iload_n dX8_freeLanes_62 rfl rfl ?_
    refine E_callS (m2 := mJ6_bitCount_0f7a4) dX8_freeLanes_63 kX8_338 mzJ6_bitCount_0f7a4 (c_bitCount _) rfl rfl (by decide) (xs8 (Nat.le_of_ble_eq_true rfl)) (by first | exact Nat.le_of_ble_eq_true rfl | omega) (by first | exact Nat.le_of_ble_eq_true rfl | omega) ?_
    rintro _ _ ⟨rfl, rfl⟩
    refine E_isub dX8_freeLanes_66 ?_
    refine E_iret dX8_freeLanes_67 rfl rfl ?_
    exact ⟨rfl, rfl⟩
  | n + 1, i, hi, o, v, hv => by
    by_cases hc : i < C
    · have hr : gR S 12 0 i = some (0, i) := (hq.1 i (by omega)).trans (if_pos hc)
      refine E_iload_n dX8_freeLanes_4 rfl rfl ?_
      refine E_bipush (v := 20) dX8_freeLanes_5 (by decide) ?_
      refine E_icmp_ge (tgt := 58) dX8_freeLanes_7 (by decide) (fun h7 => absurd h7 ((nI_ge (a := i) (b := 20) (by omega) (by omega)))) (fun h7 => ?_)
      refine E_aload_n dX8_freeLanes_10 rfl rfl ?_
      refine E_getR dX8_freeLanes_11 fX8_23 rfl rfl rfl (rX_8_2 hX) ?_
      refine E_iload_n dX8_freeLanes_14 rfl rfl ?_
      refine E_aald dX8_freeLanes_15 rfl rfl (by decide) (lX_12 hX) (vin (by omega : i < 20) (by omega)) (vnat (by omega : i < 20) (by omega)) hr ?_
      refine E_astore dX8_freeLanes_16 (by decide) rfl ?_
      refine E_aload dX8_freeLanes_18 rfl ?_
      refine E_ifnull (tgt := 52) dX8_freeLanes_20 (by decide) (fun h20 => ?_) (fun q20 h20 => ?_)
      · cases h20
      · refine E_aload dX8_freeLanes_23 rfl ?_
        refine E_getR dX8_freeLanes_25 fX8_322 rfl rfl rfl (hq.2 i hc) ?_
        refine E_aload_n dX8_freeLanes_28 rfl rfl ?_
        refine E_acmp_ne (tgt := 52) dX8_freeLanes_29 (by decide) (by intro q h; cases h; simp) (by intro q h; cases h; simp) (fun h29 => ?_) (fun h29 => ?_)
        · refine E_iinc (v := nI (i + 1)) dX8_freeLanes_52 rfl (nI_i1 i) (by decide) rfl ?_
          refine E_goto (tgt := 4) dX8_freeLanes_55 (by decide) ?_
          refine l_freeLanes hX hq P n (i + 1) (by omega) _ _ ?_
          rw [xtkn, ← hv]; first | (rw [if_neg (fun z => h29 (by rw [z.2.1]))]; done) | (rw [if_neg (fun z => ite0 h41 z.2.2)]; done) | (rw [if_pos ⟨hc, h29, ite1 h41⟩]; done)
        · have h29 : Pc i = P := by cases h29; rfl
          refine E_aload dX8_freeLanes_32 rfl ?_
          refine E_aload_n dX8_freeLanes_34 rfl rfl ?_
          refine E_getI dX8_freeLanes_35 fX8_45 rfl rfl rfl rfl ?_
          refine E_callV (m2 := mX0_isThere) dX8_freeLanes_38 kX8_331 mzX0_isThere (c_X0_isThere i _) rfl ⟨_, _, rfl⟩ rfl rfl (by decide) (xs8 (Nat.le_of_ble_eq_true rfl)) (by first | exact Nat.le_of_ble_eq_true rfl | omega) (by first | exact Nat.le_of_ble_eq_true rfl | omega) ?_
          rintro _ _ ⟨rfl, rfl⟩
          refine E_if_eq (tgt := 52) dX8_freeLanes_41 (by decide) (fun h41 => ?_) (fun h41 => ?_)
          · refine E_iinc (v := nI (i + 1)) dX8_freeLanes_52 rfl (nI_i1 i) (by decide) rfl ?_
            refine E_goto (tgt := 4) dX8_freeLanes_55 (by decide) ?_
            refine l_freeLanes hX hq P n (i + 1) (by omega) _ _ ?_
            rw [xtkn, ← hv]; first | (rw [if_neg (fun z => h29 (by rw [z.2.1]))]; done) | (rw [if_neg (fun z => ite0 h41 z.2.2)]; done) | (rw [if_pos ⟨hc, h29, ite1 h41⟩]; done)
          · refine E_iload_n dX8_freeLanes_44 rfl rfl ?_
            refine E_aload dX8_freeLanes_45 rfl ?_
            refine E_getI dX8_freeLanes_47 fX8_334 rfl rfl rfl rfl ?_
            refine E_ior dX8_freeLanes_50 ?_
            refine E_istore_n dX8_freeLanes_51 rfl (by decide) rfl ?_
            refine E_iinc (v := nI (i + 1)) dX8_freeLanes_52 rfl (nI_i1 i) (by decide) rfl ?_
            refine E_goto (tgt := 4) dX8_freeLanes_55 (by decide) ?_
            refine l_freeLanes hX hq P n (i + 1) (by omega) _ _ ?_
            rw [xtkn, ← hv]; first | (rw [if_neg (fun z => h29 (by rw [z.2.1]))]; done) | (rw [if_neg (fun z => ite0 h41 z.2.2)]; done) | (rw [if_pos ⟨hc, h29, ite1 h41⟩]; done)
    · have hr : gR S 12 0 i = none := (hq.1 i (by omega)).trans (if_neg hc)
      refine E_iload_n dX8_freeLanes_4 rfl rfl ?_
      refine E_bipush (v := 20) dX8_freeLanes_5 (by decide) ?_
      refine E_icmp_ge (tgt := 58) dX8_freeLanes_7 (by decide) (fun h7 => absurd h7 ((nI_ge (a := i) (b := 20) (by omega) (by omega)))) (fun h7 => ?_)
      refine E_aload_n dX8_freeLanes_10 rfl rfl ?_
      refine E_getR dX8_freeLanes_11 fX8_23 rfl rfl rfl (rX_8_2 hX) ?_
      refine E_iload_n dX8_freeLanes_14 rfl rfl ?_
      refine E_aald dX8_freeLanes_15 rfl rfl (by decide) (lX_12 hX) (vin (by omega : i < 20) (by omega)) (vnat (by omega : i < 20) (by omega)) hr ?_
      refine E_astore dX8_freeLanes_16 (by decide) rfl ?_
      refine E_aload dX8_freeLanes_18 rfl ?_
      refine E_ifnull (tgt := 52) dX8_freeLanes_20 (by decide) (fun h20 => ?_) (fun q20 h20 => absurd h20 (by intro z; cases z))
      refine E_iinc (v := nI (i + 1)) dX8_freeLanes_52 rfl (nI_i1 i) (by decide) rfl ?_
      refine E_goto (tgt := 4) dX8_freeLanes_55 (by decide) ?_
      exact l_freeLanes hX hq P n (i + 1) (by omega) _ _ (by rw [xtkn, if_neg (fun z => hc z.1)]; exact hv)
theorem c_freeLanes {S : xS} (hX : xShX S) {C : Nat} {Pc : Nat → Nat} (hq : xcok S C Pc) (P : Nat) : CC mX8_freeLanes 2 0 0 [xR (some (8, 0)), xR (some (3, P))] S (aI ((gI S 3 P 2) - xbc (xtkn S C Pc P (gI S 8 0 5) 20)) S) := by
  refine CC_of mpX8_freeLanes rfl (Nat.le_of_ble_eq_true rfl) ?_
  refine E_iconst (v := 0) dX8_freeLanes_0 (by decide) ?_
  refine E_istore_n dX8_freeLanes_1 rfl (by decide) rfl ?_
  refine E_iconst (v := 0) dX8_freeLanes_2 (by decide) ?_
  refine E_istore_n dX8_freeLanes_3 rfl (by decide) rfl ?_
  exact l_freeLanes hX hq P 20 0 rfl _ 0 rfl
theorem c_isTicketSold_1 {S : xS} (P : Nat) (a : Int32) : CC mX8_isTicketSold 3 0 0 [xR (some (8, 0)), xR (some (3, P)), xI 1, xI a] S (aI (if 15 ≤ a ∧ a ≤ 240 then 1 else 0) S) := by
  refine CC_of mpX8_isTicketSold rfl (Nat.le_of_ble_eq_true rfl) ?_
  refine E_iload_n dX8_isTicketSold_0 rfl rfl ?_
  refine E_iconst (v := 1) dX8_isTicketSold_1 (by decide) ?_
  refine E_icmp_ne (tgt := 15) dX8_isTicketSold_2 (by decide) (fun h2 => absurd h2 (fun z => z rfl)) (fun h2 => ?_)
  refine E_iload_n dX8_isTicketSold_5 rfl rfl ?_
  refine E_bipush (v := 15) dX8_isTicketSold_6 (by decide) ?_
  refine E_sipush (v := 240) dX8_isTicketSold_8 (by decide) ?_
  refine E_callS (m2 := mX8_isWithin) dX8_isTicketSold_11 kX8_48 mzX8_isWithin (c_X8_isWithin _ _ _) rfl rfl (by decide) (xs8 (Nat.le_of_ble_eq_true rfl)) (by first | exact Nat.le_of_ble_eq_true rfl | omega) (by first | exact Nat.le_of_ble_eq_true rfl | omega) ?_
  rintro _ _ ⟨rfl, rfl⟩
  refine E_iret dX8_isTicketSold_14 rfl (xB_if _).n ?_
  exact ⟨rfl, rfl⟩
theorem c_isTicketSold_o {S : xS} (P : Nat) (x a : Int32) (e1 : ¬ x = 1) (e2 : ¬ (x = 2 ∨ x = 3)) : CC mX8_isTicketSold 3 0 0 [xR (some (8, 0)), xR (some (3, P)), xI x, xI a] S (aI (if 0 ≤ x ∧ x ≤ 5 then 1 else 0) S) := by
  refine CC_of mpX8_isTicketSold rfl (Nat.le_of_ble_eq_true rfl) ?_
  refine E_iload_n dX8_isTicketSold_0 rfl rfl ?_
  refine E_iconst (v := 1) dX8_isTicketSold_1 (by decide) ?_
  refine E_icmp_ne (tgt := 15) dX8_isTicketSold_2 (by decide) (fun h2 => ?_) (fun h2 => absurd h2 (e1))
  refine E_iload_n dX8_isTicketSold_15 rfl rfl ?_
  refine E_callS (m2 := mX8_isClubKind) dX8_isTicketSold_16 kX8_69 mzX8_isClubKind (c_X8_isClubKind _) rfl rfl (by decide) (xs8 (Nat.le_of_ble_eq_true rfl)) (by first | exact Nat.le_of_ble_eq_true rfl | omega) (by first | exact Nat.le_of_ble_eq_true rfl | omega) ?_
  rintro _ _ ⟨rfl, rfl⟩; rw [if_neg e2]
  refine E_if_eq (tgt := 67) dX8_isTicketSold_19 (by decide) (fun h19 => ?_) (fun h19 => absurd h19 (by decide))
  refine E_iload_n dX8_isTicketSold_67 rfl rfl ?_
  refine E_iconst (v := 0) dX8_isTicketSold_68 (by decide) ?_
  refine E_iconst (v := 5) dX8_isTicketSold_69 (by decide) ?_
  refine E_callS (m2 := mX8_isWithin) dX8_isTicketSold_70 kX8_48 mzX8_isWithin (c_X8_isWithin _ _ _) rfl rfl (by decide) (xs8 (Nat.le_of_ble_eq_true rfl)) (by first | exact Nat.le_of_ble_eq_true rfl | omega) (by first | exact Nat.le_of_ble_eq_true rfl | omega) ?_
  rintro _ _ ⟨rfl, rfl⟩
  refine E_iret dX8_isTicketSold_73 rfl (xB_if _).n ?_
  exact ⟨rfl, rfl⟩
theorem c_isTicketSold_c {S : xS} (hX : xShX S) (P : Nat) (x a : Int32) (e2 : x = 2 ∨ x = 3) (hc : xcl S a = none) : CC mX8_isTicketSold 3 0 0 [xR (some (8, 0)), xR (some (3, P)), xI x, xI a] S (aI 0 S) := by
  refine CC_of mpX8_isTicketSold rfl (Nat.le_of_ble_eq_true rfl) ?_
  have e1 : ¬ x = 1 := by rcases e2 with rfl | rfl <;> decide
  refine E_iload_n dX8_isTicketSold_0 rfl rfl ?_
  refine E_iconst (v := 1) dX8_isTicketSold_1 (by decide) ?_
  refine E_icmp_ne (tgt := 15) dX8_isTicketSold_2 (by decide) (fun h2 => ?_) (fun h2 => absurd h2 (e1))
  refine E_iload_n dX8_isTicketSold_15 rfl rfl ?_
  refine E_callS (m2 := mX8_isClubKind) dX8_isTicketSold_16 kX8_69 mzX8_isClubKind (c_X8_isClubKind _) rfl rfl (by decide) (xs8 (Nat.le_of_ble_eq_true rfl)) (by first | exact Nat.le_of_ble_eq_true rfl | omega) (by first | exact Nat.le_of_ble_eq_true rfl | omega) ?_
  rintro _ _ ⟨rfl, rfl⟩; rw [if_pos e2]
  refine E_if_eq (tgt := 67) dX8_isTicketSold_19 (by decide) (fun h19 => absurd h19 (by decide)) (fun h19 => ?_)
  refine E_aload_n dX8_isTicketSold_22 rfl rfl ?_
  refine E_iload_n dX8_isTicketSold_23 rfl rfl ?_
  refine E_callV (m2 := mX8_clubOf) dX8_isTicketSold_24 kX8_73 mzX8_clubOf (c_clubOf hX a hc) rfl ⟨_, _, rfl⟩ rfl rfl (by decide) (xs8 (Nat.le_of_ble_eq_true rfl)) (by first | exact Nat.le_of_ble_eq_true rfl | omega) (by first | exact Nat.le_of_ble_eq_true rfl | omega) ?_
  rintro _ _ ⟨rfl, rfl⟩
  refine E_astore dX8_isTicketSold_27 (by decide) rfl ?_
  refine E_aload dX8_isTicketSold_29 rfl ?_
  refine E_ifnull (tgt := 65) dX8_isTicketSold_31 (by decide) (fun h31 => ?_) (fun q31 h31 => absurd h31 (by intro z; cases z))
  refine E_iconst (v := 0) dX8_isTicketSold_65 (by decide) ?_
  refine E_iret dX8_isTicketSold_66 rfl rfl ?_
  exact ⟨rfl, rfl⟩
theorem c_isTicketSold_d {S : xS} (hX : xShX S) (P c P2 : Nat) (x a : Int32) (e2 : x = 2 ∨ x = 3) (hc : xcl S a = some (0, c)) (hp : gR S 0 c 0 = some (3, P2)) : CC mX8_isTicketSold 3 0 0 [xR (some (8, 0)), xR (some (3, P)), xI x, xI a] S (aI (if P2 = P ∧ ((if 0 < (gI S 0 c 3) then (1 : Int32) else 0) = if x = 3 then 1 else 0) then 1 else 0) S) := by
  refine CC_of mpX8_isTicketSold rfl (Nat.le_of_ble_eq_true rfl) ?_
  have e1 : ¬ x = 1 := by rcases e2 with rfl | rfl <;> decide
  refine E_iload_n dX8_isTicketSold_0 rfl rfl ?_
  refine E_iconst (v := 1) dX8_isTicketSold_1 (by decide) ?_
  refine E_icmp_ne (tgt := 15) dX8_isTicketSold_2 (by decide) (fun h2 => ?_) (fun h2 => absurd h2 (e1))
  refine E_iload_n dX8_isTicketSold_15 rfl rfl ?_
  refine E_callS (m2 := mX8_isClubKind) dX8_isTicketSold_16 kX8_69 mzX8_isClubKind (c_X8_isClubKind _) rfl rfl (by decide) (xs8 (Nat.le_of_ble_eq_true rfl)) (by first | exact Nat.le_of_ble_eq_true rfl | omega) (by first | exact Nat.le_of_ble_eq_true rfl | omega) ?_
  rintro _ _ ⟨rfl, rfl⟩; rw [if_pos e2]
  refine E_if_eq (tgt := 67) dX8_isTicketSold_19 (by decide) (fun h19 => absurd h19 (by decide)) (fun h19 => ?_)
  refine E_aload_n dX8_isTicketSold_22 rfl rfl ?_
  refine E_iload_n dX8_isTicketSold_23 rfl rfl ?_
  refine E_callV (m2 := mX8_clubOf) dX8_isTicketSold_24 kX8_73 mzX8_clubOf (c_clubOf hX a hc) rfl ⟨_, _, rfl⟩ rfl rfl (by decide) (xs8 (Nat.le_of_ble_eq_true rfl)) (by first | exact Nat.le_of_ble_eq_true rfl | omega) (by first | exact Nat.le_of_ble_eq_true rfl | omega) ?_
  rintro _ _ ⟨rfl, rfl⟩
  refine E_astore dX8_isTicketSold_27 (by decide) rfl ?_
  refine E_aload dX8_isTicketSold_29 rfl ?_
  refine E_ifnull (tgt := 65) dX8_isTicketSold_31 (by decide) (fun h31 => ?_) (fun q31 h31 => ?_)
  · cases h31
  · refine E_aload dX8_isTicketSold_34 rfl ?_
    refine E_getR dX8_isTicketSold_36 fX8_322 rfl rfl rfl hp ?_
    refine E_aload_n dX8_isTicketSold_39 rfl rfl ?_
    refine E_acmp_ne (tgt := 65) dX8_isTicketSold_40 (by decide) (by intro q h; cases h; simp) (by intro q h; cases h; simp) (fun h40 => ?_) (fun h40 => ?_)
    · rw [if_neg (fun z => h40 (by rw [z.1]))]
      refine E_iconst (v := 0) dX8_isTicketSold_65 (by decide) ?_
      refine E_iret dX8_isTicketSold_66 rfl rfl ?_
      first | exact ⟨rfl, rfl⟩ | (refine ⟨congrArg (fun z => some (xI z)) ?_, rfl⟩; simp_all)
    · have h40 : P2 = P := by cases h40; rfl
      refine E_aload dX8_isTicketSold_43 rfl ?_
      refine E_callV (m2 := mX0_isSchool) dX8_isTicketSold_45 kX8_323 mzX0_isSchool (c_X0_isSchool c) rfl ⟨_, _, rfl⟩ rfl rfl (by decide) (xs8 (Nat.le_of_ble_eq_true rfl)) (by first | exact Nat.le_of_ble_eq_true rfl | omega) (by first | exact Nat.le_of_ble_eq_true rfl | omega) ?_
      rintro _ _ ⟨rfl, rfl⟩
      refine E_iload_n dX8_isTicketSold_48 rfl rfl ?_
      refine E_iconst (v := 3) dX8_isTicketSold_49 (by decide) ?_
      refine E_icmp_ne (tgt := 57) dX8_isTicketSold_50 (by decide) (fun h50 => ?_) (fun h50 => ?_)
      · refine E_iconst (v := 0) dX8_isTicketSold_57 (by decide) ?_
        refine E_icmp_ne (tgt := 65) dX8_isTicketSold_58 (by decide) (fun h58 => ?_) (fun h58 => ?_)
        · refine E_iconst (v := 0) dX8_isTicketSold_65 (by decide) ?_
          refine E_iret dX8_isTicketSold_66 rfl rfl ?_
          first | exact ⟨rfl, rfl⟩ | (refine ⟨congrArg (fun z => some (xI z)) ?_, rfl⟩; simp_all)
        · refine E_iconst (v := 1) dX8_isTicketSold_61 (by decide) ?_
          refine E_goto (tgt := 66) dX8_isTicketSold_62 (by decide) ?_
          refine E_iret dX8_isTicketSold_66 rfl rfl ?_
          first | exact ⟨rfl, rfl⟩ | (refine ⟨congrArg (fun z => some (xI z)) ?_, rfl⟩; simp_all)
      · refine E_iconst (v := 1) dX8_isTicketSold_53 (by decide) ?_
        refine E_goto (tgt := 58) dX8_isTicketSold_54 (by decide) ?_
        refine E_icmp_ne (tgt := 65) dX8_isTicketSold_58 (by decide) (fun h58 => ?_) (fun h58 => ?_)
        · refine E_iconst (v := 0) dX8_isTicketSold_65 (by decide) ?_
          refine E_iret dX8_isTicketSold_66 rfl rfl ?_
          first | exact ⟨rfl, rfl⟩ | (refine ⟨congrArg (fun z => some (xI z)) ?_, rfl⟩; simp_all)
        · refine E_iconst (v := 1) dX8_isTicketSold_61 (by decide) ?_
          refine E_goto (tgt := 66) dX8_isTicketSold_62 (by decide) ?_
          refine E_iret dX8_isTicketSold_66 rfl rfl ?_
          first | exact ⟨rfl, rfl⟩ | (refine ⟨congrArg (fun z => some (xI z)) ?_, rfl⟩; simp_all)
theorem c_hoursNeeded {S : xS} (x y z : Int32) : CC mX8_hoursNeeded 1 0 0 [xI x, xI y, xI z] S (aI (if y * 100 < 1 then 25 else (x * (100 + z) + y * 100 - 1) / (y * 100)) S) := by
  refine CC_of mpX8_hoursNeeded rfl (Nat.le_of_ble_eq_true rfl) ?_
  refine E_iload_n dX8_hoursNeeded_0 rfl rfl ?_
  refine E_bipush (v := 100) dX8_hoursNeeded_1 (by decide) ?_
  refine E_iload_n dX8_hoursNeeded_3 rfl rfl ?_
  refine E_iadd dX8_hoursNeeded_4 ?_
  refine E_imul dX8_hoursNeeded_5 ?_
  refine E_istore_n dX8_hoursNeeded_6 rfl (by decide) rfl ?_
  refine E_iload_n dX8_hoursNeeded_7 rfl rfl ?_
  refine E_bipush (v := 100) dX8_hoursNeeded_8 (by decide) ?_
  refine E_imul dX8_hoursNeeded_10 ?_
  refine E_istore dX8_hoursNeeded_11 (by decide) rfl ?_
  refine E_iload dX8_hoursNeeded_13 rfl ?_
  refine E_iconst (v := 1) dX8_hoursNeeded_15 (by decide) ?_
  refine E_icmp_ge (tgt := 24) dX8_hoursNeeded_16 (by decide) (fun h16 => ?_) (fun h16 => ?_)
  · refine E_iload_n dX8_hoursNeeded_24 rfl rfl ?_
    refine E_iload dX8_hoursNeeded_25 rfl ?_
    refine E_iadd dX8_hoursNeeded_27 ?_
    refine E_iconst (v := 1) dX8_hoursNeeded_28 (by decide) ?_
    refine E_isub dX8_hoursNeeded_29 ?_
    refine E_iload dX8_hoursNeeded_30 rfl ?_
    refine E_idiv dX8_hoursNeeded_32 (fun hz => by have h16 := h16; rw [hz] at h16; exact absurd h16 (by decide)) ?_
    refine E_iret dX8_hoursNeeded_33 rfl rfl ?_
    refine ⟨congrArg (fun z => some (xI z)) ?_, rfl⟩; first | rw [if_neg (Int32.not_lt.mpr h16)] | rw [if_pos (Int32.not_le.mp h16)]
  · refine E_bipush (v := 25) dX8_hoursNeeded_19 (by decide) ?_
    refine E_goto (tgt := 33) dX8_hoursNeeded_21 (by decide) ?_
    refine E_iret dX8_hoursNeeded_33 rfl rfl ?_
    refine ⟨congrArg (fun z => some (xI z)) ?_, rfl⟩; first | rw [if_neg (Int32.not_lt.mpr h16)] | rw [if_pos (Int32.not_le.mp h16)]
