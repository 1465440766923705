/-! ticket, club -/
theorem x_le_sum : ∀ (L : List (Nat × Nat)) (q : Nat × Nat), q ∈ L → q.2 ≤ (L.map (fun r => r.2)).sum
  | [], q, h => by cases h
  | r :: L, q, h => by
    rw [List.map_cons, List.sum_cons]
    rcases List.mem_cons.mp h with rfl | h
    · omega
    · have := x_le_sum L q h
      omega
/-- some number of a kind is free -/
theorem E_fresh {mm : xM} {d cb sb : Nat} {X : Nat × (Nat → Int32)} {Q : Option xV → xS → Prop} {pc : Nat} {ls : List (Option xV)} {st : List xV} {S : xS} (k0 : Nat) (k : ∀ i, gL S k0 i = none → Ex mm d cb sb X Q pc ls st S) : Ex mm d cb sb X Q pc ls st S := by
  intro _ p l e R s m args below meth c H locs cells slots D A al cA L Qf lsA hC hX hH hS hL ho hc hs hK
  have hf : gL S k0 ((L.map (fun r => r.2)).sum + 1) = none := Decidable.byContradiction fun z => by
    have h1 := x_le_sum L (k0, (L.map (fun r => r.2)).sum + 1) ((hH.2.2.1 _).mpr z)
    simp only at h1
    omega
  exact k _ hf () hC hX hH hS hL ho hc hs hK
def xt7 (S : xS) (t q : Nat) (x1 x2 x3 : Int32) (r : Option (Nat × Nat)) (b : Int32) : xS := (sI (sR (sI (sI (sR (sI (sI (sI (sI S 7 t 7 (-1)) 7 t 11 (-1)) 7 t 13 (-20)) 7 t 0 x1) 7 t 1 (some (3, q))) 7 t 2 x2) 7 t 3 x3) 7 t 4 r) 7 t 5 b)
/-- a new ticket -/
def xnt (S : xS) (t q : Nat) (x2 x3 : Int32) (r : Option (Nat × Nat)) (b : Int32) : xS := (sI (sR (xt7 (sN S 7 t 0) t q (nI t) x2 x3 r b) 11 0 t (some (7, t))) 8 0 6 ((gI S 8 0 6) + 1))
theorem c_ticket_p {S : xS} (hX : xShX S) (p x a b : Int32) (h : xpl S p = none) : CC mX8_ticket 4 1 14 [xR (some (8, 0)), xI p, xI x, xI a, xI b] S (aI (-1) S) := by
  refine CC_of mpX8_ticket rfl (Nat.le_of_ble_eq_true rfl) ?_
  refine E_aload_n dX8_ticket_0 rfl rfl ?_
  refine E_iload_n dX8_ticket_1 rfl rfl ?_
  refine E_callV (m2 := mX8_poolOf) dX8_ticket_2 kX8_58 mzX8_poolOf (c_poolOf hX p h) rfl ⟨_, _, rfl⟩ rfl rfl (by decide) (xs8 (Nat.le_of_ble_eq_true rfl)) (by first | exact Nat.le_of_ble_eq_true rfl | omega) (by first | exact Nat.le_of_ble_eq_true rfl | omega) ?_
  rintro _ _ ⟨rfl, rfl⟩
  refine E_astore dX8_ticket_5 (by decide) rfl ?_
  refine E_aload_n dX8_ticket_7 rfl rfl ?_
  refine E_getI dX8_ticket_8 fX8_62 rfl rfl rfl rfl ?_
  refine E_sipush (v := 200) dX8_ticket_11 (by decide) ?_
  refine E_icmp_ge (tgt := 33) dX8_ticket_14 (by decide) (fun h14 => ?_) (fun h14 => ?_)
  · refine E_iconst (v := -1) dX8_ticket_33 (by decide) ?_
    refine E_iret dX8_ticket_34 rfl rfl ?_
    exact ⟨rfl, rfl⟩
  · refine E_aload dX8_ticket_17 rfl ?_
    refine E_ifnull (tgt := 33) dX8_ticket_19 (by decide) (fun h19 => ?_) (fun q19 h19 => absurd h19 (by intro z; cases z))
    refine E_iconst (v := -1) dX8_ticket_33 (by decide) ?_
    refine E_iret dX8_ticket_34 rfl rfl ?_
    exact ⟨rfl, rfl⟩
theorem c_ticket_f {S : xS} (hX : xShX S) (p x a b : Int32) {P : Nat} (h : xpl S p = some (3, P)) (hf : ¬ ((gI S 8 0 6) < 200)) : CC mX8_ticket 4 1 14 [xR (some (8, 0)), xI p, xI x, xI a, xI b] S (aI (-1) S) := by
  refine CC_of mpX8_ticket rfl (Nat.le_of_ble_eq_true rfl) ?_
  refine E_aload_n dX8_ticket_0 rfl rfl ?_
  refine E_iload_n dX8_ticket_1 rfl rfl ?_
  refine E_callV (m2 := mX8_poolOf) dX8_ticket_2 kX8_58 mzX8_poolOf (c_poolOf hX p h) rfl ⟨_, _, rfl⟩ rfl rfl (by decide) (xs8 (Nat.le_of_ble_eq_true rfl)) (by first | exact Nat.le_of_ble_eq_true rfl | omega) (by first | exact Nat.le_of_ble_eq_true rfl | omega) ?_
  rintro _ _ ⟨rfl, rfl⟩
  refine E_astore dX8_ticket_5 (by decide) rfl ?_
  refine E_aload_n dX8_ticket_7 rfl rfl ?_
  refine E_getI dX8_ticket_8 fX8_62 rfl rfl rfl rfl ?_
  refine E_sipush (v := 200) dX8_ticket_11 (by decide) ?_
  refine E_icmp_ge (tgt := 33) dX8_ticket_14 (by decide) (fun h14 => ?_) (fun h14 => absurd h14 (fun z => z (Int32.not_lt.mp hf)))
  refine E_iconst (v := -1) dX8_ticket_33 (by decide) ?_
  refine E_iret dX8_ticket_34 rfl rfl ?_
  exact ⟨rfl, rfl⟩
theorem c_ticket_n {S : xS} (hX : xShX S) (p x a b : Int32) {P : Nat} (h : xpl S p = some (3, P)) (hf : (gI S 8 0 6) < 200) (hs : CC mX8_isTicketSold 3 0 0 [xR (some (8, 0)), xR (some (3, P)), xI x, xI a] S (aI 0 S)) : CC mX8_ticket 4 1 14 [xR (some (8, 0)), xI p, xI x, xI a, xI b] S (aI (-1) S) := by
  refine CC_of mpX8_ticket rfl (Nat.le_of_ble_eq_true rfl) ?_
  refine E_aload_n dX8_ticket_0 rfl rfl ?_
  refine E_iload_n dX8_ticket_1 rfl rfl ?_
  refine E_callV (m2 := mX8_poolOf) dX8_ticket_2 kX8_58 mzX8_poolOf (c_poolOf hX p h) rfl ⟨_, _, rfl⟩ rfl rfl (by decide) (xs8 (Nat.le_of_ble_eq_true rfl)) (by first | exact Nat.le_of_ble_eq_true rfl | omega) (by first | exact Nat.le_of_ble_eq_true rfl | omega) ?_
  rintro _ _ ⟨rfl, rfl⟩
  refine E_astore dX8_ticket_5 (by decide) rfl ?_
  refine E_aload_n dX8_ticket_7 rfl rfl ?_
  refine E_getI dX8_ticket_8 fX8_62 rfl rfl rfl rfl ?_
  refine E_sipush (v := 200) dX8_ticket_11 (by decide) ?_
  refine E_icmp_ge (tgt := 33) dX8_ticket_14 (by decide) (fun h14 => absurd h14 (Int32.not_le.mpr hf)) (fun h14 => ?_)
  refine E_aload dX8_ticket_17 rfl ?_
  refine E_ifnull (tgt := 33) dX8_ticket_19 (by decide) (fun h19 => ?_) (fun q19 h19 => ?_)
  · cases h19
  · refine E_aload_n dX8_ticket_22 rfl rfl ?_
    refine E_aload dX8_ticket_23 rfl ?_
    refine E_iload_n dX8_ticket_25 rfl rfl ?_
    refine E_iload_n dX8_ticket_26 rfl rfl ?_
    refine E_callV (m2 := mX8_isTicketSold) dX8_ticket_27 kX8_65 mzX8_isTicketSold hs rfl ⟨_, _, rfl⟩ rfl rfl (by decide) (xs8 (Nat.le_of_ble_eq_true rfl)) (by first | exact Nat.le_of_ble_eq_true rfl | omega) (by first | exact Nat.le_of_ble_eq_true rfl | omega) ?_
    rintro _ _ ⟨rfl, rfl⟩
    refine E_if_ne (tgt := 35) dX8_ticket_30 (by decide) (fun h30 => absurd h30 (by decide)) (fun h30 => ?_)
    refine E_iconst (v := -1) dX8_ticket_33 (by decide) ?_
    refine E_iret dX8_ticket_34 rfl rfl ?_
    exact ⟨rfl, rfl⟩
theorem c_ticket_y {S : xS} (hX : xShX S) (p x a b : Int32) (hb : xB b) {P T : Nat} {r : Option (Nat × Nat)} (h : xpl S p = some (3, P)) (hT : (gI S 8 0 6) = nI T) (hT2 : T < 200) (hs : CC mX8_isTicketSold 3 0 0 [xR (some (8, 0)), xR (some (3, P)), xI x, xI a] S (aI 1 S)) (hr : ((x = 2 ∨ x = 3) ∧ xcl S a = r) ∨ (¬ (x = 2 ∨ x = 3) ∧ r = none)) (hr2 : ∀ q, r = some q → q.1 ≠ 99) (hf : gL S 7 T = none) : CC mX8_ticket 4 1 14 [xR (some (8, 0)), xI p, xI x, xI a, xI b] S (aI (nI T) (xnt S T P x a r b)) := by
  refine CC_of mpX8_ticket rfl (Nat.le_of_ble_eq_true rfl) ?_
  rcases hr with ⟨hk, hr⟩ | ⟨hk, rfl⟩
  · skip
    refine E_aload_n dX8_ticket_0 rfl rfl ?_
    refine E_iload_n dX8_ticket_1 rfl rfl ?_
    refine E_callV (m2 := mX8_poolOf) dX8_ticket_2 kX8_58 mzX8_poolOf (c_poolOf hX p h) rfl ⟨_, _, rfl⟩ rfl rfl (by decide) (xs8 (Nat.le_of_ble_eq_true rfl)) (by first | exact Nat.le_of_ble_eq_true rfl | omega) (by first | exact Nat.le_of_ble_eq_true rfl | omega) ?_
    rintro _ _ ⟨rfl, rfl⟩
    refine E_astore dX8_ticket_5 (by decide) rfl ?_
    refine E_aload_n dX8_ticket_7 rfl rfl ?_
    refine E_getI dX8_ticket_8 fX8_62 rfl rfl rfl hT ?_
    refine E_sipush (v := 200) dX8_ticket_11 (by decide) ?_
    refine E_icmp_ge (tgt := 33) dX8_ticket_14 (by decide) (fun h14 => absurd h14 ((fun z => Int32.not_le.mpr (nI_lt (b := 200) hT2 (by omega)) z))) (fun h14 => ?_)
    refine E_aload dX8_ticket_17 rfl ?_
    refine E_ifnull (tgt := 33) dX8_ticket_19 (by decide) (fun h19 => ?_) (fun q19 h19 => ?_)
    · cases h19
    · refine E_aload_n dX8_ticket_22 rfl rfl ?_
      refine E_aload dX8_ticket_23 rfl ?_
      refine E_iload_n dX8_ticket_25 rfl rfl ?_
      refine E_iload_n dX8_ticket_26 rfl rfl ?_
      refine E_callV (m2 := mX8_isTicketSold) dX8_ticket_27 kX8_65 mzX8_isTicketSold hs rfl ⟨_, _, rfl⟩ rfl rfl (by decide) (xs8 (Nat.le_of_ble_eq_true rfl)) (by first | exact Nat.le_of_ble_eq_true rfl | omega) (by first | exact Nat.le_of_ble_eq_true rfl | omega) ?_
      rintro _ _ ⟨rfl, rfl⟩
      refine E_if_ne (tgt := 35) dX8_ticket_30 (by decide) (fun h30 => ?_) (fun h30 => absurd h30 (by decide))
      refine E_aload_n dX8_ticket_35 rfl rfl ?_
      refine E_getI dX8_ticket_36 fX8_62 rfl rfl rfl hT ?_
      refine E_istore dX8_ticket_39 (by decide) rfl ?_
      refine E_iload_n dX8_ticket_41 rfl rfl ?_
      refine E_callS (m2 := mX8_isClubKind) dX8_ticket_42 kX8_69 mzX8_isClubKind (c_X8_isClubKind _) rfl rfl (by decide) (xs8 (Nat.le_of_ble_eq_true rfl)) (by first | exact Nat.le_of_ble_eq_true rfl | omega) (by first | exact Nat.le_of_ble_eq_true rfl | omega) ?_
      rintro _ _ ⟨rfl, rfl⟩; rw [if_pos hk]
      refine E_if_eq (tgt := 56) dX8_ticket_45 (by decide) (fun h45 => absurd h45 (by decide)) (fun h45 => ?_)
      refine E_aload_n dX8_ticket_48 rfl rfl ?_
      refine E_iload_n dX8_ticket_49 rfl rfl ?_
      refine E_callV (m2 := mX8_clubOf) dX8_ticket_50 kX8_73 mzX8_clubOf (c_clubOf hX a hr) rfl ⟨_, _, rfl⟩ rfl rfl (by decide) (xs8 (Nat.le_of_ble_eq_true rfl)) (by first | exact Nat.le_of_ble_eq_true rfl | omega) (by first | exact Nat.le_of_ble_eq_true rfl | omega) ?_
      rintro _ _ ⟨rfl, rfl⟩
      refine E_goto (tgt := 57) dX8_ticket_53 (by decide) ?_
      refine E_astore dX8_ticket_57 (by decide) rfl ?_
      refine E_aload_n dX8_ticket_59 rfl rfl ?_
      refine E_getR dX8_ticket_60 fX8_17 rfl rfl rfl (rX_8_1 hX) ?_
      refine E_iload dX8_ticket_63 rfl ?_
      refine E_new (k := 7) (i := T) dX8_ticket_65 nX8_15 rfl rfl rfl isX7 ziX7 hf (by first | exact Nat.le_of_ble_eq_true rfl | omega) (by first | exact Nat.le_of_ble_eq_true rfl | omega) ?_
      refine E_dup dX8_ticket_68 rfl ?_
      refine E_iload dX8_ticket_69 rfl ?_
      refine E_aload dX8_ticket_71 rfl ?_
      refine E_iload_n dX8_ticket_73 rfl rfl ?_
      refine E_iload_n dX8_ticket_74 rfl rfl ?_
      refine E_aload dX8_ticket_75 rfl ?_
      refine E_iload dX8_ticket_77 rfl ?_
      refine E_callI (m2 := mX7_init) dX8_ticket_79 kX8_77 mzX7_init (c_X7_init (S := sN S 7 T 0) T P (nI T) x a r b hb hr2) rfl rfl (by decide) (xs8 (Nat.le_of_ble_eq_true rfl)) (by first | exact Nat.le_of_ble_eq_true rfl | omega) (by first | exact Nat.le_of_ble_eq_true rfl | omega) ?_
      rintro _ _ ⟨rfl, rfl⟩
      refine E_aast dX8_ticket_82 rfl rfl (by decide) (lX_11 hX) (vin hT2 (by omega)) (vnat hT2 (by omega)) rfl rfl ?_
      refine E_aload_n dX8_ticket_83 rfl rfl ?_
      refine E_dup dX8_ticket_84 rfl ?_
      refine E_getI dX8_ticket_85 fX8_62 rfl rfl rfl rfl ?_
      refine E_iconst (v := 1) dX8_ticket_88 (by decide) ?_
      refine E_iadd dX8_ticket_89 ?_
      refine E_putI dX8_ticket_90 fX8_62 rfl rfl rfl rfl rfl ?_
      refine E_iload dX8_ticket_93 rfl ?_
      refine E_iret dX8_ticket_95 rfl rfl ?_
      exact ⟨rfl, rfl⟩
  · skip
    refine E_aload_n dX8_ticket_0 rfl rfl ?_
    refine E_iload_n dX8_ticket_1 rfl rfl ?_
    refine E_callV (m2 := mX8_poolOf) dX8_ticket_2 kX8_58 mzX8_poolOf (c_poolOf hX p h) rfl ⟨_, _, rfl⟩ rfl rfl (by decide) (xs8 (Nat.le_of_ble_eq_true rfl)) (by first | exact Nat.le_of_ble_eq_true rfl | omega) (by first | exact Nat.le_of_ble_eq_true rfl | omega) ?_
    rintro _ _ ⟨rfl, rfl⟩
    refine E_astore dX8_ticket_5 (by decide) rfl ?_
    refine E_aload_n dX8_ticket_7 rfl rfl ?_
    refine E_getI dX8_ticket_8 fX8_62 rfl rfl rfl hT ?_
    refine E_sipush (v := 200) dX8_ticket_11 (by decide) ?_
    refine E_icmp_ge (tgt := 33) dX8_ticket_14 (by decide) (fun h14 => absurd h14 ((fun z => Int32.not_le.mpr (nI_lt (b := 200) hT2 (by omega)) z))) (fun h14 => ?_)
    refine E_aload dX8_ticket_17 rfl ?_
    refine E_ifnull (tgt := 33) dX8_ticket_19 (by decide) (fun h19 => ?_) (fun q19 h19 => ?_)
    · cases h19
    · refine E_aload_n dX8_ticket_22 rfl rfl ?_
      refine E_aload dX8_ticket_23 rfl ?_
      refine E_iload_n dX8_ticket_25 rfl rfl ?_
      refine E_iload_n dX8_ticket_26 rfl rfl ?_
      refine E_callV (m2 := mX8_isTicketSold) dX8_ticket_27 kX8_65 mzX8_isTicketSold hs rfl ⟨_, _, rfl⟩ rfl rfl (by decide) (xs8 (Nat.le_of_ble_eq_true rfl)) (by first | exact Nat.le_of_ble_eq_true rfl | omega) (by first | exact Nat.le_of_ble_eq_true rfl | omega) ?_
      rintro _ _ ⟨rfl, rfl⟩
      refine E_if_ne (tgt := 35) dX8_ticket_30 (by decide) (fun h30 => ?_) (fun h30 => absurd h30 (by decide))
      refine E_aload_n dX8_ticket_35 rfl rfl ?_
      refine E_getI dX8_ticket_36 fX8_62 rfl rfl rfl hT ?_
      refine E_istore dX8_ticket_39 (by decide) rfl ?_
      refine E_iload_n dX8_ticket_41 rfl rfl ?_
      refine E_callS (m2 := mX8_isClubKind) dX8_ticket_42 kX8_69 mzX8_isClubKind (c_X8_isClubKind _) rfl rfl (by decide) (xs8 (Nat.le_of_ble_eq_true rfl)) (by first | exact Nat.le_of_ble_eq_true rfl | omega) (by first | exact Nat.le_of_ble_eq_true rfl | omega) ?_
      rintro _ _ ⟨rfl, rfl⟩; rw [if_neg hk]
      refine E_if_eq (tgt := 56) dX8_ticket_45 (by decide) (fun h45 => ?_) (fun h45 => absurd h45 (by decide))
      refine E_null dX8_ticket_56 ?_
      refine E_astore dX8_ticket_57 (by decide) rfl ?_
      refine E_aload_n dX8_ticket_59 rfl rfl ?_
      refine E_getR dX8_ticket_60 fX8_17 rfl rfl rfl (rX_8_1 hX) ?_
      refine E_iload dX8_ticket_63 rfl ?_
      refine E_new (k := 7) (i := T) dX8_ticket_65 nX8_15 rfl rfl rfl isX7 ziX7 hf (by first | exact Nat.le_of_ble_eq_true rfl | omega) (by first | exact Nat.le_of_ble_eq_true rfl | omega) ?_
      refine E_dup dX8_ticket_68 rfl ?_
      refine E_iload dX8_ticket_69 rfl ?_
      refine E_aload dX8_ticket_71 rfl ?_
      refine E_iload_n dX8_ticket_73 rfl rfl ?_
      refine E_iload_n dX8_ticket_74 rfl rfl ?_
      refine E_aload dX8_ticket_75 rfl ?_
      refine E_iload dX8_ticket_77 rfl ?_
      refine E_callI (m2 := mX7_init) dX8_ticket_79 kX8_77 mzX7_init (c_X7_init (S := sN S 7 T 0) T P (nI T) x a none b hb (by intro q z; cases z)) rfl rfl (by decide) (xs8 (Nat.le_of_ble_eq_true rfl)) (by first | exact Nat.le_of_ble_eq_true rfl | omega) (by first | exact Nat.le_of_ble_eq_true rfl | omega) ?_
      rintro _ _ ⟨rfl, rfl⟩
      refine E_aast dX8_ticket_82 rfl rfl (by decide) (lX_11 hX) (vin hT2 (by omega)) (vnat hT2 (by omega)) rfl rfl ?_
      refine E_aload_n dX8_ticket_83 rfl rfl ?_
      refine E_dup dX8_ticket_84 rfl ?_
      refine E_getI dX8_ticket_85 fX8_62 rfl rfl rfl rfl ?_
      refine E_iconst (v := 1) dX8_ticket_88 (by decide) ?_
      refine E_iadd dX8_ticket_89 ?_
      refine E_putI dX8_ticket_90 fX8_62 rfl rfl rfl rfl rfl ?_
      refine E_iload dX8_ticket_93 rfl ?_
      refine E_iret dX8_ticket_95 rfl rfl ?_
      exact ⟨rfl, rfl⟩
def xc0 (S : xS) (k0 c q : Nat) (x1 x2 x3 x4 : Int32) : xS := sI (sI (sI (sI (sR S k0 c 0 (some (3, q))) k0 c 1 x1) k0 c 2 x2) k0 c 4 x3) k0 c 3 x4
def xnc (S : xS) (c q : Nat) (x1 x2 x3 x4 : Int32) : xS := (sI (sR (xc0 (sN S 0 c 0) 0 c q x1 x2 x3 x4) 12 0 c (some (0, c))) 8 0 7 ((gI S 8 0 7) + 1))
def xcond (S : xS) (P : Nat) (l f t u : Int32) : Prop := (0 < l ∧ l < 1 <<< ((gI S 3 P 2) &&& 31)) ∧ (0 ≤ f ∧ f ≤ 1439) ∧ f < t ∧ t ≤ 1440 ∧ 0 ≤ u ∧ u ≤ 30
theorem c_club_p {S : xS} (hX : xShX S) (p l f t u : Int32) (h : xpl S p = none) : CC mX8_club 4 1 7 [xR (some (8, 0)), xI p, xI l, xI f, xI t, xI u] S (aI (-1) S) := by
  refine CC_of mpX8_club rfl (Nat.le_of_ble_eq_true rfl) ?_
  refine E_aload_n dX8_club_0 rfl rfl ?_
  refine E_iload_n dX8_club_1 rfl rfl ?_
  refine E_callV (m2 := mX8_poolOf) dX8_club_2 kX8_58 mzX8_poolOf (c_poolOf hX p h) rfl ⟨_, _, rfl⟩ rfl rfl (by decide) (xs8 (Nat.le_of_ble_eq_true rfl)) (by first | exact Nat.le_of_ble_eq_true rfl | omega) (by first | exact Nat.le_of_ble_eq_true rfl | omega) ?_
  rintro _ _ ⟨rfl, rfl⟩
  refine E_astore dX8_club_5 (by decide) rfl ?_
  refine E_aload_n dX8_club_7 rfl rfl ?_
  refine E_getI dX8_club_8 fX8_80 rfl rfl rfl rfl ?_
  refine E_bipush (v := 20) dX8_club_11 (by decide) ?_
  refine E_icmp_ge (tgt := 66) dX8_club_13 (by decide) (fun h13 => ?_) (fun h13 => ?_)
  · refine E_iconst (v := -1) dX8_club_66 (by decide) ?_
    refine E_iret dX8_club_67 rfl rfl ?_
    exact ⟨rfl, rfl⟩
  · refine E_aload dX8_club_16 rfl ?_
    refine E_ifnull (tgt := 66) dX8_club_18 (by decide) (fun h18 => ?_) (fun q18 h18 => absurd h18 (by intro z; cases z))
    refine E_iconst (v := -1) dX8_club_66 (by decide) ?_
    refine E_iret dX8_club_67 rfl rfl ?_
    exact ⟨rfl, rfl⟩
theorem c_club_n {S : xS} (hX : xShX S) (p l f t u : Int32) {P : Nat} (h : xpl S p = some (3, P)) (hn : ¬ ((gI S 8 0 7) < 20 ∧ xcond S P l f t u)) : CC mX8_club 4 1 7 [xR (some (8, 0)), xI p, xI l, xI f, xI t, xI u] S (aI (-1) S) := by
  refine CC_of mpX8_club rfl (Nat.le_of_ble_eq_true rfl) ?_
  refine E_aload_n dX8_club_0 rfl rfl ?_
  refine E_iload_n dX8_club_1 rfl rfl ?_
  refine E_callV (m2 := mX8_poolOf) dX8_club_2 kX8_58 mzX8_poolOf (c_poolOf hX p h) rfl ⟨_, _, rfl⟩ rfl rfl (by decide) (xs8 (Nat.le_of_ble_eq_true rfl)) (by first | exact Nat.le_of_ble_eq_true rfl | omega) (by first | exact Nat.le_of_ble_eq_true rfl | omega) ?_
  rintro _ _ ⟨rfl, rfl⟩
  refine E_astore dX8_club_5 (by decide) rfl ?_
  refine E_aload_n dX8_club_7 rfl rfl ?_
  refine E_getI dX8_club_8 fX8_80 rfl rfl rfl rfl ?_
  refine E_bipush (v := 20) dX8_club_11 (by decide) ?_
  refine E_icmp_ge (tgt := 66) dX8_club_13 (by decide) (fun h13 => ?_) (fun h13 => ?_)
  · refine E_iconst (v := -1) dX8_club_66 (by decide) ?_
    refine E_iret dX8_club_67 rfl rfl ?_
    exact ⟨rfl, rfl⟩
  · refine E_aload dX8_club_16 rfl ?_
    refine E_ifnull (tgt := 66) dX8_club_18 (by decide) (fun h18 => ?_) (fun q18 h18 => ?_)
    · cases h18
    · refine E_aload dX8_club_21 rfl ?_
      refine E_iload_n dX8_club_23 rfl rfl ?_
      refine E_callV (m2 := mX3_hasLanes) dX8_club_24 kX8_83 mzX3_hasLanes (c_X3_hasLanes P l) rfl ⟨_, _, rfl⟩ rfl rfl (by decide) (xs8 (Nat.le_of_ble_eq_true rfl)) (by first | exact Nat.le_of_ble_eq_true rfl | omega) (by first | exact Nat.le_of_ble_eq_true rfl | omega) ?_
      rintro _ _ ⟨rfl, rfl⟩
      refine E_if_eq (tgt := 66) dX8_club_27 (by decide) (fun h27 => ?_) (fun h27 => ?_)
      · refine E_iconst (v := -1) dX8_club_66 (by decide) ?_
        refine E_iret dX8_club_67 rfl rfl ?_
        exact ⟨rfl, rfl⟩
      · refine E_iload_n dX8_club_30 rfl rfl ?_
        refine E_iconst (v := 0) dX8_club_31 (by decide) ?_
        refine E_sipush (v := 1439) dX8_club_32 (by decide) ?_
        refine E_callS (m2 := mX8_isWithin) dX8_club_35 kX8_48 mzX8_isWithin (c_X8_isWithin _ _ _) rfl rfl (by decide) (xs8 (Nat.le_of_ble_eq_true rfl)) (by first | exact Nat.le_of_ble_eq_true rfl | omega) (by first | exact Nat.le_of_ble_eq_true rfl | omega) ?_
        rintro _ _ ⟨rfl, rfl⟩
        refine E_if_eq (tgt := 66) dX8_club_38 (by decide) (fun h38 => ?_) (fun h38 => ?_)
        · refine E_iconst (v := -1) dX8_club_66 (by decide) ?_
          refine E_iret dX8_club_67 rfl rfl ?_
          exact ⟨rfl, rfl⟩
        · refine E_iload dX8_club_41 rfl ?_
          refine E_iload_n dX8_club_43 rfl rfl ?_
          refine E_icmp_le (tgt := 66) dX8_club_44 (by decide) (fun h44 => ?_) (fun h44 => ?_)
          · refine E_iconst (v := -1) dX8_club_66 (by decide) ?_
            refine E_iret dX8_club_67 rfl rfl ?_
            exact ⟨rfl, rfl⟩
          · refine E_iload dX8_club_47 rfl ?_
            refine E_sipush (v := 1440) dX8_club_49 (by decide) ?_
            refine E_icmp_gt (tgt := 66) dX8_club_52 (by decide) (fun h52 => ?_) (fun h52 => ?_)
            · refine E_iconst (v := -1) dX8_club_66 (by decide) ?_
              refine E_iret dX8_club_67 rfl rfl ?_
              exact ⟨rfl, rfl⟩
            · refine E_iload dX8_club_55 rfl ?_
              refine E_iconst (v := 0) dX8_club_57 (by decide) ?_
              refine E_bipush (v := 30) dX8_club_58 (by decide) ?_
              refine E_callS (m2 := mX8_isWithin) dX8_club_60 kX8_48 mzX8_isWithin (c_X8_isWithin _ _ _) rfl rfl (by decide) (xs8 (Nat.le_of_ble_eq_true rfl)) (by first | exact Nat.le_of_ble_eq_true rfl | omega) (by first | exact Nat.le_of_ble_eq_true rfl | omega) ?_
              rintro _ _ ⟨rfl, rfl⟩
              refine E_if_ne (tgt := 68) dX8_club_63 (by decide) (fun h63 => ?_) (fun h63 => ?_)
              · exact absurd ⟨Int32.not_le.mp h13, ite1 h27, ite1 h38, Int32.not_le.mp h44, Int32.not_lt.mp h52, ite1 h63⟩ hn
              · refine E_iconst (v := -1) dX8_club_66 (by decide) ?_
                refine E_iret dX8_club_67 rfl rfl ?_
                exact ⟨rfl, rfl⟩
theorem c_club_y {S : xS} (hX : xShX S) (p l f t u : Int32) {P C : Nat} {Pc : Nat → Nat} (h : xpl S p = some (3, P)) (hC : (gI S 8 0 7) = nI C) (hC2 : C < 20) (hy : xcond S P l f t u) (hf : gL S 0 C = none) (hq : xcok S C Pc) (hno : ∀ c, c < C → ¬ xkp (xc0 (sN S 0 C 0) 0 C P l f t u) Pc c 0 C P) : CC mX8_club 4 1 7 [xR (some (8, 0)), xI p, xI l, xI f, xI t, xI u] S (aI (nI C) (xnc S C P l f t u)) := by
  refine CC_of mpX8_club rfl (Nat.le_of_ble_eq_true rfl) ?_
  obtain ⟨y1, y2, y3, y4, y5⟩ := hy
  have hq2 : xcok (xc0 (sN S 0 C 0) 0 C P l f t u) C Pc := ⟨hq.1, fun c hc => by
    have hne : c ≠ C := by omega
    unfold xc0
    rw [gR_sI, gR_sI, gR_sI, gR_sI, gR_sR, if_neg (fun z => hne z.2.2), gR_sN, if_neg (fun z => hne z.2)]
    exact hq.2 c hc⟩
  have hs2 : gR (xc0 (sN S 0 C 0) 0 C P l f t u) 0 C 0 = some (3, P) := by
    unfold xc0
    rw [gR_sI, gR_sI, gR_sI, gR_sI, gR_sR, if_pos ⟨rfl, rfl, rfl⟩]
  refine E_aload_n dX8_club_0 rfl rfl ?_
  refine E_iload_n dX8_club_1 rfl rfl ?_
  refine E_callV (m2 := mX8_poolOf) dX8_club_2 kX8_58 mzX8_poolOf (c_poolOf hX p h) rfl ⟨_, _, rfl⟩ rfl rfl (by decide) (xs8 (Nat.le_of_ble_eq_true rfl)) (by first | exact Nat.le_of_ble_eq_true rfl | omega) (by first | exact Nat.le_of_ble_eq_true rfl | omega) ?_
  rintro _ _ ⟨rfl, rfl⟩
  refine E_astore dX8_club_5 (by decide) rfl ?_
  refine E_aload_n dX8_club_7 rfl rfl ?_
  refine E_getI dX8_club_8 fX8_80 rfl rfl rfl hC ?_
  refine E_bipush (v := 20) dX8_club_11 (by decide) ?_
  refine E_icmp_ge (tgt := 66) dX8_club_13 (by decide) (fun h13 => absurd h13 ((fun z => Int32.not_le.mpr (nI_lt (b := 20) hC2 (by omega)) z))) (fun h13 => ?_)
  refine E_aload dX8_club_16 rfl ?_
  refine E_ifnull (tgt := 66) dX8_club_18 (by decide) (fun h18 => ?_) (fun q18 h18 => ?_)
  · cases h18
  · refine E_aload dX8_club_21 rfl ?_
    refine E_iload_n dX8_club_23 rfl rfl ?_
    refine E_callV (m2 := mX3_hasLanes) dX8_club_24 kX8_83 mzX3_hasLanes (c_X3_hasLanes P l) rfl ⟨_, _, rfl⟩ rfl rfl (by decide) (xs8 (Nat.le_of_ble_eq_true rfl)) (by first | exact Nat.le_of_ble_eq_true rfl | omega) (by first | exact Nat.le_of_ble_eq_true rfl | omega) ?_
    rintro _ _ ⟨rfl, rfl⟩; rw [if_pos y1]
    refine E_if_eq (tgt := 66) dX8_club_27 (by decide) (fun h27 => absurd h27 (by decide)) (fun h27 => ?_)
    refine E_iload_n dX8_club_30 rfl rfl ?_
    refine E_iconst (v := 0) dX8_club_31 (by decide) ?_
    refine E_sipush (v := 1439) dX8_club_32 (by decide) ?_
    refine E_callS (m2 := mX8_isWithin) dX8_club_35 kX8_48 mzX8_isWithin (c_X8_isWithin _ _ _) rfl rfl (by decide) (xs8 (Nat.le_of_ble_eq_true rfl)) (by first | exact Nat.le_of_ble_eq_true rfl | omega) (by first | exact Nat.le_of_ble_eq_true rfl | omega) ?_
    rintro _ _ ⟨rfl, rfl⟩; rw [if_pos y2]
    refine E_if_eq (tgt := 66) dX8_club_38 (by decide) (fun h38 => absurd h38 (by decide)) (fun h38 => ?_)
    refine E_iload dX8_club_41 rfl ?_
    refine E_iload_n dX8_club_43 rfl rfl ?_
    refine E_icmp_le (tgt := 66) dX8_club_44 (by decide) (fun h44 => absurd h44 (Int32.not_le.mpr y3)) (fun h44 => ?_)
    refine E_iload dX8_club_47 rfl ?_
    refine E_sipush (v := 1440) dX8_club_49 (by decide) ?_
    refine E_icmp_gt (tgt := 66) dX8_club_52 (by decide) (fun h52 => absurd h52 (Int32.not_lt.mpr y4)) (fun h52 => ?_)
    refine E_iload dX8_club_55 rfl ?_
    refine E_iconst (v := 0) dX8_club_57 (by decide) ?_
    refine E_bipush (v := 30) dX8_club_58 (by decide) ?_
    refine E_callS (m2 := mX8_isWithin) dX8_club_60 kX8_48 mzX8_isWithin (c_X8_isWithin _ _ _) rfl rfl (by decide) (xs8 (Nat.le_of_ble_eq_true rfl)) (by first | exact Nat.le_of_ble_eq_true rfl | omega) (by first | exact Nat.le_of_ble_eq_true rfl | omega) ?_
    rintro _ _ ⟨rfl, rfl⟩; rw [if_pos y5]
    refine E_if_ne (tgt := 68) dX8_club_63 (by decide) (fun h63 => ?_) (fun h63 => absurd h63 (by decide))
    refine E_new (k := 0) (i := C) dX8_club_68 nX8_21 rfl rfl rfl isX0 ziX0 hf (by first | exact Nat.le_of_ble_eq_true rfl | omega) (by first | exact Nat.le_of_ble_eq_true rfl | omega) ?_
    refine E_dup dX8_club_71 rfl ?_
    refine E_aload dX8_club_72 rfl ?_
    refine E_iload_n dX8_club_74 rfl rfl ?_
    refine E_iload_n dX8_club_75 rfl rfl ?_
    refine E_iload dX8_club_76 rfl ?_
    refine E_iload dX8_club_78 rfl ?_
    refine E_callI (m2 := mX0_init) dX8_club_80 kX8_86 mzX0_init (c_X0_init (S := sN S 0 C 0) C P l f t u 0 rfl rfl) rfl rfl (by decide) (xs8 (Nat.le_of_ble_eq_true rfl)) (by first | exact Nat.le_of_ble_eq_true rfl | omega) (by first | exact Nat.le_of_ble_eq_true rfl | omega) ?_
    rintro _ _ ⟨rfl, rfl⟩
    refine E_astore dX8_club_83 (by decide) rfl ?_
    refine E_aload_n dX8_club_85 rfl rfl ?_
    refine E_aload dX8_club_86 rfl ?_
    refine E_callV (m2 := mX8_lowestClash) dX8_club_88 kX8_89 mzX8_lowestClash (c_lowestClash_n (S := xc0 (sN S 0 C 0) 0 C P l f t u) hX hq2 0 C P rfl rfl hs2 hno) rfl ⟨_, _, rfl⟩ rfl rfl (by decide) (xs8 (Nat.le_of_ble_eq_true rfl)) (by first | exact Nat.le_of_ble_eq_true rfl | omega) (by first | exact Nat.le_of_ble_eq_true rfl | omega) ?_
    rintro _ _ ⟨rfl, rfl⟩
    refine E_istore dX8_club_91 (by decide) rfl ?_
    refine E_iload dX8_club_93 rfl ?_
    refine E_iconst (v := -1) dX8_club_95 (by decide) ?_
    refine E_icmp_eq (tgt := 107) dX8_club_96 (by decide) (fun h96 => ?_) (fun h96 => absurd h96 (by decide))
    refine E_aload_n dX8_club_107 rfl rfl ?_
    refine E_getI dX8_club_108 fX8_80 rfl rfl rfl hC ?_
    refine E_istore dX8_club_111 (by decide) rfl ?_
    refine E_aload_n dX8_club_113 rfl rfl ?_
    refine E_getR dX8_club_114 fX8_23 rfl rfl rfl (rX_8_2 hX) ?_
    refine E_iload dX8_club_117 rfl ?_
    refine E_aload dX8_club_119 rfl ?_
    refine E_aast dX8_club_121 rfl rfl (by decide) (lX_12 hX) (vin hC2 (by omega)) (vnat hC2 (by omega)) rfl rfl ?_
    refine E_aload_n dX8_club_122 rfl rfl ?_
    refine E_dup dX8_club_123 rfl ?_
    refine E_getI dX8_club_124 fX8_80 rfl rfl rfl rfl ?_
    refine E_iconst (v := 1) dX8_club_127 (by decide) ?_
    refine E_iadd dX8_club_128 ?_
    refine E_putI dX8_club_129 fX8_80 rfl rfl rfl rfl rfl ?_
    refine E_iload dX8_club_132 rfl ?_
    refine E_iret dX8_club_134 rfl rfl ?_
    exact ⟨rfl, rfl⟩
theorem c_club_c {S : xS} (hX : xShX S) (p l f t u : Int32) {P C c0 : Nat} {Pc : Nat → Nat} (h : xpl S p = some (3, P)) (hC : (gI S 8 0 7) = nI C) (hC2 : C < 20) (hy : xcond S P l f t u) (hq : xcok S C Pc) (hc0 : c0 < C) (hyes : ∀ i, xkp (xc0 (sN S 41 i 0) 41 i P l f t u) Pc c0 41 i P) (hno : ∀ i c, c < c0 → ¬ xkp (xc0 (sN S 41 i 0) 41 i P l f t u) Pc c 41 i P) : CC mX8_club 4 1 7 [xR (some (8, 0)), xI p, xI l, xI f, xI t, xI u] S (fun v S' => some (xI (-1)) = v ∧ ∃ i, gL S 41 i = none ∧ (sI (xc0 (sN S 41 i 0) 41 i P l f t u) 8 0 8 (nI c0)) = S') := by
  refine CC_of mpX8_club rfl (Nat.le_of_ble_eq_true rfl) ?_
  obtain ⟨y1, y2, y3, y4, y5⟩ := hy
  refine E_fresh 41 (fun i hf => ?_)
  have hs2 : gR (xc0 (sN S 41 i 0) 41 i P l f t u) 41 i 0 = some (3, P) := by
    unfold xc0
    rw [gR_sI, gR_sI, gR_sI, gR_sI, gR_sR, if_pos ⟨rfl, rfl, rfl⟩]
  refine E_aload_n dX8_club_0 rfl rfl ?_
  refine E_iload_n dX8_club_1 rfl rfl ?_
  refine E_callV (m2 := mX8_poolOf) dX8_club_2 kX8_58 mzX8_poolOf (c_poolOf hX p h) rfl ⟨_, _, rfl⟩ rfl rfl (by decide) (xs8 (Nat.le_of_ble_eq_true rfl)) (by first | exact Nat.le_of_ble_eq_true rfl | omega) (by first | exact Nat.le_of_ble_eq_true rfl | omega) ?_
  rintro _ _ ⟨rfl, rfl⟩
  refine E_astore dX8_club_5 (by decide) rfl ?_
  refine E_aload_n dX8_club_7 rfl rfl ?_
  refine E_getI dX8_club_8 fX8_80 rfl rfl rfl hC ?_
  refine E_bipush (v := 20) dX8_club_11 (by decide) ?_
  refine E_icmp_ge (tgt := 66) dX8_club_13 (by decide) (fun h13 => absurd h13 ((fun z => Int32.not_le.mpr (nI_lt (b := 20) hC2 (by omega)) z))) (fun h13 => ?_)
  refine E_aload dX8_club_16 rfl ?_
  refine E_ifnull (tgt := 66) dX8_club_18 (by decide) (fun h18 => ?_) (fun q18 h18 => ?_)
  · cases h18
  · refine E_aload dX8_club_21 rfl ?_
    refine E_iload_n dX8_club_23 rfl rfl ?_
    refine E_callV (m2 := mX3_hasLanes) dX8_club_24 kX8_83 mzX3_hasLanes (c_X3_hasLanes P l) rfl ⟨_, _, rfl⟩ rfl rfl (by decide) (xs8 (Nat.le_of_ble_eq_true rfl)) (by first | exact Nat.le_of_ble_eq_true rfl | omega) (by first | exact Nat.le_of_ble_eq_true rfl | omega) ?_
    rintro _ _ ⟨rfl, rfl⟩; rw [if_pos y1]
    refine E_if_eq (tgt := 66) dX8_club_27 (by decide) (fun h27 => absurd h27 (by decide)) (fun h27 => ?_)
    refine E_iload_n dX8_club_30 rfl rfl ?_
    refine E_iconst (v := 0) dX8_club_31 (by decide) ?_
    refine E_sipush (v := 1439) dX8_club_32 (by decide) ?_
    refine E_callS (m2 := mX8_isWithin) dX8_club_35 kX8_48 mzX8_isWithin (c_X8_isWithin _ _ _) rfl rfl (by decide) (xs8 (Nat.le_of_ble_eq_true rfl)) (by first | exact Nat.le_of_ble_eq_true rfl | omega) (by first | exact Nat.le_of_ble_eq_true rfl | omega) ?_
    rintro _ _ ⟨rfl, rfl⟩; rw [if_pos y2]
    refine E_if_eq (tgt := 66) dX8_club_38 (by decide) (fun h38 => absurd h38 (by decide)) (fun h38 => ?_)
    refine E_iload dX8_club_41 rfl ?_
    refine E_iload_n dX8_club_43 rfl rfl ?_
    refine E_icmp_le (tgt := 66) dX8_club_44 (by decide) (fun h44 => absurd h44 (Int32.not_le.mpr y3)) (fun h44 => ?_)
    refine E_iload dX8_club_47 rfl ?_
    refine E_sipush (v := 1440) dX8_club_49 (by decide) ?_
    refine E_icmp_gt (tgt := 66) dX8_club_52 (by decide) (fun h52 => absurd h52 (Int32.not_lt.mpr y4)) (fun h52 => ?_)
    refine E_iload dX8_club_55 rfl ?_
    refine E_iconst (v := 0) dX8_club_57 (by decide) ?_
    refine E_bipush (v := 30) dX8_club_58 (by decide) ?_
    refine E_callS (m2 := mX8_isWithin) dX8_club_60 kX8_48 mzX8_isWithin (c_X8_isWithin _ _ _) rfl rfl (by decide) (xs8 (Nat.le_of_ble_eq_true rfl)) (by first | exact Nat.le_of_ble_eq_true rfl | omega) (by first | exact Nat.le_of_ble_eq_true rfl | omega) ?_
    rintro _ _ ⟨rfl, rfl⟩; rw [if_pos y5]
    refine E_if_ne (tgt := 68) dX8_club_63 (by decide) (fun h63 => ?_) (fun h63 => absurd h63 (by decide))
    refine E_new (k := 41) (i := i) dX8_club_68 nX8_21 rfl rfl rfl isX0 ziX0 hf (by first | exact Nat.le_of_ble_eq_true rfl | omega) (by first | exact Nat.le_of_ble_eq_true rfl | omega) ?_
    refine E_dup dX8_club_71 rfl ?_
    refine E_aload dX8_club_72 rfl ?_
    refine E_iload_n dX8_club_74 rfl rfl ?_
    refine E_iload_n dX8_club_75 rfl rfl ?_
    refine E_iload dX8_club_76 rfl ?_
    refine E_iload dX8_club_78 rfl ?_
    refine E_callI (m2 := mX0_init) dX8_club_80 kX8_86 mzX0_init (c_X0_init (S := sN S 41 i 0) i P l f t u 41 rfl rfl) rfl rfl (by decide) (xs8 (Nat.le_of_ble_eq_true rfl)) (by first | exact Nat.le_of_ble_eq_true rfl | omega) (by first | exact Nat.le_of_ble_eq_true rfl | omega) ?_
    rintro _ _ ⟨rfl, rfl⟩
    refine E_astore dX8_club_83 (by decide) rfl ?_
    refine E_aload_n dX8_club_85 rfl rfl ?_
    refine E_aload dX8_club_86 rfl ?_
    refine E_callV (m2 := mX8_lowestClash) dX8_club_88 kX8_89 mzX8_lowestClash (c_lowestClash_y (S := xc0 (sN S 41 i 0) 41 i P l f t u) (C := C) hX hq 41 i P rfl rfl hs2 c0 hc0 (by omega) (hyes i) (hno i)) rfl ⟨_, _, rfl⟩ rfl rfl (by decide) (xs8 (Nat.le_of_ble_eq_true rfl)) (by first | exact Nat.le_of_ble_eq_true rfl | omega) (by first | exact Nat.le_of_ble_eq_true rfl | omega) ?_
    rintro _ _ ⟨rfl, rfl⟩
    refine E_istore dX8_club_91 (by decide) rfl ?_
    refine E_iload dX8_club_93 rfl ?_
    refine E_iconst (v := -1) dX8_club_95 (by decide) ?_
    refine E_icmp_eq (tgt := 107) dX8_club_96 (by decide) (fun h96 => absurd h96 ((fun z => by have h2 := (xon_ne (o := some c0) (fun b hb => by cases hb; omega)).mp z; cases h2))) (fun h96 => ?_)
    refine E_aload_n dX8_club_99 rfl rfl ?_
    refine E_iload dX8_club_100 rfl ?_
    refine E_putI dX8_club_102 fX8_41 rfl rfl rfl rfl rfl ?_
    refine E_iconst (v := -1) dX8_club_105 (by decide) ?_
    refine E_iret dX8_club_106 rfl rfl ?_
    exact ⟨rfl, i, hf, rfl⟩
