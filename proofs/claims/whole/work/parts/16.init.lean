/-! takeCheapest; what is made -/
theorem xtn_1 {S : xS} : (xtn S).2 = S.2 := by unfold xtn; split <;> rfl
theorem xtk_2 {S : xS} : ∀ n, (xtk S n).2 = S.2
  | 0 => rfl
  | n + 1 => (xtn_1 (S := xtk S n)).trans (xtk_2 n)
theorem xclr_2 {S : xS} : ∀ n, (xclr S n).2 = S.2
  | 0 => rfl
  | n + 1 => xclr_2 n
theorem xShX_2 {S S' : xS} (h : xShX S) (e : S'.2 = S.2) : xShX S' := by
  obtain ⟨a, b⟩ := S
  obtain ⟨a', b'⟩ := S'
  cases e
  exact h
theorem c_X5_takeNext {S : xS} (hX : xShX S) : CC mX5_takeNext 1 0 0 [xR (some (5, 0))] S (aV (xtn S)) := by
  refine CC_of mpX5_takeNext rfl (Nat.le_of_ble_eq_true rfl) ?_
  refine E_iconst (v := -1) dX5_takeNext_0 (by decide) ?_
  refine E_istore_n dX5_takeNext_1 rfl (by decide) rfl ?_
  refine E_iconst (v := 0) dX5_takeNext_2 (by decide) ?_
  refine E_istore_n dX5_takeNext_3 rfl (by decide) rfl ?_
  exact l_X5_takeNext hX 24 0 rfl (-1) rfl
theorem l_X5_take2 {S : xS} (hX : xShX S) (m : Nat) (hm : m < 100) : ∀ (n i : Nat), i + n = m → Ex mX5_takeCheapest 2 0 0 (0, fun _ => 0) (aV (xtk S m)) 33 [some (xR (some (5, 0))), some (xI (nI m)), some (xI (nI i))] [] (xtk S i)
  | 0, i, hi => by
    have hi : i = m := by omega
    subst hi
    refine E_iload_n dX5_takeCheapest_33 rfl rfl ?_
    refine E_iload_n dX5_takeCheapest_34 rfl rfl ?_
    refine E_icmp_ge (tgt := 48) dX5_takeCheapest_35 (by decide) (fun h35 => ?_) (fun h35 => absurd h35 ((fun z => z (nI_le (a := i) (b := i) (by omega) (by omega)))))
    refine E_vret dX5_takeCheapest_48 rfl ?_
    exact ⟨rfl, rfl⟩
  | n + 1, i, hi => by
    refine E_iload_n dX5_takeCheapest_33 rfl rfl ?_
    refine E_iload_n dX5_takeCheapest_34 rfl rfl ?_
    refine E_icmp_ge (tgt := 48) dX5_takeCheapest_35 (by decide) (fun h35 => absurd h35 ((nI_ge (a := i) (b := m) (by omega) (by omega)))) (fun h35 => ?_)
    refine E_aload_n dX5_takeCheapest_38 rfl rfl ?_
    refine E_callV (m2 := mX5_takeNext) dX5_takeCheapest_39 kX5_27 mzX5_takeNext (c_X5_takeNext (xShX_2 hX (xtk_2 i))) rfl ⟨_, _, rfl⟩ rfl rfl (by decide) (xs8 (Nat.le_of_ble_eq_true rfl)) (by first | exact Nat.le_of_ble_eq_true rfl | omega) (by first | exact Nat.le_of_ble_eq_true rfl | omega) ?_
    rintro _ _ ⟨rfl, rfl⟩
    refine E_iinc (v := nI (i + 1)) dX5_takeCheapest_42 rfl (nI_i1 i) (by decide) rfl ?_
    refine E_goto (tgt := 33) dX5_takeCheapest_45 (by decide) ?_
    exact l_X5_take2 hX m hm n (i + 1) (by omega)
theorem l_X5_take1 {S : xS} (hX : xShX S) (m : Nat) (hm : m < 100) : ∀ (n i : Nat), i + n = 24 → Ex mX5_takeCheapest 2 0 0 (0, fun _ => 0) (aV (xtk (xclr S 24) m)) 12 [some (xR (some (5, 0))), some (xI (nI m)), some (xI (nI i))] [] (xclr S i)
  | 0, i, hi => by
    have hi : i = 24 := by omega
    subst hi
    refine E_iload_n dX5_takeCheapest_12 rfl rfl ?_
    refine E_bipush (v := 24) dX5_takeCheapest_13 (by decide) ?_
    refine E_icmp_ge (tgt := 31) dX5_takeCheapest_15 (by decide) (fun h15 => ?_) (fun h15 => absurd h15 ((fun z => z (nI_le (a := 24) (b := 24) (by omega) (by omega)))))
    refine E_iconst (v := 0) dX5_takeCheapest_31 (by decide) ?_
    refine E_istore_n dX5_takeCheapest_32 rfl (by decide) rfl ?_
    exact l_X5_take2 (xShX_2 hX (xclr_2 24)) m hm m 0 (by omega)
  | n + 1, i, hi => by
    have hX2 := xShX_2 hX (xclr_2 (S := S) i)
    refine E_iload_n dX5_takeCheapest_12 rfl rfl ?_
    refine E_bipush (v := 24) dX5_takeCheapest_13 (by decide) ?_
    refine E_icmp_ge (tgt := 31) dX5_takeCheapest_15 (by decide) (fun h15 => absurd h15 ((nI_ge (a := i) (b := 24) (by omega) (by omega)))) (fun h15 => ?_)
    refine E_aload_n dX5_takeCheapest_18 rfl rfl ?_
    refine E_getR dX5_takeCheapest_19 fX5_15 rfl rfl rfl (rX_5_1 hX2) ?_
    refine E_iload_n dX5_takeCheapest_22 rfl rfl ?_
    refine E_iconst (v := 0) dX5_takeCheapest_23 (by decide) ?_
    refine E_zast dX5_takeCheapest_24 rfl rfl (by decide) (lX_16 hX2) (vin (by omega : i < 24) (by omega)) (vnat (by omega : i < 24) (by omega)) rfl ?_
    refine E_iinc (v := nI (i + 1)) dX5_takeCheapest_25 rfl (nI_i1 i) (by decide) rfl ?_
    refine E_goto (tgt := 12) dX5_takeCheapest_28 (by decide) ?_
    exact l_X5_take1 hX m hm n (i + 1) (by omega)
def xtc (S : xS) (m : Nat) : xS := xtk (xclr (sI (sI S 5 0 2 1) 5 0 3 0) 24) m
theorem c_X5_takeCheapest {S : xS} (hX : xShX S) (m : Nat) (hm : m < 100) : CC mX5_takeCheapest 2 0 0 [xR (some (5, 0)), xI (nI m)] S (aV (xtc S m)) := by
  refine CC_of mpX5_takeCheapest rfl (Nat.le_of_ble_eq_true rfl) ?_
  refine E_aload_n dX5_takeCheapest_0 rfl rfl ?_
  refine E_iconst (v := 1) dX5_takeCheapest_1 (by decide) ?_
  refine E_putI dX5_takeCheapest_2 fX5_19 rfl rfl rfl rfl rfl ?_
  refine E_aload_n dX5_takeCheapest_5 rfl rfl ?_
  refine E_iconst (v := 0) dX5_takeCheapest_6 (by decide) ?_
  refine E_putI dX5_takeCheapest_7 fX5_23 rfl rfl rfl rfl rfl ?_
  refine E_iconst (v := 0) dX5_takeCheapest_10 (by decide) ?_
  refine E_istore_n dX5_takeCheapest_11 rfl (by decide) rfl ?_
  exact l_X5_take1 (S := (sI (sI S 5 0 2 1) 5 0 3 0)) hX m hm 24 0 rfl
/-- the array (k, 0) with v in its first n places -/
def xfill (S : xS) (k : Nat) (v : Int32) : Nat → xS
  | 0 => S
  | n + 1 => sI (xfill S k v n) k 0 n v
theorem xfill_2 {S : xS} {k : Nat} {v : Int32} : ∀ n, (xfill S k v n).2 = S.2
  | 0 => rfl
  | n + 1 => xfill_2 n
theorem gR_2 {S S' : xS} (e : S'.2 = S.2) (a b c : Nat) : gR S' a b c = gR S a b c := by unfold gR; rw [e]
theorem gL_2 {S S' : xS} (e : S'.2 = S.2) (a b : Nat) : gL S' a b = gL S a b := by unfold gL; rw [e]
theorem l_X2_init {S : xS} (h0 : gR S 2 0 0 = some (13, 0)) (h1 : gL S 13 0 = some 30) (cb sb : Nat) : ∀ (n i : Nat), i + n = 30 → Ex mX2_init 2 cb sb (0, fun _ => 0) (aV (xfill S 13 (-1) 30)) 22 [some (xR (some (2, 0))), some (xI (nI i))] [] (xfill S 13 (-1) i)
  | 0, i, hi => by
    have hi : i = 30 := by omega
    subst hi
    refine E_iload_n dX2_init_22 rfl rfl ?_
    refine E_bipush (v := 30) dX2_init_23 (by decide) ?_
    refine E_icmp_ge (tgt := 41) dX2_init_25 (by decide) (fun h25 => ?_) (fun h25 => absurd h25 ((fun z => z (nI_le (a := 30) (b := 30) (by omega) (by omega)))))
    refine E_vret dX2_init_41 rfl ?_
    exact ⟨rfl, rfl⟩
  | n + 1, i, hi => by
    refine E_iload_n dX2_init_22 rfl rfl ?_
    refine E_bipush (v := 30) dX2_init_23 (by decide) ?_
    refine E_icmp_ge (tgt := 41) dX2_init_25 (by decide) (fun h25 => absurd h25 ((nI_ge (a := i) (b := 30) (by omega) (by omega)))) (fun h25 => ?_)
    refine E_aload_n dX2_init_28 rfl rfl ?_
    refine E_getR dX2_init_29 fX2_9 rfl rfl rfl ((gR_2 (xfill_2 i) 2 0 0).trans h0) ?_
    refine E_iload_n dX2_init_32 rfl rfl ?_
    refine E_iconst (v := -1) dX2_init_33 (by decide) ?_
    refine E_iast dX2_init_34 rfl rfl (by decide) ((gL_2 (xfill_2 i) 13 0).trans h1) (vin (by omega : i < 30) (by omega)) (vnat (by omega : i < 30) (by omega)) ?_
    refine E_iinc (v := nI (i + 1)) dX2_init_35 rfl (nI_i1 i) (by decide) rfl ?_
    refine E_goto (tgt := 22) dX2_init_38 (by decide) ?_
    exact l_X2_init h0 h1 cb sb n (i + 1) (by omega)
def xSl (S : xS) : xS := xfill (sR (sN (sR (sN S 13 0 30) 2 0 0 (some (13, 0))) 14 0 30) 2 0 1 (some (14, 0))) 13 (-1) 30
theorem c_X2_init {S : xS} (h13 : gL S 13 0 = none) (h14 : gL S 14 0 = none) : CC mX2_init 2 2 60 [xR (some (2, 0))] S (aV (xSl S)) := by
  refine CC_of mpX2_init rfl (Nat.le_of_ble_eq_true rfl) ?_
  refine E_aload_n dX2_init_0 rfl rfl ?_
  refine E_obj dX2_init_1 kX2_3 (by decide) (xs8 (Nat.le_of_ble_eq_true rfl)) ?_
  refine E_aload_n dX2_init_4 rfl rfl ?_
  refine E_bipush (v := 30) dX2_init_5 (by decide) ?_
  refine E_newa (k := 13) (i := 0) (n := 30) dX2_init_7 rfl (by left; rfl) x_arrI rfl rfl (by decide) (by decide) (by decide) (by decide) h13 (by first | exact Nat.le_of_ble_eq_true rfl | omega) (by first | exact Nat.le_of_ble_eq_true rfl | omega) ?_
  refine E_putFR dX2_init_9 fX2_9 rfl rfl rfl rfl (fun r h => by cases h; rfl) (by first | exact Or.inl ⟨_, rfl⟩ | exact Or.inr ⟨_, rfl⟩) (by intro q h; cases h; simp) ?_
  refine E_aload_n dX2_init_12 rfl rfl ?_
  refine E_bipush (v := 30) dX2_init_13 (by decide) ?_
  refine E_newa (k := 14) (i := 0) (n := 30) dX2_init_15 rfl (by right; rfl) x_arrZ rfl rfl (by decide) (by decide) (by decide) (by decide) h14 (by first | exact Nat.le_of_ble_eq_true rfl | omega) (by first | exact Nat.le_of_ble_eq_true rfl | omega) ?_
  refine E_putFR dX2_init_17 fX2_15 rfl rfl rfl rfl (fun r h => by cases h; rfl) (by first | exact Or.inl ⟨_, rfl⟩ | exact Or.inr ⟨_, rfl⟩) (by intro q h; cases h; simp) ?_
  refine E_iconst (v := 0) dX2_init_20 (by decide) ?_
  refine E_istore_n dX2_init_21 rfl (by decide) rfl ?_
  exact l_X2_init rfl rfl _ _ 30 0 rfl
theorem l_X5_init {S : xS} (h0 : gR S 5 0 0 = some (15, 0)) (h1 : gL S 15 0 = some 24) (cb sb : Nat) : ∀ (n i : Nat), i + n = 24 → Ex mX5_init 2 cb sb (0, fun _ => 0) (aV (xfill S 15 1 24)) 22 [some (xR (some (5, 0))), some (xI (nI i))] [] (xfill S 15 1 i)
  | 0, i, hi => by
    have hi : i = 24 := by omega
    subst hi
    refine E_iload_n dX5_init_22 rfl rfl ?_
    refine E_bipush (v := 24) dX5_init_23 (by decide) ?_
    refine E_icmp_ge (tgt := 41) dX5_init_25 (by decide) (fun h25 => ?_) (fun h25 => absurd h25 ((fun z => z (nI_le (a := 24) (b := 24) (by omega) (by omega)))))
    refine E_vret dX5_init_41 rfl ?_
    exact ⟨rfl, rfl⟩
  | n + 1, i, hi => by
    refine E_iload_n dX5_init_22 rfl rfl ?_
    refine E_bipush (v := 24) dX5_init_23 (by decide) ?_
    refine E_icmp_ge (tgt := 41) dX5_init_25 (by decide) (fun h25 => absurd h25 ((nI_ge (a := i) (b := 24) (by omega) (by omega)))) (fun h25 => ?_)
    refine E_aload_n dX5_init_28 rfl rfl ?_
    refine E_getR dX5_init_29 fX5_9 rfl rfl rfl ((gR_2 (xfill_2 i) 5 0 0).trans h0) ?_
    refine E_iload_n dX5_init_32 rfl rfl ?_
    refine E_iconst (v := 1) dX5_init_33 (by decide) ?_
    refine E_iast dX5_init_34 rfl rfl (by decide) ((gL_2 (xfill_2 i) 15 0).trans h1) (vin (by omega : i < 24) (by omega)) (vnat (by omega : i < 24) (by omega)) ?_
    refine E_iinc (v := nI (i + 1)) dX5_init_35 rfl (nI_i1 i) (by decide) rfl ?_
    refine E_goto (tgt := 22) dX5_init_38 (by decide) ?_
    exact l_X5_init h0 h1 cb sb n (i + 1) (by omega)
def xSp (S : xS) : xS := xfill (sR (sN (sR (sN S 15 0 24) 5 0 0 (some (15, 0))) 16 0 24) 5 0 1 (some (16, 0))) 15 1 24
theorem c_X5_init {S : xS} (h13 : gL S 15 0 = none) (h14 : gL S 16 0 = none) : CC mX5_init 2 2 48 [xR (some (5, 0))] S (aV (xSp S)) := by
  refine CC_of mpX5_init rfl (Nat.le_of_ble_eq_true rfl) ?_
  refine E_aload_n dX5_init_0 rfl rfl ?_
  refine E_obj dX5_init_1 kX5_3 (by decide) (xs8 (Nat.le_of_ble_eq_true rfl)) ?_
  refine E_aload_n dX5_init_4 rfl rfl ?_
  refine E_bipush (v := 24) dX5_init_5 (by decide) ?_
  refine E_newa (k := 15) (i := 0) (n := 24) dX5_init_7 rfl (by left; rfl) x_arrI rfl rfl (by decide) (by decide) (by decide) (by decide) h13 (by first | exact Nat.le_of_ble_eq_true rfl | omega) (by first | exact Nat.le_of_ble_eq_true rfl | omega) ?_
  refine E_putFR dX5_init_9 fX5_9 rfl rfl rfl rfl (fun r h => by cases h; rfl) (by first | exact Or.inl ⟨_, rfl⟩ | exact Or.inr ⟨_, rfl⟩) (by intro q h; cases h; simp) ?_
  refine E_aload_n dX5_init_12 rfl rfl ?_
  refine E_bipush (v := 24) dX5_init_13 (by decide) ?_
  refine E_newa (k := 16) (i := 0) (n := 24) dX5_init_15 rfl (by right; rfl) x_arrZ rfl rfl (by decide) (by decide) (by decide) (by decide) h14 (by first | exact Nat.le_of_ble_eq_true rfl | omega) (by first | exact Nat.le_of_ble_eq_true rfl | omega) ?_
  refine E_putFR dX5_init_17 fX5_15 rfl rfl rfl rfl (fun r h => by cases h; rfl) (by first | exact Or.inl ⟨_, rfl⟩ | exact Or.inr ⟨_, rfl⟩) (by intro q h; cases h; simp) ?_
  refine E_iconst (v := 0) dX5_init_20 (by decide) ?_
  refine E_istore_n dX5_init_21 rfl (by decide) rfl ?_
  exact l_X5_init rfl rfl _ _ 24 0 rfl
/-- a new pool's posts, its things -/
def xpP (S : xS) (p : Nat) : Nat → xS
  | 0 => S
  | k + 1 => sR (sN (xpP S p k) 4 (3 * p + k) 0) 17 p k (some (4, 3 * p + k))
def xpT (S : xS) (p : Nat) : Nat → xS
  | 0 => S
  | i + 1 => sR (sI (sI (sN (xpT S p i) 6 (3 * p + i) 0) 6 (3 * p + i) 0 0) 6 (3 * p + i) 1 100) 18 p i (some (6, 3 * p + i))
def xpi0 (S : xS) (p : Nat) (x1 x2 x3 : Int32) (n : Nat) : xS :=
  sR (sN (sI (sI (sI (sR (sI (sN (sR (sN S 18 p 3) 3 p 4 (some (18, p))) 1 p 0) 1 p 0 1) 3 p 5 (some (1, p))) 3 p 0 x1) 3 p 1 x2) 3 p 2 x3) 17 p n) 3 p 3 (some (17, p))
def xpi (S : xS) (p : Nat) (x1 x2 x3 : Int32) (n : Nat) : xS := xpT (xpP (xpi0 S p x1 x2 x3 n) p n) p 3
theorem xpP_R {S : xS} {p a b c : Nat} (h : a ≠ 17) (h2 : a ≠ 4) : ∀ k, gR (xpP S p k) a b c = gR S a b c
  | 0 => rfl
  | k + 1 => by
    unfold xpP
    rw [gR_sR, if_neg (fun z => h z.1), gR_sN, if_neg (fun z => h2 z.1)]
    exact xpP_R h h2 k
theorem xpP_L {S : xS} {p a b : Nat} (h2 : a ≠ 4) : ∀ k, gL (xpP S p k) a b = gL S a b
  | 0 => rfl
  | k + 1 => by
    unfold xpP
    rw [gL_sR, gL_sN, if_neg (fun z => h2 z.1)]
    exact xpP_L h2 k
theorem xpP_F {S : xS} {p : Nat} {j : Nat} : ∀ k, k ≤ j → gL (xpP S p k) 4 (3 * p + j) = gL S 4 (3 * p + j)
  | 0, _ => rfl
  | k + 1, h => by
    unfold xpP
    rw [gL_sR, gL_sN, if_neg (by omega)]
    exact xpP_F k (by omega)
theorem xpT_R {S : xS} {p a b c : Nat} (h : a ≠ 18) (h2 : a ≠ 6) : ∀ k, gR (xpT S p k) a b c = gR S a b c
  | 0 => rfl
  | k + 1 => by
    unfold xpT
    rw [gR_sR, if_neg (fun z => h z.1), gR_sI, gR_sI, gR_sN, if_neg (fun z => h2 z.1)]
    exact xpT_R h h2 k
theorem xpT_L {S : xS} {p a b : Nat} (h2 : a ≠ 6) : ∀ k, gL (xpT S p k) a b = gL S a b
  | 0 => rfl
  | k + 1 => by
    unfold xpT
    rw [gL_sR, gL_sI, gL_sI, gL_sN, if_neg (fun z => h2 z.1)]
    exact xpT_L h2 k
theorem xpT_F {S : xS} {p : Nat} {j : Nat} : ∀ k, k ≤ j → gL (xpT S p k) 6 (3 * p + j) = gL S 6 (3 * p + j)
  | 0, _ => rfl
  | k + 1, h => by
    unfold xpT
    rw [gL_sR, gL_sI, gL_sI, gL_sN, if_neg (by omega)]
    exact xpT_F k (by omega)
theorem xN_3 {U : State} (h : xN U) : va_AO RX4 U := h.2.2.2.2.2.1
theorem xN_6 {U : State} (h : xN U) : va_AO RX6 U := h.2.2.2.1
theorem l_X3_initT {S : xS} {p : Nat} (h0 : gR S 3 p 4 = some (18, p)) (h1 : gL S 18 p = some 3) (hf : ∀ j, j < 3 → gL S 6 (3 * p + j) = none) (x1 x2 x3 x4 : Int32) : ∀ (n i cb sb : Nat), i + n = 3 → n ≤ cb → 5 * n ≤ sb → Ex mX3_init 3 cb sb (0, fun _ => 0) (aV (xpT S p 3)) 87 [some (xR (some (3, p))), some (xI x1), some (xI x2), some (xI x3), some (xI x4), some (xI (nI i))] [] (xpT S p i)
  | 0, i, cb, sb, hi, hcb, hsb => by
    have hi : i = 3 := by omega
    subst hi
    refine E_iload dX3_init_87 rfl ?_
    refine E_iconst (v := 3) dX3_init_89 (by decide) ?_
    refine E_icmp_ge (tgt := 113) dX3_init_90 (by decide) (fun h90 => ?_) (fun h90 => absurd h90 ((fun z => z (nI_le (a := 3) (b := 3) (by omega) (by omega)))))
    refine E_vret dX3_init_113 rfl ?_
    exact ⟨rfl, rfl⟩
  | n + 1, i, cb, sb, hi, hcb, hsb => by
    refine E_iload dX3_init_87 rfl ?_
    refine E_iconst (v := 3) dX3_init_89 (by decide) ?_
    refine E_icmp_ge (tgt := 113) dX3_init_90 (by decide) (fun h90 => absurd h90 ((nI_ge (a := i) (b := 3) (by omega) (by omega)))) (fun h90 => ?_)
    refine E_aload_n dX3_init_93 rfl rfl ?_
    refine E_getR dX3_init_94 fX3_11 rfl rfl rfl ((xpT_R (by decide) (by decide) i).trans h0) ?_
    refine E_iload dX3_init_97 rfl ?_
    refine E_new (k := 6) (i := (3 * p + i)) dX3_init_99 nX3_9 rfl rfl rfl isX6 ziX6 ((xpT_F i (Nat.le_refl i)).trans (hf i (by omega))) (by first | exact Nat.le_of_ble_eq_true rfl | omega) (by first | exact Nat.le_of_ble_eq_true rfl | omega) ?_
    refine E_dup dX3_init_102 rfl ?_
    refine E_callN (m2 := mX6_init) dX3_init_103 (fun U hU => hU.2.2.2.2.2.2.2) mzX6_init (c_X6_init _) rfl rfl (by decide) (xs8 (Nat.le_of_ble_eq_true rfl)) (by first | exact Nat.le_of_ble_eq_true rfl | omega) (by first | exact Nat.le_of_ble_eq_true rfl | omega) ?_
    rintro _ _ ⟨rfl, rfl⟩
    refine E_aast dX3_init_106 rfl rfl (by decide) ((xpT_L (by decide) i).trans h1) (vin (by omega : i < 3) (by omega)) (vnat (by omega : i < 3) (by omega)) rfl rfl ?_
    refine E_iinc (v := nI (i + 1)) dX3_init_107 rfl (nI_i1 i) (by decide) rfl ?_
    refine E_goto (tgt := 87) dX3_init_110 (by decide) ?_
    exact l_X3_initT h0 h1 hf x1 x2 x3 x4 n (i + 1) _ _ (by omega) (by omega) (by omega)
theorem l_X3_initP {S : xS} {p m : Nat} (hm : m ≤ 3) (h0 : gR S 3 p 3 = some (17, p)) (h1 : gL S 17 p = some m) (hf : ∀ j, j < m → gL S 4 (3 * p + j) = none) (h2 : gR S 3 p 4 = some (18, p)) (h3 : gL S 18 p = some 3) (hf2 : ∀ j, j < 3 → gL S 6 (3 * p + j) = none) (x1 x2 x3 x4 : Int32) : ∀ (n i cb sb : Nat), i + n = m → n + 3 ≤ cb → 2 * n + 15 ≤ sb → Ex mX3_init 3 cb sb (0, fun _ => 0) (aV (xpT (xpP S p m) p 3)) 54 [some (xR (some (3, p))), some (xI x1), some (xI x2), some (xI x3), some (xI x4), some (xI (nI i))] [] (xpP S p i)
  | 0, i, cb, sb, hi, hcb, hsb => by
    have hi : i = m := by omega
    subst hi
    refine E_iload dX3_init_54 rfl ?_
    refine E_aload_n dX3_init_56 rfl rfl ?_
    refine E_getR dX3_init_57 fX3_42 rfl rfl rfl ((xpP_R (by decide) (by decide) i).trans h0) ?_
    refine E_alen dX3_init_60 rfl (by decide) ((xpP_L (by decide) i).trans h1) (Eq.refl (nI _)) ?_
    refine E_icmp_ge (tgt := 84) dX3_init_61 (by decide) (fun h61 => ?_) (fun h61 => absurd h61 ((fun z => z (nI_le (a := i) (b := i) (by omega) (by omega)))))
    refine E_iconst (v := 0) dX3_init_84 (by decide) ?_
    refine E_istore dX3_init_85 (by decide) rfl ?_
    exact l_X3_initT ((xpP_R (by decide) (by decide) i).trans h2) ((xpP_L (by decide) i).trans h3) (fun j hj => (xpP_L (by decide) i).trans (hf2 j hj)) x1 x2 x3 x4 3 0 _ _ rfl (by omega) (by omega)
  | n + 1, i, cb, sb, hi, hcb, hsb => by
    refine E_iload dX3_init_54 rfl ?_
    refine E_aload_n dX3_init_56 rfl rfl ?_
    refine E_getR dX3_init_57 fX3_42 rfl rfl rfl ((xpP_R (by decide) (by decide) i).trans h0) ?_
    refine E_alen dX3_init_60 rfl (by decide) ((xpP_L (by decide) i).trans h1) (Eq.refl (nI _)) ?_
    refine E_icmp_ge (tgt := 84) dX3_init_61 (by decide) (fun h61 => absurd h61 ((nI_ge (a := i) (b := m) (by omega) (by omega)))) (fun h61 => ?_)
    refine E_aload_n dX3_init_64 rfl rfl ?_
    refine E_getR dX3_init_65 fX3_42 rfl rfl rfl ((xpP_R (by decide) (by decide) i).trans h0) ?_
    refine E_iload dX3_init_68 rfl ?_
    refine E_new (k := 4) (i := (3 * p + i)) dX3_init_70 nX3_40 rfl rfl rfl isX4 ziX4 ((xpP_F i (Nat.le_refl i)).trans (hf i (by omega))) (by first | exact Nat.le_of_ble_eq_true rfl | omega) (by first | exact Nat.le_of_ble_eq_true rfl | omega) ?_
    refine E_dup dX3_init_73 rfl ?_
    refine E_callN (m2 := mX4_init) dX3_init_74 (fun U hU => hU.2.2.2.2.2.2.1) mzX4_init (c_X4_init _) rfl rfl (by decide) (xs8 (Nat.le_of_ble_eq_true rfl)) (by first | exact Nat.le_of_ble_eq_true rfl | omega) (by first | exact Nat.le_of_ble_eq_true rfl | omega) ?_
    rintro _ _ ⟨rfl, rfl⟩
    refine E_aast dX3_init_77 rfl rfl (by decide) ((xpP_L (by decide) i).trans h1) (vin (by omega : i < m) (by omega)) (vnat (by omega : i < m) (by omega)) rfl rfl ?_
    refine E_iinc (v := nI (i + 1)) dX3_init_78 rfl (nI_i1 i) (by decide) rfl ?_
    refine E_goto (tgt := 54) dX3_init_81 (by decide) ?_
    exact l_X3_initP hm h0 h1 hf h2 h3 hf2 x1 x2 x3 x4 n (i + 1) _ _ (by omega) (by omega) (by omega)
theorem c_X3_init {S : xS} {p m : Nat} (hm : m ≤ 3) (x1 x2 x3 : Int32) (h18 : gL S 18 p = none) (hd : gL S 1 p = none) (h17 : gL S 17 p = none) (hf : ∀ j, j < 3 → gL S 4 (3 * p + j) = none) (hf2 : ∀ j, j < 3 → gL S 6 (3 * p + j) = none) : CC mX3_init 3 9 34 [xR (some (3, p)), xI x1, xI x2, xI x3, xI (nI m)] S (aV (xpi S p x1 x2 x3 m)) := by
  refine CC_of mpX3_init rfl (Nat.le_of_ble_eq_true rfl) ?_
  have hmx : (if (0 : Int32) < nI m then nI m else 0) = nI m := by
    rcases Nat.eq_zero_or_pos m with rfl | h
    · rfl
    · rw [if_pos (show (0 : Int32) < nI m from nI_lt (a := 0) h (by omega))]
  refine E_aload_n dX3_init_0 rfl rfl ?_
  refine E_obj dX3_init_1 kX3_3 (by decide) (xs8 (Nat.le_of_ble_eq_true rfl)) ?_
  refine E_aload_n dX3_init_4 rfl rfl ?_
  refine E_iconst (v := 3) dX3_init_5 (by decide) ?_
  refine E_anew (k := 18) (i := p) (n := 3) dX3_init_6 nX3_9 (fun U => xN_6) rfl rfl (by decide) (by decide) (by decide) (by decide) h18 (by first | exact Nat.le_of_ble_eq_true rfl | omega) (by first | exact Nat.le_of_ble_eq_true rfl | omega) ?_
  refine E_putFR dX3_init_9 fX3_11 rfl rfl rfl rfl (fun r h => by cases h; rfl) (by first | exact Or.inl ⟨_, rfl⟩ | exact Or.inr ⟨_, rfl⟩) (by intro q h; cases h; simp) ?_
  refine E_aload_n dX3_init_12 rfl rfl ?_
  refine E_new (k := 1) (i := p) dX3_init_13 nX3_17 rfl rfl rfl isX1 ziX1 hd (by first | exact Nat.le_of_ble_eq_true rfl | omega) (by first | exact Nat.le_of_ble_eq_true rfl | omega) ?_
  refine E_dup dX3_init_16 rfl ?_
  refine E_callN (m2 := mX1_init) dX3_init_17 (fun U hU => hU.2.2.2.2.1) mzX1_init (c_X1_init _) rfl rfl (by decide) (xs8 (Nat.le_of_ble_eq_true rfl)) (by first | exact Nat.le_of_ble_eq_true rfl | omega) (by first | exact Nat.le_of_ble_eq_true rfl | omega) ?_
  rintro _ _ ⟨rfl, rfl⟩
  refine E_putFR dX3_init_20 fX3_20 rfl rfl rfl rfl (fun r h => by cases h; rfl) (by first | exact Or.inl ⟨_, rfl⟩ | exact Or.inr ⟨_, rfl⟩) (by intro q h; cases h; simp) ?_
  refine E_aload_n dX3_init_23 rfl rfl ?_
  refine E_iload_n dX3_init_24 rfl rfl ?_
  refine E_putFI dX3_init_25 fX3_24 rfl rfl rfl rfl (fun r h => by cases h; rfl) rfl rfl ?_
  refine E_aload_n dX3_init_28 rfl rfl ?_
  refine E_iload_n dX3_init_29 rfl rfl ?_
  refine E_putFI dX3_init_30 fX3_28 rfl rfl rfl rfl (fun r h => by cases h; rfl) rfl rfl ?_
  refine E_aload_n dX3_init_33 rfl rfl ?_
  refine E_iload_n dX3_init_34 rfl rfl ?_
  refine E_putFI dX3_init_35 fX3_31 rfl rfl rfl rfl (fun r h => by cases h; rfl) rfl rfl ?_
  refine E_aload_n dX3_init_38 rfl rfl ?_
  refine E_iconst (v := 0) dX3_init_39 (by decide) ?_
  refine E_iload dX3_init_40 rfl ?_
  refine E_max dX3_init_42 kX3_34 (by decide) (xs8 (Nat.le_of_ble_eq_true rfl)) ?_
  rw [hmx]
  refine E_anew (k := 17) (i := p) (n := m) dX3_init_45 nX3_40 (fun U => xN_3) rfl rfl (by decide) (nI_pos (by omega)) (nI_clamp (by omega)) (by omega) h17 (by first | exact Nat.le_of_ble_eq_true rfl | omega) (by first | exact Nat.le_of_ble_eq_true rfl | omega) ?_
  refine E_putFR dX3_init_48 fX3_42 rfl rfl rfl rfl (fun r h => by cases h; rfl) (by first | exact Or.inl ⟨_, rfl⟩ | exact Or.inr ⟨_, rfl⟩) (by intro q h; cases h; simp) ?_
  refine E_iconst (v := 0) dX3_init_51 (by decide) ?_
  refine E_istore dX3_init_52 (by decide) rfl ?_
  exact l_X3_initP (S := xpi0 S p x1 x2 x3 m) hm (by simp [xpi0, gR_sR]) (by simp [xpi0, gL_sR, gL_sN]) (fun j hj => hf j (by omega)) (by simp [xpi0, gR_sR, gR_sN, gR_sI]) (by simp [xpi0, gL_sR, gL_sN, gL_sI]) (fun j hj => hf2 j hj) x1 x2 x3 (nI m) m 0 _ _ (by omega) (by omega) (by omega)
/-- a new bath house -/
def xbh (S : xS) : xS := sI (sR (xSp (sN (sR (xSl (sN (sR (sN (sR (sN (sR (sN S 10 0 4) 8 0 0 (some (10, 0))) 11 0 200) 8 0 1 (some (11, 0))) 12 0 20) 8 0 2 (some (12, 0))) 2 0 0)) 8 0 3 (some (2, 0))) 5 0 0)) 8 0 4 (some (5, 0))) 8 0 8 (-1)
theorem xSl_L {S : xS} {a b : Nat} (h : a ≠ 13) (h2 : a ≠ 14) : gL (xSl S) a b = gL S a b := by
  unfold xSl
  rw [gL_2 (xfill_2 30), gL_sR, gL_sN, if_neg (fun z => h2 z.1), gL_sR, gL_sN, if_neg (fun z => h z.1)]
theorem c_X8_init {S : xS} (hf : ∀ a b, a ≠ 8 → a ≠ 99 → gL S a b = none) : CC mX8_init 3 9 338 [xR (some (8, 0))] S (aV (xbh S)) := by
  refine CC_of mpX8_init rfl (Nat.le_of_ble_eq_true rfl) ?_
  refine E_aload_n dX8_init_0 rfl rfl ?_
  refine E_obj dX8_init_1 kX8_1 (by decide) (xs8 (Nat.le_of_ble_eq_true rfl)) ?_
  refine E_aload_n dX8_init_4 rfl rfl ?_
  refine E_iconst (v := 4) dX8_init_5 (by decide) ?_
  refine E_anew (k := 10) (i := 0) (n := 4) dX8_init_6 nX8_9 (fun U hU => hU.1) rfl rfl (by decide) (by decide) (by decide) (by decide) (hf 10 0 (by decide) (by decide)) (by first | exact Nat.le_of_ble_eq_true rfl | omega) (by first | exact Nat.le_of_ble_eq_true rfl | omega) ?_
  refine E_putFR dX8_init_9 fX8_11 rfl rfl rfl rfl (fun r h => by cases h; rfl) (by first | exact Or.inl ⟨_, rfl⟩ | exact Or.inr ⟨_, rfl⟩) (by intro q h; cases h; simp) ?_
  refine E_aload_n dX8_init_12 rfl rfl ?_
  refine E_sipush (v := 200) dX8_init_13 (by decide) ?_
  refine E_anew (k := 11) (i := 0) (n := 200) dX8_init_16 nX8_15 (fun U hU => hU.2.1) rfl rfl (by decide) (by decide) (by decide) (by decide) (hf 11 0 (by decide) (by decide)) (by first | exact Nat.le_of_ble_eq_true rfl | omega) (by first | exact Nat.le_of_ble_eq_true rfl | omega) ?_
  refine E_putFR dX8_init_19 fX8_17 rfl rfl rfl rfl (fun r h => by cases h; rfl) (by first | exact Or.inl ⟨_, rfl⟩ | exact Or.inr ⟨_, rfl⟩) (by intro q h; cases h; simp) ?_
  refine E_aload_n dX8_init_22 rfl rfl ?_
  refine E_bipush (v := 20) dX8_init_23 (by decide) ?_
  refine E_anew (k := 12) (i := 0) (n := 20) dX8_init_25 nX8_21 (fun U hU => hU.2.2.1) rfl rfl (by decide) (by decide) (by decide) (by decide) (hf 12 0 (by decide) (by decide)) (by first | exact Nat.le_of_ble_eq_true rfl | omega) (by first | exact Nat.le_of_ble_eq_true rfl | omega) ?_
  refine E_putFR dX8_init_28 fX8_23 rfl rfl rfl rfl (fun r h => by cases h; rfl) (by first | exact Or.inl ⟨_, rfl⟩ | exact Or.inr ⟨_, rfl⟩) (by intro q h; cases h; simp) ?_
  refine E_aload_n dX8_init_31 rfl rfl ?_
  refine E_new (k := 2) (i := 0) dX8_init_32 nX8_27 rfl rfl rfl isX2 ziX2 (hf 2 0 (by decide) (by decide)) (by first | exact Nat.le_of_ble_eq_true rfl | omega) (by first | exact Nat.le_of_ble_eq_true rfl | omega) ?_
  refine E_dup dX8_init_35 rfl ?_
  refine E_callI (m2 := mX2_init) dX8_init_36 kX8_29 mzX2_init (c_X2_init (hf 13 0 (by decide) (by decide)) (hf 14 0 (by decide) (by decide))) rfl rfl (by decide) (xs8 (Nat.le_of_ble_eq_true rfl)) (by first | exact Nat.le_of_ble_eq_true rfl | omega) (by first | exact Nat.le_of_ble_eq_true rfl | omega) ?_
  rintro _ _ ⟨rfl, rfl⟩
  refine E_putFR dX8_init_39 fX8_30 rfl rfl rfl rfl (fun r h => by cases h; rfl) (by first | exact Or.inl ⟨_, rfl⟩ | exact Or.inr ⟨_, rfl⟩) (by intro q h; cases h; simp) ?_
  refine E_aload_n dX8_init_42 rfl rfl ?_
  refine E_new (k := 5) (i := 0) dX8_init_43 nX8_34 rfl rfl rfl isX5 ziX5 ((xSl_L (by decide) (by decide)).trans (hf 5 0 (by decide) (by decide))) (by first | exact Nat.le_of_ble_eq_true rfl | omega) (by first | exact Nat.le_of_ble_eq_true rfl | omega) ?_
  refine E_dup dX8_init_46 rfl ?_
  refine E_callI (m2 := mX5_init) dX8_init_47 kX8_36 mzX5_init (c_X5_init ((xSl_L (by decide) (by decide)).trans (hf 15 0 (by decide) (by decide))) ((xSl_L (by decide) (by decide)).trans (hf 16 0 (by decide) (by decide)))) rfl rfl (by decide) (xs8 (Nat.le_of_ble_eq_true rfl)) (by first | exact Nat.le_of_ble_eq_true rfl | omega) (by first | exact Nat.le_of_ble_eq_true rfl | omega) ?_
  rintro _ _ ⟨rfl, rfl⟩
  refine E_putFR dX8_init_50 fX8_37 rfl rfl rfl rfl (fun r h => by cases h; rfl) (by first | exact Or.inl ⟨_, rfl⟩ | exact Or.inr ⟨_, rfl⟩) (by intro q h; cases h; simp) ?_
  refine E_aload_n dX8_init_53 rfl rfl ?_
  refine E_iconst (v := -1) dX8_init_54 (by decide) ?_
  refine E_putI dX8_init_55 fX8_41 rfl rfl rfl rfl rfl ?_
  refine E_vret dX8_init_58 rfl ?_
  exact ⟨rfl, rfl⟩
