/-! the reference, made -/
def xmi (S : xS) : xS := (sR (sN (sR (sN (sR (sN (sR (sN (sR (sN (sR (sN (sR (sN (sR (sN (sR (sN (sI (sR (sN (sR (sN (sR (sN (sR (sN (sR (sN (sR (sN (sR (sN (sR (sN (sR (sN (sR (sN (sR (sN (sR (sN (sR (sN (sR (sN (sR (sN (sR (sN (sR (sN (sR (sN (sR (sN (sR (sN (sR (sN (sR (sN (sR (sN (sR (sN (sR (sN (sR (sN (sR (sN (sR (sN (sR (sN (sR (sN (sR (sN (sR (sN (sR (sN S 51 0 4) 9 0 1 (some (51, 0))) 52 0 4) 9 0 2 (some (52, 0))) 53 0 4) 9 0 3 (some (53, 0))) 54 0 4) 9 0 4 (some (54, 0))) 55 0 4) 9 0 5 (some (55, 0))) 56 0 4) 9 0 6 (some (56, 0))) 57 0 4) 9 0 7 (some (57, 0))) 58 0 4) 9 0 8 (some (58, 0))) 59 0 4) 9 0 9 (some (59, 0))) 60 0 4) 9 0 10 (some (60, 0))) 61 0 4) 9 0 11 (some (61, 0))) 62 0 4) 9 0 12 (some (62, 0))) 63 0 4) 9 0 13 (some (63, 0))) 64 0 12) 9 0 14 (some (64, 0))) 65 0 12) 9 0 15 (some (65, 0))) 66 0 12) 9 0 16 (some (66, 0))) 67 0 12) 9 0 17 (some (67, 0))) 68 0 12) 9 0 18 (some (68, 0))) 69 0 4) 9 0 19 (some (69, 0))) 70 0 12) 9 0 20 (some (70, 0))) 71 0 12) 9 0 21 (some (71, 0))) 73 0 200) 9 0 23 (some (73, 0))) 74 0 200) 9 0 24 (some (74, 0))) 75 0 200) 9 0 25 (some (75, 0))) 76 0 200) 9 0 26 (some (76, 0))) 77 0 200) 9 0 27 (some (77, 0))) 78 0 200) 9 0 28 (some (78, 0))) 79 0 200) 9 0 29 (some (79, 0))) 80 0 200) 9 0 30 (some (80, 0))) 81 0 200) 9 0 31 (some (81, 0))) 82 0 200) 9 0 32 (some (82, 0))) 83 0 30) 9 0 33 (some (83, 0))) 84 0 30) 9 0 34 (some (84, 0))) 9 0 36 (-1)) 87 0 20) 9 0 37 (some (87, 0))) 88 0 20) 9 0 38 (some (88, 0))) 89 0 20) 9 0 39 (some (89, 0))) 90 0 20) 9 0 40 (some (90, 0))) 91 0 20) 9 0 41 (some (91, 0))) 92 0 4) 9 0 42 (some (92, 0))) 93 0 4) 9 0 43 (some (93, 0))) 94 0 24) 9 0 44 (some (94, 0))) 95 0 24) 9 0 45 (some (95, 0)))
theorem xmi_M (S : xS) : xShM (xmi S) := ⟨⟨rfl, rfl⟩, ⟨rfl, rfl⟩, ⟨rfl, rfl⟩, ⟨rfl, rfl⟩, ⟨rfl, rfl⟩, ⟨rfl, rfl⟩, ⟨rfl, rfl⟩, ⟨rfl, rfl⟩, ⟨rfl, rfl⟩, ⟨rfl, rfl⟩, ⟨rfl, rfl⟩, ⟨rfl, rfl⟩, ⟨rfl, rfl⟩, ⟨rfl, rfl⟩, ⟨rfl, rfl⟩, ⟨rfl, rfl⟩, ⟨rfl, rfl⟩, ⟨rfl, rfl⟩, ⟨rfl, rfl⟩, ⟨rfl, rfl⟩, ⟨rfl, rfl⟩, ⟨rfl, rfl⟩, ⟨rfl, rfl⟩, ⟨rfl, rfl⟩, ⟨rfl, rfl⟩, ⟨rfl, rfl⟩, ⟨rfl, rfl⟩, ⟨rfl, rfl⟩, ⟨rfl, rfl⟩, ⟨rfl, rfl⟩, ⟨rfl, rfl⟩, ⟨rfl, rfl⟩, ⟨rfl, rfl⟩, ⟨rfl, rfl⟩, ⟨rfl, rfl⟩, ⟨rfl, rfl⟩, ⟨rfl, rfl⟩, ⟨rfl, rfl⟩, ⟨rfl, rfl⟩, ⟨rfl, rfl⟩, ⟨rfl, rfl⟩, ⟨rfl, rfl⟩⟩
def xml1 (S : xS) : Nat → xS
  | 0 => S
  | n + 1 => (sI (sI (xml1 S n) 65 0 n 100) 70 0 n (-1))
theorem xml1_2 {S : xS} : ∀ n, (xml1 S n).2 = S.2
  | 0 => rfl
  | n + 1 => xml1_2 n
def xml2 (S : xS) : Nat → xS
  | 0 => S
  | n + 1 => (sI (sI (xml2 S n) 83 0 n (-1)) 84 0 n (-1))
theorem xml2_2 {S : xS} : ∀ n, (xml2 S n).2 = S.2
  | 0 => rfl
  | n + 1 => xml2_2 n
theorem l_r_init4 {S : xS} (hM0 : xShM S) (cb sb : Nat) : ∀ (n i : Nat), i + n = 24 → Ex mX9_init 2 cb sb (0, fun _ => 0) (aV (xfill S 94 1 24)) 418 [some (xR (some (9, 0))), some (xI (nI i))] [] (xfill S 94 1 i)
  | 0, i, hi => by
    have hi : i = 24 := by omega
    subst hi
    refine E_iload_n dX9_init_418 rfl rfl ?_
    refine E_bipush (v := 24) dX9_init_419 (by decide) ?_
    refine E_icmp_ge (tgt := 437) dX9_init_421 (by decide) (fun h421 => ?_) (fun h421 => absurd h421 ((fun z => z (nI_le (a := 24) (b := 24) (by omega) (by omega)))))
    refine E_vret dX9_init_437 rfl ?_
    exact ⟨rfl, rfl⟩
  | n + 1, i, hi => by
    have hM := xShM_2 hM0 (xfill_2 (S := S) (k := 94) (v := 1) i)
    refine E_iload_n dX9_init_418 rfl rfl ?_
    refine E_bipush (v := 24) dX9_init_419 (by decide) ?_
    refine E_icmp_ge (tgt := 437) dX9_init_421 (by decide) (fun h421 => absurd h421 ((nI_ge (a := i) (b := 24) (by omega) (by omega)))) (fun h421 => ?_)
    refine E_aload_n dX9_init_424 rfl rfl ?_
    refine E_getR dX9_init_425 fX9_135 rfl rfl rfl (rM_44 hM) ?_
    refine E_iload_n dX9_init_428 rfl rfl ?_
    refine E_iconst (v := 1) dX9_init_429 (by decide) ?_
    refine E_iast dX9_init_430 rfl rfl (by decide) (lM_44 hM) (vin (by omega : i < 24) (by omega)) (vnat (by omega : i < 24) (by omega)) ?_
    refine E_iinc (v := nI (i + 1)) dX9_init_431 rfl (nI_i1 i) (by decide) rfl ?_
    refine E_goto (tgt := 418) dX9_init_434 (by decide) ?_
    exact l_r_init4 hM0 cb sb n (i + 1) (by omega)
theorem l_r_init3 {S : xS} (hM0 : xShM S) (cb sb : Nat) : ∀ (n i : Nat), i + n = 30 → Ex mX9_init 2 cb sb (0, fun _ => 0) (aV (xfill (xml2 S 30) 94 1 24)) 390 [some (xR (some (9, 0))), some (xI (nI i))] [] (xml2 S i)
  | 0, i, hi => by
    have hi : i = 30 := by omega
    subst hi
    refine E_iload_n dX9_init_390 rfl rfl ?_
    refine E_bipush (v := 30) dX9_init_391 (by decide) ?_
    refine E_icmp_ge (tgt := 416) dX9_init_393 (by decide) (fun h393 => ?_) (fun h393 => absurd h393 ((fun z => z (nI_le (a := 30) (b := 30) (by omega) (by omega)))))
    refine E_iconst (v := 0) dX9_init_416 (by decide) ?_
    refine E_istore_n dX9_init_417 rfl (by decide) rfl ?_
    exact l_r_init4 (xShM_2 hM0 (xml2_2 30)) cb sb 24 0 rfl
  | n + 1, i, hi => by
    have hM := xShM_2 hM0 (xml2_2 (S := S) i)
    refine E_iload_n dX9_init_390 rfl rfl ?_
    refine E_bipush (v := 30) dX9_init_391 (by decide) ?_
    refine E_icmp_ge (tgt := 416) dX9_init_393 (by decide) (fun h393 => absurd h393 ((nI_ge (a := i) (b := 30) (by omega) (by omega)))) (fun h393 => ?_)
    refine E_aload_n dX9_init_396 rfl rfl ?_
    refine E_getR dX9_init_397 fX9_104 rfl rfl rfl (rM_33 hM) ?_
    refine E_iload_n dX9_init_400 rfl rfl ?_
    refine E_iconst (v := -1) dX9_init_401 (by decide) ?_
    refine E_iast dX9_init_402 rfl rfl (by decide) (lM_33 hM) (vin (by omega : i < 30) (by omega)) (vnat (by omega : i < 30) (by omega)) ?_
    refine E_aload_n dX9_init_403 rfl rfl ?_
    refine E_getR dX9_init_404 fX9_107 rfl rfl rfl (rM_34 hM) ?_
    refine E_iload_n dX9_init_407 rfl rfl ?_
    refine E_iconst (v := -1) dX9_init_408 (by decide) ?_
    refine E_iast dX9_init_409 rfl rfl (by decide) (lM_34 hM) (vin (by omega : i < 30) (by omega)) (vnat (by omega : i < 30) (by omega)) ?_
    refine E_iinc (v := nI (i + 1)) dX9_init_410 rfl (nI_i1 i) (by decide) rfl ?_
    refine E_goto (tgt := 390) dX9_init_413 (by decide) ?_
    exact l_r_init3 hM0 cb sb n (i + 1) (by omega)
theorem l_r_init2 {S : xS} (hM0 : xShM S) (cb sb : Nat) : ∀ (n i : Nat), i + n = 4 → Ex mX9_init 2 cb sb (0, fun _ => 0) (aV (xfill (xml2 (xfill S 60 1 4) 30) 94 1 24)) 370 [some (xR (some (9, 0))), some (xI (nI i))] [] (xfill S 60 1 i)
  | 0, i, hi => by
    have hi : i = 4 := by omega
    subst hi
    refine E_iload_n dX9_init_370 rfl rfl ?_
    refine E_iconst (v := 4) dX9_init_371 (by decide) ?_
    refine E_icmp_ge (tgt := 388) dX9_init_372 (by decide) (fun h372 => ?_) (fun h372 => absurd h372 ((fun z => z (nI_le (a := 4) (b := 4) (by omega) (by omega)))))
    refine E_iconst (v := 0) dX9_init_388 (by decide) ?_
    refine E_istore_n dX9_init_389 rfl (by decide) rfl ?_
    exact l_r_init3 (xShM_2 hM0 (xfill_2 4)) cb sb 30 0 rfl
  | n + 1, i, hi => by
    have hM := xShM_2 hM0 (xfill_2 (S := S) (k := 60) (v := 1) i)
    refine E_iload_n dX9_init_370 rfl rfl ?_
    refine E_iconst (v := 4) dX9_init_371 (by decide) ?_
    refine E_icmp_ge (tgt := 388) dX9_init_372 (by decide) (fun h372 => absurd h372 ((nI_ge (a := i) (b := 4) (by omega) (by omega)))) (fun h372 => ?_)
    refine E_aload_n dX9_init_375 rfl rfl ?_
    refine E_getR dX9_init_376 fX9_38 rfl rfl rfl (rM_10 hM) ?_
    refine E_iload_n dX9_init_379 rfl rfl ?_
    refine E_iconst (v := 1) dX9_init_380 (by decide) ?_
    refine E_zast dX9_init_381 rfl rfl (by decide) (lM_10 hM) (vin (by omega : i < 4) (by omega)) (vnat (by omega : i < 4) (by omega)) rfl ?_
    refine E_iinc (v := nI (i + 1)) dX9_init_382 rfl (nI_i1 i) (by decide) rfl ?_
    refine E_goto (tgt := 370) dX9_init_385 (by decide) ?_
    exact l_r_init2 hM0 cb sb n (i + 1) (by omega)
theorem l_r_init1 {S : xS} (hM0 : xShM S) (cb sb : Nat) : ∀ (n i : Nat), i + n = 12 → Ex mX9_init 2 cb sb (0, fun _ => 0) (aV (xfill (xml2 (xfill (xml1 S 12) 60 1 4) 30) 94 1 24)) 341 [some (xR (some (9, 0))), some (xI (nI i))] [] (xml1 S i)
  | 0, i, hi => by
    have hi : i = 12 := by omega
    subst hi
    refine E_iload_n dX9_init_341 rfl rfl ?_
    refine E_bipush (v := 12) dX9_init_342 (by decide) ?_
    refine E_icmp_ge (tgt := 368) dX9_init_344 (by decide) (fun h344 => ?_) (fun h344 => absurd h344 ((fun z => z (nI_le (a := 12) (b := 12) (by omega) (by omega)))))
    refine E_iconst (v := 0) dX9_init_368 (by decide) ?_
    refine E_istore_n dX9_init_369 rfl (by decide) rfl ?_
    exact l_r_init2 (xShM_2 hM0 (xml1_2 12)) cb sb 4 0 rfl
  | n + 1, i, hi => by
    have hM := xShM_2 hM0 (xml1_2 (S := S) i)
    refine E_iload_n dX9_init_341 rfl rfl ?_
    refine E_bipush (v := 12) dX9_init_342 (by decide) ?_
    refine E_icmp_ge (tgt := 368) dX9_init_344 (by decide) (fun h344 => absurd h344 ((nI_ge (a := i) (b := 12) (by omega) (by omega)))) (fun h344 => ?_)
    refine E_aload_n dX9_init_347 rfl rfl ?_
    refine E_getR dX9_init_348 fX9_53 rfl rfl rfl (rM_15 hM) ?_
    refine E_iload_n dX9_init_351 rfl rfl ?_
    refine E_bipush (v := 100) dX9_init_352 (by decide) ?_
    refine E_iast dX9_init_354 rfl rfl (by decide) (lM_15 hM) (vin (by omega : i < 12) (by omega)) (vnat (by omega : i < 12) (by omega)) ?_
    refine E_aload_n dX9_init_355 rfl rfl ?_
    refine E_getR dX9_init_356 fX9_68 rfl rfl rfl (rM_20 hM) ?_
    refine E_iload_n dX9_init_359 rfl rfl ?_
    refine E_iconst (v := -1) dX9_init_360 (by decide) ?_
    refine E_iast dX9_init_361 rfl rfl (by decide) (lM_20 hM) (vin (by omega : i < 12) (by omega)) (vnat (by omega : i < 12) (by omega)) ?_
    refine E_iinc (v := nI (i + 1)) dX9_init_362 rfl (nI_i1 i) (by decide) rfl ?_
    refine E_goto (tgt := 341) dX9_init_365 (by decide) ?_
    exact l_r_init1 hM0 cb sb n (i + 1) (by omega)
def xrf (S : xS) : xS := xfill (xml2 (xfill (xml1 (xmi S) 12) 60 1 4) 30) 94 1 24
set_option maxRecDepth 100000 in
theorem c_r_init {S : xS} (hf : ∀ a b, 50 ≤ a → a ≠ 99 → gL S a b = none) : CC mX9_init 2 42 2356 [xR (some (9, 0))] S (aV (xrf S)) := by
  refine CC_of mpX9_init rfl (Nat.le_of_ble_eq_true rfl) ?_
  refine E_aload_n dX9_init_0 rfl rfl ?_
  refine E_obj dX9_init_1 kX9_1 (by decide) (xs8 (Nat.le_of_ble_eq_true rfl)) ?_
  refine E_aload_n dX9_init_4 rfl rfl ?_
  refine E_iconst (v := 4) dX9_init_5 (by decide) ?_
  refine E_newa (k := 51) (i := 0) (n := 4) dX9_init_6 rfl (by right; rfl) x_arrZ rfl rfl (by decide) (by decide) (by decide) (by decide) (hf 51 0 (by decide) (by decide)) (by first | exact Nat.le_of_ble_eq_true rfl | omega) (by first | exact Nat.le_of_ble_eq_true rfl | omega) ?_
  refine E_putFR dX9_init_8 fX9_7 rfl rfl rfl rfl (fun r h => by cases h; rfl) (by first | exact Or.inl ⟨_, rfl⟩ | exact Or.inr ⟨_, rfl⟩) (by intro q h; cases h; simp) ?_
  refine E_aload_n dX9_init_11 rfl rfl ?_
  refine E_iconst (v := 4) dX9_init_12 (by decide) ?_
  refine E_newa (k := 52) (i := 0) (n := 4) dX9_init_13 rfl (by left; rfl) x_arrI rfl rfl (by decide) (by decide) (by decide) (by decide) (hf 52 0 (by decide) (by decide)) (by first | exact Nat.le_of_ble_eq_true rfl | omega) (by first | exact Nat.le_of_ble_eq_true rfl | omega) ?_
  refine E_putFR dX9_init_15 fX9_13 rfl rfl rfl rfl (fun r h => by cases h; rfl) (by first | exact Or.inl ⟨_, rfl⟩ | exact Or.inr ⟨_, rfl⟩) (by intro q h; cases h; simp) ?_
  refine E_aload_n dX9_init_18 rfl rfl ?_
  refine E_iconst (v := 4) dX9_init_19 (by decide) ?_
  refine E_newa (k := 53) (i := 0) (n := 4) dX9_init_20 rfl (by left; rfl) x_arrI rfl rfl (by decide) (by decide) (by decide) (by decide) (hf 53 0 (by decide) (by decide)) (by first | exact Nat.le_of_ble_eq_true rfl | omega) (by first | exact Nat.le_of_ble_eq_true rfl | omega) ?_
  refine E_putFR dX9_init_22 fX9_17 rfl rfl rfl rfl (fun r h => by cases h; rfl) (by first | exact Or.inl ⟨_, rfl⟩ | exact Or.inr ⟨_, rfl⟩) (by intro q h; cases h; simp) ?_
  refine E_aload_n dX9_init_25 rfl rfl ?_
  refine E_iconst (v := 4) dX9_init_26 (by decide) ?_
  refine E_newa (k := 54) (i := 0) (n := 4) dX9_init_27 rfl (by left; rfl) x_arrI rfl rfl (by decide) (by decide) (by decide) (by decide) (hf 54 0 (by decide) (by decide)) (by first | exact Nat.le_of_ble_eq_true rfl | omega) (by first | exact Nat.le_of_ble_eq_true rfl | omega) ?_
  refine E_putFR dX9_init_29 fX9_20 rfl rfl rfl rfl (fun r h => by cases h; rfl) (by first | exact Or.inl ⟨_, rfl⟩ | exact Or.inr ⟨_, rfl⟩) (by intro q h; cases h; simp) ?_
  refine E_aload_n dX9_init_32 rfl rfl ?_
  refine E_iconst (v := 4) dX9_init_33 (by decide) ?_
  refine E_newa (k := 55) (i := 0) (n := 4) dX9_init_34 rfl (by left; rfl) x_arrI rfl rfl (by decide) (by decide) (by decide) (by decide) (hf 55 0 (by decide) (by decide)) (by first | exact Nat.le_of_ble_eq_true rfl | omega) (by first | exact Nat.le_of_ble_eq_true rfl | omega) ?_
  refine E_putFR dX9_init_36 fX9_23 rfl rfl rfl rfl (fun r h => by cases h; rfl) (by first | exact Or.inl ⟨_, rfl⟩ | exact Or.inr ⟨_, rfl⟩) (by intro q h; cases h; simp) ?_
  refine E_aload_n dX9_init_39 rfl rfl ?_
  refine E_iconst (v := 4) dX9_init_40 (by decide) ?_
  refine E_newa (k := 56) (i := 0) (n := 4) dX9_init_41 rfl (by left; rfl) x_arrI rfl rfl (by decide) (by decide) (by decide) (by decide) (hf 56 0 (by decide) (by decide)) (by first | exact Nat.le_of_ble_eq_true rfl | omega) (by first | exact Nat.le_of_ble_eq_true rfl | omega) ?_
  refine E_putFR dX9_init_43 fX9_26 rfl rfl rfl rfl (fun r h => by cases h; rfl) (by first | exact Or.inl ⟨_, rfl⟩ | exact Or.inr ⟨_, rfl⟩) (by intro q h; cases h; simp) ?_
  refine E_aload_n dX9_init_46 rfl rfl ?_
  refine E_iconst (v := 4) dX9_init_47 (by decide) ?_
  refine E_newa (k := 57) (i := 0) (n := 4) dX9_init_48 rfl (by left; rfl) x_arrI rfl rfl (by decide) (by decide) (by decide) (by decide) (hf 57 0 (by decide) (by decide)) (by first | exact Nat.le_of_ble_eq_true rfl | omega) (by first | exact Nat.le_of_ble_eq_true rfl | omega) ?_
  refine E_putFR dX9_init_50 fX9_29 rfl rfl rfl rfl (fun r h => by cases h; rfl) (by first | exact Or.inl ⟨_, rfl⟩ | exact Or.inr ⟨_, rfl⟩) (by intro q h; cases h; simp) ?_
  refine E_aload_n dX9_init_53 rfl rfl ?_
  refine E_iconst (v := 4) dX9_init_54 (by decide) ?_
  refine E_newa (k := 58) (i := 0) (n := 4) dX9_init_55 rfl (by left; rfl) x_arrI rfl rfl (by decide) (by decide) (by decide) (by decide) (hf 58 0 (by decide) (by decide)) (by first | exact Nat.le_of_ble_eq_true rfl | omega) (by first | exact Nat.le_of_ble_eq_true rfl | omega) ?_
  refine E_putFR dX9_init_57 fX9_32 rfl rfl rfl rfl (fun r h => by cases h; rfl) (by first | exact Or.inl ⟨_, rfl⟩ | exact Or.inr ⟨_, rfl⟩) (by intro q h; cases h; simp) ?_
  refine E_aload_n dX9_init_60 rfl rfl ?_
  refine E_iconst (v := 4) dX9_init_61 (by decide) ?_
  refine E_newa (k := 59) (i := 0) (n := 4) dX9_init_62 rfl (by right; rfl) x_arrZ rfl rfl (by decide) (by decide) (by decide) (by decide) (hf 59 0 (by decide) (by decide)) (by first | exact Nat.le_of_ble_eq_true rfl | omega) (by first | exact Nat.le_of_ble_eq_true rfl | omega) ?_
  refine E_putFR dX9_init_64 fX9_35 rfl rfl rfl rfl (fun r h => by cases h; rfl) (by first | exact Or.inl ⟨_, rfl⟩ | exact Or.inr ⟨_, rfl⟩) (by intro q h; cases h; simp) ?_
  refine E_aload_n dX9_init_67 rfl rfl ?_
  refine E_iconst (v := 4) dX9_init_68 (by decide) ?_
  refine E_newa (k := 60) (i := 0) (n := 4) dX9_init_69 rfl (by right; rfl) x_arrZ rfl rfl (by decide) (by decide) (by decide) (by decide) (hf 60 0 (by decide) (by decide)) (by first | exact Nat.le_of_ble_eq_true rfl | omega) (by first | exact Nat.le_of_ble_eq_true rfl | omega) ?_
  refine E_putFR dX9_init_71 fX9_38 rfl rfl rfl rfl (fun r h => by cases h; rfl) (by first | exact Or.inl ⟨_, rfl⟩ | exact Or.inr ⟨_, rfl⟩) (by intro q h; cases h; simp) ?_
  refine E_aload_n dX9_init_74 rfl rfl ?_
  refine E_iconst (v := 4) dX9_init_75 (by decide) ?_
  refine E_newa (k := 61) (i := 0) (n := 4) dX9_init_76 rfl (by left; rfl) x_arrI rfl rfl (by decide) (by decide) (by decide) (by decide) (hf 61 0 (by decide) (by decide)) (by first | exact Nat.le_of_ble_eq_true rfl | omega) (by first | exact Nat.le_of_ble_eq_true rfl | omega) ?_
  refine E_putFR dX9_init_78 fX9_41 rfl rfl rfl rfl (fun r h => by cases h; rfl) (by first | exact Or.inl ⟨_, rfl⟩ | exact Or.inr ⟨_, rfl⟩) (by intro q h; cases h; simp) ?_
  refine E_aload_n dX9_init_81 rfl rfl ?_
  refine E_iconst (v := 4) dX9_init_82 (by decide) ?_
  refine E_newa (k := 62) (i := 0) (n := 4) dX9_init_83 rfl (by left; rfl) x_arrI rfl rfl (by decide) (by decide) (by decide) (by decide) (hf 62 0 (by decide) (by decide)) (by first | exact Nat.le_of_ble_eq_true rfl | omega) (by first | exact Nat.le_of_ble_eq_true rfl | omega) ?_
  refine E_putFR dX9_init_85 fX9_44 rfl rfl rfl rfl (fun r h => by cases h; rfl) (by first | exact Or.inl ⟨_, rfl⟩ | exact Or.inr ⟨_, rfl⟩) (by intro q h; cases h; simp) ?_
  refine E_aload_n dX9_init_88 rfl rfl ?_
  refine E_iconst (v := 4) dX9_init_89 (by decide) ?_
  refine E_newa (k := 63) (i := 0) (n := 4) dX9_init_90 rfl (by left; rfl) x_arrI rfl rfl (by decide) (by decide) (by decide) (by decide) (hf 63 0 (by decide) (by decide)) (by first | exact Nat.le_of_ble_eq_true rfl | omega) (by first | exact Nat.le_of_ble_eq_true rfl | omega) ?_
  refine E_putFR dX9_init_92 fX9_47 rfl rfl rfl rfl (fun r h => by cases h; rfl) (by first | exact Or.inl ⟨_, rfl⟩ | exact Or.inr ⟨_, rfl⟩) (by intro q h; cases h; simp) ?_
  refine E_aload_n dX9_init_95 rfl rfl ?_
  refine E_bipush (v := 12) dX9_init_96 (by decide) ?_
  refine E_newa (k := 64) (i := 0) (n := 12) dX9_init_98 rfl (by left; rfl) x_arrI rfl rfl (by decide) (by decide) (by decide) (by decide) (hf 64 0 (by decide) (by decide)) (by first | exact Nat.le_of_ble_eq_true rfl | omega) (by first | exact Nat.le_of_ble_eq_true rfl | omega) ?_
  refine E_putFR dX9_init_100 fX9_50 rfl rfl rfl rfl (fun r h => by cases h; rfl) (by first | exact Or.inl ⟨_, rfl⟩ | exact Or.inr ⟨_, rfl⟩) (by intro q h; cases h; simp) ?_
  refine E_aload_n dX9_init_103 rfl rfl ?_
  refine E_bipush (v := 12) dX9_init_104 (by decide) ?_
  refine E_newa (k := 65) (i := 0) (n := 12) dX9_init_106 rfl (by left; rfl) x_arrI rfl rfl (by decide) (by decide) (by decide) (by decide) (hf 65 0 (by decide) (by decide)) (by first | exact Nat.le_of_ble_eq_true rfl | omega) (by first | exact Nat.le_of_ble_eq_true rfl | omega) ?_
  refine E_putFR dX9_init_108 fX9_53 rfl rfl rfl rfl (fun r h => by cases h; rfl) (by first | exact Or.inl ⟨_, rfl⟩ | exact Or.inr ⟨_, rfl⟩) (by intro q h; cases h; simp) ?_
  refine E_aload_n dX9_init_111 rfl rfl ?_
  refine E_bipush (v := 12) dX9_init_112 (by decide) ?_
  refine E_newa (k := 66) (i := 0) (n := 12) dX9_init_114 rfl (by left; rfl) x_arrI rfl rfl (by decide) (by decide) (by decide) (by decide) (hf 66 0 (by decide) (by decide)) (by first | exact Nat.le_of_ble_eq_true rfl | omega) (by first | exact Nat.le_of_ble_eq_true rfl | omega) ?_
  refine E_putFR dX9_init_116 fX9_56 rfl rfl rfl rfl (fun r h => by cases h; rfl) (by first | exact Or.inl ⟨_, rfl⟩ | exact Or.inr ⟨_, rfl⟩) (by intro q h; cases h; simp) ?_
  refine E_aload_n dX9_init_119 rfl rfl ?_
  refine E_bipush (v := 12) dX9_init_120 (by decide) ?_
  refine E_newa (k := 67) (i := 0) (n := 12) dX9_init_122 rfl (by right; rfl) x_arrZ rfl rfl (by decide) (by decide) (by decide) (by decide) (hf 67 0 (by decide) (by decide)) (by first | exact Nat.le_of_ble_eq_true rfl | omega) (by first | exact Nat.le_of_ble_eq_true rfl | omega) ?_
  refine E_putFR dX9_init_124 fX9_59 rfl rfl rfl rfl (fun r h => by cases h; rfl) (by first | exact Or.inl ⟨_, rfl⟩ | exact Or.inr ⟨_, rfl⟩) (by intro q h; cases h; simp) ?_
  refine E_aload_n dX9_init_127 rfl rfl ?_
  refine E_bipush (v := 12) dX9_init_128 (by decide) ?_
  refine E_newa (k := 68) (i := 0) (n := 12) dX9_init_130 rfl (by left; rfl) x_arrI rfl rfl (by decide) (by decide) (by decide) (by decide) (hf 68 0 (by decide) (by decide)) (by first | exact Nat.le_of_ble_eq_true rfl | omega) (by first | exact Nat.le_of_ble_eq_true rfl | omega) ?_
  refine E_putFR dX9_init_132 fX9_62 rfl rfl rfl rfl (fun r h => by cases h; rfl) (by first | exact Or.inl ⟨_, rfl⟩ | exact Or.inr ⟨_, rfl⟩) (by intro q h; cases h; simp) ?_
  refine E_aload_n dX9_init_135 rfl rfl ?_
  refine E_iconst (v := 4) dX9_init_136 (by decide) ?_
  refine E_newa (k := 69) (i := 0) (n := 4) dX9_init_137 rfl (by left; rfl) x_arrI rfl rfl (by decide) (by decide) (by decide) (by decide) (hf 69 0 (by decide) (by decide)) (by first | exact Nat.le_of_ble_eq_true rfl | omega) (by first | exact Nat.le_of_ble_eq_true rfl | omega) ?_
  refine E_putFR dX9_init_139 fX9_65 rfl rfl rfl rfl (fun r h => by cases h; rfl) (by first | exact Or.inl ⟨_, rfl⟩ | exact Or.inr ⟨_, rfl⟩) (by intro q h; cases h; simp) ?_
  refine E_aload_n dX9_init_142 rfl rfl ?_
  refine E_bipush (v := 12) dX9_init_143 (by decide) ?_
  refine E_newa (k := 70) (i := 0) (n := 12) dX9_init_145 rfl (by left; rfl) x_arrI rfl rfl (by decide) (by decide) (by decide) (by decide) (hf 70 0 (by decide) (by decide)) (by first | exact Nat.le_of_ble_eq_true rfl | omega) (by first | exact Nat.le_of_ble_eq_true rfl | omega) ?_
  refine E_putFR dX9_init_147 fX9_68 rfl rfl rfl rfl (fun r h => by cases h; rfl) (by first | exact Or.inl ⟨_, rfl⟩ | exact Or.inr ⟨_, rfl⟩) (by intro q h; cases h; simp) ?_
  refine E_aload_n dX9_init_150 rfl rfl ?_
  refine E_bipush (v := 12) dX9_init_151 (by decide) ?_
  refine E_newa (k := 71) (i := 0) (n := 12) dX9_init_153 rfl (by left; rfl) x_arrI rfl rfl (by decide) (by decide) (by decide) (by decide) (hf 71 0 (by decide) (by decide)) (by first | exact Nat.le_of_ble_eq_true rfl | omega) (by first | exact Nat.le_of_ble_eq_true rfl | omega) ?_
  refine E_putFR dX9_init_155 fX9_71 rfl rfl rfl rfl (fun r h => by cases h; rfl) (by first | exact Or.inl ⟨_, rfl⟩ | exact Or.inr ⟨_, rfl⟩) (by intro q h; cases h; simp) ?_
  refine E_aload_n dX9_init_158 rfl rfl ?_
  refine E_sipush (v := 200) dX9_init_159 (by decide) ?_
  refine E_newa (k := 73) (i := 0) (n := 200) dX9_init_162 rfl (by left; rfl) x_arrI rfl rfl (by decide) (by decide) (by decide) (by decide) (hf 73 0 (by decide) (by decide)) (by first | exact Nat.le_of_ble_eq_true rfl | omega) (by first | exact Nat.le_of_ble_eq_true rfl | omega) ?_
  refine E_putFR dX9_init_164 fX9_74 rfl rfl rfl rfl (fun r h => by cases h; rfl) (by first | exact Or.inl ⟨_, rfl⟩ | exact Or.inr ⟨_, rfl⟩) (by intro q h; cases h; simp) ?_
  refine E_aload_n dX9_init_167 rfl rfl ?_
  refine E_sipush (v := 200) dX9_init_168 (by decide) ?_
  refine E_newa (k := 74) (i := 0) (n := 200) dX9_init_171 rfl (by left; rfl) x_arrI rfl rfl (by decide) (by decide) (by decide) (by decide) (hf 74 0 (by decide) (by decide)) (by first | exact Nat.le_of_ble_eq_true rfl | omega) (by first | exact Nat.le_of_ble_eq_true rfl | omega) ?_
  refine E_putFR dX9_init_173 fX9_77 rfl rfl rfl rfl (fun r h => by cases h; rfl) (by first | exact Or.inl ⟨_, rfl⟩ | exact Or.inr ⟨_, rfl⟩) (by intro q h; cases h; simp) ?_
  refine E_aload_n dX9_init_176 rfl rfl ?_
  refine E_sipush (v := 200) dX9_init_177 (by decide) ?_
  refine E_newa (k := 75) (i := 0) (n := 200) dX9_init_180 rfl (by left; rfl) x_arrI rfl rfl (by decide) (by decide) (by decide) (by decide) (hf 75 0 (by decide) (by decide)) (by first | exact Nat.le_of_ble_eq_true rfl | omega) (by first | exact Nat.le_of_ble_eq_true rfl | omega) ?_
  refine E_putFR dX9_init_182 fX9_80 rfl rfl rfl rfl (fun r h => by cases h; rfl) (by first | exact Or.inl ⟨_, rfl⟩ | exact Or.inr ⟨_, rfl⟩) (by intro q h; cases h; simp) ?_
  refine E_aload_n dX9_init_185 rfl rfl ?_
  refine E_sipush (v := 200) dX9_init_186 (by decide) ?_
  refine E_newa (k := 76) (i := 0) (n := 200) dX9_init_189 rfl (by right; rfl) x_arrZ rfl rfl (by decide) (by decide) (by decide) (by decide) (hf 76 0 (by decide) (by decide)) (by first | exact Nat.le_of_ble_eq_true rfl | omega) (by first | exact Nat.le_of_ble_eq_true rfl | omega) ?_
  refine E_putFR dX9_init_191 fX9_83 rfl rfl rfl rfl (fun r h => by cases h; rfl) (by first | exact Or.inl ⟨_, rfl⟩ | exact Or.inr ⟨_, rfl⟩) (by intro q h; cases h; simp) ?_
  refine E_aload_n dX9_init_194 rfl rfl ?_
  refine E_sipush (v := 200) dX9_init_195 (by decide) ?_
  refine E_newa (k := 77) (i := 0) (n := 200) dX9_init_198 rfl (by left; rfl) x_arrI rfl rfl (by decide) (by decide) (by decide) (by decide) (hf 77 0 (by decide) (by decide)) (by first | exact Nat.le_of_ble_eq_true rfl | omega) (by first | exact Nat.le_of_ble_eq_true rfl | omega) ?_
  refine E_putFR dX9_init_200 fX9_86 rfl rfl rfl rfl (fun r h => by cases h; rfl) (by first | exact Or.inl ⟨_, rfl⟩ | exact Or.inr ⟨_, rfl⟩) (by intro q h; cases h; simp) ?_
  refine E_aload_n dX9_init_203 rfl rfl ?_
  refine E_sipush (v := 200) dX9_init_204 (by decide) ?_
  refine E_newa (k := 78) (i := 0) (n := 200) dX9_init_207 rfl (by left; rfl) x_arrI rfl rfl (by decide) (by decide) (by decide) (by decide) (hf 78 0 (by decide) (by decide)) (by first | exact Nat.le_of_ble_eq_true rfl | omega) (by first | exact Nat.le_of_ble_eq_true rfl | omega) ?_
  refine E_putFR dX9_init_209 fX9_89 rfl rfl rfl rfl (fun r h => by cases h; rfl) (by first | exact Or.inl ⟨_, rfl⟩ | exact Or.inr ⟨_, rfl⟩) (by intro q h; cases h; simp) ?_
  refine E_aload_n dX9_init_212 rfl rfl ?_
  refine E_sipush (v := 200) dX9_init_213 (by decide) ?_
  refine E_newa (k := 79) (i := 0) (n := 200) dX9_init_216 rfl (by right; rfl) x_arrZ rfl rfl (by decide) (by decide) (by decide) (by decide) (hf 79 0 (by decide) (by decide)) (by first | exact Nat.le_of_ble_eq_true rfl | omega) (by first | exact Nat.le_of_ble_eq_true rfl | omega) ?_
  refine E_putFR dX9_init_218 fX9_92 rfl rfl rfl rfl (fun r h => by cases h; rfl) (by first | exact Or.inl ⟨_, rfl⟩ | exact Or.inr ⟨_, rfl⟩) (by intro q h; cases h; simp) ?_
  refine E_aload_n dX9_init_221 rfl rfl ?_
  refine E_sipush (v := 200) dX9_init_222 (by decide) ?_
  refine E_newa (k := 80) (i := 0) (n := 200) dX9_init_225 rfl (by left; rfl) x_arrI rfl rfl (by decide) (by decide) (by decide) (by decide) (hf 80 0 (by decide) (by decide)) (by first | exact Nat.le_of_ble_eq_true rfl | omega) (by first | exact Nat.le_of_ble_eq_true rfl | omega) ?_
  refine E_putFR dX9_init_227 fX9_95 rfl rfl rfl rfl (fun r h => by cases h; rfl) (by first | exact Or.inl ⟨_, rfl⟩ | exact Or.inr ⟨_, rfl⟩) (by intro q h; cases h; simp) ?_
  refine E_aload_n dX9_init_230 rfl rfl ?_
  refine E_sipush (v := 200) dX9_init_231 (by decide) ?_
  refine E_newa (k := 81) (i := 0) (n := 200) dX9_init_234 rfl (by left; rfl) x_arrI rfl rfl (by decide) (by decide) (by decide) (by decide) (hf 81 0 (by decide) (by decide)) (by first | exact Nat.le_of_ble_eq_true rfl | omega) (by first | exact Nat.le_of_ble_eq_true rfl | omega) ?_
  refine E_putFR dX9_init_236 fX9_98 rfl rfl rfl rfl (fun r h => by cases h; rfl) (by first | exact Or.inl ⟨_, rfl⟩ | exact Or.inr ⟨_, rfl⟩) (by intro q h; cases h; simp) ?_
  refine E_aload_n dX9_init_239 rfl rfl ?_
  refine E_sipush (v := 200) dX9_init_240 (by decide) ?_
  refine E_newa (k := 82) (i := 0) (n := 200) dX9_init_243 rfl (by left; rfl) x_arrI rfl rfl (by decide) (by decide) (by decide) (by decide) (hf 82 0 (by decide) (by decide)) (by first | exact Nat.le_of_ble_eq_true rfl | omega) (by first | exact Nat.le_of_ble_eq_true rfl | omega) ?_
  refine E_putFR dX9_init_245 fX9_101 rfl rfl rfl rfl (fun r h => by cases h; rfl) (by first | exact Or.inl ⟨_, rfl⟩ | exact Or.inr ⟨_, rfl⟩) (by intro q h; cases h; simp) ?_
  refine E_aload_n dX9_init_248 rfl rfl ?_
  refine E_bipush (v := 30) dX9_init_249 (by decide) ?_
  refine E_newa (k := 83) (i := 0) (n := 30) dX9_init_251 rfl (by left; rfl) x_arrI rfl rfl (by decide) (by decide) (by decide) (by decide) (hf 83 0 (by decide) (by decide)) (by first | exact Nat.le_of_ble_eq_true rfl | omega) (by first | exact Nat.le_of_ble_eq_true rfl | omega) ?_
  refine E_putFR dX9_init_253 fX9_104 rfl rfl rfl rfl (fun r h => by cases h; rfl) (by first | exact Or.inl ⟨_, rfl⟩ | exact Or.inr ⟨_, rfl⟩) (by intro q h; cases h; simp) ?_
  refine E_aload_n dX9_init_256 rfl rfl ?_
  refine E_bipush (v := 30) dX9_init_257 (by decide) ?_
  refine E_newa (k := 84) (i := 0) (n := 30) dX9_init_259 rfl (by left; rfl) x_arrI rfl rfl (by decide) (by decide) (by decide) (by decide) (hf 84 0 (by decide) (by decide)) (by first | exact Nat.le_of_ble_eq_true rfl | omega) (by first | exact Nat.le_of_ble_eq_true rfl | omega) ?_
  refine E_putFR dX9_init_261 fX9_107 rfl rfl rfl rfl (fun r h => by cases h; rfl) (by first | exact Or.inl ⟨_, rfl⟩ | exact Or.inr ⟨_, rfl⟩) (by intro q h; cases h; simp) ?_
  refine E_aload_n dX9_init_264 rfl rfl ?_
  refine E_iconst (v := -1) dX9_init_265 (by decide) ?_
  refine E_putI dX9_init_266 fX9_110 rfl rfl rfl rfl rfl ?_
  refine E_aload_n dX9_init_269 rfl rfl ?_
  refine E_bipush (v := 20) dX9_init_270 (by decide) ?_
  refine E_newa (k := 87) (i := 0) (n := 20) dX9_init_272 rfl (by left; rfl) x_arrI rfl rfl (by decide) (by decide) (by decide) (by decide) (hf 87 0 (by decide) (by decide)) (by first | exact Nat.le_of_ble_eq_true rfl | omega) (by first | exact Nat.le_of_ble_eq_true rfl | omega) ?_
  refine E_putFR dX9_init_274 fX9_114 rfl rfl rfl rfl (fun r h => by cases h; rfl) (by first | exact Or.inl ⟨_, rfl⟩ | exact Or.inr ⟨_, rfl⟩) (by intro q h; cases h; simp) ?_
  refine E_aload_n dX9_init_277 rfl rfl ?_
  refine E_bipush (v := 20) dX9_init_278 (by decide) ?_
  refine E_newa (k := 88) (i := 0) (n := 20) dX9_init_280 rfl (by left; rfl) x_arrI rfl rfl (by decide) (by decide) (by decide) (by decide) (hf 88 0 (by decide) (by decide)) (by first | exact Nat.le_of_ble_eq_true rfl | omega) (by first | exact Nat.le_of_ble_eq_true rfl | omega) ?_
  refine E_putFR dX9_init_282 fX9_117 rfl rfl rfl rfl (fun r h => by cases h; rfl) (by first | exact Or.inl ⟨_, rfl⟩ | exact Or.inr ⟨_, rfl⟩) (by intro q h; cases h; simp) ?_
  refine E_aload_n dX9_init_285 rfl rfl ?_
  refine E_bipush (v := 20) dX9_init_286 (by decide) ?_
  refine E_newa (k := 89) (i := 0) (n := 20) dX9_init_288 rfl (by left; rfl) x_arrI rfl rfl (by decide) (by decide) (by decide) (by decide) (hf 89 0 (by decide) (by decide)) (by first | exact Nat.le_of_ble_eq_true rfl | omega) (by first | exact Nat.le_of_ble_eq_true rfl | omega) ?_
  refine E_putFR dX9_init_290 fX9_120 rfl rfl rfl rfl (fun r h => by cases h; rfl) (by first | exact Or.inl ⟨_, rfl⟩ | exact Or.inr ⟨_, rfl⟩) (by intro q h; cases h; simp) ?_
  refine E_aload_n dX9_init_293 rfl rfl ?_
  refine E_bipush (v := 20) dX9_init_294 (by decide) ?_
  refine E_newa (k := 90) (i := 0) (n := 20) dX9_init_296 rfl (by left; rfl) x_arrI rfl rfl (by decide) (by decide) (by decide) (by decide) (hf 90 0 (by decide) (by decide)) (by first | exact Nat.le_of_ble_eq_true rfl | omega) (by first | exact Nat.le_of_ble_eq_true rfl | omega) ?_
  refine E_putFR dX9_init_298 fX9_123 rfl rfl rfl rfl (fun r h => by cases h; rfl) (by first | exact Or.inl ⟨_, rfl⟩ | exact Or.inr ⟨_, rfl⟩) (by intro q h; cases h; simp) ?_
  refine E_aload_n dX9_init_301 rfl rfl ?_
  refine E_bipush (v := 20) dX9_init_302 (by decide) ?_
  refine E_newa (k := 91) (i := 0) (n := 20) dX9_init_304 rfl (by left; rfl) x_arrI rfl rfl (by decide) (by decide) (by decide) (by decide) (hf 91 0 (by decide) (by decide)) (by first | exact Nat.le_of_ble_eq_true rfl | omega) (by first | exact Nat.le_of_ble_eq_true rfl | omega) ?_
  refine E_putFR dX9_init_306 fX9_126 rfl rfl rfl rfl (fun r h => by cases h; rfl) (by first | exact Or.inl ⟨_, rfl⟩ | exact Or.inr ⟨_, rfl⟩) (by intro q h; cases h; simp) ?_
  refine E_aload_n dX9_init_309 rfl rfl ?_
  refine E_iconst (v := 4) dX9_init_310 (by decide) ?_
  refine E_newa (k := 92) (i := 0) (n := 4) dX9_init_311 rfl (by left; rfl) x_arrI rfl rfl (by decide) (by decide) (by decide) (by decide) (hf 92 0 (by decide) (by decide)) (by first | exact Nat.le_of_ble_eq_true rfl | omega) (by first | exact Nat.le_of_ble_eq_true rfl | omega) ?_
  refine E_putFR dX9_init_313 fX9_129 rfl rfl rfl rfl (fun r h => by cases h; rfl) (by first | exact Or.inl ⟨_, rfl⟩ | exact Or.inr ⟨_, rfl⟩) (by intro q h; cases h; simp) ?_
  refine E_aload_n dX9_init_316 rfl rfl ?_
  refine E_iconst (v := 4) dX9_init_317 (by decide) ?_
  refine E_newa (k := 93) (i := 0) (n := 4) dX9_init_318 rfl (by left; rfl) x_arrI rfl rfl (by decide) (by decide) (by decide) (by decide) (hf 93 0 (by decide) (by decide)) (by first | exact Nat.le_of_ble_eq_true rfl | omega) (by first | exact Nat.le_of_ble_eq_true rfl | omega) ?_
  refine E_putFR dX9_init_320 fX9_132 rfl rfl rfl rfl (fun r h => by cases h; rfl) (by first | exact Or.inl ⟨_, rfl⟩ | exact Or.inr ⟨_, rfl⟩) (by intro q h; cases h; simp) ?_
  refine E_aload_n dX9_init_323 rfl rfl ?_
  refine E_bipush (v := 24) dX9_init_324 (by decide) ?_
  refine E_newa (k := 94) (i := 0) (n := 24) dX9_init_326 rfl (by left; rfl) x_arrI rfl rfl (by decide) (by decide) (by decide) (by decide) (hf 94 0 (by decide) (by decide)) (by first | exact Nat.le_of_ble_eq_true rfl | omega) (by first | exact Nat.le_of_ble_eq_true rfl | omega) ?_
  refine E_putFR dX9_init_328 fX9_135 rfl rfl rfl rfl (fun r h => by cases h; rfl) (by first | exact Or.inl ⟨_, rfl⟩ | exact Or.inr ⟨_, rfl⟩) (by intro q h; cases h; simp) ?_
  refine E_aload_n dX9_init_331 rfl rfl ?_
  refine E_bipush (v := 24) dX9_init_332 (by decide) ?_
  refine E_newa (k := 95) (i := 0) (n := 24) dX9_init_334 rfl (by right; rfl) x_arrZ rfl rfl (by decide) (by decide) (by decide) (by decide) (hf 95 0 (by decide) (by decide)) (by first | exact Nat.le_of_ble_eq_true rfl | omega) (by first | exact Nat.le_of_ble_eq_true rfl | omega) ?_
  refine E_putFR dX9_init_336 fX9_138 rfl rfl rfl rfl (fun r h => by cases h; rfl) (by first | exact Or.inl ⟨_, rfl⟩ | exact Or.inr ⟨_, rfl⟩) (by intro q h; cases h; simp) ?_
  refine E_iconst (v := 0) dX9_init_339 (by decide) ?_
  refine E_istore_n dX9_init_340 rfl (by decide) rfl ?_
  exact l_r_init1 (xmi_M S) _ _ 12 0 rfl
