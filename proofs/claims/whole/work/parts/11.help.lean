/-! small rows -/
theorem fa_lt (a b : Int32) : a < b ↔ a.toInt < b.toInt := Int32.lt_iff_toInt_lt
theorem fa_le (a b : Int32) : a ≤ b ↔ a.toInt ≤ b.toInt := Int32.le_iff_toInt_le
theorem fa_eq (a b : Int32) : a = b ↔ a.toInt = b.toInt := Int32.toInt_inj.symm
theorem xcat2 (v : Value) : v.category ≤ 2 := by rcases lv_cat v with h | h <;> omega
theorem xsumL : ∀ (l : List Value), (l.map fun v => v.category).sum ≤ 2 * l.length
  | [] => by simp
  | v :: l => by
    have h1 := xsumL l
    have h2 := xcat2 v
    simp only [List.map_cons, List.sum_cons, List.length_cons]
    omega
theorem xs8 {st : List xV} (h : st.length ≤ 4) : ∀ al : Nat × Nat → Nat, ((st.map (xc al)).map fun v => v.category).sum ≤ 8 := by
  intro al
  have h1 := xsumL (st.map (xc al))
  rw [List.length_map] at h1
  omega
theorem vin {j n : Nat} (h : j < n) (hn : n ≤ 100000) : vp_in (nI j) n := vp_in_nI h (by omega)
theorem vnat {j n : Nat} (h : j < n) (hn : n ≤ 100000) : (nI j).toNatClampNeg = j := nI_clamp (by omega)
/-- a boolean in a cell -/
def xB (x : Int32) : Prop := x = 0 ∨ x = 1
theorem xB.n {x : Int32} (h : xB x) : narrow .boolean (.int x) = .int x := by rcases h with rfl | rfl <;> rfl
theorem xB.f {x : Int32} (h : xB x) : fits .boolean (.int x) = true := by rcases h with rfl | rfl <;> rfl
theorem xB.v {x : Int32} (h : xB x) : vp_nar .boolean x = x := by rcases h with rfl | rfl <;> rfl
theorem xB.z {x : Int32} (h : xB x) : ¬ x = 0 ↔ x = 1 := by rcases h with rfl | rfl <;> decide
theorem xB_0 : xB 0 := Or.inl rfl
theorem xB_1 : xB 1 := Or.inr rfl
theorem xB_if (c : Prop) [Decidable c] : xB (if c then 1 else 0) := by
  by_cases h : c
  · rw [if_pos h]; exact xB_1
  · rw [if_neg h]; exact xB_0
theorem xB_ifn (c : Prop) [Decidable c] : xB (if c then 0 else 1) := by
  by_cases h : c
  · rw [if_pos h]; exact xB_0
  · rw [if_neg h]; exact xB_1
/-- answers: an int, a reference, nothing -/
abbrev aI (x : Int32) (S2 : xS) : Option xV → xS → Prop := fun v S' => some (xI x) = v ∧ S2 = S'
abbrev aR (r : Option (Nat × Nat)) (S2 : xS) : Option xV → xS → Prop := fun v S' => some (xR r) = v ∧ S2 = S'
abbrev aV (S2 : xS) : Option xV → xS → Prop := fun v S' => none = v ∧ S2 = S'
/-- sums -/
def xsm (f : Nat → Int32) : Nat → Int32
  | 0 => 0
  | n + 1 => xsm f n + f n
theorem xsm_succ (f : Nat → Int32) (n : Nat) : xsm f (n + 1) = xsm f n + f n := rfl
theorem xsm_cong {f g : Nat → Int32} : ∀ {n : Nat}, (∀ k, k < n → f k = g k) → xsm f n = xsm g n
  | 0, _ => rfl
  | n + 1, h => by rw [xsm_succ, xsm_succ, xsm_cong (fun k hk => h k (by omega)), h n (by omega)]
theorem xsm_upd {f g : Nat → Int32} {i : Nat} {v : Int32} : ∀ {n : Nat}, i < n → (∀ k, k < n → k ≠ i → g k = f k) → g i = f i + v → xsm g n = xsm f n + v
  | 0, h, _, _ => absurd h (by omega)
  | n + 1, h, ho, hi => by
    rw [xsm_succ, xsm_succ]
    by_cases hn : i = n
    · subst hn
      rw [hi, xsm_cong (g := f) (fun k hk => ho k (by omega) (by omega)), Int32.add_assoc]
    · rw [xsm_upd (by omega) (fun k hk hne => ho k (by omega) hne) hi, ho n (by omega) (Ne.symm hn), Int32.add_assoc, Int32.add_comm v, ← Int32.add_assoc]
theorem xsm_add (f g : Nat → Int32) : ∀ n, xsm (fun k => f k + g k) n = xsm f n + xsm g n
  | 0 => (by decide : (0 : Int32) = 0 + 0)
  | n + 1 => by
    rw [xsm_succ, xsm_succ, xsm_succ, xsm_add f g n, Int32.add_assoc, Int32.add_assoc, ← Int32.add_assoc (xsm g n), Int32.add_comm (xsm g n), Int32.add_assoc]
theorem xsm_zero {f : Nat → Int32} : ∀ {n : Nat}, (∀ k, k < n → f k = 0) → xsm f n = 0
  | 0, _ => rfl
  | n + 1, h => by rw [xsm_succ, xsm_zero (fun k hk => h k (by omega)), h n (by omega)]; decide
/-- the class's own shape: its arrays and parts, where they are -/
def xShX (S : xS) : Prop := gR S 8 0 0 = some (10, 0) ∧ gR S 8 0 1 = some (11, 0) ∧ gR S 8 0 2 = some (12, 0) ∧ gR S 8 0 3 = some (2, 0) ∧ gR S 8 0 4 = some (5, 0) ∧ gR S 2 0 0 = some (13, 0) ∧ gR S 2 0 1 = some (14, 0) ∧ gR S 5 0 0 = some (15, 0) ∧ gR S 5 0 1 = some (16, 0) ∧ gL S 10 0 = some 4 ∧ gL S 11 0 = some 200 ∧ gL S 12 0 = some 20 ∧ gL S 13 0 = some 30 ∧ gL S 14 0 = some 30 ∧ gL S 15 0 = some 24 ∧ gL S 16 0 = some 24
theorem rX_8_0 {S : xS} (h : xShX S) : gR S 8 0 0 = some (10, 0) := h.1
theorem rX_8_1 {S : xS} (h : xShX S) : gR S 8 0 1 = some (11, 0) := h.2.1
theorem rX_8_2 {S : xS} (h : xShX S) : gR S 8 0 2 = some (12, 0) := h.2.2.1
theorem rX_8_3 {S : xS} (h : xShX S) : gR S 8 0 3 = some (2, 0) := h.2.2.2.1
theorem rX_8_4 {S : xS} (h : xShX S) : gR S 8 0 4 = some (5, 0) := h.2.2.2.2.1
theorem rX_2_0 {S : xS} (h : xShX S) : gR S 2 0 0 = some (13, 0) := h.2.2.2.2.2.1
theorem rX_2_1 {S : xS} (h : xShX S) : gR S 2 0 1 = some (14, 0) := h.2.2.2.2.2.2.1
theorem rX_5_0 {S : xS} (h : xShX S) : gR S 5 0 0 = some (15, 0) := h.2.2.2.2.2.2.2.1
theorem rX_5_1 {S : xS} (h : xShX S) : gR S 5 0 1 = some (16, 0) := h.2.2.2.2.2.2.2.2.1
theorem lX_10 {S : xS} (h : xShX S) : gL S 10 0 = some 4 := h.2.2.2.2.2.2.2.2.2.1
theorem lX_11 {S : xS} (h : xShX S) : gL S 11 0 = some 200 := h.2.2.2.2.2.2.2.2.2.2.1
theorem lX_12 {S : xS} (h : xShX S) : gL S 12 0 = some 20 := h.2.2.2.2.2.2.2.2.2.2.2.1
theorem lX_13 {S : xS} (h : xShX S) : gL S 13 0 = some 30 := h.2.2.2.2.2.2.2.2.2.2.2.2.1
theorem lX_14 {S : xS} (h : xShX S) : gL S 14 0 = some 30 := h.2.2.2.2.2.2.2.2.2.2.2.2.2.1
theorem lX_15 {S : xS} (h : xShX S) : gL S 15 0 = some 24 := h.2.2.2.2.2.2.2.2.2.2.2.2.2.2.1
theorem lX_16 {S : xS} (h : xShX S) : gL S 16 0 = some 24 := h.2.2.2.2.2.2.2.2.2.2.2.2.2.2.2
/-- the reference's shape -/
def xShM (S : xS) : Prop := (gR S 9 0 1 = some (51, 0) ∧ gL S 51 0 = some 4) ∧ (gR S 9 0 2 = some (52, 0) ∧ gL S 52 0 = some 4) ∧ (gR S 9 0 3 = some (53, 0) ∧ gL S 53 0 = some 4) ∧ (gR S 9 0 4 = some (54, 0) ∧ gL S 54 0 = some 4) ∧ (gR S 9 0 5 = some (55, 0) ∧ gL S 55 0 = some 4) ∧ (gR S 9 0 6 = some (56, 0) ∧ gL S 56 0 = some 4) ∧ (gR S 9 0 7 = some (57, 0) ∧ gL S 57 0 = some 4) ∧ (gR S 9 0 8 = some (58, 0) ∧ gL S 58 0 = some 4) ∧ (gR S 9 0 9 = some (59, 0) ∧ gL S 59 0 = some 4) ∧ (gR S 9 0 10 = some (60, 0) ∧ gL S 60 0 = some 4) ∧ (gR S 9 0 11 = some (61, 0) ∧ gL S 61 0 = some 4) ∧ (gR S 9 0 12 = some (62, 0) ∧ gL S 62 0 = some 4) ∧ (gR S 9 0 13 = some (63, 0) ∧ gL S 63 0 = some 4) ∧ (gR S 9 0 14 = some (64, 0) ∧ gL S 64 0 = some 12) ∧ (gR S 9 0 15 = some (65, 0) ∧ gL S 65 0 = some 12) ∧ (gR S 9 0 16 = some (66, 0) ∧ gL S 66 0 = some 12) ∧ (gR S 9 0 17 = some (67, 0) ∧ gL S 67 0 = some 12) ∧ (gR S 9 0 18 = some (68, 0) ∧ gL S 68 0 = some 12) ∧ (gR S 9 0 19 = some (69, 0) ∧ gL S 69 0 = some 4) ∧ (gR S 9 0 20 = some (70, 0) ∧ gL S 70 0 = some 12) ∧ (gR S 9 0 21 = some (71, 0) ∧ gL S 71 0 = some 12) ∧ (gR S 9 0 23 = some (73, 0) ∧ gL S 73 0 = some 200) ∧ (gR S 9 0 24 = some (74, 0) ∧ gL S 74 0 = some 200) ∧ (gR S 9 0 25 = some (75, 0) ∧ gL S 75 0 = some 200) ∧ (gR S 9 0 26 = some (76, 0) ∧ gL S 76 0 = some 200) ∧ (gR S 9 0 27 = some (77, 0) ∧ gL S 77 0 = some 200) ∧ (gR S 9 0 28 = some (78, 0) ∧ gL S 78 0 = some 200) ∧ (gR S 9 0 29 = some (79, 0) ∧ gL S 79 0 = some 200) ∧ (gR S 9 0 30 = some (80, 0) ∧ gL S 80 0 = some 200) ∧ (gR S 9 0 31 = some (81, 0) ∧ gL S 81 0 = some 200) ∧ (gR S 9 0 32 = some (82, 0) ∧ gL S 82 0 = some 200) ∧ (gR S 9 0 33 = some (83, 0) ∧ gL S 83 0 = some 30) ∧ (gR S 9 0 34 = some (84, 0) ∧ gL S 84 0 = some 30) ∧ (gR S 9 0 37 = some (87, 0) ∧ gL S 87 0 = some 20) ∧ (gR S 9 0 38 = some (88, 0) ∧ gL S 88 0 = some 20) ∧ (gR S 9 0 39 = some (89, 0) ∧ gL S 89 0 = some 20) ∧ (gR S 9 0 40 = some (90, 0) ∧ gL S 90 0 = some 20) ∧ (gR S 9 0 41 = some (91, 0) ∧ gL S 91 0 = some 20) ∧ (gR S 9 0 42 = some (92, 0) ∧ gL S 92 0 = some 4) ∧ (gR S 9 0 43 = some (93, 0) ∧ gL S 93 0 = some 4) ∧ (gR S 9 0 44 = some (94, 0) ∧ gL S 94 0 = some 24) ∧ (gR S 9 0 45 = some (95, 0) ∧ gL S 95 0 = some 24)
theorem rM_1 {S : xS} (h : xShM S) : gR S 9 0 1 = some (51, 0) := (h.1).1
theorem lM_1 {S : xS} (h : xShM S) : gL S 51 0 = some 4 := (h.1).2
theorem rM_2 {S : xS} (h : xShM S) : gR S 9 0 2 = some (52, 0) := (h.2.1).1
theorem lM_2 {S : xS} (h : xShM S) : gL S 52 0 = some 4 := (h.2.1).2
theorem rM_3 {S : xS} (h : xShM S) : gR S 9 0 3 = some (53, 0) := (h.2.2.1).1
theorem lM_3 {S : xS} (h : xShM S) : gL S 53 0 = some 4 := (h.2.2.1).2
theorem rM_4 {S : xS} (h : xShM S) : gR S 9 0 4 = some (54, 0) := (h.2.2.2.1).1
theorem lM_4 {S : xS} (h : xShM S) : gL S 54 0 = some 4 := (h.2.2.2.1).2
theorem rM_5 {S : xS} (h : xShM S) : gR S 9 0 5 = some (55, 0) := (h.2.2.2.2.1).1
theorem lM_5 {S : xS} (h : xShM S) : gL S 55 0 = some 4 := (h.2.2.2.2.1).2
theorem rM_6 {S : xS} (h : xShM S) : gR S 9 0 6 = some (56, 0) := (h.2.2.2.2.2.1).1
theorem lM_6 {S : xS} (h : xShM S) : gL S 56 0 = some 4 := (h.2.2.2.2.2.1).2
theorem rM_7 {S : xS} (h : xShM S) : gR S 9 0 7 = some (57, 0) := (h.2.2.2.2.2.2.1).1
theorem lM_7 {S : xS} (h : xShM S) : gL S 57 0 = some 4 := (h.2.2.2.2.2.2.1).2
theorem rM_8 {S : xS} (h : xShM S) : gR S 9 0 8 = some (58, 0) := (h.2.2.2.2.2.2.2.1).1
theorem lM_8 {S : xS} (h : xShM S) : gL S 58 0 = some 4 := (h.2.2.2.2.2.2.2.1).2
theorem rM_9 {S : xS} (h : xShM S) : gR S 9 0 9 = some (59, 0) := (h.2.2.2.2.2.2.2.2.1).1
theorem lM_9 {S : xS} (h : xShM S) : gL S 59 0 = some 4 := (h.2.2.2.2.2.2.2.2.1).2
theorem rM_10 {S : xS} (h : xShM S) : gR S 9 0 10 = some (60, 0) := (h.2.2.2.2.2.2.2.2.2.1).1
theorem lM_10 {S : xS} (h : xShM S) : gL S 60 0 = some 4 := (h.2.2.2.2.2.2.2.2.2.1).2
theorem rM_11 {S : xS} (h : xShM S) : gR S 9 0 11 = some (61, 0) := (h.2.2.2.2.2.2.2.2.2.2.1).1
theorem lM_11 {S : xS} (h : xShM S) : gL S 61 0 = some 4 := (h.2.2.2.2.2.2.2.2.2.2.1).2
theorem rM_12 {S : xS} (h : xShM S) : gR S 9 0 12 = some (62, 0) := (h.2.2.2.2.2.2.2.2.2.2.2.1).1
theorem lM_12 {S : xS} (h : xShM S) : gL S 62 0 = some 4 := (h.2.2.2.2.2.2.2.2.2.2.2.1).2
theorem rM_13 {S : xS} (h : xShM S) : gR S 9 0 13 = some (63, 0) := (h.2.2.2.2.2.2.2.2.2.2.2.2.1).1
theorem lM_13 {S : xS} (h : xShM S) : gL S 63 0 = some 4 := (h.2.2.2.2.2.2.2.2.2.2.2.2.1).2
theorem rM_14 {S : xS} (h : xShM S) : gR S 9 0 14 = some (64, 0) := (h.2.2.2.2.2.2.2.2.2.2.2.2.2.1).1
theorem lM_14 {S : xS} (h : xShM S) : gL S 64 0 = some 12 := (h.2.2.2.2.2.2.2.2.2.2.2.2.2.1).2
theorem rM_15 {S : xS} (h : xShM S) : gR S 9 0 15 = some (65, 0) := (h.2.2.2.2.2.2.2.2.2.2.2.2.2.2.1).1
theorem lM_15 {S : xS} (h : xShM S) : gL S 65 0 = some 12 := (h.2.2.2.2.2.2.2.2.2.2.2.2.2.2.1).2
theorem rM_16 {S : xS} (h : xShM S) : gR S 9 0 16 = some (66, 0) := (h.2.2.2.2.2.2.2.2.2.2.2.2.2.2.2.1).1
theorem lM_16 {S : xS} (h : xShM S) : gL S 66 0 = some 12 := (h.2.2.2.2.2.2.2.2.2.2.2.2.2.2.2.1).2
theorem rM_17 {S : xS} (h : xShM S) : gR S 9 0 17 = some (67, 0) := (h.2.2.2.2.2.2.2.2.2.2.2.2.2.2.2.2.1).1
theorem lM_17 {S : xS} (h : xShM S) : gL S 67 0 = some 12 := (h.2.2.2.2.2.2.2.2.2.2.2.2.2.2.2.2.1).2
theorem rM_18 {S : xS} (h : xShM S) : gR S 9 0 18 = some (68, 0) := (h.2.2.2.2.2.2.2.2.2.2.2.2.2.2.2.2.2.1).1
theorem lM_18 {S : xS} (h : xShM S) : gL S 68 0 = some 12 := (h.2.2.2.2.2.2.2.2.2.2.2.2.2.2.2.2.2.1).2
theorem rM_19 {S : xS} (h : xShM S) : gR S 9 0 19 = some (69, 0) := (h.2.2.2.2.2.2.2.2.2.2.2.2.2.2.2.2.2.2.1).1
theorem lM_19 {S : xS} (h : xShM S) : gL S 69 0 = some 4 := (h.2.2.2.2.2.2.2.2.2.2.2.2.2.2.2.2.2.2.1).2
theorem rM_20 {S : xS} (h : xShM S) : gR S 9 0 20 = some (70, 0) := (h.2.2.2.2.2.2.2.2.2.2.2.2.2.2.2.2.2.2.2.1).1
theorem lM_20 {S : xS} (h : xShM S) : gL S 70 0 = some 12 := (h.2.2.2.2.2.2.2.2.2.2.2.2.2.2.2.2.2.2.2.1).2
theorem rM_21 {S : xS} (h : xShM S) : gR S 9 0 21 = some (71, 0) := (h.2.2.2.2.2.2.2.2.2.2.2.2.2.2.2.2.2.2.2.2.1).1
theorem lM_21 {S : xS} (h : xShM S) : gL S 71 0 = some 12 := (h.2.2.2.2.2.2.2.2.2.2.2.2.2.2.2.2.2.2.2.2.1).2
theorem rM_23 {S : xS} (h : xShM S) : gR S 9 0 23 = some (73, 0) := (h.2.2.2.2.2.2.2.2.2.2.2.2.2.2.2.2.2.2.2.2.2.1).1
theorem lM_23 {S : xS} (h : xShM S) : gL S 73 0 = some 200 := (h.2.2.2.2.2.2.2.2.2.2.2.2.2.2.2.2.2.2.2.2.2.1).2
theorem rM_24 {S : xS} (h : xShM S) : gR S 9 0 24 = some (74, 0) := (h.2.2.2.2.2.2.2.2.2.2.2.2.2.2.2.2.2.2.2.2.2.2.1).1
theorem lM_24 {S : xS} (h : xShM S) : gL S 74 0 = some 200 := (h.2.2.2.2.2.2.2.2.2.2.2.2.2.2.2.2.2.2.2.2.2.2.1).2
theorem rM_25 {S : xS} (h : xShM S) : gR S 9 0 25 = some (75, 0) := (h.2.2.2.2.2.2.2.2.2.2.2.2.2.2.2.2.2.2.2.2.2.2.2.1).1
theorem lM_25 {S : xS} (h : xShM S) : gL S 75 0 = some 200 := (h.2.2.2.2.2.2.2.2.2.2.2.2.2.2.2.2.2.2.2.2.2.2.2.1).2
theorem rM_26 {S : xS} (h : xShM S) : gR S 9 0 26 = some (76, 0) := (h.2.2.2.2.2.2.2.2.2.2.2.2.2.2.2.2.2.2.2.2.2.2.2.2.1).1
theorem lM_26 {S : xS} (h : xShM S) : gL S 76 0 = some 200 := (h.2.2.2.2.2.2.2.2.2.2.2.2.2.2.2.2.2.2.2.2.2.2.2.2.1).2
theorem rM_27 {S : xS} (h : xShM S) : gR S 9 0 27 = some (77, 0) := (h.2.2.2.2.2.2.2.2.2.2.2.2.2.2.2.2.2.2.2.2.2.2.2.2.2.1).1
theorem lM_27 {S : xS} (h : xShM S) : gL S 77 0 = some 200 := (h.2.2.2.2.2.2.2.2.2.2.2.2.2.2.2.2.2.2.2.2.2.2.2.2.2.1).2
theorem rM_28 {S : xS} (h : xShM S) : gR S 9 0 28 = some (78, 0) := (h.2.2.2.2.2.2.2.2.2.2.2.2.2.2.2.2.2.2.2.2.2.2.2.2.2.2.1).1
theorem lM_28 {S : xS} (h : xShM S) : gL S 78 0 = some 200 := (h.2.2.2.2.2.2.2.2.2.2.2.2.2.2.2.2.2.2.2.2.2.2.2.2.2.2.1).2
theorem rM_29 {S : xS} (h : xShM S) : gR S 9 0 29 = some (79, 0) := (h.2.2.2.2.2.2.2.2.2.2.2.2.2.2.2.2.2.2.2.2.2.2.2.2.2.2.2.1).1
theorem lM_29 {S : xS} (h : xShM S) : gL S 79 0 = some 200 := (h.2.2.2.2.2.2.2.2.2.2.2.2.2.2.2.2.2.2.2.2.2.2.2.2.2.2.2.1).2
theorem rM_30 {S : xS} (h : xShM S) : gR S 9 0 30 = some (80, 0) := (h.2.2.2.2.2.2.2.2.2.2.2.2.2.2.2.2.2.2.2.2.2.2.2.2.2.2.2.2.1).1
theorem lM_30 {S : xS} (h : xShM S) : gL S 80 0 = some 200 := (h.2.2.2.2.2.2.2.2.2.2.2.2.2.2.2.2.2.2.2.2.2.2.2.2.2.2.2.2.1).2
theorem rM_31 {S : xS} (h : xShM S) : gR S 9 0 31 = some (81, 0) := (h.2.2.2.2.2.2.2.2.2.2.2.2.2.2.2.2.2.2.2.2.2.2.2.2.2.2.2.2.2.1).1
theorem lM_31 {S : xS} (h : xShM S) : gL S 81 0 = some 200 := (h.2.2.2.2.2.2.2.2.2.2.2.2.2.2.2.2.2.2.2.2.2.2.2.2.2.2.2.2.2.1).2
theorem rM_32 {S : xS} (h : xShM S) : gR S 9 0 32 = some (82, 0) := (h.2.2.2.2.2.2.2.2.2.2.2.2.2.2.2.2.2.2.2.2.2.2.2.2.2.2.2.2.2.2.1).1
theorem lM_32 {S : xS} (h : xShM S) : gL S 82 0 = some 200 := (h.2.2.2.2.2.2.2.2.2.2.2.2.2.2.2.2.2.2.2.2.2.2.2.2.2.2.2.2.2.2.1).2
theorem rM_33 {S : xS} (h : xShM S) : gR S 9 0 33 = some (83, 0) := (h.2.2.2.2.2.2.2.2.2.2.2.2.2.2.2.2.2.2.2.2.2.2.2.2.2.2.2.2.2.2.2.1).1
theorem lM_33 {S : xS} (h : xShM S) : gL S 83 0 = some 30 := (h.2.2.2.2.2.2.2.2.2.2.2.2.2.2.2.2.2.2.2.2.2.2.2.2.2.2.2.2.2.2.2.1).2
theorem rM_34 {S : xS} (h : xShM S) : gR S 9 0 34 = some (84, 0) := (h.2.2.2.2.2.2.2.2.2.2.2.2.2.2.2.2.2.2.2.2.2.2.2.2.2.2.2.2.2.2.2.2.1).1
theorem lM_34 {S : xS} (h : xShM S) : gL S 84 0 = some 30 := (h.2.2.2.2.2.2.2.2.2.2.2.2.2.2.2.2.2.2.2.2.2.2.2.2.2.2.2.2.2.2.2.2.1).2
theorem rM_37 {S : xS} (h : xShM S) : gR S 9 0 37 = some (87, 0) := (h.2.2.2.2.2.2.2.2.2.2.2.2.2.2.2.2.2.2.2.2.2.2.2.2.2.2.2.2.2.2.2.2.2.1).1
theorem lM_37 {S : xS} (h : xShM S) : gL S 87 0 = some 20 := (h.2.2.2.2.2.2.2.2.2.2.2.2.2.2.2.2.2.2.2.2.2.2.2.2.2.2.2.2.2.2.2.2.2.1).2
theorem rM_38 {S : xS} (h : xShM S) : gR S 9 0 38 = some (88, 0) := (h.2.2.2.2.2.2.2.2.2.2.2.2.2.2.2.2.2.2.2.2.2.2.2.2.2.2.2.2.2.2.2.2.2.2.1).1
theorem lM_38 {S : xS} (h : xShM S) : gL S 88 0 = some 20 := (h.2.2.2.2.2.2.2.2.2.2.2.2.2.2.2.2.2.2.2.2.2.2.2.2.2.2.2.2.2.2.2.2.2.2.1).2
theorem rM_39 {S : xS} (h : xShM S) : gR S 9 0 39 = some (89, 0) := (h.2.2.2.2.2.2.2.2.2.2.2.2.2.2.2.2.2.2.2.2.2.2.2.2.2.2.2.2.2.2.2.2.2.2.2.1).1
theorem lM_39 {S : xS} (h : xShM S) : gL S 89 0 = some 20 := (h.2.2.2.2.2.2.2.2.2.2.2.2.2.2.2.2.2.2.2.2.2.2.2.2.2.2.2.2.2.2.2.2.2.2.2.1).2
theorem rM_40 {S : xS} (h : xShM S) : gR S 9 0 40 = some (90, 0) := (h.2.2.2.2.2.2.2.2.2.2.2.2.2.2.2.2.2.2.2.2.2.2.2.2.2.2.2.2.2.2.2.2.2.2.2.2.1).1
theorem lM_40 {S : xS} (h : xShM S) : gL S 90 0 = some 20 := (h.2.2.2.2.2.2.2.2.2.2.2.2.2.2.2.2.2.2.2.2.2.2.2.2.2.2.2.2.2.2.2.2.2.2.2.2.1).2
theorem rM_41 {S : xS} (h : xShM S) : gR S 9 0 41 = some (91, 0) := (h.2.2.2.2.2.2.2.2.2.2.2.2.2.2.2.2.2.2.2.2.2.2.2.2.2.2.2.2.2.2.2.2.2.2.2.2.2.1).1
theorem lM_41 {S : xS} (h : xShM S) : gL S 91 0 = some 20 := (h.2.2.2.2.2.2.2.2.2.2.2.2.2.2.2.2.2.2.2.2.2.2.2.2.2.2.2.2.2.2.2.2.2.2.2.2.2.1).2
theorem rM_42 {S : xS} (h : xShM S) : gR S 9 0 42 = some (92, 0) := (h.2.2.2.2.2.2.2.2.2.2.2.2.2.2.2.2.2.2.2.2.2.2.2.2.2.2.2.2.2.2.2.2.2.2.2.2.2.2.1).1
theorem lM_42 {S : xS} (h : xShM S) : gL S 92 0 = some 4 := (h.2.2.2.2.2.2.2.2.2.2.2.2.2.2.2.2.2.2.2.2.2.2.2.2.2.2.2.2.2.2.2.2.2.2.2.2.2.2.1).2
theorem rM_43 {S : xS} (h : xShM S) : gR S 9 0 43 = some (93, 0) := (h.2.2.2.2.2.2.2.2.2.2.2.2.2.2.2.2.2.2.2.2.2.2.2.2.2.2.2.2.2.2.2.2.2.2.2.2.2.2.2.1).1
theorem lM_43 {S : xS} (h : xShM S) : gL S 93 0 = some 4 := (h.2.2.2.2.2.2.2.2.2.2.2.2.2.2.2.2.2.2.2.2.2.2.2.2.2.2.2.2.2.2.2.2.2.2.2.2.2.2.2.1).2
theorem rM_44 {S : xS} (h : xShM S) : gR S 9 0 44 = some (94, 0) := (h.2.2.2.2.2.2.2.2.2.2.2.2.2.2.2.2.2.2.2.2.2.2.2.2.2.2.2.2.2.2.2.2.2.2.2.2.2.2.2.2.1).1
theorem lM_44 {S : xS} (h : xShM S) : gL S 94 0 = some 24 := (h.2.2.2.2.2.2.2.2.2.2.2.2.2.2.2.2.2.2.2.2.2.2.2.2.2.2.2.2.2.2.2.2.2.2.2.2.2.2.2.2.1).2
theorem rM_45 {S : xS} (h : xShM S) : gR S 9 0 45 = some (95, 0) := (h.2.2.2.2.2.2.2.2.2.2.2.2.2.2.2.2.2.2.2.2.2.2.2.2.2.2.2.2.2.2.2.2.2.2.2.2.2.2.2.2.2).1
theorem lM_45 {S : xS} (h : xShM S) : gL S 95 0 = some 24 := (h.2.2.2.2.2.2.2.2.2.2.2.2.2.2.2.2.2.2.2.2.2.2.2.2.2.2.2.2.2.2.2.2.2.2.2.2.2.2.2.2.2).2
/-- a pool's shape: its posts, things, door -/
def xShP (S : xS) (p n : Nat) : Prop := n ≤ 3 ∧ gR S 3 p 3 = some (17, p) ∧ gR S 3 p 4 = some (18, p) ∧ gR S 3 p 5 = some (1, p) ∧ gL S 17 p = some n ∧ gL S 18 p = some 3 ∧ (∀ k, k < n → gR S 17 p k = some (4, 3 * p + k)) ∧ (∀ k, k < 3 → gR S 18 p k = some (6, 3 * p + k))
theorem rP_3 {S : xS} {p n : Nat} (h : xShP S p n) : gR S 3 p 3 = some (17, p) := h.2.1
theorem rP_4 {S : xS} {p n : Nat} (h : xShP S p n) : gR S 3 p 4 = some (18, p) := h.2.2.1
theorem rP_5 {S : xS} {p n : Nat} (h : xShP S p n) : gR S 3 p 5 = some (1, p) := h.2.2.2.1
theorem lP_17 {S : xS} {p n : Nat} (h : xShP S p n) : gL S 17 p = some n := h.2.2.2.2.1
theorem lP_18 {S : xS} {p n : Nat} (h : xShP S p n) : gL S 18 p = some 3 := h.2.2.2.2.2.1
theorem rP_17 {S : xS} {p n k : Nat} (h : xShP S p n) (hk : k < n) : gR S 17 p k = some (4, 3 * p + k) := h.2.2.2.2.2.2.1 k hk
theorem rP_18 {S : xS} {p n k : Nat} (h : xShP S p n) (hk : k < 3) : gR S 18 p k = some (6, 3 * p + k) := h.2.2.2.2.2.2.2 k hk

theorem nI_i1 (i : Nat) : nI i + Int32.ofInt 1 = nI (i + 1) := nI_1 i
/-- whether a post is filled at x; what is wrong with a pool's water, its posts left out -/
def xfil (S : xS) (i : Nat) (x : Int32) : Int32 := if (gR S 4 i 0) ≠ none ∧ x - (gI S 4 i 1) < 60 then 1 else 0
def xra (S : xS) (p i : Nat) : Int32 := if (gI S 6 (3 * p + i) 4) = 0 ∨ ((gI S 6 (3 * p + i) 0) ≤ (gI S 6 (3 * p + i) 2) ∧ (gI S 6 (3 * p + i) 2) ≤ (gI S 6 (3 * p + i) 1)) then 0 else 1 <<< (nI i &&& 31)
def xrb (S : xS) (p : Nat) (x : Int32) (i : Nat) : Int32 := if 120 ≤ x - (gI S 6 (3 * p + i) 3) then 8 else 0
def xrl (S : xS) (p : Nat) (x : Int32) : Nat → Int32
  | 0 => if x < (gI S 3 p 8) then 16 else 0
  | i + 1 => (xrl S p x i ||| xra S p i) ||| xrb S p x i
def xrs (S : xS) (p n : Nat) (x : Int32) : Int32 := xrl S p x 3 ||| (if xsm (fun k => xfil S (3 * p + k) x) n < nI n then 32 else 0)
def xln (S : xS) (p : Nat) : Int32 := if 0 < (if (gI S 1 p 1) = 0 then (gI S 1 p 2) + (gI S 1 p 4) else (gI S 1 p 2) - 3) then (if (gI S 1 p 1) = 0 then (gI S 1 p 2) + (gI S 1 p 4) else (gI S 1 p 2) - 3) else 0
def xmn (S : xS) (p : Nat) : Int32 := if (gI S 1 p 1) = 0 then (gI S 1 p 3) + (gI S 1 p 4) else (gI S 1 p 3) + 3
/-- a door's new span -/
def xsf (S : xS) (p : Nat) (a b : Int32) : xS := (sI (sI (sI (sI S 1 p 2 a) 1 p 3 b) 1 p 4 0) 1 p 1 (if (gI S 1 p 0) = 0 then 1 else 0))
