/-! the end of a minute: what it reads -/
section VMi
variable {S : xS} {nP : Nat → Nat} {x : Int32} {p : Nat}
theorem xem1_ne {N : Nat} {q j k : Nat} (h : k ≠ q) : gI (xem1 S q N x) 3 k j = gI S 3 k j ∧ gI (xem1 S q N x) 1 k j = gI S 1 k j := by
  simp only [xem1, xsf, gI_sI]
  constructor <;> repeat rw [if_neg (by omega)]
theorem xem_ge : ∀ q, q ≤ p → ∀ j, gI (xem S nP x q) 3 p j = gI S 3 p j ∧ gI (xem S nP x q) 1 p j = gI S 1 p j
  | 0, _, _ => ⟨rfl, rfl⟩
  | q + 1, h, j => by
    show gI (if gR S 10 0 q = none then xem S nP x q else xem1 (xem S nP x q) q (nP q) x) 3 p j = _ ∧ gI (if gR S 10 0 q = none then xem S nP x q else xem1 (xem S nP x q) q (nP q) x) 1 p j = _
    split
    · exact xem_ge q (by omega) j
    · rw [(xem1_ne (by omega)).1, (xem1_ne (by omega)).2]
      exact xem_ge q (by omega) j
theorem xem_lt : ∀ q, p < q → ∀ j, gI (xem S nP x q) 3 p j = gI (xem S nP x (p + 1)) 3 p j ∧ gI (xem S nP x q) 1 p j = gI (xem S nP x (p + 1)) 1 p j
  | 0, h, _ => absurd h (by omega)
  | q + 1, h, j => by
    by_cases e : q = p
    · subst e; exact ⟨rfl, rfl⟩
    · have ih := xem_lt q (by omega) j
      show gI (if gR S 10 0 q = none then xem S nP x q else xem1 (xem S nP x q) q (nP q) x) 3 p j = _ ∧ gI (if gR S 10 0 q = none then xem S nP x q else xem1 (xem S nP x q) q (nP q) x) 1 p j = _
      split
      · exact ih
      · rw [(xem1_ne (by omega)).1, (xem1_ne (by omega)).2]
        exact ih
theorem xrs_same {S' : xS} {N : Nat} (e3 : ∀ j, gI S' 3 p j = gI S 3 p j) (e4 : ∀ i j, gI S' 4 i j = gI S 4 i j) (e6 : ∀ i j, gI S' 6 i j = gI S 6 i j) (hR : S'.2 = S.2) : xrs S' p N x = xrs S p N x := by
  have h1 : ∀ k, xrl S' p x k = xrl S p x k := by
    intro k
    induction k with
    | zero => unfold xrl; rw [e3]
    | succ k ih => unfold xrl xra xrb; simp only [ih, e6]
  unfold xrs xfil
  simp only [h1, e4, gR_2 hR]
theorem xln_same {S' : xS} (e1 : ∀ j, gI S' 1 p j = gI S 1 p j) : xln S' p = xln S p ∧ xmn S' p = xmn S p := by
  unfold xln xmn
  simp only [e1]
  exact ⟨trivial, trivial⟩
theorem xem_none (h : gR S 10 0 p = none) {q : Nat} (hq : p < q) (j : Nat) : gI (xem S nP x q) 3 p j = gI S 3 p j ∧ gI (xem S nP x q) 1 p j = gI S 1 p j := by
  rw [(xem_lt q hq j).1, (xem_lt q hq j).2]
  show gI (if gR S 10 0 p = none then xem S nP x p else xem1 (xem S nP x p) p (nP p) x) 3 p j = _ ∧ gI (if gR S 10 0 p = none then xem S nP x p else xem1 (xem S nP x p) p (nP p) x) 1 p j = _
  rw [if_pos h]
  exact xem_ge p (by omega) j
theorem xem_some (h : ¬ gR S 10 0 p = none) {q : Nat} (hq : p < q) (j : Nat) : gI (xem S nP x q) 3 p j = (if j = 9 then gI S 3 p 9 + (if xrs S p (nP p) x = 0 then 0 else 1) else gI S 3 p j) ∧ gI (xem S nP x q) 1 p j = (if j = 6 then 0 else if j = 5 then 0 else if j = 1 then (if gI S 1 p 0 = 0 then 1 else 0) else if j = 4 then 0 else if j = 3 then xmn S p else if j = 2 then xln S p else gI S 1 p j) := by
  rw [(xem_lt q hq j).1, (xem_lt q hq j).2]
  show gI (if gR S 10 0 p = none then xem S nP x p else xem1 (xem S nP x p) p (nP p) x) 3 p j = _ ∧ gI (if gR S 10 0 p = none then xem S nP x p else xem1 (xem S nP x p) p (nP p) x) 1 p j = _
  rw [if_neg h]
  have e3 := fun j => (xem_ge (S := S) (nP := nP) (x := x) p (Nat.le_refl p) j).1
  have e1 := fun j => (xem_ge (S := S) (nP := nP) (x := x) p (Nat.le_refl p) j).2
  have es := xrs_same (S := S) (S' := xem S nP x p) (N := nP p) (x := x) e3 (fun i j => xem_8 (by omega) (by omega) p) (fun i j => xem_8 (by omega) (by omega) p) (xem_2 p)
  have el := xln_same (S := S) (S' := xem S nP x p) e1
  generalize xem S nP x p = A at *
  constructor
  · simp only [xem1, xsf, gI_sI, es, e3]
    by_cases c : j = 9
    · subst c; simp
    · simp [c]
  · simp only [xem1, xsf, gI_sI, el.1, el.2, e1]
    by_cases c6 : j = 6
    · subst c6; simp
    · by_cases c5 : j = 5
      · subst c5; simp
      · by_cases c1 : j = 1
        · subst c1; simp
        · by_cases c4 : j = 4
          · subst c4; simp
          · by_cases c3 : j = 3
            · subst c3; simp
            · by_cases c2 : j = 2
              · subst c2; simp
              · simp [c6, c5, c1, c4, c3, c2]
theorem xrm1_ne {q k : Nat} {a : Nat} (h : k ≠ q) : gI (xrm1 S q) a 0 k = gI S a 0 k := by
  simp only [xrm1, xrbg, gI_sI]
  repeat rw [if_neg (by omega)]
theorem xrm_ge (a : Nat) : ∀ q, q ≤ p → gI (xrm S q) a 0 p = gI S a 0 p
  | 0, _ => rfl
  | q + 1, h => by
    show gI (if (gI S 51 0 q) = 0 then xrm S q else xrm1 (xrm S q) q) a 0 p = _
    split
    · exact xrm_ge a q (by omega)
    · rw [xrm1_ne (by omega)]
      exact xrm_ge a q (by omega)
theorem xrm_lt (a : Nat) : ∀ q, p < q → gI (xrm S q) a 0 p = gI (xrm S (p + 1)) a 0 p
  | 0, h => absurd h (by omega)
  | q + 1, h => by
    by_cases e : q = p
    · subst e; rfl
    · have ih := xrm_lt a q (by omega)
      show gI (if (gI S 51 0 q) = 0 then xrm S q else xrm1 (xrm S q) q) a 0 p = _
      split
      · exact ih
      · rw [xrm1_ne (by omega)]
        exact ih
theorem xrm_none (h : (gI S 51 0 p) = 0) {q : Nat} (hq : p < q) (a : Nat) : gI (xrm S q) a 0 p = gI S a 0 p := by
  rw [xrm_lt a q hq]
  show gI (if (gI S 51 0 p) = 0 then xrm S p else xrm1 (xrm S p) p) a 0 p = _
  rw [if_pos h]
  exact xrm_ge a p (by omega)
theorem xrrl_same {S' : xS} (h : ∀ a b, (a < 55 ∨ 63 < a ∨ a = 60) → gI S' a 0 b = gI S a 0 b) (h9 : gI S' 9 0 0 = gI S 9 0 0) : ∀ k, xrrl S' p k = xrrl S p k
  | 0 => by unfold xrrl; rw [h9, h 69 _ (by omega)]
  | k + 1 => by
    show xr3 S' p k (xr2 S' p k (xr1 S' p k (xrrl S' p k))) = xr3 S p k (xr2 S p k (xr1 S p k (xrrl S p k)))
    rw [xrrl_same h h9 k]
    unfold xr3 xr2 xr1 xrfl
    simp only [h9, h 54 _ (by omega), h 64 _ (by omega), h 65 _ (by omega), h 66 _ (by omega), h 67 _ (by omega), h 68 _ (by omega), h 70 _ (by omega), h 71 _ (by omega)]
theorem xrm_some (h : ¬ (gI S 51 0 p) = 0) {q : Nat} (hq : p < q) (a : Nat) : gI (xrm S q) a 0 p = if a = 62 then 0 else if a = 61 then 0 else if a = 59 then (if (gI S 60 0 p) = 0 then 1 else 0) else if a = 58 then 0 else if a = 57 then 0 else if a = 56 then xrmn S p else if a = 55 then xrln S p else if a = 63 then (gI S 63 0 p) + (if 0 < xrrl S p 3 then 1 else 0) else gI S a 0 p := by
  rw [xrm_lt a q hq]
  show gI (if (gI S 51 0 p) = 0 then xrm S p else xrm1 (xrm S p) p) a 0 p = _
  rw [if_neg h]
  have e := fun a => xrm_ge (S := S) (p := p) a p (Nat.le_refl p)
  have er : xrrl (xrm S p) p 3 = xrrl S p 3 := xrrl_same (fun a b hab => xrm_I (by omega) p) (xrm_I (by omega) p) 3
  have el : xrln (xrm S p) p = xrln S p ∧ xrmn (xrm S p) p = xrmn S p := by
    unfold xrln xrv xrmn
    simp only [e]
    exact ⟨trivial, trivial⟩
  generalize xrm S p = A at *
  simp only [xrm1, xrbg, gI_sI, er, el.1, el.2, e]
  by_cases c62 : a = 62
  · subst c62; simp
  · by_cases c61 : a = 61
    · subst c61; simp
    · by_cases c59 : a = 59
      · subst c59; simp
      · by_cases c58 : a = 58
        · subst c58; simp
        · by_cases c57 : a = 57
          · subst c57; simp
          · by_cases c56 : a = 56
            · subst c56; simp
            · by_cases c55 : a = 55
              · subst c55; simp
              · by_cases c63 : a = 63
                · subst c63; simp
                · simp [c62, c61, c59, c58, c57, c56, c55, c63]
end VMi
