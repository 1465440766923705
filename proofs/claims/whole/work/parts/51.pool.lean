/-! a new pool -/
theorem xpP_I {S : xS} {p : Nat} (a b c : Nat) : ∀ n, gI (xpP S p n) a b c = if a = 4 ∧ 3 * p ≤ b ∧ b < 3 * p + n then 0 else gI S a b c
  | 0 => by rw [if_neg (by omega)]; rfl
  | n + 1 => by
    show gI (sR (sN (xpP S p n) 4 (3 * p + n) 0) 17 p n (some (4, 3 * p + n))) a b c = _
    rw [gI_sR, gI_sN, xpP_I a b c n]
    by_cases e : a = 4 ∧ b = 3 * p + n
    · rw [if_pos e, if_pos (by omega)]
    · rw [if_neg e]
      by_cases e2 : a = 4 ∧ 3 * p ≤ b ∧ b < 3 * p + n
      · rw [if_pos e2, if_pos (by omega)]
      · rw [if_neg e2, if_neg (by omega)]
theorem xpP_G {S : xS} {p : Nat} (a b c : Nat) : ∀ n, gR (xpP S p n) a b c = if a = 17 ∧ b = p ∧ c < n then some (4, 3 * p + c) else if a = 4 ∧ 3 * p ≤ b ∧ b < 3 * p + n then none else gR S a b c
  | 0 => by rw [if_neg (by omega), if_neg (by omega)]; rfl
  | n + 1 => by
    show gR (sR (sN (xpP S p n) 4 (3 * p + n) 0) 17 p n (some (4, 3 * p + n))) a b c = _
    rw [gR_sR, gR_sN, xpP_G a b c n]
    by_cases e : a = 17 ∧ c = n ∧ b = p
    · obtain ⟨rfl, rfl, rfl⟩ := e
      rw [if_pos ⟨rfl, rfl, rfl⟩, if_pos (by omega)]
    · rw [if_neg e]
      by_cases e1 : a = 4 ∧ b = 3 * p + n
      · rw [if_pos e1, if_neg (by omega), if_pos (by omega)]
      · rw [if_neg e1]
        by_cases e2 : a = 17 ∧ b = p ∧ c < n
        · rw [if_pos e2, if_pos (by omega)]
        · rw [if_neg e2, if_neg (c := a = 17 ∧ b = p ∧ c < n + 1) (by omega)]
          by_cases e3 : a = 4 ∧ 3 * p ≤ b ∧ b < 3 * p + n
          · rw [if_pos e3, if_pos (by omega)]
          · rw [if_neg e3, if_neg (by omega)]
theorem xpT_I {S : xS} {p : Nat} (a b c : Nat) : ∀ n, gI (xpT S p n) a b c = if a = 6 ∧ 3 * p ≤ b ∧ b < 3 * p + n then (if c = 1 then 100 else 0) else gI S a b c
  | 0 => by rw [if_neg (by omega)]; rfl
  | n + 1 => by
    show gI (sR (sI (sI (sN (xpT S p n) 6 (3 * p + n) 0) 6 (3 * p + n) 0 0) 6 (3 * p + n) 1 100) 18 p n (some (6, 3 * p + n))) a b c = _
    rw [gI_sR, gI_sI, gI_sI, gI_sN, xpT_I a b c n]
    by_cases e : a = 6 ∧ b = 3 * p + n
    · rw [if_pos (c := a = 6 ∧ b = 3 * p + n) e, if_pos (c := a = 6 ∧ 3 * p ≤ b ∧ b < 3 * p + (n + 1)) (by omega)]
      by_cases e1 : c = 1
      · rw [if_pos ⟨e.1, e1, e.2⟩, if_pos e1]
      · rw [if_neg (fun z => e1 z.2.1), if_neg e1, ite_self]
    · rw [if_neg (fun z => e ⟨z.1, z.2.2⟩), if_neg (fun z => e ⟨z.1, z.2.2⟩), if_neg e]
      by_cases e2 : a = 6 ∧ 3 * p ≤ b ∧ b < 3 * p + n
      · rw [if_pos e2, if_pos (c := a = 6 ∧ 3 * p ≤ b ∧ b < 3 * p + (n + 1)) (by omega)]
      · rw [if_neg e2, if_neg (by omega)]
theorem xpT_G {S : xS} {p : Nat} (a b c : Nat) : ∀ n, gR (xpT S p n) a b c = if a = 18 ∧ b = p ∧ c < n then some (6, 3 * p + c) else if a = 6 ∧ 3 * p ≤ b ∧ b < 3 * p + n then none else gR S a b c
  | 0 => by rw [if_neg (by omega), if_neg (by omega)]; rfl
  | n + 1 => by
    show gR (sR (sI (sI (sN (xpT S p n) 6 (3 * p + n) 0) 6 (3 * p + n) 0 0) 6 (3 * p + n) 1 100) 18 p n (some (6, 3 * p + n))) a b c = _
    rw [gR_sR, gR_sI, gR_sI, gR_sN, xpT_G a b c n]
    by_cases e : a = 18 ∧ c = n ∧ b = p
    · obtain ⟨rfl, rfl, rfl⟩ := e
      rw [if_pos ⟨rfl, rfl, rfl⟩, if_pos (by omega)]
    · rw [if_neg e]
      by_cases e1 : a = 6 ∧ b = 3 * p + n
      · rw [if_pos e1, if_neg (by omega), if_pos (by omega)]
      · rw [if_neg e1]
        by_cases e2 : a = 18 ∧ b = p ∧ c < n
        · rw [if_pos e2, if_pos (by omega)]
        · rw [if_neg e2, if_neg (c := a = 18 ∧ b = p ∧ c < n + 1) (by omega)]
          by_cases e3 : a = 6 ∧ 3 * p ≤ b ∧ b < 3 * p + n
          · rw [if_pos e3, if_pos (by omega)]
          · rw [if_neg e3, if_neg (by omega)]
/-- what a new pool's store reads -/
def xNP (S : xS) (P : Nat) (x2 x3 : Int32) (N : Nat) : xS := sR (xpi (sN S 3 P 0) P (nI P) x2 x3 N) 10 0 P (some (3, P))
section VPl
variable {S : xS} {P N : Nat} {x2 x3 : Int32}
theorem xNP_I (a b c : Nat) : gI (xNP S P x2 x3 N) a b c = if a = 6 ∧ 3 * P ≤ b ∧ b < 3 * P + 3 then (if c = 1 then 100 else 0) else if a = 4 ∧ 3 * P ≤ b ∧ b < 3 * P + N then 0 else if a = 3 ∧ b = P then (if c = 0 then nI P else if c = 1 then x2 else if c = 2 then x3 else 0) else if a = 1 ∧ b = P then (if c = 0 then 1 else 0) else gI (sN (sN S 17 P 0) 18 P 0) a b c := by
  unfold xNP xpi
  rw [gI_sR, xpT_I, xpP_I]
  split
  · rfl
  · split
    · rfl
    · simp only [xpi0, gI_sR, gI_sN, gI_sI]
      by_cases e3 : a = 3 ∧ b = P
      · obtain ⟨rfl, rfl⟩ := e3
        simp
        by_cases c0 : c = 2
        · subst c0; simp
        · by_cases c1 : c = 1
          · subst c1; simp
          · by_cases c2 : c = 0
            · subst c2; simp
            · simp [c0, c1, c2]
      · rw [if_neg e3]
        by_cases e1 : a = 1 ∧ b = P
        · obtain ⟨rfl, rfl⟩ := e1
          by_cases c1 : c = 0
          · subst c1; simp
          · simp [c1]
        · rw [if_neg e1]
          by_cases e17 : a = 17 ∧ b = P
          · simp [e17]
          · by_cases e18 : a = 18 ∧ b = P
            · simp [e18]
            · repeat rw [if_neg (by omega)]
theorem xNP_G (a b c : Nat) : gR (xNP S P x2 x3 N) a b c = if a = 10 ∧ c = P ∧ b = 0 then some (3, P) else if a = 18 ∧ b = P ∧ c < 3 then some (6, 3 * P + c) else if a = 6 ∧ 3 * P ≤ b ∧ b < 3 * P + 3 then none else if a = 17 ∧ b = P ∧ c < N then some (4, 3 * P + c) else if a = 4 ∧ 3 * P ≤ b ∧ b < 3 * P + N then none else gR (xpi0 (sN S 3 P 0) P (nI P) x2 x3 N) a b c := by
  unfold xNP xpi
  rw [gR_sR, xpT_G, xpP_G]
theorem xNP_G0 (a b c : Nat) (h : ¬ (b = P ∧ (a = 1 ∨ a = 3 ∨ a = 17 ∨ a = 18))) : gR (xpi0 (sN S 3 P 0) P (nI P) x2 x3 N) a b c = gR S a b c := by
  simp only [xpi0, gR_sR, gR_sN, gR_sI]
  repeat rw [if_neg (by omega)]
theorem xNP_L (a b : Nat) (h : ¬ (b = P ∧ (a = 1 ∨ a = 3 ∨ a = 17 ∨ a = 18))) (h4 : a ≠ 4) (h6 : a ≠ 6) : gL (xNP S P x2 x3 N) a b = gL S a b := by
  unfold xNP xpi
  rw [gL_sR, xpT_L h6, xpP_L h4]
  simp only [xpi0, gL_sR, gL_sN, gL_sI]
  repeat rw [if_neg (by omega)]
theorem xNP_P (hN : N ≤ 3) : xShP (xNP S P x2 x3 N) P N := by
  refine ⟨hN, ?_, ?_, ?_, ?_, ?_, fun k hk => ?_, fun k hk => ?_⟩
  · rw [xNP_G, if_neg (by omega), if_neg (by omega), if_neg (by omega), if_neg (by omega), if_neg (by omega)]; simp [xpi0, gR_sR, gR_sN, gR_sI]
  · rw [xNP_G, if_neg (by omega), if_neg (by omega), if_neg (by omega), if_neg (by omega), if_neg (by omega)]; simp [xpi0, gR_sR, gR_sN, gR_sI]
  · rw [xNP_G, if_neg (by omega), if_neg (by omega), if_neg (by omega), if_neg (by omega), if_neg (by omega)]; simp [xpi0, gR_sR, gR_sN, gR_sI]
  · unfold xNP xpi
    rw [gL_sR, xpT_L (by decide), xpP_L (by decide)]; simp [xpi0, gL_sR, gL_sN, gL_sI]
  · unfold xNP xpi
    rw [gL_sR, xpT_L (by decide), xpP_L (by decide)]; simp [xpi0, gL_sR, gL_sN, gL_sI]
  · rw [xNP_G, if_neg (by omega), if_neg (by omega), if_neg (by omega), if_pos (by omega)]
  · rw [xNP_G, if_neg (by omega), if_pos (by omega)]
end VPl
