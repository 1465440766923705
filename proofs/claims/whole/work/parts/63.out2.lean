/-! out, the call -/
section VO2
variable {S : xS} {n T C : Nat} {nP : Nat → Nat}
theorem y_sw1 (X : xS) (t P k i j : Nat) (v : Int32) (h1 : k < 50) (h2 : k ≠ 9) : xro1 (sI X k i j v) t P = sI (xro1 X t P) k i j v := by
  have e : vCls X (sI X k i j v) := fun a b c hk => by rw [gI_sI, if_neg (by omega)]
  refine xS_ext rfl fun a b c => ?_
  simp only [xro1, gI_sI, xrcn_cong e]
  by_cases c1 : a = 80
  · subst c1; simp [show ¬ 80 = k by omega]
  · by_cases c2 : a = 79
    · subst c2; simp [show ¬ 79 = k by omega]
    · by_cases c3 : a = 62
      · subst c3; simp [show ¬ 62 = k by omega]
      · by_cases c4 : a = 58
        · subst c4; simp [show ¬ 58 = k by omega, show ¬ 60 = k by omega]
        · simp [c1, c2, c3, c4]
theorem y_sw2 (X : xS) (A t P : Nat) : xlo (xrlv X A t) P t = xrlv (xlo X P t) A t := by
  refine xS_ext rfl fun a b c => ?_
  simp only [xlo, xrlv, gI_sI]
  by_cases c1 : a = 82
  · subst c1; simp
  · by_cases c2 : a = 70
    · subst c2; simp
    · simp [c1, c2]
theorem y_sw3 (X : xS) (A t P : Nat) : xro1 (xrlv X A t) t P = xrlv (xro1 X t P) A t := by
  have e : xrcn (xrlv X A t) t = xrcn X t := by unfold xrcn xrby; rfl
  refine xS_ext rfl fun a b c => ?_
  simp only [xro1, e]
  simp only [xrlv, gI_sI]
  by_cases c1 : a = 82
  · subst c1; simp
  · by_cases c2 : a = 70
    · subst c2; simp
    · simp [c1, c2]
theorem xlp_none {X : xS} {t : Nat} {x : Int32} (h : (gR X 7 t 12) = none) : xlp X t x = X := by unfold xlp; rw [h]
theorem xlp_some {X : xS} {t A : Nat} {x : Int32} (h : (gR X 7 t 12) = some (4, A)) (hx : (gI X 8 0 5) = x) : xlp X t x = ylp X A t := by unfold xlp; rw [h]; subst hx; rfl
theorem xrol_0 {X : xS} {t P : Nat} : ∀ m, m ≤ 3 → (∀ i, i < 3 → ¬ (gI X 70 0 (3 * P + i)) = nI t) → xrol X t P m = X
  | 0, _, _ => rfl
  | m + 1, hm, h => by
    show (if (gI (xrol X t P m) 70 0 (3 * P + m)) = nI t then xrlv (xrol X t P m) (3 * P + m) t else xrol X t P m) = X
    rw [xrol_0 m (by omega) h, if_neg (h m (by omega))]
theorem xrol_1 {X : xS} {t P j : Nat} (ht : t < 1000) (hj : j < 3) (h0 : (gI X 70 0 (3 * P + j)) = nI t) (h : ∀ i, i < 3 → i ≠ j → ¬ (gI X 70 0 (3 * P + i)) = nI t) : ∀ m, m ≤ 3 → xrol X t P m = if j < m then xrlv X (3 * P + j) t else X
  | 0, _ => by rw [if_neg (by omega)]; rfl
  | m + 1, hm => by
    show (if (gI (xrol X t P m) 70 0 (3 * P + m)) = nI t then xrlv (xrol X t P m) (3 * P + m) t else xrol X t P m) = _
    rw [xrol_1 ht hj h0 h m (by omega)]
    by_cases e : j < m
    · rw [if_pos e, if_pos (by omega : j < m + 1)]
      have : ¬ (gI (xrlv X (3 * P + j) t) 70 0 (3 * P + m)) = nI t := by
        simp only [xrlv, gI_sI]
        repeat rw [if_neg (by omega)]
        exact h m (by omega) (by omega)
      rw [if_neg this]
    · rw [if_neg e]
      by_cases e2 : m = j
      · subst e2
        rw [if_pos h0, if_pos (by omega)]
      · rw [if_neg (h m (by omega) e2), if_neg (by omega)]
end VO2
