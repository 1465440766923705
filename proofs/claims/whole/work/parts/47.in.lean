/-! in -/
/-- only the class's numbers change -/
def vCls (S S' : xS) : Prop := ∀ k i j, (k = 9 ∨ 50 < k) → gI S' k i j = gI S k i j
theorem xrrl_cong {S S' : xS} (e : vCls S S') (P : Nat) : ∀ k, xrrl S' P k = xrrl S P k
  | 0 => by unfold xrrl; simp only [e 9 _ _ (by omega), e 69 _ _ (by omega)]
  | k + 1 => by
    show xr3 S' P k (xr2 S' P k (xr1 S' P k (xrrl S' P k))) = xr3 S P k (xr2 S P k (xr1 S P k (xrrl S P k)))
    rw [xrrl_cong e P k]
    unfold xr3 xr2 xr1 xrfl
    simp only [e 9 _ _ (by omega), e 54 _ _ (by omega), e 64 _ _ (by omega), e 65 _ _ (by omega), e 66 _ _ (by omega), e 67 _ _ (by omega), e 68 _ _ (by omega), e 70 _ _ (by omega), e 71 _ _ (by omega)]
theorem xrw_cong {S S' : xS} (e : vCls S S') (t P : Nat) : xrw S' t P = xrw S t P ∧ xr6 S' P = xr6 S P := by
  unfold xrw xrmn xr6
  rw [xrrl_cong e]
  simp only [e 52 _ _ (by omega), e 55 _ _ (by omega), e 56 _ _ (by omega), e 57 _ _ (by omega), e 58 _ _ (by omega), e 59 _ _ (by omega), e 60 _ _ (by omega), e 61 _ _ (by omega), e 74 _ _ (by omega)]
  exact ⟨trivial, trivial⟩
theorem xrmu_cong {S S' : xS} (e : vCls S S') (t P : Nat) : xrmu S' t P = xrmu S t P := by
  unfold xrmu
  rw [(xrw_cong e t P).1, (xrw_cong e t P).2]
  simp only [e 74 _ _ (by omega), e 79 _ _ (by omega), e 81 _ _ (by omega)]
theorem xrmc_cong {S S' : xS} (e : vCls S S') (t P c T : Nat) : xrmc S' t P c T = xrmc S t P c T := by
  unfold xrmc xsch
  rw [(xrw_cong e t P).1, (xrw_cong e t P).2]
  simp only [e 9 _ _ (by omega), e 74 _ _ (by omega), e 75 _ _ (by omega), e 76 _ _ (by omega), e 79 _ _ (by omega), e 89 _ _ (by omega), e 90 _ _ (by omega), e 91 _ _ (by omega)]
theorem xpc_none {S : xS} {t : Nat} {x : Int32} (h : (gR S 7 t 4) = none) : xpc S t x = S := by unfold xpc; rw [h]
theorem xpc_some {S : xS} {t : Nat} {x : Int32} {q : Nat × Nat} (h : (gR S 7 t 4) = some q) : xpc S t x = xpass S q.2 (gI S 7 t 5) x := by unfold xpc; rw [h]
theorem xcw_none {S : xS} {t : Nat} {x : Int32} (h : (gR S 7 t 4) = none) : xcw S t x = (gI S 7 t 3) := by unfold xcw; rw [h]
theorem xcw_some {S : xS} {t : Nat} {x : Int32} {q : Nat × Nat} (h : (gR S 7 t 4) = some q) : xcw S t x = (gI S 0 q.2 4) - x := by unfold xcw; rw [h]
theorem i_seen (a b : Int32) : a - b + 1 = a + 1 - b := by grind
theorem nI_s (a : Nat) : nI a + 1 = nI (a + 1) := nI_1 a
section VN
variable {S S0 : xS} {n T C : Nat} {nP : Nat → Nat}
theorem vI_in (h : vI S n T C nP) {t P : Nat} (ht : t < T) (k1 : vT1 S t) (k2 : vT2 S t P) (hi : (gI S 79 0 t) = 0) {w w' : Int32} (h4 : (gI S 74 0 t) = 4 → (gI S 81 0 t) = 0) (h6 : ¬ (gI S 61 0 P) = 3) (hw : ((gI S 74 0 t) = 1 ∨ (gI S 74 0 t) = 2 ∨ (gI S 74 0 t) = 3) → w = w')
    (hR : S0.2 = S.2) (g0 : ∀ k i j, k ≠ 0 → gI S0 k i j = gI (xci S t (gI S 8 0 5) w) k i j) (g1 : ∀ c j, j ≠ 5 → j ≠ 6 → gI S0 0 c j = gI S 0 c j)
    (hc : ∀ c, c < C → 0 < (gI S 91 0 c) → (gI S0 0 c 5) = (gI S 0 c 5) + (if (gI S 74 0 t) = 3 ∧ (gI S 75 0 t) = nI c ∧ (gI S 76 0 t) = 0 then 1 else 0) ∧ (gI S0 0 c 6) = (gI S 0 c 6) + (if (gI S 74 0 t) = 3 ∧ (gI S 75 0 t) = nI c ∧ (gI S 76 0 t) = 1 then 1 else 0)) : vI (xrin (xli S0 P t) t P w') n T C nP := by
  have g2 : ∀ k i j, k ≠ 0 → k ≠ 7 → gI S0 k i j = gI S k i j := by
    intro k i j q1 q2
    rw [g0 k i j q1]
    simp only [xci, gI_sI]
    repeat rw [if_neg (by omega)]
  have g7 : ∀ u j, ¬ (u = t ∧ 6 ≤ j ∧ j ≤ 9) → gI S0 7 u j = gI S 7 u j := by
    intro u j q1
    rw [g0 7 u j (by omega)]
    simp only [xci, gI_sI]
    repeat rw [if_neg (by omega)]
  have gR0 : (xrin (xli S0 P t) t P w').2 = S.2 := hR
  refine vI_move (e := 1) h ht k2 ?_ gR0 ?_ ?_ ?_ ?_ ?_ ?_ ?_ ?_ ?_ ?_ ?_ ?_ ?_ ?_ ?_ ?_ ?_
  · rw [hi, show (gI (xrin (xli S0 P t) t P w') 79 0 t) = 1 by simp [xrin, gI_sI]]; decide
  · obtain ⟨s1, s2, s3, s4, s5, s6, s7, s8, s9, s10, s11⟩ := h.s
    have e8 : ∀ j, gI (xrin (xli S0 P t) t P w') 8 0 j = gI S 8 0 j := fun j => g2 8 0 j (by omega) (by omega)
    have e9 : ∀ j, gI (xrin (xli S0 P t) t P w') 9 0 j = gI S 9 0 j := fun j => g2 9 0 j (by omega) (by omega)
    have e80 : ∀ j, gI (xrin (xli S0 P t) t P w') 80 0 j = gI S 80 0 j := fun j => g2 80 0 j (by omega) (by omega)
    unfold vSc
    simp only [e8, e9, e80]
    exact ⟨s1, s2, s3, s4, s5, s6, s7, s8, s9, s10, s11⟩
  · intro k i j z1 z2
    simp only [xrin, xli, gI_sI]
    repeat rw [if_neg (by omega)]
    exact g2 k i j (by omega) (by omega)
  · intro j; exact g2 5 0 j (by omega) (by omega)
  · intro j; exact g2 9 0 j (by omega) (by omega)
  · intro u j z; exact g7 u j (by omega)
  · obtain ⟨q1, q2, q3, q4, q5, q6, q7, q8, q9, q10, q11, q12, q13, q14, q15⟩ := k1
    have e7 : ∀ j, gI (xrin (xli S0 P t) t P w') 7 t j = gI S0 7 t j := fun j => rfl
    have er : ∀ k, 70 < k → k ≠ 77 → k ≠ 78 → k ≠ 79 → k ≠ 81 → gI (xrin (xli S0 P t) t P w') k 0 t = gI S k 0 t := by
      intro k z1 z2 z3 z4 z5
      simp only [xrin, xli, gI_sI]
      repeat rw [if_neg (by omega)]
      exact g2 k _ _ (by omega) (by omega)
    have a6 : gI S0 7 t 6 = 1 := by rw [g0 7 t 6 (by omega)]; simp [xci, gI_sI]
    have a7 : gI S0 7 t 7 = (gI S 8 0 5) := by rw [g0 7 t 7 (by omega)]; simp [xci, gI_sI]
    have a8 : gI S0 7 t 8 = w := by rw [g0 7 t 8 (by omega)]; simp [xci, gI_sI]
    have a9 : gI S0 7 t 9 = gI S 7 t 9 + 1 := by rw [g0 7 t 9 (by omega)]; simp [xci, gI_sI]
    have b77 : gI (xrin (xli S0 P t) t P w') 77 0 t = gI S0 9 0 0 := by simp [xrin, xli, gI_sI]
    have b78 : gI (xrin (xli S0 P t) t P w') 78 0 t = w' := by simp [xrin, xli, gI_sI]
    have b79 : gI (xrin (xli S0 P t) t P w') 79 0 t = 1 := by simp [xrin, xli, gI_sI]
    have b81 : gI (xrin (xli S0 P t) t P w') 81 0 t = gI S0 81 0 t + 1 := by simp [xrin, xli, gI_sI]
    unfold vT1
    rw [gR_2 gR0, e7, e7, e7, e7, e7, e7, e7, e7, e7, g7 t 0 (by omega), g7 t 2 (by omega), g7 t 3 (by omega), g7 t 5 (by omega), g7 t 10 (by omega), er 74 (by omega) (by omega) (by omega) (by omega) (by omega), er 75 (by omega) (by omega) (by omega) (by omega) (by omega), er 76 (by omega) (by omega) (by omega) (by omega) (by omega), er 80 (by omega) (by omega) (by omega) (by omega) (by omega), a6, a7, a8, a9, b77, b78, b79, b81, g2 9 _ _ (by omega) (by omega), g2 81 _ _ (by omega) (by omega)]
    refine ⟨q1, q2, q3, q4, q5, xB_1, rfl, h.now, by rw [q9], q10, q11, q12, q13, fun z => ?_, fun _ z => hw z⟩
    rw [h4 z]; right; decide
  · intro k b z1 z2 z3
    simp only [xrin, xli, gI_sI]
    repeat rw [if_neg (by omega)]
    exact g2 k _ _ (by omega) (by omega)
  · intro p j z
    simp only [xrin, xli, gI_sI]
    repeat rw [if_neg (by omega)]
    exact g2 3 _ _ (by omega) (by omega)
  · simp [xrin, xli, gI_sI]
    exact g2 3 _ _ (by omega) (by omega)
  · simp [xrin, xli, gI_sI]
    rw [g2 3 _ _ (by omega) (by omega), g7 t 2 (by omega), k1.2.2.1]
  · intro p j z
    simp only [xrin, xli, gI_sI]
    repeat rw [if_neg (by omega)]
    exact g2 1 _ _ (by omega) (by omega)
  · rintro ⟨d1, d2, d3, d4, d5, d6, d7, d8, ⟨a, d9, d9a, d9b⟩, d10⟩
    have er : ∀ k, 50 < k → k < 63 → k ≠ 57 → k ≠ 61 → gI (xrin (xli S0 P t) t P w') k 0 P = gI S k 0 P := by
      intro k z1 z2 z3 z4
      simp only [xrin, xli, gI_sI]
      repeat rw [if_neg (by omega)]
      exact g2 k _ _ (by omega) (by omega)
    have e1 : ∀ j, j ≠ 4 → j ≠ 5 → gI (xrin (xli S0 P t) t P w') 1 P j = gI S 1 P j := by
      intro j z1 z2
      simp only [xrin, xli, gI_sI]
      repeat rw [if_neg (by omega)]
      exact g2 1 _ _ (by omega) (by omega)
    have a4 : gI (xrin (xli S0 P t) t P w') 1 P 4 = gI S 1 P 4 + 1 := by
      simp [xrin, xli, gI_sI]; exact g2 1 _ _ (by omega) (by omega)
    have a5 : gI (xrin (xli S0 P t) t P w') 1 P 5 = gI S 1 P 5 + 1 := by
      simp [xrin, xli, gI_sI]; exact g2 1 _ _ (by omega) (by omega)
    have b57 : gI (xrin (xli S0 P t) t P w') 57 0 P = gI S 57 0 P + (if (gI S 60 0 P) = 0 then 0 else 1) := by
      simp [xrin, xli, gI_sI]; rw [g2 57 _ _ (by omega) (by omega), g2 60 _ _ (by omega) (by omega)]
    have b61 : gI (xrin (xli S0 P t) t P w') 61 0 P = gI S 61 0 P + 1 := by
      simp [xrin, xli, gI_sI]; exact g2 61 _ _ (by omega) (by omega)
    unfold vD
    rw [e1 0 (by omega) (by omega), e1 1 (by omega) (by omega), e1 2 (by omega) (by omega), e1 3 (by omega) (by omega), e1 6 (by omega) (by omega), er 55 (by omega) (by omega) (by omega) (by omega), er 56 (by omega) (by omega) (by omega) (by omega), er 58 (by omega) (by omega) (by omega) (by omega), er 59 (by omega) (by omega) (by omega) (by omega), er 60 (by omega) (by omega) (by omega) (by omega), er 62 (by omega) (by omega) (by omega) (by omega), a4, a5, b57, b61]
    refine ⟨d1, d2, d3, d4, d5, d6, fun z => ?_, d8, ⟨a + 1, ?_, ?_, ?_⟩, d10⟩
    · have ez : ¬ (gI S 60 0 P) = 0 := fun y => absurd (z.symm.trans (d8 y)) (by decide)
      rw [if_neg ez, d7 z, i_seen]
    · have : a ≠ 3 := fun y => h6 (by rw [d9b, y]; decide)
      omega
    · rw [d9a, nI_s]
    · rw [d9b, nI_s]
  · intro i j; exact g2 4 i j (by omega) (by omega)
  · intro i j; exact g2 6 i j (by omega) (by omega)
  · intro c j z1 z2; exact g1 c j z1 z2
  · exact hc
  · intro A _ z
    simp [xrin, xli, gI_sI]
end VN
