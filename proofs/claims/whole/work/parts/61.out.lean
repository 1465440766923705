/-! out: a ticket without a post goes out -/
theorem i_seen2 (a b : Int32) : a - b - 1 = a - (b + 1) := by grind
theorem xrcn_cong {S S' : xS} (e : vCls S S') (t : Nat) : xrcn S' t = xrcn S t := by
  unfold xrcn xrby
  simp only [e 9 _ _ (by omega), e 74 _ _ (by omega), e 77 _ _ (by omega), e 78 _ _ (by omega)]
section VO
variable {S S0 : xS} {n T C : Nat} {nP : Nat → Nat}
theorem v_coins (h : vI S n T C nP) {t : Nat} (k1 : vT1 S t) (k3 : vT3 S C t) (hi : ¬ (gI S 79 0 t) = 0) : xoc S t = xrcn S t := by
  unfold xoc xrcn xow
  rw [v_told h k1 k3, if_neg hi, show -(-xrby S t) = xrby S t by grind, show xrby S t + 15 - 1 = xrby S t + 14 by grind, Int32.mul_comm]
theorem vI_out (h : vI S n T C nP) {t P : Nat} (ht : t < T) (k1 : vT1 S t) (k2 : vT2 S t P) (hi : (gI S 79 0 t) = 1) {w : Int32} (hw : w = xrcn S t) (h6 : ¬ (gI S 62 0 P) = 3) (hpo : ∀ A, A < 12 → ¬ (gI S 70 0 A) = nI t)
    (hR : S0.2 = S.2) (g0 : ∀ k i j, k ≠ 0 → gI S0 k i j = gI (xgo (sI S 8 0 9 ((gI S 8 0 9) + w)) t w) k i j) (g1 : ∀ c j, j ≠ 5 → j ≠ 6 → gI S0 0 c j = gI S 0 c j)
    (hc : ∀ c, c < C → 0 < (gI S 91 0 c) → (gI S0 0 c 5) = (gI S 0 c 5) + (if (gI S 74 0 t) = 3 ∧ (gI S 75 0 t) = nI c ∧ (gI S 76 0 t) = 0 then -1 else 0) ∧ (gI S0 0 c 6) = (gI S 0 c 6) + (if (gI S 74 0 t) = 3 ∧ (gI S 75 0 t) = nI c ∧ (gI S 76 0 t) = 1 then -1 else 0)) : vI (xro1 (xlo S0 P t) t P) n T C nP := by
  have g2 : ∀ k i j, k ≠ 0 → k ≠ 7 → k ≠ 8 → gI S0 k i j = gI S k i j := by
    intro k i j q1 q2 q3
    rw [g0 k i j q1]
    simp only [xgo, gI_sI]
    repeat rw [if_neg (by omega)]
  have g8 : ∀ j, j ≠ 9 → gI S0 8 0 j = gI S 8 0 j := by
    intro j q1
    rw [g0 8 0 j (by omega)]
    simp only [xgo, gI_sI]
    repeat rw [if_neg (by omega)]
  have g89 : gI S0 8 0 9 = gI S 8 0 9 + w := by rw [g0 8 0 9 (by omega)]; simp [xgo, gI_sI]
  have g7 : ∀ u j, ¬ (u = t ∧ (j = 6 ∨ j = 10)) → gI S0 7 u j = gI S 7 u j := by
    intro u j q1
    rw [g0 7 u j (by omega)]
    simp only [xgo, gI_sI]
    repeat rw [if_neg (by omega)]
  have gR0 : (xro1 (xlo S0 P t) t P).2 = S.2 := hR
  have hcn : xrcn (xlo S0 P t) t = w := by
    rw [hw]
    refine xrcn_cong (fun k i j hk => ?_) t
    simp only [xlo, gI_sI]
    repeat rw [if_neg (by omega)]
    exact g2 k i j (by omega) (by omega) (by omega)
  have b80 : gI (xro1 (xlo S0 P t) t P) 80 0 t = gI S 80 0 t + w := by
    simp [xro1, hcn, gI_sI]
    simp only [xlo, gI_sI]
    repeat rw [if_neg (by omega)]
    rw [g2 80 _ _ (by omega) (by omega) (by omega)]
  have fr : ∀ k b, 50 < k → ¬ (b = t ∧ (k = 79 ∨ k = 80)) → ¬ (b = P ∧ (k = 58 ∨ k = 62)) → gI (xro1 (xlo S0 P t) t P) k 0 b = gI S k 0 b := by
    intro k b z1 z2 z3
    simp only [xro1, xlo, gI_sI]
    repeat rw [if_neg (by omega)]
    exact g2 k _ _ (by omega) (by omega) (by omega)
  have hni : ¬ (gI S 79 0 t) = 0 := by rw [hi]; decide
  refine vI_move (e := -1) h ht k2 ?_ gR0 ?_ ?_ ?_ ?_ ?_ ?_ ?_ ?_ ?_ ?_ ?_ ?_ ?_ ?_ ?_ ?_ (fun A hA z => absurd z (hpo A hA))
  · rw [if_pos hni, show (gI (xro1 (xlo S0 P t) t P) 79 0 t) = 0 by simp [xro1, gI_sI]]; decide
  · obtain ⟨s1, s2, s3, s4, s5, s6, s7, s8, s9, s10, s11⟩ := h.s
    have e8 : ∀ j, j ≠ 9 → gI (xro1 (xlo S0 P t) t P) 8 0 j = gI S 8 0 j := fun j hj => g8 j hj
    have e9 : ∀ j, gI (xro1 (xlo S0 P t) t P) 9 0 j = gI S 9 0 j := fun j => g2 9 0 j (by omega) (by omega) (by omega)
    have e89 : gI (xro1 (xlo S0 P t) t P) 8 0 9 = gI S 8 0 9 + w := g89
    unfold vSc
    rw [e8 5 (by omega), e8 6 (by omega), e8 7 (by omega), e8 8 (by omega), e89, e9, e9, e9, e9]
    refine ⟨s1, s2, s3, s4, s5, s6, s7, s8, s9, s10, ?_⟩
    rw [s11]
    exact (xsm_upd ht (fun u hu hne => fr 80 u (by omega) (by omega) (by omega)) b80).symm
  · intro k i j z1 z2
    simp only [xro1, xlo, gI_sI]
    repeat rw [if_neg (by omega)]
    exact g2 k i j (by omega) (by omega) (by omega)
  · intro j; exact g2 5 0 j (by omega) (by omega) (by omega)
  · intro j; exact g2 9 0 j (by omega) (by omega) (by omega)
  · intro u j z; exact g7 u j (by omega)
  · obtain ⟨q1, q2, q3, q4, q5, q6, q7, q8, q9, q10, q11, q12, q13, q14, q15⟩ := k1
    have e7 : ∀ j, gI (xro1 (xlo S0 P t) t P) 7 t j = gI S0 7 t j := fun j => rfl
    have a6 : gI S0 7 t 6 = 0 := by rw [g0 7 t 6 (by omega)]; simp [xgo, gI_sI]
    have a10 : gI S0 7 t 10 = gI S 7 t 10 + w := by rw [g0 7 t 10 (by omega)]; simp [xgo, gI_sI]
    have b79 : gI (xro1 (xlo S0 P t) t P) 79 0 t = 0 := by simp [xro1, xlo, gI_sI]
    unfold vT1
    rw [gR_2 gR0, e7, e7, e7, e7, e7, e7, e7, e7, e7, g7 t 0 (by omega), g7 t 2 (by omega), g7 t 3 (by omega), g7 t 5 (by omega), g7 t 7 (by omega), g7 t 8 (by omega), g7 t 9 (by omega), a6, a10, b79, b80, fr 74 t (by omega) (by omega) (by omega), fr 75 t (by omega) (by omega) (by omega), fr 76 t (by omega) (by omega) (by omega), fr 77 t (by omega) (by omega) (by omega), fr 78 t (by omega) (by omega) (by omega), fr 81 t (by omega) (by omega) (by omega)]
    exact ⟨q1, q2, q3, q4, q5, xB_0, rfl, q8, q9, by rw [q10], q11, q12, q13, q14, fun z => absurd z (by decide)⟩
  · intro k b z1 z2 z3; exact fr k b z1 (by omega) (by omega)
  · intro p j z
    simp only [xro1, xlo, gI_sI]
    repeat rw [if_neg (by omega)]
    exact g2 3 _ _ (by omega) (by omega) (by omega)
  · simp [xro1, xlo, gI_sI]
    rw [g2 3 _ _ (by omega) (by omega) (by omega), Int32.sub_eq_add_neg]
  · simp [xro1, xlo, gI_sI]
    rw [g2 3 _ _ (by omega) (by omega) (by omega), g7 t 2 (by omega), k1.2.2.1, Int32.sub_eq_add_neg]
    congr 1
    split <;> rfl
  · intro p j z
    simp only [xro1, xlo, gI_sI]
    repeat rw [if_neg (by omega)]
    exact g2 1 _ _ (by omega) (by omega) (by omega)
  · rintro ⟨d1, d2, d3, d4, d5, d6, d7, d8, d9, ⟨a, d10, d10a, d10b⟩⟩
    have er : ∀ k, 50 < k → k < 63 → k ≠ 58 → k ≠ 62 → gI (xro1 (xlo S0 P t) t P) k 0 P = gI S k 0 P := fun k z1 z2 z3 z4 => fr k P (by omega) (by omega) (by omega)
    have e1 : ∀ j, j ≠ 4 → j ≠ 6 → gI (xro1 (xlo S0 P t) t P) 1 P j = gI S 1 P j := by
      intro j z1 z2
      simp only [xro1, xlo, gI_sI]
      repeat rw [if_neg (by omega)]
      exact g2 1 _ _ (by omega) (by omega) (by omega)
    have a4 : gI (xro1 (xlo S0 P t) t P) 1 P 4 = gI S 1 P 4 - 1 := by
      simp [xro1, xlo, gI_sI]; rw [g2 1 _ _ (by omega) (by omega) (by omega)]
    have a6 : gI (xro1 (xlo S0 P t) t P) 1 P 6 = gI S 1 P 6 + 1 := by
      simp [xro1, xlo, gI_sI]; exact g2 1 _ _ (by omega) (by omega) (by omega)
    have b58 : gI (xro1 (xlo S0 P t) t P) 58 0 P = gI S 58 0 P + (if (gI S 60 0 P) = 0 then 0 else 1) := by
      simp [xro1, xlo, gI_sI]; rw [g2 58 _ _ (by omega) (by omega) (by omega), g2 60 _ _ (by omega) (by omega) (by omega)]
    have b62 : gI (xro1 (xlo S0 P t) t P) 62 0 P = gI S 62 0 P + 1 := by
      simp [xro1, xlo, gI_sI]; exact g2 62 _ _ (by omega) (by omega) (by omega)
    unfold vD
    rw [e1 0 (by omega) (by omega), e1 1 (by omega) (by omega), e1 2 (by omega) (by omega), e1 3 (by omega) (by omega), e1 5 (by omega) (by omega), er 55 (by omega) (by omega) (by omega) (by omega), er 56 (by omega) (by omega) (by omega) (by omega), er 57 (by omega) (by omega) (by omega) (by omega), er 59 (by omega) (by omega) (by omega) (by omega), er 60 (by omega) (by omega) (by omega) (by omega), er 61 (by omega) (by omega) (by omega) (by omega), a4, a6, b58, b62]
    refine ⟨d1, d2, d3, d4, d5, d6, fun z => ?_, d8, d9, ⟨a + 1, ?_, ?_, ?_⟩⟩
    · have ez : ¬ (gI S 60 0 P) = 0 := fun y => absurd (z.symm.trans (d8 y)) (by decide)
      rw [if_neg ez, d7 z, i_seen2]
    · have : a ≠ 3 := fun y => h6 (by rw [d10b, y]; decide)
      omega
    · rw [d10a, nI_s]
    · rw [d10b, nI_s]
  · intro i j; exact g2 4 i j (by omega) (by omega) (by omega)
  · intro i j; exact g2 6 i j (by omega) (by omega) (by omega)
  · intro c j z1 z2; exact g1 c j z1 z2
  · exact hc
end VO
