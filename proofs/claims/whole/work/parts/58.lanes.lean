/-! the lanes that are free -/
theorem y_bits : ∀ L : Fin 9, ∀ M : Fin 256, M.val < 2 ^ L.val → nI L.val - xbc (nI M.val) = xsm (fun i => if M.val.testBit i then 0 else 1) L.val := by decide +kernel
theorem y_bit : ∀ M : Fin 256, ∀ i : Fin 8, ((nI M.val >>> (nI i.val &&& 31)) &&& 1 = 1 ↔ M.val.testBit i.val = true) := by decide +kernel
theorem y_or (a b : Nat) : nI a ||| nI b = nI (a ||| b) := by
  apply Int32.toBitVec_inj.mp
  rw [Int32.toBitVec_or]
  show BitVec.ofNat 32 a ||| BitVec.ofNat 32 b = BitVec.ofNat 32 (a ||| b)
  rw [BitVec.ofNat_or]
section VL
variable {S : xS} {n T C : Nat} {nP : Nat → Nat}
/-- club d holds lane i of pool P now -/
def yH (S : xS) (P i d : Nat) : Prop := (gI S 87 0 d) = nI P ∧ ((gI S 89 0 d) ≤ (gI S 9 0 0) ∧ (gI S 9 0 0) < (gI S 90 0 d)) ∧ ∃ m, (gI S 88 0 d) = nI m ∧ m < 256 ∧ m.testBit i = true
theorem v_tkn (h : vI S n T C nP) {P L : Nat} (hP : P < 4) (hL : (gI S 53 0 P) = nI L) (hL8 : L ≤ 8) : ∀ c, c ≤ 20 → ∃ M, M < 2 ^ L ∧ xtkn S C (xPc S) P (gI S 8 0 5) c = nI M ∧ ∀ i, M.testBit i = true ↔ ∃ d, d < c ∧ d < C ∧ yH S P i d
  | 0, _ => by
    refine ⟨0, (y_pow hL8).1, rfl, fun i => ⟨fun z => ?_, fun z => ?_⟩⟩
    · rw [Nat.zero_testBit] at z; cases z
    · obtain ⟨d, z, -⟩ := z; omega
  | c + 1, hc => by
    obtain ⟨M, h1, h2, h3⟩ := v_tkn h hP hL hL8 c (by omega)
    have hC2 := h.C2
    have hu : xtkn S C (xPc S) P (gI S 8 0 5) (c + 1) = if c < C ∧ xPc S c = P ∧ (gI S 0 c 2) ≤ (gI S 8 0 5) ∧ (gI S 8 0 5) < (gI S 0 c 4) then xtkn S C (xPc S) P (gI S 8 0 5) c ||| (gI S 0 c 1) else xtkn S C (xPc S) P (gI S 8 0 5) c := rfl
    by_cases e : c < C ∧ xPc S c = P ∧ (gI S 0 c 2) ≤ (gI S 8 0 5) ∧ (gI S 8 0 5) < (gI S 0 c 4)
    · obtain ⟨e1, e2, e3⟩ := e
      obtain ⟨⟨P2, w⟩, -⟩ := (h.c c (by omega)).1 e1
      have w' := w
      obtain ⟨g1, g2, g3, g4, g5, g6, ⟨L2, m, g7, g7a, g7b, g7c⟩, -⟩ := w
      rw [xPc_of g5] at e2
      subst e2
      have eL : L2 = L := (nI_eqI (by omega) (by omega)).mp (g7.symm.trans hL)
      subst eL
      have p2 := (y_pow hL8).2
      refine ⟨M ||| m, Nat.or_lt_two_pow h1 g7c, ?_, fun i => ?_⟩
      · rw [hu, if_pos ⟨e1, xPc_of g5, e3⟩, h2, g6, g7b, y_or]
      · rw [Nat.testBit_or, Bool.or_eq_true, h3]
        constructor
        · rintro (⟨d, z1, z2⟩ | z)
          · exact ⟨d, by omega, z2⟩
          · exact ⟨c, by omega, e1, g4, (v_ct h w').mp e3, m, g7b, by omega, z⟩
        · rintro ⟨d, z1, z2, z3⟩
          by_cases z4 : d = c
          · subst z4
            obtain ⟨-, -, m', z5, z6, z7⟩ := z3
            have : m' = m := (nI_eqI (by omega) (by omega)).mp (z5.symm.trans g7b)
            subst this
            exact Or.inr z7
          · exact Or.inl ⟨d, by omega, z2, z3⟩
    · refine ⟨M, h1, by rw [hu, if_neg e, h2], fun i => ?_⟩
      rw [h3]
      constructor
      · rintro ⟨d, z1, z2⟩
        exact ⟨d, by omega, z2⟩
      · rintro ⟨d, z1, z2, z3⟩
        by_cases z4 : d = c
        · subst z4
          exfalso
          obtain ⟨⟨P2, w⟩, -⟩ := (h.c d (by omega)).1 z2
          refine e ⟨z2, ?_, (v_ct h w).mpr z3.2.1⟩
          rw [xPc_of w.2.2.2.2.1]
          have := w.2.1
          exact (nI_eqI (by omega) (by omega)).mp (w.2.2.2.1.symm.trans z3.1)
        · exact ⟨d, by omega, z2, z3⟩
theorem a_count (h : vI S n T C nP) (p x : Int32) : xAPI mX8_count 3 0 0 mX9_count 3 [xI p, xI x] S := by
  refine a_count' h p x fun P hP h3 => ?_
  have hC2 := h.C2
  obtain ⟨h2, -, h4, h5, h6, h7⟩ := h.pool hP h3.1
  obtain ⟨L, hL1, hL8, l1, l2⟩ := h3.2.2.2.2.2.2.1
  have hq := v_cok h
  have hpl : xpl S (nI P) = some (3, P) := by
    unfold xpl
    rw [if_pos ⟨nI_le (a := 0) (by omega) (by omega), nI_le (b := 3) (by omega) (by omega)⟩, vnat hP (by decide)]
    exact h3.2.1
  have a1 := c_count_5 h.X (nI P) hpl h3.2.2.1 hq
  have a2 := c_r_count_5 h.M hP h2 h.hC hC2 l1 (by omega)
  obtain ⟨M, m1, m2, m3⟩ := v_tkn h hP l1 hL8 20 (by omega)
  have p2 := (y_pow hL8).2
  rw [m2, l2, y_bits ⟨L, by omega⟩ ⟨M, by omega⟩ m1] at a1
  refine ⟨_, a1, ?_⟩
  rw [xsm_cong (g := fun i => if M.testBit i then 0 else 1) (fun i hi => ?_)] at a2
  · exact a2
  · unfold xfr
    have k : ∀ d, d < C → (xhd S (nI P) (nI i) d = true ↔ yH S P i d) := by
      intro d hd
      obtain ⟨⟨P2, w⟩, -⟩ := (h.c d (by omega)).1 hd
      obtain ⟨g1, g2, g3, g4, g5, g6, ⟨L2, m, g7, g7a, g7b, g7c⟩, -⟩ := w
      have p3 := (y_pow g7a).2
      unfold xhd yH
      rw [decide_eq_true_iff, g7b, y_bit ⟨m, by omega⟩ ⟨i, by omega⟩]
      constructor
      · rintro ⟨z1, z2, z3⟩
        exact ⟨z1, z2, m, rfl, by omega, z3⟩
      · rintro ⟨z1, z2, m', z3, z4, z5⟩
        have : m = m' := (nI_eqI (by omega) (by omega)).mp z3
        subst this
        exact ⟨z1, z2, z5⟩
    cases e : xfi (xhd S (nI P) (nI i)) C with
    | none =>
      have : ¬ M.testBit i = true := by
        intro z
        obtain ⟨d, z1, z2, z3⟩ := (m3 i).mp z
        exact yfi_nof C e d z2 ((k d z2).mpr z3)
      simp only [if_neg this]
    | some d =>
      obtain ⟨z1, z2⟩ := yfi_of C e
      have : M.testBit i = true := (m3 i).mpr ⟨d, by omega, z1, (k d z1).mp z2⟩
      simp only [if_pos this]
end VL
