/-! out, put together -/
section VO4
variable {S : xS} {n T C : Nat} {nP : Nat → Nat}
/-- without the key: the class's and the reference's store, and the coupling -/
theorem v_out1 (h : vI S n T C nP) {t P : Nat} (ht : t < T) (k1 : vT1 S t) (k2 : vT2 S t P) (k3 : vT3 S C t) (hi : (gI S 79 0 t) = 1) (h6 : ¬ (gI S 62 0 P) = 3) : vI (xrol (xro1 (xto2 S t P) t P) t P 3) n T C nP := by
  have hT2 := h.T2
  have hni : ¬ (gI S 79 0 t) = 0 := by rw [hi]; decide
  have hw := v_coins h k1 k3 hni
  obtain ⟨Y, y1, y2, y3, y4, y5⟩ := v_pass h ht k1 k3 (xoc S t)
  have hP := k2.1
  have yR : ∀ a b c, gR Y a b c = gR S a b c := fun a b c => gR_2 y2 a b c
  have e8 : (gI Y 8 0 5) = (gI S 8 0 5) := by rw [y3 8 0 5 (by omega)]; simp [xgo, gI_sI]
  have y70 : ∀ A, (gI Y 70 0 A) = (gI S 70 0 A) := by
    intro A; rw [y3 70 0 A (by omega)]; simp [xgo, gI_sI]
  rcases k2.2.2.2.2.1 with e | ⟨j, j1, j2, j3⟩
  · have e1 : xto2 S t P = xlo Y P t := by
      unfold xto2 xto1
      rw [y1, xlp_none ((yR 7 t 12).trans e)]
    have hno : ∀ A, A < 12 → ¬ (gI S 70 0 A) = nI t := fun A hA z => by
      have := v_nost h ht hA z
      rw [e] at this; cases this
    rw [e1]
    have w := vI_out h ht k1 k2 hi hw h6 hno y2 y3 y4 y5
    rw [xrol_0 3 (by omega) (fun i hi => ?_)]
    · exact w
    · have : (gI (xro1 (xlo Y P t) t P) 70 0 (3 * P + i)) = (gI S 70 0 (3 * P + i)) := by
        simp only [xro1, xlo, gI_sI]
        repeat rw [if_neg (by omega)]
        exact y70 _
      rw [this]
      exact hno _ (by omega)
  · have e1 : xto2 S t P = xlo (ylp Y (3 * P + j) t) P t := by
      unfold xto2 xto1
      rw [y1, xlp_some ((yR 7 t 12).trans j2) e8]
    obtain ⟨p2, p3, p4, p5, p6, p7⟩ := h.pool k2.1 k2.2.1
    have ha := vI_lp h ht j1 hP k2.2.1 p6 j3 j2
    obtain ⟨a1, ⟨P2, a2⟩, a3, -⟩ := (ha.t t (by omega)).1 ht
    have hPP : P2 = P := (nI_eqI (by have := a2.1; omega) (by omega)).mp (a2.2.2.1.symm.trans k2.2.2.1)
    subst hPP
    have an : (gR (xrlv (ylp S (3 * P2 + j) t) (3 * P2 + j) t) 7 t 12) = none := by simp [xrlv, ylp, gR_sI, gR_sR]
    have hno : ∀ A, A < 12 → ¬ (gI (xrlv (ylp S (3 * P2 + j) t) (3 * P2 + j) t) 70 0 A) = nI t := fun A hA z => by
      have := v_nost ha ht hA z
      rw [an] at this; cases this
    have w := vI_out (S0 := xrlv (ylp Y (3 * P2 + j) t) (3 * P2 + j) t) ha ht a1 a2 hi (w := xoc S t) (hw.trans rfl) h6 hno (by
      show (ylp Y (3 * P2 + j) t).2 = (ylp S (3 * P2 + j) t).2
      simp only [ylp, sI, sR, y2]) (by
      intro k i j' hk
      simp only [xrlv, ylp, gI_sI, gI_sR, xgo, y3 k i j' hk, e8, y3 9 0 0 (show (9 : Nat) ≠ 0 by omega)]
      by_cases c1 : k = 82
      · subst c1; simp
      · by_cases c2 : k = 70
        · subst c2; simp
        · by_cases c3 : k = 7
          · subst c3
            by_cases d1 : j' = 13
            · subst d1; simp
            · simp [d1]
          · simp [c1, c2, c3]) (by
      intro c j' h1 h2
      exact y4 c j' h1 h2) (by
      intro c h1 h2
      exact y5 c h1 h2)
    rw [e1, xrol_1 (j := j) (by omega) j1 ?_ ?_ 3 (by omega), if_pos j1, ← y_sw3, ← y_sw2]
    · exact w
    · simp only [xro1, xlo, ylp, gI_sI, gI_sR]
      repeat rw [if_neg (by omega)]
      rw [y70]; exact j3
    · intro i i1 i2
      simp only [xro1, xlo, ylp, gI_sI, gI_sR]
      repeat rw [if_neg (by omega)]
      rw [y70]
      intro z
      have := v_nost h ht (by omega) z
      rw [j2] at this
      simp only [Option.some.injEq, Prod.mk.injEq] at this
      omega
end VO4
