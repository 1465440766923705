/-! a watcher takes or leaves a post -/
section VPs
variable {S S' : xS} {n T C : Nat} {nP : Nat → Nat}
theorem vI_ps (h : vI S n T C nP) {t P j : Nat} (ht : t < T) (hj : j < 3) (hP : P < 4) (hp1 : (gI S 51 0 P) = 1)
    (f : ∀ a b c, ¬ (a = 7 ∧ b = t ∧ c = 13) → ¬ (a = 82 ∧ c = t) → ¬ ((a = 70 ∨ a = 71) ∧ c = 3 * P + j) → ¬ (a = 4 ∧ b = 3 * P + j ∧ c = 1) → gI S' a b c = gI S a b c)
    (g : ∀ a b c, ¬ (a = 7 ∧ b = t ∧ c = 12) → ¬ (a = 4 ∧ b = 3 * P + j ∧ c = 0) → gR S' a b c = gR S a b c)
    (l : ∀ a b, gL S' a b = gL S a b)
    (hA : (j < nP P → (gI S' 4 (3 * P + j) 1) = (gI S' 71 0 (3 * P + j))) ∧ (((gI S' 70 0 (3 * P + j)) = -1 ∧ (j < nP P → (gR S' 4 (3 * P + j) 0) = none)) ∨ ∃ t, t < T ∧ j < nP P ∧ (gI S' 70 0 (3 * P + j)) = nI t ∧ (gR S' 4 (3 * P + j) 0) = some (7, t) ∧ (gI S' 79 0 t) = 1 ∧ (gI S' 73 0 t) = nI P ∧ (gI S' 74 0 t) = 5 ∧ (gR S' 7 t 12) = some (4, 3 * P + j)))
    (hne : ∀ A, A ≠ 3 * P + j → (gR S 7 t 12) ≠ some (4, A))
    (kt : ∀ P2, vT2 S t P2 → vT2 S' t P2) (hu : (gI S 70 0 (3 * P + j)) = -1 ∨ (gI S 70 0 (3 * P + j)) = nI t) : vI S' n T C nP := by
  have hT2 := h.T2
  have e3 : ∀ b c, gI S' 3 b c = gI S 3 b c := fun b c => f 3 b c (by omega) (by omega) (by omega) (by omega)
  have e1 : ∀ b c, gI S' 1 b c = gI S 1 b c := fun b c => f 1 b c (by omega) (by omega) (by omega) (by omega)
  have e6 : ∀ b c, gI S' 6 b c = gI S 6 b c := fun b c => f 6 b c (by omega) (by omega) (by omega) (by omega)
  have e0 : ∀ b c, gI S' 0 b c = gI S 0 b c := fun b c => f 0 b c (by omega) (by omega) (by omega) (by omega)
  have e8 : ∀ b c, gI S' 8 b c = gI S 8 b c := fun b c => f 8 b c (by omega) (by omega) (by omega) (by omega)
  have e9 : ∀ b c, gI S' 9 b c = gI S 9 b c := fun b c => f 9 b c (by omega) (by omega) (by omega) (by omega)
  have e5 : ∀ b c, gI S' 5 b c = gI S 5 b c := fun b c => f 5 b c (by omega) (by omega) (by omega) (by omega)
  have er : ∀ k, 9 < k → k ≠ 70 → k ≠ 71 → k ≠ 82 → ∀ c, gI S' k 0 c = gI S k 0 c := fun k h1 h2 h3 h4 c => f k 0 c (by omega) (by omega) (by omega) (by omega)
  have e2 : ∀ t, t < T → (gI S' 79 0 t) = (gI S 79 0 t) ∧ (gI S' 73 0 t) = (gI S 73 0 t) ∧ (gI S' 74 0 t) = (gI S 74 0 t) := fun t _ => ⟨er 79 (by omega) (by omega) (by omega) (by omega) t, er 73 (by omega) (by omega) (by omega) (by omega) t, er 74 (by omega) (by omega) (by omega) (by omega) t⟩
  have gk : ∀ a b c, a ≠ 7 → a ≠ 4 → gR S' a b c = gR S a b c := fun a b c h1 h2 => g a b c (by omega) (by omega)
  have hX2 : xShX S' := by
    have w := h.X
    unfold xShX at *
    simp only [l, gk 8 _ _ (by omega) (by omega), gk 2 _ _ (by omega) (by omega), gk 5 _ _ (by omega) (by omega)]
    exact w
  have hM2 : xShM S' := by
    have w := h.M
    unfold xShM at *
    simp only [l, gk 9 _ _ (by omega) (by omega)]
    exact w
  refine ⟨hX2, hM2, ?_, ?_, ?_, ?_, vLs_cong (er 13 (by omega) (by omega) (by omega) (by omega)) (er 14 (by omega) (by omega) (by omega) (by omega)) (er 83 (by omega) (by omega) (by omega) (by omega)) (er 84 (by omega) (by omega) (by omega) (by omega)) h.l, ?_⟩
  · have w := h.s
    unfold vSc at *
    simp only [e8, e9, er 80 (by omega) (by omega) (by omega) (by omega)]
    exact w
  · intro p hp
    rcases h.p p hp with z | ⟨z1, z2, z3, z4, z5⟩
    · left
      have hpP : p ≠ P := fun y => by subst y; exact absurd (z.1.symm.trans hp1) (by decide)
      obtain ⟨v1, v2, v3, v4, v5, v6, v7, v8, v9, v10⟩ := z
      refine ⟨(er 51 (by omega) (by omega) (by omega) (by omega) p).trans v1, (g 10 0 p (by omega) (by omega)).trans v2, (l _ _).trans v3, (l _ _).trans v4, (l _ _).trans v5, (l _ _).trans v6, fun i hi => (l _ _).trans (v7 i hi), fun i hi => (l _ _).trans (v8 i hi), ?_, fun i hi => ?_⟩
      · rw [er 55 (by omega) (by omega) (by omega) (by omega), er 56 (by omega) (by omega) (by omega) (by omega), er 57 (by omega) (by omega) (by omega) (by omega), er 58 (by omega) (by omega) (by omega) (by omega), er 59 (by omega) (by omega) (by omega) (by omega), er 60 (by omega) (by omega) (by omega) (by omega), er 61 (by omega) (by omega) (by omega) (by omega), er 62 (by omega) (by omega) (by omega) (by omega), er 63 (by omega) (by omega) (by omega) (by omega), er 69 (by omega) (by omega) (by omega) (by omega), er 92 (by omega) (by omega) (by omega) (by omega), er 93 (by omega) (by omega) (by omega) (by omega)]
        exact v9
      · rw [er 64 (by omega) (by omega) (by omega) (by omega), er 65 (by omega) (by omega) (by omega) (by omega), er 66 (by omega) (by omega) (by omega) (by omega), er 67 (by omega) (by omega) (by omega) (by omega), er 68 (by omega) (by omega) (by omega) (by omega), f 70 0 (3 * p + i) (by omega) (by omega) (by omega) (by omega), f 71 0 (3 * p + i) (by omega) (by omega) (by omega) (by omega)]
        exact v10 i hi
    · refine Or.inr ⟨?_, ?_, ?_, ?_, ?_⟩
      · obtain ⟨w1, w2, w3, w4⟩ := z1
        have hPp : xShP S' p (nP p) := by
          unfold xShP at *
          simp only [l, gk 3 _ _ (by omega) (by omega), gk 17 _ _ (by omega) (by omega), gk 18 _ _ (by omega) (by omega)]
          exact w3
        have w5 : vP1 S p (nP p) := ⟨w1, w2, w3, w4⟩
        unfold vP1 at *
        simp only [gk 10 _ _ (by omega) (by omega), e3, er 51 (by omega) (by omega) (by omega) (by omega), er 52 (by omega) (by omega) (by omega) (by omega), er 53 (by omega) (by omega) (by omega) (by omega), er 54 (by omega) (by omega) (by omega) (by omega), er 63 (by omega) (by omega) (by omega) (by omega), er 69 (by omega) (by omega) (by omega) (by omega), er 92 (by omega) (by omega) (by omega) (by omega), er 93 (by omega) (by omega) (by omega) (by omega)]
        exact ⟨w1, w2, hPp, w5.2.2.2⟩
      · unfold vD at *
        simp only [e1, er 55 (by omega) (by omega) (by omega) (by omega), er 56 (by omega) (by omega) (by omega) (by omega), er 57 (by omega) (by omega) (by omega) (by omega), er 58 (by omega) (by omega) (by omega) (by omega), er 59 (by omega) (by omega) (by omega) (by omega), er 60 (by omega) (by omega) (by omega) (by omega), er 61 (by omega) (by omega) (by omega) (by omega), er 62 (by omega) (by omega) (by omega) (by omega)]
        exact z2
      · unfold vTh at *
        simp only [e6, er 64 (by omega) (by omega) (by omega) (by omega), er 65 (by omega) (by omega) (by omega) (by omega), er 66 (by omega) (by omega) (by omega) (by omega), er 67 (by omega) (by omega) (by omega) (by omega), er 68 (by omega) (by omega) (by omega) (by omega)]
        exact z3
      · intro i hi
        by_cases ep : p = P ∧ i = j
        · obtain ⟨rfl, rfl⟩ := ep
          exact hA
        · have hA2 : 3 * p + i ≠ 3 * P + j := by omega
          have h1 := z4 i hi
          rw [f 4 (3 * p + i) 1 (by omega) (by omega) (by omega) (by omega), f 70 0 (3 * p + i) (by omega) (by omega) (by omega) (by omega), f 71 0 (3 * p + i) (by omega) (by omega) (by omega) (by omega), g 4 (3 * p + i) 0 (by omega) (by omega)]
          refine ⟨h1.1, h1.2.imp id ?_⟩
          rintro ⟨u, q1, q2, q3, q4, q5, q6, q7, q8⟩
          obtain ⟨w1, w2, w3⟩ := e2 u q1
          have hut : u ≠ t := fun y => hne _ hA2 (by rw [← y]; exact q8)
          exact ⟨u, q1, q2, q3, q4, w1.trans q5, w2.trans q6, w3.trans q7, (g 7 u 12 (by omega) (by omega)).trans q8⟩
      · unfold vIn
        rw [xtru_cong _ _ e2, xtru_cong _ _ e2, e3, e3]
        exact z5
  · intro u hu'
    refine ⟨fun z => ?_, fun z => ?_⟩
    · obtain ⟨w1, ⟨P2, w2⟩, w3, w4⟩ := (h.t u hu').1 z
      refine ⟨?_, ⟨P2, ?_⟩, ?_, ?_⟩
      · have e7 : ∀ c, c ≠ 13 → gI S' 7 u c = gI S 7 u c := fun c hc => f 7 u c (by omega) (by omega) (by omega) (by omega)
        unfold vT1 at *
        rw [g 11 0 u (by omega) (by omega), e7 0 (by omega), e7 2 (by omega), e7 3 (by omega), e7 5 (by omega), e7 6 (by omega), e7 7 (by omega), e7 8 (by omega), e7 9 (by omega), e7 10 (by omega), er 74 (by omega) (by omega) (by omega) (by omega), er 75 (by omega) (by omega) (by omega) (by omega), er 76 (by omega) (by omega) (by omega) (by omega), er 77 (by omega) (by omega) (by omega) (by omega), er 78 (by omega) (by omega) (by omega) (by omega), er 79 (by omega) (by omega) (by omega) (by omega), er 80 (by omega) (by omega) (by omega) (by omega), er 81 (by omega) (by omega) (by omega) (by omega)]
        exact w1
      · by_cases hut : u = t
        · subst hut; exact kt P2 w2
        · obtain ⟨q1, q2, q3, q4, q5, q6⟩ := w2
          refine ⟨q1, (er 51 (by omega) (by omega) (by omega) (by omega) _).trans q2, (er 73 (by omega) (by omega) (by omega) (by omega) _).trans q3, (g 7 u 1 (by omega) (by omega)).trans q4, ?_, ?_⟩
          · rw [g 7 u 12 (by omega) (by omega)]
            refine q5.imp id ?_
            rintro ⟨i, i1, i2, i3⟩
            refine ⟨i, i1, i2, ?_⟩
            by_cases hA2 : 3 * P2 + i = 3 * P + j
            · exfalso
              rw [hA2] at i3
              rcases hu with y | y
              · exact nI_m1 (t := u) (by omega) (i3.symm.trans y)
              · exact hut ((nI_eqI (by omega) (by omega)).mp (i3.symm.trans y))
            · rw [f 70 0 _ (by omega) (by omega) (by omega) (by omega)]; exact i3
          · rw [f 7 u 13 (by omega) (by omega) (by omega) (by omega), f 82 0 u (by omega) (by omega) (by omega) (by omega)]
            exact q6
      · unfold vT3 at *
        simp only [g 7 u 4 (by omega) (by omega), er 73 (by omega) (by omega) (by omega) (by omega), er 74 (by omega) (by omega) (by omega) (by omega), er 75 (by omega) (by omega) (by omega) (by omega), er 87 (by omega) (by omega) (by omega) (by omega), er 91 (by omega) (by omega) (by omega) (by omega)]
        exact w3
      · exact vT4_cong (f 7 u 11 (by omega) (by omega) (by omega) (by omega)) (er 83 (by omega) (by omega) (by omega) (by omega)) w4
    · have w := (h.t u hu').2 z
      rw [g 11 0 u (by omega) (by omega), l, er 79 (by omega) (by omega) (by omega) (by omega), er 80 (by omega) (by omega) (by omega) (by omega), er 81 (by omega) (by omega) (by omega) (by omega)]
      exact w
  · intro c hc
    refine ⟨fun z => ?_, fun z => ?_⟩
    · obtain ⟨⟨P2, w1⟩, w2⟩ := (h.c c hc).1 z
      refine ⟨⟨P2, ?_⟩, ?_⟩
      · unfold vC1 at *
        simp only [gk 12 _ _ (by omega) (by omega), gk 0 _ _ (by omega) (by omega), e0, er 51 (by omega) (by omega) (by omega) (by omega), er 53 (by omega) (by omega) (by omega) (by omega), er 87 (by omega) (by omega) (by omega) (by omega), er 88 (by omega) (by omega) (by omega) (by omega), er 89 (by omega) (by omega) (by omega) (by omega), er 90 (by omega) (by omega) (by omega) (by omega), er 91 (by omega) (by omega) (by omega) (by omega)]
        exact w1
      · unfold vC2 xsch at *
        simp only [e0, er 91 (by omega) (by omega) (by omega) (by omega), er 74 (by omega) (by omega) (by omega) (by omega), er 75 (by omega) (by omega) (by omega) (by omega), er 76 (by omega) (by omega) (by omega) (by omega), er 79 (by omega) (by omega) (by omega) (by omega)]
        exact w2
    · have w := (h.c c hc).2 z
      rw [gk 12 _ _ (by omega) (by omega), l]
      exact w
  · have w := h.u
    unfold vPu at *
    simp only [e5, e9, er 15 (by omega) (by omega) (by omega) (by omega), er 16 (by omega) (by omega) (by omega) (by omega), er 94 (by omega) (by omega) (by omega) (by omega), er 95 (by omega) (by omega) (by omega) (by omega)]
    exact w
end VPs
