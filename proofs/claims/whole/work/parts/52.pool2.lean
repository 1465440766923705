/-! a new pool, the coupling -/
theorem xpP_H {S : xS} {p : Nat} (b : Nat) : ∀ n, ¬ (3 * p ≤ b ∧ b < 3 * p + n) → gL (xpP S p n) 4 b = gL S 4 b
  | 0, _ => rfl
  | n + 1, h => by
    show gL (sR (sN (xpP S p n) 4 (3 * p + n) 0) 17 p n (some (4, 3 * p + n))) 4 b = _
    rw [gL_sR, gL_sN, if_neg (by omega), xpP_H b n (by omega)]
theorem xpT_H {S : xS} {p : Nat} (b : Nat) : ∀ n, ¬ (3 * p ≤ b ∧ b < 3 * p + n) → gL (xpT S p n) 6 b = gL S 6 b
  | 0, _ => rfl
  | n + 1, h => by
    show gL (sR (sI (sI (sN (xpT S p n) 6 (3 * p + n) 0) 6 (3 * p + n) 0 0) 6 (3 * p + n) 1 100) 18 p n (some (6, 3 * p + n))) 6 b = _
    rw [gL_sR, gL_sI, gL_sI, gL_sN, if_neg (by omega), xpT_H b n (by omega)]
theorem vPool_cong2 {S S' : xS} {p T : Nat} {nP nP' : Nat → Nat} (g10 : gR S' 10 0 p = gR S 10 0 p) (eL : ∀ a, a = 1 ∨ a = 3 ∨ a = 17 ∨ a = 18 → gL S' a p = gL S a p) (eL4 : ∀ j, j < 3 → gL S' 4 (3 * p + j) = gL S 4 (3 * p + j)) (eL6 : ∀ j, j < 3 → gL S' 6 (3 * p + j) = gL S 6 (3 * p + j)) (eR3 : ∀ a c, a = 3 ∨ a = 17 ∨ a = 18 → gR S' a p c = gR S a p c) (eR4 : ∀ j, j < 3 → gR S' 4 (3 * p + j) 0 = gR S 4 (3 * p + j) 0) (eR7 : ∀ t, t < T → gR S' 7 t 12 = gR S 7 t 12) (ev : vEq S S' p) (e2 : ∀ t, t < T → (gI S' 79 0 t) = (gI S 79 0 t) ∧ (gI S' 73 0 t) = (gI S 73 0 t) ∧ (gI S' 74 0 t) = (gI S 74 0 t)) (hn : nP' p = nP p) (h : vPool S T nP p) : vPool S' T nP' p := by
  have ev' := ev
  obtain ⟨e3, e1, e4, e6, er, et⟩ := ev
  rcases h with h | ⟨h1, h2, h3, h4, h5⟩
  · left
    unfold vP0 at *
    simp (config := { contextual := true }) only [g10, eL 1 (by omega), eL 3 (by omega), eL 17 (by omega), eL 18 (by omega), eL4, eL6, er 51 (by omega), er 52 (by omega), er 53 (by omega), er 54 (by omega), er 55 (by omega), er 56 (by omega), er 57 (by omega), er 58 (by omega), er 59 (by omega), er 60 (by omega), er 61 (by omega), er 62 (by omega), er 63 (by omega), er 69 (by omega), er 92 (by omega), er 93 (by omega), et 64 (by omega), et 65 (by omega), et 66 (by omega), et 67 (by omega), et 68 (by omega), et 70 (by omega), et 71 (by omega)]
    exact h
  · refine Or.inr ⟨?_, vD_cong ev' h2, vTh_cong ev' h3, ?_, ?_⟩
    · rw [hn]
      obtain ⟨w1, w2, w3, w4⟩ := h1
      have hP : xShP S' p (nP p) := by
        unfold xShP at *
        simp only [eL 17 (by omega), eL 18 (by omega), eR3 3 _ (by omega), eR3 17 _ (by omega), eR3 18 _ (by omega)]
        exact w3
      have w5 : vP1 S p (nP p) := ⟨w1, w2, w3, w4⟩
      unfold vP1 at *
      simp only [g10, er 51 (by omega), er 52 (by omega), er 53 (by omega), er 54 (by omega), er 63 (by omega), er 69 (by omega), er 92 (by omega), er 93 (by omega), e3]
      exact ⟨w1, w2, hP, w5.2.2.2⟩
    · rw [hn]
      intro j hj
      have h1 := h4 j hj
      simp only [et 70 (by omega) j hj, et 71 (by omega) j hj, e4 j hj, eR4 j hj]
      refine ⟨h1.1, h1.2.imp id ?_⟩
      rintro ⟨t, q1, q2, q3, q4, q5, q6, q7, q8⟩
      obtain ⟨w1, w2, w3⟩ := e2 t q1
      exact ⟨t, q1, q2, q3, q4, w1.trans q5, w2.trans q6, w3.trans q7, (eR7 t q1).trans q8⟩
    · unfold vIn
      rw [xtru_cong _ _ e2, xtru_cong _ _ e2, e3, e3]
      exact h5
section VPm
variable {S : xS} {n T C : Nat} {nP : Nat → Nat}
theorem vI_pool (h : vI S n T C nP) {P N : Nat} {x2 x3 : Int32} (hP : P < 4) (hN : N ≤ 3) (h0 : vP0 S P) (e3 : 1 ≤ x3 ∧ x3 ≤ 8) : vI (sI (sI (sI (sI (xNP S P x2 x3 N) 51 0 P 1) 52 0 P x2) 53 0 P x3) 54 0 P (nI N)) n T C (fun q => if q = P then N else nP q) := by
  obtain ⟨S2, hS2⟩ : ∃ S2, S2 = (sI (sI (sI (sI (xNP S P x2 x3 N) 51 0 P 1) 52 0 P x2) 53 0 P x3) 54 0 P (nI N)) := ⟨_, rfl⟩
  have hT2 := h.T2
  have sR2 : S2.2 = (xNP S P x2 x3 N).2 := by subst hS2; rfl
  have gX : ∀ a b c, (a < 51 ∨ 54 < a) → gI S2 a b c = gI (xNP S P x2 x3 N) a b c := by
    intro a b c z; subst hS2
    simp only [gI_sI]
    repeat rw [if_neg (by omega)]
  have g1 : ∀ a b c, (a < 51 ∨ 54 < a) → a ≠ 1 → a ≠ 3 → a ≠ 4 → a ≠ 6 → a ≠ 17 → a ≠ 18 → gI S2 a b c = gI S a b c := by
    intro a b c z z1 z3 z4 z6 z17 z18
    rw [gX a b c z, xNP_I]
    simp only [gI_sN]
    repeat rw [if_neg (by omega)]
  have g2 : ∀ k b, 50 < k → b ≠ P → gI S2 k 0 b = gI S k 0 b := by
    intro k b z1 z2; subst hS2
    simp only [gI_sI]
    repeat rw [if_neg (by omega)]
    rw [xNP_I]
    simp only [gI_sN]
    repeat rw [if_neg (by omega)]
  have gR1 : ∀ a b c, a ≠ 1 → a ≠ 3 → a ≠ 4 → a ≠ 6 → a ≠ 17 → a ≠ 18 → a ≠ 10 → gR S2 a b c = gR S a b c := by
    intro a b c z1 z3 z4 z6 z17 z18 z10
    rw [gR_2 sR2, xNP_G]
    repeat rw [if_neg (by omega)]
    exact xNP_G0 a b c (by omega)
  have gR2 : ∀ a p c, p ≠ P → a = 3 ∨ a = 17 ∨ a = 18 → gR S2 a p c = gR S a p c := by
    intro a p c z1 z2
    rw [gR_2 sR2, xNP_G]
    repeat rw [if_neg (by omega)]
    exact xNP_G0 a p c (by omega)
  have gL1 : ∀ a b, ¬ (b = P ∧ (a = 1 ∨ a = 3 ∨ a = 17 ∨ a = 18)) → a ≠ 4 → a ≠ 6 → gL S2 a b = gL S a b := by
    intro a b z1 z2 z3
    rw [gL_2 sR2]
    exact xNP_L a b z1 z2 z3
  have r51 : (gI S2 51 0 P) = 1 := by subst hS2; simp [gI_sI]
  have r52 : (gI S2 52 0 P) = x2 := by subst hS2; simp [gI_sI]
  have r53 : (gI S2 53 0 P) = x3 := by subst hS2; simp [gI_sI]
  have r54 : (gI S2 54 0 P) = nI N := by subst hS2; simp [gI_sI]
  have hshP : xShP S2 P N := xShP_2 (xNP_P hN) sR2
  rw [← hS2]
  clear hS2
  have e8 := fun j => g1 8 0 j (by omega) (by omega) (by omega) (by omega) (by omega) (by omega) (by omega)
  have e9 := fun j => g1 9 0 j (by omega) (by omega) (by omega) (by omega) (by omega) (by omega) (by omega)
  have e0 := fun i j => g1 0 i j (by omega) (by omega) (by omega) (by omega) (by omega) (by omega) (by omega)
  have e7 := fun i j => g1 7 i j (by omega) (by omega) (by omega) (by omega) (by omega) (by omega) (by omega)
  have er := fun (k : Nat) (hk : 54 < k) (b : Nat) => g1 k 0 b (by omega) (by omega) (by omega) (by omega) (by omega) (by omega) (by omega)
  have hX2 : xShX S2 := by
    have w := h.X
    unfold xShX at *
    simp only [gR1 8 _ _ (by omega) (by omega) (by omega) (by omega) (by omega) (by omega) (by omega), gR1 2 _ _ (by omega) (by omega) (by omega) (by omega) (by omega) (by omega) (by omega), gR1 5 _ _ (by omega) (by omega) (by omega) (by omega) (by omega) (by omega) (by omega), gL1 10 0 (by omega) (by omega) (by omega), gL1 11 0 (by omega) (by omega) (by omega), gL1 12 0 (by omega) (by omega) (by omega), gL1 13 0 (by omega) (by omega) (by omega), gL1 14 0 (by omega) (by omega) (by omega), gL1 15 0 (by omega) (by omega) (by omega), gL1 16 0 (by omega) (by omega) (by omega)]
    exact w
  have hM2 : xShM S2 := by
    have w := h.M
    have l : ∀ a, 50 < a → gL S2 a 0 = gL S a 0 := fun a z => gL1 a 0 (by omega) (by omega) (by omega)
    have g : ∀ c, gR S2 9 0 c = gR S 9 0 c := fun c => gR1 9 0 c (by omega) (by omega) (by omega) (by omega) (by omega) (by omega) (by omega)
    unfold xShM at *
    simp (discharger := omega) only [g, l]
    exact w
  have hs2 : vSc S2 n T C := by
    have w := h.s
    unfold vSc at *
    simp only [e8, e9, er 80 (by omega)]
    exact w
  have hpP : ∀ P2, (gI S 51 0 P2) = 1 → P2 ≠ P := fun P2 z y => by subst y; exact absurd (h0.1.symm.trans z) (by decide)
  refine ⟨hX2, hM2, hs2, ?_, ?_, ?_, vLs_cong (fun l => g1 13 0 l (by omega) (by omega) (by omega) (by omega) (by omega) (by omega) (by omega)) (fun l => g1 14 0 l (by omega) (by omega) (by omega) (by omega) (by omega) (by omega) (by omega)) (er 83 (by omega)) (er 84 (by omega)) h.l, ?_⟩
  · intro p hp
    by_cases hpq : p = P
    · subst hpq
      obtain ⟨v1, v2, v3, v4, v5, v6, v7, v8, ⟨u1, u2, u3, u4, u5, u6, u7, u8, u9, u10, u11, u12⟩, v10⟩ := h0
      have k3 : ∀ j, gI S2 3 p j = (if j = 0 then nI p else if j = 1 then x2 else if j = 2 then x3 else 0) := by
        intro j
        rw [gX 3 p j (by omega), xNP_I, if_neg (by omega), if_neg (by omega), if_pos ⟨rfl, rfl⟩]
      have k1 : ∀ j, gI S2 1 p j = (if j = 0 then 1 else 0) := by
        intro j
        rw [gX 1 p j (by omega), xNP_I, if_neg (by omega), if_neg (by omega), if_neg (by omega), if_pos ⟨rfl, rfl⟩]
      have hr : ∀ k, 54 < k → gI S2 k 0 p = gI S k 0 p := fun k z => er k z p
      refine Or.inr ⟨?_, ?_, ?_, ?_, ?_⟩
      · obtain ⟨L, hL, hL2⟩ := nI_of2 (n := 8) (x := x3) rfl (by
          intro z
          exact Int32.lt_irrefl (Int32.lt_of_lt_of_le z (Int32.le_trans (by decide : (0 : Int32) ≤ 1) e3.1))) e3.2
        simp only [if_true]
        refine ⟨r51, ?_, hshP, r54, (k3 0).trans rfl, ((k3 1).trans rfl).trans r52.symm, ⟨L, ?_, by omega, r53.trans hL2, ((k3 2).trans rfl).trans hL2⟩, ?_, ?_, ?_, ?_, Or.inl ⟨?_, ?_⟩⟩
        · rw [gR_2 sR2, xNP_G, if_pos ⟨rfl, rfl, rfl⟩]
        · rw [hL2] at e3
          have := (nI_leI (a := 1) (by omega) (by omega)).mp e3.1
          omega
        · rw [k3, hr 69 (by omega), u10]; rfl
        · rw [k3, hr 63 (by omega), u9]; rfl
        · rw [k3, hr 92 (by omega), u11]; rfl
        · rw [k3, hr 93 (by omega), u12]; rfl
        · rw [hr 92 (by omega), u11]
        · rw [hr 93 (by omega), u12]
      · unfold vD
        rw [k1, k1, k1, k1, k1, k1, k1, hr 55 (by omega), hr 56 (by omega), hr 57 (by omega), hr 58 (by omega), hr 59 (by omega), hr 60 (by omega), hr 61 (by omega), hr 62 (by omega), u1, u2, u3, u4, u5, u6, u7, u8]
        exact ⟨rfl, xB_1, rfl, xB_0, rfl, rfl, fun _ => by decide, fun z => absurd z (by decide), ⟨0, by omega, rfl, rfl⟩, ⟨0, by omega, rfl, rfl⟩⟩
      · intro j hj
        obtain ⟨y1, y2, y3, y4, y5, y6, y7⟩ := v10 j hj
        have k6 : ∀ c, gI S2 6 (3 * p + j) c = if c = 1 then 100 else 0 := by
          intro c
          rw [gX 6 _ _ (by omega), xNP_I, if_pos (by omega)]
        rw [k6, k6, k6, k6, k6, er 64 (by omega), er 65 (by omega), er 66 (by omega), er 67 (by omega), er 68 (by omega), y1, y2, y3, y4, y5]
        exact ⟨rfl, rfl, rfl, rfl, rfl⟩
      · intro j hj
        obtain ⟨y1, y2, y3, y4, y5, y6, y7⟩ := v10 j hj
        simp only [if_true]
        rw [er 70 (by omega), er 71 (by omega), y6, y7]
        refine ⟨fun hjN => ?_, Or.inl ⟨rfl, fun hjN => ?_⟩⟩
        · rw [gX 4 _ _ (by omega), xNP_I, if_neg (by omega), if_pos (by omega)]
        · rw [gR_2 sR2, xNP_G, if_neg (by omega), if_neg (by omega), if_neg (by omega), if_neg (by omega), if_pos (by omega)]
      · unfold vIn
        have w := fun w => v_tru0 h hp v1 w
        have w2 : ∀ w, xtru S2 (nI p) w T = xtru S (nI p) w T := fun w => xtru_cong _ _ fun t ht => ⟨er 79 (by omega) t, er 73 (by omega) t, er 74 (by omega) t⟩
        rw [w2, w2, w, w, k3, k3]
        exact ⟨rfl, rfl⟩
    · refine vPool_cong2 (S := S) ?_ ?_ ?_ ?_ ?_ ?_ ?_ ?_ ?_ (if_neg hpq) (h.p p hp)
      · rw [gR_2 sR2, xNP_G]
        repeat rw [if_neg (by omega)]
        exact xNP_G0 10 0 p (by omega)
      · intro a z
        exact gL1 a p (by omega) (by omega) (by omega)
      · intro j hj
        rw [gL_2 sR2]
        unfold xNP xpi
        rw [gL_sR, xpT_L (by decide), xpP_H _ _ (by omega)]
        simp only [xpi0, gL_sR, gL_sN, gL_sI]
        repeat rw [if_neg (by omega)]
      · intro j hj
        rw [gL_2 sR2]
        unfold xNP xpi
        rw [gL_sR, xpT_H _ _ (by omega), xpP_L (by decide)]
        simp only [xpi0, gL_sR, gL_sN, gL_sI]
        repeat rw [if_neg (by omega)]
      · intro a c z; exact gR2 a p c hpq z
      · intro j hj
        rw [gR_2 sR2, xNP_G]
        repeat rw [if_neg (by omega)]
        exact xNP_G0 4 _ _ (by omega)
      · intro t ht
        exact gR1 7 t 12 (by omega) (by omega) (by omega) (by omega) (by omega) (by omega) (by omega)
      · refine ⟨fun j => ?_, fun j => ?_, fun i hi j => ?_, fun i hi j => ?_, fun k hk => ?_, fun k hk i hi => ?_⟩
        · rw [gX _ _ _ (by omega), xNP_I]
          simp only [gI_sN]
          repeat rw [if_neg (by omega)]
        · rw [gX _ _ _ (by omega), xNP_I]
          simp only [gI_sN]
          repeat rw [if_neg (by omega)]
        · rw [gX _ _ _ (by omega), xNP_I]
          simp only [gI_sN]
          repeat rw [if_neg (by omega)]
        · rw [gX _ _ _ (by omega), xNP_I]
          simp only [gI_sN]
          repeat rw [if_neg (by omega)]
        · exact g2 k p (by omega) hpq
        · exact er k (by omega) _
      · exact fun t ht => ⟨er 79 (by omega) t, er 73 (by omega) t, er 74 (by omega) t⟩
  · intro t ht
    have f7 : ∀ c, gR S2 7 t c = gR S 7 t c := fun c => gR1 7 t c (by omega) (by omega) (by omega) (by omega) (by omega) (by omega) (by omega)
    have f11 : gR S2 11 0 t = gR S 11 0 t := gR1 11 0 t (by omega) (by omega) (by omega) (by omega) (by omega) (by omega) (by omega)
    refine ⟨fun z => ?_, fun z => ?_⟩
    · obtain ⟨w1, ⟨P2, w2⟩, w3, w4⟩ := (h.t t ht).1 z
      refine ⟨?_, ⟨P2, ?_⟩, ?_, ?_⟩
      · unfold vT1 at *
        simp only [f11, e7, er 74 (by omega), er 75 (by omega), er 76 (by omega), er 77 (by omega), er 78 (by omega), er 79 (by omega), er 80 (by omega), er 81 (by omega)]
        exact w1
      · have y := g2 51 P2 (by omega) (hpP P2 w2.2.1)
        unfold vT2 at *
        simp only [f7, e7, y, er 70 (by omega), er 73 (by omega), er 82 (by omega)]
        exact w2
      · unfold vT3 at *
        simp only [f7, er 73 (by omega), er 74 (by omega), er 75 (by omega), er 87 (by omega), er 91 (by omega)]
        exact w3
      · unfold vT4 xlk at *
        simp only [e7, er 83 (by omega)]
        exact w4
    · have w := (h.t t ht).2 z
      rw [f11, gL1 7 t (by omega) (by omega) (by omega), er 79 (by omega), er 80 (by omega), er 81 (by omega)]
      exact w
  · intro c hc
    have f0 : ∀ d, gR S2 0 c d = gR S 0 c d := fun d => gR1 0 c d (by omega) (by omega) (by omega) (by omega) (by omega) (by omega) (by omega)
    have f12 : gR S2 12 0 c = gR S 12 0 c := gR1 12 0 c (by omega) (by omega) (by omega) (by omega) (by omega) (by omega) (by omega)
    refine ⟨fun z => ?_, fun z => ?_⟩
    · obtain ⟨⟨P2, w1⟩, w2⟩ := (h.c c hc).1 z
      have y := hpP P2 w1.2.2.1
      have y1 := g2 51 P2 (by omega) y
      have y2 := g2 53 P2 (by omega) y
      refine ⟨⟨P2, ?_⟩, ?_⟩
      · unfold vC1 at *
        simp only [f0, f12, e0, y1, y2, er 87 (by omega), er 88 (by omega), er 89 (by omega), er 90 (by omega), er 91 (by omega)]
        exact w1
      · unfold vC2 xsch at *
        simp only [e0, er 91 (by omega), er 74 (by omega), er 75 (by omega), er 76 (by omega), er 79 (by omega)]
        exact w2
    · have w := (h.c c hc).2 z
      rw [f12, gL1 0 c (by omega) (by omega) (by omega)]
      exact w
  · have w := h.u
    have h15 := fun j => g1 15 0 j (by omega) (by omega) (by omega) (by omega) (by omega) (by omega) (by omega)
    have h16 := fun j => g1 16 0 j (by omega) (by omega) (by omega) (by omega) (by omega) (by omega) (by omega)
    have h5 := fun j => g1 5 0 j (by omega) (by omega) (by omega) (by omega) (by omega) (by omega) (by omega)
    unfold vPu at *
    simp only [h15, h16, h5, e9, er 94 (by omega), er 95 (by omega)]
    exact w
theorem a_pool (h : vI S n T C nP) (p x2 x3 x4 : Int32) : xAPI mX8_pool 4 10 46 mX9_pool 2 [xI p, xI x2, xI x3, xI x4] S := by
  by_cases e : (gI S 8 0 5) = 0 ∧ (0 ≤ p ∧ p ≤ 3) ∧ xpl S p = none ∧ (1 ≤ x2 ∧ x2 ≤ 200) ∧ (1 ≤ x3 ∧ x3 ≤ 8) ∧ 0 ≤ x4 ∧ x4 ≤ 3
  · obtain ⟨e1, e2, e3, e4, e5, e6⟩ := e
    obtain ⟨P, hP', rfl⟩ := nI_of2 (n := 3) rfl (Int32.not_lt.mpr e2.1) e2.2
    obtain ⟨N, hN', rfl⟩ := nI_of2 (n := 3) rfl (Int32.not_lt.mpr e6.1) e6.2
    have hP : P < 4 := by omega
    have hN : N ≤ 3 := by omega
    have e7 : gR S 10 0 P = none := by
      unfold xpl at e3; rw [if_pos e2, vnat hP (by decide)] at e3; exact e3
    rcases h.p P hP with z | z
    · have z' := z
      obtain ⟨v1, v2, v3, v4, v5, v6, v7, v8, -, -⟩ := z
      have a1 := c_pool_y h.X x2 x3 e1 hP hN e7 e4 e5 v3 v6 v4 v5 v7 v8
      have w := vI_pool (x2 := x2) (x3 := x3) h hP hN z' e5
      have hM1 : xShM (xNP S P x2 x3 N) := by
        have := w.M
        exact this
      have hr : (gI (xNP S P x2 x3 N) 51 0 P) = 0 := by
        rw [xNP_I]
        simp only [gI_sN]
        repeat rw [if_neg (by omega)]
        exact v1
      have hn : (gI (xNP S P x2 x3 N) 9 0 0) = 0 := by
        rw [xNP_I]
        simp only [gI_sN]
        repeat rw [if_neg (by omega)]
        rw [← h.now]; exact e1
      have a2 := c_r_pool_y hM1 x2 x3 (nI N) hn hP hr e4 e5 e6
      exact xAPI_of a1 a2 (vInv.of w)
    · exact absurd (z.1.2.1.symm.trans e7) (fun y => by cases y)
  · refine xAPI_eq (c_pool_n h.X p x2 x3 x4 e) (c_r_pool_n h.M p x2 x3 x4 ?_) rfl h.i
    rintro ⟨z1, z2, z3, z4⟩
    refine e ⟨h.now.trans z1, z2, ?_, z4⟩
    obtain ⟨P, hP', rfl⟩ := nI_of2 (n := 3) rfl (Int32.not_lt.mpr z2.1) z2.2
    have hP : P < 4 := by omega
    unfold xpl
    rw [vnat hP (by decide)] at z3
    rw [if_pos z2, vnat hP (by decide)]
    rcases h.p P hP with y | y
    · exact y.2.1
    · exact absurd (y.1.1.symm.trans z3) (by decide)
end VPm
