/-! a new ticket -/
section VTn
variable {S : xS} {n T C : Nat} {nP : Nat → Nat}
theorem vI_ticket (h : vI S n T C nP) (hT : T < 200) {P : Nat} (hP : P < 4) (hp : (gI S 51 0 P) = 1) {k a b : Int32} {r : Option (Nat × Nat)} (hb : xB b) (hk : 0 ≤ k ∧ k ≤ 5) (h3 : (¬ (k = 2 ∨ k = 3) ∧ r = none) ∨ ((k = 2 ∨ k = 3) ∧ ∃ c, c < C ∧ a = nI c ∧ r = some (0, c) ∧ (gI S 87 0 c) = nI P ∧ (k = 3 ↔ 0 < (gI S 91 0 c)))) : vI (xrnt (xnt S T P k a r b) T P k a b) n (T + 1) C nP := by
  obtain ⟨S2, hS2⟩ : ∃ S2, S2 = xrnt (xnt S T P k a r b) T P k a b := ⟨_, rfl⟩
  have e7 : ∀ u j, u ≠ T → gI S2 7 u j = gI S 7 u j := by
    intro u j z; subst hS2
    simp only [xrnt, xnt, xt7, gI_sI, gI_sR, gI_sN]
    repeat rw [if_neg (by omega)]
  have eR7 : ∀ u j, u ≠ T → gR S2 7 u j = gR S 7 u j := by
    intro u j z; subst hS2
    simp only [xrnt, xnt, xt7, gR_sI, gR_sR, gR_sN]
    repeat rw [if_neg (by omega)]
  have eR11 : ∀ u, u ≠ T → gR S2 11 0 u = gR S 11 0 u := by
    intro u z; subst hS2
    simp only [xrnt, xnt, xt7, gR_sI, gR_sR, gR_sN]
    repeat rw [if_neg (by omega)]
  have eL7 : ∀ u, u ≠ T → gL S2 7 u = gL S 7 u := by
    intro u z; subst hS2
    simp only [xrnt, xnt, xt7, gL_sI, gL_sR, gL_sN]
    repeat rw [if_neg (by omega)]
  have er : ∀ k b, 50 < k → b ≠ T → gI S2 k 0 b = gI S k 0 b := by
    intro k b z1 z2; subst hS2
    simp only [xrnt, xnt, xt7, gI_sI, gI_sR, gI_sN]
    repeat rw [if_neg (by omega)]
  have er2 : ∀ k b, 50 < k → ¬ (72 < k ∧ k < 78) → k ≠ 82 → gI S2 k 0 b = gI S k 0 b := by
    intro k b z1 z2 z3; subst hS2
    simp only [xrnt, xnt, xt7, gI_sI, gI_sR, gI_sN]
    repeat rw [if_neg (by omega)]
  have r51 := fun b => er2 51 b (by omega) (by omega) (by omega)
  have r70 := fun b => er2 70 b (by omega) (by omega) (by omega)
  have r83 := fun b => er2 83 b (by omega) (by omega) (by omega)
  have r87 := fun b => er2 87 b (by omega) (by omega) (by omega)
  have r91 := fun b => er2 91 b (by omega) (by omega) (by omega)
  have hold := (h.t T (by omega)).2 (by omega)
  have tR11 : gR S2 11 0 T = some (7, T) := by subst hS2; simp [xrnt, xnt, xt7, gR_sI, gR_sR, gR_sN]
  have tR1 : gR S2 7 T 1 = some (3, P) := by subst hS2; simp [xrnt, xnt, xt7, gR_sI, gR_sR, gR_sN]
  have tR4 : gR S2 7 T 4 = r := by subst hS2; simp [xrnt, xnt, xt7, gR_sI, gR_sR, gR_sN]
  have tR12 : gR S2 7 T 12 = none := by subst hS2; simp [xrnt, xnt, xt7, gR_sI, gR_sR, gR_sN]
  have t0 : gI S2 7 T 0 = nI T := by subst hS2; simp [xrnt, xnt, xt7, gI_sI, gI_sR, gI_sN]
  have t2 : gI S2 7 T 2 = k := by subst hS2; simp [xrnt, xnt, xt7, gI_sI, gI_sR, gI_sN]
  have t3 : gI S2 7 T 3 = a := by subst hS2; simp [xrnt, xnt, xt7, gI_sI, gI_sR, gI_sN]
  have t5 : gI S2 7 T 5 = b := by subst hS2; simp [xrnt, xnt, xt7, gI_sI, gI_sR, gI_sN]
  have t6 : gI S2 7 T 6 = 0 := by subst hS2; simp [xrnt, xnt, xt7, gI_sI, gI_sR, gI_sN]
  have t7 : gI S2 7 T 7 = -1 := by subst hS2; simp [xrnt, xnt, xt7, gI_sI, gI_sR, gI_sN]
  have t9 : gI S2 7 T 9 = 0 := by subst hS2; simp [xrnt, xnt, xt7, gI_sI, gI_sR, gI_sN]
  have t10 : gI S2 7 T 10 = 0 := by subst hS2; simp [xrnt, xnt, xt7, gI_sI, gI_sR, gI_sN]
  have t11 : gI S2 7 T 11 = -1 := by subst hS2; simp [xrnt, xnt, xt7, gI_sI, gI_sR, gI_sN]
  have t13 : gI S2 7 T 13 = -20 := by subst hS2; simp [xrnt, xnt, xt7, gI_sI, gI_sR, gI_sN]
  have b73 : gI S2 73 0 T = nI P := by subst hS2; simp [xrnt, xnt, xt7, gI_sI, gI_sR, gI_sN]
  have b74 : gI S2 74 0 T = k := by subst hS2; simp [xrnt, xnt, xt7, gI_sI, gI_sR, gI_sN]
  have b75 : gI S2 75 0 T = a := by subst hS2; simp [xrnt, xnt, xt7, gI_sI, gI_sR, gI_sN]
  have b76 : gI S2 76 0 T = (if k = 3 ∧ ¬ b = 0 then 1 else 0) := by subst hS2; simp [xrnt, xnt, xt7, gI_sI, gI_sR, gI_sN]
  have b77 : gI S2 77 0 T = -1 := by subst hS2; simp [xrnt, xnt, xt7, gI_sI, gI_sR, gI_sN]
  have b82 : gI S2 82 0 T = -1000 := by subst hS2; simp [xrnt, xnt, xt7, gI_sI, gI_sR, gI_sN]
  have b79 : gI S2 79 0 T = 0 := (er2 79 T (by omega) (by omega) (by omega)).trans hold.2.2.1
  have b80 : gI S2 80 0 T = 0 := (er2 80 T (by omega) (by omega) (by omega)).trans hold.2.2.2.1
  have b81 : gI S2 81 0 T = 0 := (er2 81 T (by omega) (by omega) (by omega)).trans hold.2.2.2.2
  have hX2 : xShX S2 := by subst hS2; exact h.X
  have hM2 : xShM S2 := by subst hS2; exact h.M
  have hp2 : ∀ p, p < 4 → vP0 S2 p ∨ (vP1 S2 p (nP p) ∧ vD S2 p ∧ vTh S2 p ∧ vPo S p (nP p) T ∧ vIn S p T) := by
    intro p hp; subst hS2
    rcases h.p p hp with z | z
    · exact Or.inl z
    · exact Or.inr z
  have hl2 : vLs S2 T := by subst hS2; exact h.l
  have hu2 : vPu S2 := by subst hS2; exact h.u
  have hc2 : ∀ c, c < 20 → (c < C → (∃ P, vC1 S2 n c P) ∧ vC2 S T c) ∧ (C ≤ c → gR S2 12 0 c = none ∧ gL S2 0 c = none) := by subst hS2; exact h.c
  have po4 : ∀ i j, gI S2 4 i j = gI S 4 i j ∧ gR S2 4 i j = gR S 4 i j := by intro i j; subst hS2; exact ⟨rfl, rfl⟩
  have p3 : ∀ i j, gI S2 3 i j = gI S 3 i j := by intro i j; subst hS2; rfl
  have c0 : ∀ i j, gI S2 0 i j = gI S 0 i j := by intro i j; subst hS2; rfl
  have hs2 : vSc S2 n (T + 1) C := by
    obtain ⟨s1, s2, s3, s4, s5, s6, s7, s8, s9, s10, s11⟩ := h.s
    have q6 : (gI S2 8 0 6) = (gI S 8 0 6) + 1 := by subst hS2; simp [xrnt, xnt, xt7, gI_sI, gI_sR, gI_sN]
    have q7 : (gI S2 9 0 22) = (gI S 9 0 22) + 1 := by subst hS2; simp [xrnt, xnt, xt7, gI_sI, gI_sR, gI_sN]
    refine ⟨s1, by omega, s3, by subst hS2; exact s4, by subst hS2; exact s5, by rw [q6, s6, nI_s], by rw [q7, s7, nI_s], by subst hS2; exact s8, by subst hS2; exact s9, by subst hS2; exact s10, ?_⟩
    rw [xsm_succ, b80, Int32.add_zero, show (gI S2 8 0 9) = (gI S 8 0 9) by subst hS2; rfl, s11]
    exact xsm_cong fun t ht => (er 80 t (by omega) (by omega)).symm
  rw [← hS2]
  clear hS2
  have htr : ∀ p w, xtru S2 p w (T + 1) = xtru S p w T := by
    intro p w
    unfold xtru
    rw [xsm_succ, if_neg (fun z => z.1 b79), Int32.add_zero]
    exact xsm_cong fun t ht => by rw [er 79 t (by omega) (by omega), er 73 t (by omega) (by omega), er 74 t (by omega) (by omega)]
  have hsc : ∀ c b, xsch S2 c b (T + 1) = xsch S c b T := by
    intro c b
    unfold xsch
    rw [xsm_succ, if_neg (fun z => z.1 b79), Int32.add_zero]
    exact xsm_cong fun t ht => by rw [er 79 t (by omega) (by omega), er 74 t (by omega) (by omega), er 75 t (by omega) (by omega), er 76 t (by omega) (by omega)]
  refine ⟨hX2, hM2, hs2, ?_, ?_, ?_, ⟨fun l hl => ⟨(hl2.1 l hl).1, ?_⟩, hl2.2⟩, hu2⟩
  · intro p hp
    rcases hp2 p hp with z | ⟨z1, z2, z3, z4, z5⟩
    · exact Or.inl z
    · refine Or.inr ⟨z1, z2, z3, ?_, ?_⟩
      · intro j hj
        obtain ⟨w1, w2⟩ := z4 j hj
        rw [r70, er2 71 _ (by omega) (by omega) (by omega), (po4 _ _).1, (po4 _ _).2]
        refine ⟨w1, w2.imp id ?_⟩
        rintro ⟨t, q1, q2, q3, q4, q5, q6, q7, q8⟩
        exact ⟨t, by omega, q2, q3, q4, (er 79 t (by omega) (by omega)).trans q5, (er 73 t (by omega) (by omega)).trans q6, (er 74 t (by omega) (by omega)).trans q7, (eR7 t _ (by omega)).trans q8⟩
      · unfold vIn
        rw [htr, htr, p3, p3]
        exact z5
  · intro u hu
    by_cases huT : u = T
    · subst huT
      refine ⟨fun _ => ⟨?_, ⟨P, ?_⟩, ?_, ?_⟩, fun z => absurd z (by omega)⟩
      · unfold vT1
        rw [tR11, t0, t2, t3, t5, t6, t7, t9, t10, b74, b75, b76, b77, b79, b80, b81]
        refine ⟨rfl, rfl, rfl, hk, rfl, xB_0, rfl, rfl, rfl, rfl, hb, xB_if _, fun z => ?_, fun _ => Or.inl rfl, fun z => absurd z (by decide)⟩
        rcases hb with y | y
        · rw [y, if_neg (fun w => w.2 rfl)]
        · rw [y, if_pos ⟨z, by decide⟩]
      · unfold vT2
        rw [r51, b73, tR1, tR12, t13, b82]
        exact ⟨hP, hp, rfl, rfl, Or.inl rfl, Or.inr ⟨rfl, rfl⟩⟩
      · unfold vT3
        rw [b73, b74, b75, tR4]
        rcases h3 with z | ⟨z1, c, z2, z3, z4, z5, z6⟩
        · exact Or.inl z
        · exact Or.inr ⟨z1, c, z2, z3, z4, (r87 c).trans z5, by rw [r91]; exact z6⟩
      · unfold vT4
        rw [t11]
        refine (xlk_m1.mpr (yfi_none 30 fun l hl z => ?_)).symm
        have z2 := of_decide_eq_true z
        rcases (hl2.1 l hl).2 with y | ⟨t, y1, y2⟩
        · exact nI_m1 (by omega) (z2.symm.trans y)
        · have := (nI_eqI (by omega) (by omega)).mp (z2.symm.trans y2)
          omega
    · refine ⟨fun z => ?_, fun z => ?_⟩
      · obtain ⟨w1, ⟨P2, w2⟩, w3, w4⟩ := (h.t u hu).1 (by omega)
        refine ⟨?_, ⟨P2, ?_⟩, ?_, ?_⟩
        · unfold vT1 at *
          simp only [eR11 u huT, e7 u _ huT, er 74 u (by omega) huT, er 75 u (by omega) huT, er 76 u (by omega) huT, er 77 u (by omega) huT, er 78 u (by omega) huT, er 79 u (by omega) huT, er 80 u (by omega) huT, er 81 u (by omega) huT]
          exact w1
        · unfold vT2 at *
          simp only [eR7 u _ huT, e7 u _ huT, r51, r70, er 73 u (by omega) huT, er 82 u (by omega) huT]
          exact w2
        · unfold vT3 at *
          simp only [eR7 u _ huT, er 73 u (by omega) huT, er 74 u (by omega) huT, er 75 u (by omega) huT, r87, r91]
          exact w3
        · unfold vT4 xlk at *
          simp only [e7 u _ huT, r83]
          exact w4
      · have w := (h.t u hu).2 (by omega)
        rw [eR11 u huT, eL7 u huT, er 79 u (by omega) huT, er 80 u (by omega) huT, er 81 u (by omega) huT]
        exact w
  · intro c hc20
    refine ⟨fun z => ⟨((hc2 c hc20).1 z).1, fun z2 => ?_⟩, (hc2 c hc20).2⟩
    rw [r91] at z2
    have w := ((hc2 c hc20).1 z).2 z2
    rw [hsc, hsc, c0, c0]
    exact w
  · rcases (hl2.1 l hl).2 with y | ⟨t, y1, y2⟩
    · exact Or.inl y
    · exact Or.inr ⟨t, by omega, y2⟩
end VTn
