/-! a ticket moves: in (e = 1) or out (e = -1) -/
theorem vT2_cong {S S' : xS} {t P : Nat} (hR : S'.2 = S.2) (s13 : gI S' 7 t 13 = gI S 7 t 13) (r51 : ∀ b, gI S' 51 0 b = gI S 51 0 b) (r70 : ∀ b, gI S' 70 0 b = gI S 70 0 b) (r73 : gI S' 73 0 t = gI S 73 0 t) (r82 : gI S' 82 0 t = gI S 82 0 t) (h : vT2 S t P) : vT2 S' t P := by
  unfold vT2 at *
  simp only [gR_2 hR, s13, r51, r70, r73, r82]
  exact h
theorem vT3_cong {S S' : xS} {C t : Nat} (hR : S'.2 = S.2) (r73 : gI S' 73 0 t = gI S 73 0 t) (r74 : gI S' 74 0 t = gI S 74 0 t) (r75 : gI S' 75 0 t = gI S 75 0 t) (r87 : ∀ b, gI S' 87 0 b = gI S 87 0 b) (r91 : ∀ b, gI S' 91 0 b = gI S 91 0 b) (h : vT3 S C t) : vT3 S' C t := by
  unfold vT3 at *
  simp only [gR_2 hR, r73, r74, r75, r87, r91]
  exact h
theorem vT4_cong {S S' : xS} {t : Nat} (s11 : gI S' 7 t 11 = gI S 7 t 11) (r83 : ∀ b, gI S' 83 0 b = gI S 83 0 b) (h : vT4 S t) : vT4 S' t := by
  unfold vT4 xlk at *
  simp only [s11, r83]
  exact h
theorem vT1_cong {S S' : xS} {t : Nat} (hR : S'.2 = S.2) (e7 : ∀ j, gI S' 7 t j = gI S 7 t j) (er : ∀ k, 72 < k → k < 83 → gI S' k 0 t = gI S k 0 t) (h : vT1 S t) : vT1 S' t := by
  unfold vT1 at *
  simp only [gR_2 hR, e7, er 74 (by omega) (by omega), er 75 (by omega) (by omega), er 76 (by omega) (by omega), er 77 (by omega) (by omega), er 78 (by omega) (by omega), er 79 (by omega) (by omega), er 80 (by omega) (by omega), er 81 (by omega) (by omega)]
  exact h
theorem vC1_cong {S S' : xS} {n c P : Nat} (hR : S'.2 = S.2) (f0 : ∀ j, j ≠ 5 → j ≠ 6 → gI S' 0 c j = gI S 0 c j) (er : ∀ k b, k = 51 ∨ k = 53 ∨ (86 < k ∧ k < 92) → gI S' k 0 b = gI S k 0 b) (h : vC1 S n c P) : vC1 S' n c P := by
  unfold vC1 at *
  simp only [gR_2 hR, f0 1 (by omega) (by omega), f0 2 (by omega) (by omega), f0 3 (by omega) (by omega), f0 4 (by omega) (by omega), er 51 _ (by omega), er 53 _ (by omega), er 87 _ (by omega), er 88 _ (by omega), er 89 _ (by omega), er 90 _ (by omega), er 91 _ (by omega)]
  exact h
theorem vLs_cong {S S' : xS} {T : Nat} (h13 : ∀ l, gI S' 13 0 l = gI S 13 0 l) (h14 : ∀ l, gI S' 14 0 l = gI S 14 0 l) (r83 : ∀ b, gI S' 83 0 b = gI S 83 0 b) (r84 : ∀ b, gI S' 84 0 b = gI S 84 0 b) (h : vLs S T) : vLs S' T := by
  unfold vLs vL at *
  simp only [h13, h14, r83, r84]
  exact h
section VV
variable {S S' : xS} {n T C : Nat} {nP : Nat → Nat}
theorem i_if_add (c : Prop) [Decidable c] (e : Int32) : (if c then e else 0) = if c then e else 0 := rfl
theorem vI_move (h : vI S n T C nP) {t P : Nat} (ht : t < T) (k : vT2 S t P) {e : Int32} (he : (if ¬ (gI S' 79 0 t) = 0 then (1 : Int32) else 0) = (if ¬ (gI S 79 0 t) = 0 then 1 else 0) + e)
    (hR : S'.2 = S.2) (hs : vSc S' n T C) (fa : ∀ k i j, 9 < k → k < 50 → gI S' k i j = gI S k i j) (f5 : ∀ j, gI S' 5 0 j = gI S 5 0 j) (f9 : ∀ j, gI S' 9 0 j = gI S 9 0 j)
    (f7 : ∀ u j, ¬ (u = t ∧ 6 ≤ j ∧ j ≤ 10) → gI S' 7 u j = gI S 7 u j) (kt : vT1 S' t)
    (fr : ∀ k b, 50 < k → ¬ (b = t ∧ 77 ≤ k ∧ k ≤ 81) → ¬ (b = P ∧ (k = 57 ∨ k = 58 ∨ k = 61 ∨ k = 62)) → gI S' k 0 b = gI S k 0 b)
    (f3 : ∀ p j, ¬ (p = P ∧ (j = 6 ∨ j = 7)) → gI S' 3 p j = gI S 3 p j) (p6 : (gI S' 3 P 6) = (gI S 3 P 6) + e) (p7 : (gI S' 3 P 7) = (gI S 3 P 7) + (if (gI S 74 0 t) = 5 then e else 0))
    (f1 : ∀ p j, p ≠ P → gI S' 1 p j = gI S 1 p j) (hd : vD S P → vD S' P) (f4 : ∀ i j, gI S' 4 i j = gI S 4 i j) (f6 : ∀ i j, gI S' 6 i j = gI S 6 i j) (f0 : ∀ c j, j ≠ 5 → j ≠ 6 → gI S' 0 c j = gI S 0 c j)
    (hc : ∀ c, c < C → 0 < (gI S 91 0 c) → (gI S' 0 c 5) = (gI S 0 c 5) + (if (gI S 74 0 t) = 3 ∧ (gI S 75 0 t) = nI c ∧ (gI S 76 0 t) = 0 then e else 0) ∧ (gI S' 0 c 6) = (gI S 0 c 6) + (if (gI S 74 0 t) = 3 ∧ (gI S 75 0 t) = nI c ∧ (gI S 76 0 t) = 1 then e else 0))
    (hpo : ∀ A, A < 12 → (gI S 70 0 A) = nI t → (gI S' 79 0 t) = 1) : vI S' n T C nP := by
  have hT2 := h.T2
  have q := fun (k : Nat) (h1 : 50 < k) (h2 : ¬ (77 ≤ k ∧ k ≤ 81)) (h3 : ¬ (k = 57 ∨ k = 58 ∨ k = 61 ∨ k = 62)) (b : Nat) => fr k b h1 (fun z => h2 z.2) (fun z => h3 z.2)
  have r51 := q 51 (by omega) (by omega) (by omega)
  have r70 := q 70 (by omega) (by omega) (by omega)
  have r73 := q 73 (by omega) (by omega) (by omega)
  have r74 := q 74 (by omega) (by omega) (by omega)
  have r75 := q 75 (by omega) (by omega) (by omega)
  have r76 := q 76 (by omega) (by omega) (by omega)
  have r82 := q 82 (by omega) (by omega) (by omega)
  have r83 := q 83 (by omega) (by omega) (by omega)
  have r84 := q 84 (by omega) (by omega) (by omega)
  have r87 := q 87 (by omega) (by omega) (by omega)
  have r91 := q 91 (by omega) (by omega) (by omega)
  have r79 : ∀ b, b ≠ t → gI S' 79 0 b = gI S 79 0 b := fun b hb => fr 79 b (by omega) (by omega) (by omega)
  have htr : ∀ p w, xtru S' (nI p) w T = xtru S (nI p) w T + (if (gI S 73 0 t) = nI p ∧ (w = 0 ∨ (gI S 74 0 t) = 5) then e else 0) := by
    intro p w
    refine xsm_upd ht (fun u hu hne => ?_) ?_
    · simp only [r79 u hne, r73, r74]
    · simp only [r73, r74]
      by_cases c : (gI S 73 0 t) = nI p ∧ (w = 0 ∨ (gI S 74 0 t) = 5)
      · simp only [c, and_true, true_and]
        exact he
      · rw [if_neg (fun z => c z.2), if_neg (fun z => c z.2), if_neg c]; decide
  have hsc : ∀ c b, xsch S' (nI c) b T = xsch S (nI c) b T + (if (gI S 74 0 t) = 3 ∧ (gI S 75 0 t) = nI c ∧ (gI S 76 0 t) = b then e else 0) := by
    intro c b
    refine xsm_upd ht (fun u hu hne => ?_) ?_
    · simp only [r79 u hne, r74, r75, r76]
    · simp only [r74, r75, r76]
      by_cases c : (gI S 74 0 t) = 3 ∧ (gI S 75 0 t) = nI c ∧ (gI S 76 0 t) = b
      · simp only [c, and_true, true_and]
        exact he
      · rw [if_neg (fun z => c z.2), if_neg (fun z => c z.2), if_neg c]; decide
  have hvpo : ∀ p N, p < 4 → vPo S p N T → vPo S' p N T := by
    intro p N hp4 hv j hj
    have h1 := hv j hj
    simp only [r70, q 71 (by omega) (by omega) (by omega), f4, gR_2 hR, r73, r74]
    refine ⟨h1.1, h1.2.imp id ?_⟩
    rintro ⟨u, q1, q2, q3, q4, q5, q6, q7, q8⟩
    refine ⟨u, q1, q2, q3, q4, ?_, q6, q7, q8⟩
    by_cases hu : u = t
    · subst hu; exact hpo _ (by omega) q3
    · rw [r79 u hu]; exact q5
  have hP := k.1
  refine ⟨xShX_2 h.X hR, xShM_2 h.M hR, hs, ?_, ?_, ?_, vLs_cong (fun l => fa _ _ _ (by omega) (by omega)) (fun l => fa _ _ _ (by omega) (by omega)) r83 r84 h.l, ?_⟩
  · intro p hp
    by_cases hpP : p = P
    · subst hpP
      obtain ⟨y2, y3, y4, y5, y6, y7⟩ := h.pool k.1 k.2.1
      refine Or.inr ⟨?_, hd y4, ?_, hvpo _ _ hp y6, ?_⟩
      · have e3 : ∀ j, j ≠ 6 → j ≠ 7 → gI S' 3 p j = gI S 3 p j := fun j j1 j2 => f3 p j (by omega)
        unfold vP1 at *
        simp only [gR_2 hR, e3 0 (by omega) (by omega), e3 1 (by omega) (by omega), e3 2 (by omega) (by omega), e3 8 (by omega) (by omega), e3 9 (by omega) (by omega), e3 10 (by omega) (by omega), e3 11 (by omega) (by omega), r51, q 52 (by omega) (by omega) (by omega), q 53 (by omega) (by omega) (by omega), q 54 (by omega) (by omega) (by omega), q 63 (by omega) (by omega) (by omega), q 69 (by omega) (by omega) (by omega), q 92 (by omega) (by omega) (by omega), q 93 (by omega) (by omega) (by omega)]
        exact ⟨y3.1, y3.2.1, xShP_2 y3.2.2.1 hR, y3.2.2.2⟩
      · intro j hj
        have z := y5 j hj
        simp only [f6, q 64 (by omega) (by omega) (by omega), q 65 (by omega) (by omega) (by omega), q 66 (by omega) (by omega) (by omega), q 67 (by omega) (by omega) (by omega), q 68 (by omega) (by omega) (by omega)]
        exact z
      · unfold vIn
        rw [htr, htr, p6, p7, k.2.2.1, y7.1, y7.2]
        refine ⟨?_, ?_⟩
        · rw [if_pos ⟨rfl, Or.inl rfl⟩]
        · congr 1
          by_cases k5 : (gI S 74 0 t) = 5
          · rw [if_pos k5, if_pos ⟨rfl, Or.inr k5⟩]
          · rw [if_neg k5, if_neg (fun z => z.2.elim (by decide) k5)]
    · have ev : vEq S S' p := by
        refine ⟨fun j => f3 p j (by omega), fun j => f1 p j hpP, fun i hi j => f4 _ _, fun i hi j => f6 _ _, fun k hk => fr _ _ (by omega) (by omega) (by omega), fun k hk i hi => fr _ _ (by omega) (by omega) (by omega)⟩
      rcases h.p p hp with z | ⟨y3, y4, y5, y6, y7⟩
      · exact Or.inl (vP0_cong hR ev z)
      · refine Or.inr ⟨vP1_cong hR ev y3, vD_cong ev y4, vTh_cong ev y5, hvpo _ _ hp y6, ?_⟩
        have z1 : ¬ nI P = nI p := fun z => hpP ((nI_eqI (by omega) (by omega)).mp z).symm
        unfold vIn
        rw [htr, htr, k.2.2.1, if_neg (fun z => z1 z.1), if_neg (fun z => z1 z.1), Int32.add_zero, Int32.add_zero, f3 p 6 (by omega), f3 p 7 (by omega)]
        exact y7
  · intro u hu
    by_cases hut : u = t
    · subst hut
      refine ⟨fun _ => ?_, fun z => absurd ht (by omega)⟩
      obtain ⟨-, ⟨P2, w2⟩, w3, w4⟩ := (h.t u hu).1 ht
      exact ⟨kt, ⟨P2, vT2_cong hR (f7 _ _ (by omega)) r51 r70 (r73 _) (r82 _) w2⟩, vT3_cong hR (r73 _) (r74 _) (r75 _) r87 r91 w3, vT4_cong (f7 _ _ (by omega)) r83 w4⟩
    · have e7 : ∀ j, gI S' 7 u j = gI S 7 u j := fun j => f7 u j (by omega)
      have er : ∀ k, 72 < k → k < 83 → gI S' k 0 u = gI S k 0 u := fun k k1 k2 => fr k u (by omega) (by omega) (by omega)
      refine ⟨fun z => ?_, fun z => ?_⟩
      · obtain ⟨w1, ⟨P2, w2⟩, w3, w4⟩ := (h.t u hu).1 z
        exact ⟨vT1_cong hR e7 er w1, ⟨P2, vT2_cong hR (e7 _) r51 r70 (r73 _) (r82 _) w2⟩, vT3_cong hR (r73 _) (r74 _) (r75 _) r87 r91 w3, vT4_cong (e7 _) r83 w4⟩
      · have w := (h.t u hu).2 z
        rw [gR_2 hR, gL_2 hR, er 79 (by omega) (by omega), er 80 (by omega) (by omega), er 81 (by omega) (by omega)]
        exact w
  · intro c hc20
    refine ⟨fun z => ?_, fun z => ?_⟩
    · obtain ⟨⟨P2, w1⟩, w2⟩ := (h.c c hc20).1 z
      refine ⟨⟨P2, vC1_cong hR (f0 c) (fun k b hk => q k (by omega) (by omega) (by omega) b) w1⟩, fun z2 => ?_⟩
      rw [r91] at z2
      have w3 := w2 z2
      have w4 := hc c z z2
      rw [hsc, hsc, w4.1, w4.2, w3.1, w3.2]
      exact ⟨rfl, rfl⟩
    · have w := (h.c c hc20).2 z
      rw [gR_2 hR, gL_2 hR]
      exact w
  · have w := h.u
    have h15 := fun b => fa 15 0 b (by omega) (by omega)
    have h16 := fun b => fa 16 0 b (by omega) (by omega)
    unfold vPu at *
    simp only [h15, h16, f5, f9, q 94 (by omega) (by omega) (by omega), q 95 (by omega) (by omega) (by omega)]
    exact w
end VV
