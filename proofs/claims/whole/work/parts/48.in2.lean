/-! in, the call -/
section VN2
variable {S : xS} {n T C : Nat} {nP : Nat → Nat}
theorem vInv.of {n' T' C' : Nat} {nP' : Nat → Nat} {S' : xS} (h : vI S' n' T' C' nP') : vInv S' := ⟨n', T', C', nP', h⟩
/-- the class's step, and the reference's answer of zero behind it -/
theorem a_in1 (h : vI S n T C nP) {t P : Nat} (ht : t < T) (h1 : xtl S (nI t) = some (7, t)) (k1 : vT1 S t) (k2 : vT2 S t P) (k3 : vT3 S C t) (e0 : xrg S t P (nP P) = 0) : xAPI mX8_in 6 0 0 mX9_in_ 5 [xI (nI t)] S := by
  have hT2 := h.T2
  obtain ⟨h2, h3, h4, h5, h6, h7⟩ := h.pool k2.1 k2.2.1
  obtain ⟨-, e2⟩ := v_may h ht k1 k2 k3
  have a1 := c_in_s h.X (nI t) h1 k2.2.2.2.1 h3.2.2.1 e2
  rw [e0, if_pos (rfl : (0 : Int32) = 0)] at a1
  have kk1 := k1
  obtain ⟨q1, q2, q3, q4, q5, q6, q7, q8, q9, q10, q11, q12, q13, q14, q15⟩ := k1
  rcases k3 with ⟨w1, w2⟩ | ⟨w1, c, w2, w3, w4, w5, w6⟩
  · have e1 := (v_may_u h kk1 w2 w1 h3 h4 h5 h6).symm.trans e0
    have ea : xtin S t P = xli (xci S t (gI S 8 0 5) (gI S 7 t 3)) P t := by
      unfold xtin
      rw [xcw_none w2, xpc_none (show (gR (xci S t (gI S 8 0 5) (gI S 7 t 3)) 7 t 4) = none from w2)]
    rw [ea] at a1
    have ev : vCls S (xli (xci S t (gI S 8 0 5) (gI S 7 t 3)) P t) := by
      intro k i j hk
      simp only [xli, xci, gI_sI]
      repeat rw [if_neg (by omega)]
    have hi : (gI S 79 0 t) = 0 := by
      refine Decidable.byContradiction fun z => ?_
      unfold xrmu at e1; rw [if_pos z] at e1; exact absurd e1 (by decide)
    have hin : ¬ ¬ (gI S 79 0 t) = 0 := fun z => z hi
    have h4o : ¬ ((gI S 74 0 t) = 4 ∧ 0 < (gI S 81 0 t)) := by
      intro z
      unfold xrmu at e1; rw [if_neg hin, if_pos z] at e1; exact absurd e1 (by decide)
    have hw0 : xrw S t P = 0 := by
      refine Decidable.byContradiction fun z => ?_
      unfold xrmu at e1; rw [if_neg hin, if_neg h4o, if_pos z] at e1; exact z e1
    have h6o : ¬ (gI S 61 0 P) = 3 := by
      intro z
      have hwn : ¬ ¬ xrw S t P = 0 := fun z => z hw0
      unfold xrmu at e1; rw [if_neg hin, if_neg h4o, if_neg hwn] at e1
      unfold xr6 at e1; rw [if_pos z] at e1; exact absurd e1 (by decide)
    have hmay := c_r_may_u (S := xli (xci S t (gI S 8 0 5) (gI S 7 t 3)) P t) h.M h.hT hT2 ht k2.1 k2.2.2.1 (fun z => w1 (Or.inl z)) (fun z => w1 (Or.inr z))
    rw [xrmu_cong ev, e1] at hmay
    have hco : ∀ c, c < C → 0 < (gI S 91 0 c) → (gI (xci S t (gI S 8 0 5) (gI S 7 t 3)) 0 c 5) = (gI S 0 c 5) + (if (gI S 74 0 t) = 3 ∧ (gI S 75 0 t) = nI c ∧ (gI S 76 0 t) = 0 then 1 else 0) ∧ (gI (xci S t (gI S 8 0 5) (gI S 7 t 3)) 0 c 6) = (gI S 0 c 6) + (if (gI S 74 0 t) = 3 ∧ (gI S 75 0 t) = nI c ∧ (gI S 76 0 t) = 1 then 1 else 0) := by
      intro c _ _
      rw [if_neg (fun z => w1 (Or.inr z.1)), if_neg (fun z => w1 (Or.inr z.1)), Int32.add_zero, Int32.add_zero]
      exact ⟨rfl, rfl⟩
    have g4 : (gI S 74 0 t) = 4 → (gI S 81 0 t) = 0 := by
      intro z
      refine (q14 z).resolve_right fun y => h4o ⟨z, ?_⟩
      rw [y]; decide
    by_cases k1x : (gI S 74 0 t) = 1
    · have a2 := c_r_in_1 (S := xli (xci S t (gI S 8 0 5) (gI S 7 t 3)) P t) h.M hmay (by omega) k2.1 k2.2.2.1 k1x
      exact xAPI_of a1 a2 (vInv.of (vI_in h ht kk1 k2 hi (w := (gI S 7 t 3)) (w' := (gI S 75 0 t)) g4 h6o (fun _ => q5) rfl (fun _ _ _ _ => rfl) (fun _ _ _ _ => rfl) hco))
    · have a2 := c_r_in_u (S := xli (xci S t (gI S 8 0 5) (gI S 7 t 3)) P t) h.M hmay (by omega) k2.1 k2.2.2.1 k1x w1
      refine xAPI_of a1 a2 (vInv.of (vI_in h ht kk1 k2 hi (w := (gI S 7 t 3)) (w' := 0) g4 h6o (fun z => ?_) rfl (fun _ _ _ _ => rfl) (fun _ _ _ _ => rfl) hco))
      exact absurd z (fun z => z.elim k1x w1)
  · have hC2 := h.C2
    obtain ⟨⟨P2, y1⟩, y2⟩ := (h.c c (by omega)).1 w2
    have e1 := (v_may_c h kk1 w4 w1 w6 y1 y2 h3 h4 h5 h6).symm.trans e0
    have ea : xtin S t P = xli (xpass (xci S t (gI S 8 0 5) ((gI S 0 c 4) - (gI S 8 0 5))) c (gI S 7 t 5) 1) P t := by
      unfold xtin
      rw [xcw_some w4, xpc_some (show (gR (xci S t (gI S 8 0 5) ((gI S 0 c 4) - (gI S 8 0 5))) 7 t 4) = some (0, c) from w4)]
      rfl
    have hi : (gI S 79 0 t) = 0 := by
      refine Decidable.byContradiction fun z => ?_
      unfold xrmc at e1; rw [if_pos z] at e1; exact absurd e1 (by decide)
    have hin : ¬ ¬ (gI S 79 0 t) = 0 := fun z => z hi
    have h4o : (gI S 89 0 c) ≤ (gI S 9 0 0) ∧ (gI S 9 0 0) < (gI S 90 0 c) := by
      refine Decidable.byContradiction fun z => ?_
      unfold xrmc at e1; rw [if_neg hin, if_pos z] at e1; exact absurd e1 (by decide)
    have h4n : ¬ ¬ ((gI S 89 0 c) ≤ (gI S 9 0 0) ∧ (gI S 9 0 0) < (gI S 90 0 c)) := fun z => z h4o
    have hw0 : xrw S t P = 0 := by
      refine Decidable.byContradiction fun z => ?_
      unfold xrmc at e1; rw [if_neg hin, if_neg h4n, if_pos z] at e1; exact z e1
    have hwn : ¬ ¬ xrw S t P = 0 := fun z => z hw0
    have h5o : ¬ ((gI S 74 0 t) = 3 ∧ (gI S 76 0 t) = 0 ∧ ¬ xsch S (nI c) 0 T + 1 ≤ (gI S 91 0 c) * xsch S (nI c) 1 T) := by
      intro z
      unfold xrmc at e1; rw [if_neg hin, if_neg h4n, if_neg hwn, if_pos z] at e1; exact absurd e1 (by decide)
    have h6o : ¬ (gI S 61 0 P) = 3 := by
      intro z
      unfold xrmc at e1; rw [if_neg hin, if_neg h4n, if_neg hwn, if_neg h5o] at e1
      unfold xr6 at e1; rw [if_pos z] at e1; exact absurd e1 (by decide)
    have hto : (gI S 0 c 4) - (gI S 8 0 5) = (gI S 90 0 c) - (gI S 9 0 0) := by
      obtain ⟨g1, g2, g3, g4, g5, g6, g7, g8, g9, f, a, b, g10, g11, g12, g13, g14, g15, g16⟩ := y1
      obtain ⟨s1, s2, s3, s4, s5, -⟩ := h.s
      rw [g13, g15, s5, nI_leI (by omega) (by omega), nI_ltI (by omega) (by omega)] at h4o
      have : a = b := by omega
      rw [g14, g15, s4, s5, this]
    have g4 : (gI S 74 0 t) = 4 → (gI S 81 0 t) = 0 := by
      intro z; rcases w1 with y | y <;> exact absurd (z.symm.trans y) (by decide)
    have key : ∀ S0, S0 = xpass (xci S t (gI S 8 0 5) ((gI S 0 c 4) - (gI S 8 0 5))) c (gI S 7 t 5) 1 → S0.2 = S.2 ∧ (∀ k i j, k ≠ 0 → gI S0 k i j = gI (xci S t (gI S 8 0 5) ((gI S 0 c 4) - (gI S 8 0 5))) k i j) ∧ (∀ c j, j ≠ 5 → j ≠ 6 → gI S0 0 c j = gI S 0 c j) ∧ (∀ c, c < C → 0 < (gI S 91 0 c) → (gI S0 0 c 5) = (gI S 0 c 5) + (if (gI S 74 0 t) = 3 ∧ (gI S 75 0 t) = nI c ∧ (gI S 76 0 t) = 0 then 1 else 0) ∧ (gI S0 0 c 6) = (gI S 0 c 6) + (if (gI S 74 0 t) = 3 ∧ (gI S 75 0 t) = nI c ∧ (gI S 76 0 t) = 1 then 1 else 0)) := by
      intro S0 hS0
      unfold xpass at hS0
      by_cases b0 : (gI S 7 t 5) = 0
      · rw [if_pos b0] at hS0
        subst hS0
        refine ⟨rfl, fun k i j z => ?_, fun d j z1 z2 => ?_, fun d z1 z2 => ?_⟩
        · rw [gI_sI, if_neg (by omega)]
        · rw [gI_sI, if_neg (by omega)]; rfl
        · by_cases z3 : d = c
          · subst z3
            have z4 := w6.mpr z2
            have z5 : (gI S 76 0 t) = 0 := (q13 z4).symm.trans b0
            rw [if_pos ⟨z4, w3, z5⟩, if_neg (fun y => absurd (z5.symm.trans y.2.2) (by decide)), Int32.add_zero]
            exact ⟨by simp [gI_sI]; rfl, rfl⟩
          · have z4 : ¬ (gI S 75 0 t) = nI d := fun y => z3 ((nI_eqI (by omega) (by omega)).mp (w3.symm.trans y)).symm
            rw [if_neg (fun y => z4 y.2.1), if_neg (fun y => z4 y.2.1), Int32.add_zero, Int32.add_zero]
            refine ⟨?_, rfl⟩
            rw [gI_sI, if_neg (by omega)]; rfl
      · rw [if_neg b0] at hS0
        subst hS0
        refine ⟨rfl, fun k i j z => ?_, fun d j z1 z2 => ?_, fun d z1 z2 => ?_⟩
        · rw [gI_sI, if_neg (by omega)]
        · rw [gI_sI, if_neg (by omega)]; rfl
        · by_cases z3 : d = c
          · subst z3
            have z4 := w6.mpr z2
            have z5 : (gI S 76 0 t) = 1 := (q13 z4).symm.trans (q11.resolve_left b0)
            have n1 : ¬ ((gI S 74 0 t) = 3 ∧ (gI S 75 0 t) = nI d ∧ (gI S 76 0 t) = 0) := fun y => absurd (z5.symm.trans y.2.2) (by decide)
            have n2 : (gI S 74 0 t) = 3 ∧ (gI S 75 0 t) = nI d ∧ (gI S 76 0 t) = 1 := ⟨z4, w3, z5⟩
            rw [if_neg n1, if_pos n2, Int32.add_zero]
            exact ⟨rfl, by simp [gI_sI]; rfl⟩
          · have z4 : ¬ (gI S 75 0 t) = nI d := fun y => z3 ((nI_eqI (by omega) (by omega)).mp (w3.symm.trans y)).symm
            rw [if_neg (fun y => z4 y.2.1), if_neg (fun y => z4 y.2.1), Int32.add_zero, Int32.add_zero]
            refine ⟨rfl, ?_⟩
            rw [gI_sI, if_neg (by omega)]; rfl
    rw [ea] at a1
    generalize hS0 : xpass (xci S t (gI S 8 0 5) ((gI S 0 c 4) - (gI S 8 0 5))) c (gI S 7 t 5) 1 = S0 at a1
    obtain ⟨kR, kg, kf, kc⟩ := key S0 hS0.symm
    have ev : vCls S (xli S0 P t) := by
      intro k i j hk
      simp only [xli, gI_sI]
      repeat rw [if_neg (by omega)]
      rw [kg k i j (by omega)]
      simp only [xci, gI_sI]
      repeat rw [if_neg (by omega)]
    have hM1 : xShM (xli S0 P t) := xShM_2 h.M kR
    have hT1 : (gI (xli S0 P t) 9 0 22) = nI T := (ev 9 _ _ (by omega)).trans h.hT
    have hmay := c_r_may_c hM1 hT1 hT2 ht k2.1 ((ev 73 _ _ (by omega)).trans k2.2.2.1) (by omega) ((ev 75 _ _ (by omega)).trans w3) (by rw [ev 74 _ _ (by omega)]; exact w1)
    rw [xrmc_cong ev, e1] at hmay
    have a2 := c_r_in_c hM1 hmay (by omega) k2.1 ((ev 73 _ _ (by omega)).trans k2.2.2.1) (by rw [ev 74 _ _ (by omega)]; exact w1) (c := c) (by omega) ((ev 75 _ _ (by omega)).trans w3)
    refine xAPI_of a1 a2 (vInv.of (vI_in h ht kk1 k2 hi (w := (gI S 0 c 4) - (gI S 8 0 5)) g4 h6o (fun _ => ?_) kR kg kf kc))
    rw [ev 90 _ _ (by omega), ev 9 _ _ (by omega)]
    exact hto
theorem a_in (h : vI S n T C nP) (x : Int32) : xAPI mX8_in 6 0 0 mX9_in_ 5 [xI x] S := by
  rcases vticket_cases h x with ⟨h1, h2⟩ | ⟨t, ht, rfl, h1, k1, ⟨P, k2⟩, k3, k4⟩
  · exact xAPI_eq (c_in_n h.X x h1) (c_r_in_no x (-1) (c_r_may_n x h2) (by decide)) rfl h.i
  · obtain ⟨h2, h3, h4, h5, h6, h7⟩ := h.pool k2.1 k2.2.1
    obtain ⟨e1, e2⟩ := v_may h ht k1 k2 k3
    by_cases e0 : xrg S t P (nP P) = 0
    · exact a_in1 h ht h1 k1 k2 k3 e0
    · have a1 := c_in_s h.X (nI t) h1 k2.2.2.2.1 h3.2.2.1 e2
      rw [if_neg e0] at a1
      exact xAPI_eq a1 (c_r_in_no (nI t) _ e1 e0) rfl h.i
end VN2
