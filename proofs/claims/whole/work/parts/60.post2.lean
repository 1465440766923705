/-! post, the call -/
/-- ticket u leaves post A: the class's part -/
def ylp (S : xS) (A u : Nat) : xS := (sI (sR (sR S 4 A 0 none) 7 u 12 none) 7 u 13 (gI S 8 0 5))
section VPq
variable {S : xS} {n T C : Nat} {nP : Nat → Nat}
theorem vI_lp (h : vI S n T C nP) {u P j : Nat} (hu : u < T) (hj : j < 3) (hP : P < 4) (hp1 : (gI S 51 0 P) = 1) (h6 : vPo S P (nP P) T) (hs : (gI S 70 0 (3 * P + j)) = nI u) (hpo : (gR S 7 u 12) = some (4, 3 * P + j)) : vI (xrlv (ylp S (3 * P + j) u) (3 * P + j) u) n T C nP := by
  refine vI_ps (t := u) (j := j) h hu hj hP hp1 ?_ ?_ (fun a b => rfl) ?_ ?_ ?_ (Or.inr hs)
  · intro a b c h1 h2 h3 h4
    simp only [xrlv, ylp, gI_sI, gI_sR]
    repeat rw [if_neg (by omega)]
  · intro a b c h1 h2
    simp only [xrlv, ylp, gR_sI, gR_sR]
    repeat rw [if_neg (by omega)]
  · refine ⟨fun z => (h6 j hj).1 z, Or.inl ⟨?_, fun _ => ?_⟩⟩
    · simp [xrlv, ylp, gI_sI, gI_sR]
    · simp [xrlv, ylp, gR_sI, gR_sR]
  · intro A hA z
    rw [hpo] at z
    simp only [Option.some.injEq, Prod.mk.injEq] at z
    omega
  · rintro P2 ⟨q1, q2, q3, q4, q5, q6⟩
    refine ⟨q1, q2, q3, q4, Or.inl ?_, Or.inl ?_⟩
    · simp [xrlv, ylp, gR_sI, gR_sR]
    · simp [xrlv, ylp, gI_sI, gI_sR]
      exact h.now
theorem vI_st (h : vI S n T C nP) {t P j : Nat} (ht : t < T) (hj : j < 3) (hjN : j < nP P) (hP : P < 4) (hp1 : (gI S 51 0 P) = 1) (hs : (gI S 70 0 (3 * P + j)) = -1) (hpo : (gR S 7 t 12) = none) (hi : (gI S 79 0 t) = 1) (hp : (gI S 73 0 t) = nI P) (hk : (gI S 74 0 t) = 5) : vI (xrst (xst S t (3 * P + j)) (3 * P + j) t) n T C nP := by
  refine vI_ps (t := t) (j := j) h ht hj hP hp1 ?_ ?_ (fun a b => rfl) ?_ ?_ ?_ (Or.inl hs)
  · intro a b c h1 h2 h3 h4
    simp only [xrst, xst, gI_sI, gI_sR]
    repeat rw [if_neg (by omega)]
  · intro a b c h1 h2
    simp only [xrst, xst, gR_sI, gR_sR]
    repeat rw [if_neg (by omega)]
  · refine ⟨fun z => ?_, Or.inr ⟨t, ht, hjN, ?_, ?_, hi, hp, hk, ?_⟩⟩
    · simp [xrst, xst, gI_sI, gI_sR]
      exact h.now
    · simp [xrst, xst, gI_sI, gI_sR]
    · simp [xrst, xst, gR_sI, gR_sR]
    · simp [xrst, xst, gR_sI, gR_sR]
  · intro A hA z
    rw [hpo] at z
    cases z
  · rintro P2 ⟨q1, q2, q3, q4, q5, q6⟩
    have hT2 := h.T2
    have : P2 = P := (nI_eqI (by omega) (by omega)).mp (q3.symm.trans hp)
    subst this
    refine ⟨q1, q2, q3, q4, Or.inr ⟨j, hj, ?_, ?_⟩, q6⟩
    · simp [xrst, xst, gR_sI, gR_sR]
    · simp [xrst, xst, gI_sI, gI_sR]
theorem y_swap (X : xS) (t A u : Nat) : xrlv (xst X t A) A u = xst (xrlv X A u) t A := by
  refine xS_ext rfl fun k i j => ?_
  simp only [xrlv, xst, gI_sI, gI_sR]
  by_cases c1 : k = 70
  · subst c1; simp
  · by_cases c2 : k = 82
    · subst c2; simp
    · by_cases c3 : k = 4
      · subst c3; simp
      · simp [c1, c2, c3]
theorem a_post (h : vI S n T C nP) (p k x : Int32) : xAPI mX8_post 4 0 0 mX9_post 3 [xI p, xI k, xI x] S := by
  rcases vpool_cases h p with ⟨h1, h2⟩ | ⟨P, hP, rfl, h1, h2, h3, h4, h5, h6, h7⟩
  · exact xAPI_eq (c_post_n1 h.X p k x none (c_postOf_n h.X p k h1)) (c_r_post_n h.M p k x h2) rfl h.i
  · have hN := h3.N
    have hT2 := h.T2
    by_cases e : 0 ≤ k ∧ k ≤ nI (nP P) - 1
    · obtain ⟨j, hj, rfl⟩ := rng2 (by omega) e
      have hj3 : j < 3 := by omega
      have e2 : 0 ≤ nI j ∧ nI j ≤ (gI S 54 0 P) - 1 := by rw [h3.2.2.2.1]; exact e
      have hpo := c_postOf_s h.X (nI P) h1 h3.2.2.1 hj e
      rcases vticket_cases h x with ⟨t1, t2⟩ | ⟨t, ht, rfl, t1, k1, ⟨P2, k2⟩, k3, k4⟩
      · exact xAPI_eq (c_post_n2 h.X (nI P) (nI j) x hpo t1) (c_r_post_t h.M hP h2 (nI j) e2 x t2) rfl h.i
      · have q7 := k1.2.2.2.2.2.2.1
        have q6 := k1.2.2.2.2.2.1
        have q3 := k1.2.2.1
        obtain ⟨w1, w2, w3, w4, w5, w6⟩ := k2
        have eP : P2 = P ↔ (gI S 73 0 t) = nI P := by rw [w3]; exact (nI_eqI (by omega) (by omega)).symm
        have eL : 20 ≤ (gI S 8 0 5) - (gI S 7 t 13) ↔ 20 ≤ (gI S 9 0 0) - (gI S 82 0 t) := by
          rw [h.now]
          rcases w6 with z | ⟨z1, z2⟩
          · rw [z]
          · obtain ⟨s1, -, -, -, s5, -⟩ := h.s
            have y1 : nI n - -20 = nI (n + 20) := by rw [← y_nIadd]; show nI n - -20 = nI n + 20; grind
            have y2 : nI n - -1000 = nI (n + 1000) := by rw [← y_nIadd]; show nI n - -1000 = nI n + 1000; grind
            rw [z1, z2, s5, y1, y2]
            exact ⟨fun _ => nI_le (a := 20) (by omega) (by omega), fun _ => nI_le (a := 20) (by omega) (by omega)⟩
        by_cases c : (gI S 74 0 t) = 5 ∧ ¬ (gI S 79 0 t) = 0 ∧ (gI S 73 0 t) = nI P ∧ 20 ≤ (gI S 9 0 0) - (gI S 82 0 t)
        · obtain ⟨c1, c2, c3, c4⟩ := c
          have eP2 := eP.mpr c3
          subst eP2
          by_cases cn : (gR S 7 t 12) = none
          · have hy : (gI S 7 t 2) = 5 ∧ ¬ (gI S 7 t 6) = 0 ∧ (gR S 7 t 12) = none ∧ 20 ≤ (gI S 8 0 5) - (gI S 7 t 13) := ⟨q3.trans c1, by rw [q7]; exact c2, cn, eL.mpr c4⟩
            have h0 : ∀ i, i < 3 → ¬ (gI S 70 0 (3 * P2 + i)) = nI t := by
              intro i hi z
              rcases (h6 i hi).2 with ⟨y1, -⟩ | ⟨v, v1, v2, v3, v4, v5, v6, v7, v8⟩
              · exact nI_m1 (t := t) (by omega) (z.symm.trans y1)
              · have : v = t := (nI_eqI (by omega) (by omega)).mp (v3.symm.trans z)
                subst this
                rw [cn] at v8; cases v8
            have ci : (gI S 79 0 t) = 1 := q6.resolve_left c2
            rcases (h6 j hj3).2 with ⟨y1, y2⟩ | ⟨v, v1, v2, v3, v4, v5, v6, v7, v8⟩
            · have a1 := c_post_e h.X (nI P2) (nI j) (nI t) hpo t1 h1 w4 hy (y2 hj)
              have a2 := c_r_post_e (S := xst S t (3 * P2 + j)) h.M hP h2 hj3 e2 h.hT hT2 ht ⟨c1, c2, c3, c4⟩ h0 y1
              exact xAPI_of a1 a2 (vInv.of (vI_st h ht hj3 hj hP w2 y1 cn ci c3 c1))
            · have a1 := c_post_s h.X (nI P2) (nI j) (nI t) hpo t1 h1 w4 hy v4 v8
              have kv := ((h.t v (by omega)).1 v1).1.2.1
              rw [kv] at a1
              have a2 := c_r_post_s (S := xst (ylp S (3 * P2 + j) v) t (3 * P2 + j)) h.M hP h2 hj3 e2 h.hT hT2 ht ⟨c1, c2, c3, c4⟩ h0 (U := v) (by omega) v3
              rw [y_swap] at a2
              have hvt : v ≠ t := fun y => by subst y; rw [cn] at v8; cases v8
              have hv := vI_lp h v1 hj3 hP w2 h6 v3 v8
              refine xAPI_of a1 a2 (vInv.of (vI_st hv ht hj3 hj hP w2 ?_ ?_ ci c3 c1))
              · simp [xrlv, ylp, gI_sI, gI_sR]
              · simp only [xrlv, ylp, gR_sI, gR_sR]
                repeat rw [if_neg (by omega)]
                exact cn
          · have cl : ∃ i, i < 3 ∧ (gI S 70 0 (3 * P2 + i)) = nI t := by
              rcases w5 with z | ⟨i, i1, i2, i3⟩
              · exact absurd z cn
              · exact ⟨i, i1, i3⟩
            have a1 := c_post_n3 h.X (nI P2) (nI j) (nI t) hpo t1 h1 w4 (fun z => cn z.2.2.2.1)
            rcases y_least (fun i => (gI S 70 0 (3 * P2 + i)) = nI t) 3 with z | ⟨i, i1, i2, i3⟩
            · obtain ⟨i, i1, i2⟩ := cl
              exact absurd i2 (z i i1)
            · exact xAPI_eq a1 (c_r_post_l h.M hP h2 (nI j) e2 h.hT hT2 ht ⟨c1, c2, c3, c4⟩ i1 i2 i3) rfl h.i
        · have a1 := c_post_n3 h.X (nI P) (nI j) (nI t) hpo t1 h1 w4 (by
            rintro ⟨z1, z2, z3, z4, z5⟩
            exact c ⟨q3.symm.trans z2, by rw [← q7]; exact z3, eP.mp z1, eL.mp z5⟩)
          exact xAPI_eq a1 (c_r_post_c h.M hP h2 (nI j) e2 h.hT hT2 ht c) rfl h.i
    · have e2 : ¬ (0 ≤ k ∧ k ≤ (gI S 54 0 P) - 1) := by rw [h3.2.2.2.1]; exact e
      exact xAPI_eq (c_post_n1 h.X (nI P) k x none (c_postOf_o h.X (nI P) k h1 h3.2.2.1 e)) (c_r_post_o h.M hP h2 k x e2) rfl h.i
end VPq
