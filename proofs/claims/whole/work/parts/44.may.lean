/-! may -/
theorem nI_eqI {a b : Nat} (ha : a < 100000) (hb : b < 100000) : nI a = nI b ↔ a = b := by rw [fa_eq, nI_toInt (by omega), nI_toInt (by omega)]; omega
section VY
variable {S : xS} {n T C : Nat} {nP : Nat → Nat}
theorem vI.pool (h : vI S n T C nP) {P : Nat} (hP : P < 4) (e : (gI S 51 0 P) = 1) : ¬ (gI S 51 0 P) = 0 ∧ vP1 S P (nP P) ∧ vD S P ∧ vTh S P ∧ vPo S P (nP P) T ∧ vIn S P T := by
  rcases h.p P hP with z | z
  · exact absurd (z.1.symm.trans e) (by decide)
  · exact ⟨by rw [e]; decide, z⟩
theorem v_6 {P : Nat} (h4 : vD S P) : (if 3 ≤ (gI S 1 P 5) then (6 : Int32) else 0) = xr6 S P := by
  obtain ⟨a, ha, e1, e2⟩ := h4.2.2.2.2.2.2.2.2.1
  unfold xr6
  rw [e1, e2]
  have e3 : (3 : Int32) ≤ nI a ↔ nI a = 3 := (nI_leI (a := 3) (by omega) (by omega)).trans (Iff.trans (by omega) (nI_eqI (b := 3) (by omega) (by omega)).symm)
  simp only [e3]
theorem v_w {t P : Nat} (h : vI S n T C nP) (h3 : vP1 S P (nP P)) (h4 : vD S P) (h5 : vTh S P) (h6 : vPo S P (nP P) T) (k5 : ¬ (gI S 74 0 t) = 5) (Z : Int32) : (if ¬ xrs S P (nP P) (gI S 8 0 5) = 0 then 3 else if (gI S 3 P 1) ≤ xmn S P then 4 else Z) = if ¬ xrw S t P = 0 then xrw S t P else Z := by
  rw [v_rs h h3 h5 h6 h3.N, h3.2.2.2.2.2.1, (v_ln h4).2]
  unfold xrw
  have e := v_rnn (S := S) (P := P) 3 (by omega)
  have e2 : xrrl S P 3 ≤ 0 ↔ xrrl S P 3 = 0 := ⟨fun z => Int32.le_antisymm z e, fun z => by rw [z]; decide⟩
  by_cases c1 : xrrl S P 3 = 0
  · rw [if_neg (fun z => z c1)]
    have c2 : ¬ (¬ (gI S 74 0 t) = 5 ∧ ¬ xrrl S P 3 ≤ 0) := fun z => z.2 (e2.mpr c1)
    rw [if_neg c2]
    by_cases c3 : (gI S 52 0 P) ≤ xrmn S P
    · have c4 : ¬ (gI S 74 0 t) = 5 ∧ ¬ xrmn S P < (gI S 52 0 P) := ⟨k5, Int32.not_lt.mpr c3⟩
      rw [if_pos c3, if_pos c4]; rfl
    · have c4 : ¬ (¬ (gI S 74 0 t) = 5 ∧ ¬ xrmn S P < (gI S 52 0 P)) := fun z => c3 (Int32.not_lt.mp z.2)
      rw [if_neg c3, if_neg c4]; rfl
  · have c2 : ¬ (gI S 74 0 t) = 5 ∧ ¬ xrrl S P 3 ≤ 0 := ⟨k5, fun z => c1 (e2.mp z)⟩
    rw [if_pos c1, if_pos c2]; rfl
theorem v_w5 {t P : Nat} (k5 : (gI S 74 0 t) = 5) : xrw S t P = 0 := by
  unfold xrw
  rw [if_neg (fun z => z.1 k5), if_neg (fun z => z.1 k5)]
theorem v_may_u (h : vI S n T C nP) {t P : Nat} (k1 : vT1 S t) (hcl : (gR S 7 t 4) = none) (hk : ¬ ((gI S 74 0 t) = 2 ∨ (gI S 74 0 t) = 3)) (h3 : vP1 S P (nP P)) (h4 : vD S P) (h5 : vTh S P) (h6 : vPo S P (nP P) T) : xrg S t P (nP P) = xrmu S t P := by
  obtain ⟨q1, q2, q3, q4, q5, q6, q7, q8, q9, q10, q11, q12, q13, q14, q15⟩ := k1
  unfold xrg xrmu
  rw [q7, q3, v_6 h4]
  by_cases e1 : (gI S 79 0 t) = 0
  · have e1n : ¬ ¬ (gI S 79 0 t) = 0 := fun z => z e1
    have z0 : ¬ ¬ (0 : Int32) = 0 := fun z => z rfl
    rw [if_neg e1n, if_neg e1n]
    by_cases k5 : (gI S 74 0 t) = 5
    · have k4n : ¬ ((gI S 74 0 t) = 4 ∧ 0 < (gI S 81 0 t)) := fun z => absurd (k5.symm.trans z.1) (by decide)
      rw [if_pos k5, if_neg z0, if_neg k4n, v_w5 k5, if_neg z0]
    · rw [if_neg k5]
      have hlt : xlt S t = 0 := by unfold xlt; simp only [hcl]
      have hit : xit S t (gI S 8 0 5) = if ¬ (gI S 74 0 t) = 4 ∨ (gI S 81 0 t) = 0 then 1 else 0 := by unfold xit; simp only [hcl, q3, q9]
      unfold xrh
      rw [hit, hlt, if_pos (rfl : (0 : Int32) = 0)]
      by_cases k4 : (gI S 74 0 t) = 4 ∧ 0 < (gI S 81 0 t)
      · have c1 : ¬ (¬ (gI S 74 0 t) = 4 ∨ (gI S 81 0 t) = 0) := by
          rintro (z | z)
          · exact z k4.1
          · rw [z] at k4; exact absurd k4.2 (by decide)
        rw [if_neg c1, if_pos (rfl : (0 : Int32) = 0), if_pos k4]; rfl
      · have c1 : ¬ (gI S 74 0 t) = 4 ∨ (gI S 81 0 t) = 0 := by
          by_cases z : (gI S 74 0 t) = 4
          · right
            refine (q14 z).resolve_right fun y => k4 ⟨z, ?_⟩
            rw [y]; decide
          · exact Or.inl z
        rw [if_pos c1, if_neg (show ¬ (1 : Int32) = 0 by decide), if_neg k4, v_w h h3 h4 h5 h6 k5 0]
        by_cases c2 : xrw S t P = 0
        · have c2n : ¬ ¬ xrw S t P = 0 := fun z => z c2
          rw [if_neg c2n, if_neg c2n, if_neg z0]
        · rw [if_pos c2, if_pos c2]
  · rw [if_pos e1, if_pos e1]
/-- a club is there for both alike -/
theorem v_ct (h : vI S n T C nP) {c P : Nat} (k : vC1 S n c P) : ((gI S 0 c 2) ≤ (gI S 8 0 5) ∧ (gI S 8 0 5) < (gI S 0 c 4)) ↔ ((gI S 89 0 c) ≤ (gI S 9 0 0) ∧ (gI S 9 0 0) < (gI S 90 0 c)) := by
  obtain ⟨g1, g2, g3, g4, g5, g6, g7, g8, g9, f, a, b, g10, g11, g12, g13, g14, g15, g16⟩ := k
  obtain ⟨s1, s2, s3, s4, s5, -⟩ := h.s
  rw [g12, g13, g14, g15, s4, s5, nI_leI (by omega) (by omega), nI_ltI (by omega) (by omega), nI_ltI (by omega) (by omega)]
  omega
theorem v_may_c (h : vI S n T C nP) {t P c : Nat} (k1 : vT1 S t) (hcl : (gR S 7 t 4) = some (0, c)) (hk : (gI S 74 0 t) = 2 ∨ (gI S 74 0 t) = 3) (hk3 : (gI S 74 0 t) = 3 ↔ 0 < (gI S 91 0 c)) {P2 : Nat} (kc1 : vC1 S n c P2) (kc2 : vC2 S T c) (h3 : vP1 S P (nP P)) (h4 : vD S P) (h5 : vTh S P) (h6 : vPo S P (nP P) T) : xrg S t P (nP P) = xrmc S t P c T := by
  obtain ⟨q1, q2, q3, q4, q5, q6, q7, q8, q9, q10, q11, q12, q13, q14, q15⟩ := k1
  have ect := v_ct h kc1
  unfold xrg xrmc
  rw [q7, q3, v_6 h4]
  by_cases e1 : (gI S 79 0 t) = 0
  · have k5 : ¬ (gI S 74 0 t) = 5 := by rcases hk with z | z <;> rw [z] <;> decide
    have e1n : ¬ ¬ (gI S 79 0 t) = 0 := fun z => z e1
    have z0 : ¬ ¬ (0 : Int32) = 0 := fun z => z rfl
    rw [if_neg e1n, if_neg e1n, if_neg k5]
    have hlt : xlt S t = if (gI S 74 0 t) = 3 ∧ (gI S 76 0 t) = 0 ∧ ¬ xsch S (nI c) 0 T + 1 ≤ (gI S 91 0 c) * xsch S (nI c) 1 T then 1 else 0 := by
      unfold xlt
      simp only [hcl, q3]
      by_cases k3 : (gI S 74 0 t) = 3
      · have kc := kc2 (hk3.mp k3)
        simp only [q13 k3, kc.1, kc.2, kc1.2.2.2.2.2.2.2.1, Int32.not_le]
      · have n1 : ¬ ((gI S 74 0 t) = 3 ∧ (gI S 76 0 t) = 0 ∧ ¬ xsch S (nI c) 0 T + 1 ≤ (gI S 91 0 c) * xsch S (nI c) 1 T) := fun z => k3 z.1
        have n2 : ¬ ((gI S 74 0 t) = 3 ∧ (gI S 7 t 5) = 0 ∧ (gI S 0 c 3) * (gI S 0 c 6) < (gI S 0 c 5) + 1) := fun z => k3 z.1
        rw [if_neg n1, if_neg n2]
    have hit : xit S t (gI S 8 0 5) = if (gI S 89 0 c) ≤ (gI S 9 0 0) ∧ (gI S 9 0 0) < (gI S 90 0 c) then 1 else 0 := by
      unfold xit
      simp only [hcl, ect]
    unfold xrh
    rw [hit, hlt]
    by_cases c1 : (gI S 89 0 c) ≤ (gI S 9 0 0) ∧ (gI S 9 0 0) < (gI S 90 0 c)
    · have c1n : ¬ ¬ ((gI S 89 0 c) ≤ (gI S 9 0 0) ∧ (gI S 9 0 0) < (gI S 90 0 c)) := fun z => z c1
      rw [if_pos c1, if_neg (show ¬ (1 : Int32) = 0 by decide), if_neg c1n, v_w h h3 h4 h5 h6 k5]
      by_cases c2 : xrw S t P = 0
      · have c2n : ¬ ¬ xrw S t P = 0 := fun z => z c2
        rw [if_neg c2n, if_neg c2n]
        by_cases c3 : (gI S 74 0 t) = 3 ∧ (gI S 76 0 t) = 0 ∧ ¬ xsch S (nI c) 0 T + 1 ≤ (gI S 91 0 c) * xsch S (nI c) 1 T
        · rw [if_pos c3, if_pos c3]; rfl
        · rw [if_neg c3, if_neg c3]; rfl
      · rw [if_pos c2, if_pos c2, if_pos c2]
    · rw [if_neg c1, if_pos (rfl : (0 : Int32) = 0), if_pos c1]; rfl
  · rw [if_pos e1, if_pos e1]
/-- what both answer to may, with what it is made of -/
theorem v_may (h : vI S n T C nP) {t P : Nat} (ht : t < T) (k1 : vT1 S t) (k2 : vT2 S t P) (k3 : vT3 S C t) : CC mX9_may 4 0 0 [xR (some (9, 0)), xI (nI t)] S (aI (xrg S t P (nP P)) S) ∧ ∀ q, (gR S 7 t 4) = some q → q.1 = 0 := by
  obtain ⟨h2, h3, h4, h5, h6, h7⟩ := h.pool k2.1 k2.2.1
  rcases k3 with ⟨w1, w2⟩ | ⟨w1, c, w2, w3, w4, w5, w6⟩
  · refine ⟨?_, fun q z => by rw [w2] at z; cases z⟩
    rw [v_may_u h k1 w2 w1 h3 h4 h5 h6]
    exact c_r_may_u h.M h.hT h.T2 ht k2.1 k2.2.2.1 (fun z => w1 (Or.inl z)) (fun z => w1 (Or.inr z))
  · refine ⟨?_, fun q z => by rw [w4] at z; cases z; rfl⟩
    have hC2 := h.C2
    obtain ⟨⟨P2, y1⟩, y2⟩ := (h.c c (by omega)).1 w2
    rw [v_may_c h k1 w4 w1 w6 y1 y2 h3 h4 h5 h6]
    exact c_r_may_c h.M h.hT h.T2 ht k2.1 k2.2.2.1 (by omega) w3 w1
theorem a_may (h : vI S n T C nP) (x : Int32) : xAPI mX8_may 6 0 0 mX9_may 4 [xI x] S := by
  rcases vticket_cases h x with ⟨h1, h2⟩ | ⟨t, ht, rfl, h1, k1, ⟨P, k2⟩, k3, k4⟩
  · exact xAPI_eq (c_may_n h.X x h1) (c_r_may_n x h2) rfl h.i
  · obtain ⟨h2, h3, h4, h5, h6, h7⟩ := h.pool k2.1 k2.2.1
    obtain ⟨e1, e2⟩ := v_may h ht k1 k2 k3
    exact xAPI_eq (c_may_s h.X _ h1 k2.2.2.2.1 h3.2.2.1 e2) e1 rfl h.i
end VY
