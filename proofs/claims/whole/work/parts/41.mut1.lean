/-! calls that change little -/
/-- the same numbers at a pool -/
def vEq (S S' : xS) (p : Nat) : Prop := (∀ j, gI S' 3 p j = gI S 3 p j) ∧ (∀ j, gI S' 1 p j = gI S 1 p j) ∧ (∀ i, i < 3 → ∀ j, gI S' 4 (3 * p + i) j = gI S 4 (3 * p + i) j) ∧ (∀ i, i < 3 → ∀ j, gI S' 6 (3 * p + i) j = gI S 6 (3 * p + i) j) ∧ (∀ k, (50 < k ∧ k < 64) ∨ k = 69 ∨ k = 92 ∨ k = 93 → gI S' k 0 p = gI S k 0 p) ∧ ∀ k, (63 < k ∧ k < 69) ∨ k = 70 ∨ k = 71 → ∀ i, i < 3 → gI S' k 0 (3 * p + i) = gI S k 0 (3 * p + i)
theorem vP0_cong {S S' : xS} {p : Nat} (hR : S'.2 = S.2) (e : vEq S S' p) (h : vP0 S p) : vP0 S' p := by
  obtain ⟨e3, e1, e4, e6, er, et⟩ := e
  unfold vP0 at *
  simp (config := { contextual := true }) only [gR_2 hR, gL_2 hR, er 51 (by omega), er 52 (by omega), er 53 (by omega), er 54 (by omega), er 55 (by omega), er 56 (by omega), er 57 (by omega), er 58 (by omega), er 59 (by omega), er 60 (by omega), er 61 (by omega), er 62 (by omega), er 63 (by omega), er 69 (by omega), er 92 (by omega), er 93 (by omega), et 64 (by omega), et 65 (by omega), et 66 (by omega), et 67 (by omega), et 68 (by omega), et 70 (by omega), et 71 (by omega)]
  exact h
theorem vP1_cong {S S' : xS} {p N : Nat} (hR : S'.2 = S.2) (e : vEq S S' p) (h : vP1 S p N) : vP1 S' p N := by
  obtain ⟨e3, e1, e4, e6, er, et⟩ := e
  unfold vP1 at *
  simp only [gR_2 hR, er 51 (by omega), er 52 (by omega), er 53 (by omega), er 54 (by omega), er 63 (by omega), er 69 (by omega), er 92 (by omega), er 93 (by omega), e3]
  exact ⟨h.1, h.2.1, xShP_2 h.2.2.1 hR, h.2.2.2⟩
theorem vD_cong {S S' : xS} {p : Nat} (e : vEq S S' p) (h : vD S p) : vD S' p := by
  obtain ⟨e3, e1, e4, e6, er, et⟩ := e
  unfold vD at *
  simp only [er 55 (by omega), er 56 (by omega), er 57 (by omega), er 58 (by omega), er 59 (by omega), er 60 (by omega), er 61 (by omega), er 62 (by omega), e1]
  exact h
theorem vTh_cong {S S' : xS} {p : Nat} (e : vEq S S' p) (h : vTh S p) : vTh S' p := by
  obtain ⟨e3, e1, e4, e6, er, et⟩ := e
  intro j hj
  have h1 := h j hj
  simp only [et 64 (by omega) j hj, et 65 (by omega) j hj, et 66 (by omega) j hj, et 67 (by omega) j hj, et 68 (by omega) j hj, e6 j hj]
  exact h1
theorem vPo_cong {S S' : xS} {p N T : Nat} (hR : S'.2 = S.2) (e : vEq S S' p) (e2 : ∀ t, t < T → (gI S' 79 0 t) = (gI S 79 0 t) ∧ (gI S' 73 0 t) = (gI S 73 0 t) ∧ (gI S' 74 0 t) = (gI S 74 0 t)) (h : vPo S p N T) : vPo S' p N T := by
  obtain ⟨e3, e1, e4, e6, er, et⟩ := e
  intro j hj
  have h1 := h j hj
  simp only [et 70 (by omega) j hj, et 71 (by omega) j hj, e4 j hj, gR_2 hR]
  refine ⟨h1.1, h1.2.imp id ?_⟩
  rintro ⟨t, q1, q2, q3, q4, q5, q6, q7, q8⟩
  obtain ⟨w1, w2, w3⟩ := e2 t q1
  exact ⟨t, q1, q2, q3, q4, w1.trans q5, w2.trans q6, w3.trans q7, q8⟩
theorem xtru_cong {S S' : xS} {T : Nat} (x w : Int32) (e2 : ∀ t, t < T → (gI S' 79 0 t) = (gI S 79 0 t) ∧ (gI S' 73 0 t) = (gI S 73 0 t) ∧ (gI S' 74 0 t) = (gI S 74 0 t)) : xtru S' x w T = xtru S x w T :=
  xsm_cong fun t ht => by obtain ⟨w1, w2, w3⟩ := e2 t ht; rw [w1, w2, w3]
theorem vPool_cong {S S' : xS} {p T : Nat} {nP : Nat → Nat} (hR : S'.2 = S.2) (e : vEq S S' p) (e2 : ∀ t, t < T → (gI S' 79 0 t) = (gI S 79 0 t) ∧ (gI S' 73 0 t) = (gI S 73 0 t) ∧ (gI S' 74 0 t) = (gI S 74 0 t)) (h : vPool S T nP p) : vPool S' T nP p := by
  rcases h with h | ⟨h1, h2, h3, h4, h5⟩
  · exact Or.inl (vP0_cong hR e h)
  · refine Or.inr ⟨vP1_cong hR e h1, vD_cong e h2, vTh_cong e h3, vPo_cong hR e e2 h4, ?_⟩
    unfold vIn
    rw [xtru_cong _ _ e2, xtru_cong _ _ e2, e.1, e.1]
    exact h5
section VM
variable {S : xS} {n T C : Nat} {nP : Nat → Nat}
theorem a_price (h : vI S n T C nP) (x y : Int32) : xAPI mX8_price 3 0 0 mX9_price 3 [xI x, xI y] S := by
  by_cases e : (0 ≤ x ∧ x ≤ 23) ∧ 0 ≤ y ∧ y ≤ 10000
  · obtain ⟨j, hj, rfl⟩ := nI_of2 (n := 23) rfl (Int32.not_lt.mpr e.1.1) e.1.2
    have hj2 : j < 24 := by omega
    refine xAPI_of (c_price_s h.X y hj2 e.2) (c_r_price_s (S := (sI S 15 0 j y)) h.M y hj2 e.2) ⟨n, T, C, nP, h.X, h.M, h.s, h.p, h.t, h.c, h.l, ?_, h.u.2⟩
    intro k hk
    obtain ⟨u1, u2⟩ := h.u.1 k hk
    refine ⟨?_, u2⟩
    simp only [gI_sI]
    by_cases hkj : k = j
    · subst hkj; simp
    · simp [hkj]; exact u1
  · exact xAPI_eq (c_price_n x y e) (c_r_price_n x y e) rfl h.i
theorem a_pump (h : vI S n T C nP) (p x y : Int32) : xAPI mX8_pump 3 0 0 mX9_pump 3 [xI p, xI x, xI y] S := by
  rcases vpool_cases h p with ⟨h1, h2⟩ | ⟨P, hP, rfl, h1, h2, h3, h4⟩
  · exact xAPI_eq (c_pump_n h.X p x y h1) (c_r_pump_n h.M p h2 x y) rfl h.i
  · have a1 := c_pump_s h.X (nI P) x y h1
    by_cases e : (1 ≤ x ∧ x ≤ 100000) ∧ 1 ≤ y ∧ y ≤ 10000
    · rw [if_pos e, if_pos e] at a1
      have a2 := c_r_pump_s (S := (sI (sI S 3 P 10 x) 3 P 11 y)) h.M hP h2 x y
      rw [if_pos e, if_pos e] at a2
      refine xAPI_of a1 a2 ⟨n, T, C, nP, h.X, h.M, h.s, ?_, h.t, h.c, h.l, h.u⟩
      intro q hq
      by_cases hqP : q = P
      · subst hqP
        obtain ⟨q1, q2, q3, q4, q5, q6, q7, q8, q9, q10, q11, q12⟩ := h3
        refine Or.inr ⟨⟨q1, q2, q3, q4, q5, q6, q7, q8, q9, ?_, ?_, Or.inr ?_⟩, h4⟩
        · simp [gI_sI]
        · simp [gI_sI]
        · simp [gI_sI]; exact e
      · refine vPool_cong (S := S) rfl ?_ (fun t ht => ⟨rfl, rfl, rfl⟩) (h.p q hq)
        refine ⟨fun j => ?_, fun j => ?_, fun i hi j => ?_, fun i hi j => ?_, fun k hk => ?_, fun k hk i hi => ?_⟩ <;> (simp only [gI_sI]; repeat rw [if_neg (by omega)])
    · rw [if_neg e, if_neg e] at a1
      have a2 := c_r_pump_s h.M hP h2 x y
      rw [if_neg e, if_neg e] at a2
      exact xAPI_eq a1 a2 rfl h.i
end VM
section VM2
variable {S : xS} {n T C : Nat} {nP : Nat → Nat}
theorem a_put (h : vI S n T C nP) (p x : Int32) : xAPI mX8_put 3 0 0 mX9_put 3 [xI p, xI x] S := by
  rcases vpool_cases h p with ⟨h1, h2⟩ | ⟨P, hP, rfl, h1, h2, h3, h4⟩
  · exact xAPI_eq (c_put_n h.X p x h1) (c_r_put_n h.M p h2 x) rfl h.i
  · have a1 := c_put_s h.X (nI P) x h1
    by_cases e : 1 ≤ x ∧ x ≤ 240
    · rw [if_pos e, if_pos e] at a1
      have q8 := h3.2.2.2.2.2.2.2.1
      have e3 : (if (gI S 69 0 P) < (gI S 9 0 0) + x then (gI S 9 0 0) + x else (gI S 69 0 P)) = (if (gI S 3 P 8) < (gI S 8 0 5) + x then (gI S 8 0 5) + x else (gI S 3 P 8)) := by rw [q8, h.now]
      generalize (if (gI S 3 P 8) < (gI S 8 0 5) + x then (gI S 8 0 5) + x else (gI S 3 P 8)) = E at a1 e3
      have a2 := c_r_put_s (S := (sI S 3 P 8 E)) h.M hP h2 x
      rw [if_pos e, if_pos e, show (if (gI (sI S 3 P 8 E) 69 0 P) < (gI (sI S 3 P 8 E) 9 0 0) + x then (gI (sI S 3 P 8 E) 9 0 0) + x else (gI (sI S 3 P 8 E) 69 0 P)) = E from e3] at a2
      refine xAPI_of a1 a2 ⟨n, T, C, nP, h.X, h.M, h.s, ?_, h.t, h.c, h.l, h.u⟩
      intro q hq
      by_cases hqP : q = P
      · subst hqP
        obtain ⟨q1, q2, q3, q4, q5, q6, q7, q8, q9, q10, q11, q12⟩ := h3
        refine Or.inr ⟨⟨q1, q2, q3, q4, q5, q6, q7, ?_, q9, q10, q11, q12⟩, h4⟩
        simp [gI_sI]
      · refine vPool_cong (S := S) rfl ?_ (fun t ht => ⟨rfl, rfl, rfl⟩) (h.p q hq)
        refine ⟨fun j => ?_, fun j => ?_, fun i hi j => ?_, fun i hi j => ?_, fun k hk => ?_, fun k hk i hi => ?_⟩ <;> (simp only [gI_sI]; repeat rw [if_neg (by omega)])
    · rw [if_neg e, if_neg e] at a1
      have a2 := c_r_put_s h.M hP h2 x
      rw [if_neg e, if_neg e] at a2
      exact xAPI_eq a1 a2 rfl h.i
theorem a_eye (h : vI S n T C nP) (p b : Int32) (hb : xB b) : xAPI mX8_eye 3 0 0 mX9_eye 3 [xI p, xI b] S := by
  rcases vpool_cases h p with ⟨h1, h2⟩ | ⟨P, hP, rfl, h1, h2, h3, h4, h5, h6, h7⟩
  · exact xAPI_eq (c_eye_n h.X p b h1) (c_r_eye_n h.M p h2 b) rfl h.i
  · have a1 := c_eye_s h.X (nI P) b hb h1 h3.2.2.1
    obtain ⟨d1, d2, d3, d4, d5, d6, d7, d8, d9, d10⟩ := h4
    by_cases e : (gI S 1 P 0) = b
    · rw [if_pos e, if_pos e] at a1
      have a2 := c_r_eye_s h.M hP h2 b hb
      rw [if_pos (d1.symm.trans e), if_pos (d1.symm.trans e)] at a2
      exact xAPI_eq a1 a2 rfl h.i
    · rw [if_neg e, if_neg e] at a1
      have a2 := c_r_eye_s (S := (sI (sI S 1 P 0 b) 1 P 1 1)) h.M hP h2 b hb
      have e2 : ¬ (gI S 60 0 P) = b := by rw [← d1]; exact e
      rw [if_neg (show ¬ (gI (sI (sI S 1 P 0 b) 1 P 1 1) 60 0 P) = b from e2), if_neg (show ¬ (gI (sI (sI S 1 P 0 b) 1 P 1 1) 60 0 P) = b from e2)] at a2
      refine xAPI_of a1 a2 ⟨n, T, C, nP, h.X, h.M, h.s, ?_, h.t, h.c, h.l, h.u⟩
      intro q hq
      by_cases hqP : q = P
      · subst hqP
        refine Or.inr ⟨h3, ⟨?_, ?_, ?_, ?_, d5, d6, ?_, ?_, d9, d10⟩, h5, h6, h7⟩
        · simp [gI_sI]
        · simp [gI_sI]; exact hb
        · simp [gI_sI]
        · simp [gI_sI]; exact xB_1
        · intro z; simp [gI_sI] at z
        · intro z; simp [gI_sI]
      · refine vPool_cong (S := S) rfl ?_ (fun t ht => ⟨rfl, rfl, rfl⟩) (h.p q hq)
        refine ⟨fun j => ?_, fun j => ?_, fun i hi j => ?_, fun i hi j => ?_, fun k hk => ?_, fun k hk i hi => ?_⟩ <;> (simp only [gI_sI]; repeat rw [if_neg (by omega)])
theorem a_hand (h : vI S n T C nP) (p : Int32) : xAPI mX8_hand 3 0 0 mX9_hand 3 [xI p] S := by
  rcases vpool_cases h p with ⟨h1, h2⟩ | ⟨P, hP, rfl, h1, h2, h3, h4, h5, h6, h7⟩
  · exact xAPI_eq (c_hand_n h.X p h1) (c_r_hand_n h.M p h2) rfl h.i
  · have a1 := c_hand_s h.X (nI P) h1 h3.2.2.1
    obtain ⟨d1, d2, d3, d4, d5, d6, d7, d8, d9, d10⟩ := h4
    have hM2 : xShM (xsf S P (gI S 3 P 6) (gI S 3 P 6)) := h.M
    have a2 := c_r_hand_s (S := xsf S P (gI S 3 P 6) (gI S 3 P 6)) hM2 hP h2 h.hT h.T2
    have e1 : xtru (xsf S P (gI S 3 P 6) (gI S 3 P 6)) (nI P) 0 T = (gI S 3 P 6) := h7.1.symm
    rw [e1] at a2
    refine xAPI_of a1 a2 ⟨n, T, C, nP, h.X, h.M, h.s, ?_, h.t, h.c, h.l, h.u⟩
    intro q hq
    by_cases hqP : q = P
    · subst hqP
      refine Or.inr ⟨h3, ⟨d1, d2, ?_, ?_, ?_, ?_, ?_, ?_, d9, d10⟩, h5, h6, h7⟩
      · simp [gI_sI, xrbg, xsf, d1]
      · simp [gI_sI, xrbg, xsf]; exact xB_if _
      · simp [gI_sI, xrbg, xsf]
      · simp [gI_sI, xrbg, xsf]
      · intro z; simp [gI_sI, xrbg, xsf]
      · intro z
        have z2 : (gI S 60 0 q) = 0 := z
        simp [gI_sI, xrbg, xsf, z2]
    · refine vPool_cong (S := S) rfl ?_ (fun t ht => ⟨rfl, rfl, rfl⟩) (h.p q hq)
      refine ⟨fun j => ?_, fun j => ?_, fun i hi j => ?_, fun i hi j => ?_, fun k hk => ?_, fun k hk i hi => ?_⟩ <;> (simp only [gI_sI, xrbg, xsf]; repeat rw [if_neg (by omega)])
theorem a_bounds (h : vI S n T C nP) (p i a b : Int32) : xAPI mX8_bounds 4 0 0 mX9_bounds 3 [xI p, xI i, xI a, xI b] S := by
  rcases vpool_cases h p with ⟨h1, h2⟩ | ⟨P, hP, rfl, h1, h2, h3, h4, h5, h6, h7⟩
  · exact xAPI_eq (c_bounds_n h.X p i a b (c_thingOf_n h.X p i h1)) (c_r_bounds_n h.M p h2 i a b) rfl h.i
  · by_cases hi : 0 ≤ i ∧ i ≤ 2
    · obtain ⟨k, hk, rfl⟩ := nI_of2 (n := 2) rfl (Int32.not_lt.mpr hi.1) hi.2
      have hk3 : k < 3 := by omega
      have a1 := c_bounds_s (nI P) (nI k) a b (c_thingOf_s h.X (nI P) h1 h3.2.2.1 hk3)
      by_cases e : -100000 ≤ a ∧ b ≤ 100000 ∧ a ≤ b
      · rw [if_pos e, if_pos e] at a1
        have a2 := c_r_bounds_s (S := (sI (sI S 6 (3 * P + k) 0 a) 6 (3 * P + k) 1 b)) h.M hP h2 a b hk3
        have e2 : (-100000 ≤ a ∧ a ≤ 100000) ∧ (-100000 ≤ b ∧ b ≤ 100000) ∧ a ≤ b := ⟨⟨e.1, Int32.le_trans e.2.2 e.2.1⟩, ⟨Int32.le_trans e.1 e.2.2, e.2.1⟩, e.2.2⟩
        rw [if_pos e2, if_pos e2] at a2
        refine xAPI_of a1 a2 ⟨n, T, C, nP, h.X, h.M, h.s, ?_, h.t, h.c, h.l, h.u⟩
        intro q hq
        by_cases hqP : q = P
        · subst hqP
          refine Or.inr ⟨h3, h4, ?_, h6, h7⟩
          intro j hj
          obtain ⟨t1, t2, t3⟩ := h5 j hj
          by_cases hjk : j = k
          · subst hjk
            refine ⟨?_, ?_, t3⟩
            · simp [gI_sI]
            · simp [gI_sI]
          · refine ⟨?_, ?_, t3⟩
            · simp [gI_sI, hjk]; exact t1
            · simp [gI_sI, hjk]; exact t2
        · refine vPool_cong (S := S) rfl ?_ (fun t ht => ⟨rfl, rfl, rfl⟩) (h.p q hq)
          refine ⟨fun j => ?_, fun j => ?_, fun i hi j => ?_, fun i hi j => ?_, fun k hk => ?_, fun k hk i hi => ?_⟩ <;> (simp only [gI_sI]; repeat rw [if_neg (by omega)])
      · rw [if_neg e, if_neg e] at a1
        have a2 := c_r_bounds_s h.M hP h2 a b hk3
        have e2 : ¬ ((-100000 ≤ a ∧ a ≤ 100000) ∧ (-100000 ≤ b ∧ b ≤ 100000) ∧ a ≤ b) := fun z => e ⟨z.1.1, z.2.1.2, z.2.2⟩
        rw [if_neg e2, if_neg e2] at a2
        exact xAPI_eq a1 a2 rfl h.i
    · exact xAPI_eq (c_bounds_n h.X (nI P) i a b (c_thingOf_o h.X (nI P) i h1 hi)) (c_r_bounds_o h.M hP h2 i a b hi) rfl h.i
theorem a_leave (h : vI S n T C nP) (x : Int32) : xAPI mX8_leave 3 0 0 mX9_leave 3 [xI x] S := by
  rcases vclub_cases h x with ⟨h1, h2⟩ | ⟨c, hc, rfl, h1, ⟨P, h3⟩, h4⟩
  · exact xAPI_eq (c_leave_n h.X x h1) (c_r_leave_n h.M x h2) rfl h.i
  · have hC2 := h.C2
    have hc20 : c < 20 := by omega
    have a1 := c_leave_s h.X (nI c) h1
    have hcc : 0 ≤ nI c ∧ nI c ≤ (gI S 9 0 35) - 1 := by rw [h.hC]; exact (rng1 (by omega) (by omega)).mpr hc
    obtain ⟨g1, g2, g3, g4, g5, g6, g7, g8, g9, f, a, b, g10, g11, g12, g13, g14, g15, g16⟩ := h3
    obtain ⟨n1, -, -, n2, n3, -⟩ := h.s
    by_cases e : n < a
    · have e1 : (gI S 8 0 5) < (gI S 0 c 4) := by rw [n2, g14]; exact nI_lt (by omega) (by omega)
      rw [if_pos e1, if_pos e1] at a1
      have e0 : a = b ∧ f < b := by omega
      have e2 : (gI S 9 0 0) < (gI S 90 0 c) ∧ (gI S 89 0 c) < (gI S 90 0 c) := by rw [n3, g15, g13]; exact ⟨nI_lt (by omega) (by omega), nI_lt (by omega) (by omega)⟩
      have a2 := c_r_leave_s (S := (sI S 0 c 4 (gI S 8 0 5))) h.M hc20 hcc
      rw [if_pos (show (gI (sI S 0 c 4 (gI S 8 0 5)) 9 0 0) < (gI (sI S 0 c 4 (gI S 8 0 5)) 90 0 c) ∧ (gI (sI S 0 c 4 (gI S 8 0 5)) 89 0 c) < (gI (sI S 0 c 4 (gI S 8 0 5)) 90 0 c) from e2), if_pos (show (gI (sI S 0 c 4 (gI S 8 0 5)) 9 0 0) < (gI (sI S 0 c 4 (gI S 8 0 5)) 90 0 c) ∧ (gI (sI S 0 c 4 (gI S 8 0 5)) 89 0 c) < (gI (sI S 0 c 4 (gI S 8 0 5)) 90 0 c) from e2)] at a2
      refine xAPI_of a1 a2 ⟨n, T, C, nP, h.X, h.M, h.s, ?_, h.t, ?_, h.l, h.u⟩
      · intro q hq
        exact vPool_cong (S := S) rfl ⟨fun j => rfl, fun j => rfl, fun i hi j => rfl, fun i hi j => rfl, fun k hk => by (simp only [gI_sI]; repeat rw [if_neg (by omega)]), fun k hk i hi => by (simp only [gI_sI]; repeat rw [if_neg (by omega)])⟩ (fun t ht => ⟨rfl, rfl, rfl⟩) (h.p q hq)
      · intro k hk
        by_cases hkc : k = c
        · subst hkc
          refine ⟨fun _ => ⟨⟨P, g1, g2, g3, g4, g5, g6, g7, g8, g9, f, n, (if n < f then f else n), g10, ?_, g12, g13, ?_, ?_, ?_⟩, h4⟩, fun z => absurd hc (by omega)⟩
          · split <;> omega
          · simp [gI_sI, n2]
          · simp only [gI_sI]
            rw [if_pos ⟨trivial, trivial, trivial⟩]
            show (if (gI S 9 0 0) < (gI S 89 0 k) then (gI S 89 0 k) else (gI S 9 0 0)) = _
            rw [n3, g13]
            by_cases hf : n < f
            · rw [if_pos hf, if_pos (nI_lt (by omega) (by omega))]
            · rw [if_neg hf, if_neg (fun z => by have := nI_le (a := f) (b := n) (by omega) (by omega); exact absurd z (Int32.not_lt.mpr this))]
          · split <;> omega
        · have hk2 := h.c k hk
          refine ⟨fun z => ?_, hk2.2⟩
          obtain ⟨⟨P2, w1, w2, w3, w4, w5, w6, w7, w8, w9, f2, x2, y2, w10, w11, w12, w13, w14, w15, w16⟩, w17⟩ := hk2.1 z
          refine ⟨⟨P2, w1, w2, w3, w4, w5, w6, w7, w8, w9, f2, x2, y2, w10, w11, w12, w13, ?_, ?_, w16⟩, w17⟩
          · simp [gI_sI, hkc]; exact w14
          · simp [gI_sI, hkc]; exact w15
    · have e1 : ¬ (gI S 8 0 5) < (gI S 0 c 4) := by rw [n2, g14]; exact Int32.not_lt.mpr (nI_le (by omega) (by omega))
      rw [if_neg e1, if_neg e1] at a1
      have e2 : ¬ ((gI S 9 0 0) < (gI S 90 0 c) ∧ (gI S 89 0 c) < (gI S 90 0 c)) := by
        rw [n3, g15, g13]
        intro z
        rcases g16 with ⟨rfl, q2⟩ | ⟨q1, q2, rfl⟩
        · exact absurd z.1 (Int32.not_lt.mpr (nI_le (by omega) (by omega)))
        · exact absurd z.2 (Int32.not_lt.mpr (nI_le (by omega) (by omega)))
      have a2 := c_r_leave_s h.M hc20 hcc
      rw [if_neg e2, if_neg e2] at a2
      exact xAPI_eq a1 a2 rfl h.i
end VM2
