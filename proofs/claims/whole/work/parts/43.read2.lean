/-! calls that only answer, one by one -/
theorem i_sml {x : Int32} {m : Nat} (h : x.toInt < 0 ∨ (m : Int) < x.toInt ∨ ∃ j, j ≤ m ∧ x = nI j) : x.toInt < 0 ∨ (m : Int) < x.toInt ∨ ∃ j, j ≤ m ∧ x = nI j := h
theorem i_cases (x : Int32) (m : Nat) : (x.toInt < 0 ∨ (m : Int) < x.toInt) ∨ ∃ j, j ≤ m ∧ x = nI j := by
  by_cases h1 : x.toInt < 0
  · exact Or.inl (Or.inl h1)
  · by_cases h2 : (m : Int) < x.toInt
    · exact Or.inl (Or.inr h2)
    · right
      obtain ⟨j, hj, rfl⟩ := nI_of (x := x) (fun z => h1 (by rw [fa_lt, Int32.toInt_zero] at z; exact z))
      rw [nI_toInt hj] at h2
      exact ⟨j, by omega, rfl⟩
section VR2
variable {S : xS} {n T C : Nat} {nP : Nat → Nat}
theorem vP1.N {P N : Nat} (h : vP1 S P N) : N ≤ 3 := h.2.2.1.1
theorem vI.tt (h : vI S n T C nP) {t : Nat} (ht : t < T) : 0 ≤ nI t ∧ nI t ≤ (gI S 9 0 22) - 1 := by
  have hT2 := h.T2
  rw [h.hT]; exact (rng1 (by omega) (by omega)).mpr ht
theorem a_shut (h : vI S n T C nP) (p : Int32) : xAPI mX8_shut 4 0 0 mX9_shut 3 [xI p] S := by
  rcases vpool_cases h p with ⟨h1, h2⟩ | ⟨P, hP, rfl, h1, h2, h3, h4, h5, h6, h7⟩
  · exact xAPI_eq (c_shut_n h.X p h1) (c_r_shut_n h.M p h2) rfl h.i
  · exact xAPI_eq (c_shut_s h.X _ h1 h3.2.2.1) (c_r_shut_s h.M hP h2) (v_rs h h3 h5 h6 h3.N) h.i
theorem a_watcher (h : vI S n T C nP) (p k : Int32) : xAPI mX8_watcher 4 0 0 mX9_watcher 3 [xI p, xI k] S := by
  rcases vpool_cases h p with ⟨h1, h2⟩ | ⟨P, hP, rfl, h1, h2, h3, h4, h5, h6, h7⟩
  · exact xAPI_eq (c_watcher_n p k (c_postOf_n h.X p k h1)) (c_r_watcher_n h.M p k h2) rfl h.i
  · have hN := h3.N
    by_cases e : 0 ≤ k ∧ k ≤ nI (nP P) - 1
    · obtain ⟨j, hj, rfl⟩ := rng2 (by omega) e
      have hj3 : j < 3 := by omega
      have e2 : 0 ≤ nI j ∧ nI j ≤ (gI S 54 0 P) - 1 := by rw [h3.2.2.2.1]; exact e
      have hpo := c_postOf_s h.X (nI P) h1 h3.2.2.1 hj e
      rcases (h6 j hj3).2 with ⟨w1, w2⟩ | ⟨t, w1, w2, w3, w4, w5⟩
      · exact xAPI_eq (c_watcher_e _ _ hpo (w2 hj)) (c_r_watcher_s h.M hP h2 hj3 e2) w1.symm h.i
      · have hT2 := h.T2
        have hk := (h.t t (by omega)).1 w1
        exact xAPI_eq (c_watcher_s _ _ hpo w4) (c_r_watcher_s h.M hP h2 hj3 e2) (hk.1.2.1.trans w3.symm) h.i
    · have e2 : ¬ (0 ≤ k ∧ k ≤ (gI S 54 0 P) - 1) := by rw [h3.2.2.2.1]; exact e
      exact xAPI_eq (c_watcher_n _ _ (c_postOf_o h.X (nI P) k h1 h3.2.2.1 e)) (c_r_watcher_o h.M hP h2 k e2) rfl h.i
theorem v_told (h : vI S n T C nP) {t : Nat} (k1 : vT1 S t) (k3 : vT3 S C t) : xml S t (gI S 8 0 5) = if (gI S 79 0 t) = 0 then 0 else -(xrby S t) := by
  obtain ⟨q1, q2, q3, q4, q5, q6, q7, q8, q9, q10, q11, q12, q13, q14, q15⟩ := k1
  unfold xml xrby
  rw [q7, q3]
  by_cases e : (gI S 79 0 t) = 0
  · rw [if_pos (Or.inl e), if_pos e]
  · rw [if_neg e]
    have e1 : (gI S 79 0 t) = 1 := q6.resolve_left e
    by_cases ek : (gI S 74 0 t) = 1 ∨ (gI S 74 0 t) = 2 ∨ (gI S 74 0 t) = 3
    · rw [if_pos ek, if_neg, q8, q15 e1 ek, h.now, i_told]
      rintro (z | ⟨z1, z2⟩)
      · exact e z
      · rcases k3 with ⟨w1, -⟩ | ⟨-, c, -, -, w4, -⟩
        · exact ek.elim z1 w1
        · rw [w4] at z2; cases z2
    · rw [if_neg ek, if_pos]
      · rfl
      · refine Or.inr ⟨fun z => ek (Or.inl z), ?_⟩
        rcases k3 with ⟨-, w2⟩ | ⟨w1, -⟩
        · exact w2
        · exact absurd (Or.inr w1) ek
theorem a_told (h : vI S n T C nP) (x w : Int32) : xAPI mX8_told 3 0 0 mX9_told 4 [xI x, xI w] S := by
  rcases vticket_cases h x with ⟨h1, h2⟩ | ⟨t, ht, rfl, h1, k1, ⟨P, k2⟩, k3, k4⟩
  · exact xAPI_eq (c_told_n h.X x w h1) (c_r_told_n x w h2) rfl h.i
  · have k1' := k1
    obtain ⟨q1, q2, q3, q4, q5, q6, q7, q8, q9, q10, q11, q12, q13, q14, q15⟩ := k1
    rcases i_cases w 7 with e | ⟨j, hj, rfl⟩
    · exact xAPI_eq (c_told_o h.X _ w h1 e) (c_r_told_o h.M h.hT h.T2 ht w e) rfl h.i
    · have hj2 : j = 0 ∨ j = 1 ∨ j = 2 ∨ j = 3 ∨ j = 4 ∨ j = 5 ∨ j = 6 ∨ j = 7 := by omega
      rcases hj2 with rfl | rfl | rfl | rfl | rfl | rfl | rfl | rfl
      · refine xAPI_eq (c_told_0 h.X _ h1 k2.2.2.2.1) (c_r_told_0 h.M h.hT h.T2 ht) ?_ h.i
        have hp : (gI S 3 P 0) = nI P := by
          rcases h.p P k2.1 with z | z
          · exact absurd (z.1.symm.trans k2.2.1) (by decide)
          · exact z.1.2.2.2.2.1
        rw [hp, k2.2.2.1]
      · exact xAPI_eq (c_told_1 h.X _ h1) (c_r_told_1 h.M h.hT h.T2 ht) q3 h.i
      · exact xAPI_eq (c_told_2 h.X _ h1) (c_r_told_2 h.M h.hT h.T2 ht) q8 h.i
      · refine xAPI_eq (c_told_3 h.X _ h1) (c_r_told_3 h.M h.hT h.T2 ht) ?_ h.i
        rw [q7]
      · exact xAPI_eq (c_told_4 h.X _ h1) (c_r_told_4 h.M h.hT h.T2 ht) k4 h.i
      · exact xAPI_eq (c_told_5 h.X _ h1) (c_r_told_5 h.M h.hT h.T2 ht) q10 h.i
      · exact xAPI_eq (c_told_6 h.X _ h1) (c_r_told_6 h.M h.hT h.T2 ht) q9 h.i
      · exact xAPI_eq (c_told_7 h.X _ h1) (c_r_told_7 h.M h.hT h.T2 ht) (v_told h k1' k3) h.i
theorem v_ln {P : Nat} (h4 : vD S P) : xln S P = xrln S P ∧ xmn S P = xrmn S P := by
  obtain ⟨d1, d2, d3, d4, d5, d6, d7, d8, -, -⟩ := h4
  unfold xln xrln xrv xmn xrmn
  rw [d3, d5, d6]
  by_cases e : (gI S 59 0 P) = 0
  · rw [if_pos e, if_pos e, if_pos e, if_pos e, d7 e, i_add_sub, i_add_sub]
    refine ⟨?_, rfl⟩
    generalize (gI S 55 0 P) + (gI S 57 0 P) - (gI S 58 0 P) = v
    by_cases e1 : v = 0
    · subst e1; rfl
    · have e2 : 0 < v ↔ 0 ≤ v := by
        rw [fa_lt, fa_le]
        have : v.toInt ≠ (0 : Int32).toInt := fun z => e1 (Int32.toInt_inj.mp z)
        omega
      simp only [e2]
  · rw [if_neg e, if_neg e, if_neg e, if_neg e]
    refine ⟨?_, rfl⟩
    generalize (gI S 55 0 P) - 3 = v
    by_cases e1 : v = 0
    · subst e1; rfl
    · have e2 : 0 < v ↔ 0 ≤ v := by
        rw [fa_lt, fa_le]
        have : v.toInt ≠ (0 : Int32).toInt := fun z => e1 (Int32.toInt_inj.mp z)
        omega
      simp only [e2]
theorem a_count' (h : vI S n T C nP) (p x : Int32) (h5' : ∀ P, P < 4 → vP1 S P (nP P) → ∃ a, CC mX8_count 3 0 0 [xR (some (8, 0)), xI (nI P), xI 5] S (aI a S) ∧ CC mX9_count 3 0 0 [xR (some (9, 0)), xI (nI P), xI 5] S (aI a S)) : xAPI mX8_count 3 0 0 mX9_count 3 [xI p, xI x] S := by
  rcases vpool_cases h p with ⟨h1, h2⟩ | ⟨P, hP, rfl, h1, h2, h3, h4, h5, h6, h7⟩
  · exact xAPI_eq (c_count_n h.X p x h1) (c_r_count_n h.M p x h2) rfl h.i
  · rcases i_cases x 7 with e | ⟨j, hj, rfl⟩
    · exact xAPI_eq (c_count_o h.X _ x h1 e) (c_r_count_o h.M hP h2 x e) rfl h.i
    · have hN := h3.N
      have hj2 : j = 0 ∨ j = 1 ∨ j = 2 ∨ j = 3 ∨ j = 4 ∨ j = 5 ∨ j = 6 ∨ j = 7 := by omega
      rcases hj2 with rfl | rfl | rfl | rfl | rfl | rfl | rfl | rfl
      · exact xAPI_eq (c_count_0 h.X _ h1 h3.2.2.1) (c_r_count_0 h.M hP h2) (v_ln h4).1 h.i
      · exact xAPI_eq (c_count_1 h.X _ h1 h3.2.2.1) (c_r_count_1 h.M hP h2) (v_ln h4).2 h.i
      · exact xAPI_eq (c_count_2 h.X _ h1 h3.2.2.1) (c_r_count_2 h.M hP h2 h.hT h.T2) h7.1 h.i
      · exact xAPI_eq (c_count_3 h.X _ h1 h3.2.2.1) (c_r_count_3 h.M hP h2 h.hT h.T2) h7.2 h.i
      · exact xAPI_eq (c_count_4 h.X _ h1 h3.2.2.1) (c_r_count_4 h.M hP h2) h3.2.2.2.2.2.1 h.i
      · obtain ⟨a, e1, e2⟩ := h5' P hP h3
        exact xAPI_eq e1 e2 rfl h.i
      · exact xAPI_eq (c_count_6 h.X _ h1 h3.2.2.1) (c_r_count_6 h.M hP h2 h3.2.2.2.1 hN) (xsm_cong fun k hk => v_fil h.now h6 h.T2 (by omega) hk) h.i
      · refine xAPI_eq (c_count_7 h.X _ h1 h3.2.2.1) (c_r_count_7 h.M hP h2) ?_ h.i
        rw [h4.1]
theorem v_tru0 (h : vI S n T C nP) {P : Nat} (hP : P < 4) (h0 : (gI S 51 0 P) = 0) (w : Int32) : xtru S (nI P) w T = 0 := by
  refine xsm_zero fun t ht => if_neg ?_
  have hT2 := h.T2
  obtain ⟨-, ⟨P2, k2⟩, -⟩ := (h.t t (by omega)).1 ht
  rintro ⟨-, z, -⟩
  rw [k2.2.2.1] at z
  have e : P2 = P := by
    have := congrArg Int32.toInt z
    have h1 := k2.1
    rw [nI_toInt (by omega), nI_toInt (by omega)] at this
    omega
  subst e
  exact absurd (k2.2.1.symm.trans h0) (by decide)
theorem v_in (h : vI S n T C nP) : xsm (xin S) 4 = xsm (fun t => if (gI S 79 0 t) = 0 then 0 else 1) T := by
  have e1 : ∀ p, p < 4 → xin S p = xtru S (nI p) 0 T := by
    intro p hp
    unfold xin
    rcases h.p p hp with z | z
    · rw [z.2.1, v_tru0 h hp z.1]
    · rw [z.1.2.1]; exact z.2.2.2.2.1
  rw [xsm_cong e1]
  show (((0 + xtru S (nI 0) 0 T) + xtru S (nI 1) 0 T) + xtru S (nI 2) 0 T) + xtru S (nI 3) 0 T = _
  unfold xtru
  rw [Int32.zero_add, ← xsm_add, ← xsm_add, ← xsm_add]
  refine xsm_cong fun t ht => ?_
  have hT2 := h.T2
  obtain ⟨-, ⟨P2, k2⟩, -⟩ := (h.t t (by omega)).1 ht
  rw [k2.2.2.1]
  by_cases e : (gI S 79 0 t) = 0
  · rw [if_pos e, if_neg (fun z => z.1 e), if_neg (fun z => z.1 e), if_neg (fun z => z.1 e), if_neg (fun z => z.1 e)]; rfl
  · rw [if_neg e]
    have hP := k2.1
    have : P2 = 0 ∨ P2 = 1 ∨ P2 = 2 ∨ P2 = 3 := by omega
    rcases this with rfl | rfl | rfl | rfl
    · rw [if_pos ⟨e, rfl, Or.inl rfl⟩, if_neg (fun z => absurd z.2.1 (by decide)), if_neg (fun z => absurd z.2.1 (by decide)), if_neg (fun z => absurd z.2.1 (by decide))]; rfl
    · rw [if_pos (c := _ ∧ nI 1 = nI 1 ∧ _) ⟨e, rfl, Or.inl rfl⟩, if_neg (fun z => absurd z.2.1 (by decide)), if_neg (fun z => absurd z.2.1 (by decide)), if_neg (fun z => absurd z.2.1 (by decide))]; rfl
    · rw [if_pos (c := _ ∧ nI 2 = nI 2 ∧ _) ⟨e, rfl, Or.inl rfl⟩, if_neg (fun z => absurd z.2.1 (by decide)), if_neg (fun z => absurd z.2.1 (by decide)), if_neg (fun z => absurd z.2.1 (by decide))]; rfl
    · rw [if_pos (c := _ ∧ nI 3 = nI 3 ∧ _) ⟨e, rfl, Or.inl rfl⟩, if_neg (fun z => absurd z.2.1 (by decide)), if_neg (fun z => absurd z.2.1 (by decide)), if_neg (fun z => absurd z.2.1 (by decide))]; rfl
theorem a_all (h : vI S n T C nP) (x : Int32) : xAPI mX8_all 3 0 0 mX9_all 3 [xI x] S := by
  rcases i_cases x 6 with e | ⟨j, hj, rfl⟩
  · exact xAPI_eq (c_all_o x e) (c_r_all_o x e) rfl h.i
  · obtain ⟨s1, s2, s3, s4, s5, s6, s7, s8, s9, s10, s11⟩ := h.s
    have hj2 : j = 0 ∨ j = 1 ∨ j = 2 ∨ j = 3 ∨ j = 4 ∨ j = 5 ∨ j = 6 := by omega
    rcases hj2 with rfl | rfl | rfl | rfl | rfl | rfl | rfl
    · exact xAPI_eq (c_all_0 h.X) c_r_all_0 h.now h.i
    · exact xAPI_eq (c_all_1 h.X) c_r_all_1 (s6.trans s7.symm) h.i
    · exact xAPI_eq (c_all_2 h.X) c_r_all_2 (s8.trans s9.symm) h.i
    · refine xAPI_eq (c_all_3 h.X) (c_r_all_3 h.M) (xsm_cong fun l hl => ?_) h.i
      rcases (h.l.1 l hl).1 with ⟨q1, q2, q3⟩ | ⟨q1, q2, q3, q4⟩
      · rw [if_pos q1, if_pos q2]
      · rw [q1, if_neg (by decide), if_neg q3]
    · exact xAPI_eq (c_all_4 h.X) (c_r_all_4 h.M h.hT h.T2) s11 h.i
    · refine xAPI_eq (c_all_5 h.X ?_) (c_r_all_5 h.M h.hT h.T2) (v_in h) h.i
      intro p hp q hq
      rcases h.p p hp with z | z
      · rw [z.2.1] at hq; cases hq
      · rw [z.1.2.1] at hq; cases hq; rfl
    · refine xAPI_eq (c_all_6 h.X) (c_r_all_6 h.M) (xsm_cong fun l hl => ?_) h.i
      rcases (h.l.1 l hl).1 with ⟨q1, q2, q3⟩ | ⟨q1, q2, q3, q4⟩
      · rw [q3]
        by_cases e : (gI S 83 0 l) = -1
        · rw [if_pos e, if_neg (fun z => z.1 e)]
        · rw [if_neg e, if_pos ⟨e, q1⟩]
      · rw [q4, if_pos rfl, if_neg (fun z => absurd (q1.symm.trans z.2) (by decide))]
end VR2
