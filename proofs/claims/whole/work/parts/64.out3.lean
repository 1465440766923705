/-! out, the call itself -/
section VO3
variable {S : xS} {n T C : Nat} {nP : Nat → Nat}
theorem v_nost (h : vI S n T C nP) {t : Nat} (ht : t < T) {A : Nat} (hA : A < 12) (hs : (gI S 70 0 A) = nI t) : (gR S 7 t 12) = some (4, A) := by
  have hT2 := h.T2
  obtain ⟨p, i, hp, hi, rfl⟩ : ∃ p i, p < 4 ∧ i < 3 ∧ A = 3 * p + i := ⟨A / 3, A % 3, by omega, by omega, by omega⟩
  rcases h.p p hp with z | ⟨z1, z2, z3, z4, z5⟩
  · exact absurd (hs.symm.trans (z.2.2.2.2.2.2.2.2.2 i hi).2.2.2.2.2.1) (nI_m1 (by omega))
  · rcases (z4 i hi).2 with ⟨y1, -⟩ | ⟨v, v1, v2, v3, v4, v5, v6, v7, v8⟩
    · exact absurd (hs.symm.trans y1) (nI_m1 (by omega))
    · have : v = t := (nI_eqI (by omega) (by omega)).mp (v3.symm.trans hs)
      subst this
      exact v8
theorem xlk_same {X : xS} {x : Int32} (e : ∀ l, gI X 83 0 l = gI S 83 0 l) : xlk X x = xlk S x := by unfold xlk; simp only [e]
/-- what the club is told when a ticket goes -/
theorem v_pass (h : vI S n T C nP) {t : Nat} (ht : t < T) (k1 : vT1 S t) (k3 : vT3 S C t) (w : Int32) : ∃ Y, xpc (xgo (sI S 8 0 9 ((gI S 8 0 9) + w)) t w) t (-1) = Y ∧ Y.2 = S.2 ∧ (∀ k i j, k ≠ 0 → gI Y k i j = gI (xgo (sI S 8 0 9 ((gI S 8 0 9) + w)) t w) k i j) ∧ (∀ c j, j ≠ 5 → j ≠ 6 → gI Y 0 c j = gI S 0 c j) ∧ (∀ c, c < C → 0 < (gI S 91 0 c) → (gI Y 0 c 5) = (gI S 0 c 5) + (if (gI S 74 0 t) = 3 ∧ (gI S 75 0 t) = nI c ∧ (gI S 76 0 t) = 0 then -1 else 0) ∧ (gI Y 0 c 6) = (gI S 0 c 6) + (if (gI S 74 0 t) = 3 ∧ (gI S 75 0 t) = nI c ∧ (gI S 76 0 t) = 1 then -1 else 0)) := by
  have hC2 := h.C2
  obtain ⟨q1, q2, q3, q4, q5, q6, q7, q8, q9, q10, q11, q12, q13, q14, q15⟩ := k1
  rcases k3 with ⟨w1, w2⟩ | ⟨w1, c, w2, w3, w4, w5, w6⟩
  · refine ⟨_, rfl, ?_⟩
    rw [xpc_none (show (gR (xgo (sI S 8 0 9 ((gI S 8 0 9) + w)) t w) 7 t 4) = none from w2)]
    refine ⟨rfl, fun _ _ _ _ => rfl, fun _ _ _ _ => rfl, fun c _ _ => ?_⟩
    rw [if_neg (fun z => w1 (Or.inr z.1)), if_neg (fun z => w1 (Or.inr z.1)), Int32.add_zero, Int32.add_zero]
    exact ⟨rfl, rfl⟩
  · refine ⟨xpass (xgo (sI S 8 0 9 ((gI S 8 0 9) + w)) t w) c (gI S 7 t 5) (-1), xpc_some (show (gR (xgo (sI S 8 0 9 ((gI S 8 0 9) + w)) t w) 7 t 4) = some (0, c) from w4), ?_⟩
    obtain ⟨S0, hS0⟩ : ∃ S0, S0 = xpass (xgo (sI S 8 0 9 ((gI S 8 0 9) + w)) t w) c (gI S 7 t 5) (-1) := ⟨_, rfl⟩
    rw [← hS0]
    unfold xpass at hS0
    by_cases b0 : (gI S 7 t 5) = 0
    · rw [if_pos b0] at hS0
      subst hS0
      refine ⟨rfl, fun k i j z => ?_, fun d j z1 z2 => ?_, fun d z1 z2 => ?_⟩
      · rw [gI_sI, if_neg (by omega)]
      · show gI (sI (xgo (sI S 8 0 9 ((gI S 8 0 9) + w)) t w) 0 c 5 _) 0 d j = _
        rw [gI_sI, if_neg (by omega)]; rfl
      · by_cases z3 : d = c
        · subst z3
          have z4 := w6.mpr z2
          have z5 : (gI S 76 0 t) = 0 := (q13 z4).symm.trans b0
          have n2 : ¬ ((gI S 74 0 t) = 3 ∧ (gI S 75 0 t) = nI d ∧ (gI S 76 0 t) = 1) := fun y => absurd (z5.symm.trans y.2.2) (by decide)
          rw [if_pos ⟨z4, w3, z5⟩, if_neg n2, Int32.add_zero]
          exact ⟨by simp [gI_sI]; rfl, rfl⟩
        · have z4 : ¬ (gI S 75 0 t) = nI d := fun y => z3 ((nI_eqI (by omega) (by omega)).mp (w3.symm.trans y)).symm
          rw [if_neg (fun y => z4 y.2.1), if_neg (fun y => z4 y.2.1), Int32.add_zero, Int32.add_zero]
          refine ⟨?_, rfl⟩
          show gI (sI (xgo (sI S 8 0 9 ((gI S 8 0 9) + w)) t w) 0 c 5 _) 0 d 5 = _
          rw [gI_sI, if_neg (by omega)]; rfl
    · rw [if_neg b0] at hS0
      subst hS0
      refine ⟨rfl, fun k i j z => ?_, fun d j z1 z2 => ?_, fun d z1 z2 => ?_⟩
      · rw [gI_sI, if_neg (by omega)]
      · show gI (sI (xgo (sI S 8 0 9 ((gI S 8 0 9) + w)) t w) 0 c 6 _) 0 d j = _
        rw [gI_sI, if_neg (by omega)]; rfl
      · by_cases z3 : d = c
        · subst z3
          have z4 := w6.mpr z2
          have z5 : (gI S 76 0 t) = 1 := (q13 z4).symm.trans (q11.resolve_left b0)
          have n1 : ¬ ((gI S 74 0 t) = 3 ∧ (gI S 75 0 t) = nI d ∧ (gI S 76 0 t) = 0) := fun y => absurd (z5.symm.trans y.2.2) (by decide)
          have n2 : (gI S 74 0 t) = 3 ∧ (gI S 75 0 t) = nI d ∧ (gI S 76 0 t) = 1 := ⟨z4, w3, z5⟩
          rw [if_neg n1, if_pos n2, Int32.add_zero]
          exact ⟨rfl, by simp [gI_sI]; rfl⟩
        · have z4 : ¬ (gI S 75 0 t) = nI d := fun y => z3 ((nI_eqI (by omega) (by omega)).mp (w3.symm.trans y)).symm
          rw [if_neg (fun y => z4 y.2.1), if_neg (fun y => z4 y.2.1), Int32.add_zero, Int32.add_zero]
          refine ⟨rfl, ?_⟩
          show gI (sI (xgo (sI S 8 0 9 ((gI S 8 0 9) + w)) t w) 0 c 6 _) 0 d 6 = _
          rw [gI_sI, if_neg (by omega)]; rfl
end VO3
