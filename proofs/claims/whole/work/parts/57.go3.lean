/-! go, all its minutes -/
section VG3
variable {S : xS} {n T C : Nat} {nP : Nat → Nat}
theorem xS_ext {A B : xS} (h2 : A.2 = B.2) (h : ∀ k i j, gI A k i j = gI B k i j) : A = B := Prod.ext (funext fun k => funext fun i => funext fun j => h k i j) h2
theorem y_comm : yx (yr S) nP = yr (yx S nP) := by
  refine xS_ext (yx_2.trans (yr_2.trans (yr_2.trans yx_2).symm)) fun k i j => ?_
  by_cases e1 : k < 50 ∧ k ≠ 9
  · exact ((yC_yx (nP := nP) (yC_yr (S := S))).2 k i j e1.1 e1.2).trans ((yC_yr (S := yx S nP)).2 k i j e1.1 e1.2).symm
  · by_cases e2 : k = 9 ∨ 50 < k
    · exact (yR_yx (S := yr S) (nP := nP) k i j e2).trans (yR_yr (yR_yx (S := S) (nP := nP)) k i j e2).symm
    · rw [yx_o (by omega) (by omega) (by omega), yr_o (by omega) (by omega), yr_o (by omega) (by omega), yx_o (by omega) (by omega) (by omega)]
theorem y_commN : ∀ i, xrgm (yx S nP) i = yx (xrgm S i) nP
  | 0 => rfl
  | i + 1 => by
    show yr (xrgm (yx S nP) i) = yx (yr (xrgm S i)) nP
    rw [y_commN i, y_comm]
theorem y_step (i : Nat) : xrgm (xgm S nP (i + 1)) (i + 1) = yr (yx (xrgm (xgm S nP i) i) nP) := by
  show yr (xrgm (yx (xgm S nP i) nP) i) = _
  rw [y_commN]
theorem y_keep {A : xS} : ∀ i, (gI (xrgm A i) 8 0 5) = (gI A 8 0 5)
  | 0 => rfl
  | i + 1 => by
    show (gI (yr (xrgm A i)) 8 0 5) = _
    rw [yr_o (by omega) (by omega), y_keep i]
theorem vI_go (h : vI S n T C nP) : ∀ i, n + i < 1440 → vI (xrgm (xgm S nP i) i) (n + i) T C nP
  | 0, _ => h
  | i + 1, hi => by
    rw [y_step]
    exact vI_min (vI_go h i (by omega)) (by omega)
theorem y_nIadd (a : Nat) : ∀ b, nI a + nI b = nI (a + b)
  | 0 => by rw [show nI 0 = 0 from rfl, Int32.add_zero]; rfl
  | b + 1 => by rw [← nI_s b, ← Int32.add_assoc, y_nIadd a b, nI_s]; rfl
theorem a_go (h : vI S n T C nP) (x : Int32) : xAPI mX8_go 6 0 0 mX9_go 3 [xI x] S := by
  obtain ⟨s1, s2, s3, s4, s5, -⟩ := h.s
  by_cases e : (1 ≤ x ∧ x ≤ 240) ∧ (gI S 8 0 5) + x < 1440
  · obtain ⟨⟨e1, e2⟩, e3⟩ := e
    have hx0 : ¬ x < 0 := fun z => Int32.lt_irrefl (Int32.lt_of_lt_of_le z (Int32.le_trans (by decide : (0 : Int32) ≤ 1) e1))
    obtain ⟨m, hm, rfl⟩ := nI_of2 (n := 240) rfl hx0 e2
    have hm1 : 1 ≤ m := (nI_leI (a := 1) (by omega) (by omega)).mp e1
    have hq : xpok S nP := by
      intro p hp
      rcases h.p p hp with z | z
      · exact Or.inl z.2.1
      · exact Or.inr ⟨z.1.2.1, z.1.2.2.1⟩
    have a1 := c_go_y h.X hq hm1 (by omega) e3
    have e4 : n + m < 1440 := by
      rw [s4, y_nIadd] at e3
      exact (nI_ltI (b := 1440) (by omega) (by omega)).mp e3
    have hv := vI_go h m e4
    have hM1 : xShM (xgm S nP m) := xShM_2 h.M (xgm_2 m)
    have e5 : (gI (xgm S nP m) 9 0 0) = (gI S 9 0 0) := by
      have : ∀ i, (gI (xgm S nP i) 9 0 0) = (gI S 9 0 0) := by
        intro i
        induction i with
        | zero => rfl
        | succ i ih =>
          show (gI (yx (xgm S nP i) nP) 9 0 0) = _
          rw [yx_o (by omega) (by omega) (by omega), ih]
      exact this m
    have a2 := c_r_go_y hM1 hm1 (by omega) (by rw [e5, ← h.now]; exact e3)
    have e6 : (gI (xrgm (xgm S nP m) m) 9 0 0) = (gI (xgm S nP m) 8 0 5) := by rw [← y_keep (A := xgm S nP m) m]; exact hv.now.symm
    rw [e6] at a2
    exact xAPI_of a1 a2 (vInv.of hv)
  · refine xAPI_eq (c_go_n x e) (c_r_go_n x ?_) rfl h.i
    rw [← h.now]; exact e
end VG3
