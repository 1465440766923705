/-! turn: how many hours are needed -/
theorem nI_mulI (a b : Nat) : nI a * nI b = nI (a * b) := (Int32.ofNat_mul a b).symm
theorem nI_addI (a b : Nat) : nI a + nI b = nI (a + b) := (Int32.ofNat_add a b).symm
theorem nI_subI {a b : Nat} (h : b ≤ a) : nI a - nI b = nI (a - b) := (Int32.ofNat_sub a b h).symm
theorem nI_div {a b : Nat} (ha : a < 2 ^ 31) (hb : b < 2 ^ 31) : nI a / nI b = nI (a / b) := by
  have h1 : nI b ≠ -1 := fun e => by
    have e2 : (nI b).toInt = (-1 : Int32).toInt := by rw [e]
    rw [nI_toInt hb] at e2
    have e3 : (-1 : Int32).toInt = -1 := by decide
    omega
  have h2 : a / b ≤ a := Nat.div_le_self a b
  rw [fa_eq, Int32.toInt_div_of_ne_right _ _ h1, nI_toInt ha, nI_toInt hb, nI_toInt (by omega)]
  rfl
theorem lN_ltI {a b : Nat} (ha : a < 2 ^ 63) (hb : b < 2 ^ 63) : lN a < lN b ↔ a < b := by
  have e : ∀ {k : Nat}, k < 2 ^ 63 → (lN k).toInt = (k : Int) := fun {k} h => Int64.toInt_ofNat_of_lt h
  rw [Int64.lt_iff_toInt_lt, e ha, e hb]
  omega
theorem y_hours {v f y : Nat} (hf : 1 ≤ f) : ∃ m, (v * (100 + y) + f * 100 - 1) / (f * 100) = m ∧ ∀ h, f * 100 * h < v * (100 + y) ↔ h < m := by
  refine ⟨_, rfl, fun h => ?_⟩
  have e : h < (v * (100 + y) + f * 100 - 1) / (f * 100) ↔ (h + 1) * (f * 100) ≤ v * (100 + y) + f * 100 - 1 := by
    rw [← Nat.le_div_iff_mul_le (by omega)]
    exact Iff.rfl
  rw [e, Nat.add_mul, Nat.mul_comm h]
  omega
section VTv
variable {S : xS} {n T C : Nat} {nP : Nat → Nat}
theorem v_hrs {v f y : Nat} {P : Nat} (hv : (gI S 92 0 P) = nI v) (hf : (gI S 93 0 P) = nI f) (hv2 : v ≤ 100000) (hf1 : 1 ≤ f) (hf2 : f ≤ 10000) (hy : y ≤ 1000) (e1 : (gI S 3 P 10) = (gI S 92 0 P)) (e2 : (gI S 3 P 11) = (gI S 93 0 P)) : ∃ m, m < 200000000 ∧ xhn S P (nI y) = nI m ∧ ∀ h, h < 100 → (xgiv S P h < xdue S P (nI y) ↔ h < m) := by
  obtain ⟨m, em, hm⟩ := y_hours (v := v) (f := f) (y := y) hf1
  have b1 : v * (100 + y) ≤ 100000 * 1100 := Nat.mul_le_mul hv2 (by omega)
  have b2 : (v * (100 + y) + f * 100 - 1) / (f * 100) ≤ v * (100 + y) + f * 100 - 1 := Nat.div_le_self _ _
  refine ⟨m, by omega, ?_, fun h hh => ?_⟩
  · unfold xhn
    rw [e1, e2, hv, hf]
    have w : nI f * 100 = nI (f * 100) := nI_mulI f 100
    rw [w, if_neg (show ¬ nI (f * 100) < 1 from Int32.not_lt.mpr (nI_le (a := 1) (b := f * 100) (by omega) (by omega))), show (100 : Int32) + nI y = nI (100 + y) from nI_addI 100 y, nI_mulI, nI_addI, show nI (v * (100 + y) + f * 100) - 1 = nI (v * (100 + y) + f * 100 - 1) from nI_subI (b := 1) (by omega), nI_div (by omega) (by omega), em]
  · unfold xgiv xdue
    have b3 : f * 100 * h ≤ 1000000 * 100 := Nat.mul_le_mul (by omega) (by omega)
    rw [hv, hf, nI_l (by omega), nI_l (by omega), nI_l (by omega), show (100 : Int32) + nI y = nI (100 + y) from nI_addI 100 y, nI_l (by omega), show (100 : Int64) * lN f * lN h = lN (f * 100 * h) from by
      rw [Nat.mul_comm f 100]
      exact ((Int64.ofNat_mul (100 * f) h).trans (congrArg (· * _) (Int64.ofNat_mul 100 f))).symm, show lN v * lN (100 + y) = lN (v * (100 + y)) from (Int64.ofNat_mul v (100 + y)).symm, lN_ltI (by omega) (by omega)]
    exact hm h
theorem a_turn (h : vI S n T C nP) (p x : Int32) : xAPI mX8_turn 3 0 0 mX9_turn 3 [xI p, xI x] S := by
  rcases vpool_cases h p with ⟨h1, h2⟩ | ⟨P, hP, rfl, h1, h2, h3, h4⟩
  · exact xAPI_eq (c_turn_n h.X p x h1) (c_r_turn_n h.M p x h2) rfl h.i
  · obtain ⟨q1, q2, q3, q4, q5, q6, q7, q8, q9, q10, q11, q12⟩ := h3
    rcases q12 with ⟨z1, z2⟩ | ⟨⟨k1, k2⟩, k3, k4⟩
    · exact xAPI_eq (c_turn_o h.X (nI P) x h1 (fun z => absurd (show (1 : Int32) ≤ 0 from (q11.trans z2) ▸ z.1) (by decide))) (c_r_turn_o h.M hP h2 x (fun z => z.1 z1)) rfl h.i
    · by_cases ex : 0 ≤ x ∧ x ≤ 1000
      · obtain ⟨y, hy, rfl⟩ := nI_of2 (n := 1000) rfl (Int32.not_lt.mpr ex.1) ex.2
        obtain ⟨v, hv2, hv⟩ := nI_of2 (n := 100000) rfl (Int32.not_lt.mpr (Int32.le_trans (by decide : (0 : Int32) ≤ 1) k1)) k2
        obtain ⟨f, hf2, hf⟩ := nI_of2 (n := 10000) rfl (Int32.not_lt.mpr (Int32.le_trans (by decide : (0 : Int32) ≤ 1) k3)) k4
        have hf1 : 1 ≤ f := by
          rw [hf] at k3
          exact (nI_leI (a := 1) (by omega) (by omega)).mp k3
        have hv1 : 1 ≤ v := by
          rw [hv] at k1
          exact (nI_leI (a := 1) (by omega) (by omega)).mp k1
        obtain ⟨m, hm1, hm2, hm3⟩ := v_hrs hv hf hv2 hf1 hf2 hy q10 q11
        have g1 : 1 ≤ (gI S 3 P 11) := by rw [q11]; exact k3
        have g2 : ¬ (gI S 92 0 P) = 0 := fun z => absurd (show (1 : Int32) ≤ 0 from z ▸ k1) (by decide)
        by_cases em : m ≤ 24
        · have a1 := c_turn_s h.X (nI P) (nI y) h1 ⟨g1, ex⟩ hm2 em
          obtain ⟨X, hX⟩ : ∃ X, X = xtc S m := ⟨_, rfl⟩
          have r2 : X.2 = S.2 := by
            subst hX
            exact (xtk_2 m).trans (xclr_2 24)
          have rr : ∀ k i j, k ≠ 16 → ¬ (k = 5 ∧ (j = 2 ∨ j = 3)) → gI X k i j = gI S k i j := by
            intro k i j h1 h2
            subst hX
            unfold xtc
            rw [xtk_o h1 (by omega), xclr_I, if_neg (by omega), gI_sI, gI_sI, if_neg (by omega), if_neg (by omega)]
          have i1 : ¬ (gI X 51 0 P) = 0 := by rw [rr 51 0 P (by omega) (by omega)]; exact h2
          have ev : (gI X 92 0 P) = (gI S 92 0 P) := rr _ 0 P (by omega) (by omega)
          have ef : (gI X 93 0 P) = (gI S 93 0 P) := rr _ 0 P (by omega) (by omega)
          have ew : ∀ k, xgiv X P k = xgiv S P k := fun k => by unfold xgiv; rw [ef]
          have ed : xdue X P (nI y) = xdue S P (nI y) := by unfold xdue; rw [ev]
          have a2 := c_r_turn_s (S := X) (xShM_2 h.M r2) hP i1 (nI y) (by rw [ev]; exact ⟨g2, ex⟩) em (fun k hk => by rw [ew, ed]; exact (hm3 k (by omega)).mpr hk) (by rw [ew, ed]; exact fun z => absurd ((hm3 m (by omega)).mp z) (by omega)) (fun i hi => xrtk_free (fun k hk => by rw [xrclr_I, if_pos ⟨rfl, rfl, hk⟩]) (by omega))
          subst hX
          exact xAPI_of a1 a2 (vI_turn h m).i
        · have e24 : 24 < xhn S P (nI y) := by
            rw [hm2]
            exact (nI_ltI (a := 24) (by omega) (by omega)).mpr (by omega)
          exact xAPI_eq (c_turn_m h.X (nI P) (nI y) h1 ⟨g1, ex⟩ e24) (c_r_turn_m h.M hP h2 (nI y) ⟨g2, ex⟩ (fun k hk => (hm3 k (by omega)).mpr (by omega))) rfl h.i
      · exact xAPI_eq (c_turn_o h.X (nI P) x h1 (fun z => ex z.2)) (c_r_turn_o h.M hP h2 x (fun z => ex z.2)) rfl h.i
end VTv
