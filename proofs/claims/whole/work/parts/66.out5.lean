/-! out, the call -/
section VO5
variable {S : xS} {n T C : Nat} {nP : Nat → Nat}
theorem v_to2 (h : vI S n T C nP) {t P : Nat} (ht : t < T) (k1 : vT1 S t) (k3 : vT3 S C t) (k i j : Nat) (hk : k = 9 ∨ 50 < k ∨ (k = 7 ∧ j = 11)) : gI (xto2 S t P) k i j = gI S k i j := by
  obtain ⟨Y, y1, y2, y3, -, -⟩ := v_pass h ht k1 k3 (xoc S t)
  unfold xto2 xto1
  rw [y1]
  have e : gI (xlp Y t (gI S 8 0 5)) k i j = gI Y k i j := by
    unfold xlp
    split
    · rfl
    · simp only [gI_sI, gI_sR]
      repeat rw [if_neg (by omega)]
  have e2 : gI (xlo (xlp Y t (gI S 8 0 5)) P t) k i j = gI (xlp Y t (gI S 8 0 5)) k i j := by
    simp only [xlo, gI_sI]
    repeat rw [if_neg (by omega)]
  rw [e2, e, y3 k i j (by omega)]
  simp only [xgo, gI_sI]
  repeat rw [if_neg (by omega)]
theorem y_sw5 (X : xS) (A t k i j : Nat) (v : Int32) (h1 : k < 50) (h2 : k ≠ 9) : xrlv (sI X k i j v) A t = sI (xrlv X A t) k i j v := by
  refine xS_ext rfl fun a b c => ?_
  simp only [xrlv, gI_sI]
  by_cases c1 : a = 82
  · subst c1; simp [show ¬ 82 = k by omega, show ¬ 9 = k by omega]
  · by_cases c2 : a = 70
    · subst c2; simp [show ¬ 70 = k by omega]
    · simp [c1, c2]
theorem y_sw4 (X : xS) (t P k i j : Nat) (v : Int32) (h1 : k < 50) (h2 : k ≠ 9) : ∀ m, xrol (sI X k i j v) t P m = sI (xrol X t P m) k i j v
  | 0 => rfl
  | m + 1 => by
    show (if (gI (xrol (sI X k i j v) t P m) 70 0 (3 * P + m)) = nI t then xrlv (xrol (sI X k i j v) t P m) (3 * P + m) t else xrol (sI X k i j v) t P m) = sI (if (gI (xrol X t P m) 70 0 (3 * P + m)) = nI t then xrlv (xrol X t P m) (3 * P + m) t else xrol X t P m) k i j v
    have e : (gI (sI (xrol X t P m) k i j v) 70 0 (3 * P + m)) = (gI (xrol X t P m) 70 0 (3 * P + m)) := by rw [gI_sI, if_neg (by omega)]
    rw [y_sw4 X t P k i j v h1 h2 m, e]
    split
    · exact y_sw5 _ _ _ _ _ _ _ h1 h2
    · rfl
theorem y_83 (X : xS) (t P l : Nat) : ∀ m, gI (xrol X t P m) 83 0 l = gI X 83 0 l
  | 0 => rfl
  | m + 1 => by
    show gI (if (gI (xrol X t P m) 70 0 (3 * P + m)) = nI t then xrlv (xrol X t P m) (3 * P + m) t else xrol X t P m) 83 0 l = _
    split
    · rw [← y_83 X t P l m]; rfl
    · exact y_83 X t P l m
theorem a_out (h : vI S n T C nP) (x : Int32) : xAPI mX8_out 4 0 0 mX9_out 4 [xI x] S := by
  rcases vticket_cases h x with ⟨h1, h2⟩ | ⟨t, ht, rfl, h1, k1, ⟨P, k2⟩, k3, k4⟩
  · exact xAPI_eq (c_out_n h.X x h1) (c_r_out_n x h2) rfl h.i
  · have hT2 := h.T2
    have q7 := k1.2.2.2.2.2.2.1
    have q6 := k1.2.2.2.2.2.1
    obtain ⟨p2, p3, p4, p5, p6, p7⟩ := h.pool k2.1 k2.2.1
    obtain ⟨-, hc⟩ := v_may h ht k1 k2 k3
    by_cases hi : (gI S 79 0 t) = 0
    · exact xAPI_eq (c_out_i h.X (nI t) h1 (q7.trans hi)) (c_r_out_i h.M h.hT hT2 ht hi) rfl h.i
    · have hi' : ¬ (gI S 7 t 6) = 0 := by rw [q7]; exact hi
      obtain ⟨a, a0, a1, a2⟩ := p4.2.2.2.2.2.2.2.2.2
      have ew : 3 ≤ (gI S 1 P 6) ↔ (gI S 62 0 P) = 3 := by
        rw [a1, a2]
        exact (nI_leI (a := 3) (by omega) (by omega)).trans (Iff.trans (by omega) (nI_eqI (b := 3) (by omega) (by omega)).symm)
      by_cases hd : (gI S 62 0 P) = 3
      · exact xAPI_eq (c_out_d h.X (nI t) h1 hi' k2.2.2.2.1 p3.2.2.1 (ew.mpr hd)) (c_r_out_d h.M h.hT hT2 ht k2.1 k2.2.2.1 hi hd) rfl h.i
      · have b1 := c_out_s h.X (nI t) h1 hi' k2.2.2.2.1 p3.2.2.1 (fun z => hd (ew.mp z)) hc (fun q z => by
          rcases k2.2.2.2.2.1 with y | ⟨j, -, y, -⟩
          · rw [y] at z; cases z
          · rw [y] at z; cases z; rfl)
        have hw := v_coins h k1 k3 hi
        have hB := v_out1 h ht k1 k2 k3 (q6.resolve_left hi) hd
        have r2 := fun k i j hk => v_to2 (P := P) h ht k1 k3 k i j hk
        have hZl : (gI (xto2 S t P) 7 t 11) = xon (xlk S (nI t)) := (r2 7 t 11 (by omega)).trans k4
        have h83 : ∀ l, gI (xrol (xro1 (xto2 S t P) t P) t P 3) 83 0 l = gI S 83 0 l := by
          intro l
          rw [y_83]
          simp only [xro1, gI_sI]
          repeat rw [if_neg (by omega)]
          exact r2 83 0 l (by omega)
        have hS1 : vCls S (xto S t P) := by
          intro k i j hk
          unfold xto
          rw [gI_sI, if_neg (by omega)]
          unfold xtol
          split
          · rw [gI_sI, if_neg (by omega)]; exact r2 k i j (by omega)
          · exact r2 k i j (by omega)
        have hM1 : xShM (xto S t P) := by
          have hM2 : xShM (xto2 S t P) := by
            have := hB.M
            exact xShM_2 this (by rw [xrol_2]; rfl)
          unfold xto xtol
          split
          · exact hM2
          · exact hM2
        have b2 := c_r_out_s hM1 ((hS1 9 _ _ (by omega)).trans h.hT) hT2 ht k2.1 ((hS1 73 _ _ (by omega)).trans k2.2.2.1) (by rw [hS1 79 _ _ (by omega)]; exact hi) (by rw [hS1 62 _ _ (by omega)]; exact hd)
        rw [xrcn_cong hS1, ← hw] at b2
        refine xAPI_of b1 b2 ?_
        cases e1 : xlk S (nI t) with
        | none =>
          have e2 : (gI (xto2 S t P) 7 t 11) = -1 := by rw [hZl, e1]; rfl
          have e3 : xto S t P = xto2 S t P := by
            unfold xto xtol
            rw [e2, if_neg (by decide)]
            exact sI_id _ _ _ _ e2
          rw [e3]
          unfold xro
          rw [xlk_same h83, e1]
          exact vInv.of hB
        | some l =>
          obtain ⟨hl, -⟩ := xlk_some e1
          have e2 : (gI (xto2 S t P) 7 t 11) = nI l := by rw [hZl, e1]; rfl
          have e3 : xto S t P = (sI (sI (xto2 S t P) 14 0 l 1) 7 t 11 (-1)) := by
            unfold xto xtol
            rw [e2, if_pos ⟨nI_le (a := 0) (by omega) (by omega), nI_lt (b := 30) (by omega) (by omega)⟩, vnat (n := 30) hl (by decide)]
          rw [e3]
          unfold xro
          rw [y_sw1 _ _ _ _ _ _ _ (by omega) (by omega), y_sw1 _ _ _ _ _ _ _ (by omega) (by omega), y_sw4 _ _ _ _ _ _ _ (by omega) (by omega), y_sw4 _ _ _ _ _ _ _ (by omega) (by omega), show xlk (sI (sI (xrol (xro1 (xto2 S t P) t P) t P 3) 14 0 l 1) 7 t 11 (-1)) (nI t) = some l from (xlk_same (S := S) (fun l => h83 l)).trans e1]
          exact vInv.of (vI_lose hB ht ((xlk_same h83).trans e1))
end VO5
