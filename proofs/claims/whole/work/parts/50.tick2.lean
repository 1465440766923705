/-! ticket, the call -/
section VTy
variable {S : xS} {n T C : Nat} {nP : Nat → Nat}
theorem vI.cc (h : vI S n T C nP) {c : Nat} (hc : c < C) : 0 ≤ nI c ∧ nI c ≤ (gI S 9 0 35) - 1 := by
  have hC2 := h.C2
  rw [h.hC]; exact (rng1 (by omega) (by omega)).mpr hc
theorem a_ticket (h : vI S n T C nP) (p k a b : Int32) (hb : xB b) : xAPI mX8_ticket 4 1 14 mX9_ticket 3 [xI p, xI k, xI a, xI b] S := by
  rcases vpool_cases h p with ⟨h1, h2⟩ | ⟨P, hP, rfl, h1, h2, h3, h4⟩
  · exact xAPI_eq (c_ticket_p h.X p k a b h1) (c_r_ticket_p h.M p k a b h2) rfl h.i
  · have hT2 := h.T2
    obtain ⟨s1, s2, s3, s4, s5, s6, s7, s8, s9, s10, s11⟩ := h.s
    by_cases hT : T < 200
    · have hf : (gI S 8 0 6) < 200 := by rw [s6]; exact nI_lt (b := 200) (by omega) (by omega)
      have hL := ((h.t T hT).2 (by omega)).2.1
      have hp1 : (gI S 51 0 P) = 1 := h3.1
      have hPp : P < 4 := hP
      by_cases k1 : k = 1
      · subst k1
        have hs := c_isTicketSold_1 (S := S) P a
        by_cases e : 15 ≤ a ∧ a ≤ 240
        · rw [if_pos e] at hs
          have a1 := c_ticket_y h.X (nI P) 1 a b hb h1 s6 hT hs (r := none) (Or.inr ⟨by decide, rfl⟩) (fun q z => by cases z) hL
          have a2 := c_r_ticket_y (S := xnt S T P 1 a none b) h.M hP h2 s7 hT 1 a b (by decide) (by decide) (by decide) (fun _ => e)
          exact xAPI_of a1 a2 (vInv.of (vI_ticket h hT hP hp1 hb (by decide) (Or.inl ⟨by decide, rfl⟩)))
        · rw [if_neg e] at hs
          exact xAPI_eq (c_ticket_n h.X (nI P) 1 a b h1 hf hs) (c_r_ticket_1 h.M hP h2 a b e) rfl h.i
      · by_cases k23 : k = 2 ∨ k = 3
        · rcases vclub_cases h a with ⟨v1, v2⟩ | ⟨c, hc, rfl, v1, ⟨P2, v3⟩, v4⟩
          · have hs := c_isTicketSold_c h.X P k a k23 v1
            have a1 := c_ticket_n h.X (nI P) k a b h1 hf hs
            rcases k23 with rfl | rfl
            · exact xAPI_eq a1 (c_r_ticket_c2 h.M hP h2 a b v2) rfl h.i
            · exact xAPI_eq a1 (c_r_ticket_c3 h.M hP h2 a b v2) rfl h.i
          · have hC2 := h.C2
            have hcc := h.cc hc
            have v3' := v3
            obtain ⟨g1, g2, g3, g4, g5, g6, g7, g8, g9, -⟩ := v3
            have hs := c_isTicketSold_d h.X P c P2 k (nI c) k23 v1 g5
            rw [g8] at hs
            have eP : P2 = P ↔ (gI S 87 0 c) = nI P := by
              rw [g4]
              exact ⟨fun z => by rw [z], fun z => (nI_eqI (by omega) (by omega)).mp z⟩
            rcases k23 with rfl | rfl
            · by_cases e : (gI S 87 0 c) = nI P ∧ ¬ 0 < (gI S 91 0 c)
              · rw [if_neg (show ¬ (2 : Int32) = 3 by decide), if_neg e.2, if_pos ⟨eP.mpr e.1, rfl⟩] at hs
                have a1 := c_ticket_y h.X (nI P) 2 (nI c) b hb h1 s6 hT hs (Or.inl ⟨Or.inl rfl, v1⟩) (fun q z => by cases z; show (0 : Nat) ≠ 99; decide) hL
                have a2 := c_r_ticket_y2 (S := xnt S T P 2 (nI c) (some (0, c)) b) h.M hP h2 s7 hT (c := c) (by omega) hcc b e.1 e.2
                exact xAPI_of a1 a2 (vInv.of (vI_ticket h hT hP hp1 hb (by decide) (Or.inr ⟨Or.inl rfl, c, hc, rfl, rfl, e.1, ⟨fun z => absurd z (by decide), fun z => absurd z e.2⟩⟩)))
              · have n1 : ¬ (P2 = P ∧ (if 0 < (gI S 91 0 c) then (1 : Int32) else 0) = if (2 : Int32) = 3 then 1 else 0) := by
                  rintro ⟨z1, z2⟩
                  rw [if_neg (show ¬ (2 : Int32) = 3 by decide)] at z2
                  refine e ⟨eP.mp z1, fun y => ?_⟩
                  rw [if_pos y] at z2
                  exact absurd z2 (by decide)
                rw [if_neg n1] at hs
                exact xAPI_eq (c_ticket_n h.X (nI P) 2 (nI c) b h1 hf hs) (c_r_ticket_d2 h.M hP h2 (c := c) (by omega) hcc b e) rfl h.i
            · by_cases e : (gI S 87 0 c) = nI P ∧ 0 < (gI S 91 0 c)
              · rw [if_pos (show (3 : Int32) = 3 by decide), if_pos e.2, if_pos ⟨eP.mpr e.1, rfl⟩] at hs
                have a1 := c_ticket_y h.X (nI P) 3 (nI c) b hb h1 s6 hT hs (Or.inl ⟨Or.inr rfl, v1⟩) (fun q z => by cases z; show (0 : Nat) ≠ 99; decide) hL
                have a2 := c_r_ticket_y3 (S := xnt S T P 3 (nI c) (some (0, c)) b) h.M hP h2 s7 hT (c := c) (by omega) hcc b e.1 e.2
                exact xAPI_of a1 a2 (vInv.of (vI_ticket h hT hP hp1 hb (by decide) (Or.inr ⟨Or.inr rfl, c, hc, rfl, rfl, e.1, ⟨fun _ => e.2, fun _ => rfl⟩⟩)))
              · have n1 : ¬ (P2 = P ∧ (if 0 < (gI S 91 0 c) then (1 : Int32) else 0) = if (3 : Int32) = 3 then 1 else 0) := by
                  rintro ⟨z1, z2⟩
                  rw [if_pos (show (3 : Int32) = 3 by decide)] at z2
                  refine e ⟨eP.mp z1, Decidable.byContradiction fun y => ?_⟩
                  rw [if_neg y] at z2
                  exact absurd z2 (by decide)
                rw [if_neg n1] at hs
                exact xAPI_eq (c_ticket_n h.X (nI P) 3 (nI c) b h1 hf hs) (c_r_ticket_d3 h.M hP h2 (c := c) (by omega) hcc b e) rfl h.i
        · have hs := c_isTicketSold_o (S := S) P k a k1 k23
          by_cases e : 0 ≤ k ∧ k ≤ 5
          · rw [if_pos e] at hs
            have a1 := c_ticket_y h.X (nI P) k a b hb h1 s6 hT hs (r := none) (Or.inr ⟨k23, rfl⟩) (fun q z => by cases z) hL
            have a2 := c_r_ticket_y (S := xnt S T P k a none b) h.M hP h2 s7 hT k a b e (fun z => k23 (Or.inl z)) (fun z => k23 (Or.inr z)) (fun z => absurd z k1)
            exact xAPI_of a1 a2 (vInv.of (vI_ticket h hT hP hp1 hb e (Or.inl ⟨k23, rfl⟩)))
          · rw [if_neg e] at hs
            exact xAPI_eq (c_ticket_n h.X (nI P) k a b h1 hf hs) (c_r_ticket_o h.M hP h2 k a b e) rfl h.i
    · have e1 : ¬ (gI S 8 0 6) < 200 := by rw [s6, show T = 200 by omega]; decide
      have e2 : (gI S 9 0 22) = 200 := by rw [s7, show T = 200 by omega]; rfl
      exact xAPI_eq (c_ticket_f h.X (nI P) k a b h1 e1) (c_r_ticket_f (nI P) k a b e2) rfl h.i
end VTy
