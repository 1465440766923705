/-! out: its key is lost -/
section VLo
variable {S : xS} {n T C : Nat} {nP : Nat → Nat}
theorem vI_lose (h : vI S n T C nP) {t l : Nat} (ht : t < T) (e1 : xlk S (nI t) = some l) : vI (sI (sI (sI (sI S 14 0 l 1) 7 t 11 (-1)) 83 0 l (-1)) 84 0 l (nI t)) n T C nP := by
  have hT2 := h.T2
  obtain ⟨hl, e2⟩ := xlk_some e1
  obtain ⟨l1, l2⟩ := h.l
  have e3 : ¬ (gI S 83 0 l) = -1 := by rw [e2]; exact nI_m1 (by omega)
  have y2 : (gI S 13 0 l) = (gI S 83 0 l) := by
    rcases (l1 l hl).1 with z | z
    · exact z.2.2
    · exact absurd z.2.2.2 e3
  refine ⟨h.X, h.M, h.s, h.p, ?_, h.c, ?_, h.u⟩
  · intro u hu
    refine vTk_key (S := S) rfl (fun j hj => ?_) (fun k b hk1 hk2 hk3 => ?_) (fun hut => ?_) (h.t u hu)
    · (simp only [gI_sI]; repeat rw [if_neg (by omega)])
    · (simp only [gI_sI]; repeat rw [if_neg (by omega)])
    · by_cases eu : u = t
      · subst eu
        have e6 : xlk (sI (sI (sI (sI S 14 0 l 1) 7 u 11 (-1)) 83 0 l (-1)) 84 0 l (nI u)) (nI u) = none := by
          refine yfi_none 30 (fun k hk z => ?_)
          have z2 := of_decide_eq_true z
          simp only [gI_sI] at z2
          by_cases ekl : k = l
          · rw [if_neg (by omega), if_pos ⟨trivial, ekl, trivial⟩] at z2
            exact nI_m1 (by omega) z2.symm
          · rw [if_neg (by omega), if_neg (by omega), if_neg (by omega), if_neg (by omega)] at z2
            exact ekl (l2 k l hk hl (by rw [z2]; exact nI_m1 (by omega)) (z2.trans e2.symm))
        rw [e6]
        simp [gI_sI, xon]
      · have e6 : xlk (sI (sI (sI (sI S 14 0 l 1) 7 t 11 (-1)) 83 0 l (-1)) 84 0 l (nI t)) (nI u) = xlk S (nI u) := by
          refine yfi_cong 30 fun k hk => ?_
          simp only [gI_sI]
          by_cases ekl : k = l
          · subst ekl
            rw [if_neg (by omega), if_pos ⟨trivial, rfl, trivial⟩, e2]
            have y1 : ¬ nI t = nI u := fun z => eu ((nI_eqI (by omega) (by omega)).mp z).symm
            have y2 : ¬ (-1 : Int32) = nI u := fun z => nI_m1 (by omega) z.symm
            rw [decide_eq_false y1, decide_eq_false y2]
          · rw [if_neg (by omega), if_neg (by omega), if_neg (by omega), if_neg (by omega)]
        rw [e6]
        have := ((h.t u hu).1 hut).2.2.2
        simp only [gI_sI]
        repeat rw [if_neg (by omega)]
        exact this
  · refine ⟨fun k hk => ?_, fun k m hk hm => ?_⟩
    · by_cases ekl : k = l
      · subst ekl
        refine ⟨Or.inr ⟨?_, ?_, ?_, ?_⟩, Or.inl ?_⟩
        · simp [gI_sI]
        · simp [gI_sI]; exact y2.trans e2
        · simp [gI_sI]; exact nI_m1 (by omega)
        · simp [gI_sI]
        · simp [gI_sI]
      · have y2 := l1 k hk
        unfold vL at *
        simp only [gI_sI]
        repeat rw [if_neg (by omega)]
        exact y2
    · simp only [gI_sI]
      by_cases ek : k = l
      · rw [if_neg (by omega), if_pos ⟨trivial, ek, trivial⟩]
        intro z
        exact absurd rfl z
      · by_cases em : m = l
        · rw [if_neg (by omega), if_neg (by omega), if_neg (by omega), if_neg (by omega), if_neg (by omega), if_pos ⟨trivial, em, trivial⟩]
          intro z1 z2
          exact absurd z2 z1
        · repeat rw [if_neg (by omega)]
          exact l2 k m hk hm
end VLo
