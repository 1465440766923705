/-! the keys -/
theorem sI_id (S : xS) (k i j : Nat) {v : Int32} (h : gI S k i j = v) : sI S k i j v = S := by
  subst h
  unfold sI gI
  refine Prod.ext (funext fun a => funext fun b => funext fun c => ?_) rfl
  show (if a = k ∧ c = j ∧ b = i then S.1 k i j else S.1 a b c) = S.1 a b c
  by_cases e : a = k ∧ c = j ∧ b = i
  · rw [if_pos e]; obtain ⟨rfl, rfl, rfl⟩ := e; rfl
  · rw [if_neg e]
theorem yfi_cong {p q : Nat → Bool} : ∀ n, (∀ k, k < n → p k = q k) → xfi p n = xfi q n
  | 0, _ => rfl
  | n + 1, h => by
    unfold xfi
    rw [yfi_cong n (fun k hk => h k (by omega)), h n (by omega)]
theorem yfi_none {p : Nat → Bool} : ∀ n, (∀ k, k < n → ¬ p k = true) → xfi p n = none
  | 0, _ => rfl
  | n + 1, h => by
    unfold xfi
    rw [yfi_none n (fun k hk => h k (by omega))]
    simp only [if_neg (h n (by omega))]
theorem yfi_some {p : Nat → Bool} {l : Nat} : ∀ n, l < n → p l = true → (∀ k, k < l → ¬ p k = true) → xfi p n = some l
  | 0, h, _, _ => absurd h (by omega)
  | n + 1, h, h1, h2 => by
    unfold xfi
    by_cases e : l = n
    · subst e
      rw [yfi_none l h2]
      simp only [if_pos h1]
    · rw [yfi_some n (by omega) h1 h2]
theorem yfi_of {p : Nat → Bool} {l : Nat} : ∀ n, xfi p n = some l → l < n ∧ p l = true
  | 0, h => by cases h
  | n + 1, h => by
    unfold xfi at h
    cases e : xfi p n with
    | some k =>
      rw [e] at h
      simp only [Option.some.injEq] at h
      subst h
      have := yfi_of n e
      exact ⟨by omega, this.2⟩
    | none =>
      rw [e] at h
      by_cases e2 : p n = true
      · simp only [if_pos e2, Option.some.injEq] at h
        subst h
        exact ⟨by omega, e2⟩
      · simp only [if_neg e2] at h; cases h
theorem yfi_nof {p : Nat → Bool} : ∀ n, xfi p n = none → ∀ k, k < n → ¬ p k = true
  | 0, _, k, hk => absurd hk (by omega)
  | n + 1, h, k, hk => by
    unfold xfi at h
    cases e : xfi p n with
    | some k =>
      rw [e] at h
      cases h
    | none =>
      rw [e] at h
      by_cases e2 : p n = true
      · simp only [if_pos e2] at h; cases h
      · by_cases e3 : k = n
        · subst e3; exact e2
        · exact yfi_nof n e k (by omega)
section VK
variable {S : xS} {n T C : Nat} {nP : Nat → Nat}
theorem xlk_some {l : Nat} {x : Int32} (h : xlk S x = some l) : l < 30 ∧ (gI S 83 0 l) = x := by
  have := yfi_of 30 h
  exact ⟨this.1, of_decide_eq_true this.2⟩
theorem xlk_none {x : Int32} (h : xlk S x = none) {l : Nat} (hl : l < 30) : ¬ (gI S 83 0 l) = x := by
  have := yfi_nof 30 h l hl
  exact fun z => this (decide_eq_true z)
theorem xlk_m1 {x : Int32} : xon (xlk S x) = -1 ↔ xlk S x = none := by
  cases e : xlk S x with
  | none => exact ⟨fun _ => rfl, fun _ => rfl⟩
  | some l =>
    have := (xlk_some e).1
    exact ⟨fun z => absurd z (nI_m1 (by omega)), fun z => by cases z⟩
theorem v_free (h : vI S n T C nP) {l : Nat} (hl : l < 30) : (gI S 13 0 l) = -1 ↔ ((gI S 83 0 l) = -1 ∧ (gI S 84 0 l) = -1) := by
  rcases (h.l.1 l hl).1 with ⟨q1, q2, q3⟩ | ⟨q1, q2, q3, q4⟩
  · rw [q3]; exact ⟨fun z => ⟨z, q2⟩, fun z => z.1⟩
  · rw [q2]; exact ⟨fun z => absurd z q3, fun z => absurd z.2 q3⟩
/-- a ticket's row when only the keys change -/
theorem vTk_key {S' : xS} {t : Nat} (hR : S'.2 = S.2) (e7 : ∀ j, j ≠ 11 → gI S' 7 t j = gI S 7 t j) (er : ∀ k b, 50 < k → k ≠ 83 → k ≠ 84 → gI S' k 0 b = gI S k 0 b) (e4 : t < T → (gI S' 7 t 11) = xon (xlk S' (nI t))) (h : vTk S T C t) : vTk S' T C t := by
  have r51 := fun b => er 51 b (by omega) (by omega) (by omega)
  have r70 := fun b => er 70 b (by omega) (by omega) (by omega)
  have r73 := fun b => er 73 b (by omega) (by omega) (by omega)
  have r74 := fun b => er 74 b (by omega) (by omega) (by omega)
  have r75 := fun b => er 75 b (by omega) (by omega) (by omega)
  have r76 := fun b => er 76 b (by omega) (by omega) (by omega)
  have r77 := fun b => er 77 b (by omega) (by omega) (by omega)
  have r78 := fun b => er 78 b (by omega) (by omega) (by omega)
  have r79 := fun b => er 79 b (by omega) (by omega) (by omega)
  have r80 := fun b => er 80 b (by omega) (by omega) (by omega)
  have r81 := fun b => er 81 b (by omega) (by omega) (by omega)
  have r82 := fun b => er 82 b (by omega) (by omega) (by omega)
  have r87 := fun b => er 87 b (by omega) (by omega) (by omega)
  have r88 := fun b => er 88 b (by omega) (by omega) (by omega)
  have r89 := fun b => er 89 b (by omega) (by omega) (by omega)
  have r90 := fun b => er 90 b (by omega) (by omega) (by omega)
  have r91 := fun b => er 91 b (by omega) (by omega) (by omega)
  have s0 := e7 0 (by omega)
  have s2 := e7 2 (by omega)
  have s3 := e7 3 (by omega)
  have s5 := e7 5 (by omega)
  have s6 := e7 6 (by omega)
  have s7 := e7 7 (by omega)
  have s8 := e7 8 (by omega)
  have s9 := e7 9 (by omega)
  have s10 := e7 10 (by omega)
  have s13 := e7 13 (by omega)
  refine ⟨fun ht => ?_, fun ht => ?_⟩
  · obtain ⟨h1, h2, h3, -⟩ := h.1 ht
    refine ⟨?_, ?_, ?_, e4 ht⟩
    · unfold vT1 at *
      simp only [gR_2 hR, s0, s2, s3, s5, s6, s7, s8, s9, s10, r74, r75, r76, r77, r78, r79, r80, r81]
      exact h1
    · unfold vT2 at *
      simp only [gR_2 hR, s13, r51, r70, r73, r82]
      exact h2
    · unfold vT3 at *
      simp only [gR_2 hR, r73, r74, r75, r87, r88, r89, r90, r91]
      exact h3
  · have h2 := h.2 ht
    rw [gR_2 hR, gL_2 hR, r79, r80, r81]
    exact h2
theorem a_key (h : vI S n T C nP) (x : Int32) : xAPI mX8_key 3 0 0 mX9_key 3 [xI x] S := by
  rcases vticket_cases h x with ⟨h1, h2⟩ | ⟨t, ht, rfl, h1, k1, k2, k3, k4⟩
  · exact xAPI_eq (c_key_n h.X x h1) (c_r_key_n x h2) rfl h.i
  · have hT2 := h.T2
    have q7 := k1.2.2.2.2.2.2.1
    by_cases e : ¬ (gI S 7 t 6) = 0 ∧ (gI S 7 t 11) = -1
    · have er : xon (xlk S (nI t)) = -1 := k4.symm.trans e.2
      have ei : ¬ (gI S 79 0 t) = 0 := by rw [← q7]; exact e.1
      cases e1 : xfi (fun l => decide ((gI S 13 0 l) = -1)) 30 with
      | none =>
        have e2 : ∀ k, k < 30 → ¬ (gI S 13 0 k) = -1 := fun k hk z => yfi_nof 30 e1 k hk (decide_eq_true z)
        have a1 := c_key_f h.X (nI t) h1 e.1 e.2 e2
        rw [sI_id S _ _ _ e.2] at a1
        exact xAPI_eq a1 (c_r_key_f h.M h.hT hT2 ht ei er (fun j hj z => e2 j hj ((v_free h hj).mpr z))) rfl h.i
      | some l =>
        obtain ⟨hl, e2⟩ := yfi_of 30 e1
        have e3 := of_decide_eq_true e2
        have e4 : ∀ k, k < l → ¬ (gI S 13 0 k) = -1 := by
          intro k hk z
          have := yfi_some (p := fun l => decide ((gI S 13 0 l) = -1)) (l := k)
          by_cases y : ∃ m, m < l ∧ (gI S 13 0 m) = -1 ∧ ∀ i, i < m → ¬ (gI S 13 0 i) = -1
          · obtain ⟨m, y1, y2, y3⟩ := y
            have := yfi_some (p := fun l => decide ((gI S 13 0 l) = -1)) 30 (by omega : m < 30) (decide_eq_true y2) (fun i hi w => y3 i hi (of_decide_eq_true w))
            rw [e1] at this
            cases this
            omega
          · have : ∀ m, m < l → ¬ (gI S 13 0 m) = -1 := by
              intro m
              induction m using Nat.strongRecOn with
              | _ m ih =>
                intro hm w
                exact y ⟨m, hm, w, fun i hi => ih i hi (by omega)⟩
            exact this k hk z
        have e5 := (v_free h hl).mp e3
        have a1 := c_key_s h.X (nI t) h1 e.1 e.2 hl e3 e4
        have a2 := c_r_key_s (S := (sI (sI S 13 0 l (nI t)) 7 t 11 (nI l))) h.M h.hT hT2 ht ei er hl e5 (fun j hj z => e4 j hj ((v_free h (by omega)).mpr z))
        have en := xlk_m1.mp er
        refine xAPI_of a1 a2 ⟨n, T, C, nP, h.X, h.M, h.s, h.p, ?_, h.c, ?_, h.u⟩
        · intro u hu
          refine vTk_key (S := S) rfl (fun j hj => ?_) (fun k b hk1 hk2 hk3 => ?_) (fun hut => ?_) (h.t u hu)
          · (simp only [gI_sI]; repeat rw [if_neg (by omega)])
          · (simp only [gI_sI]; repeat rw [if_neg (by omega)])
          · by_cases eu : u = t
            · subst eu
              have e6 : xlk (sI (sI (sI S 13 0 l (nI u)) 7 u 11 (nI l)) 83 0 l (nI u)) (nI u) = some l := by
                refine yfi_some 30 hl (decide_eq_true ?_) (fun k hk z => ?_)
                · simp [gI_sI]
                · have z2 := of_decide_eq_true z
                  simp only [gI_sI] at z2
                  rw [if_neg (by omega), if_neg (by omega), if_neg (by omega)] at z2
                  exact xlk_none en (by omega) z2
              rw [e6]
              simp [gI_sI, xon]
            · have e6 : xlk (sI (sI (sI S 13 0 l (nI t)) 7 t 11 (nI l)) 83 0 l (nI t)) (nI u) = xlk S (nI u) := by
                refine yfi_cong 30 fun k hk => ?_
                simp only [gI_sI]
                by_cases ekl : k = l
                · subst ekl
                  rw [if_pos ⟨trivial, rfl, trivial⟩, e5.1]
                  have y1 : ¬ nI t = nI u := fun z => eu ((nI_eqI (by omega) (by omega)).mp z).symm
                  have y2 : ¬ (-1 : Int32) = nI u := fun z => nI_m1 (by omega) z.symm
                  rw [decide_eq_false y1, decide_eq_false y2]
                · rw [if_neg (by omega), if_neg (by omega), if_neg (by omega)]
              rw [e6]
              have := ((h.t u hu).1 hut).2.2.2
              simp only [gI_sI]
              repeat rw [if_neg (by omega)]
              exact this
        · obtain ⟨l1, l2⟩ := h.l
          have y1 := l1 l hl
          refine ⟨fun k hk => ?_, fun k m hk hm => ?_⟩
          · by_cases ekl : k = l
            · subst ekl
              have y2 : (gI S 14 0 k) = 0 := by
                rcases y1.1 with z | z
                · exact z.1
                · exact absurd (z.2.1.symm.trans e3) z.2.2.1
              refine ⟨Or.inl ⟨y2, e5.2, ?_⟩, Or.inr ⟨t, ht, ?_⟩⟩
              · simp [gI_sI]
              · simp [gI_sI]
            · have y2 := l1 k hk
              unfold vL at *
              simp only [gI_sI]
              repeat rw [if_neg (by omega)]
              exact y2
          · simp only [gI_sI]
            by_cases ek : k = l
            · by_cases em : m = l
              · intro _ _; omega
              · rw [if_pos ⟨trivial, ek, trivial⟩, if_neg (by omega), if_neg (by omega), if_neg (by omega)]
                intro _ z
                exact absurd z.symm (xlk_none en hm)
            · by_cases em : m = l
              · rw [if_neg (by omega), if_neg (by omega), if_neg (by omega), if_pos ⟨trivial, em, trivial⟩]
                intro _ z
                exact absurd z (xlk_none en hk)
              · repeat rw [if_neg (by omega)]
                exact l2 k m hk hm
    · have e2 : ¬ (¬ (gI S 79 0 t) = 0 ∧ xon (xlk S (nI t)) = -1) := by rw [← q7, ← k4]; exact e
      exact xAPI_eq (c_key_i h.X (nI t) h1 e) (c_r_key_i h.M h.hT hT2 ht e2) rfl h.i
theorem a_give (h : vI S n T C nP) (x : Int32) : xAPI mX8_give 3 0 0 mX9_give 3 [xI x] S := by
  rcases vticket_cases h x with ⟨h1, h2⟩ | ⟨t, ht, rfl, h1, k1, k2, k3, k4⟩
  · exact xAPI_eq (c_give_n h.X x h1) (c_r_give_n x h2) rfl h.i
  · have hT2 := h.T2
    cases e1 : xlk S (nI t) with
    | none =>
      have e : (gI S 7 t 11) = -1 := by rw [k4, e1]; rfl
      have a1 := c_give_o h.X (nI t) h1 e
      rw [sI_id S _ _ _ e] at a1
      exact xAPI_eq a1 (c_r_give_o h.M h.hT hT2 ht e1) rfl h.i
    | some l =>
      obtain ⟨hl, e2⟩ := xlk_some e1
      have e : (gI S 7 t 11) = nI l := by rw [k4, e1]; rfl
      have a1 := c_give_s h.X (nI t) h1 hl e
      have a2 := c_r_give_s (S := (sI (sI (sI S 13 0 l (-1)) 14 0 l 0) 7 t 11 (-1))) h.M h.hT hT2 ht (l := l) e1
      obtain ⟨l1, l2⟩ := h.l
      have e3 : ¬ (gI S 83 0 l) = -1 := by rw [e2]; exact nI_m1 (by omega)
      have y1 := l1 l hl
      have y2 : (gI S 14 0 l) = 0 ∧ (gI S 84 0 l) = -1 := by
        rcases y1.1 with z | z
        · exact ⟨z.1, z.2.1⟩
        · exact absurd z.2.2.2 e3
      refine xAPI_of a1 a2 ⟨n, T, C, nP, h.X, h.M, h.s, h.p, ?_, h.c, ?_, h.u⟩
      · intro u hu
        refine vTk_key (S := S) rfl (fun j hj => ?_) (fun k b hk1 hk2 hk3 => ?_) (fun hut => ?_) (h.t u hu)
        · (simp only [gI_sI]; repeat rw [if_neg (by omega)])
        · (simp only [gI_sI]; repeat rw [if_neg (by omega)])
        · by_cases eu : u = t
          · subst eu
            have e6 : xlk (sI (sI (sI (sI S 13 0 l (-1)) 14 0 l 0) 7 u 11 (-1)) 83 0 l (-1)) (nI u) = none := by
              refine yfi_none 30 (fun k hk z => ?_)
              have z2 := of_decide_eq_true z
              simp only [gI_sI] at z2
              by_cases ekl : k = l
              · rw [if_pos ⟨trivial, ekl, trivial⟩] at z2
                exact nI_m1 (by omega) z2.symm
              · rw [if_neg (by omega), if_neg (by omega), if_neg (by omega), if_neg (by omega)] at z2
                exact ekl (l2 k l hk hl (by rw [z2]; exact nI_m1 (by omega)) (z2.trans e2.symm))
            rw [e6]
            simp [gI_sI, xon]
          · have e6 : xlk (sI (sI (sI (sI S 13 0 l (-1)) 14 0 l 0) 7 t 11 (-1)) 83 0 l (-1)) (nI u) = xlk S (nI u) := by
              refine yfi_cong 30 fun k hk => ?_
              simp only [gI_sI]
              by_cases ekl : k = l
              · subst ekl
                rw [if_pos ⟨trivial, rfl, trivial⟩, e2]
                have y1 : ¬ nI t = nI u := fun z => eu ((nI_eqI (by omega) (by omega)).mp z).symm
                have y2 : ¬ (-1 : Int32) = nI u := fun z => nI_m1 (by omega) z.symm
                rw [decide_eq_false y1, decide_eq_false y2]
              · rw [if_neg (by omega), if_neg (by omega), if_neg (by omega), if_neg (by omega)]
            rw [e6]
            have := ((h.t u hu).1 hut).2.2.2
            simp only [gI_sI]
            repeat rw [if_neg (by omega)]
            exact this
      · refine ⟨fun k hk => ?_, fun k m hk hm => ?_⟩
        · by_cases ekl : k = l
          · subst ekl
            refine ⟨Or.inl ⟨?_, y2.2, ?_⟩, Or.inl ?_⟩
            · simp [gI_sI]
            · simp [gI_sI]
            · simp [gI_sI]
          · have y2 := l1 k hk
            unfold vL at *
            simp only [gI_sI]
            repeat rw [if_neg (by omega)]
            exact y2
        · simp only [gI_sI]
          by_cases ek : k = l
          · rw [if_pos ⟨trivial, ek, trivial⟩]
            intro z
            exact absurd rfl z
          · by_cases em : m = l
            · rw [if_neg (by omega), if_neg (by omega), if_neg (by omega), if_neg (by omega), if_pos ⟨trivial, em, trivial⟩]
              intro z1 z2
              exact absurd z2 z1
            · repeat rw [if_neg (by omega)]
              exact l2 k m hk hm
theorem a_mend (h : vI S n T C nP) (x : Int32) : xAPI mX8_mend 3 0 0 mX9_mend 3 [xI x] S := by
  by_cases e1 : 0 ≤ x ∧ x ≤ 29
  · obtain ⟨l, hl', rfl⟩ := nI_of2 (n := 29) rfl (Int32.not_lt.mpr e1.1) e1.2
    have hl : l < 30 := by omega
    obtain ⟨l1, l2⟩ := h.l
    rcases (l1 l hl).1 with ⟨q1, q2, q3⟩ | ⟨q1, q2, q3, q4⟩
    · exact xAPI_eq (c_mend_o h.X hl q1) (c_r_mend_o h.M hl q2) rfl h.i
    · have a1 := c_mend_s h.X hl (by rw [q1]; decide)
      have a2 := c_r_mend_s (S := (sI (sI S 13 0 l (-1)) 14 0 l 0)) h.M hl q3
      rw [q2] at a1
      refine xAPI_of a1 a2 ⟨n, T, C, nP, h.X, h.M, h.s, h.p, h.t, h.c, ⟨fun k hk => ?_, l2⟩, h.u⟩
      by_cases ekl : k = l
      · subst ekl
        refine ⟨Or.inl ⟨?_, ?_, ?_⟩, (l1 k hk).2⟩
        · simp [gI_sI]
        · simp [gI_sI]
        · simp [gI_sI]; exact q4.symm
      · have y2 := l1 k hk
        unfold vL at *
        simp only [gI_sI]
        repeat rw [if_neg (by omega)]
        exact y2
  · have e2 : ¬ (0 ≤ x ∧ x < 30) := fun z => e1 ⟨z.1, by have := z.2; rw [fa_lt] at this; rw [fa_le]; rw [show (30 : Int32).toInt = 30 from by decide] at this; rw [show (29 : Int32).toInt = 29 from by decide]; omega⟩
    exact xAPI_eq (c_mend_n x e2) (c_r_mend_n x e1) rfl h.i
end VK
