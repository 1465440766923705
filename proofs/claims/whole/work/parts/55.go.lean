/-! go -/
def yx (S : xS) (nP : Nat → Nat) : xS := (sI (xem S nP (gI S 8 0 5) 4) 8 0 5 ((gI (xem S nP (gI S 8 0 5) 4) 8 0 5) + 1))
def yr (S : xS) : xS := (sI (xrm S 4) 9 0 0 ((gI (xrm S 4) 9 0 0) + 1))
section VG
variable {S : xS} {n T C : Nat} {nP : Nat → Nat}
theorem yx_2 : (yx S nP).2 = S.2 := (show (yx S nP).2 = (xem S nP (gI S 8 0 5) 4).2 from rfl).trans (xem_2 4)
theorem yr_2 : (yr S).2 = S.2 := (show (yr S).2 = (xrm S 4).2 from rfl).trans (xrm_2 4)
theorem yx_o {a b c : Nat} (h3 : a ≠ 3) (h1 : a ≠ 1) (h8 : a ≠ 8 ∨ c ≠ 5) : gI (yx S nP) a b c = gI S a b c := by
  unfold yx
  rw [gI_sI, if_neg (by omega)]
  exact xem_8 h3 h1 4
theorem yx_8 : (gI (yx S nP) 8 0 5) = (gI S 8 0 5) + 1 := by
  unfold yx
  rw [gI_sI, if_pos ⟨rfl, rfl, rfl⟩, xem_8 (by omega) (by omega) 4]
theorem yx_31 {a b c : Nat} (h : a = 3 ∨ a = 1) : gI (yx S nP) a b c = gI (xem S nP (gI S 8 0 5) 4) a b c := by
  unfold yx
  rw [gI_sI, if_neg (by omega)]
theorem yr_o {a b c : Nat} (h : a < 55 ∨ 63 < a ∨ a = 60) (h9 : a ≠ 9 ∨ c ≠ 0) : gI (yr S) a b c = gI S a b c := by
  unfold yr
  rw [gI_sI, if_neg (by omega)]
  exact xrm_I h 4
theorem yr_9 : (gI (yr S) 9 0 0) = (gI S 9 0 0) + 1 := by
  unfold yr
  rw [gI_sI, if_pos ⟨rfl, rfl, rfl⟩, xrm_I (by omega) 4]
theorem yr_p {a c : Nat} (h : 9 < a) : gI (yr S) a 0 c = gI (xrm S 4) a 0 c := by
  unfold yr
  rw [gI_sI, if_neg (by omega)]
/-- a minute ends: a pool -/
theorem v_minp (h : vI S n T C nP) {p : Nat} (hp : p < 4) (hz : vPool S T nP p) : vPool (yr (yx S nP)) T nP p := by
  have hR : (yr (yx S nP)).2 = S.2 := yr_2.trans yx_2
  have eo : ∀ {a b c : Nat}, a ≠ 3 → a ≠ 1 → (a ≠ 8 ∨ c ≠ 5) → (a < 55 ∨ 63 < a ∨ a = 60) → (a ≠ 9 ∨ c ≠ 0) → gI (yr (yx S nP)) a b c = gI S a b c := fun h1 h2 h3 h4 h5 => (yr_o h4 h5).trans (yx_o h1 h2 h3)
  have e31 : ∀ {a b c : Nat}, a = 3 ∨ a = 1 → gI (yr (yx S nP)) a b c = gI (xem S nP (gI S 8 0 5) 4) a b c := fun h1 => (yr_o (by omega) (by omega)).trans (yx_31 h1)
  have e2 : ∀ t, t < T → (gI (yr (yx S nP)) 79 0 t) = (gI S 79 0 t) ∧ (gI (yr (yx S nP)) 73 0 t) = (gI S 73 0 t) ∧ (gI (yr (yx S nP)) 74 0 t) = (gI S 74 0 t) := fun t ht => ⟨eo (by omega) (by omega) (by omega) (by omega) (by omega), eo (by omega) (by omega) (by omega) (by omega) (by omega), eo (by omega) (by omega) (by omega) (by omega) (by omega)⟩
  rcases hz with z | ⟨z1, z2, z3, z4, z5⟩
  · have ev : vEq S (yr (yx S nP)) p := by
      refine ⟨fun j => ?_, fun j => ?_, fun i hi j => eo (by omega) (by omega) (by omega) (by omega) (by omega), fun i hi j => eo (by omega) (by omega) (by omega) (by omega) (by omega), fun k hk => ?_, fun k hk i hi => eo (by omega) (by omega) (by omega) (by omega) (by omega)⟩
      · rw [e31 (by omega), (xem_none z.2.1 hp j).1]
      · rw [e31 (by omega), (xem_none z.2.1 hp j).2]
      · have w : (gI (yx S nP) 51 0 p) = 0 := (yx_o (by omega) (by omega) (by omega)).trans z.1
        rw [yr_p (by omega), xrm_none w hp k]
        exact yx_o (by omega) (by omega) (by omega)
    exact Or.inl (vP0_cong hR ev z)
  · have w1 : ¬ gR S 10 0 p = none := by rw [z1.2.1]; exact fun y => by cases y
    have w0 : (gI (yx S nP) 51 0 p) = 1 := (yx_o (by omega) (by omega) (by omega)).trans z1.1
    have w2 : ¬ (gI (yx S nP) 51 0 p) = 0 := by rw [w0]; decide
    have vc : vCls S (yx S nP) := fun k i j hk => yx_o (by omega) (by omega) (by omega)
    have f3 := fun j => (e31 (a := 3) (b := p) (c := j) (by omega)).trans (xem_some w1 hp j).1
    have f1 := fun j => (e31 (a := 1) (b := p) (c := j) (by omega)).trans (xem_some w1 hp j).2
    have fr := fun (a : Nat) (ha : 54 < a) => (yr_p (S := yx S nP) (c := p) (by omega)).trans (xrm_some w2 hp a)
    have ers : xrs S p (nP p) (gI S 8 0 5) = xrrl S p 3 := v_rs h z1 z3 z4 z1.N
    have en := v_rnn (S := S) (P := p) 3 (by omega)
    have er : xrrl (yx S nP) p 3 = xrrl S p 3 := xrrl_cong vc p 3
    have el : xrln (yx S nP) p = xrln S p ∧ xrmn (yx S nP) p = xrmn S p := by
      unfold xrln xrv xrmn
      simp only [vc 55 _ _ (by omega), vc 56 _ _ (by omega), vc 57 _ _ (by omega), vc 58 _ _ (by omega), vc 59 _ _ (by omega)]
      exact ⟨trivial, trivial⟩
    have ln := v_ln z2
    refine Or.inr ⟨?_, ?_, ?_, ?_, ?_⟩
    · obtain ⟨q1, q2, q3, q4, q5, q6, q7, q8, q9, q10, q11, q12⟩ := z1
      have s9 : gI (yr (yx S nP)) 3 p 9 = gI (yr (yx S nP)) 63 0 p := by
        rw [f3 9, fr 63 (by omega)]
        simp only [if_true]
        rw [ers, er, vc 63 _ _ (by omega), q9]
        by_cases c : xrrl S p 3 = 0
        · rw [c]; rfl
        · have c2 : 0 < xrrl S p 3 := by
            rw [fa_le] at en
            rw [fa_lt]
            have : (xrrl S p 3).toInt ≠ (0 : Int32).toInt := fun y => c (Int32.toInt_inj.mp y)
            omega
          rw [if_neg c]
          simp [c2]
      have g3 : ∀ j, j ≠ 9 → gI (yr (yx S nP)) 3 p j = gI S 3 p j := fun j hj => by rw [f3 j, if_neg hj]
      unfold vP1
      rw [gR_2 hR, g3 0 (by omega), g3 1 (by omega), g3 2 (by omega), g3 8 (by omega), g3 10 (by omega), g3 11 (by omega), s9, eo (a := 51) (by omega) (by omega) (by omega) (by omega) (by omega), eo (a := 52) (by omega) (by omega) (by omega) (by omega) (by omega), eo (a := 53) (by omega) (by omega) (by omega) (by omega) (by omega), eo (a := 54) (by omega) (by omega) (by omega) (by omega) (by omega), eo (a := 69) (by omega) (by omega) (by omega) (by omega) (by omega), eo (a := 92) (by omega) (by omega) (by omega) (by omega) (by omega), eo (a := 93) (by omega) (by omega) (by omega) (by omega) (by omega)]
      exact ⟨q1, q2, xShP_2 q3 hR, q4, q5, q6, q7, q8, rfl, q10, q11, q12⟩
    · obtain ⟨d1, d2, d3, d4, d5, d6, d7, d8, d9, d10⟩ := z2
      have e60 : gI (yr (yx S nP)) 60 0 p = gI S 60 0 p := eo (by omega) (by omega) (by omega) (by omega) (by omega)
      have k0 : gI (yr (yx S nP)) 1 p 0 = gI S 1 p 0 := (f1 0).trans rfl
      have k1 : gI (yr (yx S nP)) 1 p 1 = if gI S 1 p 0 = 0 then 1 else 0 := (f1 1).trans rfl
      have k2 : gI (yr (yx S nP)) 1 p 2 = xln S p := (f1 2).trans rfl
      have k3 : gI (yr (yx S nP)) 1 p 3 = xmn S p := (f1 3).trans rfl
      have k4 : gI (yr (yx S nP)) 1 p 4 = 0 := (f1 4).trans rfl
      have k5 : gI (yr (yx S nP)) 1 p 5 = 0 := (f1 5).trans rfl
      have k6 : gI (yr (yx S nP)) 1 p 6 = 0 := (f1 6).trans rfl
      have m55 : gI (yr (yx S nP)) 55 0 p = xrln S p := ((fr 55 (by omega)).trans rfl).trans el.1
      have m56 : gI (yr (yx S nP)) 56 0 p = xrmn S p := ((fr 56 (by omega)).trans rfl).trans el.2
      have m57 : gI (yr (yx S nP)) 57 0 p = 0 := (fr 57 (by omega)).trans rfl
      have m58 : gI (yr (yx S nP)) 58 0 p = 0 := (fr 58 (by omega)).trans rfl
      have m59 : gI (yr (yx S nP)) 59 0 p = if (gI (yx S nP) 60 0 p) = 0 then 1 else 0 := (fr 59 (by omega)).trans rfl
      have m61 : gI (yr (yx S nP)) 61 0 p = 0 := (fr 61 (by omega)).trans rfl
      have m62 : gI (yr (yx S nP)) 62 0 p = 0 := (fr 62 (by omega)).trans rfl
      rw [vc 60 _ _ (by omega)] at m59
      unfold vD
      rw [k0, k1, k2, k3, k4, k5, k6, m55, m56, m57, m58, m59, m61, m62, e60, d1]
      refine ⟨rfl, d2, rfl, xB_if _, ln.1, ln.2, fun _ => by decide, fun y => if_pos y, ⟨0, by omega, rfl, rfl⟩, ⟨0, by omega, rfl, rfl⟩⟩
    · intro j hj
      have w := z3 j hj
      rw [eo (a := 6) (by omega) (by omega) (by omega) (by omega) (by omega), eo (a := 6) (by omega) (by omega) (by omega) (by omega) (by omega), eo (a := 6) (by omega) (by omega) (by omega) (by omega) (by omega), eo (a := 6) (by omega) (by omega) (by omega) (by omega) (by omega), eo (a := 6) (by omega) (by omega) (by omega) (by omega) (by omega), eo (a := 64) (by omega) (by omega) (by omega) (by omega) (by omega), eo (a := 65) (by omega) (by omega) (by omega) (by omega) (by omega), eo (a := 66) (by omega) (by omega) (by omega) (by omega) (by omega), eo (a := 67) (by omega) (by omega) (by omega) (by omega) (by omega), eo (a := 68) (by omega) (by omega) (by omega) (by omega) (by omega)]
      exact w
    · intro j hj
      have h1 := z4 j hj
      rw [eo (a := 4) (by omega) (by omega) (by omega) (by omega) (by omega), eo (a := 70) (by omega) (by omega) (by omega) (by omega) (by omega), eo (a := 71) (by omega) (by omega) (by omega) (by omega) (by omega), gR_2 hR]
      refine ⟨h1.1, h1.2.imp id ?_⟩
      rintro ⟨t, q1, q2, q3, q4, q5, q6, q7, q8⟩
      obtain ⟨w1, w2, w3⟩ := e2 t q1
      exact ⟨t, q1, q2, q3, q4, w1.trans q5, w2.trans q6, w3.trans q7, by rw [gR_2 hR]; exact q8⟩
    · unfold vIn
      rw [xtru_cong _ _ e2, xtru_cong _ _ e2, (f3 6).trans rfl, (f3 7).trans rfl]
      exact z5
end VG
