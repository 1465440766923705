/-! go, the call -/
section VG2
variable {S : xS} {n T C : Nat} {nP : Nat → Nat}
theorem vI_min (h : vI S n T C nP) (hn : n + 1 < 1440) : vI (yr (yx S nP)) (n + 1) T C nP := by
  have hR : (yr (yx S nP)).2 = S.2 := yr_2.trans yx_2
  have eo : ∀ {a b c : Nat}, a ≠ 3 → a ≠ 1 → (a ≠ 8 ∨ c ≠ 5) → (a < 55 ∨ 63 < a ∨ a = 60) → (a ≠ 9 ∨ c ≠ 0) → gI (yr (yx S nP)) a b c = gI S a b c := fun h1 h2 h3 h4 h5 => (yr_o h4 h5).trans (yx_o h1 h2 h3)
  have ek : ∀ k b, 63 < k → gI (yr (yx S nP)) k 0 b = gI S k 0 b := fun k b hk => eo (by omega) (by omega) (by omega) (by omega) (by omega)
  have e7 : ∀ u j, gI (yr (yx S nP)) 7 u j = gI S 7 u j := fun u j => eo (by omega) (by omega) (by omega) (by omega) (by omega)
  have e0 : ∀ u j, gI (yr (yx S nP)) 0 u j = gI S 0 u j := fun u j => eo (by omega) (by omega) (by omega) (by omega) (by omega)
  have e51 : ∀ b, gI (yr (yx S nP)) 51 0 b = gI S 51 0 b := fun b => eo (by omega) (by omega) (by omega) (by omega) (by omega)
  have e53 : ∀ b, gI (yr (yx S nP)) 53 0 b = gI S 53 0 b := fun b => eo (by omega) (by omega) (by omega) (by omega) (by omega)
  refine ⟨xShX_2 h.X hR, xShM_2 h.M hR, ?_, fun p hp => v_minp h hp (h.p p hp), fun t ht => ⟨fun z => ?_, fun z => ?_⟩, fun c hc => ⟨fun z => ?_, fun z => ?_⟩, vLs_cong (fun l => eo (by omega) (by omega) (by omega) (by omega) (by omega)) (fun l => eo (by omega) (by omega) (by omega) (by omega) (by omega)) (fun b => ek 83 b (by omega)) (fun b => ek 84 b (by omega)) h.l, ?_⟩
  · obtain ⟨s1, s2, s3, s4, s5, s6, s7, s8, s9, s10, s11⟩ := h.s
    have x5 : (gI (yr (yx S nP)) 8 0 5) = nI (n + 1) := by rw [yr_o (by omega) (by omega), yx_8, s4, nI_s]
    have r0 : (gI (yr (yx S nP)) 9 0 0) = nI (n + 1) := by rw [yr_9, yx_o (by omega) (by omega) (by omega), s5, nI_s]
    have e8 : ∀ c, c ≠ 5 → gI (yr (yx S nP)) 8 0 c = gI S 8 0 c := fun c hc => eo (by omega) (by omega) (by omega) (by omega) (by omega)
    have e9 : ∀ c, c ≠ 0 → gI (yr (yx S nP)) 9 0 c = gI S 9 0 c := fun c hc => eo (by omega) (by omega) (by omega) (by omega) (by omega)
    unfold vSc at *
    simp only [x5, r0, e8 6 (by omega), e8 7 (by omega), e8 8 (by omega), e8 9 (by omega), e9 22 (by omega), e9 35 (by omega), e9 36 (by omega), ek 80 _ (by omega)]
    exact ⟨hn, s2, s3, trivial, trivial, s6, s7, s8, s9, s10, s11⟩
  · obtain ⟨w1, ⟨P2, w2⟩, w3, w4⟩ := (h.t t ht).1 z
    exact ⟨vT1_cong hR (e7 t) (fun k k1 k2 => ek k t (by omega)) w1, ⟨P2, vT2_cong hR (e7 t 13) e51 (fun b => ek 70 b (by omega)) (ek 73 t (by omega)) (ek 82 t (by omega)) w2⟩, vT3_cong hR (ek 73 t (by omega)) (ek 74 t (by omega)) (ek 75 t (by omega)) (fun b => ek 87 b (by omega)) (fun b => ek 91 b (by omega)) w3, vT4_cong (e7 t 11) (fun b => ek 83 b (by omega)) w4⟩
  · have w := (h.t t ht).2 z
    rw [gR_2 hR, gL_2 hR, ek 79 t (by omega), ek 80 t (by omega), ek 81 t (by omega)]
    exact w
  · obtain ⟨⟨P2, w1⟩, w2⟩ := (h.c c hc).1 z
    have w3 := vC1_cong (n := n) hR (fun j _ _ => e0 c j) (fun k b hk => eo (by omega) (by omega) (by omega) (by omega) (by omega)) w1
    refine ⟨⟨P2, ?_⟩, ?_⟩
    · obtain ⟨g1, g2, g3, g4, g5, g6, g7, g8, g9, f, a, b, g10, g11, g12, g13, g14, g15, g16⟩ := w3
      exact ⟨g1, g2, g3, g4, g5, g6, g7, g8, g9, f, a, b, g10, g11, g12, g13, g14, g15, by omega⟩
    · unfold vC2 xsch at *
      simp only [e0, ek 91 _ (by omega), ek 79 _ (by omega), ek 74 _ (by omega), ek 75 _ (by omega), ek 76 _ (by omega)]
      exact w2
  · have w := (h.c c hc).2 z
    rw [gR_2 hR, gL_2 hR]
    exact w
  · have w := h.u
    have h15 : ∀ b, gI (yr (yx S nP)) 15 0 b = gI S 15 0 b := fun b => eo (by omega) (by omega) (by omega) (by omega) (by omega)
    have h16 : ∀ b, gI (yr (yx S nP)) 16 0 b = gI S 16 0 b := fun b => eo (by omega) (by omega) (by omega) (by omega) (by omega)
    have h5 : ∀ b, gI (yr (yx S nP)) 5 0 b = gI S 5 0 b := fun b => eo (by omega) (by omega) (by omega) (by omega) (by omega)
    have e9 : ∀ c, c ≠ 0 → gI (yr (yx S nP)) 9 0 c = gI S 9 0 c := fun c hc => eo (by omega) (by omega) (by omega) (by omega) (by omega)
    unfold vPu at *
    simp only [h15, h16, h5, e9 46 (by omega), e9 47 (by omega), ek 94 _ (by omega), ek 95 _ (by omega)]
    exact w
/-- the class's numbers alike -/
def yC (S S' : xS) : Prop := S'.2 = S.2 ∧ ∀ k i j, k < 50 → k ≠ 9 → gI S' k i j = gI S k i j
theorem yC_xem1 {S S' : xS} (h : yC S S') (q N : Nat) (x : Int32) : yC (xem1 S q N x) (xem1 S' q N x) := by
  have es := xrs_same (S := S) (S' := S') (p := q) (N := N) (x := x) (fun j => h.2 3 _ _ (by omega) (by omega)) (fun i j => h.2 4 _ _ (by omega) (by omega)) (fun i j => h.2 6 _ _ (by omega) (by omega)) h.1
  have el := xln_same (S := S) (S' := S') (p := q) (fun j => h.2 1 _ _ (by omega) (by omega))
  refine ⟨h.1, fun k i j h1 h2 => ?_⟩
  simp only [xem1, xsf, gI_sI, es, el.1, el.2, h.2 3 _ _ (show 3 < 50 by omega) (by omega), h.2 1 _ _ (show 1 < 50 by omega) (by omega), h.2 k i j h1 h2]
theorem yC_xem {S S' : xS} (h : yC S S') (x : Int32) : ∀ q, yC (xem S nP x q) (xem S' nP x q)
  | 0 => h
  | q + 1 => by
    show yC (if gR S 10 0 q = none then xem S nP x q else xem1 (xem S nP x q) q (nP q) x) (if gR S' 10 0 q = none then xem S' nP x q else xem1 (xem S' nP x q) q (nP q) x)
    rw [gR_2 h.1]
    split
    · exact yC_xem h x q
    · exact yC_xem1 (yC_xem h x q) q (nP q) x
theorem yC_yx {S S' : xS} (h : yC S S') : yC (yx S nP) (yx S' nP) := by
  have e := h.2 8 0 5 (by omega) (by omega)
  have w := yC_xem (nP := nP) h (gI S 8 0 5) 4
  unfold yx
  rw [e]
  refine ⟨w.1, fun k i j h1 h2 => ?_⟩
  rw [gI_sI, gI_sI, w.2 8 0 5 (by omega) (by omega), w.2 k i j h1 h2]
theorem yC_yr : yC S (yr S) := ⟨yr_2, fun k i j h1 h2 => yr_o (by omega) (by omega)⟩
/-- the reference's alike -/
theorem yR_xrm1 {S S' : xS} (h : vCls S S') (q : Nat) : vCls (xrm1 S q) (xrm1 S' q) := by
  have er : xrrl S' q 3 = xrrl S q 3 := xrrl_cong h q 3
  have el : xrln S' q = xrln S q ∧ xrmn S' q = xrmn S q := by
    unfold xrln xrv xrmn
    simp only [h 55 _ _ (by omega), h 56 _ _ (by omega), h 57 _ _ (by omega), h 58 _ _ (by omega), h 59 _ _ (by omega)]
    exact ⟨trivial, trivial⟩
  intro k i j hk
  simp only [xrm1, xrbg, gI_sI, er, el.1, el.2, h 63 _ _ (show (63 : Nat) = 9 ∨ 50 < 63 by omega), h 60 _ _ (show (60 : Nat) = 9 ∨ 50 < 60 by omega), h k i j hk]
theorem yR_xrm {S S' : xS} (h : vCls S S') : ∀ q, vCls (xrm S q) (xrm S' q)
  | 0 => h
  | q + 1 => by
    show vCls (if (gI S 51 0 q) = 0 then xrm S q else xrm1 (xrm S q) q) (if (gI S' 51 0 q) = 0 then xrm S' q else xrm1 (xrm S' q) q)
    rw [h 51 _ _ (by omega)]
    split
    · exact yR_xrm h q
    · exact yR_xrm1 (yR_xrm h q) q
theorem yR_yr {S S' : xS} (h : vCls S S') : vCls (yr S) (yr S') := by
  have w := yR_xrm h 4
  intro k i j hk
  unfold yr
  rw [gI_sI, gI_sI, w 9 0 0 (by omega), w k i j hk]
theorem yR_yx : vCls S (yx S nP) := fun k i j hk => yx_o (by omega) (by omega) (by omega)
end VG2
