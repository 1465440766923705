/-! a new club -/
theorem y_least (p : Nat → Prop) : ∀ C, (∀ c, c < C → ¬ p c) ∨ ∃ c, c < C ∧ p c ∧ ∀ d, d < c → ¬ p d
  | 0 => Or.inl fun c h => absurd h (by omega)
  | C + 1 => by
    rcases y_least p C with h | ⟨c, h1, h2⟩
    · rcases Classical.em (p C) with e | e
      · exact Or.inr ⟨C, by omega, e, h⟩
      · refine Or.inl fun c hc => ?_
        by_cases z : c = C
        · subst z; exact e
        · exact h c (by omega)
    · exact Or.inr ⟨c, by omega, h2⟩
theorem y_shl {L : Nat} (h : L ≤ 8) : (1 : Int32) <<< (nI L &&& 31) = nI (2 ^ L) := by
  have : L = 0 ∨ L = 1 ∨ L = 2 ∨ L = 3 ∨ L = 4 ∨ L = 5 ∨ L = 6 ∨ L = 7 ∨ L = 8 := by omega
  rcases this with rfl | rfl | rfl | rfl | rfl | rfl | rfl | rfl | rfl <;> decide
theorem y_pow {L : Nat} (h : L ≤ 8) : 1 ≤ 2 ^ L ∧ 2 ^ L ≤ 256 := by
  have : L = 0 ∨ L = 1 ∨ L = 2 ∨ L = 3 ∨ L = 4 ∨ L = 5 ∨ L = 6 ∨ L = 7 ∨ L = 8 := by omega
  rcases this with rfl | rfl | rfl | rfl | rfl | rfl | rfl | rfl | rfl <;> decide
section VC
variable {S : xS} {n T C : Nat} {nP : Nat → Nat}
theorem v_cond (h : vI S n T C nP) {P : Nat} (h3 : vP1 S P (nP P)) {l f t u : Int32} : xcond S P l f t u ↔ xrcond S P l f t u := by
  obtain ⟨L, hL1, hL8, e1, e2⟩ := h3.2.2.2.2.2.2.1
  unfold xcond xrcond
  rw [e1, e2, y_shl hL8]
  obtain ⟨p1, p2⟩ := y_pow hL8
  have q1 : (nI (2 ^ L) - 1).toInt = (2 ^ L : Nat) - 1 := by
    generalize 2 ^ L = M at *
    obtain ⟨m, rfl⟩ : ∃ m, M = m + 1 := ⟨M - 1, by omega⟩
    rw [nI_pred, nI_toInt (by omega)]; omega
  have q2 : (nI (2 ^ L)).toInt = (2 ^ L : Nat) := nI_toInt (by omega)
  have q3 : (0 < l ∧ l < nI (2 ^ L)) ↔ (1 ≤ l ∧ l ≤ nI (2 ^ L) - 1) := by
    rw [fa_lt, fa_lt, fa_le, fa_le, q1, q2, show (0 : Int32).toInt = 0 from rfl, show (1 : Int32).toInt = 1 from rfl]
    omega
  rw [q3]
def xPc (S : xS) (c : Nat) : Nat := match gR S 0 c 0 with
  | none => 0
  | some q => q.2
theorem xPc_of {c P : Nat} (h : gR S 0 c 0 = some (3, P)) : xPc S c = P := by unfold xPc; rw [h]
theorem v_cok (h : vI S n T C nP) : xcok S C (xPc S) := by
  refine ⟨fun c hc => ?_, fun c hc => ?_⟩
  · by_cases e : c < C
    · obtain ⟨⟨P, w⟩, -⟩ := (h.c c hc).1 e
      rw [if_pos e]; exact w.1
    · rw [if_neg e]; exact ((h.c c hc).2 (by omega)).1
  · have hC2 := h.C2
    obtain ⟨⟨P, w⟩, -⟩ := (h.c c (by omega)).1 hc
    rw [xPc_of w.2.2.2.2.1]; exact w.2.2.2.2.1
theorem v_kp (h : vI S n T C nP) {P c : Nat} (hP : P < 4) (hc : c < C) {l f t : Int32} {k0 i : Nat} {S0 : xS} (s1 : gI S0 k0 i 1 = l) (s2 : gI S0 k0 i 2 = f) (s4 : gI S0 k0 i 4 = t) (s0 : ∀ j, gI S0 0 c j = gI S 0 c j) : xkp S0 (xPc S) c k0 i P ↔ xrkp S (nI P) l f t c := by
  have hC2 := h.C2
  obtain ⟨⟨P2, w⟩, -⟩ := (h.c c (by omega)).1 hc
  obtain ⟨g1, g2, g3, g4, g5, g6, g7, g8, g9, f', a, b, g10, g11, g12, g13, g14, g15, g16⟩ := w
  unfold xkp xrkp
  rw [xPc_of g5, s1, s2, s4, s0, s0, s0, g6, g12, g13, g14, g15, g4]
  have e1 : P2 = P ↔ nI P2 = nI P := (nI_eqI (by omega) (by omega)).symm
  have hf' : (nI f').toInt = f' := nI_toInt (by omega)
  have ha' : (nI a).toInt = a := nI_toInt (by omega)
  have hb' : (nI b).toInt = b := nI_toInt (by omega)
  have e2 : (if nI f' < f then f else nI f') = (if f ≤ nI f' then nI f' else f) := by
    by_cases z : nI f' < f
    · rw [if_pos z, if_neg (Int32.not_le.mpr z)]
    · rw [if_neg z, if_pos (Int32.not_lt.mp z)]
  rw [e2]
  have e3 : ((if f ≤ nI f' then nI f' else f) < (if t < nI a then t else nI a)) ↔ ((if f ≤ nI f' then nI f' else f) < (if nI b ≤ t then nI b else t)) := by
    rcases g16 with ⟨rfl, q⟩ | ⟨q1, q2, rfl⟩
    · have : (if t < nI a then t else nI a) = (if nI a ≤ t then nI a else t) := by
        by_cases z : t < nI a
        · rw [if_pos z, if_neg (Int32.not_le.mpr z)]
        · rw [if_neg z, if_pos (Int32.not_lt.mp z)]
      rw [this]
    · constructor
      · intro z
        exfalso
        revert z
        split <;> split <;> simp only [fa_lt, fa_le] at * <;> omega
      · intro z
        exfalso
        revert z
        split <;> split <;> simp only [fa_lt, fa_le] at * <;> omega
  rw [e1, e3]
theorem vI_club (h : vI S n T C nP) (hC : C < 20) {P : Nat} (hP : P < 4) (h3 : vP1 S P (nP P)) {l f t u : Int32} (hc : xrcond S P l f t u) : vI (xrnc (xnc S C P l f t u) C P l f t u) n T (C + 1) nP := by
  obtain ⟨S2, hS2⟩ : ∃ S2, S2 = xrnc (xnc S C P l f t u) C P l f t u := ⟨_, rfl⟩
  have hT2 := h.T2
  have e0 : ∀ d j, d ≠ C → gI S2 0 d j = gI S 0 d j := by
    intro d j z; subst hS2
    simp only [xrnc, xnc, xc0, gI_sI, gI_sR, gI_sN]
    repeat rw [if_neg (by omega)]
  have eR0 : ∀ d j, d ≠ C → gR S2 0 d j = gR S 0 d j := by
    intro d j z; subst hS2
    simp only [xrnc, xnc, xc0, gR_sI, gR_sR, gR_sN]
    repeat rw [if_neg (by omega)]
  have eR12 : ∀ d, d ≠ C → gR S2 12 0 d = gR S 12 0 d := by
    intro d z; subst hS2
    simp only [xrnc, xnc, xc0, gR_sI, gR_sR, gR_sN]
    repeat rw [if_neg (by omega)]
  have eL0 : ∀ d, d ≠ C → gL S2 0 d = gL S 0 d := by
    intro d z; subst hS2
    simp only [xrnc, xnc, xc0, gL_sI, gL_sR, gL_sN]
    repeat rw [if_neg (by omega)]
  have er : ∀ k b, 50 < k → b ≠ C → gI S2 k 0 b = gI S k 0 b := by
    intro k b z1 z2; subst hS2
    simp only [xrnc, xnc, xc0, gI_sI, gI_sR, gI_sN]
    repeat rw [if_neg (by omega)]
  have er2 : ∀ k b, 50 < k → ¬ (86 < k ∧ k < 92) → gI S2 k 0 b = gI S k 0 b := by
    intro k b z1 z2; subst hS2
    simp only [xrnc, xnc, xc0, gI_sI, gI_sR, gI_sN]
    repeat rw [if_neg (by omega)]
  have c12 : gR S2 12 0 C = some (0, C) := by subst hS2; simp [xrnc, xnc, xc0, gR_sI, gR_sR, gR_sN]
  have cR0 : gR S2 0 C 0 = some (3, P) := by subst hS2; simp [xrnc, xnc, xc0, gR_sI, gR_sR, gR_sN]
  have c1 : gI S2 0 C 1 = l := by subst hS2; simp [xrnc, xnc, xc0, gI_sI, gI_sR, gI_sN]
  have c2 : gI S2 0 C 2 = f := by subst hS2; simp [xrnc, xnc, xc0, gI_sI, gI_sR, gI_sN]
  have c3 : gI S2 0 C 3 = u := by subst hS2; simp [xrnc, xnc, xc0, gI_sI, gI_sR, gI_sN]
  have c4 : gI S2 0 C 4 = t := by subst hS2; simp [xrnc, xnc, xc0, gI_sI, gI_sR, gI_sN]
  have c5 : gI S2 0 C 5 = 0 := by subst hS2; simp [xrnc, xnc, xc0, gI_sI, gI_sR, gI_sN]
  have c6 : gI S2 0 C 6 = 0 := by subst hS2; simp [xrnc, xnc, xc0, gI_sI, gI_sR, gI_sN]
  have b87 : gI S2 87 0 C = nI P := by subst hS2; simp [xrnc, xnc, xc0, gI_sI, gI_sR, gI_sN]
  have b88 : gI S2 88 0 C = l := by subst hS2; simp [xrnc, xnc, xc0, gI_sI, gI_sR, gI_sN]
  have b89 : gI S2 89 0 C = f := by subst hS2; simp [xrnc, xnc, xc0, gI_sI, gI_sR, gI_sN]
  have b90 : gI S2 90 0 C = t := by subst hS2; simp [xrnc, xnc, xc0, gI_sI, gI_sR, gI_sN]
  have b91 : gI S2 91 0 C = u := by subst hS2; simp [xrnc, xnc, xc0, gI_sI, gI_sR, gI_sN]
  have hX2 : xShX S2 := by subst hS2; exact h.X
  have hM2 : xShM S2 := by subst hS2; exact h.M
  have hp2 : ∀ p, p < 4 → vPool S2 T nP p := by subst hS2; exact h.p
  have hl2 : vLs S2 T := by subst hS2; exact h.l
  have hu2 : vPu S2 := by subst hS2; exact h.u
  have ht2 : ∀ t, t < 200 → (t < T → vT1 S2 t ∧ (∃ P, vT2 S2 t P) ∧ vT3 S C t ∧ vT4 S2 t) ∧ (T ≤ t → gR S2 11 0 t = none ∧ gL S2 7 t = none ∧ (gI S2 79 0 t) = 0 ∧ (gI S2 80 0 t) = 0 ∧ (gI S2 81 0 t) = 0) := by subst hS2; exact h.t
  have g7 : ∀ t j, gR S2 7 t j = gR S 7 t j := by intro t j; subst hS2; rfl
  have hs2 : vSc S2 n T (C + 1) := by
    obtain ⟨s1, s2, s3, s4, s5, s6, s7, s8, s9, s10, s11⟩ := h.s
    have q8 : (gI S2 8 0 7) = (gI S 8 0 7) + 1 := by subst hS2; simp [xrnc, xnc, xc0, gI_sI, gI_sR, gI_sN]
    have q9 : (gI S2 9 0 35) = (gI S 9 0 35) + 1 := by subst hS2; simp [xrnc, xnc, xc0, gI_sI, gI_sR, gI_sN]
    refine ⟨s1, s2, by omega, by subst hS2; exact s4, by subst hS2; exact s5, by subst hS2; exact s6, by subst hS2; exact s7, by rw [q8, s8, nI_s], by rw [q9, s9, nI_s], by subst hS2; exact s10, by subst hS2; exact s11⟩
  rw [← hS2]
  clear hS2
  refine ⟨hX2, hM2, hs2, hp2, fun t ht => ⟨fun z => ?_, (ht2 t ht).2⟩, ?_, hl2, hu2⟩
  · obtain ⟨w1, w2, w3, w4⟩ := (ht2 t ht).1 z
    refine ⟨w1, w2, ?_, w4⟩
    rcases w3 with ⟨y1, y2⟩ | ⟨y1, c, y2, y3, y4, y5, y6⟩
    · refine Or.inl ⟨?_, ?_⟩
      · rw [er2 74 _ (by omega) (by omega)]; exact y1
      · rw [g7]; exact y2
    · refine Or.inr ⟨?_, c, by omega, ?_, ?_, ?_, ?_⟩
      · rw [er2 74 _ (by omega) (by omega)]; exact y1
      · rw [er2 75 _ (by omega) (by omega)]; exact y3
      · rw [g7]; exact y4
      · rw [er2 73 _ (by omega) (by omega), er 87 c (by omega) (by omega)]; exact y5
      · rw [er2 74 _ (by omega) (by omega), er 91 c (by omega) (by omega)]; exact y6
  · intro c hc20
    have hsc : ∀ c b, xsch S2 c b T = xsch S c b T := by
      intro c b
      exact xsm_cong fun t ht => by rw [er2 79 t (by omega) (by omega), er2 74 t (by omega) (by omega), er2 75 t (by omega) (by omega), er2 76 t (by omega) (by omega)]
    by_cases e : c = C
    · subst e
      refine ⟨fun _ => ⟨⟨P, ?_⟩, fun _ => ?_⟩, fun z => absurd z (by omega)⟩
      · obtain ⟨⟨x1, x2⟩, ⟨x3, x4⟩, x5, x6, x7, x8⟩ := hc
        obtain ⟨L, hL1, hL8, l1, l2⟩ := h3.2.2.2.2.2.2.1
        obtain ⟨p1, p2⟩ := y_pow hL8
        rw [l1, y_shl hL8] at x2
        have hl0 : ¬ l < 0 := fun z => Int32.lt_irrefl (Int32.lt_of_lt_of_le z (Int32.le_trans (by decide : (0 : Int32) ≤ 1) x1))
        obtain ⟨m, hm, hm2⟩ := nI_of hl0
        obtain ⟨f', hf, hf2⟩ := nI_of2 (n := 1439) (x := f) rfl (Int32.not_lt.mpr x3) x4
        have ht0 : ¬ t < 0 := fun z => Int32.lt_irrefl (Int32.lt_of_lt_of_le z (Int32.le_trans x3 (Int32.le_of_lt x5)))
        obtain ⟨b', hb, hb2⟩ := nI_of2 (n := 1440) (x := t) rfl ht0 x6
        unfold vC1
        rw [c12, cR0, c1, c2, c3, c4, b87, b88, b89, b90, b91, er2 51 _ (by omega) (by omega), er2 53 _ (by omega) (by omega)]
        refine ⟨rfl, hP, h3.1, rfl, rfl, rfl, ⟨L, m, l1, hL8, hm2, ?_⟩, rfl, ⟨x7, x8⟩, f', b', b', by omega, by omega, hf2, hf2, hb2, hb2, Or.inl ⟨rfl, ?_⟩⟩
        · have q1 : (nI (2 ^ L) - 1).toInt = (2 ^ L : Nat) - 1 := by
            generalize 2 ^ L = M at *
            obtain ⟨m, rfl⟩ : ∃ m, M = m + 1 := ⟨M - 1, by omega⟩
            rw [nI_pred, nI_toInt (by omega)]; omega
          rw [hm2, fa_le, q1, nI_toInt hm] at x2
          omega
        · rw [hf2, hb2] at x5
          exact (nI_ltI (by omega) (by omega)).mp x5
      · rw [c5, c6, hsc, hsc]
        have w : ∀ b, xsch S (nI c) b T = 0 := by
          intro b
          refine xsm_zero fun t ht => if_neg ?_
          rintro ⟨-, z2, z3, -⟩
          obtain ⟨-, -, w3, -⟩ := (h.t t (by omega)).1 ht
          rcases w3 with ⟨y1, -⟩ | ⟨-, d, y2, y3, -⟩
          · exact y1 (Or.inr z2)
          · have := (nI_eqI (by omega) (by omega)).mp (y3.symm.trans z3)
            omega
        rw [w, w]
        exact ⟨rfl, rfl⟩
    · refine ⟨fun z => ?_, fun z => ?_⟩
      · obtain ⟨⟨P2, w1⟩, w2⟩ := (h.c c hc20).1 (by omega)
        refine ⟨⟨P2, ?_⟩, fun z2 => ?_⟩
        · unfold vC1 at *
          simp only [eR12 c e, eR0 c _ e, e0 c _ e, er 87 c (by omega) e, er 88 c (by omega) e, er 89 c (by omega) e, er 90 c (by omega) e, er 91 c (by omega) e, er2 51 _ (by omega) (by omega), er2 53 _ (by omega) (by omega)]
          exact w1
        · rw [er 91 c (by omega) e] at z2
          rw [e0 c _ e, e0 c _ e, hsc, hsc]
          exact w2 z2
      · have w := (h.c c hc20).2 (by omega)
        rw [eR12 c e, eL0 c e]
        exact w
theorem a_club (h : vI S n T C nP) (p l f t u : Int32) : xAPI mX8_club 4 1 7 mX9_club 3 [xI p, xI l, xI f, xI t, xI u] S := by
  rcases vpool_cases h p with ⟨h1, h2⟩ | ⟨P, hP, rfl, h1, h2, h3, h4⟩
  · exact xAPI_eq (c_club_p h.X p l f t u h1) (c_r_club_p h.M p l f t u h2) rfl h.i
  · have hC2 := h.C2
    obtain ⟨s1, s2, s3, s4, s5, s6, s7, s8, s9, s10, s11⟩ := h.s
    have ec := v_cond h h3 (l := l) (f := f) (t := t) (u := u)
    by_cases hC : C < 20
    · by_cases e : xrcond S P l f t u
      · have e' := ec.mpr e
        have hq := v_cok h
        rcases y_least (fun c => xrkp S (nI P) l f t c) C with w | ⟨c0, w1, w2, w3⟩
        · have a1 := c_club_y h.X (nI P) l f t u h1 s8 hC e' ((h.c C hC).2 (by omega)).2 hq (fun c hc z => w c hc ((v_kp h hP hc (by simp [xc0, gI_sI, gI_sR, gI_sN]) (by simp [xc0, gI_sI, gI_sR, gI_sN]) (by simp [xc0, gI_sI, gI_sR, gI_sN]) (fun j => by
            simp only [xc0, gI_sI, gI_sR, gI_sN]
            repeat rw [if_neg (by omega)])).mp z))
          have a2 := c_r_club_y (S := xnc S C P l f t u) h.M hP h2 s9 hC l f t u e w
          exact xAPI_of a1 a2 (vInv.of (vI_club h hC hP h3 e))
        · have k : ∀ i c, c < C → (xkp (xc0 (sN S 41 i 0) 41 i P l f t u) (xPc S) c 41 i P ↔ xrkp S (nI P) l f t c) := fun i c hc => v_kp h hP hc (by simp [xc0, gI_sI, gI_sR, gI_sN]) (by simp [xc0, gI_sI, gI_sR, gI_sN]) (by simp [xc0, gI_sI, gI_sR, gI_sN]) (fun j => rfl)
          have a1 := c_club_c h.X (nI P) l f t u h1 s8 hC e' hq w1 (fun i => (k i c0 w1).mpr w2) (fun i c hc z => w3 c hc ((k i c (by omega)).mp z))
          refine a1.mono (fun v S1 hh => ?_)
          obtain ⟨rfl, i, hi, rfl⟩ := hh
          refine ⟨⟨_, rfl⟩, (c_r_club_c (S := (sI (xc0 (sN S 41 i 0) 41 i P l f t u) 8 0 8 (nI c0))) h.M hP h2 s9 hC l f t u e w1 w2 w3).mono (fun v S' hh => ?_)⟩
          obtain ⟨rfl, rfl⟩ := hh
          exact ⟨rfl, vInv.of (n' := n) (T' := T) (C' := C) (nP' := nP) ⟨h.X, h.M, ⟨s1, s2, s3, s4, s5, s6, s7, s8, s9, rfl, s11⟩, h.p, h.t, h.c, h.l, h.u⟩⟩
      · exact xAPI_eq (c_club_n h.X (nI P) l f t u h1 (fun z => e (ec.mp z.2))) (c_r_club_n h.M hP h2 l f t u e) rfl h.i
    · have e1 : ¬ (gI S 8 0 7) < 20 := by rw [s8, show C = 20 by omega]; decide
      have e2 : (gI S 9 0 35) = 20 := by rw [s9, show C = 20 by omega]; rfl
      exact xAPI_eq (c_club_n h.X (nI P) l f t u h1 (fun z => e1 z.1)) (c_r_club_f (nI P) l f t u e2) rfl h.i
end VC
