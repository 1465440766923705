/-! the coupling: what class and reference hold alike -/
def vSc (S : xS) (n T C : Nat) : Prop := n < 1440 ∧ T ≤ 200 ∧ C ≤ 20 ∧ (gI S 8 0 5) = nI n ∧ (gI S 9 0 0) = nI n ∧ (gI S 8 0 6) = nI T ∧ (gI S 9 0 22) = nI T ∧ (gI S 8 0 7) = nI C ∧ (gI S 9 0 35) = nI C ∧ (gI S 8 0 8) = (gI S 9 0 36) ∧ (gI S 8 0 9) = xsm (fun t => (gI S 80 0 t)) T
/-- a pool that is not there -/
def vP0 (S : xS) (p : Nat) : Prop := (gI S 51 0 p) = 0 ∧ gR S 10 0 p = none ∧ gL S 3 p = none ∧ gL S 1 p = none ∧ gL S 17 p = none ∧ gL S 18 p = none ∧ (∀ j, j < 3 → gL S 4 (3 * p + j) = none) ∧ (∀ j, j < 3 → gL S 6 (3 * p + j) = none) ∧
  ((gI S 55 0 p) = 0 ∧ (gI S 56 0 p) = 0 ∧ (gI S 57 0 p) = 0 ∧ (gI S 58 0 p) = 0 ∧ (gI S 59 0 p) = 0 ∧ (gI S 60 0 p) = 1 ∧ (gI S 61 0 p) = 0 ∧ (gI S 62 0 p) = 0 ∧ (gI S 63 0 p) = 0 ∧ (gI S 69 0 p) = 0 ∧ (gI S 92 0 p) = 0 ∧ (gI S 93 0 p) = 0) ∧
  ∀ j, j < 3 → ((gI S 64 0 (3 * p + j)) = 0 ∧ (gI S 65 0 (3 * p + j)) = 100 ∧ (gI S 66 0 (3 * p + j)) = 0 ∧ (gI S 67 0 (3 * p + j)) = 0 ∧ (gI S 68 0 (3 * p + j)) = 0 ∧ (gI S 70 0 (3 * p + j)) = -1 ∧ (gI S 71 0 (3 * p + j)) = 0)
/-- a pool that is there: what stays, its water's pump, minutes -/
def vP1 (S : xS) (p N : Nat) : Prop := (gI S 51 0 p) = 1 ∧ gR S 10 0 p = some (3, p) ∧ xShP S p N ∧ (gI S 54 0 p) = nI N ∧ (gI S 3 p 0) = nI p ∧ (gI S 3 p 1) = (gI S 52 0 p) ∧ (∃ L, 1 ≤ L ∧ L ≤ 8 ∧ (gI S 53 0 p) = nI L ∧ (gI S 3 p 2) = nI L) ∧ (gI S 3 p 8) = (gI S 69 0 p) ∧ (gI S 3 p 9) = (gI S 63 0 p) ∧ (gI S 3 p 10) = (gI S 92 0 p) ∧ (gI S 3 p 11) = (gI S 93 0 p) ∧ (((gI S 92 0 p) = 0 ∧ (gI S 93 0 p) = 0) ∨ ((1 ≤ (gI S 92 0 p) ∧ (gI S 92 0 p) ≤ 100000) ∧ 1 ≤ (gI S 93 0 p) ∧ (gI S 93 0 p) ≤ 10000))
def vD (S : xS) (p : Nat) : Prop := (gI S 1 p 0) = (gI S 60 0 p) ∧ xB (gI S 60 0 p) ∧ (gI S 1 p 1) = (gI S 59 0 p) ∧ xB (gI S 59 0 p) ∧ (gI S 1 p 2) = (gI S 55 0 p) ∧ (gI S 1 p 3) = (gI S 56 0 p) ∧ ((gI S 59 0 p) = 0 → (gI S 1 p 4) = (gI S 57 0 p) - (gI S 58 0 p)) ∧ ((gI S 60 0 p) = 0 → (gI S 59 0 p) = 1) ∧ (∃ a, a ≤ 3 ∧ (gI S 1 p 5) = nI a ∧ (gI S 61 0 p) = nI a) ∧ ∃ a, a ≤ 3 ∧ (gI S 1 p 6) = nI a ∧ (gI S 62 0 p) = nI a
def vTh (S : xS) (p : Nat) : Prop := ∀ j, j < 3 → ((gI S 6 (3 * p + j) 0) = (gI S 64 0 (3 * p + j)) ∧ (gI S 6 (3 * p + j) 1) = (gI S 65 0 (3 * p + j)) ∧ (gI S 6 (3 * p + j) 2) = (gI S 66 0 (3 * p + j)) ∧ (gI S 6 (3 * p + j) 3) = (gI S 68 0 (3 * p + j)) ∧ (gI S 6 (3 * p + j) 4) = (gI S 67 0 (3 * p + j)))
def vPo (S : xS) (p N T : Nat) : Prop := ∀ j, j < 3 → (j < N → (gI S 4 (3 * p + j) 1) = (gI S 71 0 (3 * p + j))) ∧ (((gI S 70 0 (3 * p + j)) = -1 ∧ (j < N → (gR S 4 (3 * p + j) 0) = none)) ∨ ∃ t, t < T ∧ j < N ∧ (gI S 70 0 (3 * p + j)) = nI t ∧ (gR S 4 (3 * p + j) 0) = some (7, t) ∧ (gI S 79 0 t) = 1 ∧ (gI S 73 0 t) = nI p ∧ (gI S 74 0 t) = 5 ∧ (gR S 7 t 12) = some (4, 3 * p + j))
def vIn (S : xS) (p T : Nat) : Prop := (gI S 3 p 6) = xtru S (nI p) 0 T ∧ (gI S 3 p 7) = xtru S (nI p) 1 T
def vPool (S : xS) (T : Nat) (nP : Nat → Nat) (p : Nat) : Prop := vP0 S p ∨ (vP1 S p (nP p) ∧ vD S p ∧ vTh S p ∧ vPo S p (nP p) T ∧ vIn S p T)
/-- a ticket -/
def vT1 (S : xS) (t : Nat) : Prop := gR S 11 0 t = some (7, t) ∧ (gI S 7 t 0) = nI t ∧ (gI S 7 t 2) = (gI S 74 0 t) ∧ (0 ≤ (gI S 74 0 t) ∧ (gI S 74 0 t) ≤ 5) ∧ (gI S 7 t 3) = (gI S 75 0 t) ∧ xB (gI S 79 0 t) ∧ (gI S 7 t 6) = (gI S 79 0 t) ∧ (gI S 7 t 7) = (gI S 77 0 t) ∧ (gI S 7 t 9) = (gI S 81 0 t) ∧ (gI S 7 t 10) = (gI S 80 0 t) ∧ xB (gI S 7 t 5) ∧ xB (gI S 76 0 t) ∧ ((gI S 74 0 t) = 3 → (gI S 7 t 5) = (gI S 76 0 t)) ∧ ((gI S 74 0 t) = 4 → (gI S 81 0 t) = 0 ∨ (gI S 81 0 t) = 1) ∧ ((gI S 79 0 t) = 1 → ((gI S 74 0 t) = 1 ∨ (gI S 74 0 t) = 2 ∨ (gI S 74 0 t) = 3) → (gI S 7 t 8) = (gI S 78 0 t))
def vT2 (S : xS) (t P : Nat) : Prop := P < 4 ∧ (gI S 51 0 P) = 1 ∧ (gI S 73 0 t) = nI P ∧ (gR S 7 t 1) = some (3, P) ∧ ((gR S 7 t 12) = none ∨ ∃ j, j < 3 ∧ (gR S 7 t 12) = some (4, 3 * P + j) ∧ (gI S 70 0 (3 * P + j)) = nI t) ∧ ((gI S 7 t 13) = (gI S 82 0 t) ∨ ((gI S 7 t 13) = -20 ∧ (gI S 82 0 t) = -1000))
def vT3 (S : xS) (C t : Nat) : Prop := (¬ ((gI S 74 0 t) = 2 ∨ (gI S 74 0 t) = 3) ∧ (gR S 7 t 4) = none) ∨ (((gI S 74 0 t) = 2 ∨ (gI S 74 0 t) = 3) ∧ ∃ c, c < C ∧ (gI S 75 0 t) = nI c ∧ (gR S 7 t 4) = some (0, c) ∧ (gI S 87 0 c) = (gI S 73 0 t) ∧ ((gI S 74 0 t) = 3 ↔ 0 < (gI S 91 0 c)))
def vT4 (S : xS) (t : Nat) : Prop := (gI S 7 t 11) = xon (xlk S (nI t))
def vTk (S : xS) (T C t : Nat) : Prop := (t < T → vT1 S t ∧ (∃ P, vT2 S t P) ∧ vT3 S C t ∧ vT4 S t) ∧ (T ≤ t → gR S 11 0 t = none ∧ gL S 7 t = none ∧ (gI S 79 0 t) = 0 ∧ (gI S 80 0 t) = 0 ∧ (gI S 81 0 t) = 0)
/-- a club -/
def vC1 (S : xS) (n c P : Nat) : Prop := gR S 12 0 c = some (0, c) ∧ P < 4 ∧ (gI S 51 0 P) = 1 ∧ (gI S 87 0 c) = nI P ∧ gR S 0 c 0 = some (3, P) ∧ (gI S 0 c 1) = (gI S 88 0 c) ∧ (∃ L m, (gI S 53 0 P) = nI L ∧ L ≤ 8 ∧ (gI S 88 0 c) = nI m ∧ m < 2 ^ L) ∧ (gI S 0 c 3) = (gI S 91 0 c) ∧ (0 ≤ (gI S 91 0 c) ∧ (gI S 91 0 c) ≤ 30) ∧ ∃ f a b, f < 1440 ∧ b ≤ 1440 ∧ (gI S 0 c 2) = nI f ∧ (gI S 89 0 c) = nI f ∧ (gI S 0 c 4) = nI a ∧ (gI S 90 0 c) = nI b ∧ ((a = b ∧ f < b) ∨ (a ≤ n ∧ a ≤ f ∧ b = f))
def vC2 (S : xS) (T c : Nat) : Prop := 0 < (gI S 91 0 c) → (gI S 0 c 5) = xsch S (nI c) 0 T ∧ (gI S 0 c 6) = xsch S (nI c) 1 T
def vCk (S : xS) (n T C c : Nat) : Prop := (c < C → (∃ P, vC1 S n c P) ∧ vC2 S T c) ∧ (C ≤ c → gR S 12 0 c = none ∧ gL S 0 c = none)
def vL (S : xS) (T l : Nat) : Prop := (((gI S 14 0 l) = 0 ∧ (gI S 84 0 l) = -1 ∧ (gI S 13 0 l) = (gI S 83 0 l)) ∨ ((gI S 14 0 l) = 1 ∧ (gI S 13 0 l) = (gI S 84 0 l) ∧ ¬ (gI S 84 0 l) = -1 ∧ (gI S 83 0 l) = -1)) ∧ ((gI S 83 0 l) = -1 ∨ ∃ t, t < T ∧ (gI S 83 0 l) = nI t)
def vLs (S : xS) (T : Nat) : Prop := (∀ l, l < 30 → vL S T l) ∧ ∀ l k, l < 30 → k < 30 → ¬ (gI S 83 0 l) = -1 → (gI S 83 0 l) = (gI S 83 0 k) → l = k
def vPu (S : xS) : Prop := (∀ h, h < 24 → (gI S 15 0 h) = (gI S 94 0 h) ∧ (gI S 16 0 h) = (gI S 95 0 h)) ∧ (gI S 5 0 2) = (gI S 9 0 46) ∧ (gI S 5 0 3) = (gI S 9 0 47)
def vI (S : xS) (n T C : Nat) (nP : Nat → Nat) : Prop := xShX S ∧ xShM S ∧ vSc S n T C ∧ (∀ p, p < 4 → vPool S T nP p) ∧ (∀ t, t < 200 → vTk S T C t) ∧ (∀ c, c < 20 → vCk S n T C c) ∧ vLs S T ∧ vPu S
def vInv (S : xS) : Prop := ∃ n T C nP, vI S n T C nP
/-- one call on both, with the same answer, and the coupling behind it -/
def xAPI (mx : xM) (dx cx sx : Nat) (mr : xM) (dr : Nat) (as : List xV) (S : xS) : Prop := CC mx dx cx sx (xR (some (8, 0)) :: as) S (fun v S1 => (∃ a, v = some (xI a)) ∧ CC mr dr 0 0 (xR (some (9, 0)) :: as) S1 (fun v' S2 => v' = v ∧ vInv S2))
theorem xAPI_of {mx mr : xM} {dx cx sx dr : Nat} {as : List xV} {S S1 S2 : xS} {a : Int32} (h1 : CC mx dx cx sx (xR (some (8, 0)) :: as) S (aI a S1)) (h2 : CC mr dr 0 0 (xR (some (9, 0)) :: as) S1 (aI a S2)) (hI : vInv S2) : xAPI mx dx cx sx mr dr as S := by
  refine h1.mono (fun v S' h => ?_)
  obtain ⟨rfl, rfl⟩ := h
  refine ⟨⟨a, rfl⟩, h2.mono (fun v S' h => ?_)⟩
  obtain ⟨rfl, rfl⟩ := h
  exact ⟨rfl, hI⟩
theorem xAPI_eq {mx mr : xM} {dx cx sx dr : Nat} {as : List xV} {S : xS} {a b : Int32} (h1 : CC mx dx cx sx (xR (some (8, 0)) :: as) S (aI a S)) (h2 : CC mr dr 0 0 (xR (some (9, 0)) :: as) S (aI b S)) (e : a = b) (hI : vInv S) : xAPI mx dx cx sx mr dr as S := by
  subst e
  exact xAPI_of h1 h2 hI
section VI
variable {S : xS} {n T C : Nat} {nP : Nat → Nat}
theorem vI.X (h : vI S n T C nP) : xShX S := h.1
theorem vI.M (h : vI S n T C nP) : xShM S := h.2.1
theorem vI.s (h : vI S n T C nP) : vSc S n T C := h.2.2.1
theorem vI.p (h : vI S n T C nP) : ∀ p, p < 4 → vPool S T nP p := h.2.2.2.1
theorem vI.t (h : vI S n T C nP) : ∀ t, t < 200 → vTk S T C t := h.2.2.2.2.1
theorem vI.c (h : vI S n T C nP) : ∀ c, c < 20 → vCk S n T C c := h.2.2.2.2.2.1
theorem vI.l (h : vI S n T C nP) : vLs S T := h.2.2.2.2.2.2.1
theorem vI.u (h : vI S n T C nP) : vPu S := h.2.2.2.2.2.2.2
theorem vI.i (h : vI S n T C nP) : vInv S := ⟨n, T, C, nP, h⟩
theorem vI.hT (h : vI S n T C nP) : (gI S 9 0 22) = nI T := h.s.2.2.2.2.2.2.1
theorem vI.T2 (h : vI S n T C nP) : T ≤ 200 := h.s.2.1
theorem vI.hC (h : vI S n T C nP) : (gI S 9 0 35) = nI C := h.s.2.2.2.2.2.2.2.2.1
theorem vI.C2 (h : vI S n T C nP) : C ≤ 20 := h.s.2.2.1
theorem vI.now (h : vI S n T C nP) : (gI S 8 0 5) = (gI S 9 0 0) := h.s.2.2.2.1.trans h.s.2.2.2.2.1.symm
theorem vpool_cases (h : vI S n T C nP) (p : Int32) : (xpl S p = none ∧ ¬ xhas S p) ∨ ∃ P, P < 4 ∧ p = nI P ∧ xpl S p = some (3, P) ∧ ¬ (gI S 51 0 P) = 0 ∧ vP1 S P (nP P) ∧ vD S P ∧ vTh S P ∧ vPo S P (nP P) T ∧ vIn S P T := by
  by_cases e1 : 0 ≤ p ∧ p ≤ 3
  · obtain ⟨P, hP, rfl⟩ := nI_of2 (n := 3) rfl (Int32.not_lt.mpr e1.1) e1.2
    have hP4 : P < 4 := by omega
    have e2 : xpl S (nI P) = gR S 10 0 P := by unfold xpl; rw [if_pos e1, vnat hP4 (by decide)]
    rcases h.p P hP4 with h0 | h1
    · left
      refine ⟨by rw [e2]; exact h0.2.1, fun z => z.2 ?_⟩
      rw [vnat hP4 (by decide)]
      exact h0.1
    · right
      exact ⟨P, hP4, rfl, by rw [e2]; exact h1.1.2.1, by rw [h1.1.1]; decide, h1⟩
  · left
    refine ⟨by unfold xpl; rw [if_neg e1], fun z => e1 z.1⟩
theorem vticket_cases (h : vI S n T C nP) (x : Int32) : (xtl S x = none ∧ ¬ (0 ≤ x ∧ x ≤ (gI S 9 0 22) - 1)) ∨ ∃ t, t < T ∧ x = nI t ∧ xtl S x = some (7, t) ∧ vT1 S t ∧ (∃ P, vT2 S t P) ∧ vT3 S C t ∧ vT4 S t := by
  rw [h.hT]
  have hT2 := h.T2
  by_cases e1 : 0 ≤ x ∧ x ≤ nI T - 1
  · obtain ⟨t, ht, rfl⟩ := rng2 (by omega) e1
    have e2 : xtl S (nI t) = gR S 11 0 t := by
      unfold xtl
      rw [if_pos ⟨e1.1, nI_le (b := 199) (by omega) (by omega)⟩, vnat (n := 200) (by omega) (by decide)]
    have hk := (h.t t (by omega)).1 ht
    exact Or.inr ⟨t, ht, rfl, by rw [e2]; exact hk.1.1, hk⟩
  · left
    refine ⟨?_, e1⟩
    unfold xtl
    by_cases e3 : 0 ≤ x ∧ x ≤ 199
    · obtain ⟨t, ht, rfl⟩ := nI_of2 (n := 199) rfl (Int32.not_lt.mpr e3.1) e3.2
      rw [if_pos e3, vnat (n := 200) (by omega) (by decide)]
      have ht2 : T ≤ t := Decidable.byContradiction fun z => e1 ((rng1 (by omega) (by omega)).mpr (by omega))
      exact ((h.t t (by omega)).2 ht2).1
    · rw [if_neg e3]
theorem vclub_cases (h : vI S n T C nP) (x : Int32) : (xcl S x = none ∧ ¬ (0 ≤ x ∧ x ≤ (gI S 9 0 35) - 1)) ∨ ∃ c, c < C ∧ x = nI c ∧ xcl S x = some (0, c) ∧ (∃ P, vC1 S n c P) ∧ vC2 S T c := by
  rw [h.hC]
  have hC2 := h.C2
  by_cases e1 : 0 ≤ x ∧ x ≤ nI C - 1
  · obtain ⟨c, hc, rfl⟩ := rng2 (by omega) e1
    have e2 : xcl S (nI c) = gR S 12 0 c := by
      unfold xcl
      rw [if_pos ⟨e1.1, nI_le (b := 19) (by omega) (by omega)⟩, vnat (n := 20) (by omega) (by decide)]
    have hk := (h.c c (by omega)).1 hc
    obtain ⟨⟨P, hP⟩, h2⟩ := hk
    exact Or.inr ⟨c, hc, rfl, by rw [e2]; exact hP.1, ⟨P, hP⟩, h2⟩
  · left
    refine ⟨?_, e1⟩
    unfold xcl
    by_cases e3 : 0 ≤ x ∧ x ≤ 19
    · obtain ⟨c, hc, rfl⟩ := nI_of2 (n := 19) rfl (Int32.not_lt.mpr e3.1) e3.2
      rw [if_pos e3, vnat (n := 20) (by omega) (by decide)]
      have hc2 : C ≤ c := Decidable.byContradiction fun z => e1 ((rng1 (by omega) (by omega)).mpr (by omega))
      exact ((h.c c (by omega)).2 hc2).1
    · rw [if_neg e3]
theorem a_clash (h : vI S n T C nP) : xAPI mX8_clash 1 0 0 mX9_clash 1 [] S := xAPI_eq c_clash c_r_clash h.s.2.2.2.2.2.2.2.2.2.1 h.i
theorem a_minutes (h : vI S n T C nP) (p : Int32) : xAPI mX8_minutes 3 0 0 mX9_minutes 3 [xI p] S := by
  rcases vpool_cases h p with ⟨h1, h2⟩ | ⟨P, hP, rfl, h1, h2, h3, -⟩
  · exact xAPI_eq (c_minutes_n h.X p h1) (c_r_minutes_n h.M p h2) rfl h.i
  · exact xAPI_eq (c_minutes_s h.X _ h1) (c_r_minutes_s h.M hP h2) h3.2.2.2.2.2.2.2.2.1 h.i
theorem a_locker (h : vI S n T C nP) (x : Int32) : xAPI mX8_locker 3 0 0 mX9_locker 3 [xI x] S := by
  by_cases e1 : 0 ≤ x ∧ x ≤ 29
  · obtain ⟨l, hl, rfl⟩ := nI_of2 (n := 29) rfl (Int32.not_lt.mpr e1.1) e1.2
    refine xAPI_eq (c_locker_s h.X (by omega)) (c_r_locker_s h.M (by omega)) ?_ h.i
    rcases (h.l.1 l (by omega)).1 with ⟨q1, q2, q3⟩ | ⟨q1, q2, q3, q4⟩
    · rw [q1, q2, q3, if_pos rfl, if_pos rfl]
    · rw [q1, if_neg (by decide), if_neg q3]
  · have e2 : ¬ (0 ≤ x ∧ x < 30) := fun z => e1 ⟨z.1, by have := z.2; rw [fa_lt] at this; rw [fa_le]; rw [show (30 : Int32).toInt = 30 from by decide] at this; rw [show (29 : Int32).toInt = 29 from by decide]; omega⟩
    exact xAPI_eq (c_locker_n x e2) (c_r_locker_n x e1) rfl h.i
theorem a_hour (h : vI S n T C nP) (x : Int32) : xAPI mX8_hour 3 0 0 mX9_hour 3 [xI x] S := by
  obtain ⟨u1, u2, u3⟩ := h.u
  by_cases e1 : ¬ (gI S 5 0 2) = 0 ∧ 0 ≤ x ∧ x ≤ 24
  · obtain ⟨e0, e1⟩ := e1
    obtain ⟨j, hj, rfl⟩ := nI_of2 (n := 24) rfl (Int32.not_lt.mpr e1.1) e1.2
    have e0' : ¬ (gI S 9 0 46) = 0 := by rw [← u2]; exact e0
    by_cases h24 : j = 24
    · subst h24
      exact xAPI_eq (c_hour_a h.X e0) (c_r_hour_a h.M e0') u3 h.i
    · refine xAPI_eq (c_hour_s h.X (by omega) e0) (c_r_hour_s h.M (by omega) e0') ?_ h.i
      rw [(u1 j (by omega)).2]
  · refine xAPI_eq (c_hour_n h.X x e1) (c_r_hour_n x ?_) rfl h.i
    rw [← u2]
    exact e1
end VI
