/-! calls that only answer -/
theorem i_add_sub (a b c : Int32) : a + (b - c) = a + b - c := by grind
theorem i_told (n a h : Int32) : -(n - a - h + 1) = a + h - n - 1 := by grind
theorem i_msb (x : Int32) : 0 ≤ x ↔ x.toBitVec.msb = false := by
  rw [fa_le, Int32.toInt_zero, BitVec.msb_eq_toInt]
  show 0 ≤ x.toInt ↔ decide (x.toInt < 0) = false
  rw [decide_eq_false_iff_not]
  omega
theorem i_or_nn {x y : Int32} (h1 : 0 ≤ x) (h2 : 0 ≤ y) : 0 ≤ x ||| y := by
  rw [i_msb] at *
  rw [Int32.toBitVec_or, BitVec.msb_or, h1, h2]; rfl
theorem nI_m1 {t : Nat} (h : t < 100000) : ¬ nI t = -1 := by
  intro z
  have := congrArg Int32.toInt z
  rw [nI_toInt (by omega)] at this
  have h2 : (-1 : Int32).toInt = -1 := by decide
  omega
/-- the posts that are not filled -/
def xz (S : xS) (P : Nat) : Nat → Int32
  | 0 => 0
  | k + 1 => xz S P k ||| (if nI k < (gI S 54 0 P) ∧ xrfl S (3 * P + k) = 0 then 32 else 0)
section VR
variable {S : xS} {n T C : Nat} {nP : Nat → Nat}
theorem v_fil {P N : Nat} (hnow : (gI S 8 0 5) = (gI S 9 0 0)) (h6 : vPo S P N T) (hT2 : T ≤ 200) {j : Nat} (hj : j < 3) (hN : j < N) : xfil S (3 * P + j) (gI S 8 0 5) = xrfl S (3 * P + j) := by
  obtain ⟨h1, h2⟩ := h6 j hj
  unfold xfil xrfl
  rw [hnow, h1 hN]
  rcases h2 with ⟨q1, q2⟩ | ⟨t, q1, -, q2, q3, -⟩
  · rw [q1, q2 hN, if_neg (fun z => z.1 rfl), if_neg (fun z => z.1 rfl)]
  · have e := nI_m1 (t := t) (by omega)
    rw [q2, q3]
    by_cases hh : (gI S 9 0 0) - (gI S 71 0 (3 * P + j)) < 60
    · rw [if_pos ⟨by simp, hh⟩, if_pos ⟨e, hh⟩]
    · rw [if_neg (fun z => hh z.2), if_neg (fun z => hh z.2)]
theorem v_rl {P : Nat} (hnow : (gI S 8 0 5) = (gI S 9 0 0)) (hput : (gI S 3 P 8) = (gI S 69 0 P)) (h5 : vTh S P) : ∀ k, k ≤ 3 → xrrl S P k = xrl S P (gI S 8 0 5) k ||| xz S P k
  | 0, _ => by
    show (if (gI S 9 0 0) < (gI S 69 0 P) then (16 : Int32) else 0) = (if (gI S 8 0 5) < (gI S 3 P 8) then 16 else 0) ||| 0
    rw [hnow, hput, Int32.or_zero]
  | k + 1, hk => by
    have ih := v_rl hnow hput h5 k (by omega)
    obtain ⟨t1, t2, t3, t4, t5⟩ := h5 k (by omega)
    have e1 : ∀ a, xr1 S P k a = a ||| xra S P k := by
      intro a
      unfold xr1 xra
      rw [t1, t2, t3, t5]
      by_cases c1 : (gI S 67 0 (3 * P + k)) = 0
      · rw [if_neg (fun z => z.1 c1), if_pos (Or.inl c1), Int32.or_zero]
      · by_cases c2 : (gI S 64 0 (3 * P + k)) ≤ (gI S 66 0 (3 * P + k)) ∧ (gI S 66 0 (3 * P + k)) ≤ (gI S 65 0 (3 * P + k))
        · rw [if_neg (fun z => z.2 c2), if_pos (Or.inr c2), Int32.or_zero]
        · rw [if_pos ⟨c1, c2⟩, if_neg (fun z => z.elim c1 c2)]
    have e2 : ∀ a, xr2 S P k a = a ||| xrb S P (gI S 8 0 5) k := by
      intro a
      unfold xr2 xrb
      rw [hnow, t4]
      split
      · rfl
      · rw [Int32.or_zero]
    have e3 : ∀ a, xr3 S P k a = a ||| (if nI k < (gI S 54 0 P) ∧ xrfl S (3 * P + k) = 0 then 32 else 0) := by
      intro a
      unfold xr3
      split
      · rfl
      · rw [Int32.or_zero]
    show xr3 S P k (xr2 S P k (xr1 S P k (xrrl S P k))) = ((xrl S P (gI S 8 0 5) k ||| xra S P k) ||| xrb S P (gI S 8 0 5) k) ||| (xz S P k ||| (if nI k < (gI S 54 0 P) ∧ xrfl S (3 * P + k) = 0 then 32 else 0))
    rw [e3, e2, e1, ih]
    generalize xrl S P (gI S 8 0 5) k = A
    generalize xz S P k = B
    generalize xra S P k = D
    generalize xrb S P (gI S 8 0 5) k = E
    generalize (if nI k < (gI S 54 0 P) ∧ xrfl S (3 * P + k) = 0 then (32 : Int32) else 0) = F
    ac_rfl
theorem xrfl_01 (S : xS) (A : Nat) : xrfl S A = 0 ∨ xrfl S A = 1 := by unfold xrfl; split; exact Or.inr rfl; exact Or.inl rfl
theorem v_z0 (N : Nat) (hN : N = 0 ∨ N = 1 ∨ N = 2 ∨ N = 3) (a b c : Int32) (ha : a = 0 ∨ a = 1) (hb : b = 0 ∨ b = 1) (hc : c = 0 ∨ c = 1) : (((0 ||| if nI 0 < nI N ∧ a = 0 then (32 : Int32) else 0) ||| if nI 1 < nI N ∧ b = 0 then 32 else 0) ||| if nI 2 < nI N ∧ c = 0 then 32 else 0) = if xsm (fun k => if k = 0 then a else if k = 1 then b else c) N < nI N then 32 else 0 := by
  rcases hN with rfl | rfl | rfl | rfl <;> rcases ha with rfl | rfl <;> rcases hb with rfl | rfl <;> rcases hc with rfl | rfl <;> decide
theorem v_z {P N : Nat} (hN : N ≤ 3) (hp : (gI S 54 0 P) = nI N) : xz S P 3 = if xsm (fun k => xrfl S (3 * P + k)) N < nI N then 32 else 0 := by
  have e := v_z0 N (by omega) _ _ _ (xrfl_01 S (3 * P + 0)) (xrfl_01 S (3 * P + 1)) (xrfl_01 S (3 * P + 2))
  rw [← hp] at e
  rw [← hp, xsm_cong (g := fun k => if k = 0 then xrfl S (3 * P + 0) else if k = 1 then xrfl S (3 * P + 1) else xrfl S (3 * P + 2)) (fun k hk => ?_)]
  · exact e
  · have : k = 0 ∨ k = 1 ∨ k = 2 := by omega
    rcases this with rfl | rfl | rfl <;> rfl
theorem v_rs {P : Nat} (h : vI S n T C nP) (h3 : vP1 S P (nP P)) (h5 : vTh S P) (h6 : vPo S P (nP P) T) (hN : nP P ≤ 3) : xrs S P (nP P) (gI S 8 0 5) = xrrl S P 3 := by
  rw [v_rl h.now h3.2.2.2.2.2.2.2.1 h5 3 (by omega), v_z hN h3.2.2.2.1]
  unfold xrs
  rw [xsm_cong (g := fun k => xrfl S (3 * P + k)) (fun k hk => v_fil h.now h6 h.T2 (by omega) hk)]
theorem v_rnn {P : Nat} : ∀ k, k ≤ 3 → 0 ≤ xrrl S P k
  | 0, _ => by unfold xrrl; split <;> decide
  | k + 1, hk => by
    have ih := v_rnn (P := P) k (by omega)
    show 0 ≤ xr3 S P k (xr2 S P k (xr1 S P k (xrrl S P k)))
    have e1 : 0 ≤ xr1 S P k (xrrl S P k) := by
      unfold xr1
      split
      · refine i_or_nn ih ?_
        have : k = 0 ∨ k = 1 ∨ k = 2 := by omega
        rcases this with rfl | rfl | rfl <;> decide
      · exact ih
    have e2 : 0 ≤ xr2 S P k (xr1 S P k (xrrl S P k)) := by
      unfold xr2
      split
      · exact i_or_nn e1 (by decide)
      · exact e1
    unfold xr3
    split
    · exact i_or_nn e2 (by decide)
    · exact e2
end VR
