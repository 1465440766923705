/-! the start: the coupling; the loop -/
section St
theorem gR_0 (a b c : Nat) : gR xZ0 a b c = gR (xmi xY0) a b c := gR_2 xZ0_2 a b c
theorem gL_0 (a b : Nat) : gL xZ0 a b = gL (xmi xY0) a b := gL_2 xZ0_2 a b
theorem xZ0_X : xShX xZ0 := by
  unfold xShX
  simp only [gR_0, gL_0]
  exact ⟨rfl, rfl, rfl, rfl, rfl, rfl, rfl, rfl, rfl, rfl, rfl, rfl, rfl, rfl, rfl, rfl⟩
theorem xZ0_M : xShM xZ0 := xShM_2 (xmi_M xY0) xZ0_2
theorem xZ0_0 (a b c : Nat) (h : 50 ≤ a) (h2 : a ≠ 94 ∧ a ≠ 83 ∧ a ≠ 84 ∧ a ≠ 60 ∧ a ≠ 70 ∧ a ≠ 65) : gI xZ0 a b c = 0 := by
  rw [xZ0_hi a b c h]
  repeat rw [if_neg (by omega)]
theorem xZ0_P (p : Nat) (hp : p < 4) : vP0 xZ0 p := by
  refine ⟨xZ0_0 _ _ _ (by omega) (by omega), (gR_0 _ _ _).trans rfl, (gL_0 _ _).trans rfl, (gL_0 _ _).trans rfl, (gL_0 _ _).trans rfl, (gL_0 _ _).trans rfl, fun j hj => (gL_0 _ _).trans rfl, fun j hj => (gL_0 _ _).trans rfl, ⟨xZ0_0 _ _ _ (by omega) (by omega), xZ0_0 _ _ _ (by omega) (by omega), xZ0_0 _ _ _ (by omega) (by omega), xZ0_0 _ _ _ (by omega) (by omega), xZ0_0 _ _ _ (by omega) (by omega), ?_, xZ0_0 _ _ _ (by omega) (by omega), xZ0_0 _ _ _ (by omega) (by omega), xZ0_0 _ _ _ (by omega) (by omega), xZ0_0 _ _ _ (by omega) (by omega), xZ0_0 _ _ _ (by omega) (by omega), xZ0_0 _ _ _ (by omega) (by omega)⟩, fun j hj => ⟨xZ0_0 _ _ _ (by omega) (by omega), ?_, xZ0_0 _ _ _ (by omega) (by omega), xZ0_0 _ _ _ (by omega) (by omega), xZ0_0 _ _ _ (by omega) (by omega), ?_, xZ0_0 _ _ _ (by omega) (by omega)⟩⟩
  · rw [xZ0_hi _ _ _ (by omega)]
    rw [if_neg (by omega), if_neg (by omega), if_pos ⟨rfl, rfl, hp⟩]
  · rw [xZ0_hi _ _ _ (by omega)]
    rw [if_neg (by omega), if_neg (by omega), if_neg (by omega), if_neg (by omega), if_pos ⟨rfl, rfl, by omega⟩]
  · rw [xZ0_hi _ _ _ (by omega)]
    rw [if_neg (by omega), if_neg (by omega), if_neg (by omega), if_pos ⟨rfl, rfl, by omega⟩]
theorem xZ0_a (a b c : Nat) (h : a < 50) (h2 : a ≠ 9 ∧ a ≠ 8 ∧ a ≠ 13 ∧ a ≠ 15) : gI xZ0 a b c = 0 := by
  rw [xZ0_lo a b c h (by omega), xY0_I]
  repeat rw [if_neg (by omega)]
theorem xZ0_9 (c : Nat) (h : c ≠ 36) : gI xZ0 9 0 c = 0 := by
  rw [xZ0_lo 9 0 c (by omega) (by omega), xY0_I]
  repeat rw [if_neg (by omega)]
theorem xZ0_8 (c : Nat) : gI xZ0 8 0 c = if c = 8 then -1 else 0 := by
  rw [xZ0_lo 8 0 c (by omega) (by omega), xY0_I]
  by_cases e : c = 8
  · rw [if_pos ⟨rfl, rfl, e⟩, if_pos e]
  · rw [if_neg (by omega), if_neg e]
    repeat rw [if_neg (by omega)]
theorem xZ0_36 : gI xZ0 9 0 36 = -1 := by
  unfold xZ0 xrf
  rw [xfill_I, if_neg (by omega), xml2_I, if_neg (by omega), xfill_I, if_neg (by omega), xml1_I, if_neg (by omega), if_neg (by omega)]
  rfl
theorem xZ0_key (l : Nat) (hl : l < 30) : (gI xZ0 83 0 l) = -1 := by
  rw [xZ0_hi _ _ _ (by omega), if_neg (by omega), if_pos ⟨Or.inl rfl, rfl, hl⟩]
theorem xZ0_bag (l : Nat) (hl : l < 30) : (gI xZ0 84 0 l) = -1 := by
  rw [xZ0_hi _ _ _ (by omega), if_neg (by omega), if_pos ⟨Or.inr rfl, rfl, hl⟩]
theorem vI_0 : vI xZ0 0 0 0 (fun _ => 0) := by
  refine ⟨xZ0_X, xZ0_M, ⟨by omega, by omega, by omega, ?_, ?_, ?_, ?_, ?_, ?_, ?_, ?_⟩, fun p hp => Or.inl (xZ0_P p hp), fun t ht => ⟨fun z => absurd z (by omega), fun _ => ⟨(gR_0 _ _ _).trans rfl, (gL_0 _ _).trans rfl, xZ0_0 _ _ _ (by omega) (by omega), xZ0_0 _ _ _ (by omega) (by omega), xZ0_0 _ _ _ (by omega) (by omega)⟩⟩, fun c hc => ⟨fun z => absurd z (by omega), fun _ => ⟨(gR_0 _ _ _).trans rfl, (gL_0 _ _).trans rfl⟩⟩, ⟨fun l hl => ⟨Or.inl ⟨xZ0_a _ _ _ (by omega) (by omega), xZ0_bag l hl, ?_⟩, Or.inl (xZ0_key l hl)⟩, fun l k hl _ z => absurd (xZ0_key l hl) z⟩, fun k hk => ⟨?_, ?_⟩, ?_, ?_⟩
  · rw [xZ0_8, if_neg (by omega)]; rfl
  · rw [xZ0_9 _ (by omega)]; rfl
  · rw [xZ0_8, if_neg (by omega)]; rfl
  · rw [xZ0_9 _ (by omega)]; rfl
  · rw [xZ0_8, if_neg (by omega)]; rfl
  · rw [xZ0_9 _ (by omega)]; rfl
  · rw [xZ0_8, if_pos rfl, xZ0_36]
  · rw [xZ0_8, if_neg (by omega)]; rfl
  · rw [xZ0_key l hl, xZ0_lo _ _ _ (by omega) (by omega), xY0_I, if_neg (by omega), if_pos ⟨rfl, rfl, hl⟩]
  · rw [xZ0_lo _ _ _ (by omega) (by omega), xY0_I, if_neg (by omega), if_neg (by omega), if_pos ⟨rfl, rfl, hk⟩, xZ0_hi _ _ _ (by omega), if_pos ⟨rfl, rfl, hk⟩]
  · rw [xZ0_a _ _ _ (by omega) (by omega), xZ0_0 _ _ _ (by omega) (by omega)]
  · rw [xZ0_a _ _ _ (by omega) (by omega), xZ0_9 _ (by omega)]
  · rw [xZ0_a _ _ _ (by omega) (by omega), xZ0_9 _ (by omega)]
end St
