/-! the start: both fresh -/
theorem xfill_I {S : xS} {k : Nat} {v : Int32} (a b c : Nat) : ∀ n, gI (xfill S k v n) a b c = if a = k ∧ b = 0 ∧ c < n then v else gI S a b c
  | 0 => by rw [if_neg (by omega)]; rfl
  | n + 1 => by
    show gI (sI (xfill S k v n) k 0 n v) a b c = _
    rw [gI_sI, xfill_I a b c n]
    by_cases e : a = k ∧ c = n ∧ b = 0
    · rw [if_pos e, if_pos (by omega)]
    · rw [if_neg e]
      by_cases f : a = k ∧ b = 0 ∧ c < n
      · rw [if_pos f, if_pos (by omega)]
      · rw [if_neg f, if_neg (by omega)]
theorem xml1_I {S : xS} (a b c : Nat) : ∀ n, gI (xml1 S n) a b c = if a = 70 ∧ b = 0 ∧ c < n then -1 else if a = 65 ∧ b = 0 ∧ c < n then 100 else gI S a b c
  | 0 => by rw [if_neg (by omega), if_neg (by omega)]; rfl
  | n + 1 => by
    show gI (sI (sI (xml1 S n) 65 0 n 100) 70 0 n (-1)) a b c = _
    rw [gI_sI, gI_sI, xml1_I a b c n]
    repeat' split
    all_goals first | rfl | (exfalso; omega)
theorem xml2_I {S : xS} (a b c : Nat) : ∀ n, gI (xml2 S n) a b c = if (a = 83 ∨ a = 84) ∧ b = 0 ∧ c < n then -1 else gI S a b c
  | 0 => by rw [if_neg (by omega)]; rfl
  | n + 1 => by
    show gI (sI (sI (xml2 S n) 83 0 n (-1)) 84 0 n (-1)) a b c = _
    rw [gI_sI, gI_sI, xml2_I a b c n]
    repeat' split
    all_goals first | rfl | (exfalso; omega)
def xS0 : xS := (fun _ _ _ => 0, fun _ _ _ => none, fun _ _ => none)
def xY0 : xS := sN (xbh (sN xS0 8 0 0)) 9 0 0
def xZ0 : xS := xrf xY0
theorem y_ite0 {P : Prop} [Decidable P] {x : Int32} (h : x = 0) : (if P then 0 else x) = 0 := by
  split
  · rfl
  · exact h
theorem xY0_I (a b c : Nat) : gI xY0 a b c = if a = 8 ∧ b = 0 ∧ c = 8 then -1 else if a = 13 ∧ b = 0 ∧ c < 30 then -1 else if a = 15 ∧ b = 0 ∧ c < 24 then 1 else 0 := by
  have e0 : ∀ a b c, gI xS0 a b c = 0 := fun _ _ _ => rfl
  unfold xY0 xbh xSp xSl
  simp only [gI_sI, gI_sR, gI_sN, xfill_I, e0]
  by_cases h8 : a = 8 ∧ b = 0 ∧ c = 8
  · obtain ⟨rfl, rfl, rfl⟩ := h8
    rfl
  by_cases h13 : a = 13 ∧ b = 0 ∧ c < 30
  · obtain ⟨rfl, rfl, h⟩ := h13
    simp [h]
  by_cases h15 : a = 15 ∧ b = 0 ∧ c < 24
  · obtain ⟨rfl, rfl, h⟩ := h15
    simp [h]
  rw [if_neg h8, if_neg h13, if_neg h15, if_neg h13, if_neg h15, if_neg (show ¬ (a = 8 ∧ c = 8 ∧ b = 0) by omega)]
  repeat refine y_ite0 ?_
  rfl
theorem xmi_o {S : xS} (a b c : Nat) (h : a < 50) (h2 : ¬ (a = 9 ∧ c = 36)) : gI (xmi S) a b c = gI S a b c := by
  unfold xmi
  simp only [gI_sI, gI_sR, gI_sN]
  repeat rw [if_neg (by omega)]
theorem xmi_z {S : xS} (a b c : Nat) (h : 50 ≤ a) (h2 : gI S a b c = 0) : gI (xmi S) a b c = 0 := by
  unfold xmi
  simp only [gI_sI, gI_sR, gI_sN]
  rw [if_neg (show ¬ (a = 9 ∧ c = 36 ∧ b = 0) by omega)]
  repeat refine y_ite0 ?_
  exact h2
theorem xZ0_lo (a b c : Nat) (h : a < 50) (h2 : ¬ (a = 9 ∧ c = 36)) : gI xZ0 a b c = gI xY0 a b c := by
  unfold xZ0 xrf
  rw [xfill_I, if_neg (by omega), xml2_I, if_neg (by omega), xfill_I, if_neg (by omega), xml1_I, if_neg (by omega), if_neg (by omega), xmi_o a b c h h2]
theorem xZ0_hi (a b c : Nat) (h : 50 ≤ a) : gI xZ0 a b c = if a = 94 ∧ b = 0 ∧ c < 24 then 1 else if (a = 83 ∨ a = 84) ∧ b = 0 ∧ c < 30 then -1 else if a = 60 ∧ b = 0 ∧ c < 4 then 1 else if a = 70 ∧ b = 0 ∧ c < 12 then -1 else if a = 65 ∧ b = 0 ∧ c < 12 then 100 else 0 := by
  unfold xZ0 xrf
  rw [xfill_I, xml2_I, xfill_I, xml1_I, xmi_z a b c h]
  rw [xY0_I]
  repeat rw [if_neg (by omega)]
set_option maxRecDepth 100000 in
theorem xZ0_2 : xZ0.2 = (xmi xY0).2 := (xfill_2 24).trans ((xml2_2 30).trans ((xfill_2 4).trans (xml1_2 12)))
theorem xbh0_2 : (xbh (sN xS0 8 0 0)).2 = (sR (sR (sN (sR (sN (sN (sR (sR (sN (sR (sN (sN (sR (sN (sR (sN (sR (sN (sN xS0 8 0 0) 10 0 4) 8 0 0 (some (10, 0))) 11 0 200) 8 0 1 (some (11, 0))) 12 0 20) 8 0 2 (some (12, 0))) 2 0 0) 13 0 30) 2 0 0 (some (13, 0))) 14 0 30) 2 0 1 (some (14, 0))) 8 0 3 (some (2, 0))) 5 0 0) 15 0 24) 5 0 0 (some (15, 0))) 16 0 24) 5 0 1 (some (16, 0))) 8 0 4 (some (5, 0))).2 := rfl
theorem xbh0_L (a b : Nat) (h : a = 9 ∨ 50 ≤ a) : gL (xbh (sN xS0 8 0 0)) a b = none := by
  rw [gL_2 xbh0_2]
  simp only [gL_sN, gL_sR]
  repeat rw [if_neg (by omega)]
  rfl
theorem xY0_L (a b : Nat) (h : 50 ≤ a) : gL xY0 a b = none := by
  unfold xY0
  rw [gL_sN, if_neg (by omega)]
  exact xbh0_L a b (Or.inr h)
