/-! turn: the hours that are taken -/
theorem xbst_cong {p q a b : Nat → Int32} : ∀ n, (∀ h, h < n → p h = q h ∧ a h = b h) → xbst p a n = xbst q b n
  | 0, _ => rfl
  | n + 1, h => by
    have ih := xbst_cong n (fun k hk => h k (by omega))
    have hn := h n (by omega)
    unfold xbst
    rw [ih, hn.2]
    cases e : xbst q b n with
    | none => rfl
    | some k =>
      have hk := xbst_lt q b n k e
      simp only [hn.1, (h k (by omega)).1]
def yct (tk : Nat → Int32) : Nat → Nat
  | 0 => 0
  | n + 1 => yct tk n + if tk n = 0 then 0 else 1
theorem yct_le (tk : Nat → Int32) : ∀ n, yct tk n ≤ n
  | 0 => Nat.le_refl 0
  | n + 1 => by
    have := yct_le tk n
    unfold yct
    split <;> omega
theorem yct_0 {tk : Nat → Int32} : ∀ n, (∀ h, h < n → tk h = 0) → yct tk n = 0
  | 0, _ => rfl
  | n + 1, h => by
    unfold yct
    rw [yct_0 n (fun k hk => h k (by omega)), if_pos (h n (by omega))]
theorem yct_upd {tk tk' : Nat → Int32} {b : Nat} : ∀ n, (∀ h, h < n → h ≠ b → tk' h = tk h) → yct tk' n ≤ yct tk n + if b < n then 1 else 0
  | 0, _ => by unfold yct; omega
  | n + 1, h => by
    have ih := yct_upd (b := b) n (fun k hk => h k (by omega))
    unfold yct
    by_cases e : n = b
    · subst e
      rw [if_neg (by omega)] at ih
      rw [if_pos (show n < n + 1 by omega)]
      split <;> split <;> omega
    · rw [h n (by omega) e]
      by_cases c : b < n
      · rw [if_pos c] at ih
        rw [if_pos (show b < n + 1 by omega)]
        split <;> omega
      · rw [if_neg c] at ih
        rw [if_neg (show ¬ b < n + 1 by omega)]
        split <;> omega
theorem yct_full {pr tk : Nat → Int32} : ∀ n, xbst pr tk n = none → yct tk n = n
  | 0, _ => rfl
  | n + 1, h => by
    unfold xbst at h
    by_cases e : tk n = 0
    · rw [if_pos e] at h
      cases e2 : xbst pr tk n with
      | none => rw [e2] at h; cases h
      | some b =>
        rw [e2] at h
        simp only at h
        split at h <;> cases h
    · rw [if_neg e] at h
      unfold yct
      rw [yct_full n h, if_neg e]
/-- class and reference take the same hours -/
def yrel (X Z : xS) : Prop := (∀ h, h < 24 → gI X 15 0 h = gI Z 94 0 h ∧ gI X 16 0 h = gI Z 95 0 h) ∧ (gI X 5 0 3) = (gI Z 9 0 47)
theorem yrel_n {X Z : xS} (h : yrel X Z) : yrel (xtn X) (xrtn Z) := by
  obtain ⟨h1, h2⟩ := h
  have e : xbst (fun h => gI X 15 0 h) (fun h => gI X 16 0 h) 24 = xbst (fun h => gI Z 94 0 h) (fun h => gI Z 95 0 h) 24 := xbst_cong 24 h1
  unfold xtn xrtn
  rw [e]
  cases e2 : xbst (fun h => gI Z 94 0 h) (fun h => gI Z 95 0 h) 24 with
  | none => exact ⟨h1, h2⟩
  | some b =>
    have hb := xbst_lt _ _ _ _ e2
    refine ⟨fun k hk => ⟨(h1 k hk).1, ?_⟩, ?_⟩
    · simp only [gI_sI]
      by_cases c : k = b
      · subst c; simp
      · simp [c]; exact (h1 k hk).2
    · simp [gI_sI]
      rw [h2, (h1 b hb).1]
theorem yrel_k {X Z : xS} (h : yrel X Z) : ∀ m, yrel (xtk X m) (xrtk Z m)
  | 0 => h
  | m + 1 => yrel_n (yrel_k h m)
theorem xclr_I {S : xS} (k i j : Nat) : ∀ n, gI (xclr S n) k i j = if k = 16 ∧ i = 0 ∧ j < n then 0 else gI S k i j
  | 0 => by rw [if_neg (by omega)]; rfl
  | n + 1 => by
    show gI (sI (xclr S n) 16 0 n 0) k i j = _
    rw [gI_sI, xclr_I k i j n]
    by_cases c : k = 16 ∧ j = n ∧ i = 0
    · rw [if_pos c, if_pos (by omega)]
    · rw [if_neg c]
      by_cases d : k = 16 ∧ i = 0 ∧ j < n
      · rw [if_pos d, if_pos (by omega)]
      · rw [if_neg d, if_neg (by omega)]
theorem xrclr_I {S : xS} (k i j : Nat) : ∀ n, gI (xrclr S n) k i j = if k = 95 ∧ i = 0 ∧ j < n then 0 else gI S k i j
  | 0 => by rw [if_neg (by omega)]; rfl
  | n + 1 => by
    show gI (sI (xrclr S n) 95 0 n 0) k i j = _
    rw [gI_sI, xrclr_I k i j n]
    by_cases c : k = 95 ∧ j = n ∧ i = 0
    · rw [if_pos c, if_pos (by omega)]
    · rw [if_neg c]
      by_cases d : k = 95 ∧ i = 0 ∧ j < n
      · rw [if_pos d, if_pos (by omega)]
      · rw [if_neg d, if_neg (by omega)]
theorem xtk_o {S : xS} {k i j : Nat} (h : k ≠ 16) (h2 : ¬ (k = 5 ∧ j = 3)) : ∀ m, gI (xtk S m) k i j = gI S k i j
  | 0 => rfl
  | m + 1 => by
    show gI (xtn (xtk S m)) k i j = _
    unfold xtn
    split
    · exact xtk_o h h2 m
    · rw [gI_sI, gI_sI, if_neg (by omega), if_neg (by omega)]
      exact xtk_o h h2 m
theorem xrtk_o {S : xS} {k i j : Nat} (h : k ≠ 95) (h2 : ¬ (k = 9 ∧ j = 47)) : ∀ m, gI (xrtk S m) k i j = gI S k i j
  | 0 => rfl
  | m + 1 => by
    show gI (xrtn (xrtk S m)) k i j = _
    unfold xrtn
    split
    · exact xrtk_o h h2 m
    · rw [gI_sI, gI_sI, if_neg (by omega), if_neg (by omega)]
      exact xrtk_o h h2 m
theorem xrtk_ct {S : xS} (h0 : ∀ h, h < 24 → gI S 95 0 h = 0) : ∀ m, yct (fun h => gI (xrtk S m) 95 0 h) 24 ≤ m
  | 0 => Nat.le_of_eq (yct_0 24 h0)
  | m + 1 => by
    have ih := xrtk_ct h0 m
    show yct (fun h => gI (xrtn (xrtk S m)) 95 0 h) 24 ≤ m + 1
    unfold xrtn
    cases e : xbst (fun h => gI (xrtk S m) 94 0 h) (fun h => gI (xrtk S m) 95 0 h) 24 with
    | none => simp only []; omega
    | some b =>
      simp only []
      have := yct_upd (tk := fun h => gI (xrtk S m) 95 0 h) (tk' := fun h => gI (sI (sI (xrtk S m) 95 0 b 1) 9 0 47 (gI (xrtk S m) 9 0 47 + gI (xrtk S m) 94 0 b)) 95 0 h) (b := b) 24 (fun k hk hne => by
        simp only [gI_sI]
        rw [if_neg (by omega), if_neg (by omega)])
      split at this <;> omega
theorem xrtk_free {S : xS} (h0 : ∀ h, h < 24 → gI S 95 0 h = 0) {m : Nat} (hm : m < 24) : ∃ b, xbst (fun h => gI (xrtk S m) 94 0 h) (fun h => gI (xrtk S m) 95 0 h) 24 = some b := by
  cases e : xbst (fun h => gI (xrtk S m) 94 0 h) (fun h => gI (xrtk S m) 95 0 h) 24 with
  | some b => exact ⟨b, rfl⟩
  | none =>
    have h1 := yct_full 24 e
    have h2 := xrtk_ct h0 m
    omega
section VTu
variable {S : xS} {n T C : Nat} {nP : Nat → Nat}
theorem vI_turn (h : vI S n T C nP) (m : Nat) : vI (xrtc (xtc S m) m) n T C nP := by
  obtain ⟨F, hF⟩ : ∃ F, F = xrtc (xtc S m) m := ⟨_, rfl⟩
  have hR : F.2 = S.2 := by
    subst hF
    exact (xrtk_2 m).trans ((xrclr_2 24).trans ((xtk_2 m).trans (xclr_2 24)))
  have ex : ∀ k i j, k ≠ 16 → ¬ (k = 5 ∧ (j = 2 ∨ j = 3)) → gI (xtc S m) k i j = gI S k i j := by
    intro k i j h1 h2
    unfold xtc
    rw [xtk_o h1 (by omega), xclr_I, if_neg (by omega), gI_sI, gI_sI, if_neg (by omega), if_neg (by omega)]
  have er : ∀ k i j, k ≠ 95 → ¬ (k = 9 ∧ (j = 46 ∨ j = 47)) → gI F k i j = gI (xtc S m) k i j := by
    intro k i j h1 h2
    subst hF
    unfold xrtc
    rw [xrtk_o h1 (by omega), xrclr_I, if_neg (by omega), gI_sI, gI_sI, if_neg (by omega), if_neg (by omega)]
  have e : ∀ k i j, k ≠ 16 → k ≠ 95 → ¬ (k = 5 ∧ (j = 2 ∨ j = 3)) → ¬ (k = 9 ∧ (j = 46 ∨ j = 47)) → gI F k i j = gI S k i j := fun k i j h1 h2 h3 h4 => (er k i j h2 h4).trans (ex k i j h1 h3)
  have hrel : yrel (xtc S m) F := by
    subst hF
    unfold xtc xrtc
    refine yrel_k ⟨fun k hk => ⟨?_, ?_⟩, ?_⟩ m
    · rw [xclr_I, if_neg (by omega), xrclr_I, if_neg (by omega)]
      show gI S 15 0 k = gI (xtc S m) 94 0 k
      rw [ex 94 0 k (by omega) (by omega)]
      exact (h.u.1 k hk).1
    · rw [xclr_I, if_pos (by omega), xrclr_I, if_pos (by omega)]
    · rw [xclr_I, if_neg (by omega), xrclr_I, if_neg (by omega)]
      simp [gI_sI]
  have hch : (gI F 5 0 2) = 1 := by
    rw [er 5 0 2 (by omega) (by omega)]
    unfold xtc
    rw [xtk_o (by omega) (by omega), xclr_I, if_neg (by omega)]
    simp [gI_sI]
  have hht : (gI F 9 0 46) = 1 := by
    subst hF
    unfold xrtc
    rw [xrtk_o (by omega) (by omega), xrclr_I, if_neg (by omega)]
    simp [gI_sI]
  rw [← hF]
  clear hF
  have ek : ∀ k i j, k ≠ 16 → k ≠ 95 → k ≠ 5 → k ≠ 9 → gI F k i j = gI S k i j := fun k i j h1 h2 h3 h4 => e k i j h1 h2 (by omega) (by omega)
  refine ⟨xShX_2 h.X hR, xShM_2 h.M hR, ?_, fun p hp => ?_, fun t ht => ⟨fun z => ?_, fun z => ?_⟩, fun c hc => ⟨fun z => ?_, fun z => ?_⟩, vLs_cong (fun l => ek _ _ _ (by omega) (by omega) (by omega) (by omega)) (fun l => ek _ _ _ (by omega) (by omega) (by omega) (by omega)) (fun l => ek _ _ _ (by omega) (by omega) (by omega) (by omega)) (fun l => ek _ _ _ (by omega) (by omega) (by omega) (by omega)) h.l, ?_⟩
  · have w := h.s
    have e8 : ∀ j, gI F 8 0 j = gI S 8 0 j := fun j => ek _ _ _ (by omega) (by omega) (by omega) (by omega)
    have e80 : ∀ j, gI F 80 0 j = gI S 80 0 j := fun j => ek _ _ _ (by omega) (by omega) (by omega) (by omega)
    unfold vSc at *
    rw [e8, e8, e8, e8, e8, e 9 0 0 (by omega) (by omega) (by omega) (by omega), e 9 0 22 (by omega) (by omega) (by omega) (by omega), e 9 0 35 (by omega) (by omega) (by omega) (by omega), e 9 0 36 (by omega) (by omega) (by omega) (by omega)]
    simp only [e80]
    exact w
  · exact vPool_cong (S := S) hR ⟨fun j => ek _ _ _ (by omega) (by omega) (by omega) (by omega), fun j => ek _ _ _ (by omega) (by omega) (by omega) (by omega), fun i hi j => ek _ _ _ (by omega) (by omega) (by omega) (by omega), fun i hi j => ek _ _ _ (by omega) (by omega) (by omega) (by omega), fun k hk => ek _ _ _ (by omega) (by omega) (by omega) (by omega), fun k hk i hi => ek _ _ _ (by omega) (by omega) (by omega) (by omega)⟩ (fun t ht => ⟨ek _ _ _ (by omega) (by omega) (by omega) (by omega), ek _ _ _ (by omega) (by omega) (by omega) (by omega), ek _ _ _ (by omega) (by omega) (by omega) (by omega)⟩) (h.p p hp)
  · obtain ⟨w1, ⟨P2, w2⟩, w3, w4⟩ := (h.t t ht).1 z
    have kk : ∀ k, 50 < k → k ≠ 95 → ∀ b, gI F k 0 b = gI S k 0 b := fun k h1 h2 b => ek _ _ _ (by omega) (by omega) (by omega) (by omega)
    have e7 : ∀ j, gI F 7 t j = gI S 7 t j := fun j => ek _ _ _ (by omega) (by omega) (by omega) (by omega)
    exact ⟨vT1_cong hR e7 (fun k k1 k2 => kk k (by omega) (by omega) t) w1, ⟨P2, vT2_cong hR (e7 13) (kk 51 (by omega) (by omega)) (kk 70 (by omega) (by omega)) (kk 73 (by omega) (by omega) t) (kk 82 (by omega) (by omega) t) w2⟩, vT3_cong hR (kk 73 (by omega) (by omega) t) (kk 74 (by omega) (by omega) t) (kk 75 (by omega) (by omega) t) (kk 87 (by omega) (by omega)) (kk 91 (by omega) (by omega)) w3, vT4_cong (e7 11) (kk 83 (by omega) (by omega)) w4⟩
  · have w := (h.t t ht).2 z
    rw [gR_2 hR, gL_2 hR, ek 79 0 t (by omega) (by omega) (by omega) (by omega), ek 80 0 t (by omega) (by omega) (by omega) (by omega), ek 81 0 t (by omega) (by omega) (by omega) (by omega)]
    exact w
  · obtain ⟨⟨P2, w1⟩, w2⟩ := (h.c c hc).1 z
    have kk : ∀ k, 50 < k → k ≠ 95 → ∀ b, gI F k 0 b = gI S k 0 b := fun k h1 h2 b => ek _ _ _ (by omega) (by omega) (by omega) (by omega)
    have e0 : ∀ j, gI F 0 c j = gI S 0 c j := fun j => ek _ _ _ (by omega) (by omega) (by omega) (by omega)
    refine ⟨⟨P2, vC1_cong hR (fun j _ _ => e0 j) (fun k b hk => kk k (by omega) (by omega) b) w1⟩, ?_⟩
    unfold vC2 xsch at *
    simp only [e0, kk 91 (by omega) (by omega), kk 79 (by omega) (by omega), kk 74 (by omega) (by omega), kk 75 (by omega) (by omega), kk 76 (by omega) (by omega)]
    exact w2
  · have w := (h.c c hc).2 z
    rw [gR_2 hR, gL_2 hR]
    exact w
  · refine ⟨fun k hk => ⟨?_, ?_⟩, hch.trans hht.symm, ?_⟩
    · rw [er 15 0 k (by omega) (by omega)]; exact (hrel.1 k hk).1
    · rw [er 16 0 k (by omega) (by omega)]; exact (hrel.1 k hk).2
    · rw [er 5 0 3 (by omega) (by omega)]; exact hrel.2
end VTu
