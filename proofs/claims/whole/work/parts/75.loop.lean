/-! the law: the switch, the loop, the start -/
section Lw
variable {M k cb sb : Nat} {xs : Nat → Int32} {Q : Option xV → xS → Prop} {S : xS}
theorem l_law_sw (hM : M ≤ 3072) (hk : 6 * k + 6 ≤ M) (hI : vInv S) (hc : 10 ≤ cb) (hs : 46 ≤ sb) (hn : xaft M xs Q k cb sb) (x : Int32) : Ex mL_law 8 cb sb (M + 1, xs) Q 33 (xlq k) [xI x] S := by
  rcases i_cases x 28 with hx | ⟨j, hj, rfl⟩
  · exact E_tabOut (tgt := 1121) dL_law_33 hx (by decide) (hn S cb sb hI (by omega) (by omega))
  · match j, hj with
    | 0, _ => exact E_tabIn (tgt := 164) (off := 131) dL_law_33 (by decide) (by decide) rfl (by decide) (l_law_pool hM hk hI hc hs hn)
    | 1, _ => exact E_tabIn (tgt := 217) (off := 184) dL_law_33 (by decide) (by decide) rfl (by decide) (l_law_go hM hk hI hc hs hn)
    | 2, _ => exact E_tabIn (tgt := 240) (off := 207) dL_law_33 (by decide) (by decide) rfl (by decide) (if hb : xs (nI (6 * k) + 4).toNatClampNeg = 0 then l_law_ticket_t hM hk hI hc hs hn hb else l_law_ticket_f hM hk hI hc hs hn hb)
    | 3, _ => exact E_tabIn (tgt := 309) (off := 276) dL_law_33 (by decide) (by decide) rfl (by decide) (l_law_club hM hk hI hc hs hn)
    | 4, _ => exact E_tabIn (tgt := 372) (off := 339) dL_law_33 (by decide) (by decide) rfl (by decide) (l_law_clash hM hk hI hc hs hn)
    | 5, _ => exact E_tabIn (tgt := 385) (off := 352) dL_law_33 (by decide) (by decide) rfl (by decide) (l_law_leave hM hk hI hc hs hn)
    | 6, _ => exact E_tabIn (tgt := 408) (off := 375) dL_law_33 (by decide) (by decide) rfl (by decide) (l_law_may hM hk hI hc hs hn)
    | 7, _ => exact E_tabIn (tgt := 431) (off := 398) dL_law_33 (by decide) (by decide) rfl (by decide) (l_law_in hM hk hI hc hs hn)
    | 8, _ => exact E_tabIn (tgt := 454) (off := 421) dL_law_33 (by decide) (by decide) rfl (by decide) (l_law_out hM hk hI hc hs hn)
    | 9, _ => exact E_tabIn (tgt := 477) (off := 444) dL_law_33 (by decide) (by decide) rfl (by decide) (if hb : xs (nI (6 * k) + 2).toNatClampNeg = 0 then l_law_eye_t hM hk hI hc hs hn hb else l_law_eye_f hM hk hI hc hs hn hb)
    | 10, _ => exact E_tabIn (tgt := 526) (off := 493) dL_law_33 (by decide) (by decide) rfl (by decide) (l_law_hand hM hk hI hc hs hn)
    | 11, _ => exact E_tabIn (tgt := 549) (off := 516) dL_law_33 (by decide) (by decide) rfl (by decide) (l_law_count hM hk hI hc hs hn)
    | 12, _ => exact E_tabIn (tgt := 582) (off := 549) dL_law_33 (by decide) (by decide) rfl (by decide) (l_law_bounds hM hk hI hc hs hn)
    | 13, _ => exact E_tabIn (tgt := 635) (off := 602) dL_law_33 (by decide) (by decide) rfl (by decide) (l_law_measure hM hk hI hc hs hn)
    | 14, _ => exact E_tabIn (tgt := 686) (off := 653) dL_law_33 (by decide) (by decide) rfl (by decide) (l_law_put hM hk hI hc hs hn)
    | 15, _ => exact E_tabIn (tgt := 719) (off := 686) dL_law_33 (by decide) (by decide) rfl (by decide) (l_law_shut hM hk hI hc hs hn)
    | 16, _ => exact E_tabIn (tgt := 742) (off := 709) dL_law_33 (by decide) (by decide) rfl (by decide) (l_law_minutes hM hk hI hc hs hn)
    | 17, _ => exact E_tabIn (tgt := 765) (off := 732) dL_law_33 (by decide) (by decide) rfl (by decide) (l_law_post hM hk hI hc hs hn)
    | 18, _ => exact E_tabIn (tgt := 808) (off := 775) dL_law_33 (by decide) (by decide) rfl (by decide) (l_law_watcher hM hk hI hc hs hn)
    | 19, _ => exact E_tabIn (tgt := 841) (off := 808) dL_law_33 (by decide) (by decide) rfl (by decide) (l_law_key hM hk hI hc hs hn)
    | 20, _ => exact E_tabIn (tgt := 864) (off := 831) dL_law_33 (by decide) (by decide) rfl (by decide) (l_law_give hM hk hI hc hs hn)
    | 21, _ => exact E_tabIn (tgt := 887) (off := 854) dL_law_33 (by decide) (by decide) rfl (by decide) (l_law_mend hM hk hI hc hs hn)
    | 22, _ => exact E_tabIn (tgt := 910) (off := 877) dL_law_33 (by decide) (by decide) rfl (by decide) (l_law_locker hM hk hI hc hs hn)
    | 23, _ => exact E_tabIn (tgt := 933) (off := 900) dL_law_33 (by decide) (by decide) rfl (by decide) (l_law_told hM hk hI hc hs hn)
    | 24, _ => exact E_tabIn (tgt := 966) (off := 933) dL_law_33 (by decide) (by decide) rfl (by decide) (l_law_pump hM hk hI hc hs hn)
    | 25, _ => exact E_tabIn (tgt := 1009) (off := 976) dL_law_33 (by decide) (by decide) rfl (by decide) (l_law_price hM hk hI hc hs hn)
    | 26, _ => exact E_tabIn (tgt := 1042) (off := 1009) dL_law_33 (by decide) (by decide) rfl (by decide) (l_law_turn hM hk hI hc hs hn)
    | 27, _ => exact E_tabIn (tgt := 1075) (off := 1042) dL_law_33 (by decide) (by decide) rfl (by decide) (l_law_hour hM hk hI hc hs hn)
    | 28, _ => exact E_tabIn (tgt := 1098) (off := 1065) dL_law_33 (by decide) (by decide) rfl (by decide) (l_law_all hM hk hI hc hs hn)
    | j + 29, hj => exact absurd hj (by omega)
theorem y_end {M k : Nat} (hM : M ≤ 3072) : ((nI M - 6 < nI (6 * k) ↔ M < 6 * k + 6) ∧ 6 * k ≤ M) ∨ M < 6 * k := by
  by_cases hk : 6 * k ≤ M
  · left
    refine ⟨?_, hk⟩
    by_cases h6 : 6 ≤ M
    · rw [show nI M - 6 = nI (M - 6) from nI_subI (b := 6) h6, nI_ltI (by omega) (by omega)]
      omega
    · have e : k = 0 := by omega
      subst e
      have h5 : M < 6 := by omega
      refine ⟨fun _ => by omega, fun _ => ?_⟩
      match M, h5 with
      | 0, _ => decide
      | 1, _ => decide
      | 2, _ => decide
      | 3, _ => decide
      | 4, _ => decide
      | 5, _ => decide
  · right; omega
abbrev xQ1 : Option xV → xS → Prop := fun v _ => v = some (xI 1)
theorem l_law_loop (hM : M ≤ 3072) : ∀ (n k : Nat), k + n = M / 6 → ∀ (cb sb : Nat) (S : xS), vInv S → 10 * n ≤ cb → 46 * n ≤ sb → Ex mL_law 8 cb sb (M + 1, xs) xQ1 18 (xlq k) [] S
  | 0, k, hk, cb, sb, S, hI, hc, hs => by
    have he := (y_end (M := M) (k := k) hM).resolve_right (by omega)
    refine E_iload_n dL_law_18 rfl rfl ?_
    refine E_aload_n dL_law_19 rfl rfl ?_
    refine E_slen dL_law_20 rfl ?_
    refine E_bipush (v := 6) dL_law_21 (by decide) ?_
    refine E_isub dL_law_23 ?_
    refine E_icmp_gt (tgt := 1127) dL_law_24 (by decide) (fun h24 => ?_) (fun h24 => absurd h24 (fun z => z (he.1.mpr (by omega))))
    refine E_iconst (v := 1) dL_law_1127 (by decide) ?_
    refine E_iret dL_law_1128 rfl rfl ?_
    exact rfl
  | n + 1, k, hk, cb, sb, S, hI, hc, hs => by
    have he := (y_end (M := M) (k := k) hM).resolve_right (by omega)
    have i0 : vp_in (nI (6 * k)) M := vp_in_nI (by omega) (by omega)
    have hn : xaft M xs xQ1 k cb sb := by
      intro S2 cb2 sb2 hI2 hc2 hs2
      have ih := l_law_loop hM n (k + 1) (by omega) cb2 sb2 S2 hI2 (by omega) (by omega)
      refine E_iinc (v := nI (6 * (k + 1))) dL_law_1121 rfl (nI_addI (6 * k) 6) (by decide) rfl ?_
      refine E_goto (tgt := 18) dL_law_1124 (by decide) ?_
      exact ih
    refine E_iload_n dL_law_18 rfl rfl ?_
    refine E_aload_n dL_law_19 rfl rfl ?_
    refine E_slen dL_law_20 rfl ?_
    refine E_bipush (v := 6) dL_law_21 (by decide) ?_
    refine E_isub dL_law_23 ?_
    refine E_icmp_gt (tgt := 1127) dL_law_24 (by decide) (fun h24 => absurd h24 (fun z => absurd (he.1.mp z) (by omega))) (fun h24 => ?_)
    refine E_aload_n dL_law_27 rfl rfl ?_
    refine E_iload_n dL_law_28 rfl rfl ?_
    refine E_sld dL_law_29 i0 rfl ?_
    refine E_bipush (v := 31) dL_law_30 (by decide) ?_
    refine E_iand dL_law_32 ?_
    exact l_law_sw hM (by omega) hI (by omega) (by omega) hn _
theorem l_law (hM : M ≤ 3072) (hc : 600000 ≤ cb) (hs : 7302250 ≤ sb) : Ex mL_law 8 cb sb (M + 1, xs) xQ1 0 (xent 4 [xR (some (99, 0))]) [] xS0 := by
  refine E_new (k := 8) (i := 0) dL_law_0 nL_7 rfl rfl rfl isX8 ziX8 rfl (by omega) (by omega) ?_
  refine E_dup dL_law_3 rfl ?_
  refine E_callI (m2 := mX8_init) dL_law_4 kL_9 mzX8_init (c_X8_init (fun a b h1 h2 => by rw [gL_sN, if_neg (fun z => h1 z.1)]; rfl)) rfl rfl (by decide) (xs8 (Nat.le_of_ble_eq_true rfl)) (by omega) (by omega) ?_
  rintro _ _ ⟨rfl, rfl⟩
  refine E_astore_n dL_law_7 rfl (by decide) rfl ?_
  refine E_new (k := 9) (i := 0) dL_law_8 nL_10 rfl rfl rfl isX9 ziX9 (xbh0_L 9 0 (Or.inl rfl)) (by omega) (by omega) ?_
  refine E_dup dL_law_11 rfl ?_
  refine E_callI (m2 := mX9_init) dL_law_12 kL_12 mzX9_init (c_r_init (fun a b h1 h2 => xY0_L a b h1)) rfl rfl (by decide) (xs8 (Nat.le_of_ble_eq_true rfl)) (by omega) (by omega) ?_
  rintro _ _ ⟨rfl, rfl⟩
  refine E_astore_n dL_law_15 rfl (by decide) rfl ?_
  refine E_iconst (v := 0) dL_law_16 (by decide) ?_
  refine E_istore_n dL_law_17 rfl (by decide) rfl ?_
  exact l_law_loop hM (M / 6) 0 (by omega) _ _ _ ⟨0, 0, 0, _, vI_0⟩ (by omega) (by omega)
end Lw
