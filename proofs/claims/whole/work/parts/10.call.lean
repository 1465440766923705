/-! calls -/
section XCALL
variable {mm m2 : xM} {d d2 cb sb mc ms n i : Nat} {X : Nat × (Nat → Int32)} {Q Q2 : Option xV → xS → Prop} {pc : Nat} {ls : List (Option xV)} {av st st0 : List xV} {S : xS}
/-- behind a call -/
theorem x_back {p : Program} {l : Launch} {e : Env} {R : Room} {s : State} {m : MethodId} {args : Array Value} {below : List Frame} {meth : Method} {c : Code} {H : Heap} {locs : List Loc} {cells slots : Nat} {D : va_G} {A : Nat → Prop} {al : Nat × Nat → Nat} {Qf : State → Prop} {lsA : Array Slot} {a : Array Value} {stA : List Value}
    (hr : va_Run p l e R s m args below meth c H locs cells slots mc ms (F0 m pc lsA stA) (st.map (xc al)) ((fun (_ : Array Value) (st : State) (oc : Outcome) (t : State) => ∃ (v : Option xV) (S' : xS) (al' : Nat × Nat → Nat) (cA' : Nat × Nat → ClassId) (L' : List (Nat × Nat)), oc = .returned (v.map (xc al')) ∧ Q2 v S' ∧ xExt S al S' al' ∧ xH D A t al' cA' S' L' t.heap ∧ (∀ w, v = some w → xo S' w) ∧ va_F A st t) a) A)
    (hC : xC mm d p s m args meth c D R A) (hX : xX X al A s) (hS : va_S A s.heap H locs) (hL : xL al S mm.2.2.1 lsA ls) (ho : ∀ v ∈ st, xo S v) (hc : cells + (cb + mc) ≤ R.cells) (hs : slots + (sb + ms) ≤ R.slots) (hK : xK mm Q p l e R s m args below meth c D A al S Qf)
    (k : ∀ v S', Q2 v S' → Ex mm d cb sb X Q (pc + 3) ls (v.toList ++ st) S') : W p l e R s m args below meth c H locs cells slots Qf (F0 m pc lsA stA) := by
  intro T hT X0
  obtain ⟨v, st₀, t, T', L, h0, X', hLo, e1, e2, ⟨w, S', al', cA', L', hv, hq, hext, hH', how, hz, hkp⟩, hst⟩ := hr T hT X0
  have hv' : v = w.map (xc al') := by cases hv; rfl
  subst hv'
  rw [h0] at hz hkp
  have hvm : s.vm.Alike t.vm := by rw [← e2]; exact X'.warmed.alike
  have hS' : va_S A s.heap T'.heap (locs ++ L) := ⟨Nat.le_trans hS.1 (by rw [e1]; exact hz), fun q h1 h2 => by rw [e1, hkp q (Nat.lt_of_lt_of_le h1 hS.1) h2]; exact hS.2.1 q h1 h2, fun q hq => by
    rcases List.mem_append.mp hq with h | h
    · exact hS.2.2 q h
    · exact hLo q h⟩
  have hk := k w S' hq () hC (xX_ext hext hX) (al := al') (cA := cA') (L := L') (H := T'.heap) (locs := locs ++ L) (cells := cells + mc) (slots := slots + ms) (by rw [e1]; exact hH'.moved hvm.symm) hS' (xL_ext hext hL) (fun u hu => by
    rcases List.mem_append.mp hu with h | h
    · cases w with
      | none => cases h
      | some w => rw [List.mem_singleton.mp h]; exact how w rfl
    · exact (xo_ext hext (ho u h)).1) (by omega) (by omega) (xK_ext hext hK)
  have e3 : (w.toList ++ st).map (xc al') = (w.map (xc al')).toList ++ st.map (xc al) := by
    rw [List.map_append, xst_ext hext ho]
    cases w <;> rfl
  rw [e3] at hk
  obtain ⟨t2, a1, b1⟩ := hk T' rfl X'
  exact ⟨t2, hst t2 a1, b1⟩
theorem xGood (mm m2 : xM) (h : Cond.code m2.1 m2.2.1 m2.2.2.1 m2.2.2.2 ∈ xT) : GoodIn xT (xW m2) := by
  intro w hw
  rcases List.mem_cons.mp hw with rfl | hw
  · exact ⟨h, good_of_word (xT_good _ h).2⟩
  · exact ⟨hw, good_of_word (xT_good _ hw).2⟩
theorem xpre {U : State} {s : State} {D : va_G} {A : Nat → Prop} {al : Nat × Nat → Nat} {cA : Nat × Nat → ClassId} {L : List (Nat × Nat)} {H : Heap} (hU : U.heap = H) (hW : s.WarmedH U.vm) (hK : va_K D xCl [] s) (hN : xN s) (hA : ∀ q, H.size ≤ q → A q) (hH : xH D A s al cA S L H) : va_K D xCl [] U ∧ xN U ∧ (∀ q, U.heap.size ≤ q → A q) ∧ xH D A U al cA S L U.heap := by
  subst hU
  exact ⟨va_K.moved hW.alike hK, hN.moved hW, hA, hH.moved hW.alike⟩
theorem xblind {D : va_G} {A : Nat → Prop} {al : Nat × Nat → Nat} {cA : Nat × Nat → ClassId} {L : List (Nat × Nat)} {vs : List Value} : FrameBlind (va_Pc vs (fun U => va_K D xCl [] U ∧ xN U ∧ (∀ q, U.heap.size ≤ q → A q) ∧ xH D A U al cA S L U.heap)) := by
  intro a U g mk h
  obtain ⟨h1, h2, h3, h4, h5⟩ := h
  exact ⟨h1, va_K.moved (u := U) (U := U.calling g mk a) (Vm.Alike.refl U.vm) h2, h3, h4, h5.moved (u := U) (U := U.calling g mk a) (Vm.Alike.refl U.vm)⟩
theorem xsum {al : Nat × Nat → Nat} {lsA : Array Slot} {m : MethodId} {stA : List Value} (h : ∀ al, ((st.map (xc al)).map fun v => v.category).sum ≤ 8) : 2 * (F0 m pc lsA stA).monitorRoom + ((st.map (xc al)).map fun v => v.category).sum ≤ 8 := by
  show 2 * 0 + _ ≤ 8
  have := h al
  omega
theorem E_callS (hd : decode mm.2.1 pc = .ok (.invokestatic i, 3)) (hk : Cond.methodLink mm.1.cls i m2.1 ∈ xT) (hm : xMS m2 n) (hcc : CC m2 d2 mc ms av S Q2) (hst : st0 = av.reverse ++ st) (hn : av.length = n) (hd2 : d2 + 1 ≤ d) (hsum : ∀ al, ((st.map (xc al)).map fun v => v.category).sum ≤ 8)
    (hcb : mc ≤ cb) (hsb : ms ≤ sb)
    (k : ∀ v S', Q2 v S' → Ex mm d (cb - mc) (sb - ms) X Q (pc + 3) ls (v.toList ++ st) S') : Ex mm d cb sb X Q pc ls st0 S := by
  intro _ p l e R s m args below meth c H locs cells slots D A al cA L Qf lsA hC hX hH hS hL ho hc hs hK
  subst hst
  obtain ⟨⟨hm1, hm2, hm3, hm4⟩, hm5⟩ := hm
  have hts := hC.2.2.2.2.2.1
  have hov : ∀ v ∈ av, xo S v := fun v hv => ho v (List.mem_append_left _ (List.mem_reverse.mpr hv))
  refine x_back (a := #[]) (Q2 := Q2) (S := S) (cb := cb - mc) (sb := sb - ms) (va_runS (Ts := xT) (own := mm.1.cls) (As := av.map (xc al)) (rest := st.map (xc al)) (n := n) ⟨hC.1, hC.2.1, hC.2.2.2.1, hC.2.2.2.2.1, hts⟩ (hcc l D A al cA L hov)
    ⟨callB_of n hts (xGood mm m2 hm1) rfl rfl rfl (hts _ hm2) (hts _ hk) hm3 ⟨Nat.le_trans hd2 hC.2.2.2.2.2.2.2.2.2.2.1, ?_⟩, hts _ hm5⟩
    ⟨xblind, fun U hU hW => ⟨rfl, xpre hU hW hC.2.2.2.2.2.2.2.2.1 hC.2.2.2.2.2.2.2.2.2.1 (fun q hq => hC.2.2.2.2.2.2.2.2.2.2.2.2 q (Nat.le_trans hS.1 hq)) hH⟩⟩ rfl (by simpa using hn) (hL.1) (by simp) (xsum hsum) hd ⟨by omega, by omega⟩) hC hX hS hL (fun v hv => ho v (List.mem_append_right _ hv)) (by omega) (by omega) hK k
  have h2 := hC.2.2.2.2.2.2.2.2.2.2.2.1
  show 8 + (m2.2.2.1 + 11) + (12 + 32 * d2) ≤ R.locals
  omega
theorem E_callV {k0 i0 : Nat} (hd : decode mm.2.1 pc = .ok (.invokevirtual i, 3)) (hk : Cond.methodLink mm.1.cls i m2.1 ∈ xT) (hm : xMV m2 n) (hcc : CC m2 d2 mc ms (xR (some (k0, i0)) :: av) S Q2) (hcl : xCls k0 = true) (hcl2 : ∃ T N, xCl[xk k0]? = some (m2.1.cls, T, N)) (hst : st0 = av.reverse ++ xR (some (k0, i0)) :: st) (hn : av.length = n) (hd2 : d2 + 1 ≤ d) (hsum : ∀ al, ((st.map (xc al)).map fun v => v.category).sum ≤ 8)
    (hcb : mc ≤ cb) (hsb : ms ≤ sb)
    (k : ∀ v S', Q2 v S' → Ex mm d (cb - mc) (sb - ms) X Q (pc + 3) ls (v.toList ++ st) S') : Ex mm d cb sb X Q pc ls st0 S := by
  intro _ p l e R s m args below meth c H locs cells slots D A al cA L Qf lsA hC hX hH hS hL ho hc hs hK
  subst hst
  obtain ⟨⟨hm1, hm2, hm3, hm4⟩, hm5, hm6⟩ := hm
  obtain ⟨T0, N0, hcl2⟩ := hcl2
  have hts := hC.2.2.2.2.2.1
  have hor : xo S (xR (some (k0, i0))) := ho _ (List.mem_append_right _ List.mem_cons_self)
  have hov : ∀ v ∈ xR (some (k0, i0)) :: av, xo S v := xo_c hor (fun v hv => ho v (List.mem_append_left _ (List.mem_reverse.mpr hv)))
  obtain ⟨b, m1, mm2⟩ := xw_get (al := al) (S := S) (cA := cA) (x_in hH hor (x_cls99 hcl))
  rw [xe_cls (q := (k0, i0)) hcl] at mm2
  refine x_back (a := #[]) (Q2 := Q2) (S := S) (cb := cb - mc) (sb := sb - ms) (va_runV (Ts := xT) (own := mm.1.cls) (C := m2.1.cls) (b := al (k0, i0)) (As := av.map (xc al)) (rest := st.map (xc al)) (n := n) ⟨hC.1, hC.2.1, hC.2.2.2.1, hC.2.2.2.2.1, hts⟩ (hcc l D A al cA L hov)
    ⟨callB_of n hts (xGood mm m2 hm1) rfl rfl rfl (hts _ hm2) (hts _ hk) hm3 ⟨Nat.le_trans hd2 hC.2.2.2.2.2.2.2.2.2.2.1, ?_⟩, hts _ hm5, hts _ hm6⟩
    ⟨xblind, va_recv hC.2.2.2.2.2.2.2.2.1 hH.1 hcl2 mm2, fun U hU hW => ⟨rfl, xpre hU hW hC.2.2.2.2.2.2.2.2.1 hC.2.2.2.2.2.2.2.2.2.1 (fun q hq => hC.2.2.2.2.2.2.2.2.2.2.2.2 q (Nat.le_trans hS.1 hq)) hH⟩⟩ rfl (by simpa using hn) (hL.1) (by simp [xc, va_rf]) (xsum hsum) hd ⟨by omega, by omega⟩) hC hX hS hL (fun v hv => ho v (List.mem_append_right _ (List.mem_cons_of_mem _ hv))) (by omega) (by omega) hK k
  have h2 := hC.2.2.2.2.2.2.2.2.2.2.2.1
  show 8 + (m2.2.2.1 + 11) + (12 + 32 * d2) ≤ R.locals
  omega
theorem E_callI {k0 i0 : Nat} (hd : decode mm.2.1 pc = .ok (.invokespecial i, 3)) (hk : Cond.methodLink mm.1.cls i m2.1 ∈ xT) (hm : xMI m2 n) (hcc : CC m2 d2 mc ms (xR (some (k0, i0)) :: av) S Q2) (hst : st0 = av.reverse ++ xR (some (k0, i0)) :: st) (hn : av.length = n) (hd2 : d2 + 1 ≤ d) (hsum : ∀ al, ((st.map (xc al)).map fun v => v.category).sum ≤ 8)
    (hcb : mc ≤ cb) (hsb : ms ≤ sb)
    (k : ∀ v S', Q2 v S' → Ex mm d (cb - mc) (sb - ms) X Q (pc + 3) ls (v.toList ++ st) S') : Ex mm d cb sb X Q pc ls st0 S := by
  intro _ p l e R s m args below meth c H locs cells slots D A al cA L Qf lsA hC hX hH hS hL ho hc hs hK
  subst hst
  obtain ⟨⟨hm1, hm2, hm3, hm4⟩, hm5, hm6, hm7⟩ := hm
  obtain ⟨y2, c2, n2, r2⟩ := m2
  simp only at hm7
  subst hm7
  have hts := hC.2.2.2.2.2.1
  have hor : xo S (xR (some (k0, i0))) := ho _ (List.mem_append_right _ List.mem_cons_self)
  have hov : ∀ v ∈ xR (some (k0, i0)) :: av, xo S v := xo_c hor (fun v hv => ho v (List.mem_append_left _ (List.mem_reverse.mpr hv)))
  refine x_back (a := #[]) (Q2 := Q2) (S := S) (cb := cb - mc) (sb := sb - ms) (va_runI (Ts := xT) (own := mm.1.cls) (b := al (k0, i0)) (As := av.map (xc al)) (rest := st.map (xc al)) (n := n) ⟨hC.1, hC.2.1, hC.2.2.2.1, hC.2.2.2.2.1, hts⟩ (hcc l D A al cA L hov)
    ⟨callB_of n hts (xGood mm (y2, c2, n2, none) hm1) rfl rfl rfl (hts _ hm2) (hts _ hk) hm3 ⟨Nat.le_trans hd2 hC.2.2.2.2.2.2.2.2.2.2.1, ?_⟩, hm6, hts _ hm5⟩
    ⟨xblind, fun U hU hW => ⟨rfl, xpre hU hW hC.2.2.2.2.2.2.2.2.1 hC.2.2.2.2.2.2.2.2.2.1 (fun q hq => hC.2.2.2.2.2.2.2.2.2.2.2.2 q (Nat.le_trans hS.1 hq)) hH⟩⟩ rfl (by simpa using hn) (hL.1) (by simp [xc, va_rf]) (xsum hsum) hd ⟨by omega, by omega⟩) hC hX hS hL (fun v hv => ho v (List.mem_append_right _ (List.mem_cons_of_mem _ hv))) (by omega) (by omega) hK k
  have h2 := hC.2.2.2.2.2.2.2.2.2.2.2.1
  show 8 + (n2 + 11) + (12 + 32 * d2) ≤ R.locals
  simp only at hm4
  omega
theorem E_callN {k0 i0 : Nat} {host : String} (hd : decode mm.2.1 pc = .ok (.invokespecial i, 3)) (hk : ∀ U, xN U → va_Nw (.methodLinkNest mm.1.cls i m2.1 host) U) (hm : xMI m2 n) (hcc : CC m2 d2 mc ms (xR (some (k0, i0)) :: av) S Q2) (hst : st0 = av.reverse ++ xR (some (k0, i0)) :: st) (hn : av.length = n) (hd2 : d2 + 1 ≤ d) (hsum : ∀ al, ((st.map (xc al)).map fun v => v.category).sum ≤ 8)
    (hcb : mc ≤ cb) (hsb : ms ≤ sb)
    (k : ∀ v S', Q2 v S' → Ex mm d (cb - mc) (sb - ms) X Q (pc + 3) ls (v.toList ++ st) S') : Ex mm d cb sb X Q pc ls st0 S := by
  intro _ p l e R s m args below meth c H locs cells slots D A al cA L Qf lsA hC hX hH hS hL ho hc hs hK
  subst hst
  obtain ⟨⟨hm1, hm2, hm3, hm4⟩, hm5, hm6, hm7⟩ := hm
  obtain ⟨y2, c2, n2, r2⟩ := m2
  simp only at hm7
  subst hm7
  have hts := hC.2.2.2.2.2.1
  have hor : xo S (xR (some (k0, i0))) := ho _ (List.mem_append_right _ List.mem_cons_self)
  have hov : ∀ v ∈ xR (some (k0, i0)) :: av, xo S v := xo_c hor (fun v hv => ho v (List.mem_append_left _ (List.mem_reverse.mpr hv)))
  refine x_back (a := #[]) (Q2 := Q2) (S := S) (cb := cb - mc) (sb := sb - ms) (va_runIN (Ts := xT) (own := mm.1.cls) (host := host) (b := al (k0, i0)) (As := av.map (xc al)) (rest := st.map (xc al)) (n := n) ⟨hC.1, hC.2.1, hC.2.2.2.1, hC.2.2.2.2.1, hts⟩ (hcc l D A al cA L hov)
    ⟨va_cnB n hts (xGood mm (y2, c2, n2, none) hm1) rfl rfl rfl (hk s hC.2.2.2.2.2.2.2.2.2.1) (hts _ hm2) hm3 ⟨Nat.le_trans hd2 hC.2.2.2.2.2.2.2.2.2.2.1, ?_⟩, hm6, hts _ hm5⟩
    ⟨xblind, fun U hU hW => ⟨rfl, xpre hU hW hC.2.2.2.2.2.2.2.2.1 hC.2.2.2.2.2.2.2.2.2.1 (fun q hq => hC.2.2.2.2.2.2.2.2.2.2.2.2 q (Nat.le_trans hS.1 hq)) hH⟩⟩ rfl (by simpa using hn) (hL.1) (by simp [xc, va_rf]) (xsum hsum) hd ⟨by omega, by omega⟩) hC hX hS hL (fun v hv => ho v (List.mem_append_right _ (List.mem_cons_of_mem _ hv))) (by omega) (by omega) hK k
  have h2 := hC.2.2.2.2.2.2.2.2.2.2.2.1
  show 8 + (n2 + 11) + (12 + 32 * d2) ≤ R.locals
  simp only at hm4
  omega
end XCALL
