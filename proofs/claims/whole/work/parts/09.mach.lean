/-! the abstract machine: values, the store by kinds, the judgement -/
abbrev xV : Type := Int32 ⊕ (Option (Nat × Nat) ⊕ (Int64 ⊕ UInt32))
abbrev xI (x : Int32) : xV := Sum.inl x
abbrev xR (r : Option (Nat × Nat)) : xV := Sum.inr (Sum.inl r)
abbrev xJ (x : Int64) : xV := Sum.inr (Sum.inr (Sum.inl x))
abbrev xF (x : UInt32) : xV := Sum.inr (Sum.inr (Sum.inr x))
def xc (al : Nat × Nat → Nat) (v : xV) : Value := match v with
  | Sum.inl x => .int x
  | Sum.inr (Sum.inl r) => va_rf (r.map al)
  | Sum.inr (Sum.inr (Sum.inl x)) => .long x
  | Sum.inr (Sum.inr (Sum.inr x)) => .float x
/-- the store: ints, references, and which objects there are (with their lengths), by kind, number and slot -/
abbrev xS : Type := (Nat → Nat → Nat → Int32) × ((Nat → Nat → Nat → Option (Nat × Nat)) × (Nat → Nat → Option Nat))
def gI (S : xS) (k i j : Nat) : Int32 := S.1 k i j
def gR (S : xS) (k i j : Nat) : Option (Nat × Nat) := S.2.1 k i j
def gL (S : xS) (k i : Nat) : Option Nat := S.2.2 k i
def sI (S : xS) (k i j : Nat) (v : Int32) : xS := (fun a b c => if a = k ∧ c = j ∧ b = i then v else S.1 a b c, S.2)
def sR (S : xS) (k i j : Nat) (v : Option (Nat × Nat)) : xS := (S.1, (fun a b c => if a = k ∧ c = j ∧ b = i then v else S.2.1 a b c, S.2.2))
def sN (S : xS) (k i n : Nat) : xS := (fun a b c => if a = k ∧ b = i then 0 else S.1 a b c, (fun a b c => if a = k ∧ b = i then none else S.2.1 a b c, fun a b => if a = k ∧ b = i then some n else S.2.2 a b))
theorem gI_sI (S : xS) (k i j : Nat) (v : Int32) (a b c : Nat) : gI (sI S k i j v) a b c = if a = k ∧ c = j ∧ b = i then v else gI S a b c := rfl
theorem gR_sI (S : xS) (k i j : Nat) (v : Int32) (a b c : Nat) : gR (sI S k i j v) a b c = gR S a b c := rfl
theorem gL_sI (S : xS) (k i j : Nat) (v : Int32) (a b : Nat) : gL (sI S k i j v) a b = gL S a b := rfl
theorem gI_sR (S : xS) (k i j : Nat) (v : Option (Nat × Nat)) (a b c : Nat) : gI (sR S k i j v) a b c = gI S a b c := rfl
theorem gR_sR (S : xS) (k i j : Nat) (v : Option (Nat × Nat)) (a b c : Nat) : gR (sR S k i j v) a b c = if a = k ∧ c = j ∧ b = i then v else gR S a b c := rfl
theorem gL_sR (S : xS) (k i j : Nat) (v : Option (Nat × Nat)) (a b : Nat) : gL (sR S k i j v) a b = gL S a b := rfl
theorem gI_sN (S : xS) (k i n a b c : Nat) : gI (sN S k i n) a b c = if a = k ∧ b = i then 0 else gI S a b c := rfl
theorem gR_sN (S : xS) (k i n a b c : Nat) : gR (sN S k i n) a b c = if a = k ∧ b = i then none else gR S a b c := rfl
theorem gL_sN (S : xS) (k i n a b : Nat) : gL (sN S k i n) a b = if a = k ∧ b = i then some n else gL S a b := rfl
/-- kinds: 0 .. 9 the classes, 41 a club that is given up again, the rest arrays; 99 the script -/
def xCls (k : Nat) : Bool := decide (k < 10) || decide (k = 41)
def xk (k : Nat) : Nat := if k = 41 then 0 else k
def xn (c : Nat) : Nat := (([7, 7, 2, 12, 2, 4, 5, 14, 10, 48] : List Nat)[c]?).getD 0
/-- the slots that hold references -/
def xr (c j : Nat) : Bool := (((([[0], [], [0, 1], [3, 4, 5], [0], [0, 1], [], [1, 4, 12], [0, 1, 2, 3, 4], [1, 2, 3, 4, 5, 6, 7, 8, 9, 10, 11, 12, 13, 14, 15, 16, 17, 18, 19, 20, 21, 23, 24, 25, 26, 27, 28, 29, 30, 31, 32, 33, 34, 37, 38, 39, 40, 41, 42, 43, 44, 45]] : List (List Nat))[c]?).getD []).contains j)
/-- what an array's cells are of -/
def xa (k : Nat) : FieldType := match k with
  | 10 => .object RX3 | 11 => .object RX7 | 12 => .object RX0 | 14 => .boolean | 16 => .boolean | 17 => .object RX4 | 18 => .object RX6
  | 51 => .boolean | 59 => .boolean | 60 => .boolean | 67 => .boolean | 76 => .boolean | 79 => .boolean | 95 => .boolean
  | _ => .int
def xar (k : Nat) : Bool := match xa k with
  | .object _ => true
  | _ => false
def xcf (al : Nat × Nat → Nat) (S : xS) (q : Nat × Nat) (j : Nat) : Value := if xr (xk q.1) j = true then va_rf ((gR S q.1 q.2 j).map al) else .int (gI S q.1 q.2 j)
def xe (al : Nat × Nat → Nat) (S : xS) (cA : Nat × Nat → ClassId) (q : Nat × Nat) : va_E :=
  if xCls q.1 = true then .inr (xk q.1, (List.range (xn (xk q.1))).map (xcf al S q))
  else .inl (cA q, (gL S q.1 q.2).getD 0, if xar q.1 = true then .inr (.inr (.inr (.inr (fun j => (gR S q.1 q.2 j).map al)))) else .inl (fun j => gI S q.1 q.2 j))
def xw (al : Nat × Nat → Nat) (S : xS) (cA : Nat × Nat → ClassId) (L : List (Nat × Nat)) : va_W := L.map (fun q => (al q, xe al S cA q))
/-- there is such an object -/
def xAl (S : xS) (q : Nat × Nat) : Prop := gL S q.1 q.2 ≠ none ∨ q.1 = 99
def xo (S : xS) (v : xV) : Prop := ∀ q, v = xR (some q) → xAl S q
/-- the heap holds the store -/
def xH (D : va_G) (A : Nat → Prop) (s : State) (al : Nat × Nat → Nat) (cA : Nat × Nat → ClassId) (S : xS) (L : List (Nat × Nat)) (H : Heap) : Prop :=
  va_P D xCl (xw al S cA L) H ∧ va_D A (xw al S cA L) ∧ (∀ q : Nat × Nat, q ∈ L ↔ gL S q.1 q.2 ≠ none) ∧ (∀ q ∈ L, ∀ (j : Nat) (r : Nat × Nat), gR S q.1 q.2 j = some r → gL S r.1 r.2 ≠ none) ∧ (∀ q ∈ L, xCls q.1 = false → ArrOfT s (cA q) (xa q.1) ∧ va_RA s (cA q) (xa q.1))
theorem xw_get {al : Nat × Nat → Nat} {S : xS} {cA : Nat × Nat → ClassId} {L : List (Nat × Nat)} {q : Nat × Nat} (h : q ∈ L) : ∃ n : Nat, L[n]? = some q ∧ (xw al S cA L)[n]? = some (al q, xe al S cA q) := by
  obtain ⟨n, hn⟩ := List.getElem?_of_mem h
  exact ⟨n, hn, by simp [xw, hn]⟩
theorem xw_inj {A : Nat → Prop} {al : Nat × Nat → Nat} {S : xS} {cA : Nat × Nat → ClassId} {L : List (Nat × Nat)} (hD : va_D A (xw al S cA L)) {i j : Nat} {q r : Nat × Nat} (hi : L[i]? = some q) (hj : L[j]? = some r) (h : al q = al r) : i = j :=
  hD.1 i j (al q, xe al S cA q) (al r, xe al S cA r) (by simp [xw, hi]) (by simp [xw, hj]) h
theorem xw_al {A : Nat → Prop} {al : Nat × Nat → Nat} {S : xS} {cA : Nat × Nat → ClassId} {L : List (Nat × Nat)} (hD : va_D A (xw al S cA L)) {q r : Nat × Nat} (hq : q ∈ L) (hr : r ∈ L) (h : al q = al r) : q = r := by
  obtain ⟨i, hi⟩ := List.getElem?_of_mem hq
  obtain ⟨j, hj⟩ := List.getElem?_of_mem hr
  have := xw_inj hD hi hj h
  subst this
  exact Option.some.inj (hi.symm.trans hj)
theorem xw_set {A : Nat → Prop} {al : Nat × Nat → Nat} {S S' : xS} {cA : Nat × Nat → ClassId} {L : List (Nat × Nat)} (hD : va_D A (xw al S cA L)) {n : Nat} {q : Nat × Nat} {e : va_E} (hn : L[n]? = some q) (he : e = xe al S' cA q) (ho : ∀ r ∈ L, r ≠ q → xe al S' cA r = xe al S cA r) : (xw al S cA L).set n (al q, e) = xw al S' cA L := by
  subst he
  apply List.ext_getElem?
  intro j
  have hl : n < L.length := (List.getElem?_eq_some_iff.mp hn).1
  by_cases hj : j = n
  · subst hj
    rw [List.getElem?_set_self (by simpa [xw] using hl)]
    simp [xw, hn]
  · rw [List.getElem?_set_ne (Ne.symm hj)]
    simp only [xw, List.getElem?_map]
    cases hb : L[j]? with
    | none => rfl
    | some r =>
      have hr : r ≠ q := fun z => hj (xw_inj hD hb hn (by rw [z]))
      simp only [Option.map_some]
      rw [ho r (List.mem_of_getElem? hb) hr]
theorem xw_push {al al' : Nat × Nat → Nat} {S S' : xS} {cA cA' : Nat × Nat → ClassId} {L : List (Nat × Nat)} {q : Nat × Nat} {a : Nat} {e : va_E} (ha : al' q = a) (he : e = xe al' S' cA' q) (ho : ∀ r ∈ L, al' r = al r ∧ xe al' S' cA' r = xe al S cA r) : (xw al S cA L) ++ [(a, e)] = xw al' S' cA' (L ++ [q]) := by
  subst ha; subst he
  simp only [xw, List.map_append, List.map_cons, List.map_nil]
  congr 1
  apply List.map_congr_left
  intro r hr
  rw [(ho r hr).1, (ho r hr).2]
theorem xe_cls {al : Nat × Nat → Nat} {S : xS} {cA : Nat × Nat → ClassId} {q : Nat × Nat} (h : xCls q.1 = true) : xe al S cA q = .inr (xk q.1, (List.range (xn (xk q.1))).map (xcf al S q)) := by simp [xe, h]
theorem xe_int {al : Nat × Nat → Nat} {S : xS} {cA : Nat × Nat → ClassId} {q : Nat × Nat} {n : Nat} (h : xCls q.1 = false) (h2 : xar q.1 = false) (hn : gL S q.1 q.2 = some n) : xe al S cA q = .inl (cA q, n, .inl (fun j => gI S q.1 q.2 j)) := by simp [xe, h, h2, hn]
theorem xe_ref {al : Nat × Nat → Nat} {S : xS} {cA : Nat × Nat → ClassId} {q : Nat × Nat} {n : Nat} (h : xCls q.1 = false) (h2 : xar q.1 = true) (hn : gL S q.1 q.2 = some n) : xe al S cA q = .inl (cA q, n, .inr (.inr (.inr (.inr (fun j => (gR S q.1 q.2 j).map al))))) := by simp [xe, h, h2, hn]
theorem xe_same {al : Nat × Nat → Nat} {S S' : xS} {cA : Nat × Nat → ClassId} {q : Nat × Nat} (h1 : ∀ j, gI S' q.1 q.2 j = gI S q.1 q.2 j) (h2 : ∀ j, gR S' q.1 q.2 j = gR S q.1 q.2 j) (h3 : gL S' q.1 q.2 = gL S q.1 q.2) : xe al S' cA q = xe al S cA q := by
  have e : xcf al S' q = xcf al S q := by funext j; simp [xcf, h1, h2]
  unfold xe
  rw [e, h3]
  simp only [h1, h2]
theorem xH.moved {D : va_G} {A : Nat → Prop} {u U : State} {al : Nat × Nat → Nat} {cA : Nat × Nat → ClassId} {S : xS} {L : List (Nat × Nat)} {H : Heap} (hvm : u.vm.Alike U.vm) (h : xH D A u al cA S L H) : xH D A U al cA S L H :=
  ⟨h.1, h.2.1, h.2.2.1, h.2.2.2.1, fun q hq hc => ⟨arrOfT_moved hvm (h.2.2.2.2 q hq hc).1, (h.2.2.2.2 q hq hc).2.moved hvm⟩⟩
theorem xN.moved {u U : State} (hW : u.WarmedH U.vm) (h : xN u) : xN U := by
  obtain ⟨h1, h2, h3, h4, h5, h6, h7, h8⟩ := h
  exact ⟨h1.moved hW.alike, h2.moved hW.alike, h3.moved hW.alike, h4.moved hW.alike, h5.warmM hW, h6.moved hW.alike, h7.warmM hW, h8.warmM hW⟩
/-- a method's words -/
def xW (mm : xM) : List Cond := Cond.code mm.1 mm.2.1 mm.2.2.1 mm.2.2.2 :: xT
def xExt (S : xS) (al : Nat × Nat → Nat) (S' : xS) (al' : Nat × Nat → Nat) : Prop := ∀ q, xAl S q → xAl S' q ∧ al' q = al q
theorem xExt.rf {S : xS} {al : Nat × Nat → Nat} : xExt S al S al := fun _ h => ⟨h, rfl⟩
theorem xExt.tr {S S' S'' : xS} {al al' al'' : Nat × Nat → Nat} (h : xExt S al S' al') (h2 : xExt S' al' S'' al'') : xExt S al S'' al'' := fun q hq => ⟨(h2 q (h q hq).1).1, ((h2 q (h q hq).1).2).trans (h q hq).2⟩
/-- how an answer is given back -/
def xRet (mm : xM) (v : Option xV) (pc : Nat) : Prop := match v with
  | none => mm.2.2.2 = none ∧ decode mm.2.1 pc = .ok (.return_, 1)
  | some (Sum.inl x) => ∃ ty, mm.2.2.2 = some ty ∧ narrow ty (.int x) = .int x ∧ decode mm.2.1 pc = .ok (.ireturn, 1)
  | some (Sum.inr (Sum.inl _)) => ∃ ty, mm.2.2.2 = some ty ∧ ((∃ n, ty = .object n) ∨ ∃ t, ty = .array t) ∧ decode mm.2.1 pc = .ok (.areturn, 1)
  | _ => False
def xC (mm : xM) (d : Nat) (p : Program) (s : State) (m : MethodId) (args : Array Value) (meth : Method) (c : Code) (D : va_G) (R : Room) (A : Nat → Prop) : Prop :=
  p.tables.exec = Jvm.exec ∧ c.code = mm.2.1 ∧ meth.sig.returnType = mm.2.2.2 ∧ c.maxLocals = mm.2.2.1 ∧ s.vm.findClass mm.1.cls = some m.cls ∧ (∀ w ∈ xT, w.before args s = true) ∧ meth.locks = false ∧ meth.name = mm.1.name ∧ va_K D xCl [] s ∧ xN s ∧ d ≤ R.frames ∧ 12 + 32 * d ≤ R.locals ∧ ∀ q, s.heap.size ≤ q → A q
def xX (X : Nat × (Nat → Int32)) (al : Nat × Nat → Nat) (A : Nat → Prop) (s : State) : Prop := X.1 = 0 ∨ (va_X (al (99, 0)) (X.1 - 1) X.2 s s.heap ∧ al (99, 0) < s.heap.size ∧ ¬ A (al (99, 0)))
def xL (al : Nat × Nat → Nat) (S : xS) (nL : Nat) (lsA : Array Slot) (ls : List (Option xV)) : Prop := lsA.size = nL ∧ lv_wf lsA ∧ ls.length ≤ nL ∧ ∀ (i : Nat) (v : xV), ls[i]? = some (some v) → lsA[i]? = some (.val (xc al v)) ∧ xo S v
def xK (mm : xM) (Q : Option xV → xS → Prop) (p : Program) (l : Launch) (e : Env) (R : Room) (s : State) (m : MethodId) (args : Array Value) (below : List Frame) (meth : Method) (c : Code) (D : va_G) (A : Nat → Prop) (al : Nat × Nat → Nat) (S : xS) (Qf : State → Prop) : Prop :=
  ∀ (v : Option xV) (S' : xS) (al' : Nat × Nat → Nat) (cA' : Nat × Nat → ClassId) (L' : List (Nat × Nat)) (H' : Heap) (locs' : List Loc) (cells' slots' pc' : Nat) (lsA' : Array Slot), Q v S' → xExt S al S' al' → xH D A s al' cA' S' L' H' → va_S A s.heap H' locs' → (∀ w, v = some w → xo S' w) → cells' ≤ R.cells → slots' ≤ R.slots → xRet mm v pc' → W p l e R s m args below meth c H' locs' cells' slots' Qf (F0 m pc' lsA' (v.map (xc al')).toList)
/-- the judgement: from here the method comes to its end, with an answer and a store of which Q holds -/
def Ex (mm : xM) (d cb sb : Nat) (X : Nat × (Nat → Int32)) (Q : Option xV → xS → Prop) (pc : Nat) (ls : List (Option xV)) (st : List xV) (S : xS) : Prop :=
  Unit → ∀ {p : Program} {l : Launch} {e : Env} {R : Room} {s : State} {m : MethodId} {args : Array Value} {below : List Frame} {meth : Method} {c : Code} {H : Heap} {locs : List Loc} {cells slots : Nat} {D : va_G} {A : Nat → Prop} {al : Nat × Nat → Nat} {cA : Nat × Nat → ClassId} {L : List (Nat × Nat)} {Qf : State → Prop} {lsA : Array Slot},
    xC mm d p s m args meth c D R A → xX X al A s → xH D A s al cA S L H → va_S A s.heap H locs → xL al S mm.2.2.1 lsA ls → (∀ v ∈ st, xo S v) → cells + cb ≤ R.cells → slots + sb ≤ R.slots → xK mm Q p l e R s m args below meth c D A al S Qf → W p l e R s m args below meth c H locs cells slots Qf (F0 m pc lsA (st.map (xc al)))
/-- a method's contract -/
def CC (mm : xM) (d mc ms : Nat) (av : List xV) (S : xS) (Q : Option xV → xS → Prop) : Prop :=
  ∀ (l : Launch) (D : va_G) (A : Nat → Prop) (al : Nat × Nat → Nat) (cA : Nat × Nat → ClassId) (L : List (Nat × Nat)), (∀ v ∈ av, xo S v) →
    Met l mm.1 (xW mm) { frames := d, cells := mc, slots := ms, locals := 12 + 32 * d } (va_Pc (av.map (xc al)) (fun U => va_K D xCl [] U ∧ xN U ∧ (∀ q, U.heap.size ≤ q → A q) ∧ xH D A U al cA S L U.heap)) (fun _ st oc t => ∃ (v : Option xV) (S' : xS) (al' : Nat × Nat → Nat) (cA' : Nat × Nat → ClassId) (L' : List (Nat × Nat)), oc = .returned (v.map (xc al')) ∧ Q v S' ∧ xExt S al S' al' ∧ xH D A t al' cA' S' L' t.heap ∧ (∀ w, v = some w → xo S' w) ∧ va_F A st t) mc ms A
theorem CC.mono {mm : xM} {d mc ms : Nat} {av : List xV} {S : xS} {Q Q' : Option xV → xS → Prop} (h : CC mm d mc ms av S Q) (hq : ∀ v S', Q v S' → Q' v S') : CC mm d mc ms av S Q' := by
  intro l D A al cA L hav
  have h1 := h l D A al cA L hav
  intro p e ha hc hk s m args below hf hap hP hK
  obtain ⟨k, o, a1, a2, a3, ⟨v, S', al', cA', L', b1, b2, b3⟩, a4⟩ := h1 p e ha hc hk s m args below hf hap hP hK
  exact ⟨k, o, a1, a2, a3, ⟨v, S', al', cA', L', b1, hq _ _ b2, b3⟩, a4⟩
/-- the locals with which a method begins -/
def xent (n : Nat) (av : List xV) : List (Option xV) := av.map some ++ List.replicate (n - av.length) none
def xlong (v : xV) : Bool := match v with
  | Sum.inr (Sum.inr (Sum.inl _)) => true
  | _ => false
theorem xcat (al : Nat × Nat → Nat) (v : xV) (h : xlong v = false) : (xc al v).category = 1 := by
  rcases v with x | r | x | x
  · rfl
  · cases r <;> rfl
  · cases h
  · rfl
theorem lv_args_x (al : Nat × Nat → Nat) : ∀ (av : List xV) (k : Nat), av.all (fun v => !xlong v) = true → ∀ (i : Nat) (v : xV), av[i]? = some v → (k + i, xc al v) ∈ lv_args k (av.map (xc al))
  | [], _, _, i, v, h => by simp at h
  | w :: ws, k, ha, i, v, h => by
    simp only [List.all_cons, Bool.and_eq_true, Bool.not_eq_true'] at ha
    have hc : ¬ (xc al w).category = 2 := by rw [xcat al w ha.1]; decide
    simp only [List.map_cons, lv_args, hc, if_false]
    cases i with
    | zero => simp at h; subst h; exact List.mem_cons_self
    | succ i =>
      simp at h
      refine List.mem_cons_of_mem _ ?_
      have := lv_args_x al ws (k + 1) (by simpa using ha.2) i v h
      rwa [show k + 1 + i = k + (i + 1) by omega] at this
theorem lg_sl_len (al : Nat × Nat → Nat) (av : List xV) (ha : av.all (fun v => !xlong v) = true) : (lg_sl (av.map (xc al))).length = av.length := by
  induction av with
  | nil => rfl
  | cons w ws ih =>
    simp only [List.all_cons, Bool.and_eq_true, Bool.not_eq_true'] at ha
    have hc : ¬ (xc al w).category = 2 := by rw [xcat al w ha.1]; decide
    have := ih (by simpa using ha.2)
    simp [lg_sl, hc] at this ⊢
    omega
theorem CC_of {mm : xM} {d mc ms : Nat} {av : List xV} {S : xS} {Q : Option xV → xS → Prop} (hp : plainName mm.1.cls = true) (ha : av.all (fun v => !xlong v) = true) (hlen : av.length ≤ mm.2.2.1) (h : Ex mm d mc ms (0, fun _ => 0) Q 0 (xent mm.2.2.1 av) [] S) : CC mm d mc ms av S Q := by
  intro l D A al cA L hav
  refine Met.ofW (cc := mm.2.1) (maxL := mm.2.2.1) (ret := mm.2.2.2) hp rfl ?_
  intro p e s m args below meth c s₁ B hml hv
  obtain ⟨rfl, hK, hN, hA, hH⟩ := hv
  have hts := atoms_spec (ws := xW mm) B.pre
  have hname := (name_of_methodNamed B.named B.method).1
  have hl := lv_entry (av.map (xc al)) (n := mm.2.2.1) (by rw [lg_sl_len al av ha]; exact hlen)
  rw [lg_entry_eq]
  generalize (lg_sl (av.map (xc al)) ++ List.replicate (mm.2.2.1 - (lg_sl (av.map (xc al))).length) Slot.unset).toArray = lsA at hl ⊢
  have hL : xL al S mm.2.2.1 lsA (xent mm.2.2.1 av) := by
    refine ⟨hl.1, hl.2.1, by simp [xent]; omega, fun i v hi => ?_⟩
    have hi2 : av[i]? = some v := by
      unfold xent at hi
      by_cases hlt : i < av.length
      · rw [List.getElem?_append_left (by simpa using hlt)] at hi
        simpa using hi
      · rw [List.getElem?_append_right (by simpa using hlt)] at hi
        have := List.eq_of_mem_replicate (List.mem_of_getElem? hi)
        cases this
    refine ⟨hl.2.2 (i, xc al v) ?_, hav v (List.mem_of_getElem? hi2)⟩
    have := lv_args_x al av 0 ha i v hi2
    rwa [Nat.zero_add] at this
  refine h () (al := al) (cA := cA) (L := L) (D := D) (A := A) ⟨B.exec, B.bytes, B.returns, hml, findClass_of_methodNamed B.named, fun w hw => hts w (List.mem_cons_of_mem _ hw), B.notSynchronized, hname, hK, hN, Nat.le_refl _, Nat.le_refl _, hA⟩ (Or.inl rfl) hH va_S.rf hL (fun v hv => by cases hv) (by show 0 + mc ≤ mc; omega) (by show 0 + ms ≤ ms; omega) ?_
  intro v S' al' cA' L' H' locs' cells' slots' pc' lsA' hQ hext hH' hS' hov hc' hs' hr
  refine W.widen (k := mc) (n := ms) hc' hs' ?_
  have hpost : ∀ (o : Option Value), o = v.map (xc al') → ∀ t : State, t.heap = H' → s.WarmedH t.vm → (∃ (v : Option xV) (S' : xS) (al' : Nat × Nat → Nat) (cA' : Nat × Nat → ClassId) (L' : List (Nat × Nat)), Outcome.returned o = .returned (v.map (xc al')) ∧ Q v S' ∧ xExt S al S' al' ∧ xH D A t al' cA' S' L' t.heap ∧ (∀ w, v = some w → xo S' w) ∧ va_F A s t) := by
    intro o ho t ht hW
    exact ⟨v, S', al', cA', L', by rw [ho], hQ, hext, by rw [ht]; exact hH'.moved hW.alike, hov, hS'.F ht⟩
  match v, hr with
  | none, hr => exact W.vret B.exec B.bytes (B.returns.trans hr.1) (hpost none rfl) hS'.2.2 hr.2
  | some (Sum.inl x), hr =>
    obtain ⟨ty, h1, h2, h3⟩ := hr
    exact W.zret B.exec B.bytes (B.returns.trans h1) h2 (hpost (some (.int x)) rfl) hS'.2.2 h3
  | some (Sum.inr (Sum.inl r)), hr =>
    obtain ⟨ty, h1, h2, h3⟩ := hr
    exact W.aret (v := va_rf (r.map al')) B.exec B.bytes (B.returns.trans h1) h2 (by cases r <;> simp [va_rf]) (hpost (some (va_rf (r.map al'))) rfl) hS'.2.2 h3
  | some (Sum.inr (Sum.inr (Sum.inl x))), hr => exact hr.elim
  | some (Sum.inr (Sum.inr (Sum.inr x))), hr => exact hr.elim
/-! locals -/
def xnl (ls : List (Option xV)) (i : Nat) : Bool := match i with
  | 0 => true
  | j + 1 => match ls[j]? with
    | some (some v) => !xlong v
    | _ => true
def xll (al : Nat × Nat → Nat) (ls : List (Option xV)) : List (Nat × Value) := (List.range ls.length).filterMap (fun j => match ls[j]? with
  | some (some v) => some (j, xc al v)
  | _ => none)
theorem xll_mem {al : Nat × Nat → Nat} {ls : List (Option xV)} {i : Nat} {v : xV} (h : ls[i]? = some (some v)) : (i, xc al v) ∈ xll al ls := by
  refine List.mem_filterMap.mpr ⟨i, List.mem_range.mpr (List.getElem?_eq_some_iff.mp h).1, ?_⟩
  rw [h]
theorem xL_has {al : Nat × Nat → Nat} {S : xS} {nL : Nat} {lsA : Array Slot} {ls : List (Option xV)} (h : xL al S nL lsA ls) : lv_has lsA nL (xll al ls) := by
  refine ⟨h.1, h.2.1, fun q hq => ?_⟩
  obtain ⟨i, -, hi⟩ := List.mem_filterMap.mp hq
  cases hv : ls[i]? with
  | none => rw [hv] at hi; cases hi
  | some o => cases o with
    | none => rw [hv] at hi; cases hi
    | some v => rw [hv] at hi; cases hi; exact (h.2.2.2 i v hv).1
theorem xL_put {al : Nat × Nat → Nat} {S : xS} {nL : Nat} {lsA ls' : Array Slot} {ls : List (Option xV)} {i : Nat} {v : xV} (h : xL al S nL lsA ls) (hn : xnl ls i = true) (ho : xo S v)
    (h' : lv_has ls' nL ((i, xc al v) :: (xll al ls).filter (fun q => !(q.1 == i) && !(q.1 + 1 == i && q.2.category == 2)))) : xL al S nL ls' (ls.set i (some v)) := by
  refine ⟨h'.1, h'.2.1, by simpa using h.2.2.1, fun j w hj => ?_⟩
  by_cases hji : j = i
  · subst hji
    have hl : j < ls.length := by
      have := (List.getElem?_eq_some_iff.mp hj).1
      simpa using this
    rw [List.getElem?_set_self hl] at hj
    cases hj
    exact ⟨h'.2.2 _ List.mem_cons_self, ho⟩
  · rw [List.getElem?_set_ne (Ne.symm hji)] at hj
    refine ⟨h'.2.2 (j, xc al w) (List.mem_cons_of_mem _ (List.mem_filter.mpr ⟨xll_mem hj, ?_⟩)), (h.2.2.2 j w hj).2⟩
    simp only [Bool.and_eq_true, Bool.not_eq_true', beq_eq_false_iff_ne, ne_eq, Bool.and_eq_false_iff]
    refine ⟨hji, ?_⟩
    by_cases hj1 : j + 1 = i
    · right
      subst hj1
      simp only [xnl, hj] at hn
      rw [xcat al w (by simpa using hn)]
      decide
    · exact Or.inl hj1
theorem xL_put2 {al : Nat × Nat → Nat} {S : xS} {nL : Nat} {lsA ls' : Array Slot} {ls : List (Option xV)} {i : Nat} {x : Int64} (h : xL al S nL lsA ls) (hn : xnl ls i = true)
    (h' : lv_has ls' nL ((i, Value.long x) :: (xll al ls).filter (fun q => !(q.1 == i) && (!(q.1 == i + 1) && !(q.1 + 1 == i && q.2.category == 2))))) : xL al S nL ls' ((ls.set i (some (xJ x))).set (i + 1) none) := by
  refine ⟨h'.1, h'.2.1, by simpa using h.2.2.1, fun j w hj => ?_⟩
  by_cases hji2 : j = i + 1
  · subst hji2
    have hl : i + 1 < (ls.set i (some (xJ x))).length := by
      have := (List.getElem?_eq_some_iff.mp hj).1
      simpa using this
    rw [List.getElem?_set_self hl] at hj
    cases hj
  · rw [List.getElem?_set_ne (Ne.symm hji2)] at hj
    by_cases hji : j = i
    · subst hji
      have hl : j < ls.length := by
        have := (List.getElem?_eq_some_iff.mp hj).1
        simpa using this
      rw [List.getElem?_set_self hl] at hj
      cases hj
      exact ⟨h'.2.2 _ List.mem_cons_self, fun q hq => by cases hq⟩
    · rw [List.getElem?_set_ne (Ne.symm hji)] at hj
      refine ⟨h'.2.2 (j, xc al w) (List.mem_cons_of_mem _ (List.mem_filter.mpr ⟨xll_mem hj, ?_⟩)), (h.2.2.2 j w hj).2⟩
      simp only [Bool.and_eq_true, Bool.not_eq_true', beq_eq_false_iff_ne, ne_eq, Bool.and_eq_false_iff]
      refine ⟨hji, hji2, ?_⟩
      by_cases hj1 : j + 1 = i
      · right
        subst hj1
        simp only [xnl, hj] at hn
        rw [xcat al w (by simpa using hn)]
        decide
      · exact Or.inl hj1
theorem xo_I {S : xS} {x : Int32} : xo S (xI x) := fun q h => by cases h
theorem xo_J {S : xS} {x : Int64} : xo S (xJ x) := fun q h => by cases h
theorem xo_F {S : xS} {x : UInt32} : xo S (xF x) := fun q h => by cases h
theorem xo_n {S : xS} : xo S (xR none) := fun q h => by cases h
theorem xo_c {S : xS} {v : xV} {st : List xV} (h : xo S v) (ho : ∀ v ∈ st, xo S v) : ∀ w ∈ v :: st, xo S w := List.forall_mem_cons.mpr ⟨h, ho⟩
theorem xo_t {S : xS} {v : xV} {st : List xV} (ho : ∀ w ∈ v :: st, xo S w) : ∀ v ∈ st, xo S v := (List.forall_mem_cons.mp ho).2
theorem xo_h {S : xS} {v : xV} {st : List xV} (ho : ∀ w ∈ v :: st, xo S w) : xo S v := (List.forall_mem_cons.mp ho).1
theorem E_iconst {mm : xM} {d cb sb : Nat} {X : Nat × (Nat → Int32)} {Q : Option xV → xS → Prop} {pc : Nat} {ls : List (Option xV)} {st : List xV} {S : xS} {n : Int} {v : Int32} (hd : decode mm.2.1 pc = .ok (.iconst n, 1)) (hv : Int32.ofInt n = v) (k : Ex mm d cb sb X Q (pc + 1) ls (xI v :: st) S) : Ex mm d cb sb X Q pc ls (st) S := by
  intro _ p l e R s m args below meth c H locs cells slots D A al cA L Qf lsA hC hX hH hS hL ho hc hs hK
  exact lv_iconst hC.1 hC.2.1 hd hv (k () hC hX hH hS hL (xo_c xo_I ho) hc hs hK)
theorem E_bipush {mm : xM} {d cb sb : Nat} {X : Nat × (Nat → Int32)} {Q : Option xV → xS → Prop} {pc : Nat} {ls : List (Option xV)} {st : List xV} {S : xS} {n : Int} {v : Int32} (hd : decode mm.2.1 pc = .ok (.bipush n, 2)) (hv : (Int8.ofInt n).toInt32 = v) (k : Ex mm d cb sb X Q (pc + 2) ls (xI v :: st) S) : Ex mm d cb sb X Q pc ls (st) S := by
  intro _ p l e R s m args below meth c H locs cells slots D A al cA L Qf lsA hC hX hH hS hL ho hc hs hK
  exact lv_bipush hC.1 hC.2.1 hd hv (k () hC hX hH hS hL (xo_c xo_I ho) hc hs hK)
theorem E_sipush {mm : xM} {d cb sb : Nat} {X : Nat × (Nat → Int32)} {Q : Option xV → xS → Prop} {pc : Nat} {ls : List (Option xV)} {st : List xV} {S : xS} {n : Int} {v : Int32} (hd : decode mm.2.1 pc = .ok (.sipush n, 3)) (hv : (Int16.ofInt n).toInt32 = v) (k : Ex mm d cb sb X Q (pc + 3) ls (xI v :: st) S) : Ex mm d cb sb X Q pc ls (st) S := by
  intro _ p l e R s m args below meth c H locs cells slots D A al cA L Qf lsA hC hX hH hS hL ho hc hs hK
  exact lv_sipush hC.1 hC.2.1 hd hv (k () hC hX hH hS hL (xo_c xo_I ho) hc hs hK)
theorem E_ldc {mm : xM} {d cb sb : Nat} {X : Nat × (Nat → Int32)} {Q : Option xV → xS → Prop} {pc : Nat} {ls : List (Option xV)} {st : List xV} {S : xS} {i : Nat} {v : Int32} (hd : decode mm.2.1 pc = .ok (.ldc i, 2)) (hw : Jvm.Cond.constant mm.1.cls i v ∈ xT) (k : Ex mm d cb sb X Q (pc + 2) ls (xI v :: st) S) : Ex mm d cb sb X Q pc ls (st) S := by
  intro _ p l e R s m args below meth c H locs cells slots D A al cA L Qf lsA hC hX hH hS hL ho hc hs hK
  exact lv_ldc hC.1 hC.2.1 hC.2.2.2.2.1 (hC.2.2.2.2.2.1 _ hw) hd (k () hC hX hH hS hL (xo_c xo_I ho) hc hs hK)
theorem E_ldcw {mm : xM} {d cb sb : Nat} {X : Nat × (Nat → Int32)} {Q : Option xV → xS → Prop} {pc : Nat} {ls : List (Option xV)} {st : List xV} {S : xS} {i : Nat} {v : Int32} (hd : decode mm.2.1 pc = .ok (.ldc_w i, 3)) (hw : Jvm.Cond.constant mm.1.cls i v ∈ xT) (k : Ex mm d cb sb X Q (pc + 3) ls (xI v :: st) S) : Ex mm d cb sb X Q pc ls (st) S := by
  intro _ p l e R s m args below meth c H locs cells slots D A al cA L Qf lsA hC hX hH hS hL ho hc hs hK
  exact lv_ldcw hC.1 hC.2.1 hC.2.2.2.2.1 (hC.2.2.2.2.2.1 _ hw) hd (k () hC hX hH hS hL (xo_c xo_I ho) hc hs hK)
theorem E_ldcf {mm : xM} {d cb sb : Nat} {X : Nat × (Nat → Int32)} {Q : Option xV → xS → Prop} {pc : Nat} {ls : List (Option xV)} {st : List xV} {S : xS} {i : Nat} {v : UInt32} (hd : decode mm.2.1 pc = .ok (.ldc i, 2)) (hw : Jvm.Cond.constantFloat mm.1.cls i v ∈ xT) (k : Ex mm d cb sb X Q (pc + 2) ls (xF v :: st) S) : Ex mm d cb sb X Q pc ls (st) S := by
  intro _ p l e R s m args below meth c H locs cells slots D A al cA L Qf lsA hC hX hH hS hL ho hc hs hK
  exact lv_ldcf hC.1 hC.2.1 hC.2.2.2.2.1 (hC.2.2.2.2.2.1 _ hw) hd (k () hC hX hH hS hL (xo_c xo_F ho) hc hs hK)
theorem E_ldc2 {mm : xM} {d cb sb : Nat} {X : Nat × (Nat → Int32)} {Q : Option xV → xS → Prop} {pc : Nat} {ls : List (Option xV)} {st : List xV} {S : xS} {i : Nat} {v : Int64} (hd : decode mm.2.1 pc = .ok (.ldc2_w i, 3)) (hw : Jvm.Cond.constantLong mm.1.cls i v ∈ xT) (k : Ex mm d cb sb X Q (pc + 3) ls (xJ v :: st) S) : Ex mm d cb sb X Q pc ls (st) S := by
  intro _ p l e R s m args below meth c H locs cells slots D A al cA L Qf lsA hC hX hH hS hL ho hc hs hK
  exact lv_ldc2 hC.1 hC.2.1 hC.2.2.2.2.1 (hC.2.2.2.2.2.1 _ hw) hd (k () hC hX hH hS hL (xo_c xo_J ho) hc hs hK)
theorem E_null {mm : xM} {d cb sb : Nat} {X : Nat × (Nat → Int32)} {Q : Option xV → xS → Prop} {pc : Nat} {ls : List (Option xV)} {st : List xV} {S : xS}  (hd : decode mm.2.1 pc = .ok (.aconst_null, 1)) (k : Ex mm d cb sb X Q (pc + 1) ls (xR none :: st) S) : Ex mm d cb sb X Q pc ls (st) S := by
  intro _ p l e R s m args below meth c H locs cells slots D A al cA L Qf lsA hC hX hH hS hL ho hc hs hK
  exact lv_null hC.1 hC.2.1 hd (k () hC hX hH hS hL (xo_c xo_n ho) hc hs hK)
theorem E_iload_n {mm : xM} {d cb sb : Nat} {X : Nat × (Nat → Int32)} {Q : Option xV → xS → Prop} {pc : Nat} {ls : List (Option xV)} {st : List xV} {S : xS} {k4 : Fin 4} {i : Nat} {x : Int32} (hd : decode mm.2.1 pc = .ok (.iload_n k4, 1)) (hi : (k4 : Nat) = i) (hl : ls[i]? = some (some (xI x))) (k : Ex mm d cb sb X Q (pc + 1) ls (xI x :: st) S) : Ex mm d cb sb X Q pc ls (st) S := by
  intro _ p l e R s m args below meth c H locs cells slots D A al cA L Qf lsA hC hX hH hS hL ho hc hs hK
  exact lv_iload_n hC.1 hC.2.1 hd hi (hL.2.2.2 i _ hl).1 (k () hC hX hH hS hL (xo_c xo_I ho) hc hs hK)
theorem E_iload {mm : xM} {d cb sb : Nat} {X : Nat × (Nat → Int32)} {Q : Option xV → xS → Prop} {pc : Nat} {ls : List (Option xV)} {st : List xV} {S : xS} {i : Nat} {x : Int32} (hd : decode mm.2.1 pc = .ok (.iload i, 2)) (hl : ls[i]? = some (some (xI x))) (k : Ex mm d cb sb X Q (pc + 2) ls (xI x :: st) S) : Ex mm d cb sb X Q pc ls (st) S := by
  intro _ p l e R s m args below meth c H locs cells slots D A al cA L Qf lsA hC hX hH hS hL ho hc hs hK
  exact lv_iload hC.1 hC.2.1 hd (hL.2.2.2 i _ hl).1 (k () hC hX hH hS hL (xo_c xo_I ho) hc hs hK)
theorem E_fload_n {mm : xM} {d cb sb : Nat} {X : Nat × (Nat → Int32)} {Q : Option xV → xS → Prop} {pc : Nat} {ls : List (Option xV)} {st : List xV} {S : xS} {k4 : Fin 4} {i : Nat} {x : UInt32} (hd : decode mm.2.1 pc = .ok (.fload_n k4, 1)) (hi : (k4 : Nat) = i) (hl : ls[i]? = some (some (xF x))) (k : Ex mm d cb sb X Q (pc + 1) ls (xF x :: st) S) : Ex mm d cb sb X Q pc ls (st) S := by
  intro _ p l e R s m args below meth c H locs cells slots D A al cA L Qf lsA hC hX hH hS hL ho hc hs hK
  exact lv_fload_n hC.1 hC.2.1 hd hi (hL.2.2.2 i _ hl).1 (k () hC hX hH hS hL (xo_c xo_F ho) hc hs hK)
theorem E_lload_n {mm : xM} {d cb sb : Nat} {X : Nat × (Nat → Int32)} {Q : Option xV → xS → Prop} {pc : Nat} {ls : List (Option xV)} {st : List xV} {S : xS} {k4 : Fin 4} {i : Nat} {x : Int64} (hd : decode mm.2.1 pc = .ok (.lload_n k4, 1)) (hi : (k4 : Nat) = i) (hl : ls[i]? = some (some (xJ x))) (k : Ex mm d cb sb X Q (pc + 1) ls (xJ x :: st) S) : Ex mm d cb sb X Q pc ls (st) S := by
  intro _ p l e R s m args below meth c H locs cells slots D A al cA L Qf lsA hC hX hH hS hL ho hc hs hK
  exact lv_lload_n hC.1 hC.2.1 hd hi (hL.2.2.2 i _ hl).1 (k () hC hX hH hS hL (xo_c xo_J ho) hc hs hK)
theorem E_aload_n {mm : xM} {d cb sb : Nat} {X : Nat × (Nat → Int32)} {Q : Option xV → xS → Prop} {pc : Nat} {ls : List (Option xV)} {st : List xV} {S : xS} {k4 : Fin 4} {i : Nat} {r : Option (Nat × Nat)} (hd : decode mm.2.1 pc = .ok (.aload_n k4, 1)) (hi : (k4 : Nat) = i) (hl : ls[i]? = some (some (xR r))) (k : Ex mm d cb sb X Q (pc + 1) ls (xR r :: st) S) : Ex mm d cb sb X Q pc ls (st) S := by
  intro _ p l e R s m args below meth c H locs cells slots D A al cA L Qf lsA hC hX hH hS hL ho hc hs hK
  obtain ⟨h1, h2⟩ := hL.2.2.2 i _ hl
  have hk := k () hC hX hH hS hL (xo_c h2 ho) hc hs hK
  cases r with
  | none => exact lv_aload_nN hC.1 hC.2.1 hd hi h1 hk
  | some q => exact lv_aload_n hC.1 hC.2.1 hd hi h1 hk
theorem E_aload {mm : xM} {d cb sb : Nat} {X : Nat × (Nat → Int32)} {Q : Option xV → xS → Prop} {pc : Nat} {ls : List (Option xV)} {st : List xV} {S : xS} {i : Nat} {r : Option (Nat × Nat)} (hd : decode mm.2.1 pc = .ok (.aload i, 2)) (hl : ls[i]? = some (some (xR r))) (k : Ex mm d cb sb X Q (pc + 2) ls (xR r :: st) S) : Ex mm d cb sb X Q pc ls (st) S := by
  intro _ p l e R s m args below meth c H locs cells slots D A al cA L Qf lsA hC hX hH hS hL ho hc hs hK
  obtain ⟨h1, h2⟩ := hL.2.2.2 i _ hl
  have hk := k () hC hX hH hS hL (xo_c h2 ho) hc hs hK
  cases r with
  | none => exact lv_aloadN hC.1 hC.2.1 hd h1 hk
  | some q => exact lv_aload hC.1 hC.2.1 hd h1 hk
theorem E_istore_n {mm : xM} {d cb sb : Nat} {X : Nat × (Nat → Int32)} {Q : Option xV → xS → Prop} {pc : Nat} {ls : List (Option xV)} {st : List xV} {S : xS} {k4 : Fin 4} {i : Nat} {x : Int32} (hd : decode mm.2.1 pc = .ok (.istore_n k4, 1)) (hi : (k4 : Nat) = i) (hn : i < mm.2.2.1) (hx : xnl ls i = true) (k : Ex mm d cb sb X Q (pc + 1) (ls.set i (some (xI x))) (st) S) : Ex mm d cb sb X Q pc ls (xI x :: st) S := by
  intro _ p l e R s m args below meth c H locs cells slots D A al cA L Qf lsA hC hX hH hS hL ho hc hs hK
  exact lv_istore_n hC.1 hC.2.1 hd hi (xL_has hL) hn rfl (fun ls2 h2 => k () hC hX hH hS (xL_put hL hx xo_I h2) (xo_t ho) hc hs hK)
theorem E_istore {mm : xM} {d cb sb : Nat} {X : Nat × (Nat → Int32)} {Q : Option xV → xS → Prop} {pc : Nat} {ls : List (Option xV)} {st : List xV} {S : xS} {i : Nat} {x : Int32} (hd : decode mm.2.1 pc = .ok (.istore i, 2)) (hn : i < mm.2.2.1) (hx : xnl ls i = true) (k : Ex mm d cb sb X Q (pc + 2) (ls.set i (some (xI x))) (st) S) : Ex mm d cb sb X Q pc ls (xI x :: st) S := by
  intro _ p l e R s m args below meth c H locs cells slots D A al cA L Qf lsA hC hX hH hS hL ho hc hs hK
  exact lv_istore hC.1 hC.2.1 hd (xL_has hL) hn rfl (fun ls2 h2 => k () hC hX hH hS (xL_put hL hx xo_I h2) (xo_t ho) hc hs hK)
theorem E_astore_n {mm : xM} {d cb sb : Nat} {X : Nat × (Nat → Int32)} {Q : Option xV → xS → Prop} {pc : Nat} {ls : List (Option xV)} {st : List xV} {S : xS} {k4 : Fin 4} {i : Nat} {r : Option (Nat × Nat)} (hd : decode mm.2.1 pc = .ok (.astore_n k4, 1)) (hi : (k4 : Nat) = i) (hn : i < mm.2.2.1) (hx : xnl ls i = true) (k : Ex mm d cb sb X Q (pc + 1) (ls.set i (some (xR r))) (st) S) : Ex mm d cb sb X Q pc ls (xR r :: st) S := by
  intro _ p l e R s m args below meth c H locs cells slots D A al cA L Qf lsA hC hX hH hS hL ho hc hs hK
  have hr := xo_h ho
  cases r with
  | none => exact lv_astore_nN hC.1 hC.2.1 hd hi (xL_has hL) hn rfl (fun ls2 h2 => k () hC hX hH hS (xL_put hL hx hr h2) (xo_t ho) hc hs hK)
  | some q => exact lv_astore_n hC.1 hC.2.1 hd hi (xL_has hL) hn rfl (fun ls2 h2 => k () hC hX hH hS (xL_put hL hx hr h2) (xo_t ho) hc hs hK)
theorem E_astore {mm : xM} {d cb sb : Nat} {X : Nat × (Nat → Int32)} {Q : Option xV → xS → Prop} {pc : Nat} {ls : List (Option xV)} {st : List xV} {S : xS} {i : Nat} {r : Option (Nat × Nat)} (hd : decode mm.2.1 pc = .ok (.astore i, 2)) (hn : i < mm.2.2.1) (hx : xnl ls i = true) (k : Ex mm d cb sb X Q (pc + 2) (ls.set i (some (xR r))) (st) S) : Ex mm d cb sb X Q pc ls (xR r :: st) S := by
  intro _ p l e R s m args below meth c H locs cells slots D A al cA L Qf lsA hC hX hH hS hL ho hc hs hK
  have hr := xo_h ho
  cases r with
  | none => exact lv_astoreN hC.1 hC.2.1 hd (xL_has hL) hn rfl (fun ls2 h2 => k () hC hX hH hS (xL_put hL hx hr h2) (xo_t ho) hc hs hK)
  | some q => exact lv_astore hC.1 hC.2.1 hd (xL_has hL) hn rfl (fun ls2 h2 => k () hC hX hH hS (xL_put hL hx hr h2) (xo_t ho) hc hs hK)
theorem E_lstore_n {mm : xM} {d cb sb : Nat} {X : Nat × (Nat → Int32)} {Q : Option xV → xS → Prop} {pc : Nat} {ls : List (Option xV)} {st : List xV} {S : xS} {k4 : Fin 4} {i : Nat} {x : Int64} (hd : decode mm.2.1 pc = .ok (.lstore_n k4, 1)) (hi : (k4 : Nat) = i) (hn : i + 1 < mm.2.2.1) (hx : xnl ls i = true) (k : Ex mm d cb sb X Q (pc + 1) ((ls.set i (some (xJ x))).set (i + 1) none) (st) S) : Ex mm d cb sb X Q pc ls (xJ x :: st) S := by
  intro _ p l e R s m args below meth c H locs cells slots D A al cA L Qf lsA hC hX hH hS hL ho hc hs hK
  exact lv_lstore_n hC.1 hC.2.1 hd hi (xL_has hL) hn rfl (fun ls2 h2 => k () hC hX hH hS (xL_put2 hL hx h2) (xo_t ho) hc hs hK)
theorem E_iinc {mm : xM} {d cb sb : Nat} {X : Nat × (Nat → Int32)} {Q : Option xV → xS → Prop} {pc : Nat} {ls : List (Option xV)} {st : List xV} {S : xS} {i : Nat} {n : Int} {x v : Int32} (hd : decode mm.2.1 pc = .ok (.iinc i n, 3)) (hl : ls[i]? = some (some (xI x))) (hv : x + Int32.ofInt n = v) (hn : i < mm.2.2.1) (hx : xnl ls i = true) (k : Ex mm d cb sb X Q (pc + 3) (ls.set i (some (xI v))) (st) S) : Ex mm d cb sb X Q pc ls (st) S := by
  intro _ p l e R s m args below meth c H locs cells slots D A al cA L Qf lsA hC hX hH hS hL ho hc hs hK
  have hh := xL_has hL
  obtain ⟨n2, hn2⟩ := List.getElem?_of_mem (xll_mem (al := al) hl)
  exact lv_iinc (k := n2) hC.1 hC.2.1 hd hh hn2 hv hn rfl (fun ls2 h2 => k () hC hX hH hS (xL_put hL hx xo_I h2) ho hc hs hK)
theorem E_iadd {mm : xM} {d cb sb : Nat} {X : Nat × (Nat → Int32)} {Q : Option xV → xS → Prop} {pc : Nat} {ls : List (Option xV)} {st : List xV} {S : xS} {x y : Int32} (hd : decode mm.2.1 pc = .ok (.iadd, 1))  (k : Ex mm d cb sb X Q (pc + 1) ls (xI (x + y) :: st) S) : Ex mm d cb sb X Q pc ls (xI y :: xI x :: st) S := by
  intro _ p l e R s m args below meth c H locs cells slots D A al cA L Qf lsA hC hX hH hS hL ho hc hs hK
  exact lv_iadd hC.1 hC.2.1 hd (k () hC hX hH hS hL (xo_c xo_I (xo_t (xo_t ho))) hc hs hK)
theorem E_isub {mm : xM} {d cb sb : Nat} {X : Nat × (Nat → Int32)} {Q : Option xV → xS → Prop} {pc : Nat} {ls : List (Option xV)} {st : List xV} {S : xS} {x y : Int32} (hd : decode mm.2.1 pc = .ok (.isub, 1))  (k : Ex mm d cb sb X Q (pc + 1) ls (xI (x - y) :: st) S) : Ex mm d cb sb X Q pc ls (xI y :: xI x :: st) S := by
  intro _ p l e R s m args below meth c H locs cells slots D A al cA L Qf lsA hC hX hH hS hL ho hc hs hK
  exact lv_isub hC.1 hC.2.1 hd (k () hC hX hH hS hL (xo_c xo_I (xo_t (xo_t ho))) hc hs hK)
theorem E_imul {mm : xM} {d cb sb : Nat} {X : Nat × (Nat → Int32)} {Q : Option xV → xS → Prop} {pc : Nat} {ls : List (Option xV)} {st : List xV} {S : xS} {x y : Int32} (hd : decode mm.2.1 pc = .ok (.imul, 1))  (k : Ex mm d cb sb X Q (pc + 1) ls (xI (x * y) :: st) S) : Ex mm d cb sb X Q pc ls (xI y :: xI x :: st) S := by
  intro _ p l e R s m args below meth c H locs cells slots D A al cA L Qf lsA hC hX hH hS hL ho hc hs hK
  exact lv_imul hC.1 hC.2.1 hd (k () hC hX hH hS hL (xo_c xo_I (xo_t (xo_t ho))) hc hs hK)
theorem E_iand {mm : xM} {d cb sb : Nat} {X : Nat × (Nat → Int32)} {Q : Option xV → xS → Prop} {pc : Nat} {ls : List (Option xV)} {st : List xV} {S : xS} {x y : Int32} (hd : decode mm.2.1 pc = .ok (.iand, 1))  (k : Ex mm d cb sb X Q (pc + 1) ls (xI (x &&& y) :: st) S) : Ex mm d cb sb X Q pc ls (xI y :: xI x :: st) S := by
  intro _ p l e R s m args below meth c H locs cells slots D A al cA L Qf lsA hC hX hH hS hL ho hc hs hK
  exact lv_iand hC.1 hC.2.1 hd (k () hC hX hH hS hL (xo_c xo_I (xo_t (xo_t ho))) hc hs hK)
theorem E_ior {mm : xM} {d cb sb : Nat} {X : Nat × (Nat → Int32)} {Q : Option xV → xS → Prop} {pc : Nat} {ls : List (Option xV)} {st : List xV} {S : xS} {x y : Int32} (hd : decode mm.2.1 pc = .ok (.ior, 1))  (k : Ex mm d cb sb X Q (pc + 1) ls (xI (x ||| y) :: st) S) : Ex mm d cb sb X Q pc ls (xI y :: xI x :: st) S := by
  intro _ p l e R s m args below meth c H locs cells slots D A al cA L Qf lsA hC hX hH hS hL ho hc hs hK
  exact lv_ior hC.1 hC.2.1 hd (k () hC hX hH hS hL (xo_c xo_I (xo_t (xo_t ho))) hc hs hK)
theorem E_ishl {mm : xM} {d cb sb : Nat} {X : Nat × (Nat → Int32)} {Q : Option xV → xS → Prop} {pc : Nat} {ls : List (Option xV)} {st : List xV} {S : xS} {x y : Int32} (hd : decode mm.2.1 pc = .ok (.ishl, 1))  (k : Ex mm d cb sb X Q (pc + 1) ls (xI (x <<< (y &&& 31)) :: st) S) : Ex mm d cb sb X Q pc ls (xI y :: xI x :: st) S := by
  intro _ p l e R s m args below meth c H locs cells slots D A al cA L Qf lsA hC hX hH hS hL ho hc hs hK
  exact lv_ishl hC.1 hC.2.1 hd (k () hC hX hH hS hL (xo_c xo_I (xo_t (xo_t ho))) hc hs hK)
theorem E_ishr {mm : xM} {d cb sb : Nat} {X : Nat × (Nat → Int32)} {Q : Option xV → xS → Prop} {pc : Nat} {ls : List (Option xV)} {st : List xV} {S : xS} {x y : Int32} (hd : decode mm.2.1 pc = .ok (.ishr, 1))  (k : Ex mm d cb sb X Q (pc + 1) ls (xI (x >>> (y &&& 31)) :: st) S) : Ex mm d cb sb X Q pc ls (xI y :: xI x :: st) S := by
  intro _ p l e R s m args below meth c H locs cells slots D A al cA L Qf lsA hC hX hH hS hL ho hc hs hK
  exact lv_ishr hC.1 hC.2.1 hd (k () hC hX hH hS hL (xo_c xo_I (xo_t (xo_t ho))) hc hs hK)
theorem E_idiv {mm : xM} {d cb sb : Nat} {X : Nat × (Nat → Int32)} {Q : Option xV → xS → Prop} {pc : Nat} {ls : List (Option xV)} {st : List xV} {S : xS} {x y : Int32} (hd : decode mm.2.1 pc = .ok (.idiv, 1)) (hne : ¬ y = 0) (k : Ex mm d cb sb X Q (pc + 1) ls (xI (x / y) :: st) S) : Ex mm d cb sb X Q pc ls (xI y :: xI x :: st) S := by
  intro _ p l e R s m args below meth c H locs cells slots D A al cA L Qf lsA hC hX hH hS hL ho hc hs hK
  exact lv_idiv hC.1 hC.2.1 hd hne (k () hC hX hH hS hL (xo_c xo_I (xo_t (xo_t ho))) hc hs hK)
theorem E_iushr {mm : xM} {d cb sb : Nat} {X : Nat × (Nat → Int32)} {Q : Option xV → xS → Prop} {pc : Nat} {ls : List (Option xV)} {st : List xV} {S : xS} {x y v : Int32} (hd : decode mm.2.1 pc = .ok (.iushr, 1)) (hv : (x.toUInt32 >>> (y.toUInt32 &&& Int32.toUInt32 31)).toInt32 = v) (k : Ex mm d cb sb X Q (pc + 1) ls (xI v :: st) S) : Ex mm d cb sb X Q pc ls (xI y :: xI x :: st) S := by
  intro _ p l e R s m args below meth c H locs cells slots D A al cA L Qf lsA hC hX hH hS hL ho hc hs hK
  exact lv_iushr hC.1 hC.2.1 hd hv (k () hC hX hH hS hL (xo_c xo_I (xo_t (xo_t ho))) hc hs hK)
theorem E_ineg {mm : xM} {d cb sb : Nat} {X : Nat × (Nat → Int32)} {Q : Option xV → xS → Prop} {pc : Nat} {ls : List (Option xV)} {st : List xV} {S : xS} {x : Int32} (hd : decode mm.2.1 pc = .ok (.ineg, 1)) (k : Ex mm d cb sb X Q (pc + 1) ls (xI (-x) :: st) S) : Ex mm d cb sb X Q pc ls (xI x :: st) S := by
  intro _ p l e R s m args below meth c H locs cells slots D A al cA L Qf lsA hC hX hH hS hL ho hc hs hK
  exact lv_ineg hC.1 hC.2.1 hd (k () hC hX hH hS hL (xo_c xo_I (xo_t ho)) hc hs hK)
theorem E_i2l {mm : xM} {d cb sb : Nat} {X : Nat × (Nat → Int32)} {Q : Option xV → xS → Prop} {pc : Nat} {ls : List (Option xV)} {st : List xV} {S : xS} {x : Int32} (hd : decode mm.2.1 pc = .ok (.i2l, 1)) (k : Ex mm d cb sb X Q (pc + 1) ls (xJ (x.toInt64) :: st) S) : Ex mm d cb sb X Q pc ls (xI x :: st) S := by
  intro _ p l e R s m args below meth c H locs cells slots D A al cA L Qf lsA hC hX hH hS hL ho hc hs hK
  exact lv_i2l hC.1 hC.2.1 hd rfl (k () hC hX hH hS hL (xo_c xo_J (xo_t ho)) hc hs hK)
theorem E_lmul {mm : xM} {d cb sb : Nat} {X : Nat × (Nat → Int32)} {Q : Option xV → xS → Prop} {pc : Nat} {ls : List (Option xV)} {st : List xV} {S : xS} {x y : Int64} (hd : decode mm.2.1 pc = .ok (.lmul, 1)) (k : Ex mm d cb sb X Q (pc + 1) ls (xJ (x * y) :: st) S) : Ex mm d cb sb X Q pc ls (xJ y :: xJ x :: st) S := by
  intro _ p l e R s m args below meth c H locs cells slots D A al cA L Qf lsA hC hX hH hS hL ho hc hs hK
  exact lv_lmul hC.1 hC.2.1 hd (k () hC hX hH hS hL (xo_c xo_J (xo_t (xo_t ho))) hc hs hK)
theorem E_i2f {mm : xM} {d cb sb : Nat} {X : Nat × (Nat → Int32)} {Q : Option xV → xS → Prop} {pc : Nat} {ls : List (Option xV)} {st : List xV} {S : xS} {x : Int32} (hd : decode mm.2.1 pc = .ok (.i2f, 1)) (k : Ex mm d cb sb X Q (pc + 1) ls (xF (FP.i2f x) :: st) S) : Ex mm d cb sb X Q pc ls (xI x :: st) S := by
  intro _ p l e R s m args below meth c H locs cells slots D A al cA L Qf lsA hC hX hH hS hL ho hc hs hK
  exact lv_i2f hC.1 hC.2.1 hd (k () hC hX hH hS hL (xo_c xo_F (xo_t ho)) hc hs hK)
theorem E_f2i {mm : xM} {d cb sb : Nat} {X : Nat × (Nat → Int32)} {Q : Option xV → xS → Prop} {pc : Nat} {ls : List (Option xV)} {st : List xV} {S : xS} {x : UInt32} (hd : decode mm.2.1 pc = .ok (.f2i, 1)) (k : Ex mm d cb sb X Q (pc + 1) ls (xI (FP.f2i x) :: st) S) : Ex mm d cb sb X Q pc ls (xF x :: st) S := by
  intro _ p l e R s m args below meth c H locs cells slots D A al cA L Qf lsA hC hX hH hS hL ho hc hs hK
  exact lv_f2i hC.1 hC.2.1 hd (k () hC hX hH hS hL (xo_c xo_I (xo_t ho)) hc hs hK)
theorem E_fmul {mm : xM} {d cb sb : Nat} {X : Nat × (Nat → Int32)} {Q : Option xV → xS → Prop} {pc : Nat} {ls : List (Option xV)} {st : List xV} {S : xS} {x y : UInt32} (hd : decode mm.2.1 pc = .ok (.fmul, 1)) (hne : vf_n32 (FP.fmul x y)) (k : Ex mm d cb sb X Q (pc + 1) ls (xF (FP.fmul x y) :: st) S) : Ex mm d cb sb X Q pc ls (xF y :: xF x :: st) S := by
  intro _ p l e R s m args below meth c H locs cells slots D A al cA L Qf lsA hC hX hH hS hL ho hc hs hK
  exact lv_fmul hC.1 hC.2.1 hd hne (k () hC hX hH hS hL (xo_c xo_F (xo_t (xo_t ho))) hc hs hK)
theorem E_fcmp {mm : xM} {d cb sb : Nat} {X : Nat × (Nat → Int32)} {Q : Option xV → xS → Prop} {pc : Nat} {ls : List (Option xV)} {st : List xV} {S : xS} {x y : UInt32} {op : CmpOp} (hd : decode mm.2.1 pc = .ok (.fcmp op, 1)) (k : Ex mm d cb sb X Q (pc + 1) ls (xI (Op.cmpValue (FP.fcmp x y) op) :: st) S) : Ex mm d cb sb X Q pc ls (xF y :: xF x :: st) S := by
  intro _ p l e R s m args below meth c H locs cells slots D A al cA L Qf lsA hC hX hH hS hL ho hc hs hK
  exact lv_fcmp hC.1 hC.2.1 hd (k () hC hX hH hS hL (xo_c xo_I (xo_t (xo_t ho))) hc hs hK)
theorem E_dup {mm : xM} {d cb sb : Nat} {X : Nat × (Nat → Int32)} {Q : Option xV → xS → Prop} {pc : Nat} {ls : List (Option xV)} {st : List xV} {S : xS} {v : xV} (hd : decode mm.2.1 pc = .ok (.dup, 1)) (hv : xlong v = false) (k : Ex mm d cb sb X Q (pc + 1) ls (v :: v :: st) S) : Ex mm d cb sb X Q pc ls (v :: st) S := by
  intro _ p l e R s m args below meth c H locs cells slots D A al cA L Qf lsA hC hX hH hS hL ho hc hs hK
  exact lv_dup hC.1 hC.2.1 hd (xcat al v hv) (k () hC hX hH hS hL (xo_c (xo_h ho) ho) hc hs hK)
theorem E_dup2 {mm : xM} {d cb sb : Nat} {X : Nat × (Nat → Int32)} {Q : Option xV → xS → Prop} {pc : Nat} {ls : List (Option xV)} {st : List xV} {S : xS} {v w : xV} (hd : decode mm.2.1 pc = .ok (.dup2, 1)) (hv : xlong v = false) (hw : xlong w = false) (k : Ex mm d cb sb X Q (pc + 1) ls (v :: w :: v :: w :: st) S) : Ex mm d cb sb X Q pc ls (v :: w :: st) S := by
  intro _ p l e R s m args below meth c H locs cells slots D A al cA L Qf lsA hC hX hH hS hL ho hc hs hK
  exact lv_dup2_11 hC.1 hC.2.1 hd (xcat al v hv) (xcat al w hw) (k () hC hX hH hS hL (xo_c (xo_h ho) (xo_c (xo_h (xo_t ho)) ho)) hc hs hK)
theorem E_if_eq {mm : xM} {d cb sb : Nat} {X : Nat × (Nat → Int32)} {Q : Option xV → xS → Prop} {pc : Nat} {ls : List (Option xV)} {st : List xV} {S : xS} {x : Int32} {off : Int} {tgt : Nat} (hd : decode mm.2.1 pc = .ok (.ifCond .eq off, 3)) (ht : (pc : Int) + off = (tgt : Int)) (kt : x = 0 → Ex mm d cb sb X Q tgt ls st S) (kf : ¬ x = 0 → Ex mm d cb sb X Q (pc + 3) ls st S) : Ex mm d cb sb X Q pc ls (xI x :: st) S := by
  intro _ p l e R s m args below meth c H locs cells slots D A al cA L Qf lsA hC hX hH hS hL ho hc hs hK
  exact lv_if_eq hC.1 hC.2.1 hd ht (fun h => kt h () hC hX hH hS hL (xo_t ho) hc hs hK) (fun h => kf h () hC hX hH hS hL (xo_t ho) hc hs hK)
theorem E_icmp_eq {mm : xM} {d cb sb : Nat} {X : Nat × (Nat → Int32)} {Q : Option xV → xS → Prop} {pc : Nat} {ls : List (Option xV)} {st : List xV} {S : xS} {x y : Int32} {off : Int} {tgt : Nat} (hd : decode mm.2.1 pc = .ok (.if_icmp .eq off, 3)) (ht : (pc : Int) + off = (tgt : Int)) (kt : x = y → Ex mm d cb sb X Q tgt ls st S) (kf : ¬ x = y → Ex mm d cb sb X Q (pc + 3) ls st S) : Ex mm d cb sb X Q pc ls (xI y :: xI x :: st) S := by
  intro _ p l e R s m args below meth c H locs cells slots D A al cA L Qf lsA hC hX hH hS hL ho hc hs hK
  exact lv_icmp_eq hC.1 hC.2.1 hd ht (fun h => kt h () hC hX hH hS hL (xo_t (xo_t ho)) hc hs hK) (fun h => kf h () hC hX hH hS hL (xo_t (xo_t ho)) hc hs hK)
theorem E_if_ne {mm : xM} {d cb sb : Nat} {X : Nat × (Nat → Int32)} {Q : Option xV → xS → Prop} {pc : Nat} {ls : List (Option xV)} {st : List xV} {S : xS} {x : Int32} {off : Int} {tgt : Nat} (hd : decode mm.2.1 pc = .ok (.ifCond .ne off, 3)) (ht : (pc : Int) + off = (tgt : Int)) (kt : ¬ x = 0 → Ex mm d cb sb X Q tgt ls st S) (kf : x = 0 → Ex mm d cb sb X Q (pc + 3) ls st S) : Ex mm d cb sb X Q pc ls (xI x :: st) S := by
  intro _ p l e R s m args below meth c H locs cells slots D A al cA L Qf lsA hC hX hH hS hL ho hc hs hK
  exact lv_if_ne hC.1 hC.2.1 hd ht (fun h => kt h () hC hX hH hS hL (xo_t ho) hc hs hK) (fun h => kf h () hC hX hH hS hL (xo_t ho) hc hs hK)
theorem E_icmp_ne {mm : xM} {d cb sb : Nat} {X : Nat × (Nat → Int32)} {Q : Option xV → xS → Prop} {pc : Nat} {ls : List (Option xV)} {st : List xV} {S : xS} {x y : Int32} {off : Int} {tgt : Nat} (hd : decode mm.2.1 pc = .ok (.if_icmp .ne off, 3)) (ht : (pc : Int) + off = (tgt : Int)) (kt : ¬ x = y → Ex mm d cb sb X Q tgt ls st S) (kf : x = y → Ex mm d cb sb X Q (pc + 3) ls st S) : Ex mm d cb sb X Q pc ls (xI y :: xI x :: st) S := by
  intro _ p l e R s m args below meth c H locs cells slots D A al cA L Qf lsA hC hX hH hS hL ho hc hs hK
  exact lv_icmp_ne hC.1 hC.2.1 hd ht (fun h => kt h () hC hX hH hS hL (xo_t (xo_t ho)) hc hs hK) (fun h => kf h () hC hX hH hS hL (xo_t (xo_t ho)) hc hs hK)
theorem E_if_lt {mm : xM} {d cb sb : Nat} {X : Nat × (Nat → Int32)} {Q : Option xV → xS → Prop} {pc : Nat} {ls : List (Option xV)} {st : List xV} {S : xS} {x : Int32} {off : Int} {tgt : Nat} (hd : decode mm.2.1 pc = .ok (.ifCond .lt off, 3)) (ht : (pc : Int) + off = (tgt : Int)) (kt : x < 0 → Ex mm d cb sb X Q tgt ls st S) (kf : ¬ x < 0 → Ex mm d cb sb X Q (pc + 3) ls st S) : Ex mm d cb sb X Q pc ls (xI x :: st) S := by
  intro _ p l e R s m args below meth c H locs cells slots D A al cA L Qf lsA hC hX hH hS hL ho hc hs hK
  exact lv_if_lt hC.1 hC.2.1 hd ht (fun h => kt h () hC hX hH hS hL (xo_t ho) hc hs hK) (fun h => kf h () hC hX hH hS hL (xo_t ho) hc hs hK)
theorem E_icmp_lt {mm : xM} {d cb sb : Nat} {X : Nat × (Nat → Int32)} {Q : Option xV → xS → Prop} {pc : Nat} {ls : List (Option xV)} {st : List xV} {S : xS} {x y : Int32} {off : Int} {tgt : Nat} (hd : decode mm.2.1 pc = .ok (.if_icmp .lt off, 3)) (ht : (pc : Int) + off = (tgt : Int)) (kt : x < y → Ex mm d cb sb X Q tgt ls st S) (kf : ¬ x < y → Ex mm d cb sb X Q (pc + 3) ls st S) : Ex mm d cb sb X Q pc ls (xI y :: xI x :: st) S := by
  intro _ p l e R s m args below meth c H locs cells slots D A al cA L Qf lsA hC hX hH hS hL ho hc hs hK
  exact lv_icmp_lt hC.1 hC.2.1 hd ht (fun h => kt h () hC hX hH hS hL (xo_t (xo_t ho)) hc hs hK) (fun h => kf h () hC hX hH hS hL (xo_t (xo_t ho)) hc hs hK)
theorem E_if_ge {mm : xM} {d cb sb : Nat} {X : Nat × (Nat → Int32)} {Q : Option xV → xS → Prop} {pc : Nat} {ls : List (Option xV)} {st : List xV} {S : xS} {x : Int32} {off : Int} {tgt : Nat} (hd : decode mm.2.1 pc = .ok (.ifCond .ge off, 3)) (ht : (pc : Int) + off = (tgt : Int)) (kt : 0 ≤ x → Ex mm d cb sb X Q tgt ls st S) (kf : ¬ 0 ≤ x → Ex mm d cb sb X Q (pc + 3) ls st S) : Ex mm d cb sb X Q pc ls (xI x :: st) S := by
  intro _ p l e R s m args below meth c H locs cells slots D A al cA L Qf lsA hC hX hH hS hL ho hc hs hK
  exact lv_if_ge hC.1 hC.2.1 hd ht (fun h => kt h () hC hX hH hS hL (xo_t ho) hc hs hK) (fun h => kf h () hC hX hH hS hL (xo_t ho) hc hs hK)
theorem E_icmp_ge {mm : xM} {d cb sb : Nat} {X : Nat × (Nat → Int32)} {Q : Option xV → xS → Prop} {pc : Nat} {ls : List (Option xV)} {st : List xV} {S : xS} {x y : Int32} {off : Int} {tgt : Nat} (hd : decode mm.2.1 pc = .ok (.if_icmp .ge off, 3)) (ht : (pc : Int) + off = (tgt : Int)) (kt : y ≤ x → Ex mm d cb sb X Q tgt ls st S) (kf : ¬ y ≤ x → Ex mm d cb sb X Q (pc + 3) ls st S) : Ex mm d cb sb X Q pc ls (xI y :: xI x :: st) S := by
  intro _ p l e R s m args below meth c H locs cells slots D A al cA L Qf lsA hC hX hH hS hL ho hc hs hK
  exact lv_icmp_ge hC.1 hC.2.1 hd ht (fun h => kt h () hC hX hH hS hL (xo_t (xo_t ho)) hc hs hK) (fun h => kf h () hC hX hH hS hL (xo_t (xo_t ho)) hc hs hK)
theorem E_if_gt {mm : xM} {d cb sb : Nat} {X : Nat × (Nat → Int32)} {Q : Option xV → xS → Prop} {pc : Nat} {ls : List (Option xV)} {st : List xV} {S : xS} {x : Int32} {off : Int} {tgt : Nat} (hd : decode mm.2.1 pc = .ok (.ifCond .gt off, 3)) (ht : (pc : Int) + off = (tgt : Int)) (kt : 0 < x → Ex mm d cb sb X Q tgt ls st S) (kf : ¬ 0 < x → Ex mm d cb sb X Q (pc + 3) ls st S) : Ex mm d cb sb X Q pc ls (xI x :: st) S := by
  intro _ p l e R s m args below meth c H locs cells slots D A al cA L Qf lsA hC hX hH hS hL ho hc hs hK
  exact lv_if_gt hC.1 hC.2.1 hd ht (fun h => kt h () hC hX hH hS hL (xo_t ho) hc hs hK) (fun h => kf h () hC hX hH hS hL (xo_t ho) hc hs hK)
theorem E_icmp_gt {mm : xM} {d cb sb : Nat} {X : Nat × (Nat → Int32)} {Q : Option xV → xS → Prop} {pc : Nat} {ls : List (Option xV)} {st : List xV} {S : xS} {x y : Int32} {off : Int} {tgt : Nat} (hd : decode mm.2.1 pc = .ok (.if_icmp .gt off, 3)) (ht : (pc : Int) + off = (tgt : Int)) (kt : y < x → Ex mm d cb sb X Q tgt ls st S) (kf : ¬ y < x → Ex mm d cb sb X Q (pc + 3) ls st S) : Ex mm d cb sb X Q pc ls (xI y :: xI x :: st) S := by
  intro _ p l e R s m args below meth c H locs cells slots D A al cA L Qf lsA hC hX hH hS hL ho hc hs hK
  exact lv_icmp_gt hC.1 hC.2.1 hd ht (fun h => kt h () hC hX hH hS hL (xo_t (xo_t ho)) hc hs hK) (fun h => kf h () hC hX hH hS hL (xo_t (xo_t ho)) hc hs hK)
theorem E_if_le {mm : xM} {d cb sb : Nat} {X : Nat × (Nat → Int32)} {Q : Option xV → xS → Prop} {pc : Nat} {ls : List (Option xV)} {st : List xV} {S : xS} {x : Int32} {off : Int} {tgt : Nat} (hd : decode mm.2.1 pc = .ok (.ifCond .le off, 3)) (ht : (pc : Int) + off = (tgt : Int)) (kt : x ≤ 0 → Ex mm d cb sb X Q tgt ls st S) (kf : ¬ x ≤ 0 → Ex mm d cb sb X Q (pc + 3) ls st S) : Ex mm d cb sb X Q pc ls (xI x :: st) S := by
  intro _ p l e R s m args below meth c H locs cells slots D A al cA L Qf lsA hC hX hH hS hL ho hc hs hK
  exact lv_if_le hC.1 hC.2.1 hd ht (fun h => kt h () hC hX hH hS hL (xo_t ho) hc hs hK) (fun h => kf h () hC hX hH hS hL (xo_t ho) hc hs hK)
theorem E_icmp_le {mm : xM} {d cb sb : Nat} {X : Nat × (Nat → Int32)} {Q : Option xV → xS → Prop} {pc : Nat} {ls : List (Option xV)} {st : List xV} {S : xS} {x y : Int32} {off : Int} {tgt : Nat} (hd : decode mm.2.1 pc = .ok (.if_icmp .le off, 3)) (ht : (pc : Int) + off = (tgt : Int)) (kt : x ≤ y → Ex mm d cb sb X Q tgt ls st S) (kf : ¬ x ≤ y → Ex mm d cb sb X Q (pc + 3) ls st S) : Ex mm d cb sb X Q pc ls (xI y :: xI x :: st) S := by
  intro _ p l e R s m args below meth c H locs cells slots D A al cA L Qf lsA hC hX hH hS hL ho hc hs hK
  exact lv_icmp_le hC.1 hC.2.1 hd ht (fun h => kt h () hC hX hH hS hL (xo_t (xo_t ho)) hc hs hK) (fun h => kf h () hC hX hH hS hL (xo_t (xo_t ho)) hc hs hK)
theorem E_goto {mm : xM} {d cb sb : Nat} {X : Nat × (Nat → Int32)} {Q : Option xV → xS → Prop} {pc : Nat} {ls : List (Option xV)} {st : List xV} {S : xS} {off : Int} {tgt : Nat} (hd : decode mm.2.1 pc = .ok (.goto off, 3)) (ht : (pc : Int) + off = (tgt : Int)) (k : Ex mm d cb sb X Q (tgt) ls (st) S) : Ex mm d cb sb X Q pc ls (st) S := by
  intro _ p l e R s m args below meth c H locs cells slots D A al cA L Qf lsA hC hX hH hS hL ho hc hs hK
  exact lv_goto hC.1 hC.2.1 hd ht (k () hC hX hH hS hL (ho) hc hs hK)
theorem E_ifnull {mm : xM} {d cb sb : Nat} {X : Nat × (Nat → Int32)} {Q : Option xV → xS → Prop} {pc : Nat} {ls : List (Option xV)} {st : List xV} {S : xS} {r : Option (Nat × Nat)} {off : Int} {tgt : Nat} (hd : decode mm.2.1 pc = .ok (.ifnull off, 3)) (ht : (pc : Int) + off = (tgt : Int)) (kt : r = none → Ex mm d cb sb X Q tgt ls st S) (kf : ∀ q, r = some q → Ex mm d cb sb X Q (pc + 3) ls st S) : Ex mm d cb sb X Q pc ls (xR r :: st) S := by
  intro _ p l e R s m args below meth c H locs cells slots D A al cA L Qf lsA hC hX hH hS hL ho hc hs hK
  cases r with
  | none => exact lv_ifnullN hC.1 hC.2.1 hd ht (kt rfl () hC hX hH hS hL (xo_t ho) hc hs hK)
  | some q => exact lv_ifnull hC.1 hC.2.1 hd (kf q rfl () hC hX hH hS hL (xo_t ho) hc hs hK)
theorem E_ifnonnull {mm : xM} {d cb sb : Nat} {X : Nat × (Nat → Int32)} {Q : Option xV → xS → Prop} {pc : Nat} {ls : List (Option xV)} {st : List xV} {S : xS} {r : Option (Nat × Nat)} {off : Int} {tgt : Nat} (hd : decode mm.2.1 pc = .ok (.ifnonnull off, 3)) (ht : (pc : Int) + off = (tgt : Int)) (kt : ∀ q, r = some q → Ex mm d cb sb X Q tgt ls st S) (kf : r = none → Ex mm d cb sb X Q (pc + 3) ls st S) : Ex mm d cb sb X Q pc ls (xR r :: st) S := by
  intro _ p l e R s m args below meth c H locs cells slots D A al cA L Qf lsA hC hX hH hS hL ho hc hs hK
  cases r with
  | none => exact lv_ifnonnullN hC.1 hC.2.1 hd (kf rfl () hC hX hH hS hL (xo_t ho) hc hs hK)
  | some q => exact lv_ifnonnull hC.1 hC.2.1 hd ht (kt q rfl () hC hX hH hS hL (xo_t ho) hc hs hK)
theorem E_acmp_ne {mm : xM} {d cb sb : Nat} {X : Nat × (Nat → Int32)} {Q : Option xV → xS → Prop} {pc : Nat} {ls : List (Option xV)} {st : List xV} {S : xS} {r1 r2 : Option (Nat × Nat)} {off : Int} {tgt : Nat} (hd : decode mm.2.1 pc = .ok (.if_acmp .ne off, 3)) (ht : (pc : Int) + off = (tgt : Int)) (h1 : ∀ q, r1 = some q → q.1 ≠ 99) (h2 : ∀ q, r2 = some q → q.1 ≠ 99) (kt : ¬ r1 = r2 → Ex mm d cb sb X Q tgt ls st S) (kf : r1 = r2 → Ex mm d cb sb X Q (pc + 3) ls st S) : Ex mm d cb sb X Q pc ls (xR r2 :: xR r1 :: st) S := by
  intro _ p l e R s m args below meth c H locs cells slots D A al cA L Qf lsA hC hX hH hS hL ho hc hs hK
  have o2 := xo_h ho
  have o1 := xo_h (xo_t ho)
  have hinj : r1.map al = r2.map al → r1 = r2 := by
    intro h
    cases r1 with
    | none => cases r2 with
      | none => rfl
      | some q => cases h
    | some q1 => cases r2 with
      | none => cases h
      | some q2 =>
        have m1 : q1 ∈ L := (hH.2.2.1 q1).mpr ((o1 q1 rfl).resolve_right (h1 q1 rfl))
        have m2 : q2 ∈ L := (hH.2.2.1 q2).mpr ((o2 q2 rfl).resolve_right (h2 q2 rfl))
        rw [xw_al hH.2.1 m1 m2 (Option.some.inj h)]
  exact lv_acmp_ne hC.1 hC.2.1 hd ht (fun h => kt (fun z => h (by rw [z])) () hC hX hH hS hL (xo_t (xo_t ho)) hc hs hK) (fun h => kf (hinj h) () hC hX hH hS hL (xo_t (xo_t ho)) hc hs hK)
theorem E_tabIn {mm : xM} {d cb sb : Nat} {X : Nat × (Nat → Int32)} {Q : Option xV → xS → Prop} {pc : Nat} {ls : List (Option xV)} {st : List xV} {S : xS} {dflt lo hi off : Int} {offs : Array Int} {len tgt : Nat} {x : Int32} (hd : decode mm.2.1 pc = .ok (.tableswitch dflt lo hi offs, len)) (h1 : ¬ x.toInt < lo) (h2 : ¬ hi < x.toInt) (h3 : offs[(x.toInt - lo).toNat]? = some off) (ht : (pc : Int) + off = (tgt : Int)) (k : Ex mm d cb sb X Q (tgt) ls (st) S) : Ex mm d cb sb X Q pc ls (xI x :: st) S := by
  intro _ p l e R s m args below meth c H locs cells slots D A al cA L Qf lsA hC hX hH hS hL ho hc hs hK
  exact lv_tableIn hC.1 hC.2.1 hd h1 h2 h3 ht (k () hC hX hH hS hL (xo_t ho) hc hs hK)
theorem E_tabOut {mm : xM} {d cb sb : Nat} {X : Nat × (Nat → Int32)} {Q : Option xV → xS → Prop} {pc : Nat} {ls : List (Option xV)} {st : List xV} {S : xS} {dflt lo hi : Int} {offs : Array Int} {len tgt : Nat} {x : Int32} (hd : decode mm.2.1 pc = .ok (.tableswitch dflt lo hi offs, len)) (h1 : x.toInt < lo ∨ hi < x.toInt) (ht : (pc : Int) + dflt = (tgt : Int)) (k : Ex mm d cb sb X Q (tgt) ls (st) S) : Ex mm d cb sb X Q pc ls (xI x :: st) S := by
  intro _ p l e R s m args below meth c H locs cells slots D A al cA L Qf lsA hC hX hH hS hL ho hc hs hK
  exact lv_tableOut hC.1 hC.2.1 hd h1 ht (k () hC hX hH hS hL (xo_t ho) hc hs hK)
theorem E_iret {mm : xM} {d cb sb : Nat} {X : Nat × (Nat → Int32)} {Q : Option xV → xS → Prop} {pc : Nat} {ls : List (Option xV)} {S : xS} {x : Int32} {ty : FieldType} (hd : decode mm.2.1 pc = .ok (.ireturn, 1)) (hr : mm.2.2.2 = some ty) (hn : narrow ty (.int x) = .int x) (hq : Q (some (xI x)) S)  : Ex mm d cb sb X Q pc ls ([xI x]) S := by
  intro _ p l e R s m args below meth c H locs cells slots D A al cA L Qf lsA hC hX hH hS hL ho hc hs hK
  exact hK (some (xI x)) S al cA L H locs cells slots pc lsA hq xExt.rf hH hS (fun w hw => by cases hw; exact xo_I) (by omega) (by omega) ⟨ty, hr, hn, hd⟩
theorem E_aret {mm : xM} {d cb sb : Nat} {X : Nat × (Nat → Int32)} {Q : Option xV → xS → Prop} {pc : Nat} {ls : List (Option xV)} {S : xS} {r : Option (Nat × Nat)} {ty : FieldType} (hd : decode mm.2.1 pc = .ok (.areturn, 1)) (hr : mm.2.2.2 = some ty) (hn : (∃ n, ty = .object n) ∨ ∃ t, ty = .array t) (hq : Q (some (xR r)) S)  : Ex mm d cb sb X Q pc ls ([xR r]) S := by
  intro _ p l e R s m args below meth c H locs cells slots D A al cA L Qf lsA hC hX hH hS hL ho hc hs hK
  exact hK (some (xR r)) S al cA L H locs cells slots pc lsA hq xExt.rf hH hS (fun w hw => by cases hw; exact xo_h ho) (by omega) (by omega) ⟨ty, hr, hn, hd⟩
theorem E_vret {mm : xM} {d cb sb : Nat} {X : Nat × (Nat → Int32)} {Q : Option xV → xS → Prop} {pc : Nat} {ls : List (Option xV)} {S : xS}  (hd : decode mm.2.1 pc = .ok (.return_, 1)) (hr : mm.2.2.2 = none) (hq : Q none S)  : Ex mm d cb sb X Q pc ls ([]) S := by
  intro _ p l e R s m args below meth c H locs cells slots D A al cA L Qf lsA hC hX hH hS hL ho hc hs hK
  exact hK none S al cA L H locs cells slots pc lsA hq xExt.rf hH hS (fun w hw => by cases hw) (by omega) (by omega) ⟨hr, hd⟩
theorem E_obj {mm : xM} {d cb sb : Nat} {X : Nat × (Nat → Int32)} {Q : Option xV → xS → Prop} {pc : Nat} {ls : List (Option xV)} {st : List xV} {S : xS} {i : Nat} {q : Nat × Nat} (hd : decode mm.2.1 pc = .ok (.invokespecial i, 3)) (hk : Cond.methodLink mm.1.cls i objectInit ∈ xT) (h1 : 1 ≤ d) (hst : ∀ al, ((st.map (xc al)).map fun v => v.category).sum ≤ 8) (k : Ex mm d cb sb X Q (pc + 3) ls (st) S) : Ex mm d cb sb X Q pc ls (xR (some q) :: st) S := by
  intro _ p l e R s m args below meth c H locs cells slots D A al cA L Qf lsA hC hX hH hS hL ho hc hs hK
  refine W.objInit hC.1 hC.2.1 hC.2.2.2.2.1 (hC.2.2.2.2.2.1 _ hk) (hC.2.2.2.2.2.1 _ x_obj1) (hC.2.2.2.2.2.1 _ x_obj2) rfl (hL.1.trans hC.2.2.2.1.symm) rfl hd (Nat.le_trans h1 hC.2.2.2.2.2.2.2.2.2.2.1) ?_ (k () hC hX hH hS hL (xo_t ho) hc hs hK)
  have h2 := hC.2.2.2.2.2.2.2.2.2.2.2.1
  have h3 := hst al
  show 2 * 0 + ((st.map (xc al)).map fun v => v.category).sum + 12 ≤ R.locals
  omega
theorem E_max {mm : xM} {d cb sb : Nat} {X : Nat × (Nat → Int32)} {Q : Option xV → xS → Prop} {pc : Nat} {ls : List (Option xV)} {st : List xV} {S : xS} {i : Nat} {x y : Int32} (hd : decode mm.2.1 pc = .ok (.invokestatic i, 3)) (hk : Cond.methodLink mm.1.cls i Lib.Math.max.name ∈ xT) (h1 : 1 ≤ d) (hst : ∀ al, ((st.map (xc al)).map fun v => v.category).sum ≤ 8) (k : Ex mm d cb sb X Q (pc + 3) ls (xI (if x < y then y else x) :: st) S) : Ex mm d cb sb X Q pc ls (xI y :: xI x :: st) S := by
  intro _ p l e R s m args below meth c H locs cells slots D A al cA L Qf lsA hC hX hH hS hL ho hc hs hK
  have h2 := hC.2.2.2.2.2.2.2.2.2.2.2.1
  have h3 := hst al
  exact va_mmax hC.1 hC.2.1 (hC.2.2.2.1.trans hL.1.symm) hC.2.2.2.2.1 (hC.2.2.2.2.2.1 _ hk) (hC.2.2.2.2.2.1 _ mm_max.1) (hC.2.2.2.2.2.1 _ mm_max.2.1) (hC.2.2.2.2.2.1 _ mm_max.2.2) (Nat.le_trans h1 hC.2.2.2.2.2.2.2.2.2.2.1) (by omega) (by omega) (by omega) hd (k () hC hX hH hS hL (xo_c xo_I (xo_t (xo_t ho))) hc hs hK)
theorem E_min {mm : xM} {d cb sb : Nat} {X : Nat × (Nat → Int32)} {Q : Option xV → xS → Prop} {pc : Nat} {ls : List (Option xV)} {st : List xV} {S : xS} {i : Nat} {x y : Int32} (hd : decode mm.2.1 pc = .ok (.invokestatic i, 3)) (hk : Cond.methodLink mm.1.cls i Lib.Math.min.name ∈ xT) (h1 : 1 ≤ d) (hst : ∀ al, ((st.map (xc al)).map fun v => v.category).sum ≤ 8) (k : Ex mm d cb sb X Q (pc + 3) ls (xI (if y < x then y else x) :: st) S) : Ex mm d cb sb X Q pc ls (xI y :: xI x :: st) S := by
  intro _ p l e R s m args below meth c H locs cells slots D A al cA L Qf lsA hC hX hH hS hL ho hc hs hK
  have h2 := hC.2.2.2.2.2.2.2.2.2.2.2.1
  have h3 := hst al
  exact va_mmin hC.1 hC.2.1 (hC.2.2.2.1.trans hL.1.symm) hC.2.2.2.2.1 (hC.2.2.2.2.2.1 _ hk) (hC.2.2.2.2.2.1 _ mm_min.1) (hC.2.2.2.2.2.1 _ mm_min.2.1) (hC.2.2.2.2.2.1 _ mm_min.2.2) (Nat.le_trans h1 hC.2.2.2.2.2.2.2.2.2.2.1) (by omega) (by omega) (by omega) hd (k () hC hX hH hS hL (xo_c xo_I (xo_t (xo_t ho))) hc hs hK)
/-! the classes' tables -/
theorem xcls (ci : Nat) (C : String) (T : u_T) (N : Nat) (h : xCl[ci]? = some (C, T, N)) : (∀ w ∈ u_ws C T N, w ∈ xT) ∧ (∃ ty0 : Nat → FieldType, ∀ k, k < N → parseFieldDescriptor (T k).2.2.1 = some (ty0 k)) ∧ (∀ a, a < N → ∀ b, b < N → a ≠ b → (T a).2.1 ≠ (T b).2.1) ∧ N = xn ci := by
  match ci, h with
  | 0, h => cases h; exact ⟨wiX0, ⟨tyX0, tyX0_ok⟩, nmX0, rfl⟩
  | 1, h => cases h; exact ⟨wiX1, ⟨tyX1, tyX1_ok⟩, nmX1, rfl⟩
  | 2, h => cases h; exact ⟨wiX2, ⟨tyX2, tyX2_ok⟩, nmX2, rfl⟩
  | 3, h => cases h; exact ⟨wiX3, ⟨tyX3, tyX3_ok⟩, nmX3, rfl⟩
  | 4, h => cases h; exact ⟨wiX4, ⟨tyX4, tyX4_ok⟩, nmX4, rfl⟩
  | 5, h => cases h; exact ⟨wiX5, ⟨tyX5, tyX5_ok⟩, nmX5, rfl⟩
  | 6, h => cases h; exact ⟨wiX6, ⟨tyX6, tyX6_ok⟩, nmX6, rfl⟩
  | 7, h => cases h; exact ⟨wiX7, ⟨tyX7, tyX7_ok⟩, nmX7, rfl⟩
  | 8, h => cases h; exact ⟨wiX8, ⟨tyX8, tyX8_ok⟩, nmX8, rfl⟩
  | 9, h => cases h; exact ⟨wiX9, ⟨tyX9, tyX9_ok⟩, nmX9, rfl⟩
  | n + 10, h => simp [xCl] at h
theorem xmap_get {N j : Nat} {f : Nat → Value} (h : j < N) : ((List.range N).map f)[j]? = some (f j) := by simp [h]
theorem xmap_set {N j : Nat} {f g : Nat → Value} {v : Value} (hv : v = g j) (ho : ∀ i, i ≠ j → f i = g i) : ((List.range N).map f).set j v = (List.range N).map g := by
  apply List.ext_getElem?
  intro i
  by_cases hi : i = j
  · subst hi
    by_cases hl : i < N
    · rw [List.getElem?_set_self (by simpa using hl)]
      simp [hl, hv]
    · simp [hl]
  · rw [List.getElem?_set_ne (Ne.symm hi)]
    by_cases hl : i < N
    · simp [hl, ho i hi]
    · simp [hl]
theorem xdef (ci : Nat) (C : String) (T : u_T) (N : Nat) (h : xCl[ci]? = some (C, T, N)) (ty0 : Nat → FieldType) (hty : ∀ k, k < N → parseFieldDescriptor (T k).2.2.1 = some (ty0 k)) (j : Nat) (hj : j < N) : defaultValue (ty0 j) = (some (if xr ci j = true then Value.null else .int 0)).getD .null := by
  have key : ∀ (ty1 : Nat → FieldType), (∀ k, k < N → parseFieldDescriptor (T k).2.2.1 = some (ty1 k)) → (∀ k, k < N → defaultValue (ty1 k) = (some (if xr ci k = true then Value.null else .int 0)).getD .null) → defaultValue (ty0 j) = (some (if xr ci j = true then Value.null else .int 0)).getD .null := by
    intro ty1 h1 h2
    rw [show ty0 j = ty1 j from Option.some.inj ((hty j hj).symm.trans (h1 j hj))]
    exact h2 j hj
  match ci, h with
  | 0, h => cases h; exact key tyX0 tyX0_ok (by decide +kernel)
  | 1, h => cases h; exact key tyX1 tyX1_ok (by decide +kernel)
  | 2, h => cases h; exact key tyX2 tyX2_ok (by decide +kernel)
  | 3, h => cases h; exact key tyX3 tyX3_ok (by decide +kernel)
  | 4, h => cases h; exact key tyX4 tyX4_ok (by decide +kernel)
  | 5, h => cases h; exact key tyX5 tyX5_ok (by decide +kernel)
  | 6, h => cases h; exact key tyX6 tyX6_ok (by decide +kernel)
  | 7, h => cases h; exact key tyX7 tyX7_ok (by decide +kernel)
  | 8, h => cases h; exact key tyX8 tyX8_ok (by decide +kernel)
  | 9, h => cases h; exact key tyX9 tyX9_ok (by decide +kernel)
  | n + 10, h => simp [xCl] at h
section XR
variable {mm : xM} {d cb sb : Nat} {X : Nat × (Nat → Int32)} {Q : Option xV → xS → Prop} {pc : Nat} {ls : List (Option xV)} {st : List xV} {S : xS}
theorem x_in {D : va_G} {A : Nat → Prop} {s : State} {al : Nat × Nat → Nat} {cA : Nat × Nat → ClassId} {L : List (Nat × Nat)} {H : Heap} {q : Nat × Nat} (hH : xH D A s al cA S L H) (ho : xo S (xR (some q))) (h : q.1 ≠ 99) : q ∈ L :=
  (hH.2.2.1 q).mpr ((ho q rfl).resolve_right h)
theorem x_cls99 {k : Nat} (h : xCls k = true) : k ≠ 99 := fun z => by subst z; cases h
theorem E_getI {idx ci j k i : Nat} {x : Int32} {fin : Bool} {ty : FieldType} (hd : decode mm.2.1 pc = .ok (.getfield idx, 3)) (hf : xFL mm.1.cls idx ci j fin ty) (hk : xCls k = true) (hk2 : xk k = ci) (hr : xr ci j = false) (hv : gI S k i j = x)
    (kk : Ex mm d cb sb X Q (pc + 3) ls (xI x :: st) S) : Ex mm d cb sb X Q pc ls (xR (some (k, i)) :: st) S := by
  intro _ p l e R s m args below meth c H locs cells slots D A al cA L Qf lsA hC hX hH hS hL ho hc hs hK
  subst hv; subst hk2
  obtain ⟨C, T, N, f1, f2, f3, f4, -, -⟩ := hf
  obtain ⟨w1, -, -, w4⟩ := xcls _ C T N f1
  obtain ⟨n, n1, n2⟩ := xw_get (al := al) (S := S) (cA := cA) (x_in hH (xo_h ho) (x_cls99 hk))
  rw [xe_cls (q := (k, i)) hk] at n2
  refine va_get (C := C) (T := T) (N := N) (ref := C) (v := .int (gI S k i j)) hC.1 hC.2.1 hC.2.2.2.2.2.1 w1 hC.2.2.2.2.1 hC.2.2.2.2.2.2.2.2.1 hH.1 n n2 f1 j f2 (hC.2.2.2.2.2.1 _ f3) (fun x h => by rw [← f4]; exact h) ?_ hd (kk () hC hX hH hS hL (xo_c xo_I (xo_t ho)) hc hs hK)
  rw [xmap_get (by rw [← w4]; exact f2)]
  simp [xcf, hr]
theorem E_getR {idx ci j k i : Nat} {x : Option (Nat × Nat)} {fin : Bool} {ty : FieldType} (hd : decode mm.2.1 pc = .ok (.getfield idx, 3)) (hf : xFL mm.1.cls idx ci j fin ty) (hk : xCls k = true) (hk2 : xk k = ci) (hr : xr ci j = true) (hv : gR S k i j = x)
    (kk : Ex mm d cb sb X Q (pc + 3) ls (xR x :: st) S) : Ex mm d cb sb X Q pc ls (xR (some (k, i)) :: st) S := by
  intro _ p l e R s m args below meth c H locs cells slots D A al cA L Qf lsA hC hX hH hS hL ho hc hs hK
  subst hv; subst hk2
  obtain ⟨C, T, N, f1, f2, f3, f4, -, -⟩ := hf
  obtain ⟨w1, -, -, w4⟩ := xcls _ C T N f1
  have hin := x_in hH (xo_h ho) (x_cls99 hk)
  obtain ⟨n, n1, n2⟩ := xw_get (al := al) (S := S) (cA := cA) hin
  rw [xe_cls (q := (k, i)) hk] at n2
  refine va_get (C := C) (T := T) (N := N) (ref := C) (v := va_rf ((gR S k i j).map al)) hC.1 hC.2.1 hC.2.2.2.2.2.1 w1 hC.2.2.2.2.1 hC.2.2.2.2.2.2.2.2.1 hH.1 n n2 f1 j f2 (hC.2.2.2.2.2.1 _ f3) (fun x h => by rw [← f4]; exact h) ?_ hd (kk () hC hX hH hS hL (xo_c (fun q hq => Or.inl (hH.2.2.2.1 _ hin j q (Sum.inl.inj (Sum.inr.inj hq)))) (xo_t ho)) hc hs hK)
  rw [xmap_get (by rw [← w4]; exact f2)]
  simp [xcf, hr]
theorem xH_set {D : va_G} {A : Nat → Prop} {s : State} {al : Nat × Nat → Nat} {cA : Nat × Nat → ClassId} {L : List (Nat × Nat)} {H H1 : Heap} {S S' : xS} {n : Nat} {q : Nat × Nat} {e : va_E} (hH : xH D A s al cA S L H) (hn : L[n]? = some q) (he : e = xe al S' cA q)
    (hP : va_P D xCl ((xw al S cA L).set n (al q, e)) H1) (hD : va_D A ((xw al S cA L).set n (al q, e))) (hL : ∀ a b, gL S' a b = gL S a b) (ho : ∀ r ∈ L, r ≠ q → xe al S' cA r = xe al S cA r) (hr : ∀ r ∈ L, ∀ j x, gR S' r.1 r.2 j = some x → gL S x.1 x.2 ≠ none) : xH D A s al cA S' L H1 := by
  rw [xw_set hH.2.1 hn he ho] at hP hD
  exact ⟨hP, hD, fun r => by rw [hL]; exact hH.2.2.1 r, fun r hr1 j x hx => by rw [hL]; exact hr r hr1 j x hx, hH.2.2.2.2⟩
theorem xe_sI {al : Nat × Nat → Nat} {cA : Nat × Nat → ClassId} {k i j : Nat} {v : Int32} {r : Nat × Nat} (h : r ≠ (k, i)) : xe al (sI S k i j v) cA r = xe al S cA r :=
  xe_same (fun j' => by rw [gI_sI, if_neg]; rintro ⟨h1, -, h2⟩; exact h (Prod.ext h1 h2)) (fun _ => rfl) rfl
theorem xe_sR {al : Nat × Nat → Nat} {cA : Nat × Nat → ClassId} {k i j : Nat} {v : Option (Nat × Nat)} {r : Nat × Nat} (h : r ≠ (k, i)) : xe al (sR S k i j v) cA r = xe al S cA r :=
  xe_same (fun _ => rfl) (fun j' => by rw [gR_sR, if_neg]; rintro ⟨h1, -, h2⟩; exact h (Prod.ext h1 h2)) rfl
theorem x_sIx {k i j : Nat} {v : Int32} {al : Nat × Nat → Nat} {S' : xS} {al' : Nat × Nat → Nat} (h : xExt (sI S k i j v) al S' al') : xExt S al S' al' := h
theorem E_putI {idx ci j k i : Nat} {x : Int32} {ty : FieldType} (hd : decode mm.2.1 pc = .ok (.putfield idx, 3)) (hf : xFL mm.1.cls idx ci j false ty) (hk : xCls k = true) (hk2 : xk k = ci) (hr : xr ci j = false) (hn : narrow ty (.int x) = .int x) (hfit : fits ty (.int x) = true)
    (kk : Ex mm d cb sb X Q (pc + 3) ls st (sI S k i j x)) : Ex mm d cb sb X Q pc ls (xI x :: xR (some (k, i)) :: st) S := by
  intro _ p l e R s m args below meth c H locs cells slots D A al cA L Qf lsA hC hX hH hS hL ho hc hs hK
  subst hk2
  obtain ⟨C, T, N, f1, f2, f3, f4, f5, f6⟩ := hf
  obtain ⟨w1, ⟨ty0, w2⟩, w3, w4⟩ := xcls _ C T N f1
  have hin := x_in hH (xo_h (xo_t ho)) (x_cls99 hk)
  obtain ⟨n, n1, n2⟩ := xw_get (al := al) (S := S) (cA := cA) hin
  rw [xe_cls (q := (k, i)) hk] at n2
  refine va_put (C := C) (T := T) (N := N) (ref := C) (v := .int x) hC.1 hC.2.1 hC.2.2.2.2.2.1 w1 ty0 w2 w3 hC.2.2.2.2.1 hC.2.2.2.2.2.2.2.2.1 hH.1 hH.2.1 hS n n2 f1 j f2 (hC.2.2.2.2.2.1 _ f3) (fun x h => by rw [← f4]; exact h) f5 f6 hn hfit (by simpa [← w4] using f2) hd (fun H1 locs1 hP1 hD1 hS1 => ?_)
  refine kk () hC hX (xH_set (S' := sI S k i j x) hH n1 ?_ hP1 hD1 (fun _ _ => rfl) (fun r _ h => xe_sI h) (fun r h j x hx => hH.2.2.2.1 r h j x hx)) hS1 hL (xo_t (xo_t ho)) hc hs hK
  rw [xe_cls (q := (k, i)) hk, xmap_set (g := xcf al (sI S k i j x) (k, i))]
  · simp [xcf, hr, gI_sI]
  · intro i' hi'
    simp [xcf, gI_sI, gR_sI, hi']
theorem E_putR {idx ci j k i : Nat} {x : Option (Nat × Nat)} {ty : FieldType} (hd : decode mm.2.1 pc = .ok (.putfield idx, 3)) (hf : xFL mm.1.cls idx ci j false ty) (hk : xCls k = true) (hk2 : xk k = ci) (hr : xr ci j = true) (hty : (∃ n, ty = .object n) ∨ ∃ t, ty = .array t) (hx : ∀ q, x = some q → q.1 ≠ 99)
    (kk : Ex mm d cb sb X Q (pc + 3) ls st (sR S k i j x)) : Ex mm d cb sb X Q pc ls (xR x :: xR (some (k, i)) :: st) S := by
  intro _ p l e R s m args below meth c H locs cells slots D A al cA L Qf lsA hC hX hH hS hL ho hc hs hK
  subst hk2
  obtain ⟨C, T, N, f1, f2, f3, f4, f5, f6⟩ := hf
  obtain ⟨w1, ⟨ty0, w2⟩, w3, w4⟩ := xcls _ C T N f1
  have hin := x_in hH (xo_h (xo_t ho)) (x_cls99 hk)
  have hox := xo_h ho
  obtain ⟨n, n1, n2⟩ := xw_get (al := al) (S := S) (cA := cA) hin
  rw [xe_cls (q := (k, i)) hk] at n2
  refine va_put (C := C) (T := T) (N := N) (ref := C) (v := va_rf (x.map al)) hC.1 hC.2.1 hC.2.2.2.2.2.1 w1 ty0 w2 w3 hC.2.2.2.2.1 hC.2.2.2.2.2.2.2.2.1 hH.1 hH.2.1 hS n n2 f1 j f2 (hC.2.2.2.2.2.1 _ f3) (fun x h => by rw [← f4]; exact h) f5 f6 (by cases x <;> rcases hty with ⟨n, rfl⟩ | ⟨t, rfl⟩ <;> rfl) (by cases x <;> rcases hty with ⟨n, rfl⟩ | ⟨t, rfl⟩ <;> rfl) (by simpa [← w4] using f2) hd (fun H1 locs1 hP1 hD1 hS1 => ?_)
  refine kk () hC hX (xH_set (S' := sR S k i j x) hH n1 ?_ hP1 hD1 (fun _ _ => rfl) (fun r _ h => xe_sR h) (fun r h j' y hy => ?_)) hS1 hL (xo_t (xo_t ho)) hc hs hK
  · rw [xe_cls (q := (k, i)) hk, xmap_set (g := xcf al (sR S k i j x) (k, i))]
    · simp [xcf, hr, gR_sR]
    · intro i' hi'
      simp [xcf, gI_sR, gR_sR, hi']
  · rw [gR_sR] at hy
    split at hy
    · subst hy
      exact (hox y rfl).resolve_right (hx y rfl)
    · exact hH.2.2.2.1 r h j' y hy
theorem E_putFI {idx ci j k i : Nat} {x : Int32} {ty : FieldType} (hd : decode mm.2.1 pc = .ok (.putfield idx, 3)) (hf : xFL mm.1.cls idx ci j true ty) (hini : mm.1.name = "<init>") (hk : xCls k = true) (hk2 : xk k = ci) (hr : xr ci j = false) (hcl : ∀ r, xCl[ci]? = some r → r.1 = mm.1.cls) (hn : narrow ty (.int x) = .int x) (hfit : fits ty (.int x) = true)
    (kk : Ex mm d cb sb X Q (pc + 3) ls st (sI S k i j x)) : Ex mm d cb sb X Q pc ls (xI x :: xR (some (k, i)) :: st) S := by
  intro _ p l e R s m args below meth c H locs cells slots D A al cA L Qf lsA hC hX hH hS hL ho hc hs hK
  subst hk2
  obtain ⟨C, T, N, f1, f2, f3, f4, f5, f6⟩ := hf
  obtain ⟨w1, ⟨ty0, w2⟩, w3, w4⟩ := xcls _ C T N f1
  have hin := x_in hH (xo_h (xo_t ho)) (x_cls99 hk)
  obtain ⟨n, n1, n2⟩ := xw_get (al := al) (S := S) (cA := cA) hin
  rw [xe_cls (q := (k, i)) hk] at n2
  refine va_putF (C := C) (T := T) (N := N) (ref := C) (v := .int x) hC.1 hC.2.1 hC.2.2.2.2.2.1 w1 ty0 w2 w3 hC.2.2.2.2.1 hC.2.2.2.2.2.2.2.2.1 hH.1 hH.2.1 hS n n2 f1 j f2 (hC.2.2.2.2.2.1 _ f3) (fun x h => by rw [← f4]; exact h) f5 (hC.2.2.2.2.2.2.2.1.trans hini) (f4.trans (hcl _ f1)) f6 hn hfit (by simpa [← w4] using f2) hd (fun H1 locs1 hP1 hD1 hS1 => ?_)
  refine kk () hC hX (xH_set (S' := sI S k i j x) hH n1 ?_ hP1 hD1 (fun _ _ => rfl) (fun r _ h => xe_sI h) (fun r h j x hx => hH.2.2.2.1 r h j x hx)) hS1 hL (xo_t (xo_t ho)) hc hs hK
  rw [xe_cls (q := (k, i)) hk, xmap_set (g := xcf al (sI S k i j x) (k, i))]
  · simp [xcf, hr, gI_sI]
  · intro i' hi'
    simp [xcf, gI_sI, gR_sI, hi']
theorem E_putFR {idx ci j k i : Nat} {x : Option (Nat × Nat)} {ty : FieldType} (hd : decode mm.2.1 pc = .ok (.putfield idx, 3)) (hf : xFL mm.1.cls idx ci j true ty) (hini : mm.1.name = "<init>") (hk : xCls k = true) (hk2 : xk k = ci) (hr : xr ci j = true) (hcl : ∀ r, xCl[ci]? = some r → r.1 = mm.1.cls) (hty : (∃ n, ty = .object n) ∨ ∃ t, ty = .array t) (hx : ∀ q, x = some q → q.1 ≠ 99)
    (kk : Ex mm d cb sb X Q (pc + 3) ls st (sR S k i j x)) : Ex mm d cb sb X Q pc ls (xR x :: xR (some (k, i)) :: st) S := by
  intro _ p l e R s m args below meth c H locs cells slots D A al cA L Qf lsA hC hX hH hS hL ho hc hs hK
  subst hk2
  obtain ⟨C, T, N, f1, f2, f3, f4, f5, f6⟩ := hf
  obtain ⟨w1, ⟨ty0, w2⟩, w3, w4⟩ := xcls _ C T N f1
  have hin := x_in hH (xo_h (xo_t ho)) (x_cls99 hk)
  have hox := xo_h ho
  obtain ⟨n, n1, n2⟩ := xw_get (al := al) (S := S) (cA := cA) hin
  rw [xe_cls (q := (k, i)) hk] at n2
  refine va_putF (C := C) (T := T) (N := N) (ref := C) (v := va_rf (x.map al)) hC.1 hC.2.1 hC.2.2.2.2.2.1 w1 ty0 w2 w3 hC.2.2.2.2.1 hC.2.2.2.2.2.2.2.2.1 hH.1 hH.2.1 hS n n2 f1 j f2 (hC.2.2.2.2.2.1 _ f3) (fun x h => by rw [← f4]; exact h) f5 (hC.2.2.2.2.2.2.2.1.trans hini) (f4.trans (hcl _ f1)) f6 (by cases x <;> rcases hty with ⟨n, rfl⟩ | ⟨t, rfl⟩ <;> rfl) (by cases x <;> rcases hty with ⟨n, rfl⟩ | ⟨t, rfl⟩ <;> rfl) (by simpa [← w4] using f2) hd (fun H1 locs1 hP1 hD1 hS1 => ?_)
  refine kk () hC hX (xH_set (S' := sR S k i j x) hH n1 ?_ hP1 hD1 (fun _ _ => rfl) (fun r _ h => xe_sR h) (fun r h j' y hy => ?_)) hS1 hL (xo_t (xo_t ho)) hc hs hK
  · rw [xe_cls (q := (k, i)) hk, xmap_set (g := xcf al (sR S k i j x) (k, i))]
    · simp [xcf, hr, gR_sR]
    · intro i' hi'
      simp [xcf, gI_sR, gR_sR, hi']
  · rw [gR_sR] at hy
    split at hy
    · subst hy
      exact (hox y rfl).resolve_right (hx y rfl)
    · exact hH.2.2.2.1 r h j' y hy
/-! arrays -/
theorem x_tys {D : va_G} {s : State} {cA : ClassId} {ty : FieldType} (hK : va_K D xCl [] s) (h : ArrOfT s cA ty ∧ va_RA s cA ty) : va_K D xCl [(cA, ty)] s := ⟨hK.1, fun k q hq => by
  match k, hq with
  | 0, hq => cases hq; exact h
  | k + 1, hq => simp at hq⟩
theorem E_iald {k i n j : Nat} {x v : Int32} (hd : decode mm.2.1 pc = .ok (.iaload, 1)) (hk : xCls k = false) (hk2 : xa k = .int) (h99 : k ≠ 99) (hl : gL S k i = some n) (hin : vp_in x n) (hj : x.toNatClampNeg = j) (hv : gI S k i j = v)
    (kk : Ex mm d cb sb X Q (pc + 1) ls (xI v :: st) S) : Ex mm d cb sb X Q pc ls (xI x :: xR (some (k, i)) :: st) S := by
  intro _ p l e R s m args below meth c H locs cells slots D A al cA L Qf lsA hC hX hH hS hL ho hc hs hK
  subst hj; subst hv
  have hq := x_in hH (xo_h (xo_t ho)) h99
  obtain ⟨a, n1, n2⟩ := xw_get (al := al) (S := S) (cA := cA) hq
  rw [xe_int (q := (k, i)) hk (by simp [xar, hk2]) hl] at n2
  have hr := hH.2.2.2.2 _ hq hk
  rw [hk2] at hr
  exact va_iald hC.1 hC.2.1 (x_tys hC.2.2.2.2.2.2.2.2.1 hr) hH.1 a 0 n2 rfl hin hd (kk () hC hX hH hS hL (xo_c xo_I (xo_t (xo_t ho))) hc hs hK)
theorem E_zald {k i n j : Nat} {x v : Int32} (hd : decode mm.2.1 pc = .ok (.baload, 1)) (hk : xCls k = false) (hk2 : xa k = .boolean) (h99 : k ≠ 99) (hl : gL S k i = some n) (hin : vp_in x n) (hj : x.toNatClampNeg = j) (hv : gI S k i j = v)
    (kk : Ex mm d cb sb X Q (pc + 1) ls (xI v :: st) S) : Ex mm d cb sb X Q pc ls (xI x :: xR (some (k, i)) :: st) S := by
  intro _ p l e R s m args below meth c H locs cells slots D A al cA L Qf lsA hC hX hH hS hL ho hc hs hK
  subst hj; subst hv
  have hq := x_in hH (xo_h (xo_t ho)) h99
  obtain ⟨a, n1, n2⟩ := xw_get (al := al) (S := S) (cA := cA) hq
  rw [xe_int (q := (k, i)) hk (by simp [xar, hk2]) hl] at n2
  have hr := hH.2.2.2.2 _ hq hk
  rw [hk2] at hr
  exact va_zald hC.1 hC.2.1 (x_tys hC.2.2.2.2.2.2.2.2.1 hr) hH.1 a 0 n2 rfl hin hd (kk () hC hX hH hS hL (xo_c xo_I (xo_t (xo_t ho))) hc hs hK)
theorem E_aald {k i n j : Nat} {x : Int32} {C : String} {v : Option (Nat × Nat)} (hd : decode mm.2.1 pc = .ok (.aaload, 1)) (hk : xCls k = false) (hk2 : xa k = .object C) (h99 : k ≠ 99) (hl : gL S k i = some n) (hin : vp_in x n) (hj : x.toNatClampNeg = j) (hv : gR S k i j = v)
    (kk : Ex mm d cb sb X Q (pc + 1) ls (xR v :: st) S) : Ex mm d cb sb X Q pc ls (xI x :: xR (some (k, i)) :: st) S := by
  intro _ p l e R s m args below meth c H locs cells slots D A al cA L Qf lsA hC hX hH hS hL ho hc hs hK
  subst hj; subst hv
  have hq := x_in hH (xo_h (xo_t ho)) h99
  obtain ⟨a, n1, n2⟩ := xw_get (al := al) (S := S) (cA := cA) hq
  rw [xe_ref (q := (k, i)) hk (by simp [xar, hk2]) hl] at n2
  have hr := hH.2.2.2.2 _ hq hk
  rw [hk2] at hr
  exact va_aldq hC.1 hC.2.1 (x_tys hC.2.2.2.2.2.2.2.2.1 hr) hH.1 a 0 n2 rfl hin hd (kk () hC hX hH hS hL (xo_c (fun q hz => Or.inl (hH.2.2.2.1 _ hq _ q (Sum.inl.inj (Sum.inr.inj hz)))) (xo_t (xo_t ho))) hc hs hK)
theorem E_alen {k i n : Nat} {v : Int32} (hd : decode mm.2.1 pc = .ok (.arraylength, 1)) (hk : xCls k = false) (h99 : k ≠ 99) (hl : gL S k i = some n) (hv : Int32.ofNat n = v)
    (kk : Ex mm d cb sb X Q (pc + 1) ls (xI v :: st) S) : Ex mm d cb sb X Q pc ls (xR (some (k, i)) :: st) S := by
  intro _ p l e R s m args below meth c H locs cells slots D A al cA L Qf lsA hC hX hH hS hL ho hc hs hK
  have hq := x_in hH (xo_h ho) h99
  obtain ⟨a, n1, n2⟩ := xw_get (al := al) (S := S) (cA := cA) hq
  have hr := hH.2.2.2.2 _ hq hk
  by_cases har : xar k = true
  · rw [xe_ref (q := (k, i)) hk har hl] at n2
    exact va_alen hC.1 hC.2.1 (x_tys hC.2.2.2.2.2.2.2.2.1 hr) hH.1 a 0 n2 rfl hv hd (kk () hC hX hH hS hL (xo_c xo_I (xo_t ho)) hc hs hK)
  · rw [xe_int (q := (k, i)) hk (by simpa using har) hl] at n2
    exact va_alen hC.1 hC.2.1 (x_tys hC.2.2.2.2.2.2.2.2.1 hr) hH.1 a 0 n2 rfl hv hd (kk () hC hX hH hS hL (xo_c xo_I (xo_t ho)) hc hs hK)
theorem E_iast {k i n j : Nat} {x v : Int32} (hd : decode mm.2.1 pc = .ok (.iastore, 1)) (hk : xCls k = false) (hk2 : xa k = .int) (h99 : k ≠ 99) (hl : gL S k i = some n) (hin : vp_in x n) (hj : x.toNatClampNeg = j)
    (kk : Ex mm d cb sb X Q (pc + 1) ls st (sI S k i j v)) : Ex mm d cb sb X Q pc ls (xI v :: xI x :: xR (some (k, i)) :: st) S := by
  intro _ p l e R s m args below meth c H locs cells slots D A al cA L Qf lsA hC hX hH hS hL ho hc hs hK
  subst hj
  have hq := x_in hH (xo_h (xo_t (xo_t ho))) h99
  obtain ⟨a, n1, n2⟩ := xw_get (al := al) (S := S) (cA := cA) hq
  have har : xar k = false := by simp [xar, hk2]
  rw [xe_int (q := (k, i)) hk har hl] at n2
  have hr := hH.2.2.2.2 _ hq hk
  rw [hk2] at hr
  refine va_iast hC.1 hC.2.1 (x_tys hC.2.2.2.2.2.2.2.2.1 hr) hH.1 hH.2.1 hS a 0 n2 rfl hin hd (fun H1 locs1 hP1 hD1 hS1 => ?_)
  refine kk () hC hX (xH_set (S' := sI S k i x.toNatClampNeg v) hH n1 ?_ hP1 hD1 (fun _ _ => rfl) (fun r _ h => xe_sI h) (fun r h j x hx => hH.2.2.2.1 r h j x hx)) hS1 hL (xo_t (xo_t (xo_t ho))) hc hs hK
  rw [xe_int (q := (k, i)) (S := sI S k i x.toNatClampNeg v) hk har hl]
  congr 4
  funext j
  simp [upd, gI_sI]
theorem E_zast {k i n j : Nat} {x v : Int32} (hd : decode mm.2.1 pc = .ok (.bastore, 1)) (hk : xCls k = false) (hk2 : xa k = .boolean) (h99 : k ≠ 99) (hl : gL S k i = some n) (hin : vp_in x n) (hj : x.toNatClampNeg = j) (hv : vp_nar .boolean v = v)
    (kk : Ex mm d cb sb X Q (pc + 1) ls st (sI S k i j v)) : Ex mm d cb sb X Q pc ls (xI v :: xI x :: xR (some (k, i)) :: st) S := by
  intro _ p l e R s m args below meth c H locs cells slots D A al cA L Qf lsA hC hX hH hS hL ho hc hs hK
  subst hj
  have hq := x_in hH (xo_h (xo_t (xo_t ho))) h99
  obtain ⟨a, n1, n2⟩ := xw_get (al := al) (S := S) (cA := cA) hq
  have har : xar k = false := by simp [xar, hk2]
  rw [xe_int (q := (k, i)) hk har hl] at n2
  have hr := hH.2.2.2.2 _ hq hk
  rw [hk2] at hr
  refine va_zast hC.1 hC.2.1 (x_tys hC.2.2.2.2.2.2.2.2.1 hr) hH.1 hH.2.1 hS a 0 n2 rfl hin hd (fun H1 locs1 hP1 hD1 hS1 => ?_)
  refine kk () hC hX (xH_set (S' := sI S k i x.toNatClampNeg v) hH n1 ?_ hP1 hD1 (fun _ _ => rfl) (fun r _ h => xe_sI h) (fun r h j x hx => hH.2.2.2.1 r h j x hx)) hS1 hL (xo_t (xo_t (xo_t ho))) hc hs hK
  rw [xe_int (q := (k, i)) (S := sI S k i x.toNatClampNeg v) hk har hl]
  congr 4
  funext j
  simp [upd, gI_sI, hv]
theorem E_aast {k i n j kv iv : Nat} {x : Int32} {C : String} {T : u_T} {N : Nat} (hd : decode mm.2.1 pc = .ok (.aastore, 1)) (hk : xCls k = false) (hk2 : xa k = .object C) (h99 : k ≠ 99) (hl : gL S k i = some n) (hin : vp_in x n) (hj : x.toNatClampNeg = j) (hkv : xCls kv = true) (hci : xCl[xk kv]? = some (C, T, N))
    (kk : Ex mm d cb sb X Q (pc + 1) ls st (sR S k i j (some (kv, iv)))) : Ex mm d cb sb X Q pc ls (xR (some (kv, iv)) :: xI x :: xR (some (k, i)) :: st) S := by
  intro _ p l e R s m args below meth c H locs cells slots D A al cA L Qf lsA hC hX hH hS hL ho hc hs hK
  subst hj
  have hq := x_in hH (xo_h (xo_t (xo_t ho))) h99
  have hqv := x_in hH (xo_h ho) (x_cls99 hkv)
  obtain ⟨a, n1, n2⟩ := xw_get (al := al) (S := S) (cA := cA) hq
  obtain ⟨b, m1, m2⟩ := xw_get (al := al) (S := S) (cA := cA) hqv
  have har : xar k = true := by simp [xar, hk2]
  rw [xe_ref (q := (k, i)) hk har hl] at n2
  rw [xe_cls (q := (kv, iv)) hkv] at m2
  have hr := hH.2.2.2.2 _ hq hk
  rw [hk2] at hr
  refine va_astq (r := (C, T, N)) hC.1 hC.2.1 (x_tys hC.2.2.2.2.2.2.2.2.1 hr) hH.1 hH.2.1 hS a 0 b (xk kv) n2 rfl m2 hci hin hd (fun H1 locs1 hP1 hD1 hS1 => ?_)
  refine kk () hC hX (xH_set (S' := sR S k i x.toNatClampNeg (some (kv, iv))) hH n1 ?_ hP1 hD1 (fun _ _ => rfl) (fun r _ h => xe_sR h) (fun r h j' y hy => ?_)) hS1 hL (xo_t (xo_t (xo_t ho))) hc hs hK
  · rw [xe_ref (q := (k, i)) (S := sR S k i x.toNatClampNeg (some (kv, iv))) hk har hl]
    congr 7
    funext j
    by_cases hj : j = x.toNatClampNeg
    · subst hj
      simp [va_up, gR_sR]
    · simp [va_up, gR_sR, hj]
  · rw [gR_sR] at hy
    split at hy
    · cases hy
      exact (hH.2.2.1 _).mp hqv
    · exact hH.2.2.2.1 r h j' y hy
/-! the script -/
theorem E_sld {M : Nat} {xs : Nat → Int32} {x v : Int32} (hd : decode mm.2.1 pc = .ok (.iaload, 1)) (hin : vp_in x M) (hv : xs x.toNatClampNeg = v)
    (kk : Ex mm d cb sb (M + 1, xs) Q (pc + 1) ls (xI v :: st) S) : Ex mm d cb sb (M + 1, xs) Q pc ls (xI x :: xR (some (99, 0)) :: st) S := by
  intro _ p l e R s m args below meth c H locs cells slots D A al cA L Qf lsA hC hX hH hS hL ho hc hs hK
  subst hv
  have hX1 := hX.resolve_left (fun z => by cases z)
  exact va_sld (L := M) hC.1 hC.2.1 hX1.1 hX1.2.1 hX1.2.2 hS hin hd (kk () hC hX hH hS hL (xo_c xo_I (xo_t (xo_t ho))) hc hs hK)
theorem E_slen {M : Nat} {xs : Nat → Int32} {v : Int32} (hd : decode mm.2.1 pc = .ok (.arraylength, 1)) (hv : Int32.ofNat M = v)
    (kk : Ex mm d cb sb (M + 1, xs) Q (pc + 1) ls (xI v :: st) S) : Ex mm d cb sb (M + 1, xs) Q pc ls (xR (some (99, 0)) :: st) S := by
  intro _ p l e R s m args below meth c H locs cells slots D A al cA L Qf lsA hC hX hH hS hL ho hc hs hK
  subst hv
  have hX1 := hX.resolve_left (fun z => by cases z)
  exact va_slen (L := M) hC.1 hC.2.1 hX1.1 hX1.2.1 hX1.2.2 hS hd (kk () hC hX hH hS hL (xo_c xo_I (xo_t ho)) hc hs hK)
/-! what is made -/
theorem x_fresh {D : va_G} {A : Nat → Prop} {s : State} {al : Nat × Nat → Nat} {cA : Nat × Nat → ClassId} {L : List (Nat × Nat)} {H : Heap} {q : Nat × Nat} (hH : xH D A s al cA S L H) (h : gL S q.1 q.2 = none) : q ∉ L := fun z => (hH.2.2.1 q).mp z h
def x_up {α : Type} (f : Nat × Nat → α) (q : Nat × Nat) (v : α) : Nat × Nat → α := fun r => if r = q then v else f r
theorem x_up_self {α : Type} (f : Nat × Nat → α) (q : Nat × Nat) (v : α) : x_up f q v q = v := by simp [x_up]
theorem x_up_ne {α : Type} (f : Nat × Nat → α) {q r : Nat × Nat} (v : α) (h : r ≠ q) : x_up f q v r = f r := by simp [x_up, h]
theorem x_map_up {al : Nat × Nat → Nat} {q : Nat × Nat} {a : Nat} {r : Option (Nat × Nat)} (h : ∀ x, r = some x → x ≠ q) : r.map (x_up al q a) = r.map al := by
  cases r with
  | none => rfl
  | some x => simp [x_up, h x rfl]
/-- cells that are there stay as they are when one is made -/
theorem xe_push {D : va_G} {A : Nat → Prop} {s : State} {al : Nat × Nat → Nat} {cA : Nat × Nat → ClassId} {L : List (Nat × Nat)} {H : Heap} {k i n a : Nat} {cid : ClassId} (hH : xH D A s al cA S L H) (h : gL S k i = none) {r : Nat × Nat} (hr : r ∈ L) :
    xe (x_up al (k, i) a) (sN S k i n) (x_up cA (k, i) cid) r = xe al S cA r := by
  have hne : r ≠ (k, i) := fun z => x_fresh hH (q := (k, i)) h (z ▸ hr)
  have hkk : ¬ (r.1 = k ∧ r.2 = i) := fun z => hne (Prod.ext z.1 z.2)
  have e1 : ∀ j, gI (sN S k i n) r.1 r.2 j = gI S r.1 r.2 j := fun j => by rw [gI_sN, if_neg hkk]
  have e2 : ∀ j, gR (sN S k i n) r.1 r.2 j = gR S r.1 r.2 j := fun j => by rw [gR_sN, if_neg hkk]
  have e3 : gL (sN S k i n) r.1 r.2 = gL S r.1 r.2 := by rw [gL_sN, if_neg hkk]
  have e4 : ∀ j, (gR S r.1 r.2 j).map (x_up al (k, i) a) = (gR S r.1 r.2 j).map al := fun j => x_map_up (fun x hx z => by
    have := hH.2.2.2.1 r hr j x hx
    rw [z] at this
    exact this h)
  have e5 : xcf (x_up al (k, i) a) (sN S k i n) r = xcf al S r := by
    funext j
    simp only [xcf, e1, e2, e4]
  unfold xe
  rw [e5, e3, x_up_ne _ _ hne]
  simp only [e1, e2, e4]
theorem xH_push {D : va_G} {A : Nat → Prop} {s : State} {al : Nat × Nat → Nat} {cA : Nat × Nat → ClassId} {L : List (Nat × Nat)} {H H1 : Heap} {k i n a : Nat} {cid : ClassId} {e : va_E} (hH : xH D A s al cA S L H) (h : gL S k i = none) (he : e = xe (x_up al (k, i) a) (sN S k i n) (x_up cA (k, i) cid) (k, i))
    (hP : va_P D xCl (xw al S cA L ++ [(a, e)]) H1) (hD : va_D A (xw al S cA L ++ [(a, e)])) (ht : xCls k = false → ArrOfT s cid (xa k) ∧ va_RA s cid (xa k)) : xH D A s (x_up al (k, i) a) (x_up cA (k, i) cid) (sN S k i n) (L ++ [(k, i)]) H1 := by
  have hpush := xw_push (al := al) (al' := x_up al (k, i) a) (S := S) (S' := sN S k i n) (cA := cA) (cA' := x_up cA (k, i) cid) (L := L) (q := (k, i)) (a := a) (e := e) (x_up_self _ _ _) he (fun r hr => ⟨x_up_ne _ _ (fun z => x_fresh hH (q := (k, i)) h (z ▸ hr)), xe_push hH h hr⟩)
  rw [hpush] at hP hD
  refine ⟨hP, hD, fun q => ?_, fun q hq j r hr => ?_, fun q hq hc => ?_⟩
  · rw [List.mem_append, List.mem_singleton, gL_sN, hH.2.2.1]
    by_cases hq : q = (k, i)
    · subst hq; simp
    · have : ¬ (q.1 = k ∧ q.2 = i) := fun z => hq (Prod.ext z.1 z.2)
      simp [this, hq]
  · rw [gR_sN] at hr
    split at hr
    · cases hr
    · rename_i hne
      rw [gL_sN]
      split
      · simp
      · rcases List.mem_append.mp hq with hq | hq
        · exact hH.2.2.2.1 q hq j r hr
        · rw [List.mem_singleton] at hq
          subst hq
          exact absurd ⟨rfl, rfl⟩ hne
  · rcases List.mem_append.mp hq with hq | hq
    · have hne : q ≠ (k, i) := fun z => x_fresh hH (q := (k, i)) h (z ▸ hq)
      rw [x_up_ne _ _ hne]
      exact hH.2.2.2.2 q hq hc
    · rw [List.mem_singleton] at hq
      subst hq
      rw [x_up_self]
      exact ht hc
theorem xExt_push {al : Nat × Nat → Nat} {k i n a : Nat} (h : gL S k i = none) (h99 : k ≠ 99) : xExt S al (sN S k i n) (x_up al (k, i) a) := by
  intro q hq
  have hne : q ≠ (k, i) := by
    intro z; subst z
    rcases hq with hq | hq
    · exact hq h
    · exact h99 hq
  refine ⟨?_, x_up_ne _ _ hne⟩
  rcases hq with hq | hq
  · left
    rw [gL_sN]
    split
    · simp
    · exact hq
  · exact Or.inr hq
theorem xo_ext {al al' : Nat × Nat → Nat} {S' : xS} (h : xExt S al S' al') {v : xV} (ho : xo S v) : xo S' v ∧ xc al' v = xc al v := by
  refine ⟨fun q hq => (h q (ho q hq)).1, ?_⟩
  rcases v with x | r | x | x
  · rfl
  · cases r with
    | none => rfl
    | some q => show Value.ref (al' q) = Value.ref (al q); rw [(h q (ho q rfl)).2]
  · rfl
  · rfl
theorem xL_ext {al al' : Nat × Nat → Nat} {S' : xS} {nL : Nat} {lsA : Array Slot} (h : xExt S al S' al') (hL : xL al S nL lsA ls) : xL al' S' nL lsA ls :=
  ⟨hL.1, hL.2.1, hL.2.2.1, fun i v hv => ⟨by rw [(xo_ext h (hL.2.2.2 i v hv).2).2]; exact (hL.2.2.2 i v hv).1, (xo_ext h (hL.2.2.2 i v hv).2).1⟩⟩
theorem xst_ext {al al' : Nat × Nat → Nat} {S' : xS} (h : xExt S al S' al') (ho : ∀ v ∈ st, xo S v) : st.map (xc al') = st.map (xc al) := List.map_congr_left (fun v hv => (xo_ext h (ho v hv)).2)
theorem xK_ext {p : Program} {l : Launch} {e : Env} {R : Room} {s : State} {m : MethodId} {args : Array Value} {below : List Frame} {meth : Method} {c : Code} {D : va_G} {A : Nat → Prop} {al al' : Nat × Nat → Nat} {S' : xS} {Qf : State → Prop} (h : xExt S al S' al') (hK : xK mm Q p l e R s m args below meth c D A al S Qf) : xK mm Q p l e R s m args below meth c D A al' S' Qf :=
  fun v S2 al2 cA2 L2 H2 locs2 c2 s2 pc2 ls2 h1 h2 => hK v S2 al2 cA2 L2 H2 locs2 c2 s2 pc2 ls2 h1 (h.tr h2)
theorem xX_ext {al al' : Nat × Nat → Nat} {S' : xS} {A : Nat → Prop} {s : State} (h : xExt S al S' al') (hX : xX X al A s) : xX X al' A s := by
  have h9 := (h (99, 0) (Or.inr rfl)).2
  rcases hX with hX | hX
  · exact Or.inl hX
  · right; rw [h9]; exact hX
theorem E_new {idx ci k i n : Nat} {C : String} {T : u_T} (hd : decode mm.2.1 pc = .ok (.new idx, 3)) (hcl : Cond.classLink mm.1.cls idx C ∈ xT) (hci : xCl[ci]? = some (C, T, n)) (hk : xCls k = true) (hk2 : xk k = ci) (hi1 : Cond.instantiable C n ∈ xT) (hi2 : Cond.initialized C ∈ xT) (hfr : gL S k i = none)
    (hcb : 1 ≤ cb) (hsb : n ≤ sb)
    (kk : Ex mm d (cb - 1) (sb - n) X Q (pc + 3) ls (xR (some (k, i)) :: st) (sN S k i 0)) : Ex mm d cb sb X Q pc ls st S := by
  intro _ p l e R s m args below meth c H locs cells slots D A al cA L Qf lsA hC hX hH hS hL ho hc hs hK
  subst hk2
  obtain ⟨w1, ⟨ty0, w2⟩, w3, w4⟩ := xcls _ C T n hci
  refine va_new (C := C) (T := T) (N := n) (fs := (List.range n).map (fun j => if xr (xk k) j = true then Value.null else .int 0)) hC.1 hC.2.1 hC.2.2.2.2.2.1 w1 ty0 w2 hC.2.2.2.2.1 (hC.2.2.2.2.2.1 _ hcl) (hC.2.2.2.2.2.1 _ hi1) (hC.2.2.2.2.2.1 _ hi2) hC.2.2.2.2.2.2.2.2.1 hH.1 hH.2.1 hS hC.2.2.2.2.2.2.2.2.2.2.2.2 hci ?_ (by omega) (by omega) hd (fun q H1 hP1 hD1 hS1 => ?_)
  · intro j hj
    simp only [vp_V, List.getD_eq_getElem?_getD]
    rw [xmap_get hj]
    exact xdef _ C T n hci ty0 w2 j hj
  · have hext : xExt S al (sN S k i 0) (x_up al (k, i) q) := xExt_push hfr (x_cls99 hk)
    have hH2 : xH D A s (x_up al (k, i) q) (x_up cA (k, i) 0) (sN S k i 0) (L ++ [(k, i)]) H1 := by
      refine xH_push (n := 0) hH hfr ?_ hP1 hD1 (fun z => by rw [hk] at z; cases z)
      rw [xe_cls (q := (k, i)) hk]
      refine congrArg (fun z => Sum.inr (xk k, z)) ?_
      rw [← w4]
      apply List.map_congr_left
      intro j _
      simp [xcf, gI_sN, gR_sN, va_rf]
    have hkk := kk () hC (xX_ext hext hX) hH2 hS1 (xL_ext hext hL) (xo_c (fun r hr => by cases hr; left; rw [gL_sN]; simp) (fun v hv => (xo_ext hext (ho v hv)).1)) (cells := cells + 1) (slots := slots + n) (by omega) (by omega) (xK_ext hext hK)
    have e : (xR (some (k, i)) :: st).map (xc (x_up al (k, i) q)) = .ref q :: st.map (xc al) := by
      rw [List.map_cons, xst_ext hext ho]
      show va_rf (some (x_up al (k, i) q (k, i))) :: _ = _
      rw [x_up_self]
      rfl
    rw [e] at hkk
    exact hkk
theorem E_newa {k i n : Nat} {x : Int32} {at0 : ArrayType} {ty : FieldType} (hd : decode mm.2.1 pc = .ok (.newarray at0, 2)) (hty : newarray.typeOf at0 = ty) (hta : ty = .int ∨ ty = .boolean) (hw : Cond.arrayClass ty ∈ xT) (hk : xCls k = false) (hk2 : xa k = ty) (h99 : k ≠ 99) (hx : ¬ x < 0) (hn : x.toNatClampNeg = n) (hb : n ≤ 1000000) (hfr : gL S k i = none)
    (hcb : 1 ≤ cb) (hsb : n ≤ sb)
    (kk : Ex mm d (cb - 1) (sb - n) X Q (pc + 2) ls (xR (some (k, i)) :: st) (sN S k i n)) : Ex mm d cb sb X Q pc ls (xI x :: st) S := by
  intro _ p l e R s m args below meth c H locs cells slots D A al cA L Qf lsA hC hX hH hS hL ho hc hs hK
  have har : xar k = false := by rw [xar, hk2]; rcases hta with rfl | rfl <;> rfl
  refine va_newa (tys := []) (a0 := (n, .inl (fun _ => 0))) hC.1 hC.2.1 (by rw [hty]; exact hC.2.2.2.2.2.1 _ hw) hty hC.2.2.2.2.2.2.2.2.1 hH.1 hH.2.1 hS hC.2.2.2.2.2.2.2.2.2.2.2.2 ?_ hx hn ?_ (by omega) (by omega) hd (fun q cid H1 hK1 hP1 hD1 hS1 => ?_)
  · intro cid
    rcases hta with rfl | rfl <;> rfl
  · have : componentBytes ty ≤ 4 := by rcases hta with rfl | rfl <;> decide
    calc n * componentBytes ty ≤ 1000000 * 4 := Nat.mul_le_mul hb this
      _ ≤ 536870912 := by decide
  · have hext : xExt S al (sN S k i n) (x_up al (k, i) q) := xExt_push hfr h99
    have hH2 : xH D A s (x_up al (k, i) q) (x_up cA (k, i) cid) (sN S k i n) (L ++ [(k, i)]) H1 := by
      refine xH_push (n := n) hH hfr ?_ hP1 hD1 (fun _ => by rw [hk2]; exact hK1.2 0 (cid, ty) rfl)
      rw [xe_int (q := (k, i)) (n := n) hk har (by rw [gL_sN]; simp), x_up_self]
      congr 4
      funext j
      simp [gI_sN]
    have hkk := kk () hC (xX_ext hext hX) hH2 hS1 (xL_ext hext hL) (xo_c (fun r hr => by cases hr; left; rw [gL_sN]; simp) (fun v hv => (xo_ext hext (xo_t ho v hv)).1)) (cells := cells + 1) (slots := slots + n) (by omega) (by omega) (xK_ext hext hK)
    have e : (xR (some (k, i)) :: st).map (xc (x_up al (k, i) q)) = .ref q :: st.map (xc al) := by
      rw [List.map_cons, xst_ext hext (xo_t ho)]
      show va_rf (some (x_up al (k, i) q (k, i))) :: _ = _
      rw [x_up_self]
      rfl
    rw [e] at hkk
    exact hkk
theorem E_anew {idx k i n : Nat} {x : Int32} {C : String} (hd : decode mm.2.1 pc = .ok (.anewarray idx, 3)) (hcl : Cond.classLink mm.1.cls idx C ∈ xT) (hao : ∀ U, xN U → va_AO C U) (hk : xCls k = false) (hk2 : xa k = .object C) (h99 : k ≠ 99) (hx : ¬ x < 0) (hn : x.toNatClampNeg = n) (hb : n ≤ 1000000) (hfr : gL S k i = none)
    (hcb : 1 ≤ cb) (hsb : n ≤ sb)
    (kk : Ex mm d (cb - 1) (sb - n) X Q (pc + 3) ls (xR (some (k, i)) :: st) (sN S k i n)) : Ex mm d cb sb X Q pc ls (xI x :: st) S := by
  intro _ p l e R s m args below meth c H locs cells slots D A al cA L Qf lsA hC hX hH hS hL ho hc hs hK
  have har : xar k = true := by rw [xar, hk2]
  refine va_newq (tys := []) hC.1 hC.2.1 hC.2.2.2.2.1 (hC.2.2.2.2.2.1 _ hcl) (hao s hC.2.2.2.2.2.2.2.2.2.1) hC.2.2.2.2.2.2.2.2.1 hH.1 hH.2.1 hS hC.2.2.2.2.2.2.2.2.2.2.2.2 hx hn (by omega) (by omega) (by omega) hd (fun q cid H1 hK1 hP1 hD1 hS1 => ?_)
  have hext : xExt S al (sN S k i n) (x_up al (k, i) q) := xExt_push hfr h99
  have hH2 : xH D A s (x_up al (k, i) q) (x_up cA (k, i) cid) (sN S k i n) (L ++ [(k, i)]) H1 := by
    refine xH_push (n := n) hH hfr ?_ hP1 hD1 (fun _ => by rw [hk2]; exact hK1.2 0 (cid, .object C) rfl)
    rw [xe_ref (q := (k, i)) (n := n) hk har (by rw [gL_sN]; simp), x_up_self]
    congr 7
    funext j
    simp [gR_sN]
  have hkk := kk () hC (xX_ext hext hX) hH2 hS1 (xL_ext hext hL) (xo_c (fun r hr => by cases hr; left; rw [gL_sN]; simp) (fun v hv => (xo_ext hext (xo_t ho v hv)).1)) (cells := cells + 1) (slots := slots + n) (by omega) (by omega) (xK_ext hext hK)
  have e : (xR (some (k, i)) :: st).map (xc (x_up al (k, i) q)) = .ref q :: st.map (xc al) := by
    rw [List.map_cons, xst_ext hext (xo_t ho)]
    show va_rf (some (x_up al (k, i) q (k, i))) :: _ = _
    rw [x_up_self]
    rfl
  rw [e] at hkk
  exact hkk
end XR
