/-! floats: the range, the product's kind -/
theorem y_fnum (r : UInt32) (h : Jvm.FP.Core.val32 r ≠ .nan) : vf_n32 r := by
  unfold vf_n32
  rw [UInt32.le_iff_toNat_le, UInt32.toNat_and]
  have e : r.toNat &&& (0x7fffffff : UInt32).toNat = r.toNat % 2 ^ 31 := Nat.and_two_pow_sub_one_eq_mod r.toNat 31
  have e2 : (0x7f800000 : UInt32).toNat = 2139095040 := rfl
  rw [e, e2]
  apply Nat.le_of_not_lt
  intro c
  apply h
  show Jvm.FP.Core.decode Jvm.FP.Core.b32 r.toNat = .nan
  generalize r.toNat = n at *
  have t1 : Jvm.FP.Core.fieldE Jvm.FP.Core.b32 n = Jvm.FP.Core.b32.exps - 1 := by
    show n / 2 ^ 23 % 2 ^ 8 = 2 ^ 8 - 1
    omega
  have t2 : ¬ Jvm.FP.Core.fieldT Jvm.FP.Core.b32 n = 0 := by
    show ¬ n % 2 ^ 23 = 0
    omega
  unfold Jvm.FP.Core.decode
  rw [if_pos t1, if_neg t2]
theorem y_rnd (f : Jvm.FP.Core.Fmt) (d : Jvm.FP.Core.Datum) (h : d ≠ .nan) : Jvm.FP.Core.round f d ≠ .nan := by
  cases d with
  | nan => exact absurd rfl h
  | inf s => exact h
  | fin s c q =>
    show Jvm.FP.Core.roundRatio f s c 1 q ≠ .nan
    unfold Jvm.FP.Core.roundRatio
    split
    · intro z; cases z
    · unfold Jvm.FP.Core.roundAt Jvm.FP.Core.settle Jvm.FP.Core.bound
      split <;> split <;> (intro z; cases z)
/-- no product of a number and one that is finite and not zero is a NaN -/
theorem y_fmul (v w : UInt32) {s : Bool} {c : Nat} {q : Int} (hv : Jvm.FP.Core.val32 v ≠ .nan) (hw : Jvm.FP.Core.val32 w = .fin s c q) (hc : c ≠ 0) : vf_n32 (FP.fmul v w) := by
  apply y_fnum
  show Jvm.FP.Core.val32 (Jvm.FP.Core.fmul v w) ≠ .nan
  rw [Jvm.FP.Core.val32_fmul]
  apply y_rnd
  rw [hw]
  cases e : Jvm.FP.Core.val32 v with
  | nan => exact absurd e hv
  | inf t =>
    show (if c = 0 then Jvm.FP.Core.Datum.nan else .inf (t != s)) ≠ .nan
    rw [if_neg hc]
    intro z; cases z
  | fin t d r => intro z; cases z
theorem y_100 : Jvm.FP.Core.val32 1120403456 = .fin false 13107200 (-17) := by decide
theorem y_fmul100 (v : UInt32) (hv : Jvm.FP.Core.val32 v ≠ .nan) : vf_n32 (FP.fmul v 1120403456) := y_fmul v _ hv y_100 (by decide)
/-- the order with a number is always some -/
theorem y_fcmp (v w : UInt32) {s : Bool} {c : Nat} {q : Int} (hv : Jvm.FP.Core.val32 v ≠ .nan) (hw : Jvm.FP.Core.val32 w = .fin s c q) : ∃ o, FP.fcmp v w = some o := by
  show ∃ o, Jvm.FP.Core.order (Jvm.FP.Core.val32 v) (Jvm.FP.Core.val32 w) = some o
  rw [hw]
  cases e : Jvm.FP.Core.val32 v with
  | nan => exact absurd e hv
  | inf t => exact ⟨_, rfl⟩
  | fin t d r => exact ⟨_, rfl⟩
theorem y_fnan (v w : UInt32) (hv : Jvm.FP.Core.val32 v = .nan) : FP.fcmp v w = none := by
  show Jvm.FP.Core.order (Jvm.FP.Core.val32 v) (Jvm.FP.Core.val32 w) = none
  rw [hv]
  rfl
theorem y_fself (v : UInt32) (hv : Jvm.FP.Core.val32 v ≠ .nan) : FP.fcmp v v = some .eq := by
  show Jvm.FP.Core.order (Jvm.FP.Core.val32 v) (Jvm.FP.Core.val32 v) = some .eq
  cases e : Jvm.FP.Core.val32 v with
  | nan => exact absurd e hv
  | inf t => cases t <;> rfl
  | fin t d r =>
    show some (compare _ _) = some _
    rw [Std.ReflOrd.compare_self]
theorem y_1000 : Jvm.FP.Core.val32 1148846080 = .fin false 16384000 (-14) := by decide
theorem y_m1000 : Jvm.FP.Core.val32 3296329728 = .fin true 16384000 (-14) := by decide
def xrng (v : UInt32) : Prop := ¬ Op.cmpValue (FP.fcmp v 3296329728) .l < 0 ∧ Op.cmpValue (FP.fcmp v 1148846080) .g ≤ 0
theorem xrng_num (v : UInt32) (h : xrng v) : Jvm.FP.Core.val32 v ≠ .nan := by
  intro z
  apply h.1
  rw [y_fnan v _ z]
  decide
theorem xrng_x (v : UInt32) : (Op.cmpValue (FP.fcmp v v) .l = 0 ∧ Op.cmpValue (FP.fcmp v 1148846080) .l ≤ 0 ∧ ¬ Op.cmpValue (FP.fcmp v 3296329728) .g < 0) ↔ xrng v := by
  by_cases z : Jvm.FP.Core.val32 v = .nan
  · unfold xrng
    rw [y_fnan v _ z, y_fnan v _ z, y_fnan v _ z]
    decide
  · obtain ⟨a, ha⟩ := y_fcmp v _ z y_1000
    obtain ⟨b, hb⟩ := y_fcmp v _ z y_m1000
    unfold xrng
    rw [ha, hb, y_fself v z]
    cases a <;> cases b <;> decide
section VMe
variable {S : xS} {n T C : Nat} {nP : Nat → Nat}
theorem a_measure (h : vI S n T C nP) (p i : Int32) (v : UInt32) : xAPI mX8_measure 4 0 0 mX9_measure 3 [xI p, xI i, xF v] S := by
  rcases vpool_cases h p with ⟨h1, h2⟩ | ⟨P, hP, rfl, h1, h2, h3, h4, h5, h6, h7⟩
  · exact xAPI_eq (c_measure_n p i v (c_thingOf_n h.X p i h1)) (c_r_measure_n h.M p h2 i v) rfl h.i
  · by_cases hi : 0 ≤ i ∧ i ≤ 2
    · obtain ⟨k, hk, rfl⟩ := nI_of2 (n := 2) rfl (Int32.not_lt.mpr hi.1) hi.2
      have hk3 : k < 3 := by omega
      have ht := c_thingOf_s h.X (nI P) h1 h3.2.2.1 hk3
      by_cases e : xrng v
      · have hn := y_fmul100 v (xrng_num v e)
        have a1 := c_measure_s (nI P) (nI k) v ht ((xrng_x v).mpr e) hn
        have a2 : ∀ S2 : xS, S2.2 = S.2 → (gI S2 51 0 P) = (gI S 51 0 P) → _ := fun S2 g1 g2 => c_r_measure_s (S := S2) (xShM_2 h.M g1) hP (by rw [g2]; exact h2) v hk3 e hn
        generalize FP.f2i (FP.fmul v 1120403456) = A at a1 a2
        refine xAPI_of a1 (a2 _ rfl rfl) ⟨n, T, C, nP, h.X, h.M, h.s, ?_, h.t, h.c, h.l, h.u⟩
        intro q hq
        by_cases hqP : q = P
        · subst hqP
          refine Or.inr ⟨h3, h4, ?_, h6, h7⟩
          intro j hj
          obtain ⟨t1, t2, t3, t4, t5⟩ := h5 j hj
          by_cases hjk : j = k
          · subst hjk
            refine ⟨t1, t2, ?_, ?_, ?_⟩
            · simp [gI_sI]
            · simp [gI_sI]
              exact h.now
            · simp [gI_sI]
          · refine ⟨t1, t2, ?_, ?_, ?_⟩
            · simp [gI_sI, hjk]; exact t3
            · simp [gI_sI, hjk]; exact t4
            · simp [gI_sI, hjk]; exact t5
        · refine vPool_cong (S := S) rfl ?_ (fun t ht => ⟨rfl, rfl, rfl⟩) (h.p q hq)
          refine ⟨fun j => ?_, fun j => ?_, fun i hi j => ?_, fun i hi j => ?_, fun k hk => ?_, fun k hk i hi => ?_⟩ <;> (simp only [gI_sI]; repeat rw [if_neg (by omega)])
      · exact xAPI_eq (c_measure_o (nI P) (nI k) v ht (fun z => e ((xrng_x v).mp z))) (c_r_measure_x h.M hP h2 v hk3 e) rfl h.i
    · exact xAPI_eq (c_measure_n (nI P) i v (c_thingOf_o h.X (nI P) i h1 hi)) (c_r_measure_o h.M hP h2 i v hi) rfl h.i
end VMe
