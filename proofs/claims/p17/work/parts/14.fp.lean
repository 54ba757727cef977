section Fp0
def fOK (x : UInt32) : Prop := Jvm.FP.Core.val32 x ≠ .nan
def dOK (x : UInt64) : Prop := Jvm.FP.Core.val64 x ≠ .nan
/-- what a number of a kind holds: never a NaN -/
def NumOK (k : Int32) (v : Int64) : Prop := (k.toInt = 6 → fOK v.toInt32.toUInt32) ∧ (k.toInt = 7 → dOK v.toUInt64)
theorem round_ne {f : Jvm.FP.Core.Fmt} {d : Jvm.FP.Core.Datum} (h : d ≠ .nan) : Jvm.FP.Core.round f d ≠ .nan := by
  cases d with
  | nan => exact absurd rfl h
  | inf s => intro q; cases q
  | fin s c q =>
    show Jvm.FP.Core.roundRatio f s c 1 q ≠ .nan
    unfold Jvm.FP.Core.roundRatio
    split
    · intro q; cases q
    · unfold Jvm.FP.Core.roundAt Jvm.FP.Core.settle Jvm.FP.Core.bound
      repeat' split
      all_goals (intro q; cases q)
theorem l2f_ok (x : Int64) : fOK (FP.l2f x) := by
  unfold fOK
  rw [show FP.l2f x = Jvm.FP.Core.l2f x from rfl, Jvm.FP.Core.val32_l2f]
  exact round_ne (by intro q; cases q)
theorem l2d_ok (x : Int64) : dOK (FP.l2d x) := by
  unfold dOK
  rw [show FP.l2d x = Jvm.FP.Core.l2d x from rfl, Jvm.FP.Core.val64_l2d]
  exact round_ne (by intro q; cases q)
theorem fOK_nan {x : UInt32} (h : fOK x) : FP.fIsNaN x = false := by
  show decide (Jvm.FP.Core.decode Jvm.FP.Core.b32 x.toNat = .nan) = false
  exact decide_eq_false h
theorem dOK_of {x : UInt64} (h : FP.dIsNaN x = false) : dOK x := by
  have h2 : decide (Jvm.FP.Core.decode Jvm.FP.Core.b64 x.toNat = .nan) = false := h
  exact of_decide_eq_false h2
theorem f2d_ok {x : UInt32} (h : fOK x) : dOK (FP.f2d x) := dOK_of ((FP.f2d_nan x).trans (fOK_nan h))
theorem and31 (x : UInt32) : (x &&& 0x7fffffff).toNat = x.toNat % 2147483648 := by
  rw [UInt32.toNat_and]
  exact Nat.and_two_pow_sub_one_eq_mod x.toNat 31
theorem and63 (x : UInt64) : (x &&& 0x7fffffffffffffff).toNat = x.toNat % 9223372036854775808 := by
  rw [UInt64.toNat_and]
  exact Nat.and_two_pow_sub_one_eq_mod x.toNat 63
theorem fOK_n {x : UInt32} (h : fOK x) : vf_n32 x := by
  unfold vf_n32
  rw [UInt32.le_iff_toNat_le, and31]
  show x.toNat % 2147483648 ≤ 2139095040
  refine Nat.not_lt.mp fun q => h ?_
  have hE : Jvm.FP.Core.fieldE Jvm.FP.Core.b32 x.toNat = 255 := by
    show x.toNat / 8388608 % 256 = 255
    omega
  have hT : ¬ Jvm.FP.Core.fieldT Jvm.FP.Core.b32 x.toNat = 0 := by
    show ¬ x.toNat % 8388608 = 0
    omega
  show Jvm.FP.Core.decode Jvm.FP.Core.b32 x.toNat = .nan
  unfold Jvm.FP.Core.decode
  rw [if_pos (by rw [hE]; rfl), if_neg hT]
theorem dOK_n {x : UInt64} (h : dOK x) : vf_n64 x := by
  unfold vf_n64
  rw [UInt64.le_iff_toNat_le, and63]
  show x.toNat % 9223372036854775808 ≤ 9218868437227405312
  refine Nat.not_lt.mp fun q => h ?_
  have hE : Jvm.FP.Core.fieldE Jvm.FP.Core.b64 x.toNat = 2047 := by
    show x.toNat / 4503599627370496 % 2048 = 2047
    omega
  have hT : ¬ Jvm.FP.Core.fieldT Jvm.FP.Core.b64 x.toNat = 0 := by
    show ¬ x.toNat % 4503599627370496 = 0
    omega
  show Jvm.FP.Core.decode Jvm.FP.Core.b64 x.toNat = .nan
  unfold Jvm.FP.Core.decode
  rw [if_pos (by rw [hE]; rfl), if_neg hT]
theorem fOK_s {b : Int32} (h : fOK b.toUInt32) : vn_sni2f b = false := by
  have h1 : ¬ (b.toUInt32 &&& 0x7fffffff > 0x7f800000) := by
    have h2 := fOK_n h
    unfold vf_n32 at h2
    rw [UInt32.le_iff_toNat_le] at h2
    intro q
    have q2 := UInt32.lt_iff_toNat_lt.mp q
    omega
  unfold vn_sni2f
  rw [decide_eq_false h1]; rfl
theorem dOK_s {b : Int64} (h : dOK b.toUInt64) : vn_snl2d b = false := by
  have h1 : ¬ (b.toUInt64 &&& 0x7fffffffffffffff > 0x7ff0000000000000) := by
    have h2 := dOK_n h
    unfold vf_n64 at h2
    rw [UInt64.le_iff_toNat_le] at h2
    intro q
    have q2 := UInt64.lt_iff_toNat_lt.mp q
    omega
  unfold vn_snl2d
  rw [decide_eq_false h1]; rfl
theorem fcmp0 {x : UInt32} {z : Int32} (h : fOK x) (e : z = Op.cmpValue (FP.fcmp x x) .l) : z.toInt = 0 := by
  rw [e, show FP.fcmp x x = some .eq from Jvm.FP.Core.fcmp_self h]; rfl
theorem dcmp0 {x : UInt64} {z : Int32} (h : dOK x) (e : z = Op.cmpValue (FP.dcmp x x) .l) : z.toInt = 0 := by
  rw [e, show FP.dcmp x x = some .eq from Jvm.FP.Core.dcmp_self h]; rfl
theorem NumOK.low {k : Int32} {v : Int64} (h6 : k.toInt ≠ 6) (h7 : k.toInt ≠ 7) : NumOK k v := ⟨fun h => absurd h h6, fun h => absurd h h7⟩
theorem NumOK.eq {k j : Int32} {v : Int64} (h : NumOK k v) (e : k.toInt = j.toInt) : NumOK j v := by
  rw [show j = k from (iEq.mpr e).symm]; exact h
theorem NumOK.f {k : Int32} {v : Int64} {x : UInt32} (hk : k.toInt = 6) (hx : fOK x) (e : v = x.toInt32.toInt64) : NumOK k v := by
  refine ⟨fun _ => ?_, fun h => absurd h (by omega)⟩
  rw [e, Int32.toInt32_toInt64]
  exact hx
theorem NumOK.d {k : Int32} {v : Int64} {x : UInt64} (hk : k.toInt ≠ 6) (hx : dOK x) (e : v = x.toInt64) : NumOK k v := by
  refine ⟨fun h => absurd h hk, fun _ => ?_⟩
  rw [e]
  exact hx
theorem NumOK.z (k : Int32) : NumOK k 0 := ⟨fun _ => by unfold fOK; decide +kernel, fun _ => by unfold dOK; decide +kernel⟩
end Fp0
