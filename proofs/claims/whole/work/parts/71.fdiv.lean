/-! ===== a share of two counts is a number ===== -/
theorem kf_bits (r : UInt32) (h : Jvm.FP.Core.val32 r ≠ .nan) : vf_n32 r := by
  unfold vf_n32
  apply UInt32.le_iff_toNat_le.mpr
  rw [UInt32.toNat_and, show (0x7fffffff : UInt32).toNat = 2 ^ 31 - 1 from rfl, Nat.and_two_pow_sub_one_eq_mod]
  show r.toNat % 2 ^ 31 ≤ 0x7f800000
  refine Nat.le_of_not_lt (fun hlt => h ?_)
  show Jvm.FP.Core.decode Jvm.FP.Core.b32 r.toNat = .nan
  have e1 : Jvm.FP.Core.fieldE Jvm.FP.Core.b32 r.toNat = r.toNat / 2 ^ 23 % 2 ^ 8 := rfl
  have e2 : Jvm.FP.Core.fieldT Jvm.FP.Core.b32 r.toNat = r.toNat % 2 ^ 23 := rfl
  have e3 : Jvm.FP.Core.b32.exps - 1 = 255 := by decide
  unfold Jvm.FP.Core.decode
  rw [e1, e2, e3, if_pos (by omega), if_neg (by omega)]
theorem kf_num {f : Jvm.FP.Core.Fmt} {s : Bool} {n d : Nat} {e : Int} : Jvm.FP.Core.roundRatio f s n d e ≠ .nan := by
  unfold Jvm.FP.Core.roundRatio Jvm.FP.Core.roundAt Jvm.FP.Core.settle Jvm.FP.Core.bound
  split
  · exact fun h => by cases h
  · split
    · split
      · exact fun h => by cases h
      · exact fun h => by cases h
    · split
      · exact fun h => by cases h
      · exact fun h => by cases h
theorem kf_div {x y : Nat} (hx : x ≤ 2 ^ 24) (hy : y ≤ 2 ^ 24) (h0 : 0 < y) : vf_n32 (FP.fdiv (FP.i2f (nI x)) (FP.i2f (nI y))) := by
  have a1 := Jvm.FP.Core.i2f_int (a := nI x) (by rw [nI_toInt (by omega)]; omega)
  have a2 := Jvm.FP.Core.i2f_int (a := nI y) (by rw [nI_toInt (by omega)]; omega)
  apply kf_bits
  rw [show Jvm.FP.Core.val32 (FP.fdiv (FP.i2f (nI x)) (FP.i2f (nI y))) = _ from Jvm.FP.Core.val32_fdiv _ _]
  unfold Jvm.FP.Core.FInt at a1 a2
  generalize Jvm.FP.Core.val32 (FP.i2f (nI x)) = d1 at a1
  generalize hd2 : Jvm.FP.Core.val32 (FP.i2f (nI y)) = d2 at a2
  match d1, a1, d2, a2 with
  | .fin s1 c1 q1, _, .fin s2 c2 q2, a2 =>
    have hc : c2 ≠ 0 := by
      intro hc
      subst hc
      have a2 : Jvm.FP.Core.signed s2 (0 * 2 ^ q2.toNat) = (nI y).toInt * ((2 ^ (-q2).toNat : Nat) : Int) := a2
      rw [Nat.zero_mul, nI_toInt (by omega)] at a2
      have h1 : (Jvm.FP.Core.signed s2 0 : Int) = 0 := by unfold Jvm.FP.Core.signed; cases s2 <;> rfl
      rw [h1] at a2
      have h2 : (0 : Int) < ((2 ^ (-q2).toNat : Nat) : Int) := by
        have : 0 < 2 ^ (-q2).toNat := Nat.two_pow_pos _
        omega
      rcases Int.mul_eq_zero.mp a2.symm with h3 | h3 <;> omega
    show (if c2 = 0 then _ else _) ≠ _
    rw [if_neg hc]
    exact kf_num
