/-! sets of events, as the bits of a long -/
def nJ (M : Nat) : Int64 := Int64.ofNat M
def nS (f : Nat → Bool) : Nat → Nat
  | 0 => 0
  | n + 1 => nS f n ||| (if f n = true then 2 ^ n else 0)
theorem nS_bit (f : Nat → Bool) : ∀ n e, (nS f n).testBit e = (decide (e < n) && f e)
  | 0, e => by simp [nS]
  | n + 1, e => by
    unfold nS
    rw [Nat.testBit_or, nS_bit f n e]
    by_cases h : e = n
    · subst h
      cases hf : f e <;> simp [hf, Nat.testBit_two_pow]
    · cases hf : f n
      · by_cases h2 : e < n
        · simp [h2, show e < n + 1 by omega]
        · simp [h2, show ¬ e < n + 1 by omega]
      · by_cases h2 : e < n
        · simp [h2, show e < n + 1 by omega, Nat.testBit_two_pow, show ¬ n = e by omega]
        · simp [h2, show ¬ e < n + 1 by omega, Nat.testBit_two_pow, show ¬ n = e by omega]
theorem nS_lt (f : Nat → Bool) : ∀ n, nS f n < 2 ^ n
  | 0 => by simp [nS]
  | n + 1 => by
    have h := nS_lt f n
    have h2 : (2 : Nat) ^ n < 2 ^ (n + 1) := Nat.pow_lt_pow_right (by decide) (Nat.lt_succ_self _)
    unfold nS
    refine Nat.or_lt_two_pow (by omega) ?_
    split
    · exact h2
    · exact Nat.two_pow_pos _
/-- the set of the events below 60 that have it -/
def kS (f : Nat → Bool) : Int64 := nJ (nS f 60)
theorem nJ_bv (M : Nat) : (nJ M).toBitVec = BitVec.ofNat 64 M := rfl
theorem kS_bit (f : Nat → Bool) (i : Nat) : (kS f).toBitVec.getLsbD i = (decide (i < 60) && f i) := by
  unfold kS
  rw [nJ_bv, BitVec.getLsbD_ofNat, nS_bit]
  by_cases h : i < 60
  · simp [h, show i < 64 by omega]
  · simp [h]
theorem kS_ext {x : Int64} {f : Nat → Bool} (h : ∀ i, i < 64 → x.toBitVec.getLsbD i = (decide (i < 60) && f i)) : x = kS f := by
  apply Int64.toBitVec_inj.mp
  apply BitVec.eq_of_getLsbD_eq
  intro i hi
  rw [h i hi, kS_bit]
theorem kS_or (f g : Nat → Bool) : kS f ||| kS g = kS (fun e => f e || g e) := by
  refine kS_ext (fun i hi => ?_)
  rw [Int64.toBitVec_or, BitVec.getLsbD_or, kS_bit, kS_bit]
  cases decide (i < 60) <;> simp
theorem kS_and (f g : Nat → Bool) : kS f &&& kS g = kS (fun e => f e && g e) := by
  refine kS_ext (fun i hi => ?_)
  rw [Int64.toBitVec_and, BitVec.getLsbD_and, kS_bit, kS_bit]
  cases decide (i < 60) <;> simp
theorem kS_xor (f g : Nat → Bool) : kS f ^^^ kS g = kS (fun e => f e ^^ g e) := by
  refine kS_ext (fun i hi => ?_)
  rw [Int64.toBitVec_xor, BitVec.getLsbD_xor, kS_bit, kS_bit]
  cases decide (i < 60) <;> simp
theorem nJ_m1 : (-1 : Int64).toBitVec = BitVec.allOnes 64 := by decide +kernel
theorem kS_dif (f g : Nat → Bool) : kS f &&& (kS g ^^^ (-1 : Int64)) = kS (fun e => f e && !g e) := by
  refine kS_ext (fun i hi => ?_)
  rw [Int64.toBitVec_and, BitVec.getLsbD_and, Int64.toBitVec_xor, BitVec.getLsbD_xor, nJ_m1, BitVec.getLsbD_allOnes, kS_bit, kS_bit]
  cases h : decide (i < 60) <;> simp [hi]
theorem kS_0 : nJ 0 = kS (fun _ => false) := by
  refine kS_ext (fun i hi => ?_)
  rw [nJ_bv, BitVec.getLsbD_ofNat]
  simp
theorem kS_1 : ∀ e, e < 60 → nJ 1 <<< ((nI e).toInt64 &&& 63) = nJ (2 ^ e) := by decide +kernel
theorem kS_one {e : Nat} (he : e < 60) : nJ 1 <<< ((nI e).toInt64 &&& 63) = kS (fun j => decide (j = e)) := by
  rw [kS_1 e he]
  refine kS_ext (fun i hi => ?_)
  rw [nJ_bv, BitVec.getLsbD_ofNat, Nat.testBit_two_pow]
  by_cases h : e = i
  · subst h
    simp [he, show e < 64 by omega]
  · simp [h, show ¬ i = e by omega]
theorem kS_add (f : Nat → Bool) {e : Nat} (he : e < 60) : kS f ||| (nJ 1 <<< ((nI e).toInt64 &&& 63)) = kS (fun j => f j || decide (j = e)) := by
  rw [kS_one he, kS_or]
theorem kS_sh : ∀ e, e < 60 → ((nI e).toInt64 &&& 63) = Int64.ofNat e := by decide +kernel
theorem kS_al : ∀ n, n < 61 → (nJ 1 <<< ((nI n).toInt64 &&& 63)) - nJ 1 = nJ (2 ^ n - 1) := by decide +kernel
theorem kS_all {n : Nat} (hn : n ≤ 60) : (nJ 1 <<< ((nI n).toInt64 &&& 63)) - nJ 1 = kS (fun j => decide (j < n)) := by
  rw [kS_al n (by omega)]
  refine kS_ext (fun i hi => ?_)
  rw [nJ_bv, BitVec.getLsbD_ofNat, Nat.testBit_two_pow_sub_one]
  by_cases h : i < n
  · simp [h, show i < 60 by omega, hi]
  · simp [h]
theorem kS_eq (f g : Nat → Bool) : kS f = kS g ↔ ∀ e, e < 60 → f e = g e := by
  constructor
  · intro h e he
    have h1 := kS_bit f e
    rw [h, kS_bit] at h1
    simp [he] at h1
    exact h1.symm
  · intro h
    refine kS_ext (fun i hi => ?_)
    rw [kS_bit]
    by_cases hc : i < 60
    · simp [hc, h i hc]
    · simp [hc]
theorem kS_cg {f g : Nat → Bool} (h : ∀ e, e < 60 → f e = g e) : kS f = kS g := (kS_eq f g).mpr h
theorem kS_msb (f : Nat → Bool) : (kS f).toBitVec.msb = false := by
  rw [BitVec.msb_eq_getLsbD_last, kS_bit]
  rfl
theorem nJ_si : ∀ e, e < 60 → ((Int64.ofNat e).toBitVec.smod 64).toNat = e := by decide +kernel
/-- one event of a set -/
theorem kS_has (f : Nat → Bool) {e : Nat} (he : e < 60) : (kS f >>> ((nI e).toInt64 &&& 63)) &&& nJ 1 = nJ (if f e = true then 1 else 0) := by
  rw [kS_sh e he]
  apply Int64.toBitVec_inj.mp
  apply BitVec.eq_of_getLsbD_eq
  intro i hi
  rw [Int64.toBitVec_and, BitVec.getLsbD_and, Int64.toBitVec_shiftRight, BitVec.sshiftRight_eq', BitVec.getLsbD_sshiftRight, nJ_si e he, kS_msb, nJ_bv, nJ_bv, BitVec.getLsbD_ofNat, BitVec.getLsbD_ofNat]
  by_cases h0 : i = 0
  · subst h0
    rw [kS_bit]
    cases hf : f e <;> simp [he, hf, show e < 64 by omega]
  · have h1 : Nat.testBit 1 i = false := by
      rw [show (1 : Nat) = 2 ^ 0 from rfl, Nat.testBit_two_pow]
      exact decide_eq_false (by omega)
    rw [h1]
    cases f e <;> simp [h1]
