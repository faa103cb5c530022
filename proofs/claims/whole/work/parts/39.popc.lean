/-! how many bits -/
theorem nJ_add (a b : Nat) : nJ a + nJ b = nJ (a + b) := by
  apply Int64.toBitVec_inj.mp
  rw [Int64.toBitVec_add, nJ_bv, nJ_bv, nJ_bv, BitVec.ofNat_add]
theorem nJ_and (a b : Nat) : nJ a &&& nJ b = nJ (a &&& b) := by
  apply Int64.toBitVec_inj.mp
  rw [Int64.toBitVec_and, nJ_bv, nJ_bv, nJ_bv, BitVec.ofNat_and]
theorem nJ_sub {a b : Nat} (h : b ≤ a) : nJ a - nJ b = nJ (a - b) := by
  have h2 : nJ a = nJ (a - b) + nJ b := by rw [nJ_add, Nat.sub_add_cancel h]
  rw [h2]
  exact Int64.add_sub_cancel _ _
theorem nJ_us : ∀ k, k < 60 → ((nI k).toInt64.toUInt64 &&& Int64.toUInt64 63) = UInt64.ofNat k := by decide +kernel
theorem nJ_um : ∀ k, k < 60 → (UInt64.ofNat k).toBitVec.toNat % 64 = k := by decide +kernel
theorem nJ_ushr {a k : Nat} (ha : a < 18446744073709551616) (hk : k < 60) : ((nJ a).toUInt64 >>> ((nI k).toInt64.toUInt64 &&& Int64.toUInt64 63)).toInt64 = nJ (a / 2 ^ k) := by
  rw [nJ_us k hk]
  apply Int64.toBitVec_inj.mp
  apply BitVec.eq_of_toNat_eq
  show ((nJ a).toUInt64 >>> UInt64.ofNat k).toBitVec.toNat = (nJ (a / 2 ^ k)).toBitVec.toNat
  rw [UInt64.toBitVec_shiftRight]
  show ((nJ a).toBitVec >>> ((UInt64.ofNat k).toBitVec % 64)).toNat = _
  rw [BitVec.ushiftRight_eq', BitVec.toNat_ushiftRight, nJ_bv, nJ_bv, BitVec.toNat_ofNat, BitVec.toNat_ofNat, BitVec.toNat_umod, Nat.shiftRight_eq_div_pow]
  have h1 : (UInt64.ofNat k).toBitVec.toNat % (64 : BitVec 64).toNat = k := nJ_um k hk
  rw [h1, Nat.mod_eq_of_lt ha, Nat.mod_eq_of_lt (Nat.lt_of_le_of_lt (Nat.div_le_self _ _) ha)]
theorem nJ_l2i (a : Nat) : (nJ a).toInt32 &&& nI 127 = nI (a % 128) := by
  apply Int32.toBitVec_inj.mp
  apply BitVec.eq_of_toNat_eq
  rw [Int32.toBitVec_and]
  show ((BitVec.ofNat 64 a).signExtend 32 &&& BitVec.ofNat 32 127).toNat = (BitVec.ofNat 32 (a % 128)).toNat
  rw [BitVec.signExtend_eq_setWidth_of_le _ (by decide), BitVec.toNat_and, BitVec.toNat_setWidth, BitVec.toNat_ofNat, BitVec.toNat_ofNat, BitVec.toNat_ofNat]
  rw [show 127 % 2 ^ 32 = 2 ^ 7 - 1 from rfl, Nat.and_two_pow_sub_one_eq_mod]
  omega
theorem land_d {q r M s : Nat} (hr : r < 256) (hs : s < 256) : (q * 256 + r) &&& (M * 256 + s) = (q &&& M) * 256 + (r &&& s) := by
  have h8 : (256 : Nat) = 2 ^ 8 := rfl
  have hrs : r &&& s < 256 := Nat.lt_of_le_of_lt Nat.and_le_left hr
  apply Nat.eq_of_testBit_eq
  intro i
  rw [Nat.testBit_and, Nat.mul_comm q, Nat.mul_comm M, Nat.mul_comm (q &&& M), h8, Nat.testBit_two_pow_mul_add _ hr, Nat.testBit_two_pow_mul_add _ hs, Nat.testBit_two_pow_mul_add _ hrs]
  split
  · rw [Nat.testBit_and]
  · rw [Nat.testBit_and]
def pmk (s : Nat) : Nat → Nat
  | 0 => 0
  | k + 1 => pmk s k * 256 + s
def pA1 (m M : Nat) : Nat := M - ((M / 2) &&& m)
def pA2 (m M : Nat) : Nat := (M &&& m) + ((M / 4) &&& m)
def pA3 (m M : Nat) : Nat := (M + M / 16) &&& m
def pc8 (r : Nat) : Nat := xct (fun j => r.testBit j) 8
theorem pf1 : ∀ c, c < 2 → ∀ r, r < 256 → (c * 128 + r / 2) &&& 85 = (r / 2) &&& 85 := by decide +kernel
theorem pf2 : ∀ c, c < 4 → ∀ r, r < 256 → (c * 64 + r / 4) &&& 51 = (r / 4) &&& 51 := by decide +kernel
theorem pf3 : ∀ r, r < 256 → pA1 85 r < 256 ∧ pA2 51 (pA1 85 r) % 16 ≤ 4 ∧ pA2 51 (pA1 85 r) ≤ 68 := by decide +kernel
theorem pf4 : ∀ c, c < 5 → ∀ r, r < 256 → (pA2 51 (pA1 85 r) + c * 16 + pA2 51 (pA1 85 r) / 16) &&& 15 = pc8 r := by decide +kernel
theorem pA1_d {m q r : Nat} (hr : r < 256) : pA1 (m * 256 + 85) (q * 256 + r) = pA1 m q * 256 + pA1 85 r := by
  have h1 : (q * 256 + r) / 2 = (q / 2) * 256 + ((q % 2) * 128 + r / 2) := by omega
  have h2 : (q / 2) &&& m ≤ q / 2 := Nat.and_le_left
  have h3 : (r / 2) &&& 85 ≤ r / 2 := Nat.and_le_left
  unfold pA1
  rw [h1, land_d (by omega) (by omega), pf1 _ (by omega) _ hr]
  omega
theorem pA2_d {m q r : Nat} (hr : r < 256) : pA2 (m * 256 + 51) (q * 256 + r) = pA2 m q * 256 + pA2 51 r := by
  have h1 : (q * 256 + r) / 4 = (q / 4) * 256 + ((q % 4) * 64 + r / 4) := by omega
  unfold pA2
  rw [h1, land_d (by omega) (by omega), land_d (by omega) (by omega), pf2 _ (by omega) _ hr]
  omega
def pT (k M : Nat) : Nat := pA2 (pmk 51 k) (pA1 (pmk 85 k) M)
theorem pT_d {k q r : Nat} (hr : r < 256) : pT (k + 1) (q * 256 + r) = pT k q * 256 + pA2 51 (pA1 85 r) := by
  unfold pT
  rw [show pmk 85 (k + 1) = pmk 85 k * 256 + 85 from rfl, show pmk 51 (k + 1) = pmk 51 k * 256 + 51 from rfl, pA1_d hr, pA2_d (pf3 r hr).1]
theorem pT_16 (k q : Nat) : pT k q % 16 ≤ 4 := by
  cases k with
  | zero => simp [pT, pA2, pmk]
  | succ k =>
    have h := pT_d (k := k) (q := q / 256) (r := q % 256) (Nat.mod_lt _ (by decide))
    rw [show q / 256 * 256 + q % 256 = q by omega] at h
    rw [h]
    have h2 := (pf3 (q % 256) (Nat.mod_lt _ (by decide))).2.1
    omega
def pC : Nat → Nat → Nat
  | 0, _ => 0
  | k + 1, M => pC k (M / 256) * 256 + pc8 (M % 256)
theorem pA3_C : ∀ k M, pA3 (pmk 15 k) (pT k M) = pC k M
  | 0, M => by simp [pA3, pmk, pC]
  | k + 1, M => by
    have hr : M % 256 < 256 := Nat.mod_lt _ (by decide)
    have h := pT_d (k := k) (q := M / 256) hr
    rw [show M / 256 * 256 + M % 256 = M by omega] at h
    have h16 := pT_16 k (M / 256)
    have h3 := (pf3 (M % 256) hr).2.2
    have ih := pA3_C k (M / 256)
    unfold pA3 at ih
    rw [h]
    unfold pA3
    rw [show pT k (M / 256) * 256 + pA2 51 (pA1 85 (M % 256)) + (pT k (M / 256) * 256 + pA2 51 (pA1 85 (M % 256))) / 16 = (pT k (M / 256) + pT k (M / 256) / 16) * 256 + (pA2 51 (pA1 85 (M % 256)) + pT k (M / 256) % 16 * 16 + pA2 51 (pA1 85 (M % 256)) / 16) by omega,
      show pmk 15 (k + 1) = pmk 15 k * 256 + 15 from rfl, land_d (by omega) (by decide), ih, pf4 _ (by omega) _ hr]
    rfl
theorem pc8_8 (r : Nat) : pc8 r ≤ 8 := xct_le _ _
theorem xct_sh (f : Nat → Bool) (a : Nat) : ∀ n, xct f (a + n) = xct f a + xct (fun j => f (a + j)) n
  | 0 => rfl
  | n + 1 => by
    show xct f (a + n) + _ = _
    rw [xct_sh f a n]
    exact Nat.add_assoc _ _ _
theorem xct_cg {f g : Nat → Bool} : ∀ n, (∀ e, e < n → f e = g e) → xct f n = xct g n
  | 0, _ => rfl
  | n + 1, h => by
    unfold xct
    rw [xct_cg n (fun e he => h e (by omega)), h n (by omega)]
def pD : Nat → Nat → Nat
  | 0, _ => 0
  | k + 1, M => pc8 (M % 256) + pD k (M / 256)
theorem pD_x : ∀ k M, pD k M = xct (fun j => M.testBit j) (8 * k)
  | 0, _ => rfl
  | k + 1, M => by
    rw [show 8 * (k + 1) = 8 + 8 * k by omega, xct_sh]
    unfold pD
    rw [pD_x k (M / 256)]
    have h1 : pc8 (M % 256) = xct (fun j => M.testBit j) 8 := by
      refine xct_cg 8 (fun e he => ?_)
      rw [show 256 = 2 ^ 8 from rfl, Nat.testBit_mod_two_pow]
      simp [he]
    have h2 : xct (fun j => (M / 256).testBit j) (8 * k) = xct (fun j => M.testBit (8 + j)) (8 * k) := by
      refine xct_cg _ (fun e _ => ?_)
      rw [show 256 = 2 ^ 8 from rfl, Nat.testBit_div_two_pow]
      rw [Nat.add_comm]
    rw [h1, h2]
theorem pdv {x q d : Nat} (h : d < 256) (e : x = q * 256 + d) : x / 256 = q := by omega
theorem pdv2 {x y q d d' : Nat} (h : d < 256) (h' : d' < 256) (e : x = y * 256 + d) (e' : y = q * 256 + d') : x / 65536 = q := by omega
theorem pstep {x y z u v w d e : Nat} (h1 : x = y * 256 + d) (h2 : u = v * 256 + e) (hz : z = x + u) (hw : w = y + v) : z = w * 256 + (d + e) := by omega
theorem pmod {l0 l1 l4 l5 g0 g4 : Nat} (h0 : l0 = l1 * 256 + g0) (h4 : l4 = l5 * 256 + g4) (h : g0 + g4 < 128) : (l0 + l4) % 128 = g0 + g4 := by omega
theorem pb1 {d : Nat} (h : d ≤ 8) : d < 256 := by omega
theorem pb2 {d e : Nat} (h : d ≤ 8) (h' : e ≤ 8) : d + e < 256 := by omega
theorem pb4 {d e f g : Nat} (h : d ≤ 8) (h' : e ≤ 8) (i : f ≤ 8) (i' : g ≤ 8) : d + e + (f + g) < 256 := by omega
theorem pb8 {d0 d1 d2 d3 d4 d5 d6 d7 : Nat} (b0 : d0 ≤ 8) (b1 : d1 ≤ 8) (b2 : d2 ≤ 8) (b3 : d3 ≤ 8) (b4 : d4 ≤ 8) (b5 : d5 ≤ 8) (b6 : d6 ≤ 8) (b7 : d7 ≤ 8) : d0 + d1 + (d2 + d3) + (d4 + d5 + (d6 + d7)) < 128 := by omega
theorem psum (d0 d1 d2 d3 d4 d5 d6 d7 : Nat) : d0 + d1 + (d2 + d3) + (d4 + d5 + (d6 + d7)) = d0 + (d1 + (d2 + (d3 + (d4 + (d5 + (d6 + (d7 + 0))))))) := by omega
theorem pz (d : Nat) : d = 0 * 256 + d := by omega
theorem pdd (a : Nat) : a / 4294967296 = a / 65536 / 65536 := by omega
theorem pfin {d0 d1 d2 d3 d4 d5 d6 d7 h6 h5 h4 h3 h2 h1 h0 : Nat} (b0 : d0 ≤ 8) (b1 : d1 ≤ 8) (b2 : d2 ≤ 8) (b3 : d3 ≤ 8) (b4 : d4 ≤ 8) (b5 : d5 ≤ 8) (b6 : d6 ≤ 8) (b7 : d7 ≤ 8)
    (e6 : h6 = d7 * 256 + d6) (e5 : h5 = h6 * 256 + d5) (e4 : h4 = h5 * 256 + d4) (e3 : h3 = h4 * 256 + d3) (e2 : h2 = h3 * 256 + d2) (e1 : h1 = h2 * 256 + d1) (e0 : h0 = h1 * 256 + d0) :
    ∀ a4 a5 a6, a4 = h0 + h0 / 256 → a5 = a4 + a4 / 65536 → a6 = a5 + a5 / 4294967296 → a6 % 128 = d0 + (d1 + (d2 + (d3 + (d4 + (d5 + (d6 + (d7 + 0))))))) := by
  intro a4 a5 a6 g4 g5 g6
  rw [pdv (pb1 b0) e0] at g4
  have k0 := pstep e0 e1 g4 rfl
  have k1 := pstep e1 e2 rfl rfl
  have k2 := pstep e2 e3 rfl rfl
  have k3 := pstep e3 e4 rfl rfl
  have k4 := pstep e4 e5 rfl rfl
  have k5 := pstep e5 e6 rfl rfl
  have k6 := pstep e6 (pz d7) rfl rfl
  rw [pdv2 (pb2 b0 b1) (pb2 b1 b2) k0 k1] at g5
  have l0 := pstep k0 k2 g5 rfl
  have l1 := pstep k1 k3 rfl rfl
  have l2 := pstep k2 k4 rfl rfl
  have l3 := pstep k3 k5 rfl rfl
  have l4 := pstep k4 k6 rfl rfl
  have m1 := pdv2 (pb4 b0 b1 b2 b3) (pb4 b1 b2 b3 b4) l0 l1
  have m2 := pdv2 (pb4 b2 b3 b4 b5) (pb4 b3 b4 b5 b6) l2 l3
  rw [pdd, m1, m2] at g6
  rw [g6, pmod l0 l4 (pb8 b0 b1 b2 b3 b4 b5 b6 b7)]
  exact psum _ _ _ _ _ _ _ _
