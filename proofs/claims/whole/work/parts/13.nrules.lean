/-! the rules again, over natural numbers: nI n is the int n -/
def kt_bo (b : Bool) : Int32 := match b with
  | true => nI 1
  | false => nI 0
theorem kt_bo0 (b : Bool) : kt_bo b = 0 ↔ b = false := by cases b <;> decide
theorem kt_bo01 (b : Bool) : kt_bo b = 0 ∨ kt_bo b = 1 := by cases b <;> decide
theorem kt_p31 {n : Nat} (h : n < 2147483648) : n < 2 ^ 31 := h
theorem kt_nI0 {n : Nat} (h : n < 2147483648) : nI n = 0 ↔ n = 0 := by
  rw [show (0 : Int32) = nI 0 from rfl]
  exact nI_eq h (by decide)
section KN
variable {P : kt_P} {i NM pc pc' : Nat} {L L' : List (Option Value)} {st st' : List Value} {N : Nat} {I : kt_I} {J : kt_J} {R : kt_R} {Q : Option Value → kt_I → kt_J → kt_R → Prop}
theorem kw_iadd_n {x y : Nat} (hd : kt_dc i pc .iadd 1 pc') (k : KW P i NM pc' L (.int (nI (x + y)) :: st) N I J R Q) : KW P i NM pc L (.int (nI y) :: .int (nI x) :: st) N I J R Q := kw_iadd hd (by rw [nI_add]; exact k)
theorem kw_imul_n {x y : Nat} (hd : kt_dc i pc .imul 1 pc') (k : KW P i NM pc' L (.int (nI (x * y)) :: st) N I J R Q) : KW P i NM pc L (.int (nI y) :: .int (nI x) :: st) N I J R Q := kw_imul hd (by rw [pk_mul]; exact k)
theorem kw_isub_n {x y : Nat} (hd : kt_dc i pc .isub 1 pc') (h : y ≤ x) (k : KW P i NM pc' L (.int (nI (x - y)) :: st) N I J R Q) : KW P i NM pc L (.int (nI y) :: .int (nI x) :: st) N I J R Q := kw_isub hd (by rw [pk_sub h]; exact k)
theorem kw_iinc_n {n v x : Nat} {d : Int} (hd : kt_dc i pc (.iinc n d) 3 pc' ∧ Int32.ofInt d = nI v) (hn : n < kt_mx i) (hv : L[n]? = some (some (.int (nI x)))) (k : KW P i NM pc' (kt_s1 L n (.int (nI (x + v)))) st N I J R Q) : KW P i NM pc L st N I J R Q := kw_iinc hd hn hv (by rw [nI_add]; exact k)
theorem kw_ic_lt_n {x y tgt : Nat} (hd : kt_dj i pc (.if_icmp .lt) tgt pc') (hb : x < 2147483648 ∧ y < 2147483648) (k1 : x < y → KW P i NM tgt L st N I J R Q) (k2 : y ≤ x → KW P i NM pc' L st N I J R Q) : KW P i NM pc L (.int (nI y) :: .int (nI x) :: st) N I J R Q :=
  kw_ic_lt hd (fun h => k1 ((nI_ltI (kt_p31 hb.1) (kt_p31 hb.2)).mp h)) (fun h => k2 (Nat.not_lt.mp fun q => h ((nI_ltI (kt_p31 hb.1) (kt_p31 hb.2)).mpr q)))
theorem kw_ic_ge_n {x y tgt : Nat} (hd : kt_dj i pc (.if_icmp .ge) tgt pc') (hb : x < 2147483648 ∧ y < 2147483648) (k1 : y ≤ x → KW P i NM tgt L st N I J R Q) (k2 : x < y → KW P i NM pc' L st N I J R Q) : KW P i NM pc L (.int (nI y) :: .int (nI x) :: st) N I J R Q :=
  kw_ic_ge hd (fun h => k1 ((nI_leI (kt_p31 hb.2) (kt_p31 hb.1)).mp h)) (fun h => k2 (Nat.not_le.mp fun q => h ((nI_leI (kt_p31 hb.2) (kt_p31 hb.1)).mpr q)))
theorem kw_ic_gt_n {x y tgt : Nat} (hd : kt_dj i pc (.if_icmp .gt) tgt pc') (hb : x < 2147483648 ∧ y < 2147483648) (k1 : y < x → KW P i NM tgt L st N I J R Q) (k2 : x ≤ y → KW P i NM pc' L st N I J R Q) : KW P i NM pc L (.int (nI y) :: .int (nI x) :: st) N I J R Q :=
  kw_ic_gt hd (fun h => k1 ((nI_ltI (kt_p31 hb.2) (kt_p31 hb.1)).mp h)) (fun h => k2 (Nat.not_lt.mp fun q => h ((nI_ltI (kt_p31 hb.2) (kt_p31 hb.1)).mpr q)))
theorem kw_ic_le_n {x y tgt : Nat} (hd : kt_dj i pc (.if_icmp .le) tgt pc') (hb : x < 2147483648 ∧ y < 2147483648) (k1 : x ≤ y → KW P i NM tgt L st N I J R Q) (k2 : y < x → KW P i NM pc' L st N I J R Q) : KW P i NM pc L (.int (nI y) :: .int (nI x) :: st) N I J R Q :=
  kw_ic_le hd (fun h => k1 ((nI_leI (kt_p31 hb.1) (kt_p31 hb.2)).mp h)) (fun h => k2 (Nat.not_le.mp fun q => h ((nI_leI (kt_p31 hb.1) (kt_p31 hb.2)).mpr q)))
theorem kw_ic_eq_n {x y tgt : Nat} (hd : kt_dj i pc (.if_icmp .eq) tgt pc') (hb : x < 2147483648 ∧ y < 2147483648) (k1 : x = y → KW P i NM tgt L st N I J R Q) (k2 : x ≠ y → KW P i NM pc' L st N I J R Q) : KW P i NM pc L (.int (nI y) :: .int (nI x) :: st) N I J R Q :=
  kw_ic_eq hd (fun h => k1 ((nI_eq (kt_p31 hb.1) (kt_p31 hb.2)).mp h)) (fun h => k2 (fun q => h ((nI_eq (kt_p31 hb.1) (kt_p31 hb.2)).mpr q)))
theorem kw_ic_ne_n {x y tgt : Nat} (hd : kt_dj i pc (.if_icmp .ne) tgt pc') (hb : x < 2147483648 ∧ y < 2147483648) (k1 : x ≠ y → KW P i NM tgt L st N I J R Q) (k2 : x = y → KW P i NM pc' L st N I J R Q) : KW P i NM pc L (.int (nI y) :: .int (nI x) :: st) N I J R Q :=
  kw_ic_ne hd (fun h => k1 (fun q => h ((nI_eq (kt_p31 hb.1) (kt_p31 hb.2)).mpr q))) (fun h => k2 ((nI_eq (kt_p31 hb.1) (kt_p31 hb.2)).mp h))
theorem kw_if_eq_n {x tgt : Nat} (hd : kt_dj i pc (.ifCond .eq) tgt pc') (hb : x < 2147483648) (k1 : x = 0 → KW P i NM tgt L st N I J R Q) (k2 : x ≠ 0 → KW P i NM pc' L st N I J R Q) : KW P i NM pc L (.int (nI x) :: st) N I J R Q :=
  kw_if_eq hd (fun h => k1 ((kt_nI0 hb).mp h)) (fun h => k2 (fun q => h ((kt_nI0 hb).mpr q)))
theorem kw_if_ne_n {x tgt : Nat} (hd : kt_dj i pc (.ifCond .ne) tgt pc') (hb : x < 2147483648) (k1 : x ≠ 0 → KW P i NM tgt L st N I J R Q) (k2 : x = 0 → KW P i NM pc' L st N I J R Q) : KW P i NM pc L (.int (nI x) :: st) N I J R Q :=
  kw_if_ne hd (fun h => k1 (fun q => h ((kt_nI0 hb).mpr q))) (fun h => k2 ((kt_nI0 hb).mp h))
theorem kw_if_lt_n {x tgt : Nat} (hd : kt_dj i pc (.ifCond .lt) tgt pc') (hb : x < 2147483648) (k1 : x < 0 → KW P i NM tgt L st N I J R Q) (k2 : 0 ≤ x → KW P i NM pc' L st N I J R Q) : KW P i NM pc L (.int (nI x) :: st) N I J R Q :=
  kw_if_lt hd (fun h => absurd h (nI_pos (kt_p31 hb))) (fun _ => k2 (Nat.zero_le _))
theorem kw_if_ge_n {x tgt : Nat} (hd : kt_dj i pc (.ifCond .ge) tgt pc') (hb : x < 2147483648) (k1 : 0 ≤ x → KW P i NM tgt L st N I J R Q) (k2 : x < 0 → KW P i NM pc' L st N I J R Q) : KW P i NM pc L (.int (nI x) :: st) N I J R Q :=
  kw_if_ge hd (fun _ => k1 (Nat.zero_le _)) (fun h => absurd (nI_pos' (kt_p31 hb)) h)
theorem kw_if_le_n {x tgt : Nat} (hd : kt_dj i pc (.ifCond .le) tgt pc') (hb : x < 2147483648) (k1 : x = 0 → KW P i NM tgt L st N I J R Q) (k2 : 0 < x → KW P i NM pc' L st N I J R Q) : KW P i NM pc L (.int (nI x) :: st) N I J R Q :=
  kw_if_le hd (fun h => k1 (Nat.le_zero.mp ((nI_leI (kt_p31 hb) (by decide)).mp h))) (fun h => k2 (Nat.pos_of_ne_zero fun q => h (by rw [q]; decide)))
theorem kw_if_eq_b {b : Bool} {tgt : Nat} (hd : kt_dj i pc (.ifCond .eq) tgt pc') (k1 : b = false → KW P i NM tgt L st N I J R Q) (k2 : b = true → KW P i NM pc' L st N I J R Q) : KW P i NM pc L (.int (kt_bo b) :: st) N I J R Q :=
  kw_if_eq hd (fun h => k1 ((kt_bo0 b).mp h)) (fun h => k2 (by cases b; exact absurd rfl h; rfl))
theorem kw_if_ne_b {b : Bool} {tgt : Nat} (hd : kt_dj i pc (.ifCond .ne) tgt pc') (k1 : b = true → KW P i NM tgt L st N I J R Q) (k2 : b = false → KW P i NM pc' L st N I J R Q) : KW P i NM pc L (.int (kt_bo b) :: st) N I J R Q :=
  kw_if_ne hd (fun h => k1 (by cases b; exact absurd rfl h; rfl)) (fun h => k2 ((kt_bo0 b).mp h))
theorem kw_zret_b {b : Bool} (hd : kt_dc i pc .ireturn 1 pc' ∧ kt_rt i = some .boolean) (hq : Q (some (.int (kt_bo b))) I J R) : KW P i N pc L [.int (kt_bo b)] N I J R Q := kw_zret hd (kt_bo01 b) hq
theorem kw_gi_e {ci k a : Nat} {v : Int32} (hs : kt_sG i pc ci k 0 pc') (hkd : kt_kd P N a = (ci, 0)) (he : I a k = v) (kk : KW P i NM pc' L (.int v :: st) N I J R Q) : KW P i NM pc L (.ref a :: st) N I J R Q := kw_gi hs hkd (by rw [he]; exact kk)
theorem kw_gz_e {ci k a : Nat} {v : Int32} (hs : kt_sG i pc ci k 3 pc') (hkd : kt_kd P N a = (ci, 0)) (he : I a k = v) (kk : KW P i NM pc' L (.int v :: st) N I J R Q) : KW P i NM pc L (.ref a :: st) N I J R Q := kw_gz hs hkd (by rw [he]; exact kk)
theorem kw_gl_e {ci k a : Nat} {v : Int64} (hs : kt_sG i pc ci k 1 pc') (hkd : kt_kd P N a = (ci, 0)) (he : J a k = v) (kk : KW P i NM pc' L (.long v :: st) N I J R Q) : KW P i NM pc L (.ref a :: st) N I J R Q := kw_gl hs hkd (by rw [he]; exact kk)
theorem kt_vin {k n : Nat} (hk : k < n) (hn : n < 2147483648) : vp_in (nI k) n ∧ (nI k).toNatClampNeg = k := ⟨vp_in_nI hk (kt_p31 hn), nI_clamp (kt_p31 (Nat.lt_trans hk hn))⟩
theorem kw_iald_n {a n k : Nat} {v : Int32} (hd : kt_dc i pc .iaload 1 pc') (hkd : kt_kd P N a = (6, n)) (hk : k < n) (hn : n < 2147483648) (he : I a k = v) (kk : KW P i NM pc' L (.int v :: st) N I J R Q) : KW P i NM pc L (.int (nI k) :: .ref a :: st) N I J R Q :=
  kw_iald hd hkd (kt_vin hk hn).1 (by rw [(kt_vin hk hn).2, he]; exact kk)
theorem kw_zald_n {a n k : Nat} {v : Int32} (hd : kt_dc i pc .baload 1 pc') (hkd : kt_kd P N a = (8, n)) (hk : k < n) (hn : n < 2147483648) (he : I a k = v) (kk : KW P i NM pc' L (.int v :: st) N I J R Q) : KW P i NM pc L (.int (nI k) :: .ref a :: st) N I J R Q :=
  kw_zald hd hkd (kt_vin hk hn).1 (by rw [(kt_vin hk hn).2, he]; exact kk)
theorem kw_lald_n {a n k : Nat} {v : Int64} (hd : kt_dc i pc .laload 1 pc') (hkd : kt_kd P N a = (7, n)) (hk : k < n) (hn : n < 2147483648) (he : J a k = v) (kk : KW P i NM pc' L (.long v :: st) N I J R Q) : KW P i NM pc L (.int (nI k) :: .ref a :: st) N I J R Q :=
  kw_lald hd hkd (kt_vin hk hn).1 (by rw [(kt_vin hk hn).2, he]; exact kk)
theorem kw_aald_n {a n k r : Nat} (hd : kt_dc i pc .aaload 1 pc') (hkd : kt_kd P N a = (9, n)) (hk : k < n) (hn : n < 2147483648) (hr : R a k = some r) (kk : KW P i NM pc' L (.ref r :: st) N I J R Q) : KW P i NM pc L (.int (nI k) :: .ref a :: st) N I J R Q :=
  kw_aald hd hkd (kt_vin hk hn).1 (by rw [(kt_vin hk hn).2]; exact hr) kk
theorem kw_iast_n {a n k : Nat} {x : Int32} (hd : kt_dc i pc .iastore 1 pc') (hkd : kt_kd P N a = (6, n)) (hk : k < n) (hn : n < 2147483648) (kk : KW P i NM pc' L st N (kt_u1 I a k x) J R Q) : KW P i NM pc L (.int x :: .int (nI k) :: .ref a :: st) N I J R Q :=
  kw_iast hd hkd (kt_vin hk hn).1 (by rw [(kt_vin hk hn).2]; exact kk)
theorem kw_zast_n {a n k : Nat} {b : Bool} (hd : kt_dc i pc .bastore 1 pc') (hkd : kt_kd P N a = (8, n)) (hk : k < n) (hn : n < 2147483648) (kk : KW P i NM pc' L st N (kt_u1 I a k (kt_bo b)) J R Q) : KW P i NM pc L (.int (kt_bo b) :: .int (nI k) :: .ref a :: st) N I J R Q :=
  kw_zast hd hkd (kt_vin hk hn).1 (kt_bo01 b) (by rw [(kt_vin hk hn).2]; exact kk)
theorem kw_last_n {a n k : Nat} {x : Int64} (hd : kt_dc i pc .lastore 1 pc') (hkd : kt_kd P N a = (7, n)) (hk : k < n) (hn : n < 2147483648) (kk : KW P i NM pc' L st N I (kt_uL J a k x) R Q) : KW P i NM pc L (.long x :: .int (nI k) :: .ref a :: st) N I J R Q :=
  kw_last hd hkd (kt_vin hk hn).1 (by rw [(kt_vin hk hn).2]; exact kk)
theorem kw_aast_n {a n k r : Nat} (hd : kt_dc i pc .aastore 1 pc') (hkd : kt_kd P N a = (9, n)) (hkr : kt_kd P N r = (0, 0)) (hk : k < n) (hn : n < 2147483648) (kk : KW P i NM pc' L st N I J (kt_uR R a k (some r)) Q) : KW P i NM pc L (.ref r :: .int (nI k) :: .ref a :: st) N I J R Q :=
  kw_aast hd hkd hkr (kt_vin hk hn).1 (by rw [(kt_vin hk hn).2]; exact kk)
/-- two locals lists that say the same -/
theorem KW.lc {L2 : List (Option Value)} (h : L = L2) (k : KW P i NM pc L2 st N I J R Q) : KW P i NM pc L st N I J R Q := h ▸ k
end KN
