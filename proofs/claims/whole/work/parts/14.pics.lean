/-! pictures: what lies where -/
def kt_isM (P : kt_P) (N : Nat) (R : kt_R) (m : Nat) : Prop :=
  kt_kd P N (m) = (5, 0) ∧
  kt_kd P N (m + 1) = (6, 548) ∧
  kt_kd P N (m + 2) = (6, 2192) ∧
  kt_kd P N (m + 3) = (6, 548) ∧
  kt_kd P N (m + 4) = (6, 548) ∧
  kt_kd P N (m + 5) = (6, 80) ∧
  kt_kd P N (m + 6) = (6, 60) ∧
  kt_kd P N (m + 7) = (6, 60) ∧
  kt_kd P N (m + 8) = (6, 10) ∧
  kt_kd P N (m + 9) = (8, 300) ∧
  kt_kd P N (m + 10) = (6, 120) ∧
  kt_kd P N (m + 11) = (6, 4) ∧
  R (m) 0 = some (m + 1) ∧
  R (m) 1 = some (m + 2) ∧
  R (m) 2 = some (m + 3) ∧
  R (m) 3 = some (m + 4) ∧
  R (m) 6 = some (m + 5) ∧
  R (m) 8 = some (m + 6) ∧
  R (m) 9 = some (m + 7) ∧
  R (m) 11 = some (m + 8) ∧
  R (m) 12 = some (m + 9) ∧
  R (m) 13 = some (m + 10) ∧
  R (m) 17 = some (m + 11)
theorem isM_k {P : kt_P} {N : Nat} {R : kt_R} {m : Nat} (h : kt_isM P N R m) : kt_kd P N (m) = (5, 0) := h.1
theorem isM_a1 {P : kt_P} {N : Nat} {R : kt_R} {m : Nat} (h : kt_isM P N R m) : kt_kd P N (m + 1) = (6, 548) := h.2.1
theorem isM_a2 {P : kt_P} {N : Nat} {R : kt_R} {m : Nat} (h : kt_isM P N R m) : kt_kd P N (m + 2) = (6, 2192) := h.2.2.1
theorem isM_a3 {P : kt_P} {N : Nat} {R : kt_R} {m : Nat} (h : kt_isM P N R m) : kt_kd P N (m + 3) = (6, 548) := h.2.2.2.1
theorem isM_a4 {P : kt_P} {N : Nat} {R : kt_R} {m : Nat} (h : kt_isM P N R m) : kt_kd P N (m + 4) = (6, 548) := h.2.2.2.2.1
theorem isM_a5 {P : kt_P} {N : Nat} {R : kt_R} {m : Nat} (h : kt_isM P N R m) : kt_kd P N (m + 5) = (6, 80) := h.2.2.2.2.2.1
theorem isM_a6 {P : kt_P} {N : Nat} {R : kt_R} {m : Nat} (h : kt_isM P N R m) : kt_kd P N (m + 6) = (6, 60) := h.2.2.2.2.2.2.1
theorem isM_a7 {P : kt_P} {N : Nat} {R : kt_R} {m : Nat} (h : kt_isM P N R m) : kt_kd P N (m + 7) = (6, 60) := h.2.2.2.2.2.2.2.1
theorem isM_a8 {P : kt_P} {N : Nat} {R : kt_R} {m : Nat} (h : kt_isM P N R m) : kt_kd P N (m + 8) = (6, 10) := h.2.2.2.2.2.2.2.2.1
theorem isM_a9 {P : kt_P} {N : Nat} {R : kt_R} {m : Nat} (h : kt_isM P N R m) : kt_kd P N (m + 9) = (8, 300) := h.2.2.2.2.2.2.2.2.2.1
theorem isM_a10 {P : kt_P} {N : Nat} {R : kt_R} {m : Nat} (h : kt_isM P N R m) : kt_kd P N (m + 10) = (6, 120) := h.2.2.2.2.2.2.2.2.2.2.1
theorem isM_a11 {P : kt_P} {N : Nat} {R : kt_R} {m : Nat} (h : kt_isM P N R m) : kt_kd P N (m + 11) = (6, 4) := h.2.2.2.2.2.2.2.2.2.2.2.1
theorem isM_r0 {P : kt_P} {N : Nat} {R : kt_R} {m : Nat} (h : kt_isM P N R m) : R (m) 0 = some (m + 1) := h.2.2.2.2.2.2.2.2.2.2.2.2.1
theorem isM_r1 {P : kt_P} {N : Nat} {R : kt_R} {m : Nat} (h : kt_isM P N R m) : R (m) 1 = some (m + 2) := h.2.2.2.2.2.2.2.2.2.2.2.2.2.1
theorem isM_r2 {P : kt_P} {N : Nat} {R : kt_R} {m : Nat} (h : kt_isM P N R m) : R (m) 2 = some (m + 3) := h.2.2.2.2.2.2.2.2.2.2.2.2.2.2.1
theorem isM_r3 {P : kt_P} {N : Nat} {R : kt_R} {m : Nat} (h : kt_isM P N R m) : R (m) 3 = some (m + 4) := h.2.2.2.2.2.2.2.2.2.2.2.2.2.2.2.1
theorem isM_r6 {P : kt_P} {N : Nat} {R : kt_R} {m : Nat} (h : kt_isM P N R m) : R (m) 6 = some (m + 5) := h.2.2.2.2.2.2.2.2.2.2.2.2.2.2.2.2.1
theorem isM_r8 {P : kt_P} {N : Nat} {R : kt_R} {m : Nat} (h : kt_isM P N R m) : R (m) 8 = some (m + 6) := h.2.2.2.2.2.2.2.2.2.2.2.2.2.2.2.2.2.1
theorem isM_r9 {P : kt_P} {N : Nat} {R : kt_R} {m : Nat} (h : kt_isM P N R m) : R (m) 9 = some (m + 7) := h.2.2.2.2.2.2.2.2.2.2.2.2.2.2.2.2.2.2.1
theorem isM_r11 {P : kt_P} {N : Nat} {R : kt_R} {m : Nat} (h : kt_isM P N R m) : R (m) 11 = some (m + 8) := h.2.2.2.2.2.2.2.2.2.2.2.2.2.2.2.2.2.2.2.1
theorem isM_r12 {P : kt_P} {N : Nat} {R : kt_R} {m : Nat} (h : kt_isM P N R m) : R (m) 12 = some (m + 9) := h.2.2.2.2.2.2.2.2.2.2.2.2.2.2.2.2.2.2.2.2.1
theorem isM_r13 {P : kt_P} {N : Nat} {R : kt_R} {m : Nat} (h : kt_isM P N R m) : R (m) 13 = some (m + 10) := h.2.2.2.2.2.2.2.2.2.2.2.2.2.2.2.2.2.2.2.2.2.1
theorem isM_r17 {P : kt_P} {N : Nat} {R : kt_R} {m : Nat} (h : kt_isM P N R m) : R (m) 17 = some (m + 11) := h.2.2.2.2.2.2.2.2.2.2.2.2.2.2.2.2.2.2.2.2.2.2
def kt_isC (P : kt_P) (N : Nat) (R : kt_R) (lo : Nat) (c : Nat) : Prop :=
  kt_kd P N (c) = (0, 0) ∧
  kt_kd P N (c + 4) = (1, 0) ∧
  kt_kd P N (c + 5) = (6, 60) ∧
  kt_kd P N (c + 6) = (6, 60) ∧
  kt_kd P N (c + 7) = (6, 60) ∧
  kt_kd P N (c + 8) = (6, 60) ∧
  kt_kd P N (c + 9) = (6, 60) ∧
  kt_kd P N (c + 10) = (6, 60) ∧
  kt_kd P N (c + 11) = (6, 60) ∧
  kt_kd P N (c + 12) = (6, 5) ∧
  kt_kd P N (c + 13) = (7, 5) ∧
  kt_kd P N (c + 14) = (7, 5) ∧
  kt_kd P N (c + 15) = (7, 5) ∧
  kt_kd P N (c + 16) = (7, 5) ∧
  kt_kd P N (c + 17) = (7, 5) ∧
  R (c) 0 = some (lo) ∧
  R (c) 1 = some (c + 4) ∧
  R (c) 4 = some (c + 12) ∧
  R (c) 5 = some (c + 13) ∧
  R (c) 6 = some (c + 14) ∧
  R (c) 7 = some (c + 15) ∧
  R (c) 8 = some (c + 16) ∧
  R (c) 9 = some (c + 17) ∧
  R (c + 4) 1 = some (c + 5) ∧
  R (c + 4) 2 = some (c + 6) ∧
  R (c + 4) 3 = some (c + 7) ∧
  R (c + 4) 4 = some (c + 8) ∧
  R (c + 4) 5 = some (c + 9) ∧
  R (c + 4) 6 = some (c + 10) ∧
  R (c + 4) 7 = some (c + 11)
theorem isC_k {P : kt_P} {N : Nat} {R : kt_R} {lo : Nat} {c : Nat} (h : kt_isC P N R lo c) : kt_kd P N (c) = (0, 0) := h.1
theorem isE_k {P : kt_P} {N : Nat} {R : kt_R} {lo : Nat} {c : Nat} (h : kt_isC P N R lo c) : kt_kd P N (c + 4) = (1, 0) := h.2.1
theorem isC_a5 {P : kt_P} {N : Nat} {R : kt_R} {lo : Nat} {c : Nat} (h : kt_isC P N R lo c) : kt_kd P N (c + 5) = (6, 60) := h.2.2.1
theorem isC_a6 {P : kt_P} {N : Nat} {R : kt_R} {lo : Nat} {c : Nat} (h : kt_isC P N R lo c) : kt_kd P N (c + 6) = (6, 60) := h.2.2.2.1
theorem isC_a7 {P : kt_P} {N : Nat} {R : kt_R} {lo : Nat} {c : Nat} (h : kt_isC P N R lo c) : kt_kd P N (c + 7) = (6, 60) := h.2.2.2.2.1
theorem isC_a8 {P : kt_P} {N : Nat} {R : kt_R} {lo : Nat} {c : Nat} (h : kt_isC P N R lo c) : kt_kd P N (c + 8) = (6, 60) := h.2.2.2.2.2.1
theorem isC_a9 {P : kt_P} {N : Nat} {R : kt_R} {lo : Nat} {c : Nat} (h : kt_isC P N R lo c) : kt_kd P N (c + 9) = (6, 60) := h.2.2.2.2.2.2.1
theorem isC_a10 {P : kt_P} {N : Nat} {R : kt_R} {lo : Nat} {c : Nat} (h : kt_isC P N R lo c) : kt_kd P N (c + 10) = (6, 60) := h.2.2.2.2.2.2.2.1
theorem isC_a11 {P : kt_P} {N : Nat} {R : kt_R} {lo : Nat} {c : Nat} (h : kt_isC P N R lo c) : kt_kd P N (c + 11) = (6, 60) := h.2.2.2.2.2.2.2.2.1
theorem isC_a12 {P : kt_P} {N : Nat} {R : kt_R} {lo : Nat} {c : Nat} (h : kt_isC P N R lo c) : kt_kd P N (c + 12) = (6, 5) := h.2.2.2.2.2.2.2.2.2.1
theorem isC_a13 {P : kt_P} {N : Nat} {R : kt_R} {lo : Nat} {c : Nat} (h : kt_isC P N R lo c) : kt_kd P N (c + 13) = (7, 5) := h.2.2.2.2.2.2.2.2.2.2.1
theorem isC_a14 {P : kt_P} {N : Nat} {R : kt_R} {lo : Nat} {c : Nat} (h : kt_isC P N R lo c) : kt_kd P N (c + 14) = (7, 5) := h.2.2.2.2.2.2.2.2.2.2.2.1
theorem isC_a15 {P : kt_P} {N : Nat} {R : kt_R} {lo : Nat} {c : Nat} (h : kt_isC P N R lo c) : kt_kd P N (c + 15) = (7, 5) := h.2.2.2.2.2.2.2.2.2.2.2.2.1
theorem isC_a16 {P : kt_P} {N : Nat} {R : kt_R} {lo : Nat} {c : Nat} (h : kt_isC P N R lo c) : kt_kd P N (c + 16) = (7, 5) := h.2.2.2.2.2.2.2.2.2.2.2.2.2.1
theorem isC_a17 {P : kt_P} {N : Nat} {R : kt_R} {lo : Nat} {c : Nat} (h : kt_isC P N R lo c) : kt_kd P N (c + 17) = (7, 5) := h.2.2.2.2.2.2.2.2.2.2.2.2.2.2.1
theorem isC_r0 {P : kt_P} {N : Nat} {R : kt_R} {lo : Nat} {c : Nat} (h : kt_isC P N R lo c) : R (c) 0 = some (lo) := h.2.2.2.2.2.2.2.2.2.2.2.2.2.2.2.1
theorem isC_r1 {P : kt_P} {N : Nat} {R : kt_R} {lo : Nat} {c : Nat} (h : kt_isC P N R lo c) : R (c) 1 = some (c + 4) := h.2.2.2.2.2.2.2.2.2.2.2.2.2.2.2.2.1
theorem isC_r4 {P : kt_P} {N : Nat} {R : kt_R} {lo : Nat} {c : Nat} (h : kt_isC P N R lo c) : R (c) 4 = some (c + 12) := h.2.2.2.2.2.2.2.2.2.2.2.2.2.2.2.2.2.1
theorem isC_r5 {P : kt_P} {N : Nat} {R : kt_R} {lo : Nat} {c : Nat} (h : kt_isC P N R lo c) : R (c) 5 = some (c + 13) := h.2.2.2.2.2.2.2.2.2.2.2.2.2.2.2.2.2.2.1
theorem isC_r6 {P : kt_P} {N : Nat} {R : kt_R} {lo : Nat} {c : Nat} (h : kt_isC P N R lo c) : R (c) 6 = some (c + 14) := h.2.2.2.2.2.2.2.2.2.2.2.2.2.2.2.2.2.2.2.1
theorem isC_r7 {P : kt_P} {N : Nat} {R : kt_R} {lo : Nat} {c : Nat} (h : kt_isC P N R lo c) : R (c) 7 = some (c + 15) := h.2.2.2.2.2.2.2.2.2.2.2.2.2.2.2.2.2.2.2.2.1
theorem isC_r8 {P : kt_P} {N : Nat} {R : kt_R} {lo : Nat} {c : Nat} (h : kt_isC P N R lo c) : R (c) 8 = some (c + 16) := h.2.2.2.2.2.2.2.2.2.2.2.2.2.2.2.2.2.2.2.2.2.1
theorem isC_r9 {P : kt_P} {N : Nat} {R : kt_R} {lo : Nat} {c : Nat} (h : kt_isC P N R lo c) : R (c) 9 = some (c + 17) := h.2.2.2.2.2.2.2.2.2.2.2.2.2.2.2.2.2.2.2.2.2.2.1
theorem isE_r1 {P : kt_P} {N : Nat} {R : kt_R} {lo : Nat} {c : Nat} (h : kt_isC P N R lo c) : R (c + 4) 1 = some (c + 5) := h.2.2.2.2.2.2.2.2.2.2.2.2.2.2.2.2.2.2.2.2.2.2.2.1
theorem isE_r2 {P : kt_P} {N : Nat} {R : kt_R} {lo : Nat} {c : Nat} (h : kt_isC P N R lo c) : R (c + 4) 2 = some (c + 6) := h.2.2.2.2.2.2.2.2.2.2.2.2.2.2.2.2.2.2.2.2.2.2.2.2.1
theorem isE_r3 {P : kt_P} {N : Nat} {R : kt_R} {lo : Nat} {c : Nat} (h : kt_isC P N R lo c) : R (c + 4) 3 = some (c + 7) := h.2.2.2.2.2.2.2.2.2.2.2.2.2.2.2.2.2.2.2.2.2.2.2.2.2.1
theorem isE_r4 {P : kt_P} {N : Nat} {R : kt_R} {lo : Nat} {c : Nat} (h : kt_isC P N R lo c) : R (c + 4) 4 = some (c + 8) := h.2.2.2.2.2.2.2.2.2.2.2.2.2.2.2.2.2.2.2.2.2.2.2.2.2.2.1
theorem isE_r5 {P : kt_P} {N : Nat} {R : kt_R} {lo : Nat} {c : Nat} (h : kt_isC P N R lo c) : R (c + 4) 5 = some (c + 9) := h.2.2.2.2.2.2.2.2.2.2.2.2.2.2.2.2.2.2.2.2.2.2.2.2.2.2.2.1
theorem isE_r6 {P : kt_P} {N : Nat} {R : kt_R} {lo : Nat} {c : Nat} (h : kt_isC P N R lo c) : R (c + 4) 6 = some (c + 10) := h.2.2.2.2.2.2.2.2.2.2.2.2.2.2.2.2.2.2.2.2.2.2.2.2.2.2.2.2.1
theorem isE_r7 {P : kt_P} {N : Nat} {R : kt_R} {lo : Nat} {c : Nat} (h : kt_isC P N R lo c) : R (c + 4) 7 = some (c + 11) := h.2.2.2.2.2.2.2.2.2.2.2.2.2.2.2.2.2.2.2.2.2.2.2.2.2.2.2.2.2
def kt_isL (P : kt_P) (N : Nat) (R : kt_R) (lo : Nat) : Prop :=
  kt_kd P N (lo) = (2, 0) ∧
  kt_kd P N (lo + 1) = (6, 60) ∧
  kt_kd P N (lo + 2) = (6, 10) ∧
  R (lo) 0 = some (lo + 1) ∧
  R (lo) 3 = some (lo + 2)
theorem isL_k {P : kt_P} {N : Nat} {R : kt_R} {lo : Nat} (h : kt_isL P N R lo) : kt_kd P N (lo) = (2, 0) := h.1
theorem isL_a1 {P : kt_P} {N : Nat} {R : kt_R} {lo : Nat} (h : kt_isL P N R lo) : kt_kd P N (lo + 1) = (6, 60) := h.2.1
theorem isL_a2 {P : kt_P} {N : Nat} {R : kt_R} {lo : Nat} (h : kt_isL P N R lo) : kt_kd P N (lo + 2) = (6, 10) := h.2.2.1
theorem isL_r0 {P : kt_P} {N : Nat} {R : kt_R} {lo : Nat} (h : kt_isL P N R lo) : R (lo) 0 = some (lo + 1) := h.2.2.2.1
theorem isL_r3 {P : kt_P} {N : Nat} {R : kt_R} {lo : Nat} (h : kt_isL P N R lo) : R (lo) 3 = some (lo + 2) := h.2.2.2.2
def kt_isS (P : kt_P) (N : Nat) (R : kt_R) (sc : Nat) : Prop :=
  kt_kd P N (sc) = (3, 0) ∧
  kt_kd P N (sc + 1) = (6, 80) ∧
  kt_kd P N (sc + 2) = (6, 4) ∧
  R (sc) 0 = some (sc + 1) ∧
  R (sc) 2 = some (sc + 2)
theorem isS_k {P : kt_P} {N : Nat} {R : kt_R} {sc : Nat} (h : kt_isS P N R sc) : kt_kd P N (sc) = (3, 0) := h.1
theorem isS_a1 {P : kt_P} {N : Nat} {R : kt_R} {sc : Nat} (h : kt_isS P N R sc) : kt_kd P N (sc + 1) = (6, 80) := h.2.1
theorem isS_a2 {P : kt_P} {N : Nat} {R : kt_R} {sc : Nat} (h : kt_isS P N R sc) : kt_kd P N (sc + 2) = (6, 4) := h.2.2.1
theorem isS_r0 {P : kt_P} {N : Nat} {R : kt_R} {sc : Nat} (h : kt_isS P N R sc) : R (sc) 0 = some (sc + 1) := h.2.2.2.1
theorem isS_r2 {P : kt_P} {N : Nat} {R : kt_R} {sc : Nat} (h : kt_isS P N R sc) : R (sc) 2 = some (sc + 2) := h.2.2.2.2

/-! what a state is: the rule, how many towns, how many events, the towns' clocks, the events' things (0 kind, 1 town, 2 clock, 3 good, 4 pieces, 5 the person and one more, 6 the order and one more, 7 who knows it, 8 who made an apology) -/
abbrev kt_X : Type := Nat × Nat × Nat × (Nat → Nat) × (Nat → Nat → Nat)
abbrev xr (X : kt_X) : Nat := X.1
abbrev xT (X : kt_X) : Nat := X.2.1
abbrev xn (X : kt_X) : Nat := X.2.2.1
abbrev xc (X : kt_X) : Nat → Nat := X.2.2.2.1
abbrev xe (X : kt_X) : Nat → Nat → Nat := X.2.2.2.2
def kt_cd (f v : Nat) : Int32 := if f = 5 ∨ f = 6 then (if v = 0 then -4 else nI (v - 1)) else nI v
/-- the reference's row of numbers says the state -/
def kt_enc (S : Nat → Int32) (X : kt_X) : Prop := S 0 = nI (xr X) ∧ S 1 = nI (xT X) ∧ S 2 = nI (xn X) ∧ (∀ t, t < 5 → S (3 + t) = nI (xc X t)) ∧ ∀ e f, e < xn X → f < 9 → S (8 + 9 * e + f) = kt_cd f (xe X e f)
/-- what every state keeps to -/
def kt_ew (X : kt_X) (e : Nat) : Prop :=
  xe X e 0 < 3 ∧ xe X e 1 < xT X ∧ (1 ≤ xe X e 2 ∧ xe X e 2 ≤ xc X (xe X e 1)) ∧ xe X e 3 < 6 ∧ (1 ≤ xe X e 4 ∧ xe X e 4 ≤ 99) ∧ ((xe X e 0 = 0 → xe X e 5 = 0) ∧ (xe X e 0 ≠ 0 → 1 ≤ xe X e 5) ∧ xe X e 5 ≤ 10)
  ∧ ((xe X e 0 ≠ 2 → xe X e 6 = 0) ∧ (xe X e 0 = 2 → 1 ≤ xe X e 6 ∧ xe X e 6 ≤ e ∧ xe X (xe X e 6 - 1) 0 = 1 ∧ ∀ t, (xe X e 7).testBit t = true → (xe X (xe X e 6 - 1) 7).testBit t = true))
  ∧ (1 ≤ xe X e 7 ∧ xe X e 7 < 2 ^ xT X) ∧ xe X e 8 < 2 ^ xT X
def kt_wf (X : kt_X) : Prop := xr X < 3 ∧ xT X ≤ 5 ∧ xn X ≤ 60 ∧ (∀ t, xc X t ≤ xn X) ∧ (∀ t, xT X ≤ t → xc X t = 0) ∧ (∀ e, e < xn X → kt_ew X e) ∧ (∀ e f, e < f → f < xn X → xe X e 1 = xe X f 1 → xe X e 2 < xe X f 2)
theorem kt_m32 {X : kt_X} (h : kt_wf X) {e : Nat} (he : e < xn X) : xe X e 7 < 32 ∧ xe X e 8 < 32 := by
  have h1 := h.2.2.2.2.2.1 e he
  have h2 : (2 : Nat) ^ xT X ≤ 2 ^ 5 := Nat.pow_le_pow_right (by decide) h.2.1
  have h3 := h1.2.2.2.2.2.2.2.1.2
  have h4 := h1.2.2.2.2.2.2.2.2
  have h5 : (2 : Nat) ^ 5 = 32 := rfl
  omega
theorem kt_cd_n {f v : Nat} (h : f ≠ 5) (h2 : f ≠ 6) : kt_cd f v = nI v := by simp [kt_cd, h, h2]
/-- does a town (5: one that knows all) know an event -/
def xk (X : kt_X) (t e : Nat) : Bool := t == 5 || (xe X e 7).testBit t
theorem kt_bit : ∀ M, M < 32 → ∀ t, t < 5 → (nI M >>> (nI t &&& 31)) &&& nI 1 = kt_bo (M.testBit t) := by decide +kernel
