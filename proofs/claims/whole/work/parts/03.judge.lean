/-! THE JUDGEMENT KW: "from this place of this method, with these locals, this stack and this memory, the method comes to its end, and what it answers and leaves behind meets Q". It is said over the machine (W), for any caller. The rows kw_.. below are its rules, one an instruction. -/
abbrev kt_I : Type := Nat → Nat → Int32
abbrev kt_J : Type := Nat → Nat → Int64
abbrev kt_R : Type := Nat → Nat → Option Nat
/-- z (where the world begins), b (the script), its length, its ints, the classes, the arrays' classes, the launch -/
abbrev kt_P : Type := Nat × Nat × Nat × (Nat → Int32) × va_G × (Nat → ClassId) × Launch
def kt_z (P : kt_P) : Nat := P.1
def kt_b (P : kt_P) : Nat := P.2.1
def kt_L (P : kt_P) : Nat := P.2.2.1
def kt_x (P : kt_P) : Nat → Int32 := P.2.2.2.1
def kt_D (P : kt_P) : va_G := P.2.2.2.2.1
def kt_c (P : kt_P) : Nat → ClassId := P.2.2.2.2.2.1
def kt_l (P : kt_P) : Launch := P.2.2.2.2.2.2
/-- the slots of the first N cells -/
def kt_SS : Nat → Nat
  | 0 => 0
  | n + 1 => kt_SS n + (kt_sz n)
theorem kt_SS_mono {a b : Nat} (h : a ≤ b) : kt_SS a ≤ kt_SS b := by
  induction h with
  | refl => exact Nat.le_refl _
  | step _ ih => exact Nat.le_trans ih (Nat.le_add_right _ _)
def kt_fv (I : kt_I) (J : kt_J) (R : kt_R) (a t j : Nat) : Value := if t = 1 then .long (J a j) else if t = 2 then va_rf (R a j) else .int (I a j)
def kt_fl (I : kt_I) (J : kt_J) (R : kt_R) (a : Nat) : List Nat → Nat → List Value
  | [], _ => []
  | t :: r, j => kt_fv I J R a t j :: kt_fl I J R a r (j + 1)
theorem kt_fl_get (I : kt_I) (J : kt_J) (R : kt_R) (a : Nat) : ∀ (ts : List Nat) (j k : Nat), (kt_fl I J R a ts j)[k]? = (ts[k]?).map (fun t => kt_fv I J R a t (j + k))
  | [], j, k => by simp [kt_fl]
  | t :: r, j, 0 => by simp [kt_fl]
  | t :: r, j, k + 1 => by
    have h := kt_fl_get I J R a r (j + 1) k
    simp only [kt_fl, List.getElem?_cons_succ]
    rw [h]
    congr 1
    funext t
    rw [show j + 1 + k = j + (k + 1) by omega]
theorem kt_fl_len (I : kt_I) (J : kt_J) (R : kt_R) (a : Nat) : ∀ (ts : List Nat) (j : Nat), (kt_fl I J R a ts j).length = ts.length
  | [], _ => rfl
  | _ :: r, j => by simp [kt_fl, kt_fl_len I J R a r (j + 1)]
theorem kt_fl_set {I I' : kt_I} {J J' : kt_J} {R R' : kt_R} {a k t : Nat} {v : Value} {ts : List Nat} (ht : ts[k]? = some t) (h1 : kt_fv I' J' R' a t k = v) (h2 : ∀ t j, j ≠ k → kt_fv I' J' R' a t j = kt_fv I J R a t j) :
    (kt_fl I J R a ts 0).set k v = kt_fl I' J' R' a ts 0 := by
  have hk : k < ts.length := (List.getElem?_eq_some_iff.mp ht).1
  apply List.ext_getElem?
  intro m
  rw [kt_fl_get I' J' R' a ts 0 m, Nat.zero_add]
  by_cases hm : m = k
  · subst hm
    rw [List.getElem?_set_self (by rw [kt_fl_len]; exact hk), ht]
    simp [h1]
  · rw [List.getElem?_set_ne (fun e => hm e.symm), kt_fl_get I J R a ts 0 m, Nat.zero_add]
    congr 1
    funext t
    exact (h2 t m hm).symm
def kt_ce (c : Nat → ClassId) (I : kt_I) (J : kt_J) (R : kt_R) (a t n : Nat) : va_E :=
  if t < 6 then .inr (t, kt_fl I J R a (kt_ft t) 0) else if t = 6 then .inl (c 0, n, .inl (I a)) else if t = 7 then .inl (c 1, n, .inr (.inl (J a)))
  else if t = 8 then .inl (c 2, n, .inl (I a)) else .inl (c 3, n, .inr (.inr (.inr (.inr (R a)))))
def kt_kn (k : Nat) : Nat × Nat := kt_tb.getD k (99, 0)
theorem kt_sz_arr {N t n : Nat} (h : kt_kn N = (t, n)) (ht : ¬ t < 6) : kt_SS (N + 1) = kt_SS N + n := by
  have h1 : kt_tb.getD N (99, 0) = (t, n) := h
  show kt_SS N + kt_sz N = _
  unfold kt_sz
  rw [h1]
  simp only [if_neg ht]
theorem kt_sz_obj {N t n : Nat} (h : kt_kn N = (t, n)) (ht : t < 6) : kt_SS (N + 1) = kt_SS N + (kt_ft t).length := by
  have h1 : kt_tb.getD N (99, 0) = (t, n) := h
  show kt_SS N + kt_sz N = _
  unfold kt_sz
  rw [h1]
  simp only [if_pos ht]
def kt_ws (P : kt_P) (N : Nat) (I : kt_I) (J : kt_J) (R : kt_R) : va_W := (List.range N).map fun k => (kt_z P + k, kt_ce (kt_c P) I J R (kt_z P + k) (kt_kn k).1 (kt_kn k).2)
/-- what lies at an address, and its length -/
def kt_kd (P : kt_P) (N a : Nat) : Nat × Nat := if kt_z P ≤ a ∧ a < kt_z P + N then kt_kn (a - kt_z P) else if a = kt_b P then (10, kt_L P) else (99, 0)
theorem kt_ws_get (P : kt_P) (N : Nat) (I : kt_I) (J : kt_J) (R : kt_R) {k : Nat} (hk : k < N) : (kt_ws P N I J R)[k]? = some (kt_z P + k, kt_ce (kt_c P) I J R (kt_z P + k) (kt_kn k).1 (kt_kn k).2) := by
  unfold kt_ws
  rw [List.getElem?_map, List.getElem?_range hk]
  rfl
theorem kt_ws_len (P : kt_P) (N : Nat) (I : kt_I) (J : kt_J) (R : kt_R) : (kt_ws P N I J R).length = N := by simp [kt_ws]
theorem kt_ws_at (P : kt_P) (N : Nat) (I : kt_I) (J : kt_J) (R : kt_R) {k : Nat} {q : Nat × va_E} (h : (kt_ws P N I J R)[k]? = some q) : k < N ∧ q.1 = kt_z P + k := by
  have hk : k < N := by
    have := (List.getElem?_eq_some_iff.mp h).1
    rwa [kt_ws_len] at this
  rw [kt_ws_get P N I J R hk] at h
  cases h
  exact ⟨hk, rfl⟩
theorem kt_at {P : kt_P} {N a t n : Nat} (h : kt_kd P N a = (t, n)) (ht : t < 10) : ∃ k, k < N ∧ a = kt_z P + k ∧ kt_kn k = (t, n) := by
  unfold kt_kd at h
  split at h
  · rename_i hc
    exact ⟨a - kt_z P, by omega, by omega, h⟩
  · split at h
    · cases h; omega
    · cases h; omega
theorem kt_row (P : kt_P) {N a t n : Nat} (I : kt_I) (J : kt_J) (R : kt_R) (h : kt_kd P N a = (t, n)) (ht : t < 10) : ∃ k, k < N ∧ a = kt_z P + k ∧ (kt_ws P N I J R)[k]? = some (a, kt_ce (kt_c P) I J R a t n) := by
  obtain ⟨k, h1, h2, h3⟩ := kt_at h ht
  refine ⟨k, h1, h2, ?_⟩
  rw [kt_ws_get P N I J R h1, h3, h2]
theorem kt_ws_set (P : kt_P) {N a t n k : Nat} {I I' : kt_I} {J J' : kt_J} {R R' : kt_R} {e : va_E} (hk : (kt_ws P N I J R)[k]? = some (a, kt_ce (kt_c P) I J R a t n)) (hkd : kt_kd P N a = (t, n)) (ht : t < 10)
    (he : kt_ce (kt_c P) I' J' R' a t n = e) (ho : ∀ q t n, q ≠ a → kt_ce (kt_c P) I' J' R' q t n = kt_ce (kt_c P) I J R q t n) : (kt_ws P N I J R).set k (a, e) = kt_ws P N I' J' R' := by
  obtain ⟨hkN, hka⟩ := kt_ws_at P N I J R hk
  obtain ⟨k2, h1, h2, h3⟩ := kt_at hkd ht
  simp only at hka
  have hkk : k2 = k := by omega
  subst hkk
  apply List.ext_getElem?
  intro m
  by_cases hm : m = k2
  · subst hm
    rw [List.getElem?_set_self (by rw [kt_ws_len]; exact hkN), kt_ws_get P N I' J' R' hkN, h3, ← h2, he]
  · rw [List.getElem?_set_ne (fun e => hm e.symm)]
    by_cases hmN : m < N
    · rw [kt_ws_get P N I J R hmN, kt_ws_get P N I' J' R' hmN, ho _ _ _ (by omega)]
    · rw [List.getElem?_eq_none (by rw [kt_ws_len]; omega), List.getElem?_eq_none (by rw [kt_ws_len]; omega)]
def kt_A (P : kt_P) : Nat → Prop := fun q => kt_z P ≤ q
theorem kt_wD (P : kt_P) (N : Nat) (I : kt_I) (J : kt_J) (R : kt_R) : va_D (kt_A P) (kt_ws P N I J R) := by
  refine ⟨fun i j x y hi hj hxy => ?_, fun k q hk => ?_⟩
  · have h1 := kt_ws_at P N I J R hi
    have h2 := kt_ws_at P N I J R hj
    omega
  · have h1 := kt_ws_at P N I J R hk
    show kt_z P ≤ q.1
    omega
/-! locals by their places -/
def kt_c2 : Option Value → Bool
  | some (.long _) => true
  | some (.double _) => true
  | _ => false
theorem kt_c2_cat {v : Value} : kt_c2 (some v) = (v.category == 2) := by cases v <;> rfl
def kt_s1 : List (Option Value) → Nat → Value → List (Option Value)
  | [], _, _ => []
  | _ :: r, 0, v => some v :: r
  | o :: r, 1, v => (if kt_c2 o then none else o) :: kt_s1 r 0 v
  | o :: r, k + 2, v => o :: kt_s1 r (k + 1) v
def kt_s2 : List (Option Value) → Nat → Value → List (Option Value)
  | [], _, _ => []
  | _ :: [], 0, v => [some v]
  | _ :: _ :: r, 0, v => some v :: none :: r
  | o :: r, 1, v => (if kt_c2 o then none else o) :: kt_s2 r 0 v
  | o :: r, k + 2, v => o :: kt_s2 r (k + 1) v
theorem kt_s1_at : ∀ (L : List (Option Value)) (k i : Nat) (v w : Value), (kt_s1 L k v)[i]? = some (some w) → (i = k ∧ w = v) ∨ (i ≠ k ∧ L[i]? = some (some w) ∧ ¬ (i + 1 = k ∧ w.category = 2))
  | [], k, i, v, w, h => by simp [kt_s1] at h
  | o :: r, 0, i, v, w, h => by
    cases i with
    | zero => simp [kt_s1] at h; exact Or.inl ⟨rfl, h.symm⟩
    | succ i => simp [kt_s1] at h; exact Or.inr ⟨by omega, by simpa using h, by omega⟩
  | o :: r, 1, i, v, w, h => by
    cases i with
    | zero =>
      simp only [kt_s1, List.getElem?_cons_zero, Option.some.injEq] at h
      cases hc : kt_c2 o with
      | true => simp [hc] at h
      | false =>
        simp [hc] at h
        subst h
        refine Or.inr ⟨by omega, by simp, fun q => ?_⟩
        rw [kt_c2_cat] at hc
        simp [q.2] at hc
    | succ i =>
      simp only [kt_s1, List.getElem?_cons_succ] at h
      rcases kt_s1_at r 0 i v w h with ⟨h1, h2⟩ | ⟨h1, h2, h3⟩
      · exact Or.inl ⟨by omega, h2⟩
      · exact Or.inr ⟨by omega, by simpa using h2, by omega⟩
  | o :: r, k + 2, i, v, w, h => by
    cases i with
    | zero => simp [kt_s1] at h; subst h; exact Or.inr ⟨by omega, by simp, by omega⟩
    | succ i =>
      simp only [kt_s1, List.getElem?_cons_succ] at h
      rcases kt_s1_at r (k + 1) i v w h with ⟨h1, h2⟩ | ⟨h1, h2, h3⟩
      · exact Or.inl ⟨by omega, h2⟩
      · exact Or.inr ⟨by omega, by simpa using h2, fun q => h3 ⟨by omega, q.2⟩⟩
theorem kt_s2_at : ∀ (L : List (Option Value)) (k i : Nat) (v w : Value), (kt_s2 L k v)[i]? = some (some w) → (i = k ∧ w = v) ∨ (i ≠ k ∧ i ≠ k + 1 ∧ L[i]? = some (some w) ∧ ¬ (i + 1 = k ∧ w.category = 2))
  | [], k, i, v, w, h => by simp [kt_s2] at h
  | [o], 0, i, v, w, h => by
    cases i with
    | zero => simp [kt_s2] at h; exact Or.inl ⟨rfl, h.symm⟩
    | succ i => simp [kt_s2] at h
  | o :: o2 :: r, 0, i, v, w, h => by
    cases i with
    | zero => simp [kt_s2] at h; exact Or.inl ⟨rfl, h.symm⟩
    | succ i =>
      cases i with
      | zero => simp [kt_s2] at h
      | succ i => simp [kt_s2] at h; exact Or.inr ⟨by omega, by omega, by simpa using h, by omega⟩
  | o :: r, 1, i, v, w, h => by
    cases i with
    | zero =>
      simp only [kt_s2, List.getElem?_cons_zero, Option.some.injEq] at h
      cases hc : kt_c2 o with
      | true => simp [hc] at h
      | false =>
        simp [hc] at h
        subst h
        refine Or.inr ⟨by omega, by omega, by simp, fun q => ?_⟩
        rw [kt_c2_cat] at hc
        simp [q.2] at hc
    | succ i =>
      simp only [kt_s2, List.getElem?_cons_succ] at h
      rcases kt_s2_at r 0 i v w h with ⟨h1, h2⟩ | ⟨h1, h1', h2, h3⟩
      · exact Or.inl ⟨by omega, h2⟩
      · exact Or.inr ⟨by omega, by omega, by simpa using h2, by omega⟩
  | o :: r, k + 2, i, v, w, h => by
    cases i with
    | zero => simp [kt_s2] at h; subst h; exact Or.inr ⟨by omega, by omega, by simp, by omega⟩
    | succ i =>
      simp only [kt_s2, List.getElem?_cons_succ] at h
      rcases kt_s2_at r (k + 1) i v w h with ⟨h1, h2⟩ | ⟨h1, h1', h2, h3⟩
      · exact Or.inl ⟨by omega, h2⟩
      · exact Or.inr ⟨by omega, by omega, by simpa using h2, fun q => h3 ⟨by omega, q.2⟩⟩
def kt_LH (ls : Array Slot) (n : Nat) (L : List (Option Value)) : Prop := lv_has ls n [] ∧ ∀ (i : Nat) (v : Value), L[i]? = some (some v) → ls[i]? = some (.val v)
def kt_la (L : List (Option Value)) : List (Nat × Value) := (List.range L.length).filterMap fun i => match L[i]? with
  | some (some v) => some (i, v)
  | _ => none
theorem kt_la_mem {L : List (Option Value)} {q : Nat × Value} : q ∈ kt_la L ↔ L[q.1]? = some (some q.2) := by
  unfold kt_la
  rw [List.mem_filterMap]
  constructor
  · rintro ⟨i, -, h⟩
    split at h
    · rename_i v hv
      cases h
      exact hv
    · cases h
  · intro h
    refine ⟨q.1, List.mem_range.mpr (List.getElem?_eq_some_iff.mp h).1, ?_⟩
    rw [h]
theorem kt_LH.has {ls : Array Slot} {n : Nat} {L : List (Option Value)} (h : kt_LH ls n L) : lv_has ls n (kt_la L) := ⟨h.1.1, h.1.2.1, fun q hq => h.2 q.1 q.2 (kt_la_mem.mp hq)⟩
theorem kt_LH.st1 {ls' : Array Slot} {n k : Nat} {L : List (Option Value)} {v : Value} (h : lv_has ls' n ((k, v) :: (kt_la L).filter (fun q => !(q.1 == k) && !(q.1 + 1 == k && q.2.category == 2)))) : kt_LH ls' n (kt_s1 L k v) := by
  refine ⟨⟨h.1, h.2.1, fun q hq => by cases hq⟩, fun i w hw => ?_⟩
  rcases kt_s1_at L k i v w hw with ⟨rfl, rfl⟩ | ⟨h1, h2, h3⟩
  · exact h.2.2 (i, w) List.mem_cons_self
  · refine h.2.2 (i, w) (List.mem_cons_of_mem _ (List.mem_filter.mpr ⟨kt_la_mem.mpr h2, ?_⟩))
    simp only [Bool.and_eq_true, Bool.not_eq_true', beq_eq_false_iff_ne, Bool.and_eq_false_iff]
    refine ⟨h1, ?_⟩
    by_cases hq : i + 1 = k
    · exact Or.inr (fun z => h3 ⟨hq, z⟩)
    · exact Or.inl hq
theorem kt_LH.st2 {ls' : Array Slot} {n k : Nat} {L : List (Option Value)} {v : Value} (h : lv_has ls' n ((k, v) :: (kt_la L).filter (fun q => !(q.1 == k) && (!(q.1 == k + 1) && !(q.1 + 1 == k && q.2.category == 2))))) : kt_LH ls' n (kt_s2 L k v) := by
  refine ⟨⟨h.1, h.2.1, fun q hq => by cases hq⟩, fun i w hw => ?_⟩
  rcases kt_s2_at L k i v w hw with ⟨rfl, rfl⟩ | ⟨h1, h1', h2, h3⟩
  · exact h.2.2 (i, w) List.mem_cons_self
  · refine h.2.2 (i, w) (List.mem_cons_of_mem _ (List.mem_filter.mpr ⟨kt_la_mem.mpr h2, ?_⟩))
    simp only [Bool.and_eq_true, Bool.not_eq_true', beq_eq_false_iff_ne, Bool.and_eq_false_iff]
    refine ⟨h1, h1', ?_⟩
    by_cases hq : i + 1 = k
    · exact Or.inr (fun z => h3 ⟨hq, z⟩)
    · exact Or.inl hq
/-! the locals with which a method begins -/
def kt_el : List Value → List (Option Value)
  | [] => []
  | v :: vs => if v.category = 2 then some v :: none :: kt_el vs else some v :: kt_el vs
def kt_en (n : Nat) (vs : List Value) : List (Option Value) := kt_el vs ++ List.replicate (n - (kt_el vs).length) none
theorem kt_el_at : ∀ (vs : List Value) (p i : Nat) (w : Value), (kt_el vs)[i]? = some (some w) → (p + i, w) ∈ lv_args p vs
  | [], p, i, w, h => by simp [kt_el] at h
  | v :: vs, p, i, w, h => by
    unfold kt_el at h
    unfold lv_args
    by_cases hc : v.category = 2
    · rw [if_pos hc] at h ⊢
      match i, h with
      | 0, h => simp at h; subst h; exact List.mem_cons_self
      | 1, h => simp at h
      | i + 2, h =>
        simp only [List.getElem?_cons_succ] at h
        have := kt_el_at vs (p + 2) i w h
        rw [show p + (i + 2) = p + 2 + i by omega]
        exact List.mem_cons_of_mem _ this
    · rw [if_neg hc] at h ⊢
      match i, h with
      | 0, h => simp at h; subst h; exact List.mem_cons_self
      | i + 1, h =>
        simp only [List.getElem?_cons_succ] at h
        have := kt_el_at vs (p + 1) i w h
        rw [show p + (i + 1) = p + 1 + i by omega]
        exact List.mem_cons_of_mem _ this
theorem kt_el_len : ∀ vs : List Value, (lg_sl vs).length = (kt_el vs).length
  | [] => rfl
  | v :: vs => by
    have h := kt_el_len vs
    unfold lg_sl at h ⊢
    rw [List.flatMap_cons, List.length_append, h]
    show _ = (if v.category = 2 then some v :: none :: kt_el vs else some v :: kt_el vs).length
    by_cases hc : v.category = 2
    · rw [if_pos hc, if_pos hc]; simp only [List.length_cons, List.length_nil]; omega
    · rw [if_neg hc, if_neg hc]; simp only [List.length_cons, List.length_nil]; omega
theorem kt_LH.entry {vs : List Value} {n : Nat} (h : (kt_el vs).length ≤ n) : kt_LH ((lg_sl vs ++ List.replicate (n - (lg_sl vs).length) Slot.unset).toArray) n (kt_en n vs) := by
  have hl := lv_entry vs (n := n) (by rw [kt_el_len]; exact h)
  refine ⟨⟨hl.1, hl.2.1, fun q hq => by cases hq⟩, fun i w hw => ?_⟩
  have hi : i < (kt_el vs).length := by
    by_cases q : i < (kt_el vs).length
    · exact q
    · exfalso
      unfold kt_en at hw
      rw [List.getElem?_append_right (by omega)] at hw
      have := List.eq_of_mem_replicate (List.mem_of_getElem? hw)
      cases this
  unfold kt_en at hw
  rw [List.getElem?_append_left hi] at hw
  have := kt_el_at vs 0 i w hw
  rw [Nat.zero_add] at this
  exact hl.2.2 _ this
