/-! the class: rows are copied -/
def kt_cp {α : Type} (M : Nat → Nat → α) (a b n : Nat) : Nat → Nat → α := kt_rw M b (fun q => if q < n then M a q else M b q)
theorem kt_cp_ne {α : Type} (M : Nat → Nat → α) {a b n q : Nat} (h : q ≠ b) : kt_cp M a b n q = M q := kt_rw_ne _ _ h
theorem kt_cp_eq {α : Type} (M : Nat → Nat → α) {a b n q : Nat} : kt_cp M a b n b q = if q < n then M a q else M b q := by unfold kt_cp; rw [kt_rw_eq]
theorem kt_cpf {α : Type} (f g : Nat → α) (n : Nat) : va_cpy f g 0 0 n = fun q => if q < n then f q else g q := by
  funext q
  unfold va_cpy
  simp
section CP
variable {P : kt_P} {i NM pc pc' : Nat} {L : List (Option Value)} {N : Nat} {I : kt_I} {J : kt_J} {R : kt_R} {Q : Option Value → kt_I → kt_J → kt_R → Prop}
theorem kw_cpi_n {a b n0 n1 n : Nat} (hd : kt_cpw i pc pc') (h1 : kt_kd P N a = (6, n0)) (h2 : kt_kd P N b = (6, n1)) (hn : n ≤ n0 ∧ n ≤ n1 ∧ n < 2147483648) (kk : KW P i NM pc' L [] N (kt_cp I a b n) J R Q) :
    KW P i NM pc L [.int (nI n), .int (nI 0), .ref b, .int (nI 0), .ref a] N I J R Q := by
  have hc := nI_clamp (kt_p31 hn.2.2)
  have h0 : (nI 0).toNatClampNeg = 0 := nI_clamp (by decide)
  refine kw_cpi hd h1 h2 ⟨nI_pos (by decide), nI_pos (by decide), nI_pos (kt_p31 hn.2.2), by rw [hc, h0]; omega, by rw [hc, h0]; omega⟩ ?_
  rw [hc, h0, kt_cpf]
  exact kk
theorem kw_cpl_n {a b n0 n1 n : Nat} (hd : kt_cpw i pc pc') (h1 : kt_kd P N a = (7, n0)) (h2 : kt_kd P N b = (7, n1)) (hn : n ≤ n0 ∧ n ≤ n1 ∧ n < 2147483648) (kk : KW P i NM pc' L [] N I (kt_cp J a b n) R Q) :
    KW P i NM pc L [.int (nI n), .int (nI 0), .ref b, .int (nI 0), .ref a] N I J R Q := by
  have hc := nI_clamp (kt_p31 hn.2.2)
  have h0 : (nI 0).toNatClampNeg = 0 := nI_clamp (by decide)
  refine kw_cpl hd h1 h2 ⟨nI_pos (by decide), nI_pos (by decide), nI_pos (kt_p31 hn.2.2), by rw [hc, h0]; omega, by rw [hc, h0]; omega⟩ ?_
  rw [hc, h0, kt_cpf]
  exact kk
end CP
