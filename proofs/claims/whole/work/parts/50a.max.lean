/-! the greater one of two numbers -/
theorem kt_mm1 : Cond.static Lib.Math.max.name ∈ kt_GW := tw_342
theorem kt_mm2 : Cond.initialized "java/lang/Math" ∈ kt_GW := List.mem_filter.mpr ⟨List.mem_of_getElem? (i := 89) (by decide +kernel), by decide +kernel⟩
theorem kt_mcd : prog_9_method_65_code = Lib.Math.max.code := by decide +kernel
theorem kt_mm3 : Cond.code Lib.Math.max.name Lib.Math.max.code 2 (some .int) ∈ kt_GW := kt_mcd ▸ tw_343
theorem kw_max {P : kt_P} {i NM pc pc' : Nat} {L : List (Option Value)} {st : List Value} {N : Nat} {I : kt_I} {J : kt_J} {R : kt_R} {Q : Option Value → kt_I → kt_J → kt_R → Prop} {idx : Nat} {x y : Int32} (hd : kt_dc i pc (.invokestatic idx) 3 pc' ∧ Cond.methodLink (kt_ow i) idx Lib.Math.max.name ∈ kt_GW ∧ 1 ≤ kt_fr i ∧ 40 ≤ kt_lo i) (hst : (st.map fun v => v.category).sum ≤ 8)
    (kk : KW P i NM pc' L (.int (if x < y then y else x) :: st) N I J R Q) : KW P i NM pc L (.int y :: .int x :: st) N I J R Q := by
  obtain ⟨⟨hd, rfl⟩, hw, hr1, hr2⟩ := hd
  intro p e Rm s m args below meth c N0 H locs ls Z F h0 h1 hl hP hS K
  have hro := F.2.2.2.2.2.2
  have hm1 := kt_SS_mono h1
  exact va_mmax F.1.1 F.1.2.1 (F.1.2.2.1.trans hl.1.1.symm) F.1.2.2.2.1 (F.2.1 _ hw) (F.2.1 _ kt_mm1) (F.2.1 _ kt_mm2) (F.2.1 _ kt_mm3) (by omega) (by omega) (by omega) (by omega) hd (kk p e Rm s m args below meth c N0 H locs ls Z F h0 h1 hl hP hS K)
