section KC
variable {P : kt_P} {i NM pc pc' : Nat} {L L' : List (Option Value)} {st : List Value} {N : Nat} {I I' : kt_I} {J J' : kt_J} {R R' : kt_R} {Q : Option Value → kt_I → kt_J → kt_R → Prop}
/-! the heap's size: as many cells as the world has -/
theorem kt_size {p : Program} {l : Launch} {e : Env} {Rm : Room} {s : State} {m : MethodId} {args : Array Value} {below : List Frame} {meth : Method} {c : Code} {N0 : Nat} {H : Heap} {locs : List Loc} {sl : Nat} {Z : State → Prop} {g : JFrame}
    (hP : va_P (kt_D P) vwCl (kt_ws P N I J R) H) (hS : va_S (kt_A P) s.heap H locs) (hs : s.heap.size = kt_z P + N0) (h0 : N0 ≤ N) (k : H.size = kt_z P + N → W p l e Rm s m args below meth c H locs (N - N0) sl Z g) : W p l e Rm s m args below meth c H locs (N - N0) sl Z g := by
  intro T hT X
  have h1 := X.heapSize
  rw [hT] at h1
  have h2 : kt_z P + N ≤ H.size := by
    have h3 := hS.1
    by_cases hN : N = N0
    · omega
    · have h4 := kt_ws_get P N I J R (k := N - 1) (by omega)
      have h5 := (hP _ _ h4).lt
      simp only at h5
      omega
  exact k (by omega) T hT X
theorem kt_wsz {p : Program} {l : Launch} {e : Env} {Rm : Room} {s : State} {m : MethodId} {args : Array Value} {below : List Frame} {meth : Method} {c : Code} {H : Heap} {locs : List Loc} {ce sl : Nat} {Z : State → Prop} {g : JFrame}
    (k : H.size ≤ s.heap.size + ce → W p l e Rm s m args below meth c H locs ce sl Z g) : W p l e Rm s m args below meth c H locs ce sl Z g := by
  intro T hT X
  have h1 := X.heapSize
  rw [hT] at h1
  exact k h1 T hT X
theorem kt_ws_push (P : kt_P) {N : Nat} {I I' : kt_I} {J J' : kt_J} {R R' : kt_R} {e : va_E} (he : kt_ce (kt_c P) I' J' R' (kt_z P + N) (kt_kn N).1 (kt_kn N).2 = e) (ho : ∀ q, q ≠ kt_z P + N → I' q = I q ∧ J' q = J q ∧ R' q = R q) : kt_ws P N I J R ++ [(kt_z P + N, e)] = kt_ws P (N + 1) I' J' R' := by
  unfold kt_ws
  rw [List.range_succ, List.map_append, List.map_singleton, he]
  congr 1
  apply List.map_congr_left
  intro k hk
  have hk1 := List.mem_range.mp hk
  obtain ⟨h1, h2, h3⟩ := ho (kt_z P + k) (by omega)
  rw [kt_ce_cong h1 h2 h3]
theorem kt_new_q {q : Nat} {H1 : Heap} {e : va_E} (hP1 : va_P (kt_D P) vwCl (kt_ws P N I J R ++ [(q, e)]) H1) (hD1 : va_D (kt_A P) (kt_ws P N I J R ++ [(q, e)])) (hsz : H1.size ≤ kt_z P + N + 1) : q = kt_z P + N := by
  have hlast : (kt_ws P N I J R ++ [(q, e)])[N]? = some (q, e) := by
    rw [List.getElem?_append_right (by rw [kt_ws_len]; exact Nat.le_refl _), kt_ws_len]
    simp
  have h1 := (hP1 _ _ hlast).lt
  have h2 : kt_z P ≤ q := hD1.2 _ _ hlast
  simp only at h1
  by_cases h3 : q < kt_z P + N
  · exfalso
    have h4 := kt_ws_get P N I J R (k := q - kt_z P) (by omega)
    have h5 : (kt_ws P N I J R ++ [(q, e)])[q - kt_z P]? = some (kt_z P + (q - kt_z P), kt_ce (kt_c P) I J R (kt_z P + (q - kt_z P)) (kt_kn (q - kt_z P)).1 (kt_kn (q - kt_z P)).2) := by
      rw [List.getElem?_append_left (by rw [kt_ws_len]; omega)]
      exact h4
    have h6 := hD1.1 _ _ _ _ h5 hlast (by simp only; omega)
    omega
  · omega
/-- 'newarray int' -/
theorem kw_newI {n : Nat} {x : Int32} (hd : kt_dc i pc (.newarray .int) 2 pc' ∧ Cond.arrayClass .int ∈ kt_GW) (hkn : kt_kn N = (6, n)) (hx : ¬ x < 0 ∧ x.toNatClampNeg = n ∧ n ≤ 10000) (hN : N < NM)
    (kk : KW P i NM pc' L (.ref (kt_z P + N) :: st) (N + 1) (kt_rw I (kt_z P + N) (fun _ => 0)) J R Q) : KW P i NM pc L (.int x :: st) N I J R Q := by
  obtain ⟨⟨hd, rfl⟩, hw⟩ := hd
  obtain ⟨hx1, hx2, hx3⟩ := hx
  intro p e Rm s m args below meth c N0 H locs ls Z F h0 h1 hl hP hS K
  have hsn : kt_SS (N + 1) = kt_SS N + n := kt_sz_arr hkn (by omega)
  have hm1 := kt_SS_mono (a := N + 1) (b := NM) hN
  have hm2 := kt_SS_mono h0
  have hro := F.2.2.2.2.2.2
  refine va_newa (atype := .int) F.1.1 F.1.2.1 (F.2.1 _ hw) (ty := .int) rfl F.2.2.1.1 hP (kt_wD P N I J R) hS (fun q hq => by have h8 := F.2.2.2.2.2.1; show kt_z P ≤ q; omega) (N' := n) (a0 := (n, .inl (fun _ => 0))) (fun cA => rfl) hx1 hx2 (by show n * 4 ≤ _; omega) (by omega) (by omega) hd ?_
  intro q cA H1 hK1 hP1 hD1 hS1
  refine kt_wsz fun hsz => ?_
  have hz := F.2.2.2.2.2.1
  have hq := kt_new_q hP1 hD1 (by omega)
  subst hq
  have hcA : cA = kt_c P 0 := by
    have g1 := (hK1.2 4 (cA, .int) rfl).2
    have g2 := (F.2.2.1.1.2 0 (kt_c P 0, .int) rfl).2
    exact Option.some.inj (g1.symm.trans g2)
  subst hcA
  rw [kt_ws_push P (N := N) (I := I) (J := J) (R := R) (I' := kt_rw I (kt_z P + N) (fun _ => 0)) (J' := J) (R' := R) (by rw [hkn]; simp [kt_ce, kt_rw]) (fun q hq => ⟨kt_rw_ne I _ hq, rfl, rfl⟩)] at hP1
  have K1 := kk p e Rm s m args below meth c N0 H1 locs ls Z F (by omega) (by omega) hl hP1 hS1 K
  rw [show N + 1 - N0 = N - N0 + 1 by omega, show kt_SS (N + 1) - kt_SS N0 = kt_SS N - kt_SS N0 + n by omega] at K1
  exact K1
/-- 'newarray long' -/
theorem kw_newJ {n : Nat} {x : Int32} (hd : kt_dc i pc (.newarray .long) 2 pc' ∧ Cond.arrayClass .long ∈ kt_GW) (hkn : kt_kn N = (7, n)) (hx : ¬ x < 0 ∧ x.toNatClampNeg = n ∧ n ≤ 10000) (hN : N < NM)
    (kk : KW P i NM pc' L (.ref (kt_z P + N) :: st) (N + 1) I (kt_rw J (kt_z P + N) (fun _ => 0)) R Q) : KW P i NM pc L (.int x :: st) N I J R Q := by
  obtain ⟨⟨hd, rfl⟩, hw⟩ := hd
  obtain ⟨hx1, hx2, hx3⟩ := hx
  intro p e Rm s m args below meth c N0 H locs ls Z F h0 h1 hl hP hS K
  have hsn : kt_SS (N + 1) = kt_SS N + n := kt_sz_arr hkn (by omega)
  have hm1 := kt_SS_mono (a := N + 1) (b := NM) hN
  have hm2 := kt_SS_mono h0
  have hro := F.2.2.2.2.2.2
  refine va_newa (atype := .long) F.1.1 F.1.2.1 (F.2.1 _ hw) (ty := .long) rfl F.2.2.1.1 hP (kt_wD P N I J R) hS (fun q hq => by have h8 := F.2.2.2.2.2.1; show kt_z P ≤ q; omega) (N' := n) (a0 := (n, .inr (.inl (fun _ => 0)))) (fun cA => rfl) hx1 hx2 (by show n * 8 ≤ _; omega) (by omega) (by omega) hd ?_
  intro q cA H1 hK1 hP1 hD1 hS1
  refine kt_wsz fun hsz => ?_
  have hz := F.2.2.2.2.2.1
  have hq := kt_new_q hP1 hD1 (by omega)
  subst hq
  have hcA : cA = kt_c P 1 := by
    have g1 := (hK1.2 4 (cA, .long) rfl).2
    have g2 := (F.2.2.1.1.2 1 (kt_c P 1, .long) rfl).2
    exact Option.some.inj (g1.symm.trans g2)
  subst hcA
  rw [kt_ws_push P (N := N) (I := I) (J := J) (R := R) (I' := I) (J' := kt_rw J (kt_z P + N) (fun _ => 0)) (R' := R) (by rw [hkn]; simp [kt_ce, kt_rw]) (fun q hq => ⟨rfl, kt_rw_ne J _ hq, rfl⟩)] at hP1
  have K1 := kk p e Rm s m args below meth c N0 H1 locs ls Z F (by omega) (by omega) hl hP1 hS1 K
  rw [show N + 1 - N0 = N - N0 + 1 by omega, show kt_SS (N + 1) - kt_SS N0 = kt_SS N - kt_SS N0 + n by omega] at K1
  exact K1
/-- 'newarray boolean' -/
theorem kw_newZ {n : Nat} {x : Int32} (hd : kt_dc i pc (.newarray .boolean) 2 pc' ∧ Cond.arrayClass .boolean ∈ kt_GW) (hkn : kt_kn N = (8, n)) (hx : ¬ x < 0 ∧ x.toNatClampNeg = n ∧ n ≤ 10000) (hN : N < NM)
    (kk : KW P i NM pc' L (.ref (kt_z P + N) :: st) (N + 1) (kt_rw I (kt_z P + N) (fun _ => 0)) J R Q) : KW P i NM pc L (.int x :: st) N I J R Q := by
  obtain ⟨⟨hd, rfl⟩, hw⟩ := hd
  obtain ⟨hx1, hx2, hx3⟩ := hx
  intro p e Rm s m args below meth c N0 H locs ls Z F h0 h1 hl hP hS K
  have hsn : kt_SS (N + 1) = kt_SS N + n := kt_sz_arr hkn (by omega)
  have hm1 := kt_SS_mono (a := N + 1) (b := NM) hN
  have hm2 := kt_SS_mono h0
  have hro := F.2.2.2.2.2.2
  refine va_newa (atype := .boolean) F.1.1 F.1.2.1 (F.2.1 _ hw) (ty := .boolean) rfl F.2.2.1.1 hP (kt_wD P N I J R) hS (fun q hq => by have h8 := F.2.2.2.2.2.1; show kt_z P ≤ q; omega) (N' := n) (a0 := (n, .inl (fun _ => 0))) (fun cA => rfl) hx1 hx2 (by show n * 1 ≤ _; omega) (by omega) (by omega) hd ?_
  intro q cA H1 hK1 hP1 hD1 hS1
  refine kt_wsz fun hsz => ?_
  have hz := F.2.2.2.2.2.1
  have hq := kt_new_q hP1 hD1 (by omega)
  subst hq
  have hcA : cA = kt_c P 2 := by
    have g1 := (hK1.2 4 (cA, .boolean) rfl).2
    have g2 := (F.2.2.1.1.2 2 (kt_c P 2, .boolean) rfl).2
    exact Option.some.inj (g1.symm.trans g2)
  subst hcA
  rw [kt_ws_push P (N := N) (I := I) (J := J) (R := R) (I' := kt_rw I (kt_z P + N) (fun _ => 0)) (J' := J) (R' := R) (by rw [hkn]; simp [kt_ce, kt_rw]) (fun q hq => ⟨kt_rw_ne I _ hq, rfl, rfl⟩)] at hP1
  have K1 := kk p e Rm s m args below meth c N0 H1 locs ls Z F (by omega) (by omega) hl hP1 hS1 K
  rw [show N + 1 - N0 = N - N0 + 1 by omega, show kt_SS (N + 1) - kt_SS N0 = kt_SS N - kt_SS N0 + n by omega] at K1
  exact K1
/-- 'anewarray' of countries -/
theorem kw_newQ {n idx : Nat} {x : Int32} (hd : kt_dc i pc (.anewarray idx) 3 pc' ∧ Cond.classLink (kt_ow i) idx RX0 ∈ kt_GW) (hkn : kt_kn N = (9, n)) (hx : ¬ x < 0 ∧ x.toNatClampNeg = n ∧ n ≤ 10000) (hN : N < NM)
    (kk : KW P i NM pc' L (.ref (kt_z P + N) :: st) (N + 1) I J (kt_rw R (kt_z P + N) (fun _ => none)) Q) : KW P i NM pc L (.int x :: st) N I J R Q := by
  obtain ⟨⟨hd, rfl⟩, hw⟩ := hd
  obtain ⟨hx1, hx2, hx3⟩ := hx
  intro p e Rm s m args below meth c N0 H locs ls Z F h0 h1 hl hP hS K
  have hsn : kt_SS (N + 1) = kt_SS N + n := kt_sz_arr hkn (by omega)
  have hm1 := kt_SS_mono (a := N + 1) (b := NM) hN
  have hm2 := kt_SS_mono h0
  have hro := F.2.2.2.2.2.2
  refine va_newq F.1.1 F.1.2.1 F.1.2.2.2.1 (F.2.1 _ hw) F.2.2.1.2.2 F.2.2.1.1 hP (kt_wD P N I J R) hS (fun q hq => by have h8 := F.2.2.2.2.2.1; show kt_z P ≤ q; omega) (N' := n) hx1 hx2 (by omega) (by omega) (by omega) hd ?_
  intro q cA H1 hK1 hP1 hD1 hS1
  refine kt_wsz fun hsz => ?_
  have hz := F.2.2.2.2.2.1
  have hq := kt_new_q hP1 hD1 (by omega)
  subst hq
  have hcA : cA = kt_c P 3 := by
    obtain ⟨_, _, _, _, _, g1⟩ := (hK1.2 4 (cA, .object RX0) rfl).2
    obtain ⟨_, _, _, _, _, g2⟩ := (F.2.2.1.1.2 3 (kt_c P 3, .object RX0) rfl).2
    exact Option.some.inj (g1.symm.trans g2)
  subst hcA
  rw [kt_ws_push P (N := N) (I := I) (J := J) (R := R) (I' := I) (J' := J) (R' := kt_rw R (kt_z P + N) (fun _ => none)) (by rw [hkn]; simp [kt_ce, kt_rw]) (fun q hq => ⟨rfl, rfl, kt_rw_ne R _ hq⟩)] at hP1
  have K1 := kk p e Rm s m args below meth c N0 H1 locs ls Z F (by omega) (by omega) hl hP1 hS1 K
  rw [show N + 1 - N0 = N - N0 + 1 by omega, show kt_SS (N + 1) - kt_SS N0 = kt_SS N - kt_SS N0 + n by omega] at K1
  exact K1
/-- 'new' -/
theorem kt_fl_new {a : Nat} (h1 : ∀ j, I' a j = 0) (h2 : ∀ j, J' a j = 0) (h3 : ∀ j, R' a j = none) : ∀ (ts : List Nat) (j : Nat), kt_fl I' J' R' a ts j = ts.map kt_dv
  | [], _ => rfl
  | t :: r, j => by
    unfold kt_fl
    rw [kt_fl_new h1 h2 h3 r (j + 1), List.map_cons]
    congr 1
    unfold kt_fv kt_dv
    rw [h1, h2, h3]
    rfl
theorem kw_new {ci idx : Nat} (hd : kt_dc i pc (.new idx) 3 pc' ∧ ∃ (C : String) (T : u_T) (Nf : Nat), vwCl[ci]? = some (C, T, Nf) ∧ Cond.classLink (kt_ow i) idx C ∈ kt_GW ∧ Cond.instantiable C Nf ∈ kt_GW ∧ Cond.initialized C ∈ kt_GW) (hci : ci < 6) (hkn : kt_kn N = (ci, 0)) (hN : N < NM)
    (kk : KW P i NM pc' L (.ref (kt_z P + N) :: st) (N + 1) (kt_rw I (kt_z P + N) (fun _ => 0)) (kt_rw J (kt_z P + N) (fun _ => 0)) (kt_rw R (kt_z P + N) (fun _ => none)) Q) : KW P i NM pc L st N I J R Q := by
  obtain ⟨⟨hd, rfl⟩, C, T, Nf, hq, hw1, hw2, hw3⟩ := hd
  intro p e Rm s m args below meth c N0 H locs ls Z F h0 h1 hl hP hS K
  obtain ⟨ty0, hty0, hdv, hNf⟩ := kt_cy hq
  have hsn : kt_SS (N + 1) = kt_SS N + Nf := by rw [kt_sz_obj hkn hci, hNf]
  have hm1 := kt_SS_mono (a := N + 1) (b := NM) hN
  have hm2 := kt_SS_mono h0
  have hro := F.2.2.2.2.2.2
  refine va_new F.1.1 F.1.2.1 F.2.1 (kt_cw hq) ty0 hty0 F.1.2.2.2.1 (F.2.1 _ hw1) (F.2.1 _ hw2) (F.2.1 _ hw3) F.2.2.1.1 hP (kt_wD P N I J R) hS (fun q hq => by have h8 := F.2.2.2.2.2.1; show kt_z P ≤ q; omega) hq (fs := (kt_ft ci).map kt_dv) hdv (by omega) (by omega) hd ?_
  intro q H1 hP1 hD1 hS1
  refine kt_wsz fun hsz => ?_
  have hz := F.2.2.2.2.2.1
  have hq := kt_new_q hP1 hD1 (by omega)
  subst hq
  rw [kt_ws_push P (N := N) (I := I) (J := J) (R := R) (I' := kt_rw I (kt_z P + N) (fun _ => 0)) (J' := kt_rw J (kt_z P + N) (fun _ => 0)) (R' := kt_rw R (kt_z P + N) (fun _ => none)) (by
    rw [hkn, ← kt_fl_new (I' := kt_rw I (kt_z P + N) (fun _ => 0)) (J' := kt_rw J (kt_z P + N) (fun _ => 0)) (R' := kt_rw R (kt_z P + N) (fun _ => none)) (a := kt_z P + N) (fun j => by simp [kt_rw]) (fun j => by simp [kt_rw]) (fun j => by simp [kt_rw]) (kt_ft ci) 0]
    simp [kt_ce, hci]) (fun q hq => ⟨kt_rw_ne I _ hq, kt_rw_ne J _ hq, kt_rw_ne R _ hq⟩)] at hP1
  have K1 := kk p e Rm s m args below meth c N0 H1 locs ls Z F (by omega) (by omega) hl hP1 hS1 K
  rw [show N + 1 - N0 = N - N0 + 1 by omega, show kt_SS (N + 1) - kt_SS N0 = kt_SS N - kt_SS N0 + Nf by omega] at K1
  exact K1
/-- Object.<init> -/
theorem kw_objinit {a idx : Nat} (hd : kt_dc i pc (.invokespecial idx) 3 pc' ∧ Cond.methodLink (kt_ow i) idx Lib.objectInit ∈ kt_GW) (hr : 1 ≤ kt_fr i ∧ 40 ≤ kt_lo i) (hst : (st.map fun v => v.category).sum ≤ 8) (kk : KW P i NM pc' L st N I J R Q) : KW P i NM pc L (.ref a :: st) N I J R Q := by
  obtain ⟨⟨hd, rfl⟩, hw⟩ := hd
  intro p e Rm s m args below meth c N0 H locs ls Z F h0 h1 hl hP hS K
  have hro := F.2.2.2.2.2.2
  refine W.objInit F.1.1 F.1.2.1 F.1.2.2.2.1 (F.2.1 _ hw) (F.2.1 _ kt_oi1) (F.2.1 _ kt_oi2) (g := F0 m pc ls (.ref a :: st)) rfl (by rw [F.1.2.2.1]; exact hl.1.1) rfl hd (by omega) (by show 2 * 0 + _ + 12 ≤ _; omega) ?_
  exact kk p e Rm s m args below meth c N0 H locs ls Z F h0 h1 hl hP hS K
theorem kt_nfw : nativeFrameWords "java/lang/System" "arraycopy" 5 = 7 := by decide
/-! System.arraycopy -/
def kt_cpw (i pc pc' : Nat) : Prop := ∃ idx, kt_dc i pc (.invokestatic idx) 3 pc' ∧ Cond.methodLink (kt_ow i) idx arraycopyName ∈ kt_GW ∧ 1 ≤ kt_fr i ∧ 40 ≤ kt_lo i
theorem kw_cpi {a b n0 n1 : Nat} {sp dp n : Int32} (hd : kt_cpw i pc pc') (h1 : kt_kd P N a = (6, n0)) (h2 : kt_kd P N b = (6, n1)) (hr : ¬ sp < 0 ∧ ¬ dp < 0 ∧ ¬ n < 0 ∧ sp.toNatClampNeg + n.toNatClampNeg ≤ n0 ∧ dp.toNatClampNeg + n.toNatClampNeg ≤ n1)
    (kk : KW P i NM pc' L [] N (kt_rw I b (va_cpy (I a) (I b) sp.toNatClampNeg dp.toNatClampNeg n.toNatClampNeg)) J R Q) : KW P i NM pc L [.int n, .int dp, .ref b, .int sp, .ref a] N I J R Q := by
  obtain ⟨idx, ⟨hd, rfl⟩, hw, hr1, hr2⟩ := hd
  obtain ⟨g1, g2, g3, g4, g5⟩ := hr
  intro p e Rm s m args below meth c N0 H locs ls Z F h0 h1' hl hP hS K
  have hro := F.2.2.2.2.2.2
  obtain ⟨k0, -, -, hrow⟩ := kt_row P I J R h1 (by omega)
  obtain ⟨k1, -, -, hrow1⟩ := kt_row P I J R h2 (by omega)
  have hset : (kt_ws P N I J R).set k1 (b, .inl (kt_c P 0, n1, .inl (va_cpy (I a) (I b) sp.toNatClampNeg dp.toNatClampNeg n.toNatClampNeg))) = kt_ws P N (kt_rw I b (va_cpy (I a) (I b) sp.toNatClampNeg dp.toNatClampNeg n.toNatClampNeg)) J R :=
    kt_ws_set P hrow1 h2 (by omega) (by simp [kt_ce, kt_rw]) (fun q t n hq => kt_ce_cong (kt_rw_ne I _ hq) rfl rfl t n)
  exact va_copyi F.1.1 F.1.2.1 (F.1.2.2.1.trans hl.1.1.symm) F.1.2.2.2.1 (F.2.1 _ hw) (F.2.1 _ kt_ac1) (F.2.1 _ kt_ac2) (F.2.1 _ kt_ac3) F.2.2.1.1 hP (kt_wD P N I J R) hS k0 k1 0 0 (f := I a) (g := I b) (by rw [hrow]; simp [kt_ce]) (by rw [hrow1]; simp [kt_ce]) rfl rfl rfl g1 g2 g3 g4 g5 (fun _ _ => rfl) (by omega) (by show 0 + (nativeFrameWords "java/lang/System" "arraycopy" 5 + 11) ≤ _; rw [kt_nfw]; omega) hd
    (fun H1 locs1 hP1 _ hS1 => kk p e Rm s m args below meth c N0 H1 locs1 ls Z F h0 h1' hl (hset ▸ hP1) hS1 K)
theorem kw_cpl {a b n0 n1 : Nat} {sp dp n : Int32} (hd : kt_cpw i pc pc') (h1 : kt_kd P N a = (7, n0)) (h2 : kt_kd P N b = (7, n1)) (hr : ¬ sp < 0 ∧ ¬ dp < 0 ∧ ¬ n < 0 ∧ sp.toNatClampNeg + n.toNatClampNeg ≤ n0 ∧ dp.toNatClampNeg + n.toNatClampNeg ≤ n1)
    (kk : KW P i NM pc' L [] N I (kt_rw J b (va_cpy (J a) (J b) sp.toNatClampNeg dp.toNatClampNeg n.toNatClampNeg)) R Q) : KW P i NM pc L [.int n, .int dp, .ref b, .int sp, .ref a] N I J R Q := by
  obtain ⟨idx, ⟨hd, rfl⟩, hw, hr1, hr2⟩ := hd
  obtain ⟨g1, g2, g3, g4, g5⟩ := hr
  intro p e Rm s m args below meth c N0 H locs ls Z F h0 h1' hl hP hS K
  have hro := F.2.2.2.2.2.2
  obtain ⟨k0, -, -, hrow⟩ := kt_row P I J R h1 (by omega)
  obtain ⟨k1, -, -, hrow1⟩ := kt_row P I J R h2 (by omega)
  have hset : (kt_ws P N I J R).set k1 (b, .inl (kt_c P 1, n1, .inr (.inl (va_cpy (J a) (J b) sp.toNatClampNeg dp.toNatClampNeg n.toNatClampNeg)))) = kt_ws P N I (kt_rw J b (va_cpy (J a) (J b) sp.toNatClampNeg dp.toNatClampNeg n.toNatClampNeg)) R :=
    kt_ws_set P hrow1 h2 (by omega) (by simp [kt_ce, kt_rw]) (fun q t n hq => kt_ce_cong rfl (kt_rw_ne J _ hq) rfl t n)
  exact va_copyl F.1.1 F.1.2.1 (F.1.2.2.1.trans hl.1.1.symm) F.1.2.2.2.1 (F.2.1 _ hw) (F.2.1 _ kt_ac1) (F.2.1 _ kt_ac2) (F.2.1 _ kt_ac3) F.2.2.1.1 hP (kt_wD P N I J R) hS k0 k1 1 1 (f := J a) (g := J b) (by rw [hrow]; simp [kt_ce]) (by rw [hrow1]; simp [kt_ce]) rfl rfl rfl g1 g2 g3 g4 g5 (fun _ _ => rfl) (by omega) (by show 0 + (nativeFrameWords "java/lang/System" "arraycopy" 5 + 11) ≤ _; rw [kt_nfw]; omega) hd
    (fun H1 locs1 hP1 _ hS1 => kk p e Rm s m args below meth c N0 H1 locs1 ls Z F h0 h1' hl (hset ▸ hP1) hS1 K)
/-! returns -/
theorem kw_iret {x : Int32} (hd : kt_dc i pc .ireturn 1 pc' ∧ kt_rt i = some .int) (hq : Q (some (.int x)) I J R) : KW P i N pc L [.int x] N I J R Q := by
  obtain ⟨⟨hd, rfl⟩, hr⟩ := hd
  exact fun p e Rm s m args below meth c N0 H locs ls Z F h0 h1 hl hP hS K => K _ I J R H locs ls pc hq ⟨hd, .int, hr, rfl⟩ hP hS
theorem kw_zret {x : Int32} (hd : kt_dc i pc .ireturn 1 pc' ∧ kt_rt i = some .boolean) (hx : x = 0 ∨ x = 1) (hq : Q (some (.int x)) I J R) : KW P i N pc L [.int x] N I J R Q := by
  obtain ⟨⟨hd, rfl⟩, hr⟩ := hd
  exact fun p e Rm s m args below meth c N0 H locs ls Z F h0 h1 hl hP hS K => K _ I J R H locs ls pc hq ⟨hd, .boolean, hr, by rcases hx with rfl | rfl <;> rfl⟩ hP hS
theorem kw_lret {x : Int64} (hd : kt_dc i pc .lreturn 1 pc' ∧ kt_rt i = some .long) (hq : Q (some (.long x)) I J R) : KW P i N pc L [.long x] N I J R Q := by
  obtain ⟨⟨hd, rfl⟩, hr⟩ := hd
  exact fun p e Rm s m args below meth c N0 H locs ls Z F h0 h1 hl hP hS K => K _ I J R H locs ls pc hq ⟨hd, hr⟩ hP hS
theorem kw_vret (hd : kt_dc i pc .return_ 1 pc' ∧ kt_rt i = none) (hq : Q none I J R) : KW P i N pc L [] N I J R Q := by
  obtain ⟨⟨hd, rfl⟩, hr⟩ := hd
  exact fun p e Rm s m args below meth c N0 H locs ls Z F h0 h1 hl hP hS K => K _ I J R H locs ls pc hq ⟨hd, hr⟩ hP hS
/-! calls -/
def kt_pre (P : kt_P) (N : Nat) (I : kt_I) (J : kt_J) (R : kt_R) (U : State) : Prop := kt_ST P U ∧ va_X (kt_b P) (kt_L P) (kt_x P) U U.heap ∧ kt_b P < kt_z P ∧ U.heap.size = kt_z P + N ∧ va_P (kt_D P) vwCl (kt_ws P N I J R) U.heap
def kt_Qc (P : kt_P) (NM : Nat) (Q : Option Value → kt_I → kt_J → kt_R → Prop) : Array Value → State → Outcome → State → Prop := fun _ st o t => (∃ (v : Option Value) (I' : kt_I) (J' : kt_J) (R' : kt_R), o = .returned v ∧ Q v I' J' R' ∧ va_P (kt_D P) vwCl (kt_ws P NM I' J' R') t.heap) ∧ va_F (kt_A P) st t
def kt_wo (j : Nat) : List Cond := Cond.code (kt_nm j) (kt_by j) (kt_mx j) (kt_rt j) :: kt_GW
theorem kt_retM {p : Program} {l : Launch} {e : Env} {Rm : Room} {s : State} {m : MethodId} {args : Array Value} {below : List Frame} {meth : Method} {c : Code} {H : Heap} {locs : List Loc} {ce sl : Nat} {ls : Array Slot} {v : Option Value} {Qc : Array Value → State → Outcome → State → Prop} {free : Addr → Prop}
    (hx : p.tables.exec = Jvm.exec) (hb : c.code = kt_by i) (hr : meth.sig.returnType = kt_rt i) (hlocks : meth.locks = false) (hk : kt_rk i v pc) (hq : ∀ t : State, t.heap = H → s.WarmedH t.vm → Qc args s (.returned v) t) (hf : ∀ q ∈ locs, free q.base) :
    W p l e Rm s m args below meth c H locs ce sl (MQ below Qc args s ce sl free) (F0 m pc ls v.toList) := by
  cases v with
  | none => exact W.vret hx hb (hr.trans hk.2) hq hf hk.1 hlocks
  | some v =>
    cases v with
    | int x =>
      obtain ⟨hd, ty, h1, h2⟩ := hk
      exact W.zret hx hb (hr.trans h1) h2 hq hf hd hlocks
    | long x => exact W.lret hx hb (hr.trans hk.2) hq hf hk.1 hlocks
    | _ => exact absurd hk (by simp [kt_rk])
theorem kt_met {j : Nat} {As : List Value} (hpl : plainName (kt_nm j).cls = true) (hel : (kt_el As).length ≤ kt_mx j) (hN : N ≤ NM) (hk : KW P j NM 0 (kt_en (kt_mx j) As) [] N I J R Q) :
    Met (kt_l P) (kt_nm j) (kt_wo j) ({ frames := kt_fr j, cells := NM - N, slots := kt_SS NM - kt_SS N, locals := kt_lo j }) (va_Pc As (kt_pre P N I J R)) (kt_Qc P NM Q) (NM - N) (kt_SS NM - kt_SS N) (kt_A P) := by
  refine Met.ofW (cc := kt_by j) (maxL := kt_mx j) (ret := kt_rt j) hpl rfl ?_
  intro p e s m args below meth c s₁ B hml hv
  obtain ⟨rfl, hST, hX, hbz, hsz, hP⟩ := hv
  have hts := atoms_spec (ws := kt_wo j) B.pre
  have hown : s.vm.findClass (kt_ow j) = some m.cls := findClass_of_methodNamed B.named
  have hnm := (name_of_methodNamed B.named B.method).1
  rw [lg_entry_eq]
  have hl := kt_LH.entry (vs := As) (n := kt_mx j) hel
  generalize ((lg_sl As ++ List.replicate (kt_mx j - (lg_sl As).length) Slot.unset).toArray) = ls at hl ⊢
  have F : kt_FC P j NM N p (headSpec (kt_wo j) ({ frames := kt_fr j, cells := NM - N, slots := kt_SS NM - kt_SS N, locals := kt_lo j })).room s m As.toArray meth c :=
    ⟨⟨B.exec, B.bytes, hml, hown, B.returns, B.notSynchronized, fun h => hnm.trans h⟩, fun w hw => hts w (List.mem_cons_of_mem _ hw), hST, hX, hbz, hsz, Nat.le_refl _, Nat.le_refl _, Nat.le_refl _, Nat.le_refl _⟩
  have K := hk p e _ s m As.toArray below meth c N s.heap [] ls (MQ below (kt_Qc P NM Q) As.toArray s (NM - N) (kt_SS NM - kt_SS N) (kt_A P)) F (Nat.le_refl N) hN hl hP va_S.rf
    (fun v I' J' R' H' locs' ls' pc' hq hrk hP' hS' => kt_retM B.exec B.bytes B.returns B.notSynchronized hrk (fun t ht hW => ⟨⟨v, I', J', R', rfl, hq, by rw [ht]; exact hP'⟩, hS'.F ht⟩) hS'.2.2)
  rw [Nat.sub_self, Nat.sub_self] at K
  exact K
def kt_pu (v : Option Value) (r : List Value) : List Value := match v with
  | none => r
  | some x => x :: r
theorem kt_pu_eq (v : Option Value) (r : List Value) : v.toList ++ r = kt_pu v r := by cases v <;> rfl
theorem kt_back {p : Program} {l : Launch} {e : Env} {Rm : Room} {s : State} {m : MethodId} {args : Array Value} {below : List Frame} {meth : Method} {c : Code} {H : Heap} {locs : List Loc} {ce sl mc ms N' : Nat} {ls : Array Slot} {Z : State → Prop} {st0 rest : List Value} {a : Array Value} {Q' : Option Value → kt_I → kt_J → kt_R → Prop}
    (hr : va_Run p l e Rm s m args below meth c H locs ce sl mc ms (F0 m pc ls st0) rest (kt_Qc P N' Q' a) (kt_A P)) (hS : va_S (kt_A P) s.heap H locs)
    (kk : ∀ (v : Option Value) (I' : kt_I) (J' : kt_J) (R' : kt_R) (H1 : Heap) (locs1 : List Loc), Q' v I' J' R' → va_P (kt_D P) vwCl (kt_ws P N' I' J' R') H1 → va_S (kt_A P) s.heap H1 locs1 → W p l e Rm s m args below meth c H1 locs1 (ce + mc) (sl + ms) Z (F0 m (pc + 3) ls (kt_pu v rest))) :
    W p l e Rm s m args below meth c H locs ce sl Z (F0 m pc ls st0) := by
  intro T hT X
  obtain ⟨v, st₀, t, T', L, h0, X', hL, e1, e2, ⟨⟨v', I', J', R', hv, hq, hP⟩, hz, hk⟩, st⟩ := hr T hT X
  cases hv
  rw [h0] at hz hk
  obtain ⟨t2, a1, b1⟩ := kk v I' J' R' T'.heap (locs ++ L) hq (by rw [e1]; exact hP)
    ⟨Nat.le_trans hS.1 (by rw [e1]; exact hz), fun q h1 h2 => by rw [e1, hk q (Nat.lt_of_lt_of_le h1 hS.1) h2]; exact hS.2.1 q h1 h2, fun q hq => by
      rcases List.mem_append.mp hq with h | h
      · exact hS.2.2 q h
      · exact hL q h⟩ T' rfl X'
  rw [← kt_pu_eq] at a1
  exact ⟨t2, st t2 a1, b1⟩
theorem kt_blind {As : List Value} : FrameBlind (va_Pc As (kt_pre P N I J R)) := by
  intro a U g mk h
  obtain ⟨h1, h2, h3, h4, h5, h6⟩ := h
  exact ⟨h1, kt_ST.same (u := U) (U := U.calling g mk a) rfl h2, va_X.moved (u := U) (U := U.calling g mk a) (Vm.Alike.refl U.vm) h3, h4, h5, h6⟩
theorem kt_GG (j : Nat) (h : Cond.code (kt_nm j) (kt_by j) (kt_mx j) (kt_rt j) ∈ kt_GW) : GoodIn kt_GW (kt_wo j) := by
  intro w hw
  rcases List.mem_cons.mp hw with rfl | hw
  · exact ⟨h, kt_good h⟩
  · exact ⟨hw, kt_good hw⟩
/-- what is known of a method that is called: its code, its class, how many arguments -/
def kt_JO (j n : Nat) : Prop := Cond.code (kt_nm j) (kt_by j) (kt_mx j) (kt_rt j) ∈ kt_GW ∧ Cond.initialized (kt_nm j).cls ∈ kt_GW ∧ plainName (kt_nm j).cls = true ∧ ((kt_nm j).cls ≠ "java/lang/invoke/MethodHandle" ∧ (kt_nm j).cls ≠ "java/lang/invoke/VarHandle" ∧ (parseMethodDescriptor (kt_nm j).desc).map (fun d => d.parameters.length) = some n)
def kt_ml (own : String) (idx j : Nat) : Prop := Cond.methodLink own idx (kt_nm j) ∈ kt_GW ∨ ∃ host, Cond.methodLinkNest own idx (kt_nm j) host ∈ kt_NW
def kt_rr (i j : Nat) : Bool := decide (kt_fr j + 1 ≤ kt_fr i ∧ 8 + (kt_mx j + 11) + kt_lo j ≤ kt_lo i)
theorem kt_cb {Rm : Room} {s : State} {args : Array Value} {own : String} {idx j n mc ms : Nat} (hts : ∀ w ∈ kt_GW, w.before args s = true) (hJ : kt_JO j n) (hl : Cond.methodLink own idx (kt_nm j) ∈ kt_GW) (hR : kt_fr j + 1 ≤ Rm.frames ∧ 8 + (kt_mx j + 11) + kt_lo j ≤ Rm.locals) :
    CallB Rm s args own idx (kt_nm j) (kt_by j) (kt_mx j) (kt_rt j) (kt_wo j) ({ frames := kt_fr j, cells := mc, slots := ms, locals := kt_lo j }) mc ms n :=
  callB_of n hts (kt_GG j hJ.1) rfl rfl rfl (hts _ hJ.2.1) (hts _ hl) hJ.2.2.2 hR
theorem kt_cn {Rm : Room} {s : State} {args : Array Value} {own host : String} {idx j n mc ms : Nat} (hts : ∀ w ∈ kt_GW, w.before args s = true) (hnw : ∀ w ∈ kt_NW, va_Nw w s) (hJ : kt_JO j n) (hl : Cond.methodLinkNest own idx (kt_nm j) host ∈ kt_NW) (hR : kt_fr j + 1 ≤ Rm.frames ∧ 8 + (kt_mx j + 11) + kt_lo j ≤ Rm.locals) :
    va_CN Rm s args own idx (kt_nm j) host (kt_by j) (kt_mx j) (kt_rt j) (kt_wo j) ({ frames := kt_fr j, cells := mc, slots := ms, locals := kt_lo j }) mc ms n :=
  va_cnB n hts (kt_GG j hJ.1) rfl rfl rfl (hnw _ hl) (hts _ hJ.2.1) hJ.2.2.2 hR
/-- an instance method of an object of the world -/
def kt_sV (i pc j ci n pc' : Nat) : Prop := ∃ idx, kt_dc i pc (.invokevirtual idx) 3 pc' ∧ kt_ml (kt_ow i) idx j ∧ kt_JO j n ∧ (Cond.instanceMethod (kt_nm j) ∈ kt_GW ∧ Cond.selects (kt_nm j).cls (kt_nm j) (kt_nm j) ∈ kt_GW) ∧ (∃ (T : u_T) (Nf : Nat), vwCl[ci]? = some ((kt_nm j).cls, T, Nf)) ∧ ci < 6 ∧ kt_rr i j = true
def kt_sS (i pc j n pc' : Nat) : Prop := ∃ idx, kt_dc i pc (.invokestatic idx) 3 pc' ∧ kt_ml (kt_ow i) idx j ∧ kt_JO j n ∧ Cond.static (kt_nm j) ∈ kt_GW ∧ kt_rr i j = true
def kt_sI (i pc j n pc' : Nat) : Prop := ∃ idx, kt_dc i pc (.invokespecial idx) 3 pc' ∧ kt_ml (kt_ow i) idx j ∧ kt_JO j n ∧ Cond.instanceMethod (kt_nm j) ∈ kt_GW ∧ (kt_nm j).name = "<init>" ∧ kt_rt j = none ∧ kt_rr i j = true
theorem kw_callV {j ci n b N' : Nat} {As rest : List Value} (hs : kt_sV i pc j ci n pc') (hn : As.length = n) (hst : st = As.reverse ++ .ref b :: rest) (hel : (kt_el (.ref b :: As)).length ≤ kt_mx j) (hrest : (rest.map fun v => v.category).sum ≤ 8) (hkd : kt_kd P N b = (ci, 0)) (hN1 : N ≤ N') (hN2 : N ≤ NM → N' ≤ NM)
    (kk : KW P j N' 0 (kt_en (kt_mx j) (.ref b :: As)) [] N I J R (fun v I' J' R' => KW P i NM pc' L (kt_pu v rest) N' I' J' R' Q)) : KW P i NM pc L st N I J R Q := by
  obtain ⟨idx, ⟨hd, rfl⟩, hml, hJ, ⟨hw1, hw2⟩, ⟨T, Nf, hcl⟩, hci, hrr⟩ := hs
  subst hst
  have hrr := of_decide_eq_true hrr
  intro p e Rm s m args below meth c N0 H locs ls Z F h0 h1 hl hP hS K
  refine kt_size hP hS F.2.2.2.2.2.1 h0 fun hsize => ?_
  have hro := F.2.2.2.2.2.2
  have hm1 := kt_SS_mono (hN2 h1)
  have hm2 := kt_SS_mono h0
  have hm3 := kt_SS_mono hN1
  have hN3 := hN2 h1
  have hM := kt_met hJ.2.2.1 hel hN1 kk
  obtain ⟨k0, -, -, hrow⟩ := kt_row P I J R hkd (by omega)
  have hcell := va_recv F.2.2.1.1 hP hcl (q0 := k0) (a := b) (fs := kt_fl I J R b (kt_ft ci) 0) (by rw [hrow]; simp [kt_ce, hci])
  have hpre : PreV s H (kt_nm j).cls b (va_Pc (.ref b :: As) (kt_pre P N I J R)) As :=
    ⟨kt_blind, hcell, fun U hU hW => ⟨rfl, kt_ST.warm hW F.2.2.1, va_X.kept (va_X.moved hW.alike F.2.2.2.1) (by rw [hU]; exact hS.2.1 _ (by have := F.2.2.2.2.2.1; have := F.2.2.2.2.1; omega) (kt_bA P F.2.2.2.2.1)), F.2.2.2.2.1, by rw [hU]; exact hsize, by rw [hU]; exact hP⟩⟩
  have hR : kt_fr j + 1 ≤ Rm.frames ∧ 8 + (kt_mx j + 11) + kt_lo j ≤ Rm.locals := by omega
  have hCF : CallFix p m c (kt_by i) (kt_mx i) s args kt_GW (kt_ow i) := ⟨F.1.1, F.1.2.1, F.1.2.2.1, F.1.2.2.2.1, F.2.1⟩
  have hgo : ∀ (v : Option Value) (I' : kt_I) (J' : kt_J) (R' : kt_R) (H1 : Heap) (locs1 : List Loc), KW P i NM (pc + 3) L (kt_pu v rest) N' I' J' R' Q → va_P (kt_D P) vwCl (kt_ws P N' I' J' R') H1 → va_S (kt_A P) s.heap H1 locs1 → W p (kt_l P) e Rm s m args below meth c H1 locs1 (N - N0 + (N' - N)) (kt_SS N - kt_SS N0 + (kt_SS N' - kt_SS N)) Z (F0 m (pc + 3) ls (kt_pu v rest)) := by
    intro v I' J' R' H1 locs1 k1 hP1 hS1
    have K1 := k1 p e Rm s m args below meth c N0 H1 locs1 ls Z F (by omega) hN3 hl hP1 hS1 K
    rw [show N - N0 + (N' - N) = N' - N0 by omega, show kt_SS N - kt_SS N0 + (kt_SS N' - kt_SS N) = kt_SS N' - kt_SS N0 by omega]
    exact K1
  rcases hml with hlk | ⟨host, hlk⟩
  · exact kt_back (va_runV hCF hM ⟨kt_cb F.2.1 hJ hlk hR, F.2.1 _ hw1, F.2.1 _ hw2⟩ hpre rfl hn hl.1.1 rfl (lv_room hrest) hd ⟨by omega, by omega⟩) hS hgo
  · exact kt_back (va_runVN hCF hM ⟨kt_cn F.2.1 F.2.2.1.2.1 hJ hlk hR, F.2.1 _ hw1, F.2.1 _ hw2⟩ hpre rfl hn hl.1.1 rfl (lv_room hrest) hd ⟨by omega, by omega⟩) hS hgo
theorem kw_callS {j n N' : Nat} {As rest : List Value} (hs : kt_sS i pc j n pc') (hn : As.length = n) (hst : st = As.reverse ++ rest) (hel : (kt_el As).length ≤ kt_mx j) (hrest : (rest.map fun v => v.category).sum ≤ 8) (hN1 : N ≤ N') (hN2 : N ≤ NM → N' ≤ NM)
    (kk : KW P j N' 0 (kt_en (kt_mx j) As) [] N I J R (fun v I' J' R' => KW P i NM pc' L (kt_pu v rest) N' I' J' R' Q)) : KW P i NM pc L st N I J R Q := by
  obtain ⟨idx, ⟨hd, rfl⟩, hml, hJ, hw1, hrr⟩ := hs
  subst hst
  have hrr := of_decide_eq_true hrr
  intro p e Rm s m args below meth c N0 H locs ls Z F h0 h1 hl hP hS K
  refine kt_size hP hS F.2.2.2.2.2.1 h0 fun hsize => ?_
  have hro := F.2.2.2.2.2.2
  have hm1 := kt_SS_mono (hN2 h1)
  have hm2 := kt_SS_mono h0
  have hm3 := kt_SS_mono hN1
  have hN3 := hN2 h1
  have hM := kt_met hJ.2.2.1 hel hN1 kk
  have hpre : PreS s H (va_Pc As (kt_pre P N I J R)) As :=
    ⟨kt_blind, fun U hU hW => ⟨rfl, kt_ST.warm hW F.2.2.1, va_X.kept (va_X.moved hW.alike F.2.2.2.1) (by rw [hU]; exact hS.2.1 _ (by have := F.2.2.2.2.2.1; have := F.2.2.2.2.1; omega) (kt_bA P F.2.2.2.2.1)), F.2.2.2.2.1, by rw [hU]; exact hsize, by rw [hU]; exact hP⟩⟩
  have hR : kt_fr j + 1 ≤ Rm.frames ∧ 8 + (kt_mx j + 11) + kt_lo j ≤ Rm.locals := by omega
  have hCF : CallFix p m c (kt_by i) (kt_mx i) s args kt_GW (kt_ow i) := ⟨F.1.1, F.1.2.1, F.1.2.2.1, F.1.2.2.2.1, F.2.1⟩
  have hgo : ∀ (v : Option Value) (I' : kt_I) (J' : kt_J) (R' : kt_R) (H1 : Heap) (locs1 : List Loc), KW P i NM (pc + 3) L (kt_pu v rest) N' I' J' R' Q → va_P (kt_D P) vwCl (kt_ws P N' I' J' R') H1 → va_S (kt_A P) s.heap H1 locs1 → W p (kt_l P) e Rm s m args below meth c H1 locs1 (N - N0 + (N' - N)) (kt_SS N - kt_SS N0 + (kt_SS N' - kt_SS N)) Z (F0 m (pc + 3) ls (kt_pu v rest)) := by
    intro v I' J' R' H1 locs1 k1 hP1 hS1
    have K1 := k1 p e Rm s m args below meth c N0 H1 locs1 ls Z F (by omega) hN3 hl hP1 hS1 K
    rw [show N - N0 + (N' - N) = N' - N0 by omega, show kt_SS N - kt_SS N0 + (kt_SS N' - kt_SS N) = kt_SS N' - kt_SS N0 by omega]
    exact K1
  rcases hml with hlk | ⟨host, hlk⟩
  · exact kt_back (va_runS hCF hM ⟨kt_cb F.2.1 hJ hlk hR, F.2.1 _ hw1⟩ hpre rfl hn hl.1.1 rfl (lv_room hrest) hd ⟨by omega, by omega⟩) hS hgo
  · exact kt_back (va_runSN hCF hM ⟨kt_cn F.2.1 F.2.2.1.2.1 hJ hlk hR, F.2.1 _ hw1, trivial⟩ hpre rfl hn hl.1.1 rfl (lv_room hrest) hd ⟨by omega, by omega⟩) hS hgo
theorem kw_callI {j n b N' : Nat} {As rest : List Value} (hs : kt_sI i pc j n pc') (hn : As.length = n) (hst : st = As.reverse ++ .ref b :: rest) (hel : (kt_el (.ref b :: As)).length ≤ kt_mx j) (hrest : (rest.map fun v => v.category).sum ≤ 8) (hN1 : N ≤ N') (hN2 : N ≤ NM → N' ≤ NM)
    (kk : KW P j N' 0 (kt_en (kt_mx j) (.ref b :: As)) [] N I J R (fun v I' J' R' => KW P i NM pc' L (kt_pu v rest) N' I' J' R' Q)) : KW P i NM pc L st N I J R Q := by
  obtain ⟨idx, ⟨hd, rfl⟩, hml, hJ, hw1, hini, hret, hrr⟩ := hs
  subst hst
  have hrr := of_decide_eq_true hrr
  intro p e Rm s m args below meth c N0 H locs ls Z F h0 h1 hl hP hS K
  refine kt_size hP hS F.2.2.2.2.2.1 h0 fun hsize => ?_
  have hro := F.2.2.2.2.2.2
  have hm1 := kt_SS_mono (hN2 h1)
  have hm2 := kt_SS_mono h0
  have hm3 := kt_SS_mono hN1
  have hN3 := hN2 h1
  have hM := kt_met hJ.2.2.1 hel hN1 kk
  have hpre : PreS s H (va_Pc (.ref b :: As) (kt_pre P N I J R)) (.ref b :: As) :=
    ⟨kt_blind, fun U hU hW => ⟨rfl, kt_ST.warm hW F.2.2.1, va_X.kept (va_X.moved hW.alike F.2.2.2.1) (by rw [hU]; exact hS.2.1 _ (by have := F.2.2.2.2.2.1; have := F.2.2.2.2.1; omega) (kt_bA P F.2.2.2.2.1)), F.2.2.2.2.1, by rw [hU]; exact hsize, by rw [hU]; exact hP⟩⟩
  have hR : kt_fr j + 1 ≤ Rm.frames ∧ 8 + (kt_mx j + 11) + kt_lo j ≤ Rm.locals := by omega
  have hCF : CallFix p m c (kt_by i) (kt_mx i) s args kt_GW (kt_ow i) := ⟨F.1.1, F.1.2.1, F.1.2.2.1, F.1.2.2.2.1, F.2.1⟩
  have hgo : ∀ (v : Option Value) (I' : kt_I) (J' : kt_J) (R' : kt_R) (H1 : Heap) (locs1 : List Loc), KW P i NM (pc + 3) L (kt_pu v rest) N' I' J' R' Q → va_P (kt_D P) vwCl (kt_ws P N' I' J' R') H1 → va_S (kt_A P) s.heap H1 locs1 → W p (kt_l P) e Rm s m args below meth c H1 locs1 (N - N0 + (N' - N)) (kt_SS N - kt_SS N0 + (kt_SS N' - kt_SS N)) Z (F0 m (pc + 3) ls (kt_pu v rest)) := by
    intro v I' J' R' H1 locs1 k1 hP1 hS1
    have K1 := k1 p e Rm s m args below meth c N0 H1 locs1 ls Z F (by omega) hN3 hl hP1 hS1 K
    rw [show N - N0 + (N' - N) = N' - N0 by omega, show kt_SS N - kt_SS N0 + (kt_SS N' - kt_SS N) = kt_SS N' - kt_SS N0 by omega]
    exact K1
  rcases hml with hlk | ⟨host, hlk⟩
  · have hcb := kt_cb (mc := N' - N) (ms := kt_SS N' - kt_SS N) (Rm := Rm) (s := s) (args := args) F.2.1 hJ hlk hR
    rw [hret] at hcb
    exact kt_back (va_runI hCF hM ⟨hcb, hini, F.2.1 _ hw1⟩ hpre rfl hn hl.1.1 rfl (lv_room hrest) hd ⟨by omega, by omega⟩) hS hgo
  · have hcb := kt_cn (mc := N' - N) (ms := kt_SS N' - kt_SS N) (Rm := Rm) (s := s) (args := args) F.2.1 F.2.2.1.2.1 hJ hlk hR
    rw [hret] at hcb
    exact kt_back (va_runIN hCF hM ⟨hcb, hini, F.2.1 _ hw1⟩ hpre rfl hn hl.1.1 rfl (lv_room hrest) hd ⟨by omega, by omega⟩) hS hgo
end KC
