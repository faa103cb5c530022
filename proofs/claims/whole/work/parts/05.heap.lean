/-! memory: one place written; a row written -/
def kt_u1 (I : kt_I) (a j : Nat) (x : Int32) : kt_I := fun a' j' => if a' = a ∧ j' = j then x else I a' j'
def kt_uL (J : kt_J) (a j : Nat) (x : Int64) : kt_J := fun a' j' => if a' = a ∧ j' = j then x else J a' j'
def kt_uR (R : kt_R) (a j : Nat) (x : Option Nat) : kt_R := fun a' j' => if a' = a ∧ j' = j then x else R a' j'
def kt_rw {α : Type} (M : Nat → Nat → α) (a : Nat) (f : Nat → α) : Nat → Nat → α := fun a' => if a' = a then f else M a'
theorem kt_u1_row (I : kt_I) (a j : Nat) (x : Int32) : kt_u1 I a j x a = upd (I a) j x := by funext k; simp [kt_u1, upd]
theorem kt_uL_row (J : kt_J) (a j : Nat) (x : Int64) : kt_uL J a j x a = vp_updL (J a) j x := by funext k; simp [kt_uL, vp_updL]
theorem kt_uR_row (R : kt_R) (a j : Nat) (x : Option Nat) : kt_uR R a j x a = va_up (R a) j x := by funext k; simp [kt_uR, va_up]
theorem kt_u1_ne (I : kt_I) {a q : Nat} (j : Nat) (x : Int32) (h : q ≠ a) : kt_u1 I a j x q = I q := by funext k; simp [kt_u1, h]
theorem kt_uL_ne (J : kt_J) {a q : Nat} (j : Nat) (x : Int64) (h : q ≠ a) : kt_uL J a j x q = J q := by funext k; simp [kt_uL, h]
theorem kt_uR_ne (R : kt_R) {a q : Nat} (j : Nat) (x : Option Nat) (h : q ≠ a) : kt_uR R a j x q = R q := by funext k; simp [kt_uR, h]
theorem kt_rw_eq {α : Type} (M : Nat → Nat → α) (a : Nat) (f : Nat → α) : kt_rw M a f a = f := by simp [kt_rw]
theorem kt_rw_ne {α : Type} (M : Nat → Nat → α) {a q : Nat} (f : Nat → α) (h : q ≠ a) : kt_rw M a f q = M q := by simp [kt_rw, h]
theorem kt_fl_cong {I I' : kt_I} {J J' : kt_J} {R R' : kt_R} {q : Nat} (h1 : I' q = I q) (h2 : J' q = J q) (h3 : R' q = R q) : ∀ (ts : List Nat) (j : Nat), kt_fl I' J' R' q ts j = kt_fl I J R q ts j
  | [], _ => rfl
  | t :: r, j => by
    unfold kt_fl
    rw [kt_fl_cong h1 h2 h3 r (j + 1)]
    unfold kt_fv
    rw [h1, h2, h3]
theorem kt_ce_cong {c : Nat → ClassId} {I I' : kt_I} {J J' : kt_J} {R R' : kt_R} {q : Nat} (h1 : I' q = I q) (h2 : J' q = J q) (h3 : R' q = R q) (t n : Nat) : kt_ce c I' J' R' q t n = kt_ce c I J R q t n := by
  unfold kt_ce
  rw [kt_fl_cong h1 h2 h3, h1, h2, h3]
/-! facts of field instructions -/
def kt_tt : Nat → FieldType → Bool
  | 0, .int => true
  | 1, .long => true
  | 2, .object _ => true
  | 2, .array _ => true
  | 3, .boolean => true
  | _, _ => false
def kt_lk (own : String) (idx : Nat) (C n d : String) : Prop := Cond.fieldLink own idx C n d ∈ kt_GW ∨ ∃ host, Cond.fieldLinkNest own idx C n d host ∈ kt_NW
def kt_sG (i pc ci k t pc' : Nat) : Prop := ∃ (idx : Nat) (C : String) (T : u_T) (Nf : Nat), kt_dc i pc (.getfield idx) 3 pc' ∧ vwCl[ci]? = some (C, T, Nf) ∧ k < Nf ∧ (kt_ft ci)[k]? = some t ∧ ci < 6 ∧ kt_lk (kt_ow i) idx (T k).1 (T k).2.1 (T k).2.2.1
def kt_sP (i pc ci k t pc' : Nat) : Prop := ∃ (idx : Nat) (C : String) (T : u_T) (Nf : Nat) (ty : FieldType), kt_dc i pc (.putfield idx) 3 pc' ∧ vwCl[ci]? = some (C, T, Nf) ∧ k < Nf ∧ (kt_ft ci)[k]? = some t ∧ ci < 6 ∧ parseFieldDescriptor (T k).2.2.1 = some ty ∧ kt_tt t ty = true ∧
  (((T k).2.2.2 = false ∧ kt_lk (kt_ow i) idx (T k).1 (T k).2.1 (T k).2.2.1) ∨ ((T k).2.2.2 = true ∧ (kt_nm i).name = "<init>" ∧ (T k).1 = kt_ow i ∧ Cond.fieldLink (kt_ow i) idx (T k).1 (T k).2.1 (T k).2.2.1 ∈ kt_GW))
section KH
variable {P : kt_P} {i NM pc pc' : Nat} {L L' : List (Option Value)} {st : List Value} {N : Nat} {I I' : kt_I} {J J' : kt_J} {R R' : kt_R} {Q : Option Value → kt_I → kt_J → kt_R → Prop}
theorem kt_get {ci k t a : Nat} (hs : kt_sG i pc ci k t pc') (hkd : kt_kd P N a = (ci, 0)) (kk : KW P i NM pc' L (kt_fv I J R a t k :: st) N I J R Q) : KW P i NM pc L (.ref a :: st) N I J R Q := by
  obtain ⟨idx, C, T, Nf, ⟨hd, rfl⟩, hq, hk, ht, hci, hlk⟩ := hs
  intro p e Rm s m args below meth c N0 H locs ls Z F h0 h1 hl hP hS K
  have kk1 := kk p e Rm s m args below meth c N0 H locs ls Z F h0 h1 hl hP hS K
  obtain ⟨⟨hx, hb, hml, hown, -⟩, hts, hST, -⟩ := F
  obtain ⟨k0, -, -, hrow⟩ := kt_row P I J R hkd (by omega)
  have hrow1 : (kt_ws P N I J R)[k0]? = some (a, .inr (ci, kt_fl I J R a (kt_ft ci) 0)) := by rw [hrow]; simp [kt_ce, hci]
  have hv : (kt_fl I J R a (kt_ft ci) 0)[k]? = some (kt_fv I J R a t k) := by rw [kt_fl_get, ht]; simp
  rcases hlk with hlk | ⟨host, hlk⟩
  · exact va_get hx hb hts (kt_cw hq) hown hST.1 hP k0 hrow1 hq k hk (hts _ hlk) (fun _ h9 => h9) hv hd kk1
  · exact va_getN hx hb hts (kt_cw hq) hown hST.1 hP k0 hrow1 hq k hk (va_Nw.use rfl (hST.2.1 _ hlk)) (fun _ h9 => h9) hv hd kk1
theorem kw_gi {ci k a : Nat} (hs : kt_sG i pc ci k 0 pc') (hkd : kt_kd P N a = (ci, 0)) (kk : KW P i NM pc' L (.int (I a k) :: st) N I J R Q) : KW P i NM pc L (.ref a :: st) N I J R Q := kt_get hs hkd kk
theorem kw_gz {ci k a : Nat} (hs : kt_sG i pc ci k 3 pc') (hkd : kt_kd P N a = (ci, 0)) (kk : KW P i NM pc' L (.int (I a k) :: st) N I J R Q) : KW P i NM pc L (.ref a :: st) N I J R Q := kt_get hs hkd kk
theorem kw_gl {ci k a : Nat} (hs : kt_sG i pc ci k 1 pc') (hkd : kt_kd P N a = (ci, 0)) (kk : KW P i NM pc' L (.long (J a k) :: st) N I J R Q) : KW P i NM pc L (.ref a :: st) N I J R Q := kt_get hs hkd kk
theorem kw_gr {ci k a r : Nat} (hs : kt_sG i pc ci k 2 pc') (hkd : kt_kd P N a = (ci, 0)) (hr : R a k = some r) (kk : KW P i NM pc' L (.ref r :: st) N I J R Q) : KW P i NM pc L (.ref a :: st) N I J R Q := kt_get hs hkd (by unfold kt_fv; simp only [hr]; exact kk)
theorem kt_put {ci k t a : Nat} {v : Value} (hs : kt_sP i pc ci k t pc') (hkd : kt_kd P N a = (ci, 0)) (hnf : ∀ ty, kt_tt t ty = true → narrow ty v = v ∧ fits ty v = true) (hv : kt_fv I' J' R' a t k = v)
    (ho : ∀ t j, j ≠ k → kt_fv I' J' R' a t j = kt_fv I J R a t j) (hq1 : ∀ q, q ≠ a → I' q = I q ∧ J' q = J q ∧ R' q = R q) (kk : KW P i NM pc' L st N I' J' R' Q) : KW P i NM pc L (v :: .ref a :: st) N I J R Q := by
  obtain ⟨idx, C, T, Nf, ty, ⟨hd, rfl⟩, hq, hk, ht, hci, hpd, htt, hlk⟩ := hs
  intro p e Rm s m args below meth c N0 H locs ls Z F h0 h1 hl hP hS K
  have kk1 := fun H1 locs1 hP1 hS1 => kk p e Rm s m args below meth c N0 H1 locs1 ls Z F h0 h1 hl hP1 hS1 K
  obtain ⟨⟨hx, hb, hml, hown, -, -, hin⟩, hts, hST, -⟩ := F
  obtain ⟨k0, -, -, hrow⟩ := kt_row P I J R hkd (by omega)
  have hrow1 : (kt_ws P N I J R)[k0]? = some (a, .inr (ci, kt_fl I J R a (kt_ft ci) 0)) := by rw [hrow]; simp [kt_ce, hci]
  have hset : (kt_ws P N I J R).set k0 (a, .inr (ci, (kt_fl I J R a (kt_ft ci) 0).set k v)) = kt_ws P N I' J' R' := by
    refine kt_ws_set P hrow hkd (by omega) ?_ (fun q t n hqa => kt_ce_cong (hq1 q hqa).1 (hq1 q hqa).2.1 (hq1 q hqa).2.2 t n)
    rw [kt_fl_set ht hv ho]
    simp [kt_ce, hci]
  have hlen : k < (kt_fl I J R a (kt_ft ci) 0).length := by rw [kt_fl_len]; exact (List.getElem?_eq_some_iff.mp ht).1
  obtain ⟨ty0, hty0, hnm0⟩ := kt_ct hq
  obtain ⟨hn, hf⟩ := hnf ty htt
  rcases hlk with ⟨hfin, hlk | ⟨host, hlk⟩⟩ | ⟨hfin, hini, hdec, hlk⟩
  · exact va_put hx hb hts (kt_cw hq) ty0 hty0 hnm0 hown hST.1 hP (kt_wD P N I J R) hS k0 hrow1 hq k hk (hts _ hlk) (fun _ h9 => h9) hfin hpd hn hf hlen hd (fun H1 locs1 hP1 _ hS1 => kk1 H1 locs1 (hset ▸ hP1) hS1)
  · exact va_putN hx hb hts (kt_cw hq) ty0 hty0 hnm0 hown hST.1 hP (kt_wD P N I J R) hS k0 hrow1 hq k hk (va_Nw.use rfl (hST.2.1 _ hlk)) (fun _ h9 => h9) hfin hpd hn hf hlen hd (fun H1 locs1 hP1 _ hS1 => kk1 H1 locs1 (hset ▸ hP1) hS1)
  · exact va_putF hx hb hts (kt_cw hq) ty0 hty0 hnm0 hown hST.1 hP (kt_wD P N I J R) hS k0 hrow1 hq k hk (hts _ hlk) (fun _ h9 => h9) hfin (hin hini) hdec hpd hn hf hlen hd (fun H1 locs1 hP1 _ hS1 => kk1 H1 locs1 (hset ▸ hP1) hS1)
theorem kw_pi {ci k a : Nat} {x : Int32} (hs : kt_sP i pc ci k 0 pc') (hkd : kt_kd P N a = (ci, 0)) (kk : KW P i NM pc' L st N (kt_u1 I a k x) J R Q) : KW P i NM pc L (.int x :: .ref a :: st) N I J R Q :=
  kt_put hs hkd (fun ty h => by cases ty <;> first | exact ⟨rfl, rfl⟩ | (exfalso; revert h; simp [kt_tt])) (by simp [kt_fv, kt_u1]) (fun t j hj => by simp [kt_fv, kt_u1, hj]) (fun q hq => ⟨kt_u1_ne I k x hq, rfl, rfl⟩) kk
theorem kw_pl {ci k a : Nat} {x : Int64} (hs : kt_sP i pc ci k 1 pc') (hkd : kt_kd P N a = (ci, 0)) (kk : KW P i NM pc' L st N I (kt_uL J a k x) R Q) : KW P i NM pc L (.long x :: .ref a :: st) N I J R Q :=
  kt_put hs hkd (fun ty h => by cases ty <;> first | exact ⟨rfl, rfl⟩ | (exfalso; revert h; simp [kt_tt])) (by simp [kt_fv, kt_uL]) (fun t j hj => by simp [kt_fv, kt_uL, hj]) (fun q hq => ⟨rfl, kt_uL_ne J k x hq, rfl⟩) kk
theorem kw_pr {ci k a r : Nat} (hs : kt_sP i pc ci k 2 pc') (hkd : kt_kd P N a = (ci, 0)) (kk : KW P i NM pc' L st N I J (kt_uR R a k (some r)) Q) : KW P i NM pc L (.ref r :: .ref a :: st) N I J R Q :=
  kt_put hs hkd (fun ty h => by cases ty <;> first | exact ⟨rfl, rfl⟩ | (exfalso; revert h; simp [kt_tt])) (by simp [kt_fv, kt_uR, va_rf]) (fun t j hj => by simp [kt_fv, kt_uR, hj]) (fun q hq => ⟨rfl, rfl, kt_uR_ne R k _ hq⟩) kk
theorem kw_pz {ci k a : Nat} {x : Int32} (hs : kt_sP i pc ci k 3 pc') (hkd : kt_kd P N a = (ci, 0)) (hx : x = 0 ∨ x = 1) (kk : KW P i NM pc' L st N (kt_u1 I a k x) J R Q) : KW P i NM pc L (.int x :: .ref a :: st) N I J R Q :=
  kt_put hs hkd (fun ty h => by cases ty <;> first | (rcases hx with rfl | rfl <;> exact ⟨rfl, rfl⟩) | (exfalso; revert h; simp [kt_tt])) (by simp [kt_fv, kt_u1]) (fun t j hj => by simp [kt_fv, kt_u1, hj]) (fun q hq => ⟨kt_u1_ne I k x hq, rfl, rfl⟩) kk
/-! arrays -/
theorem kw_iald {a n : Nat} {j : Int32} (hd : kt_dc i pc .iaload 1 pc') (hkd : kt_kd P N a = (6, n)) (hin : vp_in j n) (kk : KW P i NM pc' L (.int (I a j.toNatClampNeg) :: st) N I J R Q) : KW P i NM pc L (.int j :: .ref a :: st) N I J R Q := by
  obtain ⟨hd, rfl⟩ := hd
  intro p e Rm s m args below meth c N0 H locs ls Z F h0 h1 hl hP hS K
  obtain ⟨k0, -, -, hrow⟩ := kt_row P I J R hkd (by omega)
  exact va_iald F.1.1 F.1.2.1 F.2.2.1.1 hP k0 0 (f := I a) (by rw [hrow]; simp [kt_ce]) rfl hin hd (kk p e Rm s m args below meth c N0 H locs ls Z F h0 h1 hl hP hS K)
theorem kw_zald {a n : Nat} {j : Int32} (hd : kt_dc i pc .baload 1 pc') (hkd : kt_kd P N a = (8, n)) (hin : vp_in j n) (kk : KW P i NM pc' L (.int (I a j.toNatClampNeg) :: st) N I J R Q) : KW P i NM pc L (.int j :: .ref a :: st) N I J R Q := by
  obtain ⟨hd, rfl⟩ := hd
  intro p e Rm s m args below meth c N0 H locs ls Z F h0 h1 hl hP hS K
  obtain ⟨k0, -, -, hrow⟩ := kt_row P I J R hkd (by omega)
  exact va_zald F.1.1 F.1.2.1 F.2.2.1.1 hP k0 2 (f := I a) (by rw [hrow]; simp [kt_ce]) rfl hin hd (kk p e Rm s m args below meth c N0 H locs ls Z F h0 h1 hl hP hS K)
theorem kw_lald {a n : Nat} {j : Int32} (hd : kt_dc i pc .laload 1 pc') (hkd : kt_kd P N a = (7, n)) (hin : vp_in j n) (kk : KW P i NM pc' L (.long (J a j.toNatClampNeg) :: st) N I J R Q) : KW P i NM pc L (.int j :: .ref a :: st) N I J R Q := by
  obtain ⟨hd, rfl⟩ := hd
  intro p e Rm s m args below meth c N0 H locs ls Z F h0 h1 hl hP hS K
  obtain ⟨k0, -, -, hrow⟩ := kt_row P I J R hkd (by omega)
  exact va_lald F.1.1 F.1.2.1 F.2.2.1.1 hP k0 1 (f := J a) (by rw [hrow]; simp [kt_ce]) rfl hin hd (kk p e Rm s m args below meth c N0 H locs ls Z F h0 h1 hl hP hS K)
theorem kw_aald {a n r : Nat} {j : Int32} (hd : kt_dc i pc .aaload 1 pc') (hkd : kt_kd P N a = (9, n)) (hin : vp_in j n) (hr : R a j.toNatClampNeg = some r) (kk : KW P i NM pc' L (.ref r :: st) N I J R Q) : KW P i NM pc L (.int j :: .ref a :: st) N I J R Q := by
  obtain ⟨hd, rfl⟩ := hd
  intro p e Rm s m args below meth c N0 H locs ls Z F h0 h1 hl hP hS K
  obtain ⟨k0, -, -, hrow⟩ := kt_row P I J R hkd (by omega)
  exact va_aldq F.1.1 F.1.2.1 F.2.2.1.1 hP k0 3 (f := R a) (C := RX0) (by rw [hrow]; simp [kt_ce]) rfl hin hd (by rw [hr]; exact kk p e Rm s m args below meth c N0 H locs ls Z F h0 h1 hl hP hS K)
theorem kw_iast {a n : Nat} {j x : Int32} (hd : kt_dc i pc .iastore 1 pc') (hkd : kt_kd P N a = (6, n)) (hin : vp_in j n) (kk : KW P i NM pc' L st N (kt_u1 I a j.toNatClampNeg x) J R Q) : KW P i NM pc L (.int x :: .int j :: .ref a :: st) N I J R Q := by
  obtain ⟨hd, rfl⟩ := hd
  intro p e Rm s m args below meth c N0 H locs ls Z F h0 h1 hl hP hS K
  obtain ⟨k0, -, -, hrow⟩ := kt_row P I J R hkd (by omega)
  have hset : (kt_ws P N I J R).set k0 (a, .inl (kt_c P 0, n, .inl (upd (I a) j.toNatClampNeg x))) = kt_ws P N (kt_u1 I a j.toNatClampNeg x) J R :=
    kt_ws_set P hrow hkd (by omega) (by simp [kt_ce, kt_u1_row]) (fun q t n hq => kt_ce_cong (kt_u1_ne I _ x hq) rfl rfl t n)
  exact va_iast F.1.1 F.1.2.1 F.2.2.1.1 hP (kt_wD P N I J R) hS k0 0 (f := I a) (by rw [hrow]; simp [kt_ce]) rfl hin hd (fun H1 locs1 hP1 _ hS1 => kk p e Rm s m args below meth c N0 H1 locs1 ls Z F h0 h1 hl (hset ▸ hP1) hS1 K)
theorem kw_zast {a n : Nat} {j x : Int32} (hd : kt_dc i pc .bastore 1 pc') (hkd : kt_kd P N a = (8, n)) (hin : vp_in j n) (hx : x = 0 ∨ x = 1) (kk : KW P i NM pc' L st N (kt_u1 I a j.toNatClampNeg x) J R Q) : KW P i NM pc L (.int x :: .int j :: .ref a :: st) N I J R Q := by
  obtain ⟨hd, rfl⟩ := hd
  have hx1 : vp_nar .boolean x = x := by rcases hx with rfl | rfl <;> rfl
  intro p e Rm s m args below meth c N0 H locs ls Z F h0 h1 hl hP hS K
  obtain ⟨k0, -, -, hrow⟩ := kt_row P I J R hkd (by omega)
  have hset : (kt_ws P N I J R).set k0 (a, .inl (kt_c P 2, n, .inl (upd (I a) j.toNatClampNeg (vp_nar .boolean x)))) = kt_ws P N (kt_u1 I a j.toNatClampNeg x) J R :=
    kt_ws_set P hrow hkd (by omega) (by simp [kt_ce, kt_u1_row, hx1]) (fun q t n hq => kt_ce_cong (kt_u1_ne I _ x hq) rfl rfl t n)
  exact va_zast F.1.1 F.1.2.1 F.2.2.1.1 hP (kt_wD P N I J R) hS k0 2 (f := I a) (by rw [hrow]; simp [kt_ce]) rfl hin hd (fun H1 locs1 hP1 _ hS1 => kk p e Rm s m args below meth c N0 H1 locs1 ls Z F h0 h1 hl (hset ▸ hP1) hS1 K)
theorem kw_last {a n : Nat} {j : Int32} {x : Int64} (hd : kt_dc i pc .lastore 1 pc') (hkd : kt_kd P N a = (7, n)) (hin : vp_in j n) (kk : KW P i NM pc' L st N I (kt_uL J a j.toNatClampNeg x) R Q) : KW P i NM pc L (.long x :: .int j :: .ref a :: st) N I J R Q := by
  obtain ⟨hd, rfl⟩ := hd
  intro p e Rm s m args below meth c N0 H locs ls Z F h0 h1 hl hP hS K
  obtain ⟨k0, -, -, hrow⟩ := kt_row P I J R hkd (by omega)
  have hset : (kt_ws P N I J R).set k0 (a, .inl (kt_c P 1, n, .inr (.inl (vp_updL (J a) j.toNatClampNeg x)))) = kt_ws P N I (kt_uL J a j.toNatClampNeg x) R :=
    kt_ws_set P hrow hkd (by omega) (by simp [kt_ce, kt_uL_row]) (fun q t n hq => kt_ce_cong rfl (kt_uL_ne J _ x hq) rfl t n)
  exact va_last F.1.1 F.1.2.1 F.2.2.1.1 hP (kt_wD P N I J R) hS k0 1 (f := J a) (by rw [hrow]; simp [kt_ce]) rfl hin hd (fun H1 locs1 hP1 _ hS1 => kk p e Rm s m args below meth c N0 H1 locs1 ls Z F h0 h1 hl (hset ▸ hP1) hS1 K)
theorem kw_aast {a n r : Nat} {j : Int32} (hd : kt_dc i pc .aastore 1 pc') (hkd : kt_kd P N a = (9, n)) (hkr : kt_kd P N r = (0, 0)) (hin : vp_in j n) (kk : KW P i NM pc' L st N I J (kt_uR R a j.toNatClampNeg (some r)) Q) : KW P i NM pc L (.ref r :: .int j :: .ref a :: st) N I J R Q := by
  obtain ⟨hd, rfl⟩ := hd
  intro p e Rm s m args below meth c N0 H locs ls Z F h0 h1 hl hP hS K
  obtain ⟨k0, -, -, hrow⟩ := kt_row P I J R hkd (by omega)
  obtain ⟨k1, -, -, hrow2⟩ := kt_row P I J R hkr (by omega)
  have hset : (kt_ws P N I J R).set k0 (a, .inl (kt_c P 3, n, .inr (.inr (.inr (.inr (va_up (R a) j.toNatClampNeg (some r))))))) = kt_ws P N I J (kt_uR R a j.toNatClampNeg (some r)) :=
    kt_ws_set P hrow hkd (by omega) (by simp [kt_ce, kt_uR_row]) (fun q t n hq => kt_ce_cong rfl rfl (kt_uR_ne R _ _ hq) t n)
  exact va_astq (r := (RX0, TX0, 11)) F.1.1 F.1.2.1 F.2.2.1.1 hP (kt_wD P N I J R) hS k0 3 k1 0 (f := R a) (vs := kt_fl I J R r (kt_ft 0) 0) (by rw [hrow]; simp [kt_ce]) rfl (by rw [hrow2]; simp [kt_ce]) rfl hin hd (fun H1 locs1 hP1 _ hS1 => kk p e Rm s m args below meth c N0 H1 locs1 ls Z F h0 h1 hl (hset ▸ hP1) hS1 K)
theorem kw_alen {a n : Nat} (hd : kt_dc i pc .arraylength 1 pc') (hkd : kt_kd P N a = (6, n)) (kk : KW P i NM pc' L (.int (nI n) :: st) N I J R Q) : KW P i NM pc L (.ref a :: st) N I J R Q := by
  obtain ⟨hd, rfl⟩ := hd
  intro p e Rm s m args below meth c N0 H locs ls Z F h0 h1 hl hP hS K
  obtain ⟨k0, -, -, hrow⟩ := kt_row P I J R hkd (by omega)
  exact va_alen F.1.1 F.1.2.1 F.2.2.1.1 hP k0 0 (x := (n, .inl (I a))) (by rw [hrow]; simp [kt_ce]) rfl rfl hd (kk p e Rm s m args below meth c N0 H locs ls Z F h0 h1 hl hP hS K)
/-! the script -/
theorem kt_bA (P : kt_P) (h : kt_b P < kt_z P) : ¬ kt_A P (kt_b P) := Nat.not_le.mpr h
theorem kw_sld {j : Int32} (hd : kt_dc i pc .iaload 1 pc') (hin : vp_in j (kt_L P)) (kk : KW P i NM pc' L (.int (kt_x P j.toNatClampNeg) :: st) N I J R Q) : KW P i NM pc L (.int j :: .ref (kt_b P) :: st) N I J R Q := by
  obtain ⟨hd, rfl⟩ := hd
  intro p e Rm s m args below meth c N0 H locs ls Z F h0 h1 hl hP hS K
  exact va_sld F.1.1 F.1.2.1 F.2.2.2.1 (by have h8 := F.2.2.2.2.2.1; have h9 := F.2.2.2.2.1; omega) (kt_bA P F.2.2.2.2.1) hS hin hd (kk p e Rm s m args below meth c N0 H locs ls Z F h0 h1 hl hP hS K)
theorem kw_slen (hd : kt_dc i pc .arraylength 1 pc') (kk : KW P i NM pc' L (.int (nI (kt_L P)) :: st) N I J R Q) : KW P i NM pc L (.ref (kt_b P) :: st) N I J R Q := by
  obtain ⟨hd, rfl⟩ := hd
  intro p e Rm s m args below meth c N0 H locs ls Z F h0 h1 hl hP hS K
  exact va_slen F.1.1 F.1.2.1 F.2.2.2.1 (by have h8 := F.2.2.2.2.2.1; have h9 := F.2.2.2.2.1; omega) (kt_bA P F.2.2.2.2.1) hS hd (kk p e Rm s m args below meth c N0 H locs ls Z F h0 h1 hl hP hS K)
end KH
