theorem kt_gw {w : Cond} (k : Nat) (h : lw_tbl[k]? = some w) (hg : goodWord w = true) : w ∈ kt_GW := List.mem_filter.mpr ⟨List.mem_of_getElem? h, hg⟩
theorem kt_gn {w : Cond} (k : Nat) (h : lw_tbl[k]? = some w) (hg : kt_nw w = true) : w ∈ kt_NW := List.mem_filter.mpr ⟨List.mem_of_getElem? h, hg⟩
theorem kt_good {w : Cond} (h : w ∈ kt_GW) : (w.onTables && w.keeps) = true ∨ ∃ ty, w = .arrayClass ty := good_of_word (List.mem_filter.mp h).2
def kt_ty (P : kt_P) : List (ClassId × FieldType) := [(kt_c P 0, .int), (kt_c P 1, .long), (kt_c P 2, .boolean), (kt_c P 3, .object RX0)]
def kt_ST (P : kt_P) (U : State) : Prop := va_K (kt_D P) vwCl (kt_ty P) U ∧ (∀ w ∈ kt_NW, va_Nw w U) ∧ va_AO RX0 U
theorem kt_ST.warm {P : kt_P} {s U : State} (hW : s.WarmedH U.vm) (h : kt_ST P s) : kt_ST P U := by
  refine ⟨va_K.moved hW.alike h.1, fun w hw => ?_, va_AO.moved hW.alike h.2.2⟩
  have h1 := h.2.1 w hw
  have h2 := (List.mem_filter.mp hw).2
  cases w <;> first | exact va_Nw.warmF hW h1 | exact va_Nw.warmM hW h1 | (exfalso; revert h2; simp [kt_nw])
theorem kt_ST.same {P : kt_P} {u U : State} (e : u.vm = U.vm) (h : kt_ST P u) : kt_ST P U := by
  refine ⟨va_K.moved (by rw [e]; exact Vm.Alike.refl _) h.1, fun w hw => ?_, va_AO.moved (by rw [e]; exact Vm.Alike.refl _) h.2.2⟩
  have h1 := h.2.1 w hw
  have h2 := (List.mem_filter.mp hw).2
  cases w <;> first | exact va_Nw.same rfl e h1 | (exfalso; revert h2; simp [kt_nw])
def kt_FC (P : kt_P) (i NM N0 : Nat) (p : Program) (Rm : Room) (s : State) (m : MethodId) (args : Array Value) (meth : Method) (c : Code) : Prop :=
  (p.tables.exec = Jvm.exec ∧ c.code = kt_by i ∧ c.maxLocals = kt_mx i ∧ s.vm.findClass (kt_ow i) = some m.cls ∧ meth.sig.returnType = kt_rt i ∧ meth.locks = false ∧ ((kt_nm i).name = "<init>" → meth.name = "<init>"))
  ∧ (∀ w ∈ kt_GW, w.before args s = true) ∧ kt_ST P s ∧ va_X (kt_b P) (kt_L P) (kt_x P) s s.heap ∧ kt_b P < kt_z P ∧ s.heap.size = kt_z P + N0
  ∧ (kt_fr i ≤ Rm.frames ∧ kt_lo i ≤ Rm.locals ∧ NM - N0 ≤ Rm.cells ∧ kt_SS NM - kt_SS N0 ≤ Rm.slots)
/-- the method's end: which instruction, what it answers -/
def kt_rk (i : Nat) (v : Option Value) (pc : Nat) : Prop := match v with
  | none => decode (kt_by i) pc = .ok (.return_, 1) ∧ kt_rt i = none
  | some (.int x) => decode (kt_by i) pc = .ok (.ireturn, 1) ∧ ∃ ty, kt_rt i = some ty ∧ narrow ty (.int x) = .int x
  | some (.long _) => decode (kt_by i) pc = .ok (.lreturn, 1) ∧ kt_rt i = some .long
  | _ => False
def KW (P : kt_P) (i NM pc : Nat) (L : List (Option Value)) (st : List Value) (N : Nat) (I : kt_I) (J : kt_J) (R : kt_R) (Q : Option Value → kt_I → kt_J → kt_R → Prop) : Prop :=
  ∀ (p : Program) (e : Env) (Rm : Room) (s : State) (m : MethodId) (args : Array Value) (below : List Frame) (meth : Method) (c : Code) (N0 : Nat) (H : Heap) (locs : List Loc) (ls : Array Slot) (Z : State → Prop),
    kt_FC P i NM N0 p Rm s m args meth c → N0 ≤ N → N ≤ NM → kt_LH ls (kt_mx i) L → va_P (kt_D P) vwCl (kt_ws P N I J R) H → va_S (kt_A P) s.heap H locs →
    (∀ (v : Option Value) (I' : kt_I) (J' : kt_J) (R' : kt_R) (H' : Heap) (locs' : List Loc) (ls' : Array Slot) (pc' : Nat), Q v I' J' R' → kt_rk i v pc' → va_P (kt_D P) vwCl (kt_ws P NM I' J' R') H' → va_S (kt_A P) s.heap H' locs' →
      W p (kt_l P) e Rm s m args below meth c H' locs' (NM - N0) (kt_SS NM - kt_SS N0) Z (F0 m pc' ls' v.toList)) →
    W p (kt_l P) e Rm s m args below meth c H locs (N - N0) (kt_SS N - kt_SS N0) Z (F0 m pc ls st)
theorem KW.post {P : kt_P} {i NM pc : Nat} {L : List (Option Value)} {st : List Value} {N : Nat} {I : kt_I} {J : kt_J} {R : kt_R} {Q Q' : Option Value → kt_I → kt_J → kt_R → Prop} (k : KW P i NM pc L st N I J R Q) (h : ∀ v I' J' R', Q v I' J' R' → Q' v I' J' R') : KW P i NM pc L st N I J R Q' :=
  fun p e Rm s m args below meth c N0 H locs ls Z F h0 h1 hl hP hS K => k p e Rm s m args below meth c N0 H locs ls Z F h0 h1 hl hP hS (fun v I' J' R' H' locs' ls' pc' hq => K v I' J' R' H' locs' ls' pc' (h v I' J' R' hq))
/-! facts of an instruction -/
def kt_dc (i pc : Nat) (ins : Instr) (len pc' : Nat) : Prop := decode (kt_by i) pc = .ok (ins, len) ∧ pc + len = pc'
def kt_dj (i pc : Nat) (f : Int → Instr) (tgt pc' : Nat) : Prop := ∃ off : Int, decode (kt_by i) pc = .ok (f off, 3) ∧ (pc : Int) + off = (tgt : Int) ∧ pc + 3 = pc'
def kt_dt (i pc : Nat) (lo : Int) (tg : List Nat) (dflt : Nat) : Prop := ∃ (d hi : Int) (offs : Array Int) (len : Nat), decode (kt_by i) pc = .ok (.tableswitch d lo hi offs, len) ∧ (pc : Int) + d = (dflt : Int) ∧ hi = lo + (tg.length : Int) - 1 ∧ offs.toList.map (fun o => (pc : Int) + o) = tg.map Int.ofNat
section KR
variable {P : kt_P} {i NM pc pc' : Nat} {L L' : List (Option Value)} {st st' : List Value} {N : Nat} {I : kt_I} {J : kt_J} {R : kt_R} {Q : Option Value → kt_I → kt_J → kt_R → Prop}
/-- an instruction that moves neither memory nor tables -/
theorem kt_go (k : KW P i NM pc' L' st' N I J R Q) (h : ∀ (p : Program) (e : Env) (Rm : Room) (s : State) (m : MethodId) (args : Array Value) (below : List Frame) (meth : Method) (c : Code) (H : Heap) (locs : List Loc) (ce sl : Nat) (ls : Array Slot) (Z : State → Prop),
      p.tables.exec = Jvm.exec → c.code = kt_by i → s.vm.findClass (kt_ow i) = some m.cls → (∀ w ∈ kt_GW, w.before args s = true) → kt_LH ls (kt_mx i) L →
      (∀ ls', kt_LH ls' (kt_mx i) L' → W p (kt_l P) e Rm s m args below meth c H locs ce sl Z (F0 m pc' ls' st')) → W p (kt_l P) e Rm s m args below meth c H locs ce sl Z (F0 m pc ls st)) : KW P i NM pc L st N I J R Q :=
  fun p e Rm s m args below meth c N0 H locs ls Z F h0 h1 hl hP hS K => h p e Rm s m args below meth c H locs _ _ ls Z F.1.1 F.1.2.1 F.1.2.2.2.1 F.2.1 hl (fun ls' hl' => k p e Rm s m args below meth c N0 H locs ls' Z F h0 h1 hl' hP hS K)
theorem kw_iconst {n : Int} (hd : kt_dc i pc (.iconst n) 1 pc') (k : KW P i NM pc' L (.int (Int32.ofInt n) :: st) N I J R Q) : KW P i NM pc L st N I J R Q := by
  obtain ⟨hd, rfl⟩ := hd
  exact kt_go k fun _ _ _ _ _ _ _ _ _ _ _ _ _ _ _ hx hb _ _ hl kk => lv_iconst hx hb hd rfl (kk _ hl)
theorem kw_bipush {n : Int} (hd : kt_dc i pc (.bipush n) 2 pc') (k : KW P i NM pc' L (.int (Int8.ofInt n).toInt32 :: st) N I J R Q) : KW P i NM pc L st N I J R Q := by
  obtain ⟨hd, rfl⟩ := hd
  exact kt_go k fun _ _ _ _ _ _ _ _ _ _ _ _ _ _ _ hx hb _ _ hl kk => lv_bipush hx hb hd rfl (kk _ hl)
theorem kw_sipush {n : Int} (hd : kt_dc i pc (.sipush n) 3 pc') (k : KW P i NM pc' L (.int (Int16.ofInt n).toInt32 :: st) N I J R Q) : KW P i NM pc L st N I J R Q := by
  obtain ⟨hd, rfl⟩ := hd
  exact kt_go k fun _ _ _ _ _ _ _ _ _ _ _ _ _ _ _ hx hb _ _ hl kk => lv_sipush hx hb hd rfl (kk _ hl)
/-- a constant, by its value -/
theorem kw_icon {n : Int} {v : Int32} (hd : kt_dc i pc (.iconst n) 1 pc' ∧ Int32.ofInt n = v) (k : KW P i NM pc' L (.int v :: st) N I J R Q) : KW P i NM pc L st N I J R Q := by
  obtain ⟨hd, rfl⟩ := hd
  exact kw_iconst hd k
theorem kw_bip {n : Int} {v : Int32} (hd : kt_dc i pc (.bipush n) 2 pc' ∧ (Int8.ofInt n).toInt32 = v) (k : KW P i NM pc' L (.int v :: st) N I J R Q) : KW P i NM pc L st N I J R Q := by
  obtain ⟨hd, rfl⟩ := hd
  exact kw_bipush hd k
theorem kw_sip {n : Int} {v : Int32} (hd : kt_dc i pc (.sipush n) 3 pc' ∧ (Int16.ofInt n).toInt32 = v) (k : KW P i NM pc' L (.int v :: st) N I J R Q) : KW P i NM pc L st N I J R Q := by
  obtain ⟨hd, rfl⟩ := hd
  exact kw_sipush hd k
theorem kw_lconst {n : Fin 2} {v : Int64} (hd : kt_dc i pc (.lconst n) 1 pc' ∧ Int64.ofNat (n : Nat) = v) (k : KW P i NM pc' L (.long v :: st) N I J R Q) : KW P i NM pc L st N I J R Q := by
  obtain ⟨⟨hd, rfl⟩, hv⟩ := hd
  exact kt_go k fun _ _ _ _ _ _ _ _ _ _ _ _ _ _ _ hx hb _ _ hl kk => lv_lconst hx hb hd hv (kk _ hl)
theorem kw_ldc2 {n : Nat} {v : Int64} (hd : kt_dc i pc (.ldc2_w n) 3 pc' ∧ Cond.constantLong (kt_ow i) n v ∈ kt_GW) (k : KW P i NM pc' L (.long v :: st) N I J R Q) : KW P i NM pc L st N I J R Q := by
  obtain ⟨⟨hd, rfl⟩, hv⟩ := hd
  exact kt_go k fun _ _ _ _ _ _ _ _ _ _ _ _ _ _ _ hx hb ho ht hl kk => lv_ldc2 hx hb ho (ht _ hv) hd (kk _ hl)
/-! locals -/
theorem kw_ild_n {n : Fin 4} {x : Int32} (hd : kt_dc i pc (.iload_n n) 1 pc') (hv : L[(n : Nat)]? = some (some (.int x))) (k : KW P i NM pc' L (.int x :: st) N I J R Q) : KW P i NM pc L st N I J R Q := by
  obtain ⟨hd, rfl⟩ := hd
  exact kt_go k fun _ _ _ _ _ _ _ _ _ _ _ _ _ _ _ hx hb _ _ hl kk => lv_iload_n hx hb hd rfl (hl.2 _ _ hv) (kk _ hl)
theorem kw_ild {n : Nat} {x : Int32} (hd : kt_dc i pc (.iload n) 2 pc') (hv : L[n]? = some (some (.int x))) (k : KW P i NM pc' L (.int x :: st) N I J R Q) : KW P i NM pc L st N I J R Q := by
  obtain ⟨hd, rfl⟩ := hd
  exact kt_go k fun _ _ _ _ _ _ _ _ _ _ _ _ _ _ _ hx hb _ _ hl kk => lv_iload hx hb hd (hl.2 _ _ hv) (kk _ hl)
theorem kw_lld_n {n : Fin 4} {x : Int64} (hd : kt_dc i pc (.lload_n n) 1 pc') (hv : L[(n : Nat)]? = some (some (.long x))) (k : KW P i NM pc' L (.long x :: st) N I J R Q) : KW P i NM pc L st N I J R Q := by
  obtain ⟨hd, rfl⟩ := hd
  exact kt_go k fun _ _ _ _ _ _ _ _ _ _ _ _ _ _ _ hx hb _ _ hl kk => lv_lload_n hx hb hd rfl (hl.2 _ _ hv) (kk _ hl)
theorem kw_lld {n : Nat} {x : Int64} (hd : kt_dc i pc (.lload n) 2 pc') (hv : L[n]? = some (some (.long x))) (k : KW P i NM pc' L (.long x :: st) N I J R Q) : KW P i NM pc L st N I J R Q := by
  obtain ⟨hd, rfl⟩ := hd
  exact kt_go k fun _ _ _ _ _ _ _ _ _ _ _ _ _ _ _ hx hb _ _ hl kk => lv_lload hx hb hd (hl.2 _ _ hv) (kk _ hl)
theorem kw_ald_n {n : Fin 4} {x : Nat} (hd : kt_dc i pc (.aload_n n) 1 pc') (hv : L[(n : Nat)]? = some (some (.ref x))) (k : KW P i NM pc' L (.ref x :: st) N I J R Q) : KW P i NM pc L st N I J R Q := by
  obtain ⟨hd, rfl⟩ := hd
  exact kt_go k fun _ _ _ _ _ _ _ _ _ _ _ _ _ _ _ hx hb _ _ hl kk => lv_aload_n hx hb hd rfl (hl.2 _ _ hv) (kk _ hl)
theorem kw_ald {n : Nat} {x : Nat} (hd : kt_dc i pc (.aload n) 2 pc') (hv : L[n]? = some (some (.ref x))) (k : KW P i NM pc' L (.ref x :: st) N I J R Q) : KW P i NM pc L st N I J R Q := by
  obtain ⟨hd, rfl⟩ := hd
  exact kt_go k fun _ _ _ _ _ _ _ _ _ _ _ _ _ _ _ hx hb _ _ hl kk => lv_aload hx hb hd (hl.2 _ _ hv) (kk _ hl)
theorem kw_ist_n {n : Fin 4} {x : Int32} (hd : kt_dc i pc (.istore_n n) 1 pc') (hn : (n : Nat) < kt_mx i) (k : KW P i NM pc' (kt_s1 L n (.int x)) st N I J R Q) : KW P i NM pc L (.int x :: st) N I J R Q := by
  obtain ⟨hd, rfl⟩ := hd
  exact kt_go k fun _ _ _ _ _ _ _ _ _ _ _ _ _ _ _ hx hb _ _ hl kk => lv_istore_n hx hb hd rfl hl.has hn rfl (fun ls' h' => kk ls' (kt_LH.st1 h'))
theorem kw_ist {n : Nat} {x : Int32} (hd : kt_dc i pc (.istore n) 2 pc') (hn : n < kt_mx i) (k : KW P i NM pc' (kt_s1 L n (.int x)) st N I J R Q) : KW P i NM pc L (.int x :: st) N I J R Q := by
  obtain ⟨hd, rfl⟩ := hd
  exact kt_go k fun _ _ _ _ _ _ _ _ _ _ _ _ _ _ _ hx hb _ _ hl kk => lv_istore hx hb hd hl.has hn rfl (fun ls' h' => kk ls' (kt_LH.st1 h'))
theorem kw_ast_n {n : Fin 4} {x : Nat} (hd : kt_dc i pc (.astore_n n) 1 pc') (hn : (n : Nat) < kt_mx i) (k : KW P i NM pc' (kt_s1 L n (.ref x)) st N I J R Q) : KW P i NM pc L (.ref x :: st) N I J R Q := by
  obtain ⟨hd, rfl⟩ := hd
  exact kt_go k fun _ _ _ _ _ _ _ _ _ _ _ _ _ _ _ hx hb _ _ hl kk => lv_astore_n hx hb hd rfl hl.has hn rfl (fun ls' h' => kk ls' (kt_LH.st1 h'))
theorem kw_ast {n : Nat} {x : Nat} (hd : kt_dc i pc (.astore n) 2 pc') (hn : n < kt_mx i) (k : KW P i NM pc' (kt_s1 L n (.ref x)) st N I J R Q) : KW P i NM pc L (.ref x :: st) N I J R Q := by
  obtain ⟨hd, rfl⟩ := hd
  exact kt_go k fun _ _ _ _ _ _ _ _ _ _ _ _ _ _ _ hx hb _ _ hl kk => lv_astore hx hb hd hl.has hn rfl (fun ls' h' => kk ls' (kt_LH.st1 h'))
theorem kw_lst_n {n : Fin 4} {x : Int64} (hd : kt_dc i pc (.lstore_n n) 1 pc') (hn : (n : Nat) + 1 < kt_mx i) (k : KW P i NM pc' (kt_s2 L n (.long x)) st N I J R Q) : KW P i NM pc L (.long x :: st) N I J R Q := by
  obtain ⟨hd, rfl⟩ := hd
  exact kt_go k fun _ _ _ _ _ _ _ _ _ _ _ _ _ _ _ hx hb _ _ hl kk => lv_lstore_n hx hb hd rfl hl.has hn rfl (fun ls' h' => kk ls' (kt_LH.st2 h'))
theorem kw_lst {n : Nat} {x : Int64} (hd : kt_dc i pc (.lstore n) 2 pc') (hn : n + 1 < kt_mx i) (k : KW P i NM pc' (kt_s2 L n (.long x)) st N I J R Q) : KW P i NM pc L (.long x :: st) N I J R Q := by
  obtain ⟨hd, rfl⟩ := hd
  exact kt_go k fun _ _ _ _ _ _ _ _ _ _ _ _ _ _ _ hx hb _ _ hl kk => lv_lstore hx hb hd hl.has hn rfl (fun ls' h' => kk ls' (kt_LH.st2 h'))
theorem kw_iinc {n : Nat} {d : Int} {x v : Int32} (hd : kt_dc i pc (.iinc n d) 3 pc' ∧ Int32.ofInt d = v) (hn : n < kt_mx i) (hv : L[n]? = some (some (.int x))) (k : KW P i NM pc' (kt_s1 L n (.int (x + v))) st N I J R Q) : KW P i NM pc L st N I J R Q := by
  obtain ⟨⟨hd, rfl⟩, rfl⟩ := hd
  obtain ⟨q, hq⟩ := List.getElem?_of_mem (kt_la_mem (q := (n, .int x)) |>.mpr hv)
  exact kt_go k fun _ _ _ _ _ _ _ _ _ _ _ _ _ _ _ hx hb _ _ hl kk => lv_iinc hx hb hd hl.has hq rfl hn rfl (fun ls' h' => kk ls' (kt_LH.st1 h'))
/-! arithmetic -/
theorem kw_iadd {x y : Int32} (hd : kt_dc i pc .iadd 1 pc') (k : KW P i NM pc' L (.int (x + y) :: st) N I J R Q) : KW P i NM pc L (.int y :: .int x :: st) N I J R Q := by
  obtain ⟨hd, rfl⟩ := hd
  exact kt_go k fun _ _ _ _ _ _ _ _ _ _ _ _ _ _ _ hx hb _ _ hl kk => lv_iadd hx hb hd (kk _ hl)
theorem kw_isub {x y : Int32} (hd : kt_dc i pc .isub 1 pc') (k : KW P i NM pc' L (.int (x - y) :: st) N I J R Q) : KW P i NM pc L (.int y :: .int x :: st) N I J R Q := by
  obtain ⟨hd, rfl⟩ := hd
  exact kt_go k fun _ _ _ _ _ _ _ _ _ _ _ _ _ _ _ hx hb _ _ hl kk => lv_isub hx hb hd (kk _ hl)
theorem kw_imul {x y : Int32} (hd : kt_dc i pc .imul 1 pc') (k : KW P i NM pc' L (.int (x * y) :: st) N I J R Q) : KW P i NM pc L (.int y :: .int x :: st) N I J R Q := by
  obtain ⟨hd, rfl⟩ := hd
  exact kt_go k fun _ _ _ _ _ _ _ _ _ _ _ _ _ _ _ hx hb _ _ hl kk => lv_imul hx hb hd (kk _ hl)
theorem kw_iand {x y : Int32} (hd : kt_dc i pc .iand 1 pc') (k : KW P i NM pc' L (.int (x &&& y) :: st) N I J R Q) : KW P i NM pc L (.int y :: .int x :: st) N I J R Q := by
  obtain ⟨hd, rfl⟩ := hd
  exact kt_go k fun _ _ _ _ _ _ _ _ _ _ _ _ _ _ _ hx hb _ _ hl kk => lv_iand hx hb hd (kk _ hl)
theorem kw_ior {x y : Int32} (hd : kt_dc i pc .ior 1 pc') (k : KW P i NM pc' L (.int (x ||| y) :: st) N I J R Q) : KW P i NM pc L (.int y :: .int x :: st) N I J R Q := by
  obtain ⟨hd, rfl⟩ := hd
  exact kt_go k fun _ _ _ _ _ _ _ _ _ _ _ _ _ _ _ hx hb _ _ hl kk => lv_ior hx hb hd (kk _ hl)
theorem kw_ishl {x y : Int32} (hd : kt_dc i pc .ishl 1 pc') (k : KW P i NM pc' L (.int (x <<< (y &&& 31)) :: st) N I J R Q) : KW P i NM pc L (.int y :: .int x :: st) N I J R Q := by
  obtain ⟨hd, rfl⟩ := hd
  exact kt_go k fun _ _ _ _ _ _ _ _ _ _ _ _ _ _ _ hx hb _ _ hl kk => lv_ishl hx hb hd (kk _ hl)
theorem kw_ishr {x y : Int32} (hd : kt_dc i pc .ishr 1 pc') (k : KW P i NM pc' L (.int (x >>> (y &&& 31)) :: st) N I J R Q) : KW P i NM pc L (.int y :: .int x :: st) N I J R Q := by
  obtain ⟨hd, rfl⟩ := hd
  exact kt_go k fun _ _ _ _ _ _ _ _ _ _ _ _ _ _ _ hx hb _ _ hl kk => lv_ishr hx hb hd (kk _ hl)
theorem kw_ladd {x y : Int64} (hd : kt_dc i pc .ladd 1 pc') (k : KW P i NM pc' L (.long (x + y) :: st) N I J R Q) : KW P i NM pc L (.long y :: .long x :: st) N I J R Q := by
  obtain ⟨hd, rfl⟩ := hd
  exact kt_go k fun _ _ _ _ _ _ _ _ _ _ _ _ _ _ _ hx hb _ _ hl kk => lv_ladd hx hb hd (kk _ hl)
theorem kw_lsub {x y : Int64} (hd : kt_dc i pc .lsub 1 pc') (k : KW P i NM pc' L (.long (x - y) :: st) N I J R Q) : KW P i NM pc L (.long y :: .long x :: st) N I J R Q := by
  obtain ⟨hd, rfl⟩ := hd
  exact kt_go k fun _ _ _ _ _ _ _ _ _ _ _ _ _ _ _ hx hb _ _ hl kk => lv_lsub hx hb hd (kk _ hl)
theorem kw_land {x y : Int64} (hd : kt_dc i pc .land 1 pc') (k : KW P i NM pc' L (.long (x &&& y) :: st) N I J R Q) : KW P i NM pc L (.long y :: .long x :: st) N I J R Q := by
  obtain ⟨hd, rfl⟩ := hd
  exact kt_go k fun _ _ _ _ _ _ _ _ _ _ _ _ _ _ _ hx hb _ _ hl kk => lv_land hx hb hd (kk _ hl)
theorem kw_lor {x y : Int64} (hd : kt_dc i pc .lor 1 pc') (k : KW P i NM pc' L (.long (x ||| y) :: st) N I J R Q) : KW P i NM pc L (.long y :: .long x :: st) N I J R Q := by
  obtain ⟨hd, rfl⟩ := hd
  exact kt_go k fun _ _ _ _ _ _ _ _ _ _ _ _ _ _ _ hx hb _ _ hl kk => lv_lor hx hb hd (kk _ hl)
theorem kw_lxor {x y : Int64} (hd : kt_dc i pc .lxor 1 pc') (k : KW P i NM pc' L (.long (x ^^^ y) :: st) N I J R Q) : KW P i NM pc L (.long y :: .long x :: st) N I J R Q := by
  obtain ⟨hd, rfl⟩ := hd
  exact kt_go k fun _ _ _ _ _ _ _ _ _ _ _ _ _ _ _ hx hb _ _ hl kk => lv_lxor hx hb hd (kk _ hl)
theorem kw_lshl {x : Int64} {y : Int32} (hd : kt_dc i pc .lshl 1 pc') (k : KW P i NM pc' L (.long (x <<< (y.toInt64 &&& 63)) :: st) N I J R Q) : KW P i NM pc L (.int y :: .long x :: st) N I J R Q := by
  obtain ⟨hd, rfl⟩ := hd
  exact kt_go k fun _ _ _ _ _ _ _ _ _ _ _ _ _ _ _ hx hb _ _ hl kk => lv_lshl hx hb hd rfl (kk _ hl)
theorem kw_lshr {x : Int64} {y : Int32} (hd : kt_dc i pc .lshr 1 pc') (k : KW P i NM pc' L (.long (x >>> (y.toInt64 &&& 63)) :: st) N I J R Q) : KW P i NM pc L (.int y :: .long x :: st) N I J R Q := by
  obtain ⟨hd, rfl⟩ := hd
  exact kt_go k fun _ _ _ _ _ _ _ _ _ _ _ _ _ _ _ hx hb _ _ hl kk => lv_lshr hx hb hd rfl (kk _ hl)
theorem kw_lushr {x : Int64} {y : Int32} (hd : kt_dc i pc .lushr 1 pc') (k : KW P i NM pc' L (.long (x.toUInt64 >>> (y.toInt64.toUInt64 &&& Int64.toUInt64 63)).toInt64 :: st) N I J R Q) : KW P i NM pc L (.int y :: .long x :: st) N I J R Q := by
  obtain ⟨hd, rfl⟩ := hd
  exact kt_go k fun _ _ _ _ _ _ _ _ _ _ _ _ _ _ _ hx hb _ _ hl kk => lv_lushr hx hb hd rfl (kk _ hl)
theorem kw_l2i {x : Int64} (hd : kt_dc i pc .l2i 1 pc') (k : KW P i NM pc' L (.int x.toInt32 :: st) N I J R Q) : KW P i NM pc L (.long x :: st) N I J R Q := by
  obtain ⟨hd, rfl⟩ := hd
  exact kt_go k fun _ _ _ _ _ _ _ _ _ _ _ _ _ _ _ hx hb _ _ hl kk => lv_l2i hx hb hd rfl (kk _ hl)
theorem kw_lcmp {x y : Int64} (hd : kt_dc i pc .lcmp 1 pc') (k : KW P i NM pc' L (.int (lg_cmp x y) :: st) N I J R Q) : KW P i NM pc L (.long y :: .long x :: st) N I J R Q := by
  obtain ⟨hd, rfl⟩ := hd
  exact kt_go k fun _ _ _ _ _ _ _ _ _ _ _ _ _ _ _ hx hb _ _ hl kk => W.lcmp hx hb hd (kk _ hl)
theorem kw_dup {v : Value} (hd : kt_dc i pc .dup 1 pc') (hv : v.category = 1) (k : KW P i NM pc' L (v :: v :: st) N I J R Q) : KW P i NM pc L (v :: st) N I J R Q := by
  obtain ⟨hd, rfl⟩ := hd
  exact kt_go k fun _ _ _ _ _ _ _ _ _ _ _ _ _ _ _ hx hb _ _ hl kk => lv_dup hx hb hd hv (kk _ hl)
theorem kw_pop {v : Value} (hd : kt_dc i pc .pop 1 pc') (hv : v.category = 1) (k : KW P i NM pc' L st N I J R Q) : KW P i NM pc L (v :: st) N I J R Q := by
  obtain ⟨hd, rfl⟩ := hd
  exact kt_go k fun _ _ _ _ _ _ _ _ _ _ _ _ _ _ _ hx hb _ _ hl kk => lv_pop hx hb hd hv (kk _ hl)
theorem kw_dup2 {v w : Value} (hd : kt_dc i pc .dup2 1 pc') (hv : v.category = 1) (hw : w.category = 1) (k : KW P i NM pc' L (v :: w :: v :: w :: st) N I J R Q) : KW P i NM pc L (v :: w :: st) N I J R Q := by
  obtain ⟨hd, rfl⟩ := hd
  exact kt_go k fun _ _ _ _ _ _ _ _ _ _ _ _ _ _ _ hx hb _ _ hl kk => lv_dup2_11 hx hb hd hv hw (kk _ hl)
theorem kw_goto {tgt : Nat} (hd : kt_dj i pc .goto tgt pc') (k : KW P i NM tgt L st N I J R Q) : KW P i NM pc L st N I J R Q := by
  obtain ⟨off, hd, ht, rfl⟩ := hd
  exact kt_go k fun _ _ _ _ _ _ _ _ _ _ _ _ _ _ _ hx hb _ _ hl kk => lv_goto hx hb hd ht (kk _ hl)
theorem kw_if_eq {x : Int32} {tgt : Nat} (hd : kt_dj i pc (.ifCond .eq) tgt pc') (k1 : x = 0 → KW P i NM tgt L st N I J R Q) (k2 : ¬ x = 0 → KW P i NM pc' L st N I J R Q) : KW P i NM pc L (.int x :: st) N I J R Q := by
  obtain ⟨off, hd, ht, rfl⟩ := hd
  exact fun p e Rm s m args below meth c N0 H locs ls Z F h0 h1 hl hP hS K => lv_if_eq F.1.1 F.1.2.1 hd ht (fun q => k1 q p e Rm s m args below meth c N0 H locs ls Z F h0 h1 hl hP hS K) (fun q => k2 q p e Rm s m args below meth c N0 H locs ls Z F h0 h1 hl hP hS K)
theorem kw_ic_eq {x y : Int32} {tgt : Nat} (hd : kt_dj i pc (.if_icmp .eq) tgt pc') (k1 : x = y → KW P i NM tgt L st N I J R Q) (k2 : ¬ x = y → KW P i NM pc' L st N I J R Q) : KW P i NM pc L (.int y :: .int x :: st) N I J R Q := by
  obtain ⟨off, hd, ht, rfl⟩ := hd
  exact fun p e Rm s m args below meth c N0 H locs ls Z F h0 h1 hl hP hS K => lv_icmp_eq F.1.1 F.1.2.1 hd ht (fun q => k1 q p e Rm s m args below meth c N0 H locs ls Z F h0 h1 hl hP hS K) (fun q => k2 q p e Rm s m args below meth c N0 H locs ls Z F h0 h1 hl hP hS K)
theorem kw_if_ne {x : Int32} {tgt : Nat} (hd : kt_dj i pc (.ifCond .ne) tgt pc') (k1 : ¬ x = 0 → KW P i NM tgt L st N I J R Q) (k2 : x = 0 → KW P i NM pc' L st N I J R Q) : KW P i NM pc L (.int x :: st) N I J R Q := by
  obtain ⟨off, hd, ht, rfl⟩ := hd
  exact fun p e Rm s m args below meth c N0 H locs ls Z F h0 h1 hl hP hS K => lv_if_ne F.1.1 F.1.2.1 hd ht (fun q => k1 q p e Rm s m args below meth c N0 H locs ls Z F h0 h1 hl hP hS K) (fun q => k2 q p e Rm s m args below meth c N0 H locs ls Z F h0 h1 hl hP hS K)
theorem kw_ic_ne {x y : Int32} {tgt : Nat} (hd : kt_dj i pc (.if_icmp .ne) tgt pc') (k1 : ¬ x = y → KW P i NM tgt L st N I J R Q) (k2 : x = y → KW P i NM pc' L st N I J R Q) : KW P i NM pc L (.int y :: .int x :: st) N I J R Q := by
  obtain ⟨off, hd, ht, rfl⟩ := hd
  exact fun p e Rm s m args below meth c N0 H locs ls Z F h0 h1 hl hP hS K => lv_icmp_ne F.1.1 F.1.2.1 hd ht (fun q => k1 q p e Rm s m args below meth c N0 H locs ls Z F h0 h1 hl hP hS K) (fun q => k2 q p e Rm s m args below meth c N0 H locs ls Z F h0 h1 hl hP hS K)
theorem kw_if_lt {x : Int32} {tgt : Nat} (hd : kt_dj i pc (.ifCond .lt) tgt pc') (k1 : x < 0 → KW P i NM tgt L st N I J R Q) (k2 : ¬ x < 0 → KW P i NM pc' L st N I J R Q) : KW P i NM pc L (.int x :: st) N I J R Q := by
  obtain ⟨off, hd, ht, rfl⟩ := hd
  exact fun p e Rm s m args below meth c N0 H locs ls Z F h0 h1 hl hP hS K => lv_if_lt F.1.1 F.1.2.1 hd ht (fun q => k1 q p e Rm s m args below meth c N0 H locs ls Z F h0 h1 hl hP hS K) (fun q => k2 q p e Rm s m args below meth c N0 H locs ls Z F h0 h1 hl hP hS K)
theorem kw_ic_lt {x y : Int32} {tgt : Nat} (hd : kt_dj i pc (.if_icmp .lt) tgt pc') (k1 : x < y → KW P i NM tgt L st N I J R Q) (k2 : ¬ x < y → KW P i NM pc' L st N I J R Q) : KW P i NM pc L (.int y :: .int x :: st) N I J R Q := by
  obtain ⟨off, hd, ht, rfl⟩ := hd
  exact fun p e Rm s m args below meth c N0 H locs ls Z F h0 h1 hl hP hS K => lv_icmp_lt F.1.1 F.1.2.1 hd ht (fun q => k1 q p e Rm s m args below meth c N0 H locs ls Z F h0 h1 hl hP hS K) (fun q => k2 q p e Rm s m args below meth c N0 H locs ls Z F h0 h1 hl hP hS K)
theorem kw_if_ge {x : Int32} {tgt : Nat} (hd : kt_dj i pc (.ifCond .ge) tgt pc') (k1 : 0 ≤ x → KW P i NM tgt L st N I J R Q) (k2 : ¬ 0 ≤ x → KW P i NM pc' L st N I J R Q) : KW P i NM pc L (.int x :: st) N I J R Q := by
  obtain ⟨off, hd, ht, rfl⟩ := hd
  exact fun p e Rm s m args below meth c N0 H locs ls Z F h0 h1 hl hP hS K => lv_if_ge F.1.1 F.1.2.1 hd ht (fun q => k1 q p e Rm s m args below meth c N0 H locs ls Z F h0 h1 hl hP hS K) (fun q => k2 q p e Rm s m args below meth c N0 H locs ls Z F h0 h1 hl hP hS K)
theorem kw_ic_ge {x y : Int32} {tgt : Nat} (hd : kt_dj i pc (.if_icmp .ge) tgt pc') (k1 : y ≤ x → KW P i NM tgt L st N I J R Q) (k2 : ¬ y ≤ x → KW P i NM pc' L st N I J R Q) : KW P i NM pc L (.int y :: .int x :: st) N I J R Q := by
  obtain ⟨off, hd, ht, rfl⟩ := hd
  exact fun p e Rm s m args below meth c N0 H locs ls Z F h0 h1 hl hP hS K => lv_icmp_ge F.1.1 F.1.2.1 hd ht (fun q => k1 q p e Rm s m args below meth c N0 H locs ls Z F h0 h1 hl hP hS K) (fun q => k2 q p e Rm s m args below meth c N0 H locs ls Z F h0 h1 hl hP hS K)
theorem kw_if_gt {x : Int32} {tgt : Nat} (hd : kt_dj i pc (.ifCond .gt) tgt pc') (k1 : 0 < x → KW P i NM tgt L st N I J R Q) (k2 : ¬ 0 < x → KW P i NM pc' L st N I J R Q) : KW P i NM pc L (.int x :: st) N I J R Q := by
  obtain ⟨off, hd, ht, rfl⟩ := hd
  exact fun p e Rm s m args below meth c N0 H locs ls Z F h0 h1 hl hP hS K => lv_if_gt F.1.1 F.1.2.1 hd ht (fun q => k1 q p e Rm s m args below meth c N0 H locs ls Z F h0 h1 hl hP hS K) (fun q => k2 q p e Rm s m args below meth c N0 H locs ls Z F h0 h1 hl hP hS K)
theorem kw_ic_gt {x y : Int32} {tgt : Nat} (hd : kt_dj i pc (.if_icmp .gt) tgt pc') (k1 : y < x → KW P i NM tgt L st N I J R Q) (k2 : ¬ y < x → KW P i NM pc' L st N I J R Q) : KW P i NM pc L (.int y :: .int x :: st) N I J R Q := by
  obtain ⟨off, hd, ht, rfl⟩ := hd
  exact fun p e Rm s m args below meth c N0 H locs ls Z F h0 h1 hl hP hS K => lv_icmp_gt F.1.1 F.1.2.1 hd ht (fun q => k1 q p e Rm s m args below meth c N0 H locs ls Z F h0 h1 hl hP hS K) (fun q => k2 q p e Rm s m args below meth c N0 H locs ls Z F h0 h1 hl hP hS K)
theorem kw_if_le {x : Int32} {tgt : Nat} (hd : kt_dj i pc (.ifCond .le) tgt pc') (k1 : x ≤ 0 → KW P i NM tgt L st N I J R Q) (k2 : ¬ x ≤ 0 → KW P i NM pc' L st N I J R Q) : KW P i NM pc L (.int x :: st) N I J R Q := by
  obtain ⟨off, hd, ht, rfl⟩ := hd
  exact fun p e Rm s m args below meth c N0 H locs ls Z F h0 h1 hl hP hS K => lv_if_le F.1.1 F.1.2.1 hd ht (fun q => k1 q p e Rm s m args below meth c N0 H locs ls Z F h0 h1 hl hP hS K) (fun q => k2 q p e Rm s m args below meth c N0 H locs ls Z F h0 h1 hl hP hS K)
theorem kw_ic_le {x y : Int32} {tgt : Nat} (hd : kt_dj i pc (.if_icmp .le) tgt pc') (k1 : x ≤ y → KW P i NM tgt L st N I J R Q) (k2 : ¬ x ≤ y → KW P i NM pc' L st N I J R Q) : KW P i NM pc L (.int y :: .int x :: st) N I J R Q := by
  obtain ⟨off, hd, ht, rfl⟩ := hd
  exact fun p e Rm s m args below meth c N0 H locs ls Z F h0 h1 hl hP hS K => lv_icmp_le F.1.1 F.1.2.1 hd ht (fun q => k1 q p e Rm s m args below meth c N0 H locs ls Z F h0 h1 hl hP hS K) (fun q => k2 q p e Rm s m args below meth c N0 H locs ls Z F h0 h1 hl hP hS K)
/-! switches -/
theorem kw_tsw {lo : Int} {tg : List Nat} {dflt : Nat} {x : Int32} (hd : kt_dt i pc lo tg dflt) (k1 : ∀ (j t : Nat), tg[j]? = some t → x.toInt = lo + (j : Int) → KW P i NM t L st N I J R Q) (k2 : x.toInt < lo ∨ lo + (tg.length : Int) ≤ x.toInt → KW P i NM dflt L st N I J R Q) : KW P i NM pc L (.int x :: st) N I J R Q := by
  obtain ⟨d, hi, offs, len, hd, hdf, hhi, hof⟩ := hd
  intro p e Rm s m args below meth c N0 H locs ls Z F h0 h1 hl hP hS K
  by_cases hr : x.toInt < lo ∨ lo + (tg.length : Int) ≤ x.toInt
  · exact lv_tableOut F.1.1 F.1.2.1 hd (by rcases hr with h | h; exact Or.inl h; exact Or.inr (by omega)) hdf (k2 hr p e Rm s m args below meth c N0 H locs ls Z F h0 h1 hl hP hS K)
  · have hlen : (x.toInt - lo).toNat < tg.length := by omega
    have ht : tg[(x.toInt - lo).toNat]? = some (tg[(x.toInt - lo).toNat]) := List.getElem?_eq_getElem hlen
    have h3 : (tg.map Int.ofNat)[(x.toInt - lo).toNat]? = some ((tg[(x.toInt - lo).toNat] : Nat) : Int) := by rw [List.getElem?_map, ht]; rfl
    rw [← hof, List.getElem?_map] at h3
    cases ho : offs.toList[(x.toInt - lo).toNat]? with
    | none => rw [ho] at h3; cases h3
    | some off =>
      rw [ho] at h3
      exact lv_tableIn (off := off) F.1.1 F.1.2.1 hd (by omega) (by omega) (by rw [← Array.getElem?_toList]; exact ho) (Option.some.inj h3) (k1 _ _ ht (by omega) p e Rm s m args below meth c N0 H locs ls Z F h0 h1 hl hP hS K)
theorem kw_lsw {dflt off : Int} {ps : Array (Int × Int)} {len tgt : Nat} {x : Int32} (hd : decode (kt_by i) pc = .ok (.lookupswitch dflt ps, len)) (hp : (ps.toList.zip (ps.toList.drop 1)).all (fun (a, next) => a.1 < next.1) = true) (ho : Op.lookupswitch.offset ps.toList dflt x.toInt = off) (ht : (pc : Int) + off = (tgt : Int)) (k : KW P i NM tgt L st N I J R Q) : KW P i NM pc L (.int x :: st) N I J R Q :=
  kt_go k fun _ _ _ _ _ _ _ _ _ _ _ _ _ _ _ hx hb _ _ hl kk => lv_lookup hx hb hd hp ho ht (kk _ hl)
end KR
