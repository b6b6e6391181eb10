/-! THE Z LAYER: the heap as a function on addresses, from the cell b0 on; one world for all methods; a row an instruction, with everything fixed hidden in zC -/
abbrev zH : Type := Nat × (Nat → va_E)
def z_L (b0 sz : Nat) : List Nat := List.range' b0 (sz - b0)
theorem z_mem {b0 sz a : Nat} : a ∈ z_L b0 sz ↔ b0 ≤ a ∧ a < sz := by
  simp only [z_L, List.mem_range'_1]; omega
abbrev z_A (b0 : Nat) : Nat → Prop := fun q => b0 ≤ q
abbrev z_W (b0 : Nat) (h : zH) : va_W := va_pl (z_L b0 h.1) h.2
theorem z_Wget {b0 : Nat} {h : zH} {a : Nat} (h1 : b0 ≤ a) (h2 : a < h.1) : (z_W b0 h)[a - b0]? = some (a, h.2 a) := by
  have hlt : a - b0 < h.1 - b0 := by omega
  simp only [z_W, va_pl, z_L, List.getElem?_map, List.getElem?_range' hlt, Option.map_some, Nat.one_mul, show b0 + (a - b0) = a by omega]
theorem z_Wat {b0 : Nat} {h : zH} {i : Nat} {q : Nat × va_E} (hq : (z_W b0 h)[i]? = some q) : q = (b0 + i, h.2 (b0 + i)) ∧ b0 + i < h.1 := by
  simp only [z_W, va_pl, z_L, List.getElem?_map, Option.map_eq_some_iff] at hq
  obtain ⟨a, ha, rfl⟩ := hq
  have hlt : i < h.1 - b0 := by simpa using (List.getElem?_eq_some_iff.mp ha).1
  rw [List.getElem?_range' hlt] at ha
  have := Option.some.inj ha
  simp only [Nat.one_mul] at this
  subst this
  exact ⟨rfl, by omega⟩
theorem z_D (b0 : Nat) (h : zH) : va_D (z_A b0) (z_W b0 h) := by
  refine ⟨fun i j p q hp hq he => ?_, fun k q hq => ?_⟩
  · have h1 := (z_Wat hp).1
    have h2 := (z_Wat hq).1
    rw [h1, h2] at he
    simp only at he
    omega
  · rw [(z_Wat hq).1]
    show b0 ≤ b0 + k
    omega
theorem z_Wset {b0 : Nat} {h : zH} {a : Nat} {v : va_E} (h1 : b0 ≤ a) (h2 : a < h.1) : (z_W b0 h).set (a - b0) (a, v) = z_W b0 (h.1, va_up h.2 a v) := by
  have e := va_pl_set (A := z_A b0) (X := []) (L := z_L b0 h.1) (f := h.2) (a := a) (k := a - b0) (e := v) (z_D b0 h) (z_mem.mpr ⟨h1, h2⟩) (z_Wget h1 h2)
  exact e
theorem z_Wpush {b0 : Nat} {h : zH} {v : va_E} (h1 : b0 ≤ h.1) : z_W b0 h ++ [(h.1, v)] = z_W b0 (h.1 + 1, va_up h.2 h.1 v) := by
  have e := va_pl_push (L := z_L b0 h.1) (f := h.2) (a := h.1) (e := v) (fun q => by have := (z_mem.mp q).2; omega)
  show va_pl (z_L b0 h.1) h.2 ++ [(h.1, v)] = va_pl (z_L b0 (h.1 + 1)) (va_up h.2 h.1 v)
  rw [e]
  congr 1
  simp only [z_L]
  rw [show h.1 + 1 - b0 = (h.1 - b0) + 1 by omega, List.range'_concat]
  simp only [Nat.one_mul, show b0 + (h.1 - b0) = h.1 by omega]
/-- what is not there: no class has this number -/
def z_junk : va_E := .inr (4294967295, [])
def z_wf (b0 : Nat) (h : zH) : Prop := b0 ≤ h.1 ∧ ∀ a : Nat, a < b0 ∨ h.1 ≤ a → h.2 a = z_junk
theorem z_in {b0 : Nat} {h : zH} {a ci : Nat} {fs : List Value} (hw : z_wf b0 h) (hf : h.2 a = .inr (ci, fs)) (hc : ci < 4294967295) : b0 ≤ a ∧ a < h.1 := by
  by_cases h1 : a < b0 ∨ h.1 ≤ a
  · rw [hw.2 a h1, z_junk] at hf
    cases hf
    omega
  · omega
theorem z_inl {b0 : Nat} {h : zH} {a : Nat} {x : ClassId × vp_A} (hw : z_wf b0 h) (hf : h.2 a = .inl x) : b0 ≤ a ∧ a < h.1 := by
  by_cases h1 : a < b0 ∨ h.1 ≤ a
  · rw [hw.2 a h1, z_junk] at hf
    cases hf
  · omega
theorem z_wf_up {b0 : Nat} {h : zH} {a : Nat} {v : va_E} (hw : z_wf b0 h) (h1 : b0 ≤ a) (h2 : a < h.1) : z_wf b0 (h.1, va_up h.2 a v) :=
  ⟨hw.1, fun q hq => by
    show va_up h.2 a v q = z_junk
    rw [va_up_ne _ _ (by have : q < b0 ∨ h.1 ≤ q := hq; omega)]
    exact hw.2 q hq⟩
theorem z_wf_push {b0 : Nat} {h : zH} {v : va_E} (hw : z_wf b0 h) : z_wf b0 (h.1 + 1, va_up h.2 h.1 v) :=
  ⟨Nat.le_succ_of_le hw.1, fun q hq => by
    show va_up h.2 h.1 v q = z_junk
    have hq2 : q < b0 ∨ h.1 + 1 ≤ q := hq
    have := hw.1
    rw [va_up_ne _ _ (by omega)]
    exact hw.2 q (by omega)⟩
-- the locals by their numbers
def zl : List (Nat × Value) → Nat → Option Value
  | [], _ => none
  | (j, v) :: t, i => bif Nat.beq j i then some v else zl t i
theorem zl_mem {lv : List (Nat × Value)} {i : Nat} {v : Value} (h : zl lv i = some v) : (i, v) ∈ lv := by
  induction lv with
  | nil => cases h
  | cons q t ih =>
    obtain ⟨j, w⟩ := q
    simp only [zl] at h
    cases hb : Nat.beq j i with
    | true =>
      rw [hb] at h
      have e : j = i := Nat.eq_of_beq_eq_true hb
      cases h
      subst e
      exact List.mem_cons_self
    | false =>
      rw [hb] at h
      exact List.mem_cons_of_mem _ (ih h)
theorem zl_get {lv : List (Nat × Value)} {i : Nat} {v : Value} (h : zl lv i = some v) : ∃ k : Nat, lv[k]? = some (i, v) := List.getElem?_of_mem (zl_mem h)
theorem zl_at {ls : Array Slot} {nL : Nat} {lv : List (Nat × Value)} {i : Nat} {v : Value} (h : lv_has ls nL lv) (hl : zl lv i = some v) : ls[i]? = some (.val v) := h.2.2 (i, v) (zl_mem hl)
def zs1 (i : Nat) (v : Value) (lv : List (Nat × Value)) : List (Nat × Value) := (i, v) :: lv.filter (fun q => !(q.1 == i) && !(q.1 + 1 == i && q.2.category == 2))
def zs2 (i : Nat) (v : Value) (lv : List (Nat × Value)) : List (Nat × Value) := (i, v) :: lv.filter (fun q => !(q.1 == i) && (!(q.1 == i + 1) && !(q.1 + 1 == i && q.2.category == 2)))
def zpick (lv : List (Nat × Value)) : List Nat → List (Nat × Value)
  | [] => []
  | i :: t => match zl lv i with
    | some v => (i, v) :: zpick lv t
    | none => zpick lv t
theorem zpick_mem {lv : List (Nat × Value)} : ∀ {is : List Nat} {q : Nat × Value}, q ∈ zpick lv is → q ∈ lv
  | [], _, h => by cases h
  | i :: t, q, h => by
    simp only [zpick] at h
    cases hz : zl lv i with
    | none => rw [hz] at h; exact zpick_mem h
    | some v =>
      rw [hz] at h
      rcases List.mem_cons.mp h with rfl | h
      · exact zl_mem hz
      · exact zpick_mem h
theorem zl_sub {ls : Array Slot} {nL : Nat} {lv lv' : List (Nat × Value)} (h : lv_has ls nL lv) (is : List Nat) (hl : zpick lv is = lv') : lv_has ls nL lv' :=
  ⟨h.1, h.2.1, fun q hq => h.2.2 q (zpick_mem (is := is) (hl ▸ hq))⟩
abbrev zG : Type := va_G × (Nat → ClassId)
abbrev zTys (G : zG) : List (ClassId × FieldType) := zTysOf G.2
/-- the tables' words that a callee keeps -/
def zTb : List Cond := lw_tbl.filter goodWord
theorem zTb_good : GoodIn zTb zTb := fun w hw => ⟨hw, good_of_word (List.mem_filter.mp hw).2⟩
theorem zTb_tbl {w : Cond} (h : w ∈ zTb) : w ∈ lw_tbl := (List.mem_filter.mp h).1
def zNk : Cond → Bool
  | .fieldLinkNest .. => true
  | .methodLinkNest .. => true
  | _ => false
/-- the words of nest mates -/
def zN : List Cond := lw_tbl.filter zNk
theorem zN_on {w : Cond} (h : w ∈ zN) : w.onTables = true := by
  have h2 := (List.mem_filter.mp h).2
  cases w <;> first | rfl | (simp [zNk] at h2; done)
theorem zN_warm {w : Cond} (h : w ∈ zN) {s U : State} (hW : s.WarmedH U.vm) (hZ : va_Nw w s) : va_Nw w U := by
  have h2 := (List.mem_filter.mp h).2
  cases w <;> first | exact va_Nw.warmF hW hZ | exact va_Nw.warmM hW hZ | (simp [zNk] at h2; done)
def zC (p : Program) (s : State) (m : MethodId) (args : Array Value) (c : Code) (cc : ByteArray) (own : String) (nL b0 : Nat) (G : zG) : Prop :=
  p.tables.exec = Jvm.exec ∧ c.code = cc ∧ c.maxLocals = nL ∧ s.vm.findClass own = some m.cls ∧ (∀ w ∈ zTb, w.before args s = true) ∧ va_K G.1 vwCl (zTys G) s ∧ (∀ w ∈ zN, va_Nw w s) ∧ zT (z_A b0) s s.heap ∧ b0 ≤ s.heap.size
def zW (p : Program) (l : Launch) (e : Env) (R : Room) (s : State) (m : MethodId) (args : Array Value) (below : List Frame) (meth : Method) (c : Code) (nL b0 : Nat) (G : zG) (k n : Nat) (Q : State → Prop) (h : zH) (pc : Nat) (lv : List (Nat × Value)) (st : List Value) : Prop :=
  ∀ (H : Heap) (locs : List Loc) (ls : Array Slot), z_wf b0 h → H.size = h.1 → va_P G.1 vwCl (z_W b0 h) H → va_S (z_A b0) s.heap H locs → lv_has ls nL lv → W p l e R s m args below meth c H locs k n Q (F0 m pc ls st)
/-- what is known of a class of the world -/
def zCl (ci : Nat) (C : String) (T : u_T) (N : Nat) (ty : Nat → FieldType) : Prop :=
  vwCl[ci]? = some (C, T, N) ∧ ci < 4294967295 ∧ (∀ w ∈ u_ws C T N, w ∈ zTb) ∧ (∀ k, k < N → parseFieldDescriptor (T k).2.2.1 = some (ty k)) ∧ (∀ a, a < N → ∀ b, b < N → a ≠ b → (T a).2.1 ≠ (T b).2.1)
/-- field number k of class ci, as the class 'own' names it at 'index' -/
def zFd (own : String) (index ci k : Nat) (fty : FieldType) (fin : Bool) : Prop :=
  ∃ (C : String) (T : u_T) (N : Nat) (ty : Nat → FieldType), zCl ci C T N ty ∧ k < N ∧ ty k = fty ∧ (T k).2.2.2 = fin ∧
    (Cond.fieldLink own index (T k).1 (T k).2.1 (T k).2.2.1 ∈ zTb ∨ ∃ host, Cond.fieldLinkNest own index (T k).1 (T k).2.1 (T k).2.2.1 host ∈ zN)
/-- the same, of a final field in its class's own constructor -/
def zFf (own : String) (index ci k : Nat) (fty : FieldType) : Prop :=
  ∃ (C : String) (T : u_T) (N : Nat) (ty : Nat → FieldType), zCl ci C T N ty ∧ k < N ∧ ty k = fty ∧ (T k).2.2.2 = true ∧ (T k).1 = own ∧ Cond.fieldLink own index (T k).1 (T k).2.1 (T k).2.2.1 ∈ zTb
section ZL
variable {p : Program} {l : Launch} {e : Env} {R : Room} {s : State} {m : MethodId} {args : Array Value} {below : List Frame} {meth : Method} {c : Code} {Q : State → Prop}
variable {cc : ByteArray} {own : String} {nL b0 pc k n : Nat} {G : zG} {h : zH} {lv : List (Nat × Value)} {st : List Value}
theorem z_iconst (K : zC p s m args c cc own nL b0 G) {a : Int} {v : Int32} (hd : decode cc pc = .ok (.iconst a, 1)) (hv : Int32.ofInt a = v) (kk : zW p l e R s m args below meth c nL b0 G k n Q h (pc + 1) lv (.int v :: st)) : zW p l e R s m args below meth c nL b0 G k n Q h pc lv (st) :=
  fun H locs ls h0 h1 h2 h3 h4 => lv_iconst K.1 K.2.1 hd hv (kk H locs ls h0 h1 h2 h3 h4)
theorem z_bipush (K : zC p s m args c cc own nL b0 G) {a : Int} {v : Int32} (hd : decode cc pc = .ok (.bipush a, 2)) (hv : (Int8.ofInt a).toInt32 = v) (kk : zW p l e R s m args below meth c nL b0 G k n Q h (pc + 2) lv (.int v :: st)) : zW p l e R s m args below meth c nL b0 G k n Q h pc lv (st) :=
  fun H locs ls h0 h1 h2 h3 h4 => lv_bipush K.1 K.2.1 hd hv (kk H locs ls h0 h1 h2 h3 h4)
theorem z_sipush (K : zC p s m args c cc own nL b0 G) {a : Int} {v : Int32} (hd : decode cc pc = .ok (.sipush a, 3)) (hv : (Int16.ofInt a).toInt32 = v) (kk : zW p l e R s m args below meth c nL b0 G k n Q h (pc + 3) lv (.int v :: st)) : zW p l e R s m args below meth c nL b0 G k n Q h pc lv (st) :=
  fun H locs ls h0 h1 h2 h3 h4 => lv_sipush K.1 K.2.1 hd hv (kk H locs ls h0 h1 h2 h3 h4)
theorem z_lconst (K : zC p s m args c cc own nL b0 G) {a : Fin 2} {v : Int64} (hd : decode cc pc = .ok (.lconst a, 1)) (hv : Int64.ofNat (a : Nat) = v) (kk : zW p l e R s m args below meth c nL b0 G k n Q h (pc + 1) lv (.long v :: st)) : zW p l e R s m args below meth c nL b0 G k n Q h pc lv (st) :=
  fun H locs ls h0 h1 h2 h3 h4 => lv_lconst K.1 K.2.1 hd hv (kk H locs ls h0 h1 h2 h3 h4)
theorem z_null (K : zC p s m args c cc own nL b0 G)  (hd : decode cc pc = .ok (.aconst_null, 1))  (kk : zW p l e R s m args below meth c nL b0 G k n Q h (pc + 1) lv (.null :: st)) : zW p l e R s m args below meth c nL b0 G k n Q h pc lv (st) :=
  fun H locs ls h0 h1 h2 h3 h4 => lv_null K.1 K.2.1 hd  (kk H locs ls h0 h1 h2 h3 h4)
theorem z_iload_n (K : zC p s m args c cc own nL b0 G) {a : Fin 4} {x : Int32} (hd : decode cc pc = .ok (.iload_n a, 1)) (hl : zl lv a = some (.int x)) (kk : zW p l e R s m args below meth c nL b0 G k n Q h (pc + 1) lv (.int x :: st)) : zW p l e R s m args below meth c nL b0 G k n Q h pc lv st :=
  fun H locs ls h0 h1 h2 h3 h4 => lv_iload_n K.1 K.2.1 hd rfl (zl_at h4 hl) (kk H locs ls h0 h1 h2 h3 h4)
theorem z_iload (K : zC p s m args c cc own nL b0 G) {a : Nat} {x : Int32} (hd : decode cc pc = .ok (.iload a, 2)) (hl : zl lv a = some (.int x)) (kk : zW p l e R s m args below meth c nL b0 G k n Q h (pc + 2) lv (.int x :: st)) : zW p l e R s m args below meth c nL b0 G k n Q h pc lv st :=
  fun H locs ls h0 h1 h2 h3 h4 => lv_iload K.1 K.2.1 hd (zl_at h4 hl) (kk H locs ls h0 h1 h2 h3 h4)
theorem z_istore_n (K : zC p s m args c cc own nL b0 G) {a : Fin 4} {x : Int32} (hd : decode cc pc = .ok (.istore_n a, 1)) (hn : (a : Nat) < nL) (kk : zW p l e R s m args below meth c nL b0 G k n Q h (pc + 1) (zs1 a (.int x) lv) st) : zW p l e R s m args below meth c nL b0 G k n Q h pc lv (.int x :: st) :=
  fun H locs ls h0 h1 h2 h3 h4 => lv_istore_n K.1 K.2.1 hd rfl h4 hn rfl (fun ls' h4' => kk H locs ls' h0 h1 h2 h3 h4')
theorem z_istore (K : zC p s m args c cc own nL b0 G) {a : Nat} {x : Int32} (hd : decode cc pc = .ok (.istore a, 2)) (hn : a < nL) (kk : zW p l e R s m args below meth c nL b0 G k n Q h (pc + 2) (zs1 a (.int x) lv) st) : zW p l e R s m args below meth c nL b0 G k n Q h pc lv (.int x :: st) :=
  fun H locs ls h0 h1 h2 h3 h4 => lv_istore K.1 K.2.1 hd h4 hn rfl (fun ls' h4' => kk H locs ls' h0 h1 h2 h3 h4')
theorem z_lload_n (K : zC p s m args c cc own nL b0 G) {a : Fin 4} {x : Int64} (hd : decode cc pc = .ok (.lload_n a, 1)) (hl : zl lv a = some (.long x)) (kk : zW p l e R s m args below meth c nL b0 G k n Q h (pc + 1) lv (.long x :: st)) : zW p l e R s m args below meth c nL b0 G k n Q h pc lv st :=
  fun H locs ls h0 h1 h2 h3 h4 => lv_lload_n K.1 K.2.1 hd rfl (zl_at h4 hl) (kk H locs ls h0 h1 h2 h3 h4)
theorem z_lload (K : zC p s m args c cc own nL b0 G) {a : Nat} {x : Int64} (hd : decode cc pc = .ok (.lload a, 2)) (hl : zl lv a = some (.long x)) (kk : zW p l e R s m args below meth c nL b0 G k n Q h (pc + 2) lv (.long x :: st)) : zW p l e R s m args below meth c nL b0 G k n Q h pc lv st :=
  fun H locs ls h0 h1 h2 h3 h4 => lv_lload K.1 K.2.1 hd (zl_at h4 hl) (kk H locs ls h0 h1 h2 h3 h4)
theorem z_lstore_n (K : zC p s m args c cc own nL b0 G) {a : Fin 4} {x : Int64} (hd : decode cc pc = .ok (.lstore_n a, 1)) (hn : (a : Nat) + 1 < nL) (kk : zW p l e R s m args below meth c nL b0 G k n Q h (pc + 1) (zs2 a (.long x) lv) st) : zW p l e R s m args below meth c nL b0 G k n Q h pc lv (.long x :: st) :=
  fun H locs ls h0 h1 h2 h3 h4 => lv_lstore_n K.1 K.2.1 hd rfl h4 hn rfl (fun ls' h4' => kk H locs ls' h0 h1 h2 h3 h4')
theorem z_lstore (K : zC p s m args c cc own nL b0 G) {a : Nat} {x : Int64} (hd : decode cc pc = .ok (.lstore a, 2)) (hn : a + 1 < nL) (kk : zW p l e R s m args below meth c nL b0 G k n Q h (pc + 2) (zs2 a (.long x) lv) st) : zW p l e R s m args below meth c nL b0 G k n Q h pc lv (.long x :: st) :=
  fun H locs ls h0 h1 h2 h3 h4 => lv_lstore K.1 K.2.1 hd h4 hn rfl (fun ls' h4' => kk H locs ls' h0 h1 h2 h3 h4')
theorem z_aload_n (K : zC p s m args c cc own nL b0 G) {a : Fin 4} {x : Nat} (hd : decode cc pc = .ok (.aload_n a, 1)) (hl : zl lv a = some (.ref x)) (kk : zW p l e R s m args below meth c nL b0 G k n Q h (pc + 1) lv (.ref x :: st)) : zW p l e R s m args below meth c nL b0 G k n Q h pc lv st :=
  fun H locs ls h0 h1 h2 h3 h4 => lv_aload_n K.1 K.2.1 hd rfl (zl_at h4 hl) (kk H locs ls h0 h1 h2 h3 h4)
theorem z_aload (K : zC p s m args c cc own nL b0 G) {a : Nat} {x : Nat} (hd : decode cc pc = .ok (.aload a, 2)) (hl : zl lv a = some (.ref x)) (kk : zW p l e R s m args below meth c nL b0 G k n Q h (pc + 2) lv (.ref x :: st)) : zW p l e R s m args below meth c nL b0 G k n Q h pc lv st :=
  fun H locs ls h0 h1 h2 h3 h4 => lv_aload K.1 K.2.1 hd (zl_at h4 hl) (kk H locs ls h0 h1 h2 h3 h4)
theorem z_astore_n (K : zC p s m args c cc own nL b0 G) {a : Fin 4} {x : Nat} (hd : decode cc pc = .ok (.astore_n a, 1)) (hn : (a : Nat) < nL) (kk : zW p l e R s m args below meth c nL b0 G k n Q h (pc + 1) (zs1 a (.ref x) lv) st) : zW p l e R s m args below meth c nL b0 G k n Q h pc lv (.ref x :: st) :=
  fun H locs ls h0 h1 h2 h3 h4 => lv_astore_n K.1 K.2.1 hd rfl h4 hn rfl (fun ls' h4' => kk H locs ls' h0 h1 h2 h3 h4')
theorem z_astore (K : zC p s m args c cc own nL b0 G) {a : Nat} {x : Nat} (hd : decode cc pc = .ok (.astore a, 2)) (hn : a < nL) (kk : zW p l e R s m args below meth c nL b0 G k n Q h (pc + 2) (zs1 a (.ref x) lv) st) : zW p l e R s m args below meth c nL b0 G k n Q h pc lv (.ref x :: st) :=
  fun H locs ls h0 h1 h2 h3 h4 => lv_astore K.1 K.2.1 hd h4 hn rfl (fun ls' h4' => kk H locs ls' h0 h1 h2 h3 h4')
theorem z_iinc (K : zC p s m args c cc own nL b0 G) {a : Nat} {j : Int} {x : Int32} (hd : decode cc pc = .ok (.iinc a j, 3)) (hl : zl lv a = some (.int x)) (hn : a < nL) (kk : zW p l e R s m args below meth c nL b0 G k n Q h (pc + 3) (zs1 a (.int (x + Int32.ofInt j)) lv) st) : zW p l e R s m args below meth c nL b0 G k n Q h pc lv st :=
  fun H locs ls h0 h1 h2 h3 h4 => by
    obtain ⟨q, hq⟩ := zl_get hl
    exact lv_iinc K.1 K.2.1 hd h4 hq rfl hn rfl (fun ls' h4' => kk H locs ls' h0 h1 h2 h3 h4')
theorem z_iadd (K : zC p s m args c cc own nL b0 G) {x y : Int32} (hd : decode cc pc = .ok (.iadd, 1))  (kk : zW p l e R s m args below meth c nL b0 G k n Q h (pc + 1) lv (.int (x + y) :: st)) : zW p l e R s m args below meth c nL b0 G k n Q h pc lv (.int y :: .int x :: st) :=
  fun H locs ls h0 h1 h2 h3 h4 => lv_iadd K.1 K.2.1 hd  (kk H locs ls h0 h1 h2 h3 h4)
theorem z_isub (K : zC p s m args c cc own nL b0 G) {x y : Int32} (hd : decode cc pc = .ok (.isub, 1))  (kk : zW p l e R s m args below meth c nL b0 G k n Q h (pc + 1) lv (.int (x - y) :: st)) : zW p l e R s m args below meth c nL b0 G k n Q h pc lv (.int y :: .int x :: st) :=
  fun H locs ls h0 h1 h2 h3 h4 => lv_isub K.1 K.2.1 hd  (kk H locs ls h0 h1 h2 h3 h4)
theorem z_imul (K : zC p s m args c cc own nL b0 G) {x y : Int32} (hd : decode cc pc = .ok (.imul, 1))  (kk : zW p l e R s m args below meth c nL b0 G k n Q h (pc + 1) lv (.int (x * y) :: st)) : zW p l e R s m args below meth c nL b0 G k n Q h pc lv (.int y :: .int x :: st) :=
  fun H locs ls h0 h1 h2 h3 h4 => lv_imul K.1 K.2.1 hd  (kk H locs ls h0 h1 h2 h3 h4)
theorem z_iand (K : zC p s m args c cc own nL b0 G) {x y : Int32} (hd : decode cc pc = .ok (.iand, 1))  (kk : zW p l e R s m args below meth c nL b0 G k n Q h (pc + 1) lv (.int (x &&& y) :: st)) : zW p l e R s m args below meth c nL b0 G k n Q h pc lv (.int y :: .int x :: st) :=
  fun H locs ls h0 h1 h2 h3 h4 => lv_iand K.1 K.2.1 hd  (kk H locs ls h0 h1 h2 h3 h4)
theorem z_ior (K : zC p s m args c cc own nL b0 G) {x y : Int32} (hd : decode cc pc = .ok (.ior, 1))  (kk : zW p l e R s m args below meth c nL b0 G k n Q h (pc + 1) lv (.int (x ||| y) :: st)) : zW p l e R s m args below meth c nL b0 G k n Q h pc lv (.int y :: .int x :: st) :=
  fun H locs ls h0 h1 h2 h3 h4 => lv_ior K.1 K.2.1 hd  (kk H locs ls h0 h1 h2 h3 h4)
theorem z_ixor (K : zC p s m args c cc own nL b0 G) {x y : Int32} (hd : decode cc pc = .ok (.ixor, 1))  (kk : zW p l e R s m args below meth c nL b0 G k n Q h (pc + 1) lv (.int (x ^^^ y) :: st)) : zW p l e R s m args below meth c nL b0 G k n Q h pc lv (.int y :: .int x :: st) :=
  fun H locs ls h0 h1 h2 h3 h4 => lv_ixor K.1 K.2.1 hd  (kk H locs ls h0 h1 h2 h3 h4)
theorem z_ladd (K : zC p s m args c cc own nL b0 G) {x y : Int64} (hd : decode cc pc = .ok (.ladd, 1))  (kk : zW p l e R s m args below meth c nL b0 G k n Q h (pc + 1) lv (.long (x + y) :: st)) : zW p l e R s m args below meth c nL b0 G k n Q h pc lv (.long y :: .long x :: st) :=
  fun H locs ls h0 h1 h2 h3 h4 => lv_ladd K.1 K.2.1 hd  (kk H locs ls h0 h1 h2 h3 h4)
theorem z_lsub (K : zC p s m args c cc own nL b0 G) {x y : Int64} (hd : decode cc pc = .ok (.lsub, 1))  (kk : zW p l e R s m args below meth c nL b0 G k n Q h (pc + 1) lv (.long (x - y) :: st)) : zW p l e R s m args below meth c nL b0 G k n Q h pc lv (.long y :: .long x :: st) :=
  fun H locs ls h0 h1 h2 h3 h4 => lv_lsub K.1 K.2.1 hd  (kk H locs ls h0 h1 h2 h3 h4)
theorem z_lmul (K : zC p s m args c cc own nL b0 G) {x y : Int64} (hd : decode cc pc = .ok (.lmul, 1))  (kk : zW p l e R s m args below meth c nL b0 G k n Q h (pc + 1) lv (.long (x * y) :: st)) : zW p l e R s m args below meth c nL b0 G k n Q h pc lv (.long y :: .long x :: st) :=
  fun H locs ls h0 h1 h2 h3 h4 => lv_lmul K.1 K.2.1 hd  (kk H locs ls h0 h1 h2 h3 h4)
theorem z_land (K : zC p s m args c cc own nL b0 G) {x y : Int64} (hd : decode cc pc = .ok (.land, 1))  (kk : zW p l e R s m args below meth c nL b0 G k n Q h (pc + 1) lv (.long (x &&& y) :: st)) : zW p l e R s m args below meth c nL b0 G k n Q h pc lv (.long y :: .long x :: st) :=
  fun H locs ls h0 h1 h2 h3 h4 => lv_land K.1 K.2.1 hd  (kk H locs ls h0 h1 h2 h3 h4)
theorem z_lor (K : zC p s m args c cc own nL b0 G) {x y : Int64} (hd : decode cc pc = .ok (.lor, 1))  (kk : zW p l e R s m args below meth c nL b0 G k n Q h (pc + 1) lv (.long (x ||| y) :: st)) : zW p l e R s m args below meth c nL b0 G k n Q h pc lv (.long y :: .long x :: st) :=
  fun H locs ls h0 h1 h2 h3 h4 => lv_lor K.1 K.2.1 hd  (kk H locs ls h0 h1 h2 h3 h4)
theorem z_lxor (K : zC p s m args c cc own nL b0 G) {x y : Int64} (hd : decode cc pc = .ok (.lxor, 1))  (kk : zW p l e R s m args below meth c nL b0 G k n Q h (pc + 1) lv (.long (x ^^^ y) :: st)) : zW p l e R s m args below meth c nL b0 G k n Q h pc lv (.long y :: .long x :: st) :=
  fun H locs ls h0 h1 h2 h3 h4 => lv_lxor K.1 K.2.1 hd  (kk H locs ls h0 h1 h2 h3 h4)
theorem z_idiv (K : zC p s m args c cc own nL b0 G) {x y : Int32} (hd : decode cc pc = .ok (.idiv, 1)) (hne : ¬ y = 0) (kk : zW p l e R s m args below meth c nL b0 G k n Q h (pc + 1) lv (.int (x / y) :: st)) : zW p l e R s m args below meth c nL b0 G k n Q h pc lv (.int y :: .int x :: st) :=
  fun H locs ls h0 h1 h2 h3 h4 => lv_idiv K.1 K.2.1 hd hne (kk H locs ls h0 h1 h2 h3 h4)
theorem z_irem (K : zC p s m args c cc own nL b0 G) {x y : Int32} (hd : decode cc pc = .ok (.irem, 1)) (hne : ¬ y = 0) (kk : zW p l e R s m args below meth c nL b0 G k n Q h (pc + 1) lv (.int (x - x / y * y) :: st)) : zW p l e R s m args below meth c nL b0 G k n Q h pc lv (.int y :: .int x :: st) :=
  fun H locs ls h0 h1 h2 h3 h4 => lv_irem K.1 K.2.1 hd hne (kk H locs ls h0 h1 h2 h3 h4)
theorem z_ldiv (K : zC p s m args c cc own nL b0 G) {x y : Int64} (hd : decode cc pc = .ok (.ldiv, 1)) (hne : ¬ y = 0) (kk : zW p l e R s m args below meth c nL b0 G k n Q h (pc + 1) lv (.long (x / y) :: st)) : zW p l e R s m args below meth c nL b0 G k n Q h pc lv (.long y :: .long x :: st) :=
  fun H locs ls h0 h1 h2 h3 h4 => lv_ldiv K.1 K.2.1 hd hne (kk H locs ls h0 h1 h2 h3 h4)
theorem z_lrem (K : zC p s m args c cc own nL b0 G) {x y : Int64} (hd : decode cc pc = .ok (.lrem, 1)) (hne : ¬ y = 0) (kk : zW p l e R s m args below meth c nL b0 G k n Q h (pc + 1) lv (.long (x - x / y * y) :: st)) : zW p l e R s m args below meth c nL b0 G k n Q h pc lv (.long y :: .long x :: st) :=
  fun H locs ls h0 h1 h2 h3 h4 => lv_lrem K.1 K.2.1 hd hne (kk H locs ls h0 h1 h2 h3 h4)
theorem z_ineg (K : zC p s m args c cc own nL b0 G) {x : Int32} (hd : decode cc pc = .ok (.ineg, 1))  (kk : zW p l e R s m args below meth c nL b0 G k n Q h (pc + 1) lv (.int (-x) :: st)) : zW p l e R s m args below meth c nL b0 G k n Q h pc lv (.int x :: st) :=
  fun H locs ls h0 h1 h2 h3 h4 => lv_ineg K.1 K.2.1 hd  (kk H locs ls h0 h1 h2 h3 h4)
theorem z_lneg (K : zC p s m args c cc own nL b0 G) {x : Int64} (hd : decode cc pc = .ok (.lneg, 1))  (kk : zW p l e R s m args below meth c nL b0 G k n Q h (pc + 1) lv (.long (-x) :: st)) : zW p l e R s m args below meth c nL b0 G k n Q h pc lv (.long x :: st) :=
  fun H locs ls h0 h1 h2 h3 h4 => lv_lneg K.1 K.2.1 hd  (kk H locs ls h0 h1 h2 h3 h4)
theorem z_ishl (K : zC p s m args c cc own nL b0 G) {x y : Int32} (hd : decode cc pc = .ok (.ishl, 1))  (kk : zW p l e R s m args below meth c nL b0 G k n Q h (pc + 1) lv (.int (x <<< (y &&& 31)) :: st)) : zW p l e R s m args below meth c nL b0 G k n Q h pc lv (.int y :: .int x :: st) :=
  fun H locs ls h0 h1 h2 h3 h4 => lv_ishl K.1 K.2.1 hd  (kk H locs ls h0 h1 h2 h3 h4)
theorem z_ishr (K : zC p s m args c cc own nL b0 G) {x y : Int32} (hd : decode cc pc = .ok (.ishr, 1))  (kk : zW p l e R s m args below meth c nL b0 G k n Q h (pc + 1) lv (.int (x >>> (y &&& 31)) :: st)) : zW p l e R s m args below meth c nL b0 G k n Q h pc lv (.int y :: .int x :: st) :=
  fun H locs ls h0 h1 h2 h3 h4 => lv_ishr K.1 K.2.1 hd  (kk H locs ls h0 h1 h2 h3 h4)
theorem z_iushr (K : zC p s m args c cc own nL b0 G) {x y : Int32} (hd : decode cc pc = .ok (.iushr, 1))  (kk : zW p l e R s m args below meth c nL b0 G k n Q h (pc + 1) lv (.int ((x.toUInt32 >>> (y.toUInt32 &&& Int32.toUInt32 31)).toInt32) :: st)) : zW p l e R s m args below meth c nL b0 G k n Q h pc lv (.int y :: .int x :: st) :=
  fun H locs ls h0 h1 h2 h3 h4 => lv_iushr K.1 K.2.1 hd rfl (kk H locs ls h0 h1 h2 h3 h4)
theorem z_lshl (K : zC p s m args c cc own nL b0 G) {x : Int64} {y : Int32} (hd : decode cc pc = .ok (.lshl, 1))  (kk : zW p l e R s m args below meth c nL b0 G k n Q h (pc + 1) lv (.long (x <<< (y.toInt64 &&& 63)) :: st)) : zW p l e R s m args below meth c nL b0 G k n Q h pc lv (.int y :: .long x :: st) :=
  fun H locs ls h0 h1 h2 h3 h4 => lv_lshl K.1 K.2.1 hd rfl (kk H locs ls h0 h1 h2 h3 h4)
theorem z_lshr (K : zC p s m args c cc own nL b0 G) {x : Int64} {y : Int32} (hd : decode cc pc = .ok (.lshr, 1))  (kk : zW p l e R s m args below meth c nL b0 G k n Q h (pc + 1) lv (.long (x >>> (y.toInt64 &&& 63)) :: st)) : zW p l e R s m args below meth c nL b0 G k n Q h pc lv (.int y :: .long x :: st) :=
  fun H locs ls h0 h1 h2 h3 h4 => lv_lshr K.1 K.2.1 hd rfl (kk H locs ls h0 h1 h2 h3 h4)
theorem z_lushr (K : zC p s m args c cc own nL b0 G) {x : Int64} {y : Int32} (hd : decode cc pc = .ok (.lushr, 1))  (kk : zW p l e R s m args below meth c nL b0 G k n Q h (pc + 1) lv (.long ((x.toUInt64 >>> (y.toInt64.toUInt64 &&& Int64.toUInt64 63)).toInt64) :: st)) : zW p l e R s m args below meth c nL b0 G k n Q h pc lv (.int y :: .long x :: st) :=
  fun H locs ls h0 h1 h2 h3 h4 => lv_lushr K.1 K.2.1 hd rfl (kk H locs ls h0 h1 h2 h3 h4)
theorem z_i2l (K : zC p s m args c cc own nL b0 G) {x : Int32} (hd : decode cc pc = .ok (.i2l, 1))  (kk : zW p l e R s m args below meth c nL b0 G k n Q h (pc + 1) lv (.long x.toInt64 :: st)) : zW p l e R s m args below meth c nL b0 G k n Q h pc lv (.int x :: st) :=
  fun H locs ls h0 h1 h2 h3 h4 => lv_i2l K.1 K.2.1 hd rfl (kk H locs ls h0 h1 h2 h3 h4)
theorem z_l2i (K : zC p s m args c cc own nL b0 G) {x : Int64} (hd : decode cc pc = .ok (.l2i, 1))  (kk : zW p l e R s m args below meth c nL b0 G k n Q h (pc + 1) lv (.int x.toInt32 :: st)) : zW p l e R s m args below meth c nL b0 G k n Q h pc lv (.long x :: st) :=
  fun H locs ls h0 h1 h2 h3 h4 => lv_l2i K.1 K.2.1 hd rfl (kk H locs ls h0 h1 h2 h3 h4)
theorem z_lcmp (K : zC p s m args c cc own nL b0 G) {x y : Int64} (hd : decode cc pc = .ok (.lcmp, 1))  (kk : zW p l e R s m args below meth c nL b0 G k n Q h (pc + 1) lv (.int (lg_cmp x y) :: st)) : zW p l e R s m args below meth c nL b0 G k n Q h pc lv (.long y :: .long x :: st) :=
  fun H locs ls h0 h1 h2 h3 h4 => W.lcmp K.1 K.2.1 hd  (kk H locs ls h0 h1 h2 h3 h4)
theorem z_dup (K : zC p s m args c cc own nL b0 G) {va : Value} (hd : decode cc pc = .ok (.dup, 1)) (h9 : va.category = 1) (kk : zW p l e R s m args below meth c nL b0 G k n Q h (pc + 1) lv (va :: va :: st)) : zW p l e R s m args below meth c nL b0 G k n Q h pc lv (va :: st) :=
  fun H locs ls h0 h1 h2 h3 h4 => lv_dup K.1 K.2.1 hd h9 (kk H locs ls h0 h1 h2 h3 h4)
theorem z_pop (K : zC p s m args c cc own nL b0 G) {va : Value} (hd : decode cc pc = .ok (.pop, 1)) (h9 : va.category = 1) (kk : zW p l e R s m args below meth c nL b0 G k n Q h (pc + 1) lv (st)) : zW p l e R s m args below meth c nL b0 G k n Q h pc lv (va :: st) :=
  fun H locs ls h0 h1 h2 h3 h4 => lv_pop K.1 K.2.1 hd h9 (kk H locs ls h0 h1 h2 h3 h4)
theorem z_dup_x1 (K : zC p s m args c cc own nL b0 G) {va vb : Value} (hd : decode cc pc = .ok (.dup_x1, 1)) (h9 : va.category = 1) (h8 : vb.category = 1) (kk : zW p l e R s m args below meth c nL b0 G k n Q h (pc + 1) lv (va :: vb :: va :: st)) : zW p l e R s m args below meth c nL b0 G k n Q h pc lv (va :: vb :: st) :=
  fun H locs ls h0 h1 h2 h3 h4 => lv_dup_x1 K.1 K.2.1 hd h9 h8 (kk H locs ls h0 h1 h2 h3 h4)
theorem z_dup_x2 (K : zC p s m args c cc own nL b0 G) {va vb vd : Value} (hd : decode cc pc = .ok (.dup_x2, 1)) (h9 : va.category = 1) (h8 : vb.category = 1) (h7 : vd.category = 1) (kk : zW p l e R s m args below meth c nL b0 G k n Q h (pc + 1) lv (va :: vb :: vd :: va :: st)) : zW p l e R s m args below meth c nL b0 G k n Q h pc lv (va :: vb :: vd :: st) :=
  fun H locs ls h0 h1 h2 h3 h4 => lv_dup_x2 K.1 K.2.1 hd h9 h8 h7 (kk H locs ls h0 h1 h2 h3 h4)
theorem z_dup2_11 (K : zC p s m args c cc own nL b0 G) {va vb : Value} (hd : decode cc pc = .ok (.dup2, 1)) (h9 : va.category = 1) (h8 : vb.category = 1) (kk : zW p l e R s m args below meth c nL b0 G k n Q h (pc + 1) lv (va :: vb :: va :: vb :: st)) : zW p l e R s m args below meth c nL b0 G k n Q h pc lv (va :: vb :: st) :=
  fun H locs ls h0 h1 h2 h3 h4 => lv_dup2_11 K.1 K.2.1 hd h9 h8 (kk H locs ls h0 h1 h2 h3 h4)
theorem z_dup2_2 (K : zC p s m args c cc own nL b0 G) {va : Value} (hd : decode cc pc = .ok (.dup2, 1)) (h9 : va.category = 2) (kk : zW p l e R s m args below meth c nL b0 G k n Q h (pc + 1) lv (va :: va :: st)) : zW p l e R s m args below meth c nL b0 G k n Q h pc lv (va :: st) :=
  fun H locs ls h0 h1 h2 h3 h4 => lv_dup2_2 K.1 K.2.1 hd h9 (kk H locs ls h0 h1 h2 h3 h4)
theorem z_pop2_2 (K : zC p s m args c cc own nL b0 G) {va : Value} (hd : decode cc pc = .ok (.pop2, 1)) (h9 : va.category = 2) (kk : zW p l e R s m args below meth c nL b0 G k n Q h (pc + 1) lv (st)) : zW p l e R s m args below meth c nL b0 G k n Q h pc lv (va :: st) :=
  fun H locs ls h0 h1 h2 h3 h4 => lv_pop2_2 K.1 K.2.1 hd h9 (kk H locs ls h0 h1 h2 h3 h4)
theorem z_if_eq (K : zC p s m args c cc own nL b0 G) {x : Int32} {off : Int} {tgt : Nat} (hd : decode cc pc = .ok (.ifCond .eq off, 3)) (ht : (pc : Int) + off = (tgt : Int)) (kt : x = 0 → zW p l e R s m args below meth c nL b0 G k n Q h tgt lv st) (kf : ¬ x = 0 → zW p l e R s m args below meth c nL b0 G k n Q h (pc + 3) lv st) : zW p l e R s m args below meth c nL b0 G k n Q h pc lv (.int x :: st) :=
  fun H locs ls h0 h1 h2 h3 h4 => lv_if_eq K.1 K.2.1 hd ht (fun q => kt q H locs ls h0 h1 h2 h3 h4) (fun q => kf q H locs ls h0 h1 h2 h3 h4)
theorem z_icmp_eq (K : zC p s m args c cc own nL b0 G) {x y : Int32} {off : Int} {tgt : Nat} (hd : decode cc pc = .ok (.if_icmp .eq off, 3)) (ht : (pc : Int) + off = (tgt : Int)) (kt : x = y → zW p l e R s m args below meth c nL b0 G k n Q h tgt lv st) (kf : ¬ x = y → zW p l e R s m args below meth c nL b0 G k n Q h (pc + 3) lv st) : zW p l e R s m args below meth c nL b0 G k n Q h pc lv (.int y :: .int x :: st) :=
  fun H locs ls h0 h1 h2 h3 h4 => lv_icmp_eq K.1 K.2.1 hd ht (fun q => kt q H locs ls h0 h1 h2 h3 h4) (fun q => kf q H locs ls h0 h1 h2 h3 h4)
theorem z_if_ne (K : zC p s m args c cc own nL b0 G) {x : Int32} {off : Int} {tgt : Nat} (hd : decode cc pc = .ok (.ifCond .ne off, 3)) (ht : (pc : Int) + off = (tgt : Int)) (kt : ¬ x = 0 → zW p l e R s m args below meth c nL b0 G k n Q h tgt lv st) (kf : x = 0 → zW p l e R s m args below meth c nL b0 G k n Q h (pc + 3) lv st) : zW p l e R s m args below meth c nL b0 G k n Q h pc lv (.int x :: st) :=
  fun H locs ls h0 h1 h2 h3 h4 => lv_if_ne K.1 K.2.1 hd ht (fun q => kt q H locs ls h0 h1 h2 h3 h4) (fun q => kf q H locs ls h0 h1 h2 h3 h4)
theorem z_icmp_ne (K : zC p s m args c cc own nL b0 G) {x y : Int32} {off : Int} {tgt : Nat} (hd : decode cc pc = .ok (.if_icmp .ne off, 3)) (ht : (pc : Int) + off = (tgt : Int)) (kt : ¬ x = y → zW p l e R s m args below meth c nL b0 G k n Q h tgt lv st) (kf : x = y → zW p l e R s m args below meth c nL b0 G k n Q h (pc + 3) lv st) : zW p l e R s m args below meth c nL b0 G k n Q h pc lv (.int y :: .int x :: st) :=
  fun H locs ls h0 h1 h2 h3 h4 => lv_icmp_ne K.1 K.2.1 hd ht (fun q => kt q H locs ls h0 h1 h2 h3 h4) (fun q => kf q H locs ls h0 h1 h2 h3 h4)
theorem z_if_lt (K : zC p s m args c cc own nL b0 G) {x : Int32} {off : Int} {tgt : Nat} (hd : decode cc pc = .ok (.ifCond .lt off, 3)) (ht : (pc : Int) + off = (tgt : Int)) (kt : x < 0 → zW p l e R s m args below meth c nL b0 G k n Q h tgt lv st) (kf : ¬ x < 0 → zW p l e R s m args below meth c nL b0 G k n Q h (pc + 3) lv st) : zW p l e R s m args below meth c nL b0 G k n Q h pc lv (.int x :: st) :=
  fun H locs ls h0 h1 h2 h3 h4 => lv_if_lt K.1 K.2.1 hd ht (fun q => kt q H locs ls h0 h1 h2 h3 h4) (fun q => kf q H locs ls h0 h1 h2 h3 h4)
theorem z_icmp_lt (K : zC p s m args c cc own nL b0 G) {x y : Int32} {off : Int} {tgt : Nat} (hd : decode cc pc = .ok (.if_icmp .lt off, 3)) (ht : (pc : Int) + off = (tgt : Int)) (kt : x < y → zW p l e R s m args below meth c nL b0 G k n Q h tgt lv st) (kf : ¬ x < y → zW p l e R s m args below meth c nL b0 G k n Q h (pc + 3) lv st) : zW p l e R s m args below meth c nL b0 G k n Q h pc lv (.int y :: .int x :: st) :=
  fun H locs ls h0 h1 h2 h3 h4 => lv_icmp_lt K.1 K.2.1 hd ht (fun q => kt q H locs ls h0 h1 h2 h3 h4) (fun q => kf q H locs ls h0 h1 h2 h3 h4)
theorem z_if_ge (K : zC p s m args c cc own nL b0 G) {x : Int32} {off : Int} {tgt : Nat} (hd : decode cc pc = .ok (.ifCond .ge off, 3)) (ht : (pc : Int) + off = (tgt : Int)) (kt : 0 ≤ x → zW p l e R s m args below meth c nL b0 G k n Q h tgt lv st) (kf : ¬ 0 ≤ x → zW p l e R s m args below meth c nL b0 G k n Q h (pc + 3) lv st) : zW p l e R s m args below meth c nL b0 G k n Q h pc lv (.int x :: st) :=
  fun H locs ls h0 h1 h2 h3 h4 => lv_if_ge K.1 K.2.1 hd ht (fun q => kt q H locs ls h0 h1 h2 h3 h4) (fun q => kf q H locs ls h0 h1 h2 h3 h4)
theorem z_icmp_ge (K : zC p s m args c cc own nL b0 G) {x y : Int32} {off : Int} {tgt : Nat} (hd : decode cc pc = .ok (.if_icmp .ge off, 3)) (ht : (pc : Int) + off = (tgt : Int)) (kt : y ≤ x → zW p l e R s m args below meth c nL b0 G k n Q h tgt lv st) (kf : ¬ y ≤ x → zW p l e R s m args below meth c nL b0 G k n Q h (pc + 3) lv st) : zW p l e R s m args below meth c nL b0 G k n Q h pc lv (.int y :: .int x :: st) :=
  fun H locs ls h0 h1 h2 h3 h4 => lv_icmp_ge K.1 K.2.1 hd ht (fun q => kt q H locs ls h0 h1 h2 h3 h4) (fun q => kf q H locs ls h0 h1 h2 h3 h4)
theorem z_if_gt (K : zC p s m args c cc own nL b0 G) {x : Int32} {off : Int} {tgt : Nat} (hd : decode cc pc = .ok (.ifCond .gt off, 3)) (ht : (pc : Int) + off = (tgt : Int)) (kt : 0 < x → zW p l e R s m args below meth c nL b0 G k n Q h tgt lv st) (kf : ¬ 0 < x → zW p l e R s m args below meth c nL b0 G k n Q h (pc + 3) lv st) : zW p l e R s m args below meth c nL b0 G k n Q h pc lv (.int x :: st) :=
  fun H locs ls h0 h1 h2 h3 h4 => lv_if_gt K.1 K.2.1 hd ht (fun q => kt q H locs ls h0 h1 h2 h3 h4) (fun q => kf q H locs ls h0 h1 h2 h3 h4)
theorem z_icmp_gt (K : zC p s m args c cc own nL b0 G) {x y : Int32} {off : Int} {tgt : Nat} (hd : decode cc pc = .ok (.if_icmp .gt off, 3)) (ht : (pc : Int) + off = (tgt : Int)) (kt : y < x → zW p l e R s m args below meth c nL b0 G k n Q h tgt lv st) (kf : ¬ y < x → zW p l e R s m args below meth c nL b0 G k n Q h (pc + 3) lv st) : zW p l e R s m args below meth c nL b0 G k n Q h pc lv (.int y :: .int x :: st) :=
  fun H locs ls h0 h1 h2 h3 h4 => lv_icmp_gt K.1 K.2.1 hd ht (fun q => kt q H locs ls h0 h1 h2 h3 h4) (fun q => kf q H locs ls h0 h1 h2 h3 h4)
theorem z_if_le (K : zC p s m args c cc own nL b0 G) {x : Int32} {off : Int} {tgt : Nat} (hd : decode cc pc = .ok (.ifCond .le off, 3)) (ht : (pc : Int) + off = (tgt : Int)) (kt : x ≤ 0 → zW p l e R s m args below meth c nL b0 G k n Q h tgt lv st) (kf : ¬ x ≤ 0 → zW p l e R s m args below meth c nL b0 G k n Q h (pc + 3) lv st) : zW p l e R s m args below meth c nL b0 G k n Q h pc lv (.int x :: st) :=
  fun H locs ls h0 h1 h2 h3 h4 => lv_if_le K.1 K.2.1 hd ht (fun q => kt q H locs ls h0 h1 h2 h3 h4) (fun q => kf q H locs ls h0 h1 h2 h3 h4)
theorem z_icmp_le (K : zC p s m args c cc own nL b0 G) {x y : Int32} {off : Int} {tgt : Nat} (hd : decode cc pc = .ok (.if_icmp .le off, 3)) (ht : (pc : Int) + off = (tgt : Int)) (kt : x ≤ y → zW p l e R s m args below meth c nL b0 G k n Q h tgt lv st) (kf : ¬ x ≤ y → zW p l e R s m args below meth c nL b0 G k n Q h (pc + 3) lv st) : zW p l e R s m args below meth c nL b0 G k n Q h pc lv (.int y :: .int x :: st) :=
  fun H locs ls h0 h1 h2 h3 h4 => lv_icmp_le K.1 K.2.1 hd ht (fun q => kt q H locs ls h0 h1 h2 h3 h4) (fun q => kf q H locs ls h0 h1 h2 h3 h4)
theorem z_goto (K : zC p s m args c cc own nL b0 G) {off : Int} {tgt : Nat} (hd : decode cc pc = .ok (.goto off, 3)) (ht : (pc : Int) + off = (tgt : Int)) (kk : zW p l e R s m args below meth c nL b0 G k n Q h tgt lv st) : zW p l e R s m args below meth c nL b0 G k n Q h pc lv st :=
  fun H locs ls h0 h1 h2 h3 h4 => lv_goto K.1 K.2.1 hd ht (kk H locs ls h0 h1 h2 h3 h4)
theorem z_ldc (K : zC p s m args c cc own nL b0 G) {index : Nat} {v : Int32} (hd : decode cc pc = .ok (.ldc index, 2)) (hw : Cond.constant own index v ∈ zTb) (kk : zW p l e R s m args below meth c nL b0 G k n Q h (pc + 2) lv (.int v :: st)) : zW p l e R s m args below meth c nL b0 G k n Q h pc lv st :=
  fun H locs ls h0 h1 h2 h3 h4 => lv_ldc K.1 K.2.1 K.2.2.2.1 (K.2.2.2.2.1 _ hw) hd (kk H locs ls h0 h1 h2 h3 h4)
theorem z_ldcw (K : zC p s m args c cc own nL b0 G) {index : Nat} {v : Int32} (hd : decode cc pc = .ok (.ldc_w index, 3)) (hw : Cond.constant own index v ∈ zTb) (kk : zW p l e R s m args below meth c nL b0 G k n Q h (pc + 3) lv (.int v :: st)) : zW p l e R s m args below meth c nL b0 G k n Q h pc lv st :=
  fun H locs ls h0 h1 h2 h3 h4 => lv_ldcw K.1 K.2.1 K.2.2.2.1 (K.2.2.2.2.1 _ hw) hd (kk H locs ls h0 h1 h2 h3 h4)
theorem z_ldc2 (K : zC p s m args c cc own nL b0 G) {index : Nat} {v : Int64} (hd : decode cc pc = .ok (.ldc2_w index, 3)) (hw : Cond.constantLong own index v ∈ zTb) (kk : zW p l e R s m args below meth c nL b0 G k n Q h (pc + 3) lv (.long v :: st)) : zW p l e R s m args below meth c nL b0 G k n Q h pc lv st :=
  fun H locs ls h0 h1 h2 h3 h4 => lv_ldc2 K.1 K.2.1 K.2.2.2.1 (K.2.2.2.2.1 _ hw) hd (kk H locs ls h0 h1 h2 h3 h4)

theorem z_re (is : List Nat) {lv' : List (Nat × Value)} (hl : zpick lv is = lv') (kk : zW p l e R s m args below meth c nL b0 G k n Q h pc lv' st) : zW p l e R s m args below meth c nL b0 G k n Q h pc lv st :=
  fun H locs ls h0 h1 h2 h3 h4 => kk H locs ls h0 h1 h2 h3 (zl_sub h4 is hl)
theorem z_wid {k' n' : Nat} (hk : k ≤ k') (hn : n ≤ n') (kk : zW p l e R s m args below meth c nL b0 G k' n' Q h pc lv st) : zW p l e R s m args below meth c nL b0 G k n Q h pc lv st :=
  fun H locs ls h0 h1 h2 h3 h4 => W.widen hk hn (kk H locs ls h0 h1 h2 h3 h4)
theorem z_hp {h' : zH} (he : h = h') (kk : zW p l e R s m args below meth c nL b0 G k n Q h' pc lv st) : zW p l e R s m args below meth c nL b0 G k n Q h pc lv st := he ▸ kk
theorem z_st {st' : List Value} (he : st = st') (kk : zW p l e R s m args below meth c nL b0 G k n Q h pc lv st') : zW p l e R s m args below meth c nL b0 G k n Q h pc lv st := he ▸ kk
theorem z_get (K : zC p s m args c cc own nL b0 G) {index ci f a : Nat} {ty : FieldType} {fin : Bool} {fs : List Value} {v : Value} (hF : zFd own index ci f ty fin) (hf : h.2 a = .inr (ci, fs)) (hv : fs[f]? = some v) (hd : decode cc pc = .ok (.getfield index, 3))
    (kk : zW p l e R s m args below meth c nL b0 G k n Q h (pc + 3) lv (v :: st)) : zW p l e R s m args below meth c nL b0 G k n Q h pc lv (.ref a :: st) := fun H locs ls h0 h1 h2 h3 h4 => by
  obtain ⟨C, T, N, ty0, hC, hk, hty, hfin, hlink⟩ := hF
  obtain ⟨q1, q2⟩ := z_in h0 hf hC.2.1
  have he := z_Wget (h := h) q1 q2
  rw [hf] at he
  rcases hlink with hl | ⟨host, hl⟩
  · exact va_get K.1 K.2.1 K.2.2.2.2.1 hC.2.2.1 K.2.2.2.1 K.2.2.2.2.2.1 h2 (a - b0) he hC.1 f hk (K.2.2.2.2.1 _ hl) (fun _ h9 => h9) hv hd (kk H locs ls h0 h1 h2 h3 h4)
  · exact va_getN K.1 K.2.1 K.2.2.2.2.1 hC.2.2.1 K.2.2.2.1 K.2.2.2.2.2.1 h2 (a - b0) he hC.1 f hk (va_Nw.use (zN_on hl) (K.2.2.2.2.2.2.1 _ hl)) (fun _ h9 => h9) hv hd (kk H locs ls h0 h1 h2 h3 h4)
theorem z_fin {H1 : Heap} {H : Heap} {locs : List Loc} {ls : Array Slot} {a j : Nat} {v : va_E} {pc' : Nat} {st' : List Value} (h0 : z_wf b0 h) (h1 : H.size = h.1) (h2 : va_P G.1 vwCl (z_W b0 h) H) (h3 : va_S (z_A b0) s.heap H locs) (h4 : lv_has ls nL lv) (q1 : b0 ≤ a) (q2 : a < h.1)
    (hat : va_at G.1 vwCl (a, v) H1) (z : H1.size = H.size) (oq : ∀ q : Nat, q ≠ a → H1[q]? = H[q]?) (kk : zW p l e R s m args below meth c nL b0 G k n Q (h.1, va_up h.2 a v) pc' lv st') : W p l e R s m args below meth c H1 (locs ++ [⟨a, j⟩]) k n Q (F0 m pc' ls st') := by
  have g2 := h2.set (z_D b0 h) (z_Wget q1 q2) hat oq
  rw [z_Wset q1 q2] at g2
  exact kk H1 _ ls (z_wf_up h0 q1 q2) (z.trans h1) g2 (h3.put z oq q1) h4
theorem z_put (K : zC p s m args c cc own nL b0 G) {index ci f a : Nat} {ty : FieldType} {fs : List Value} {v : Value} (hF : zFd own index ci f ty false) (hf : h.2 a = .inr (ci, fs)) (hl : f < fs.length) (hn : narrow ty v = v) (hfit : fits ty v = true) (hd : decode cc pc = .ok (.putfield index, 3))
    (kk : zW p l e R s m args below meth c nL b0 G k n Q (h.1, va_up h.2 a (.inr (ci, fs.set f v))) (pc + 3) lv st) : zW p l e R s m args below meth c nL b0 G k n Q h pc lv (v :: .ref a :: st) := fun H locs ls h0 h1 h2 h3 h4 => by
  obtain ⟨C, T, N, ty0, hC, hk, hty, hfin, hlink⟩ := hF
  obtain ⟨q1, q2⟩ := z_in h0 hf hC.2.1
  have he := z_Wget (h := h) q1 q2
  rw [hf] at he
  have hps : parseFieldDescriptor (T f).2.2.1 = some ty := by rw [hC.2.2.2.1 f hk, hty]
  have hts := K.2.2.2.2.1
  have hK := K.2.2.2.2.2.1
  have hap := va_apart (own := own) hts hC.2.2.1 ty0 hC.2.2.2.1 hC.2.2.2.2 hK hC.1
  obtain ⟨r, g1, cell, c1, c2, c3, c4⟩ := h2 _ _ he
  have hr : r = (C, T, N) := Option.some.inj (g1.symm.trans hC.1)
  subst hr
  obtain ⟨hS, hfc, kC, hkC, hkind⟩ := hK.1 ci _ hC.1
  obtain ⟨cf, kf, fi, fl, hi, hsl⟩ := hS f hk
  have hlay := hts _ (hC.2.2.1 _ (u_in_lay hk))
  unfold u_lay at hlay
  rw [if_neg (by rw [hfin]; decide)] at hlay
  have hst := (u_facts hfc hkC (u_lays hts hC.2.2.1 hk) hi).1
  have h6 := u_store hfc hkC hkind hlay hi hps hn hfit
  rcases hlink with hl2 | ⟨host, hl2⟩
  · refine W.putK K.1 K.2.1 (f := fl) ⟨K.2.2.2.1, hts _ hl2, ⟨_, _, _, hi⟩, hst⟩ (by rw [c2]; exact h6) c1 c3 (by rw [hsl]; exact k2_hasslot (c4 f hk)) rfl rfl hd fun H' e1 e2 e3 => ?_
    rw [hsl] at e1 ⊢
    exact z_fin (v := .inr (ci, fs.set f v)) h0 h1 h2 h3 h4 q1 q2 ⟨_, hC.1, t_OB.to (V := updV (vp_V fs) f v) ⟨_, e1, c2, c3, t_set c4 hap hk v⟩ (fun j _ => vp_updV_set hl v j)⟩ e2 e3 kk
  · refine va_WputK K.1 K.2.1 (f := fl) K.2.2.2.1 (va_Nw.use (zN_on hl2) (K.2.2.2.2.2.2.1 _ hl2)) hi hst (by rw [c2]; exact h6) c1 c3 (by rw [hsl]; exact k2_hasslot (c4 f hk)) rfl rfl hd fun H' e1 e2 e3 => ?_
    rw [hsl] at e1 ⊢
    exact z_fin (v := .inr (ci, fs.set f v)) h0 h1 h2 h3 h4 q1 q2 ⟨_, hC.1, t_OB.to (V := updV (vp_V fs) f v) ⟨_, e1, c2, c3, t_set c4 hap hk v⟩ (fun j _ => vp_updV_set hl v j)⟩ e2 e3 kk
theorem z_putF (K : zC p s m args c cc own nL b0 G) (hin2 : meth.name = "<init>") {index ci f a : Nat} {ty : FieldType} {fs : List Value} {v : Value} (hF : zFf own index ci f ty) (hf : h.2 a = .inr (ci, fs)) (hl : f < fs.length) (hn : narrow ty v = v) (hfit : fits ty v = true) (hd : decode cc pc = .ok (.putfield index, 3))
    (kk : zW p l e R s m args below meth c nL b0 G k n Q (h.1, va_up h.2 a (.inr (ci, fs.set f v))) (pc + 3) lv st) : zW p l e R s m args below meth c nL b0 G k n Q h pc lv (v :: .ref a :: st) := fun H locs ls h0 h1 h2 h3 h4 => by
  obtain ⟨C, T, N, ty0, hC, hk, hty, hfin, hdecl, hl2⟩ := hF
  obtain ⟨q1, q2⟩ := z_in h0 hf hC.2.1
  have he := z_Wget (h := h) q1 q2
  rw [hf] at he
  have hps : parseFieldDescriptor (T f).2.2.1 = some ty := by rw [hC.2.2.2.1 f hk, hty]
  have hts := K.2.2.2.2.1
  have hK := K.2.2.2.2.2.1
  have hap := va_apart (own := own) hts hC.2.2.1 ty0 hC.2.2.2.1 hC.2.2.2.2 hK hC.1
  obtain ⟨r, g1, cell, c1, c2, c3, c4⟩ := h2 _ _ he
  have hr : r = (C, T, N) := Option.some.inj (g1.symm.trans hC.1)
  subst hr
  obtain ⟨hS, hfc, kC, hkC, hkind⟩ := hK.1 ci _ hC.1
  obtain ⟨cf, kf, fi, fl, hi, hsl⟩ := hS f hk
  have hlay := hts _ (hC.2.2.1 _ (u_in_lay hk))
  unfold u_lay at hlay
  rw [if_pos hfin] at hlay
  have hst := (u_facts hfc hkC (u_lays hts hC.2.2.1 hk) hi).1
  have hcf : m.cls = cf := by
    obtain ⟨_, _, c', _, _, _, -, -, hf', -, -, -, hown2, -⟩ := Cond.laysFinal_spec hlay
    have e1 : c' = cf := by have := hi.symm.trans hf'; simp at this; exact this.1.symm
    rw [hdecl] at hown2
    rw [← e1]; exact Option.some.inj (K.2.2.2.1.symm.trans hown2)
  have h6 := u_fits hfc hkC hkind (Or.inr hlay) hi hps hn hfit
  refine W.putFinK K.1 K.2.1 K.2.2.2.1 (hts _ hl2) hi hst hcf hin2 (by rw [c2]; exact h6) c1 c3 (by rw [hsl]; exact k2_hasslot (c4 f hk)) rfl rfl hd fun H' e1 e2 e3 => ?_
  rw [hsl] at e1 ⊢
  exact z_fin (v := .inr (ci, fs.set f v)) h0 h1 h2 h3 h4 q1 q2 ⟨_, hC.1, t_OB.to (V := updV (vp_V fs) f v) ⟨_, e1, c2, c3, t_set c4 hap hk v⟩ (fun j _ => vp_updV_set hl v j)⟩ e2 e3 kk
theorem z_iald (K : zC p s m args c cc own nL b0 G) {a N t0 : Nat} {cA : ClassId} {f : Nat → Int32} {i : Int32} (hf : h.2 a = .inl (cA, N, .inl f)) (ht : (zTys G)[t0]? = some (cA, .int)) (hin : vp_in i N) (hd : decode cc pc = .ok (.iaload, 1))
    (kk : zW p l e R s m args below meth c nL b0 G k n Q h (pc + 1) lv (.int (f i.toNatClampNeg) :: st)) : zW p l e R s m args below meth c nL b0 G k n Q h pc lv (.int i :: .ref a :: st) := fun H locs ls h0 h1 h2 h3 h4 => by
  obtain ⟨q1, q2⟩ := z_inl h0 hf
  have he := z_Wget (h := h) q1 q2
  rw [hf] at he
  exact va_iald K.1 K.2.1 K.2.2.2.2.2.1 h2 (a - b0) t0 he ht hin hd (kk H locs ls h0 h1 h2 h3 h4)
theorem z_iast (K : zC p s m args c cc own nL b0 G) {a N t0 : Nat} {cA : ClassId} {f : Nat → Int32} {i x : Int32} (hf : h.2 a = .inl (cA, N, .inl f)) (ht : (zTys G)[t0]? = some (cA, .int)) (hin : vp_in i N) (hd : decode cc pc = .ok (.iastore, 1))
    (kk : zW p l e R s m args below meth c nL b0 G k n Q (h.1, va_up h.2 a (.inl (cA, N, .inl (upd f i.toNatClampNeg x)))) (pc + 1) lv st) : zW p l e R s m args below meth c nL b0 G k n Q h pc lv (.int x :: .int i :: .ref a :: st) := fun H locs ls h0 h1 h2 h3 h4 => by
  obtain ⟨q1, q2⟩ := z_inl h0 hf
  have he := z_Wget (h := h) q1 q2
  rw [hf] at he
  refine W.iast K.1 K.2.1 (h2 _ _ he) ((K.2.2.2.2.2.1.2 t0 _ ht).1 N (fun j => .int (f j))) (fun q => by cases q) (by show ¬ (i < 0 ∨ (arrV _ _ _).slots.size ≤ _); rw [arrV_size]; exact hin) rfl rfl hd fun H1 e z oq => ?_
  refine z_fin h0 h1 h2 h3 h4 q1 q2 ?_ z oq kk
  show H1[a]? = some (vp_cell _ _)
  rw [e]
  rw [vp_cell_i, vp_cell_i, arrV_store]
  congr 2
  funext q
  by_cases hq : q = i.toNatClampNeg
  · subst hq
    simp [updV, upd]
  · simp [updV, upd, hq]
theorem z_zald (K : zC p s m args c cc own nL b0 G) {a N t0 : Nat} {cA : ClassId} {f : Nat → Int32} {i : Int32} (hf : h.2 a = .inl (cA, N, .inl f)) (ht : (zTys G)[t0]? = some (cA, .boolean)) (hin : vp_in i N) (hd : decode cc pc = .ok (.baload, 1))
    (kk : zW p l e R s m args below meth c nL b0 G k n Q h (pc + 1) lv (.int (f i.toNatClampNeg) :: st)) : zW p l e R s m args below meth c nL b0 G k n Q h pc lv (.int i :: .ref a :: st) := fun H locs ls h0 h1 h2 h3 h4 => by
  obtain ⟨q1, q2⟩ := z_inl h0 hf
  have he := z_Wget (h := h) q1 q2
  rw [hf] at he
  exact va_zald K.1 K.2.1 K.2.2.2.2.2.1 h2 (a - b0) t0 he ht hin hd (kk H locs ls h0 h1 h2 h3 h4)
theorem z_zast (K : zC p s m args c cc own nL b0 G) {a N t0 : Nat} {cA : ClassId} {f : Nat → Int32} {i x : Int32} (hf : h.2 a = .inl (cA, N, .inl f)) (ht : (zTys G)[t0]? = some (cA, .boolean)) (hin : vp_in i N) (hx : x = 0 ∨ x = 1) (hd : decode cc pc = .ok (.bastore, 1))
    (kk : zW p l e R s m args below meth c nL b0 G k n Q (h.1, va_up h.2 a (.inl (cA, N, .inl (upd f i.toNatClampNeg x)))) (pc + 1) lv st) : zW p l e R s m args below meth c nL b0 G k n Q h pc lv (.int x :: .int i :: .ref a :: st) := fun H locs ls h0 h1 h2 h3 h4 => by
  obtain ⟨q1, q2⟩ := z_inl h0 hf
  have he := z_Wget (h := h) q1 q2
  rw [hf] at he
  have hnx : vp_nar .boolean x = x := by rcases hx with rfl | rfl <;> rfl
  refine W.zast K.1 K.2.1 (h2 _ _ he) ((K.2.2.2.2.2.1.2 t0 _ ht).1 N (fun j => .int (f j))) (fun q => by cases q) (by show ¬ (i < 0 ∨ (arrV _ _ _).slots.size ≤ _); rw [arrV_size]; exact hin) rfl rfl hd fun H1 e z oq => ?_
  refine z_fin h0 h1 h2 h3 h4 q1 q2 ?_ z oq kk
  show H1[a]? = some (vp_cell _ _)
  rw [e]
  rw [vp_cell_i, vp_cell_i, arrV_store]
  congr 2
  funext q
  by_cases hq : q = i.toNatClampNeg
  · subst hq
    rcases hx with rfl | rfl <;> (simp [updV, upd]; try rfl)
  · simp [updV, upd, hq]
theorem z_alen (K : zC p s m args c cc own nL b0 G) {a t0 : Nat} {cA : ClassId} {x : vp_A} {ty : FieldType} (hf : h.2 a = .inl (cA, x)) (ht : (zTys G)[t0]? = some (cA, ty)) (hd : decode cc pc = .ok (.arraylength, 1))
    (kk : zW p l e R s m args below meth c nL b0 G k n Q h (pc + 1) lv (.int (nI x.1) :: st)) : zW p l e R s m args below meth c nL b0 G k n Q h pc lv (.ref a :: st) := fun H locs ls h0 h1 h2 h3 h4 => by
  obtain ⟨q1, q2⟩ := z_inl h0 hf
  have he := z_Wget (h := h) q1 q2
  rw [hf] at he
  exact va_alen K.1 K.2.1 K.2.2.2.2.2.1 h2 (a - b0) t0 he ht rfl hd (kk H locs ls h0 h1 h2 h3 h4)
theorem z_aald (K : zC p s m args c cc own nL b0 G) {a N t0 : Nat} {cA : ClassId} {C : String} {f : Nat → Option Nat} {i : Int32} (hf : h.2 a = .inl (cA, N, .inr (.inr (.inr (.inr f))))) (ht : (zTys G)[t0]? = some (cA, .object C)) (hin : vp_in i N) (hd : decode cc pc = .ok (.aaload, 1))
    (kk : zW p l e R s m args below meth c nL b0 G k n Q h (pc + 1) lv (va_rf (f i.toNatClampNeg) :: st)) : zW p l e R s m args below meth c nL b0 G k n Q h pc lv (.int i :: .ref a :: st) := fun H locs ls h0 h1 h2 h3 h4 => by
  obtain ⟨q1, q2⟩ := z_inl h0 hf
  have he := z_Wget (h := h) q1 q2
  rw [hf] at he
  exact va_aldq K.1 K.2.1 K.2.2.2.2.2.1 h2 (a - b0) t0 he ht hin hd (kk H locs ls h0 h1 h2 h3 h4)
theorem z_finN {H1 : Heap} {H : Heap} {locs : List Loc} {ls : Array Slot} {v : va_E} {pc' k' n' : Nat} {st' : List Value} (h0 : z_wf b0 h) (h1 : H.size = h.1) (h2 : va_P G.1 vwCl (z_W b0 h) H) (h3 : va_S (z_A b0) s.heap H locs) (h4 : lv_has ls nL lv)
    (hat : va_at G.1 vwCl (h.1, v) H1) (z : H1.size = H.size + 1) (oq : ∀ q : Nat, q < H.size → H1[q]? = H[q]?) (kk : zW p l e R s m args below meth c nL b0 G k' n' Q (h.1 + 1, va_up h.2 h.1 v) pc' lv st') : W p l e R s m args below meth c H1 locs k' n' Q (F0 m pc' ls st') := by
  have hk : ∀ (k : Nat) (x : Nat × va_E), (z_W b0 h)[k]? = some x → H1[x.1]? = H[x.1]? := fun k x hx => oq x.1 ((h2 k x hx).lt)
  have g2 : va_P G.1 vwCl (z_W b0 h ++ [(h.1, v)]) H1 := (h2.kept hk).app (fun k x hx => by
    have hz : k < 1 := (List.getElem?_eq_some_iff.mp hx).1
    rw [show k = 0 by omega] at hx
    cases hx
    exact hat)
  rw [z_Wpush h0.1] at g2
  exact kk H1 locs ls (z_wf_push h0) (by rw [z, h1]) g2 ⟨Nat.le_trans h3.1 (by omega), fun x g1 g3 => (oq x (Nat.lt_of_lt_of_le g1 h3.1)).trans (h3.2.1 x g1 g3), h3.2.2⟩ h4
/-- what 'new' at 'index' of 'own' makes -/
def zNw (own : String) (index ci N : Nat) (fs : List Value) : Prop :=
  ∃ (C : String) (T : u_T) (ty : Nat → FieldType), zCl ci C T N ty ∧ Cond.classLink own index C ∈ zTb ∧ Cond.instantiable C N ∈ zTb ∧ Cond.initialized C ∈ zTb ∧ ∀ j, j < N → defaultValue (ty j) = vp_V fs j
theorem z_new (K : zC p s m args c cc own nL b0 G) {index ci N : Nat} {fs : List Value} (hF : zNw own index ci N fs) (hc : k + 1 ≤ R.cells) (hs : n + N ≤ R.slots) (hd : decode cc pc = .ok (.new index, 3))
    (kk : zW p l e R s m args below meth c nL b0 G (k + 1) (n + N) Q (h.1 + 1, va_up h.2 h.1 (.inr (ci, fs))) (pc + 3) lv (.ref h.1 :: st)) : zW p l e R s m args below meth c nL b0 G k n Q h pc lv st := fun H locs ls h0 h1 h2 h3 h4 => by
  obtain ⟨C, T, ty, hC, w1, w2, w3, hfs⟩ := hF
  have hts := K.2.2.2.2.1
  have hKn := K.2.2.2.2.2.1.1 ci _ hC.1
  refine W.newcK K.1 K.2.1 K.2.2.2.1 (hts _ w1) (hts _ w2) (hts _ w3) rfl hd hc hs hKn.2.1 rfl fun H1 kC hkC e1 z1 o1 => ?_
  rw [h1] at e1 ⊢
  exact z_finN (v := .inr (ci, fs)) h0 h1 h2 h3 h4 ⟨_, hC.1, (u_born ty hts hC.2.2.1 hKn hkC e1 hC.2.2.2.1).to hfs⟩ z1 o1 kk
theorem z_newi (K : zC p s m args c cc own nL b0 G) {t0 N : Nat} {cA : ClassId} {x : Int32} (ht : (zTys G)[t0]? = some (cA, .int)) (hw : Cond.arrayClass .int ∈ zTb) (hx : x = nI N) (hN : N < 100000000) (hc : k + 1 ≤ R.cells) (hs : n + N ≤ R.slots) (hd : decode cc pc = .ok (.newarray .int, 2))
    (kk : zW p l e R s m args below meth c nL b0 G (k + 1) (n + N) Q (h.1 + 1, va_up h.2 h.1 (.inl (cA, N, .inl (fun _ => 0)))) (pc + 2) lv (.ref h.1 :: st)) : zW p l e R s m args below meth c nL b0 G k n Q h pc lv (.int x :: st) := fun H locs ls h0 h1 h2 h3 h4 => by
  subst hx
  refine va_newaK (atype := .int) K.1 K.2.1 (K.2.2.2.2.1 _ hw) rfl hd rfl (nI_pos (by omega)) (nI_clamp (by omega)) (by show N * 4 ≤ _; omega) hc hs rfl fun H1 cB e1 z1 o1 hAr hNm => ?_
  have hcA : cB = cA := Option.some.inj (hNm.symm.trans (K.2.2.2.2.2.1.2 t0 _ ht).2)
  subst hcA
  rw [h1] at e1 ⊢
  refine z_finN h0 h1 h2 h3 h4 ?_ z1 o1 kk
  show H1[h.1]? = some (vp_cell _ _)
  rw [vp_cell_i]
  exact e1
theorem z_newz (K : zC p s m args c cc own nL b0 G) {t0 N : Nat} {cA : ClassId} {x : Int32} (ht : (zTys G)[t0]? = some (cA, .boolean)) (hw : Cond.arrayClass .boolean ∈ zTb) (hx : x = nI N) (hN : N < 100000000) (hc : k + 1 ≤ R.cells) (hs : n + N ≤ R.slots) (hd : decode cc pc = .ok (.newarray .boolean, 2))
    (kk : zW p l e R s m args below meth c nL b0 G (k + 1) (n + N) Q (h.1 + 1, va_up h.2 h.1 (.inl (cA, N, .inl (fun _ => 0)))) (pc + 2) lv (.ref h.1 :: st)) : zW p l e R s m args below meth c nL b0 G k n Q h pc lv (.int x :: st) := fun H locs ls h0 h1 h2 h3 h4 => by
  subst hx
  refine va_newaK (atype := .boolean) K.1 K.2.1 (K.2.2.2.2.1 _ hw) rfl hd rfl (nI_pos (by omega)) (nI_clamp (by omega)) (by show N * 1 ≤ _; omega) hc hs rfl fun H1 cB e1 z1 o1 hAr hNm => ?_
  have hcA : cB = cA := Option.some.inj (hNm.symm.trans (K.2.2.2.2.2.1.2 t0 _ ht).2)
  subst hcA
  rw [h1] at e1 ⊢
  refine z_finN h0 h1 h2 h3 h4 ?_ z1 o1 kk
  show H1[h.1]? = some (vp_cell _ _)
  rw [vp_cell_i]
  exact e1
/-! calls -/
abbrev zRm (d lw mc ms : Nat) : Room := { frames := d, cells := mc, slots := ms, locals := lw }
def zU (G : zG) (b0 : Nat) (h : zH) (U : State) : Prop := z_wf b0 h ∧ U.heap.size = h.1 ∧ va_P G.1 vwCl (z_W b0 h) U.heap ∧ va_K G.1 vwCl (zTys G) U ∧ (∀ w ∈ zN, va_Nw w U) ∧ zT (z_A b0) U U.heap
def zQ (G : zG) (b0 : Nat) (post : Option Value → zH → Prop) : Array Value → State → Outcome → State → Prop := fun _ st oc t => (∃ (r : Option Value) (h : zH), oc = .returned r ∧ post r h ∧ zU G b0 h t) ∧ va_F (z_A b0) st t
def zMet (l : Launch) (G : zG) (b0 : Nat) (y : MethodName) (code : ByteArray) (maxL : Nat) (ret : Option FieldType) (d lw mc ms : Nat) (as : List Value) (h : zH) (post : Option Value → zH → Prop) : Prop :=
  Met l y (.code y code maxL ret :: zTb) (zRm d lw mc ms) (va_Pc as (zU G b0 h)) (zQ G b0 post) mc ms (z_A b0)
theorem z_U {t : State} {H : Heap} {locs : List Loc} (K : zC p s m args c cc own nL b0 G) (h0 : z_wf b0 h) (h1 : H.size = h.1) (h2 : va_P G.1 vwCl (z_W b0 h) H) (h3 : va_S (z_A b0) s.heap H locs) (ht : t.heap = H) (hW : s.WarmedH t.vm) : zU G b0 h t :=
  ⟨h0, by rw [ht]; exact h1, by rw [ht]; exact h2, va_K.moved hW.alike K.2.2.2.2.2.1, fun w hw => zN_warm hw hW (K.2.2.2.2.2.2.1 w hw), by rw [ht]; exact zT_moved hW.alike (zT_kept K.2.2.2.2.2.2.2.1 (fun a ha hA => h3.2.1 a ha hA))⟩
theorem zU_blind (G : zG) (b0 : Nat) (h : zH) (as : List Value) : FrameBlind (va_Pc as (zU G b0 h)) := fun a U g mk q => by
  obtain ⟨q0, q1, q2, q3, q4, q5, q6⟩ := q
  exact ⟨q0, q1, q2, q3, va_K.moved (u := U) (U := U.calling g mk a) (Vm.Alike.refl U.vm) q4, fun w hw => va_Nw.same (zN_on hw) (u := U) rfl (q5 w hw), zT_moved (u := U) (U := U.calling g mk a) (Vm.Alike.refl U.vm) q6⟩
theorem z_after {H : Heap} {locs : List Loc} {ls : Array Slot} {mc ms : Nat} {stk : List Value} {a : Array Value} {post : Option Value → zH → Prop} (hr : va_Run p l e R s m args below meth c H locs k n mc ms (F0 m pc ls stk) st (zQ G b0 post a) (z_A b0)) (hS : va_S (z_A b0) s.heap H locs) (h4 : lv_has ls nL lv)
    (kk : ∀ (r : Option Value) (h' : zH), post r h' → zW p l e R s m args below meth c nL b0 G (k + mc) (n + ms) Q h' (pc + 3) lv (r.toList ++ st)) : W p l e R s m args below meth c H locs k n Q (F0 m pc ls stk) := by
  intro T hT X
  obtain ⟨v, st₀, t, T', L, h0, X', hL, e1, e2, ⟨⟨r, u, hv, hp, hb⟩, hz, hk⟩, stp⟩ := hr T hT X
  cases hv
  rw [h0] at hz hk
  obtain ⟨t2, a1, b1⟩ := kk v u hp T'.heap (locs ++ L) ls hb.1 (by rw [e1]; exact hb.2.1) (by rw [e1]; exact hb.2.2.1)
    ⟨Nat.le_trans hS.1 (by rw [e1]; exact hz), fun q h1 h2 => by rw [e1, hk q (Nat.lt_of_lt_of_le h1 hS.1) h2]; exact hS.2.1 q h1 h2, fun q hq => by
      rcases List.mem_append.mp hq with h | h
      · exact hS.2.2 q h
      · exact hL q h⟩ h4 T' rfl X'
  exact ⟨t2, stp t2 a1, b1⟩
/-- what a call of y at 'index' of 'own' needs of the tables: kind 0 virtual, 1 special, 2 static -/
def zCa (own : String) (index : Nat) (y : MethodName) (code : ByteArray) (maxL : Nat) (ret : Option FieldType) (np : Nat) : Prop :=
  (Cond.code y code maxL ret ∈ zTb ∧ Cond.initialized y.cls ∈ zTb ∧ y.cls ≠ "java/lang/invoke/MethodHandle" ∧ y.cls ≠ "java/lang/invoke/VarHandle" ∧ (parseMethodDescriptor y.desc).map (fun d => d.parameters.length) = some np) ∧
    (Cond.methodLink own index y ∈ zTb ∨ ∃ host, Cond.methodLinkNest own index y host ∈ zN)
theorem zGood {y : MethodName} {code : ByteArray} {maxL : Nat} {ret : Option FieldType} (hc : Cond.code y code maxL ret ∈ zTb) : GoodIn zTb (.code y code maxL ret :: zTb) := fun w hw => by
  rcases List.mem_cons.mp hw with rfl | h
  · exact zTb_good _ hc
  · exact zTb_good _ h
theorem z_callV (K : zC p s m args c cc own nL b0 G) {index ci np maxL d lw mc ms a : Nat} {y : MethodName} {code : ByteArray} {ret : Option FieldType} {As fs stk : List Value} {T : u_T} {N : Nat} {post : Option Value → zH → Prop} (hM : zMet l G b0 y code maxL ret d lw mc ms (.ref a :: As) h post) (hc : zCa own index y code maxL ret np)
    (hi : Cond.instanceMethod y ∈ zTb) (hsel : Cond.selects y.cls y y ∈ zTb) (hcl : vwCl[ci]? = some (y.cls, T, N)) (hci : ci < 4294967295) (hf : h.2 a = .inr (ci, fs)) (hn : As.length = np) (hst : stk = As.reverse ++ .ref a :: st) (hR : d + 1 ≤ R.frames ∧ 8 + (maxL + 11) + lw ≤ R.locals ∧ k + mc ≤ R.cells ∧ n + ms ≤ R.slots) (hW : (st.map fun v => v.category).sum ≤ 8) (hd : decode cc pc = .ok (.invokevirtual index, 3))
    (kk : ∀ (r : Option Value) (h' : zH), post r h' → zW p l e R s m args below meth c nL b0 G (k + mc) (n + ms) Q h' (pc + 3) lv (r.toList ++ st)) : zW p l e R s m args below meth c nL b0 G k n Q h pc lv stk := fun H locs ls h0 h1 h2 h3 h4 => by
  obtain ⟨q1, q2⟩ := z_in h0 hf hci
  have he := z_Wget (h := h) q1 q2
  rw [hf] at he
  have hts := K.2.2.2.2.1
  obtain ⟨⟨w1, w2, w3, w4, w5⟩, hl⟩ := hc
  have hpre : PreV s H y.cls a (va_Pc (.ref a :: As) (zU G b0 h)) As := ⟨zU_blind G b0 h _, va_recv K.2.2.2.2.2.1 h2 hcl he, fun U hU hWm => ⟨rfl, z_U K h0 h1 h2 h3 hU hWm⟩⟩
  rcases hl with hl | ⟨host, hl⟩
  · exact z_after (va_runV (As := As) (rest := st) ⟨K.1, K.2.1, K.2.2.1, K.2.2.2.1, hts⟩ hM ⟨callB_of np hts (zGood w1) rfl rfl rfl (hts _ w2) (hts _ hl) ⟨w3, w4, w5⟩ ⟨hR.1, hR.2.1⟩, hts _ hi, hts _ hsel⟩ hpre rfl hn h4.1 hst (lv_room hW) hd hR.2.2) h3 h4 kk
  · exact z_after (va_runVN (As := As) (rest := st) ⟨K.1, K.2.1, K.2.2.1, K.2.2.2.1, hts⟩ hM ⟨va_cnB np hts (zGood w1) rfl rfl rfl (K.2.2.2.2.2.2.1 _ hl) (hts _ w2) ⟨w3, w4, w5⟩ ⟨hR.1, hR.2.1⟩, hts _ hi, hts _ hsel⟩ hpre rfl hn h4.1 hst (lv_room hW) hd hR.2.2) h3 h4 kk
theorem z_callI (K : zC p s m args c cc own nL b0 G) {index np maxL d lw mc ms a : Nat} {y : MethodName} {code : ByteArray} {As stk : List Value} {post : Option Value → zH → Prop} (hM : zMet l G b0 y code maxL none d lw mc ms (.ref a :: As) h post) (hc : zCa own index y code maxL none np)
    (hi : Cond.instanceMethod y ∈ zTb) (hy : y.name = "<init>") (hn : As.length = np) (hst : stk = As.reverse ++ .ref a :: st) (hR : d + 1 ≤ R.frames ∧ 8 + (maxL + 11) + lw ≤ R.locals ∧ k + mc ≤ R.cells ∧ n + ms ≤ R.slots) (hW : (st.map fun v => v.category).sum ≤ 8) (hd : decode cc pc = .ok (.invokespecial index, 3))
    (kk : ∀ (r : Option Value) (h' : zH), post r h' → zW p l e R s m args below meth c nL b0 G (k + mc) (n + ms) Q h' (pc + 3) lv (r.toList ++ st)) : zW p l e R s m args below meth c nL b0 G k n Q h pc lv stk := fun H locs ls h0 h1 h2 h3 h4 => by
  have hts := K.2.2.2.2.1
  obtain ⟨⟨w1, w2, w3, w4, w5⟩, hl⟩ := hc
  have hpre : PreS s H (va_Pc (.ref a :: As) (zU G b0 h)) (.ref a :: As) := ⟨zU_blind G b0 h _, fun U hU hWm => ⟨rfl, z_U K h0 h1 h2 h3 hU hWm⟩⟩
  rcases hl with hl | ⟨host, hl⟩
  · exact z_after (va_runI (As := As) (rest := st) ⟨K.1, K.2.1, K.2.2.1, K.2.2.2.1, hts⟩ hM ⟨callB_of np hts (zGood w1) rfl rfl rfl (hts _ w2) (hts _ hl) ⟨w3, w4, w5⟩ ⟨hR.1, hR.2.1⟩, hy, hts _ hi⟩ hpre rfl hn h4.1 hst (lv_room hW) hd hR.2.2) h3 h4 kk
  · exact z_after (va_runIN (As := As) (rest := st) ⟨K.1, K.2.1, K.2.2.1, K.2.2.2.1, hts⟩ hM ⟨va_cnB np hts (zGood w1) rfl rfl rfl (K.2.2.2.2.2.2.1 _ hl) (hts _ w2) ⟨w3, w4, w5⟩ ⟨hR.1, hR.2.1⟩, hy, hts _ hi⟩ hpre rfl hn h4.1 hst (lv_room hW) hd hR.2.2) h3 h4 kk
theorem z_callS (K : zC p s m args c cc own nL b0 G) {index np maxL d lw mc ms : Nat} {y : MethodName} {code : ByteArray} {ret : Option FieldType} {As stk : List Value} {post : Option Value → zH → Prop} (hM : zMet l G b0 y code maxL ret d lw mc ms As h post) (hc : zCa own index y code maxL ret np)
    (hi : Cond.static y ∈ zTb) (hn : As.length = np) (hst : stk = As.reverse ++ st) (hR : d + 1 ≤ R.frames ∧ 8 + (maxL + 11) + lw ≤ R.locals ∧ k + mc ≤ R.cells ∧ n + ms ≤ R.slots) (hW : (st.map fun v => v.category).sum ≤ 8) (hd : decode cc pc = .ok (.invokestatic index, 3))
    (kk : ∀ (r : Option Value) (h' : zH), post r h' → zW p l e R s m args below meth c nL b0 G (k + mc) (n + ms) Q h' (pc + 3) lv (r.toList ++ st)) : zW p l e R s m args below meth c nL b0 G k n Q h pc lv stk := fun H locs ls h0 h1 h2 h3 h4 => by
  have hts := K.2.2.2.2.1
  obtain ⟨⟨w1, w2, w3, w4, w5⟩, hl⟩ := hc
  have hpre : PreS s H (va_Pc As (zU G b0 h)) As := ⟨zU_blind G b0 h _, fun U hU hWm => ⟨rfl, z_U K h0 h1 h2 h3 hU hWm⟩⟩
  rcases hl with hl | ⟨host, hl⟩
  · exact z_after (va_runS (As := As) (rest := st) ⟨K.1, K.2.1, K.2.2.1, K.2.2.2.1, hts⟩ hM ⟨callB_of np hts (zGood w1) rfl rfl rfl (hts _ w2) (hts _ hl) ⟨w3, w4, w5⟩ ⟨hR.1, hR.2.1⟩, hts _ hi⟩ hpre rfl hn h4.1 hst (lv_room hW) hd hR.2.2) h3 h4 kk
  · exact z_after (va_runSN (As := As) (rest := st) ⟨K.1, K.2.1, K.2.2.1, K.2.2.2.1, hts⟩ hM ⟨va_cnB np hts (zGood w1) rfl rfl rfl (K.2.2.2.2.2.2.1 _ hl) (hts _ w2) ⟨w3, w4, w5⟩ ⟨hR.1, hR.2.1⟩, hts _ hi, trivial⟩ hpre rfl hn h4.1 hst (lv_room hW) hd hR.2.2) h3 h4 kk
theorem z_obj (K : zC p s m args c cc own nL b0 G) {index a : Nat} (w1 : Cond.methodLink own index Lib.objectInit ∈ zTb) (w2 : Cond.instanceMethod Lib.objectInit ∈ zTb) (w3 : Cond.code Lib.objectInit ⟨#[0xb1]⟩ 1 none ∈ zTb) (hd : decode cc pc = .ok (.invokespecial index, 3)) (hR : 1 ≤ R.frames ∧ (st.map fun v => v.category).sum + 12 ≤ R.locals)
    (kk : zW p l e R s m args below meth c nL b0 G k n Q h (pc + 3) lv st) : zW p l e R s m args below meth c nL b0 G k n Q h pc lv (.ref a :: st) := fun H locs ls h0 h1 h2 h3 h4 => by
  have hts := K.2.2.2.2.1
  refine W.objInit K.1 K.2.1 K.2.2.2.1 (hts _ w1) (hts _ w2) (hts _ w3) rfl (by rw [K.2.2.1]; exact h4.1) rfl hd hR.1 (by show 2 * 0 + _ + 12 ≤ _; omega) ?_
  exact W.eq (g2 := F0 m (pc + 3) ls st) rfl (kk H locs ls h0 h1 h2 h3 h4)
/-! answers -/
variable {post : Option Value → zH → Prop}
theorem z_iret (K : zC p s m args c cc own nL b0 G) {v : Int32} (hr : meth.sig.returnType = some .int) (hlocks : meth.locks = false) (hd : decode cc pc = .ok (.ireturn, 1)) (hp : post (some (.int v)) h) : zW p l e R s m args below meth c nL b0 G k n (MQ below (zQ G b0 post) args s k n (z_A b0)) h pc lv [.int v] :=
  fun H locs ls h0 h1 h2 h3 h4 => W.iret K.1 K.2.1 hr (fun t ht hW => ⟨⟨_, h, rfl, hp, z_U K h0 h1 h2 h3 ht hW⟩, h3.F ht⟩) h3.2.2 hd hlocks
theorem z_zret (K : zC p s m args c cc own nL b0 G) {v : Int32} (hr : meth.sig.returnType = some .boolean) (hlocks : meth.locks = false) (hd : decode cc pc = .ok (.ireturn, 1)) (hv : narrow .boolean (.int v) = .int v) (hp : post (some (.int v)) h) : zW p l e R s m args below meth c nL b0 G k n (MQ below (zQ G b0 post) args s k n (z_A b0)) h pc lv [.int v] :=
  fun H locs ls h0 h1 h2 h3 h4 => W.zret K.1 K.2.1 hr hv (fun t ht hW => ⟨⟨_, h, rfl, hp, z_U K h0 h1 h2 h3 ht hW⟩, h3.F ht⟩) h3.2.2 hd hlocks
theorem z_lret (K : zC p s m args c cc own nL b0 G) {v : Int64} (hr : meth.sig.returnType = some .long) (hlocks : meth.locks = false) (hd : decode cc pc = .ok (.lreturn, 1)) (hp : post (some (.long v)) h) : zW p l e R s m args below meth c nL b0 G k n (MQ below (zQ G b0 post) args s k n (z_A b0)) h pc lv [.long v] :=
  fun H locs ls h0 h1 h2 h3 h4 => W.lret K.1 K.2.1 hr (fun t ht hW => ⟨⟨_, h, rfl, hp, z_U K h0 h1 h2 h3 ht hW⟩, h3.F ht⟩) h3.2.2 hd hlocks
theorem z_vret (K : zC p s m args c cc own nL b0 G) (hr : meth.sig.returnType = none) (hlocks : meth.locks = false) (hd : decode cc pc = .ok (.return_, 1)) (hp : post none h) : zW p l e R s m args below meth c nL b0 G k n (MQ below (zQ G b0 post) args s k n (z_A b0)) h pc lv [] :=
  fun H locs ls h0 h1 h2 h3 h4 => W.vret K.1 K.2.1 hr (fun t ht hW => ⟨⟨_, h, rfl, hp, z_U K h0 h1 h2 h3 ht hW⟩, h3.F ht⟩) h3.2.2 hd hlocks
theorem z_aret (K : zC p s m args c cc own nL b0 G) {a : Nat} {rt : FieldType} (hr : meth.sig.returnType = some rt) (hrt : (∃ n, rt = .object n) ∨ ∃ t, rt = .array t) (hlocks : meth.locks = false) (hd : decode cc pc = .ok (.areturn, 1)) (hp : post (some (.ref a)) h) : zW p l e R s m args below meth c nL b0 G k n (MQ below (zQ G b0 post) args s k n (z_A b0)) h pc lv [.ref a] :=
  fun H locs ls h0 h1 h2 h3 h4 => W.aret K.1 K.2.1 hr hrt (Or.inr ⟨a, rfl⟩) (fun t ht hW => ⟨⟨_, h, rfl, hp, z_U K h0 h1 h2 h3 ht hW⟩, h3.F ht⟩) h3.2.2 hd hlocks
end ZL
/-- a method's contract, out of the walk of its body -/
theorem z_met {l : Launch} {G : zG} {b0 d lw mc ms maxL : Nat} {y : MethodName} {cc : ByteArray} {ret : Option FieldType} {as : List Value} {h : zH} {post : Option Value → zH → Prop} (hy : plainName y.cls = true) (hl : (lg_sl as).length ≤ maxL)
    (body : ∀ (p : Program) (e : Env) (s : State) (m : MethodId) (below : List Frame) (meth : Method) (c : Code), zC p s m as.toArray c cc y.cls maxL b0 G → meth.sig.returnType = ret → meth.locks = false → meth.name = y.name →
      zW p l e (zRm d lw mc ms) s m as.toArray below meth c maxL b0 G 0 0 (MQ below (zQ G b0 post) as.toArray s mc ms (z_A b0)) h 0 (lv_args 0 as) []) : zMet l G b0 y cc maxL ret d lw mc ms as h post := by
  refine Met.ofW (cc := cc) (maxL := maxL) (ret := ret) hy rfl ?_
  intro p e s m args below meth c s₁ B hml hv
  obtain ⟨rfl, q0, q1, q2, q3, q4, q5⟩ := hv
  have hts := atoms_spec (ws := .code y cc maxL ret :: zTb) B.pre
  have hown : s.vm.findClass y.cls = some m.cls := findClass_of_methodNamed B.named
  have hb0 : b0 ≤ s.heap.size := by rw [q1]; exact q0.1
  have K : zC p s m as.toArray c cc y.cls maxL b0 G := ⟨B.exec, B.bytes, hml, hown, fun w hw => hts w (List.mem_cons_of_mem _ hw), q3, q4, q5, hb0⟩
  rw [lg_entry_eq]
  exact body p e s m below meth c K B.returns B.notSynchronized (name_of_methodNamed B.named B.method).1 s.heap [] _ q0 q1 q2 va_S.rf (lv_entry as hl)
