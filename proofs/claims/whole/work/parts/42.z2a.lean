/-! THE Z LAYER, further rows: Math, System.arraycopy, the static array, arrays of points -/
theorem nI_jI (n : Nat) : nI n = jI (n : Int) := by
  unfold nI jI Int32.ofNat Int32.ofInt
  rw [BitVec.ofInt_natCast]
theorem z_metF {l : Launch} {G : zG} {b0 d lw mc ms maxL : Nat} {y : MethodName} {cc : ByteArray} {ret : Option FieldType} {as : List Value} {h : zH} {post : Option Value → zH → Prop} (hy : plainFor y = true) (hl : (lg_sl as).length ≤ maxL)
    (body : ∀ (p : Program) (e : Env) (s : State) (m : MethodId) (below : List Frame) (meth : Method) (c : Code), zC p s m as.toArray c cc y.cls maxL b0 G → meth.sig.returnType = ret → meth.locks = false → meth.name = y.name →
      zW p l e (zRm d lw mc ms) s m as.toArray below meth c maxL b0 G 0 0 (MQ below (zQ G b0 post) as.toArray s mc ms (z_A b0)) h 0 (lv_args 0 as) []) : zMet l G b0 y cc maxL ret d lw mc ms as h post := by
  refine va_MetF (cc := cc) (maxL := maxL) (ret := ret) hy rfl ?_
  intro p e s m args below meth c s₁ B hml hv
  obtain ⟨rfl, q0, q1, q2, q3, q4, q5⟩ := hv
  have hts := atoms_spec (ws := .code y cc maxL ret :: zTb) B.pre
  have hown : s.vm.findClass y.cls = some m.cls := findClass_of_methodNamed B.named
  have hb0 : b0 ≤ s.heap.size := by rw [q1]; exact q0.1
  have K : zC p s m as.toArray c cc y.cls maxL b0 G := ⟨B.exec, B.bytes, hml, hown, fun w hw => hts w (List.mem_cons_of_mem _ hw), q3, q4, q5, hb0⟩
  rw [lg_entry_eq]
  exact body p e s m below meth c K B.returns B.notSynchronized (name_of_methodNamed B.named B.method).1 s.heap [] _ q0 q1 q2 va_S.rf (lv_entry as hl)
abbrev b_max : ByteArray := prog_11_method_65_code
abbrev b_min : ByteArray := prog_11_method_69_code
abbrev b_abs : ByteArray := prog_11_method_61_code
abbrev b_fdiv : ByteArray := prog_11_method_49_code
def y_max : MethodName := ⟨"java/lang/Math", "max", "(II)I"⟩
def y_min : MethodName := ⟨"java/lang/Math", "min", "(II)I"⟩
def y_abs : MethodName := ⟨"java/lang/Math", "abs", "(J)J"⟩
def y_fdiv : MethodName := ⟨"java/lang/Math", "floorDiv", "(JJ)J"⟩
theorem ini_Math : Cond.initialized "java/lang/Math" ∈ zTb := zTb_of (tm1 (List.mem_of_getElem? (i := 4) rfl)) rfl
theorem sm_max : Cond.static y_max ∈ zTb := zTb_of (tm1 (List.mem_of_getElem? (i := 33) rfl)) rfl
set_option maxRecDepth 20000 in
theorem sm_min : Cond.static y_min ∈ zTb := zTb_of (tm2 (List.mem_of_getElem? (i := 136) rfl)) rfl
theorem sm_abs : Cond.static y_abs ∈ zTb := zTb_of (tm3 (List.mem_of_getElem? (i := 21) rfl)) rfl
theorem sm_fdiv : Cond.static y_fdiv ∈ zTb := zTb_of (tm3 (List.mem_of_getElem? (i := 28) rfl)) rfl
theorem ca_N_9 : zCa R_N 9 y_max b_max 2 (some .int) 2 := ⟨⟨zTb_of (tm1 (List.mem_of_getElem? (i := 34) rfl)) rfl, ini_Math, by decide +kernel, by decide +kernel, by decide +kernel⟩, Or.inl (zTb_of (tm1 (List.mem_of_getElem? (i := 32) rfl)) rfl)⟩
set_option maxRecDepth 20000 in
theorem ca_R_53 : zCa R_R 53 y_max b_max 2 (some .int) 2 := ⟨⟨zTb_of (tm1 (List.mem_of_getElem? (i := 34) rfl)) rfl, ini_Math, by decide +kernel, by decide +kernel, by decide +kernel⟩, Or.inl (zTb_of (tm2 (List.mem_of_getElem? (i := 155) rfl)) rfl)⟩
set_option maxRecDepth 20000 in
theorem ca_R_106 : zCa R_R 106 y_min b_min 2 (some .int) 2 := ⟨⟨zTb_of (tm2 (List.mem_of_getElem? (i := 137) rfl)) rfl, ini_Math, by decide +kernel, by decide +kernel, by decide +kernel⟩, Or.inl (zTb_of (tm2 (List.mem_of_getElem? (i := 135) rfl)) rfl)⟩
theorem ca_D_111 : zCa R_D 111 y_abs b_abs 2 (some .long) 1 := ⟨⟨zTb_of (tm3 (List.mem_of_getElem? (i := 22) rfl)) rfl, ini_Math, by decide +kernel, by decide +kernel, by decide +kernel⟩, Or.inl (zTb_of (tm3 (List.mem_of_getElem? (i := 20) rfl)) rfl)⟩
theorem ca_D_126 : zCa R_D 126 y_fdiv b_fdiv 6 (some .long) 2 := ⟨⟨zTb_of (tm3 (List.mem_of_getElem? (i := 29) rfl)) rfl, ini_Math, by decide +kernel, by decide +kernel, by decide +kernel⟩, Or.inl (zTb_of (tm3 (List.mem_of_getElem? (i := 27) rfl)) rfl)⟩
theorem pf_max : plainFor y_max = true := by decide +kernel
theorem pf_min : plainFor y_min = true := by decide +kernel
theorem pf_abs : plainFor y_abs = true := by decide +kernel
theorem pf_fdiv : plainFor y_fdiv = true := by decide +kernel
theorem d_max_0 : decode b_max 0 = .ok (.iload_n 0, 1) := by decide +kernel
theorem d_max_1 : decode b_max 1 = .ok (.iload_n 1, 1) := by decide +kernel
theorem d_max_2 : decode b_max 2 = .ok (.if_icmp .lt 7, 3) := by decide +kernel
theorem d_max_5 : decode b_max 5 = .ok (.iload_n 0, 1) := by decide +kernel
theorem d_max_6 : decode b_max 6 = .ok (.goto 4, 3) := by decide +kernel
theorem d_max_9 : decode b_max 9 = .ok (.iload_n 1, 1) := by decide +kernel
theorem d_max_10 : decode b_max 10 = .ok (.ireturn, 1) := by decide +kernel
theorem d_min_0 : decode b_min 0 = .ok (.iload_n 0, 1) := by decide +kernel
theorem d_min_1 : decode b_min 1 = .ok (.iload_n 1, 1) := by decide +kernel
theorem d_min_2 : decode b_min 2 = .ok (.if_icmp .gt 7, 3) := by decide +kernel
theorem d_min_5 : decode b_min 5 = .ok (.iload_n 0, 1) := by decide +kernel
theorem d_min_6 : decode b_min 6 = .ok (.goto 4, 3) := by decide +kernel
theorem d_min_9 : decode b_min 9 = .ok (.iload_n 1, 1) := by decide +kernel
theorem d_min_10 : decode b_min 10 = .ok (.ireturn, 1) := by decide +kernel
theorem d_fdiv_0 : decode b_fdiv 0 = .ok (.lload_n 0, 1) := by decide +kernel
theorem d_fdiv_1 : decode b_fdiv 1 = .ok (.lload_n 2, 1) := by decide +kernel
theorem d_fdiv_2 : decode b_fdiv 2 = .ok (.ldiv, 1) := by decide +kernel
theorem d_fdiv_3 : decode b_fdiv 3 = .ok (.lstore 4, 2) := by decide +kernel
theorem d_fdiv_5 : decode b_fdiv 5 = .ok (.lload_n 0, 1) := by decide +kernel
theorem d_fdiv_6 : decode b_fdiv 6 = .ok (.lload_n 2, 1) := by decide +kernel
theorem d_fdiv_7 : decode b_fdiv 7 = .ok (.lxor, 1) := by decide +kernel
theorem d_fdiv_8 : decode b_fdiv 8 = .ok (.lconst 0, 1) := by decide +kernel
theorem d_fdiv_9 : decode b_fdiv 9 = .ok (.lcmp, 1) := by decide +kernel
theorem d_fdiv_10 : decode b_fdiv 10 = .ok (.ifCond .ge 17, 3) := by decide +kernel
theorem d_fdiv_13 : decode b_fdiv 13 = .ok (.lload 4, 2) := by decide +kernel
theorem d_fdiv_15 : decode b_fdiv 15 = .ok (.lload_n 2, 1) := by decide +kernel
theorem d_fdiv_16 : decode b_fdiv 16 = .ok (.lmul, 1) := by decide +kernel
theorem d_fdiv_17 : decode b_fdiv 17 = .ok (.lload_n 0, 1) := by decide +kernel
theorem d_fdiv_18 : decode b_fdiv 18 = .ok (.lcmp, 1) := by decide +kernel
theorem d_fdiv_19 : decode b_fdiv 19 = .ok (.ifCond .eq 8, 3) := by decide +kernel
theorem d_fdiv_22 : decode b_fdiv 22 = .ok (.lload 4, 2) := by decide +kernel
theorem d_fdiv_24 : decode b_fdiv 24 = .ok (.lconst 1, 1) := by decide +kernel
theorem d_fdiv_25 : decode b_fdiv 25 = .ok (.lsub, 1) := by decide +kernel
theorem d_fdiv_26 : decode b_fdiv 26 = .ok (.lreturn, 1) := by decide +kernel
theorem d_fdiv_27 : decode b_fdiv 27 = .ok (.lload 4, 2) := by decide +kernel
theorem d_fdiv_29 : decode b_fdiv 29 = .ok (.lreturn, 1) := by decide +kernel
