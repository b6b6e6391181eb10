/-! THE REFERENCE: its object at the address a, its four arrays behind it. T: cells, sizes, signs, none, as functions on whole numbers -/
abbrev mT : Type := (Int → Int) × (Int → Int) × (Int → Int) × (Int → Int)
abbrev mC (T : mT) : Int → Int := T.1
abbrev mZ (T : mT) : Int → Int := T.2.1
abbrev mS (T : mT) : Int → Int := T.2.2.1
abbrev mN (T : mT) : Int → Int := T.2.2.2
def hm (G : zG) (h : zH) (a : Nat) (cd : Int) (T : mT) : zH := (h.1, fun q =>
  if q = a then .inr (0, [.int (jI cd), .ref (a + 1), .ref (a + 2), .ref (a + 3), .ref (a + 4)])
  else if q = a + 1 then .inl (G.2 0, 25760, .inl (fun i : Nat => jI (T.1 i)))
  else if q = a + 2 then .inl (G.2 0, 56, .inl (fun i : Nat => jI (T.2.1 i)))
  else if q = a + 3 then .inl (G.2 0, 56, .inl (fun i : Nat => jI (T.2.2.1 i)))
  else if q = a + 4 then .inl (G.2 1, 56, .inl (fun i : Nat => jI (T.2.2.2 i)))
  else h.2 q)
section HM
variable {G : zG} {h : zH} {a : Nat} {cd : Int} {T : mT}
theorem hm_0 : (hm G h a cd T).2 a = .inr (0, [.int (jI cd), .ref (a + 1), .ref (a + 2), .ref (a + 3), .ref (a + 4)]) := by simp [hm]
theorem hm_1 : (hm G h a cd T).2 (a + 1) = .inl (G.2 0, 25760, .inl (fun i : Nat => jI (T.1 i))) := by simp [hm]
theorem hm_2 : (hm G h a cd T).2 (a + 2) = .inl (G.2 0, 56, .inl (fun i : Nat => jI (T.2.1 i))) := by simp [hm]
theorem hm_3 : (hm G h a cd T).2 (a + 3) = .inl (G.2 0, 56, .inl (fun i : Nat => jI (T.2.2.1 i))) := by simp [hm]
theorem hm_4 : (hm G h a cd T).2 (a + 4) = .inl (G.2 1, 56, .inl (fun i : Nat => jI (T.2.2.2 i))) := by simp [hm]
theorem hm_s0 {v : Int} : ((hm G h a cd T).1, va_up (hm G h a cd T).2 a (.inr (0, ([.int (jI cd), .ref (a + 1), .ref (a + 2), .ref (a + 3), .ref (a + 4)] : List Value).set 0 (.int (jI v))))) = hm G h a v T := by
  refine Prod.ext rfl (funext fun q => ?_)
  by_cases h0 : q = a
  · subst h0; simp [hm, va_up]
  · simp [hm, va_up, h0]
theorem hm_s1 {f : Int → Int} : ((hm G h a cd T).1, va_up (hm G h a cd T).2 (a + 1) (.inl (G.2 0, 25760, .inl (fun i : Nat => jI (f i))))) = hm G h a cd (f, T.2) := by
  refine Prod.ext rfl (funext fun q => ?_)
  by_cases h0 : q = a + 1
  · subst h0; simp [hm, va_up]
  · simp [hm, va_up, h0]
theorem hm_s2 {f : Int → Int} : ((hm G h a cd T).1, va_up (hm G h a cd T).2 (a + 2) (.inl (G.2 0, 56, .inl (fun i : Nat => jI (f i))))) = hm G h a cd (T.1, f, T.2.2) := by
  refine Prod.ext rfl (funext fun q => ?_)
  by_cases h0 : q = a + 2
  · subst h0; simp [hm, va_up]
  · simp [hm, va_up, h0]
theorem hm_s3 {f : Int → Int} : ((hm G h a cd T).1, va_up (hm G h a cd T).2 (a + 3) (.inl (G.2 0, 56, .inl (fun i : Nat => jI (f i))))) = hm G h a cd (T.1, T.2.1, f, T.2.2.2) := by
  refine Prod.ext rfl (funext fun q => ?_)
  by_cases h0 : q = a + 3
  · subst h0; simp [hm, va_up]
  · simp [hm, va_up, h0]
theorem hm_s4 {f : Int → Int} : ((hm G h a cd T).1, va_up (hm G h a cd T).2 (a + 4) (.inl (G.2 1, 56, .inl (fun i : Nat => jI (f i))))) = hm G h a cd (T.1, T.2.1, T.2.2.1, f) := by
  refine Prod.ext rfl (funext fun q => ?_)
  by_cases h0 : q = a + 4
  · subst h0; simp [hm, va_up]
  · simp [hm, va_up, h0]
end HM
section ZM
variable {p : Program} {l : Launch} {e : Env} {R : Room} {s : State} {m : MethodId} {args : Array Value} {below : List Frame} {meth : Method} {c : Code} {Q : State → Prop}
variable {cc : ByteArray} {nL b0 pc k n : Nat} {G : zG} {h : zH} {lv : List (Nat × Value)} {st : List Value} {a : Nat} {cd : Int} {T : mT}
theorem zm_get (K : zC p s m args c cc R_M nL b0 G) {index f : Nat} {ty : FieldType} {fin : Bool} {v : Value} (hF : zFd R_M index 0 f ty fin) (hv : ([.int (jI cd), .ref (a + 1), .ref (a + 2), .ref (a + 3), .ref (a + 4)] : List Value)[f]? = some v) (hd : decode cc pc = .ok (.getfield index, 3)) (kk : zW p l e R s m args below meth c nL b0 G k n Q (hm G h a cd T) (pc + 3) lv (v :: st)) : zW p l e R s m args below meth c nL b0 G k n Q (hm G h a cd T) pc lv (.ref a :: st) := z_get K hF hm_0 hv hd kk
theorem zm_code (K : zC p s m args c cc R_M nL b0 G) {index : Nat} {v : Int} (hF : zFd R_M index 0 0 .int false) (hd : decode cc pc = .ok (.putfield index, 3)) (kk : zW p l e R s m args below meth c nL b0 G k n Q (hm G h a v T) (pc + 3) lv st) : zW p l e R s m args below meth c nL b0 G k n Q (hm G h a cd T) pc lv (.int (jI v) :: .ref a :: st) := z_put K hF hm_0 (Nat.le_of_ble_eq_true rfl) rfl rfl hd (z_hp hm_s0 kk)
theorem zm_cld (K : zC p s m args c cc R_M nL b0 G) {j : Int} (h0 : 0 ≤ j ∧ j < 25760) (hd : decode cc pc = .ok (.iaload, 1)) (kk : zW p l e R s m args below meth c nL b0 G k n Q (hm G h a cd T) (pc + 1) lv (.int (jI (T.1 j)) :: st)) : zW p l e R s m args below meth c nL b0 G k n Q (hm G h a cd T) pc lv (.int (jI j) :: .ref (a + 1) :: st) := zi_iald K 0 hm_1 rfl h0.1 h0.2 (by decide) hd kk
theorem zm_cst (K : zC p s m args c cc R_M nL b0 G) {j v : Int} (h0 : 0 ≤ j ∧ j < 25760) (hd : decode cc pc = .ok (.iastore, 1)) (kk : zW p l e R s m args below meth c nL b0 G k n Q (hm G h a cd (iu T.1 j v, T.2)) (pc + 1) lv st) : zW p l e R s m args below meth c nL b0 G k n Q (hm G h a cd T) pc lv (.int (jI v) :: .int (jI j) :: .ref (a + 1) :: st) := zi_iast K 0 hm_1 rfl h0.1 h0.2 (by decide) hd (z_hp hm_s1 kk)
theorem zm_zld (K : zC p s m args c cc R_M nL b0 G) {j : Int} (h0 : 0 ≤ j ∧ j < 56) (hd : decode cc pc = .ok (.iaload, 1)) (kk : zW p l e R s m args below meth c nL b0 G k n Q (hm G h a cd T) (pc + 1) lv (.int (jI (T.2.1 j)) :: st)) : zW p l e R s m args below meth c nL b0 G k n Q (hm G h a cd T) pc lv (.int (jI j) :: .ref (a + 2) :: st) := zi_iald K 0 hm_2 rfl h0.1 h0.2 (by decide) hd kk
theorem zm_zst (K : zC p s m args c cc R_M nL b0 G) {j v : Int} (h0 : 0 ≤ j ∧ j < 56) (hd : decode cc pc = .ok (.iastore, 1)) (kk : zW p l e R s m args below meth c nL b0 G k n Q (hm G h a cd (T.1, iu T.2.1 j v, T.2.2)) (pc + 1) lv st) : zW p l e R s m args below meth c nL b0 G k n Q (hm G h a cd T) pc lv (.int (jI v) :: .int (jI j) :: .ref (a + 2) :: st) := zi_iast K 0 hm_2 rfl h0.1 h0.2 (by decide) hd (z_hp hm_s2 kk)
theorem zm_sld (K : zC p s m args c cc R_M nL b0 G) {j : Int} (h0 : 0 ≤ j ∧ j < 56) (hd : decode cc pc = .ok (.iaload, 1)) (kk : zW p l e R s m args below meth c nL b0 G k n Q (hm G h a cd T) (pc + 1) lv (.int (jI (T.2.2.1 j)) :: st)) : zW p l e R s m args below meth c nL b0 G k n Q (hm G h a cd T) pc lv (.int (jI j) :: .ref (a + 3) :: st) := zi_iald K 0 hm_3 rfl h0.1 h0.2 (by decide) hd kk
theorem zm_sst (K : zC p s m args c cc R_M nL b0 G) {j v : Int} (h0 : 0 ≤ j ∧ j < 56) (hd : decode cc pc = .ok (.iastore, 1)) (kk : zW p l e R s m args below meth c nL b0 G k n Q (hm G h a cd (T.1, T.2.1, iu T.2.2.1 j v, T.2.2.2)) (pc + 1) lv st) : zW p l e R s m args below meth c nL b0 G k n Q (hm G h a cd T) pc lv (.int (jI v) :: .int (jI j) :: .ref (a + 3) :: st) := zi_iast K 0 hm_3 rfl h0.1 h0.2 (by decide) hd (z_hp hm_s3 kk)
theorem zm_nld (K : zC p s m args c cc R_M nL b0 G) {j : Int} (h0 : 0 ≤ j ∧ j < 56) (hd : decode cc pc = .ok (.baload, 1)) (kk : zW p l e R s m args below meth c nL b0 G k n Q (hm G h a cd T) (pc + 1) lv (.int (jI (T.2.2.2 j)) :: st)) : zW p l e R s m args below meth c nL b0 G k n Q (hm G h a cd T) pc lv (.int (jI j) :: .ref (a + 4) :: st) := zi_zald K 1 hm_4 rfl h0.1 h0.2 (by decide) hd kk
theorem zm_nst (K : zC p s m args c cc R_M nL b0 G) {j v : Int} (h0 : 0 ≤ j ∧ j < 56) (hv : v = 0 ∨ v = 1) (hd : decode cc pc = .ok (.bastore, 1)) (kk : zW p l e R s m args below meth c nL b0 G k n Q (hm G h a cd (T.1, T.2.1, T.2.2.1, iu T.2.2.2 j v)) (pc + 1) lv st) : zW p l e R s m args below meth c nL b0 G k n Q (hm G h a cd T) pc lv (.int (jI v) :: .int (jI j) :: .ref (a + 4) :: st) := zi_zast K 1 hm_4 rfl h0.1 h0.2 (by decide) hv hd (z_hp hm_s4 kk)
end ZM
/-- a method of the reference: from its state T to a state that 'post' tells; the answer r -/
abbrev mMet (l : Launch) (G : zG) (b0 : Nat) (y : MethodName) (code : ByteArray) (maxL : Nat) (ret : Option FieldType) (d lw : Nat) (h : zH) (a : Nat) (cd : Int) (as : List Value) (T : mT) (post : Option Value → mT → Prop) : Prop :=
  zMet l G b0 y code maxL ret d lw 0 0 (.ref a :: as) (hm G h a cd T) (fun r h' => ∃ T' : mT, h' = hm G h a cd T' ∧ post r T')
