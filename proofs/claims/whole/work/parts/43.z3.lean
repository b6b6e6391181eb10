theorem d_abs_0 : decode b_abs 0 = .ok (.lload_n 0, 1) := by decide +kernel
theorem d_abs_1 : decode b_abs 1 = .ok (.lconst 0, 1) := by decide +kernel
theorem d_abs_2 : decode b_abs 2 = .ok (.lcmp, 1) := by decide +kernel
theorem d_abs_3 : decode b_abs 3 = .ok (.ifCond .ge 8, 3) := by decide +kernel
theorem d_abs_6 : decode b_abs 6 = .ok (.lload_n 0, 1) := by decide +kernel
theorem d_abs_7 : decode b_abs 7 = .ok (.lneg, 1) := by decide +kernel
theorem d_abs_8 : decode b_abs 8 = .ok (.goto 4, 3) := by decide +kernel
theorem d_abs_11 : decode b_abs 11 = .ok (.lload_n 0, 1) := by decide +kernel
theorem d_abs_12 : decode b_abs 12 = .ok (.lreturn, 1) := by decide +kernel
set_option maxRecDepth 20000 in
theorem ca_cpyR : Cond.methodLink R_R 112 arraycopyName ∈ zTb := zTb_of (tm2 (List.mem_of_getElem? (i := 138) rfl)) rfl
set_option maxRecDepth 20000 in
theorem ca_cpyN : Cond.methodLink R_N 34 arraycopyName ∈ zTb := zTb_of (tm2 (List.mem_of_getElem? (i := 211) rfl)) rfl
set_option maxRecDepth 20000 in
theorem sm_cpy : Cond.static arraycopyName ∈ zTb := zTb_of (tm2 (List.mem_of_getElem? (i := 139) rfl)) rfl
set_option maxRecDepth 20000 in
theorem na_cpy : Cond.native arraycopyName ∈ zTb := zTb_of (tm2 (List.mem_of_getElem? (i := 140) rfl)) rfl
theorem ini_Sys : Cond.initialized "java/lang/System" ∈ zTb := zTb_of (tm1 (List.mem_of_getElem? (i := 11) rfl)) rfl
theorem gs_N : Cond.fieldLinkNest R_N 51 "ChordPoints" "POWERS" "[I" "ChordPoints" ∈ zN := zN_of (tm3 (List.mem_of_getElem? (i := 12) rfl)) rfl
theorem gs_D : Cond.fieldLinkNest R_D 117 "ChordPoints" "POWERS" "[I" "ChordPoints" ∈ zN := zN_of (tm3 (List.mem_of_getElem? (i := 17) rfl)) rfl
theorem cl_X_44 : Cond.classLink R_X 44 "ChordPoints$Point" ∈ zTb := zTb_of (tm2 (List.mem_of_getElem? (i := 34) rfl)) rfl
section ZABS
variable {p : Program} {l : Launch} {e : Env} {R : Room} {s : State} {m : MethodId} {args : Array Value} {below : List Frame} {meth : Method} {c : Code} {Q : State → Prop} {b0 kc ks : Nat} {G : zG} {h : zH} {a : Nat} {cd : Int}
set_option maxHeartbeats 4000000 in
set_option maxRecDepth 100000 in
theorem c_abs (l : Launch) (G : zG) (b0 : Nat) (h : zH) {x : Int} (hx : i64 x) : zMet l G b0 y_abs b_abs 2 (some .long) 0 0 0 0 [.long (kI x)] h (fun o h' => h = h' ∧ o = some (.long (kI x.natAbs))) :=
  z_metF pf_abs (Nat.le_of_ble_eq_true rfl) fun p e s m below meth c K hr hlk hnm => by
  refine z_lload_n K d_abs_0 rfl ?_
  refine z_lconst (v := kI 0) K d_abs_1 rfl ?_
  refine zi_lc_ge (tgt := 11) K d_abs_2 d_abs_3 (by decide) hx (by decide) (fun hc => ?_) (fun hc => ?_)
  · refine z_lload_n K d_abs_11 rfl ?_
    exact z_lret K hr hlk d_abs_12 ⟨rfl, by rw [show (x.natAbs : Int) = x by omega]⟩
  · refine z_lload_n K d_abs_6 rfl ?_
    refine zi_lneg K d_abs_7 ?_
    refine z_goto (tgt := 12) K d_abs_8 (by decide) ?_
    exact z_lret K hr hlk d_abs_12 ⟨rfl, by rw [show (x.natAbs : Int) = -x by omega]⟩
end ZABS
section ZL3
variable {p : Program} {l : Launch} {e : Env} {R : Room} {s : State} {m : MethodId} {args : Array Value} {below : List Frame} {meth : Method} {c : Code} {Q : State → Prop}
variable {cc : ByteArray} {own : String} {nL b0 pc k n : Nat} {G : zG} {h : zH} {lv : List (Nat × Value)} {st : List Value}
theorem zi_alen (K : zC p s m args c cc own nL b0 G) {a t0 N : Nat} {cA : ClassId} {x : (Nat → Int32) ⊕ _} {ty : FieldType} (hf : h.2 a = .inl (cA, N, x)) (ht : (zTys G)[t0]? = some (cA, ty)) (hd : decode cc pc = .ok (.arraylength, 1))
    (kk : zW p l e R s m args below meth c nL b0 G k n Q h (pc + 1) lv (.int (jI N) :: st)) : zW p l e R s m args below meth c nL b0 G k n Q h pc lv (.ref a :: st) := z_alen K hf ht hd (z_st (by rw [nI_jI]) kk)
/-- the static array POWERS -/
def zPw (t b0 : Nat) (s : State) : Prop := va_Z "ChordPoints" "POWERS" "[I" (.ref t) (z_A b0) s s.heap ∧ va_T .int t 10 (fun j => .int (nI (powN j))) (z_A b0) s s.heap
theorem zC.pw (K : zC p s m args c cc own nL b0 G) : ∃ t : Nat, zPw t b0 s := K.2.2.2.2.2.2.2.1.1
theorem z_gets (K : zC p s m args c cc own nL b0 G) {t index : Nat} {host : String} (hZ : zPw t b0 s) (hl : Cond.fieldLinkNest own index "ChordPoints" "POWERS" "[I" host ∈ zN) (hd : decode cc pc = .ok (.getstatic index, 3))
    (kk : zW p l e R s m args below meth c nL b0 G k n Q h (pc + 3) lv (.ref t :: st)) : zW p l e R s m args below meth c nL b0 G k n Q h pc lv st := fun H locs ls h0 h1 h2 h3 h4 =>
  va_getsN K.1 K.2.1 hZ.1 h3 K.2.2.2.1 (va_Nw.use (zN_on hl) (K.2.2.2.2.2.2.1 _ hl)) (fun _ h9 => h9) hd (kk H locs ls h0 h1 h2 h3 h4)
theorem z_tald (K : zC p s m args c cc own nL b0 G) {t : Nat} {j : Int} (hT : zPw t b0 s) (hj : 0 ≤ j ∧ j < 10) (hd : decode cc pc = .ok (.iaload, 1))
    (kk : zW p l e R s m args below meth c nL b0 G k n Q h (pc + 1) lv (.int (jI ((10 ^ j.toNat : Nat) : Int)) :: st)) : zW p l e R s m args below meth c nL b0 G k n Q h pc lv (.int (jI j) :: .ref t :: st) := fun H locs ls h0 h1 h2 h3 h4 =>
  va_ti K.1 K.2.1 hT.2 h3 (jI_in hj.1 hj.2 (by decide)) (by rw [jI_clamp hj.1 (by omega), nI_jI]; rfl) hd (kk H locs ls h0 h1 h2 h3 h4)
/-- System.arraycopy(from, 0, to, 0, j) of ints -/
theorem zi_copy (K : zC p s m args c cc own nL b0 G) {index a0 a1 n0 n1 : Nat} {F D : Int → Int} {j : Int} (hl : Cond.methodLink own index arraycopyName ∈ zTb) (hf0 : h.2 a0 = .inl (G.2 0, n0, .inl (fun i : Nat => jI (F i)))) (hf1 : h.2 a1 = .inl (G.2 0, n1, .inl (fun i : Nat => jI (D i)))) (h00 : 0 ≤ j) (hj0 : j ≤ n0) (hj1 : j ≤ n1) (hj : j < 2147483648) (hR : 1 ≤ R.frames ∧ 26 ≤ R.locals) (hW : (st.map fun v => v.category).sum ≤ 8) (hd : decode cc pc = .ok (.invokestatic index, 3))
    (kk : zW p l e R s m args below meth c nL b0 G k n Q (h.1, va_up h.2 a1 (.inl (G.2 0, n1, .inl (fun i : Nat => jI (if (i : Int) < j then F i else D i))))) (pc + 3) lv st) : zW p l e R s m args below meth c nL b0 G k n Q h pc lv (.int (jI j) :: .int (jI 0) :: .ref a1 :: .int (jI 0) :: .ref a0 :: st) := fun H locs ls h0 h1 h2 h3 h4 => by
  have hts := K.2.2.2.2.1
  have hK := K.2.2.2.2.2.1
  obtain ⟨p1, p2⟩ := z_inl h0 hf0
  obtain ⟨q1, q2⟩ := z_inl h0 hf1
  have e0 := z_Wget (h := h) p1 p2
  rw [hf0] at e0
  have e1 := z_Wget (h := h) q1 q2
  rw [hf1] at e1
  have hij : i32 j := by omega
  have hc : (jI j).toNatClampNeg = j.toNat := jI_clamp h00 hij
  have hz : (jI 0).toNatClampNeg = 0 := rfl
  have hsz : ∀ (f : Nat → Int32), (vp_cell (G.2 0) (n0, .inl f)).slots.size = n0 := fun f => by rw [vp_cell_i]; exact arrV_size _ _ _
  have hsz1 : ∀ (f : Nat → Int32), (vp_cell (G.2 0) (n1, .inl f)).slots.size = n1 := fun f => by rw [vp_cell_i]; exact arrV_size _ _ _
  intro T hT X
  have hc0 : H[a0]? = some (vp_cell (G.2 0) (n0, .inl fun i : Nat => jI (F i))) := h2 _ _ e0
  have hc1 : H[a1]? = some (vp_cell (G.2 0) (n1, .inl fun i : Nat => jI (D i))) := h2 _ _ e1
  obtain ⟨-, k0, hk0, cm0, hkk0⟩ := (hK.2 0 _ rfl).1 n0 (fun i : Nat => .int (jI (F i)))
  have hneg : ¬ jI j < 0 := by rw [← jI_0, jI_lt hij (by decide)]; omega
  obtain ⟨vm', X', step⟩ := X.arraycopy K.1 K.2.2.2.1 (hts _ hl) (hts _ na_cpy) (hts _ sm_cpy) (hts _ ini_Sys) (src := a0) (dst := a1) (cs := vp_cell (G.2 0) (n0, .inl fun i : Nat => jI (F i))) (cd := vp_cell (G.2 0) (n1, .inl fun i : Nat => jI (D i))) (srcPos := jI 0) (destPos := jI 0) (n := jI j) (by rw [hT]; exact hc0) (by rw [hT]; exact hc1)
    (fun _ q => by cases q) (fun _ q => by cases q) (fun q => by cases q) (fun q => by cases q) hk0 hk0 hkk0 hkk0 (by simp [refKind]) (by decide) (by decide) hneg
    (by rw [hsz, jI_toInt hij]; show ¬ (0 : Int) + j > n0; omega) (by rw [hsz1, jI_toInt hij]; show ¬ (0 : Int) + j > n1; omega)
    (fun vm₁ _ i hi => by
      rw [hc] at hi
      have q : (vp_cell (G.2 0) (n0, .inl fun i : Nat => jI (F i))).slots.getD ((jI 0).toNatClampNeg + i) .null = .int (jI (F i)) := by
        rw [vp_cell_i, Array.getD_eq_getD_getElem?, hz, Nat.zero_add, arrV_read _ _ (by omega)]
        rfl
      rw [q]
      exact ⟨rfl, trivial⟩)
    (g := F0 m pc ls (.int (jI j) :: .int (jI 0) :: .ref a1 :: .int (jI 0) :: .ref a0 :: st)) rfl (by rw [K.2.2.1]; exact h4.1) (rest := st) rfl (by rw [K.2.1]; exact hd) hR.1 (by show 2 * 0 + _ + (nativeFrameWords "java/lang/System" "arraycopy" 5 + 11) ≤ _; rw [show nativeFrameWords "java/lang/System" "arraycopy" 5 = 7 by decide +kernel]; omega)
  have ev : copied (vp_cell (G.2 0) (n0, .inl fun i : Nat => jI (F i))) (vp_cell (G.2 0) (n1, .inl fun i : Nat => jI (D i))) (jI 0) (jI 0) (jI j) = vp_cell (G.2 0) (n1, .inl (va_cpy (fun i : Nat => jI (F i)) (fun i : Nat => jI (D i)) (jI 0).toNatClampNeg (jI 0).toNatClampNeg (jI j).toNatClampNeg)) := by
    rw [vp_cell_i, vp_cell_i, vp_cell_i]
    exact va_copied (fun z => .int z) (G.2 0) (G.2 0) _ _ (by rw [hc, hz]; omega)
  rw [ev] at X' step
  have ef : va_cpy (fun i : Nat => jI (F i)) (fun i : Nat => jI (D i)) (jI 0).toNatClampNeg (jI 0).toNatClampNeg (jI j).toNatClampNeg = fun i : Nat => jI (if (i : Int) < j then F i else D i) := by
    funext i
    rw [hc, hz]
    unfold va_cpy
    by_cases hi : (i : Int) < j
    · rw [if_pos (by omega), if_pos hi]
      simp
    · rw [if_neg (by omega), if_neg hi]
  rw [ef] at X' step
  have hlt : a1 < H.size := by rw [h1]; exact q2
  generalize hH1 : H.setIfInBounds a1 (vp_cell (G.2 0) (n1, .inl fun i : Nat => jI (if (i : Int) < j then F i else D i))) = H1
  have hat : H1[a1]? = some (vp_cell (G.2 0) (n1, .inl fun i : Nat => jI (if (i : Int) < j then F i else D i))) := by rw [← hH1]; simp [Array.getElem?_setIfInBounds, hlt]
  have oq : ∀ q : Nat, q ≠ a1 → H1[q]? = H[q]? := fun q hq => by rw [← hH1]; simp [Array.getElem?_setIfInBounds, Ne.symm hq]
  have hs1 : H1.size = H.size := by rw [← hH1]; simp
  have g2 := h2.set (z_D b0 h) e1 (e := .inl (G.2 0, n1, .inl fun i : Nat => jI (if (i : Int) < j then F i else D i))) hat oq
  rw [z_Wset q1 q2] at g2
  obtain ⟨t, b1, b2⟩ := kk H1 _ ls (z_wf_up h0 q1 q2) (hs1.trans h1) g2 ⟨by rw [hs1]; exact h3.1, fun q g1 g3 => by
      rw [oq q (fun z => g3 (by rw [z]; exact q1))]
      exact h3.2.1 q g1 g3, fun q hq => by
      rcases List.mem_append.mp hq with z | z
      · exact h3.2.2 q z
      · obtain ⟨w, -, hw⟩ := List.mem_map.mp z
        rw [← hw]
        exact q1⟩ h4 _ (by rw [← hH1, ← hT]; rfl) X'
  exact ⟨t, step t b1, b2⟩
/-- new ChordPoints$Point[N] -/
theorem z_newq (K : zC p s m args c cc own nL b0 G) {index N : Nat} {x : Int32} (hw : Cond.classLink own index "ChordPoints$Point" ∈ zTb) (hx : x = nI N) (hN : N < 100000000) (hc : k + 1 ≤ R.cells) (hs : n + N ≤ R.slots) (hd : decode cc pc = .ok (.anewarray index, 3))
    (kk : zW p l e R s m args below meth c nL b0 G (k + 1) (n + N) Q (h.1 + 1, va_up h.2 h.1 (.inl (G.2 2, N, .inr (.inr (.inr (.inr (fun _ => none))))))) (pc + 3) lv (.ref h.1 :: st)) : zW p l e R s m args below meth c nL b0 G k n Q h pc lv (.int x :: st) := fun H locs ls h0 h1 h2 h3 h4 => by
  subst hx
  have hts := K.2.2.2.2.1
  have hcl : (nI N).toNatClampNeg = N := nI_clamp (by omega)
  refine W.anew K.1 K.2.1 K.2.2.2.1 (hts _ hw) (va_AO.use K.2.2.2.2.2.2.2.1.2) rfl hd rfl (nI_pos (by omega)) (by rw [hcl]; omega) hc (by rw [hcl]; exact hs) fun cA kA comp f1 f2 f3 f4 => ?_
  rw [hcl]
  obtain ⟨kA', comp', g1, g2, g3, g4⟩ := (K.2.2.2.2.2.1.2 2 _ rfl).2
  have hcA : cA = G.2 2 := Option.some.inj (f1.symm.trans g4)
  subst hcA
  generalize hH1 : H.push ({ cls := G.2 2, slots := Array.replicate N .null, vm := .none } : Cell) = H1
  have z1 : H1.size = H.size + 1 := by rw [← hH1, Array.size_push]
  have e1 : H1[H.size]? = some (arrV (G.2 2) N (fun _ => .null)) := by rw [← hH1, Array.getElem?_push_size, ← arrV_new]
  have o1 : ∀ q : Nat, q < H.size → H1[q]? = H[q]? := fun q hq => by rw [← hH1, Array.getElem?_push, if_neg (Nat.ne_of_lt hq)]
  rw [h1] at e1 ⊢
  refine z_finN h0 h1 h2 h3 h4 ?_ z1 o1 kk
  show H1[h.1]? = some (vp_cell _ _)
  rw [vp_cell_q]
  exact e1
theorem z_aast (K : zC p s m args c cc own nL b0 G) {a v N : Nat} {f : Nat → Option Nat} {fs : List Value} {i : Int32} (hf : h.2 a = .inl (G.2 2, N, .inr (.inr (.inr (.inr f))))) (hv : h.2 v = .inr (2, fs)) (hin : vp_in i N) (hd : decode cc pc = .ok (.aastore, 1))
    (kk : zW p l e R s m args below meth c nL b0 G k n Q (h.1, va_up h.2 a (.inl (G.2 2, N, .inr (.inr (.inr (.inr (va_up f i.toNatClampNeg (some v)))))))) (pc + 1) lv st) : zW p l e R s m args below meth c nL b0 G k n Q h pc lv (.ref v :: .int i :: .ref a :: st) := fun H locs ls h0 h1 h2 h3 h4 => by
  obtain ⟨q1, q2⟩ := z_inl h0 hf
  obtain ⟨p1, p2⟩ := z_in h0 hv (by decide)
  have he := z_Wget (h := h) q1 q2
  rw [hf] at he
  have hev := z_Wget (h := h) p1 p2
  rw [hv] at hev
  have hK := K.2.2.2.2.2.1
  have hlt : i.toNatClampNeg < N := Nat.not_le.mp fun q => hin (Or.inr q)
  have hn0 : ¬ i < 0 := fun q => hin (Or.inl q)
  obtain ⟨r', hr', cellV, g1, g2, g3, -⟩ := h2 _ _ hev
  have hcls := (hK.1 2 _ rfl).2
  obtain ⟨kA, comp, k1, k2, k3, -⟩ := (hK.2 2 _ rfl).2
  have hcomp : comp = G.1.1 2 := Option.some.inj (k3.symm.trans hcls.1)
  subst hcomp
  obtain ⟨kC, hkC, -⟩ := hcls.2
  refine W.aast K.1 K.2.1 (h2 _ _ he) (fun q z => by cases z) (fun z => by cases z) k1 k2 rfl hkC ⟨hn0, by show _ < (arrV _ _ _).slots.size; rw [arrV_size]; exact hlt⟩ g1 (fun q z => by rw [g3] at z; cases z) (by rw [g2]; exact hkC) (by rw [g2]; exact va_assign hcls) rfl rfl hd fun H1 e z oq => ?_
  refine z_fin h0 h1 h2 h3 h4 q1 q2 ?_ z oq kk
  show H1[a]? = some (vp_cell _ _)
  rw [e]
  rw [vp_cell_q, vp_cell_q, arrV_store]
  congr 2
  funext q
  by_cases hq : q = i.toNatClampNeg
  · subst hq
    simp [updV, va_up, va_rf]
  · simp [updV, va_up, hq]
end ZL3
