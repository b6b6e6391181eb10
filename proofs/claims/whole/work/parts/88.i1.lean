/-! the program's constructors -/
/-- a state in which every number has one limb at most -/
def Sv (v : Nat → Int) : xS := (fun j i => if i = 0 then v j else 0, fun j => if v j = 0 then 0 else 1, fun _ => 0, fun _ => 0, fun _ => 0, fun _ => 0, 0, 0, 0, 0, fun _ => 1, 0, 12, 14, 16)
theorem Sv_nr {v : Nat → Int} (hv : ∀ j, 0 ≤ v j ∧ v j < 1000000000) : VX (Sv v) v := fun k _ => by
  have hR := nR_le k
  have h1 := hv k
  by_cases h : v k = 0
  · refine ⟨0, ?_, Nat.zero_le _, fun i hi => absurd hi (by omega), fun j hj => absurd hj (by omega), ?_, ?_⟩
    · show (if v k = 0 then (0 : Int) else 1) = 0; rw [if_pos h]
    · show (0 : Int) = _; rw [if_neg (by omega)]
    · rw [h]; rfl
  · refine ⟨1, ?_, by omega, fun i hi => ?_, fun j hj => ?_, ?_, ?_⟩
    · show (if v k = 0 then (0 : Int) else 1) = 1; rw [if_neg h]
    · have : i = 0 := by omega
      subst this
      exact h1
    · have : j = 0 := by omega
      subst this
      exact h
    · show (0 : Int) = _; rw [if_neg (by omega)]
    · show ((v k).natAbs : Int) = 0 + (if (0 : Int) + (0 : Nat) = 0 then v k else 0) * BS ^ 0
      rw [if_pos (by decide), Int.pow_zero]
      omega
theorem xC_nu {G : zG} {a k j : Nat} {v : Nat → Int} {w : Int} (h1 : j ≠ k) (h2 : j ≠ k + 1) : xCell G a (Sv (nu v k w)) j = xCell G a (Sv v) j := by
  unfold xCell oN oP oR oD Sv
  by_cases h0 : j ≠ 0 ∧ isN (j - 1) = true
  · simp only [nu, xS.L, xS.B, xS.C, xS.f, xF.nn, if_neg h1, if_neg (show ¬ j - 1 = k by omega)]
  · rw [if_neg h0, if_neg h0]
    simp only [nu, xS.L, xS.B, xS.C, xS.f, xF.nn, if_neg h1]
theorem xC_N {G : zG} {a k : Nat} {S : xS} (hk : isN k = true) : xCell G a S k = .inr (1, oN a k S) := by
  unfold xCell
  rw [if_pos hk]
theorem xC_A {G : zG} {a k : Nat} {S : xS} (hk : isN k = true) : xCell G a S (k + 1) = .inl (G.2 0, nR k, .inl (fun i : Nat => jI (S.C k i))) := by
  unfold xCell
  rw [if_neg (by rw [(isN_lt hk).2.1]; decide), if_pos ⟨by omega, by rw [Nat.add_sub_cancel]; exact hk⟩, Nat.add_sub_cancel]
/-- what is built: the cells behind o up to k; o itself holds own; the rest is as in g -/
def bld (G : zG) (a : Nat) (S : xS) (g : Nat → va_E) (o k : Nat) (own : va_E) (h : zH) : Prop := h.1 = a + k ∧ h.2 (a + o) = own ∧ (∀ j : Nat, o < j → j < k → h.2 (a + j) = xCell G a S j) ∧ ∀ x : Nat, x < a + o ∨ a + k ≤ x → h.2 x = g x
theorem bld.new {G : zG} {a : Nat} {S : xS} {g : Nat → va_E} {o k : Nat} {own : va_E} {h : zH} (hb : bld G a S g o k own h) (v : va_E) : bld G a S h.2 k (k + 1) v (h.1 + 1, va_up h.2 h.1 v) := by
  obtain ⟨b1, b2, b3, b4⟩ := hb
  refine ⟨by show h.1 + 1 = _; omega, ?_, fun j j1 j2 => absurd j1 (by omega), fun x hx => ?_⟩
  · show va_up h.2 h.1 v (a + k) = v
    rw [← b1]; exact va_up_self _ _ _
  · exact va_up_ne _ _ (by omega)
theorem bld.join {G : zG} {a : Nat} {S : xS} {g : Nat → va_E} {o k m : Nat} {own : va_E} {h h' : zH} (hb : bld G a S g o k own h) (ho : o < k) (hm : k < m) (hc : bld G a S h.2 k m (xCell G a S k) h') : bld G a S g o m own h' := by
  obtain ⟨b1, b2, b3, b4⟩ := hb
  obtain ⟨c1, c2, c3, c4⟩ := hc
  refine ⟨c1, (c4 _ (by omega)).trans b2, fun j j1 j2 => ?_, fun x hx => (c4 x (by omega)).trans (b4 x (by omega))⟩
  by_cases e : j = k
  · subst e; exact c2
  · by_cases e2 : j < k
    · exact (c4 _ (by omega)).trans (b3 j j1 e2)
    · exact c3 j (by omega) j2
theorem bld.put {G : zG} {a : Nat} {S : xS} {g : Nat → va_E} {o k : Nat} {own : va_E} {h : zH} (hb : bld G a S g o k own h) (ho : o < k) (v : va_E) : bld G a S g o k v (h.1, va_up h.2 (a + o) v) := by
  obtain ⟨b1, b2, b3, b4⟩ := hb
  exact ⟨b1, va_up_self _ _ _, fun j j1 j2 => (va_up_ne _ _ (by omega)).trans (b3 j j1 j2), fun x hx => (va_up_ne _ _ (by omega)).trans (b4 x hx)⟩
theorem bld.arr {G : zG} {a : Nat} {S : xS} {g : Nat → va_E} {o k : Nat} {own v : va_E} {h : zH} (hb : bld G a S g o k own h) (ho : o < k) (hv : xCell G a S k = v) : bld G a S g o (k + 1) own (h.1 + 1, va_up h.2 h.1 v) :=
  hb.join ho (by omega) (by have := hb.new v; rw [← hv] at this ⊢; exact this)
section I1
variable {p : Program} {l : Launch} {e : Env} {R : Room} {s : State} {m : MethodId} {args : Array Value} {below : List Frame} {meth : Method} {c : Code} {Q : State → Prop} {b0 kc ks : Nat} {G : zG} {h : zH} {a : Nat} {cd : Int}
set_option maxHeartbeats 4000000 in
set_option maxRecDepth 100000 in
theorem g_N_init (l : Launch) (G : zG) (b0 : Nat) (h : zH) {q N : Nat} (hq : h.2 q = .inr (1, [.null, .int 0, .int 0])) (hlt : q < h.1) (h3 : 3 ≤ N) (hN : N ≤ 112) : zMet l G b0 y_N_init b_N_init 2 none 1 21 1 N [.ref q, .int (jI N)] h (fun r h' => r = none ∧ h' = (h.1 + 1, va_up (va_up h.2 h.1 (.inl (G.2 0, N, .inl (fun _ => 0)))) q (.inr (1, [.ref h.1, .int 0, .int 0])))) :=
  z_met (by decide) (Nat.le_of_ble_eq_true rfl) fun p e s m below meth c K hr hlk hnm => by
  refine z_aload_n K d_N_init_0 rfl ?_
  refine z_obj K oi_N oi_im oi_cd d_N_init_1 (show 1 ≤ 1 ∧ 0 + 12 ≤ 21 by decide) ?_
  refine z_aload_n K d_N_init_4 rfl ?_
  refine z_iload_n K d_N_init_5 rfl ?_
  refine z_iconst (v := jI 3) K d_N_init_6 rfl ?_
  refine z_callS (As := [.int (jI N), .int (jI 3)]) K (c_max l G b0 h (x := N) (y := 3) (by omega) (by decide)) ca_N_9 sm_max rfl rfl (by show 0 + 1 ≤ 1 ∧ 8 + (2 + 11) + 0 ≤ 21 ∧ 0 + 0 ≤ 1 ∧ 0 + 0 ≤ N; omega) (Nat.le_of_ble_eq_true rfl) d_N_init_7 (fun r h1 hp => ?_)
  obtain ⟨rfl, rfl⟩ := hp
  rw [show max (N : Int) 3 = (N : Int) by omega]
  refine z_newi (t0 := 0) (N := N) K rfl ac_int (jI_nI N) (by omega) (show 0 + 0 + 1 ≤ 1 by decide) (by show 0 + 0 + N ≤ N; omega) d_N_init_10 ?_
  refine z_putF K hnm ff_N_15 ((va_up_ne _ _ (by omega)).trans hq) (by decide) rfl rfl d_N_init_12 ?_
  rw [show 0 + 0 + N = N by omega]
  exact z_vret K hr hlk d_N_init_15 ⟨rfl, rfl⟩
theorem bld_N {G : zG} {a : Nat} {v : Nat → Int} {g : Nat → va_E} {k : Nat} (hk : isN k = true) (h0 : v k = 0) {h : zH} {own : va_E} (hb : bld G a (Sv v) g k (k + 1) own h) : bld G a (Sv v) g k (k + 2) (xCell G a (Sv v) k) (h.1 + 1, va_up (va_up h.2 h.1 (.inl (G.2 0, nR k, .inl (fun _ => 0)))) (a + k) (.inr (1, [.ref h.1, .int 0, .int 0]))) := by
  have hb1 := hb.1
  have c1 : xCell G a (Sv v) (k + 1) = .inl (G.2 0, nR k, .inl (fun _ => 0)) := by
    rw [xC_A hk]
    have e : (fun i : Nat => jI ((Sv v).C k i)) = fun _ => (0 : Int32) := by
      funext i
      show jI (if (i : Int) = 0 then v k else 0) = 0
      rw [h0]
      split <;> rfl
    rw [e]
  have c0 : xCell G a (Sv v) k = .inr (1, [.ref h.1, .int 0, .int 0]) := by
    rw [xC_N hk]
    have e : (Sv v).L k = 0 := by
      show (if v k = 0 then (0 : Int) else 1) = 0
      rw [if_pos h0]
    unfold oN
    rw [e, hb1, Nat.add_assoc]
    rfl
  have := (hb.arr (by omega) c1).put (by omega) (xCell G a (Sv v) k)
  rw [c0] at this ⊢
  exact this
set_option maxHeartbeats 4000000 in
set_option maxRecDepth 100000 in
theorem z_fldB {cc : ByteArray} {own : String} {nL pc : Nat} {lv : List (Nat × Value)} {hh : zH} (K : zC p s m args c cc own nL b0 G) (hnm : meth.name = "<init>") {v : Nat → Int} {g : Nat → va_E} {o k0 ci fi iN iC iP rm : Nat} {fs : List Value} (hk : isN k0 = true) (hrm : nR k0 = rm) (h0 : v k0 = 0) (ho : o < k0) (hfi : fi < fs.length) (hnw : zNw own iN 1 3 [.null, .int 0, .int 0]) (hca : zCa own iC y_N_init b_N_init 2 none 1) (hff : zFf own iP ci fi (.object "ChordPoints$Num") ∨ zFd own iP ci fi (.object "ChordPoints$Num") false)
    (hl : zl lv 0 = some (.ref (a + o))) (d1 : decode cc pc = .ok (.aload_n 0, 1)) (d2 : decode cc (pc + 1) = .ok (.new iN, 3)) (d3 : decode cc (pc + 4) = .ok (.dup, 1)) (d4 : decode cc (pc + 5) = .ok (.bipush (rm : Int), 2)) (d5 : decode cc (pc + 7) = .ok (.invokespecial iC, 3)) (d6 : decode cc (pc + 10) = .ok (.putfield iP, 3)) (hp8 : (Int8.ofInt (rm : Int)).toInt32 = jI (rm : Int)) (hR : 2 ≤ R.frames ∧ 42 ≤ R.locals ∧ kc + 2 ≤ R.cells ∧ ks + 3 + rm ≤ R.slots)
    (hb : bld G a (Sv v) g o k0 (.inr (ci, fs)) hh) (kk : ∀ h' : zH, bld G a (Sv v) g o (k0 + 2) (.inr (ci, fs.set fi (.ref (a + k0)))) h' → zW p l e R s m args below meth c nL b0 G (kc + 2) (ks + (3 + rm)) Q h' (pc + 13) lv []) : zW p l e R s m args below meth c nL b0 G kc ks Q hh pc lv [] := by
  have hR2 := nR_le k0
  have hb1 := hb.1
  refine z_aload_n K d1 hl ?_
  refine z_new K hnw (by omega) (by omega) d2 ?_
  refine z_dup K d3 rfl ?_
  refine z_bipush (v := jI (rm : Int)) K d4 hp8 ?_
  subst hrm
  have hb2 := hb.new (.inr (1, [.null, .int 0, .int 0]))
  rw [hb1] at hb2 ⊢
  refine z_callI (As := [.int (jI (nR k0 : Int))]) K (g_N_init l G b0 (a + k0 + 1, va_up hh.2 (a + k0) (.inr (1, [.null, .int 0, .int 0]))) (q := a + k0) hb2.2.1 (by show a + k0 < a + k0 + 1; omega) hR2.1 hR2.2) hca im_N_init rfl rfl rfl (by omega) (Nat.le_of_ble_eq_true rfl) d5 (fun r h1 hp => ?_)
  obtain ⟨rfl, rfl⟩ := hp
  have hb3 := hb.join ho (by omega) (bld_N hk h0 hb2)
  have := kk _ (hb3.put (by omega) _)
  rw [← Nat.add_assoc ks 3] at this
  rcases hff with hff | hff
  · exact z_putF K hnm hff hb3.2.1 hfi rfl rfl d6 this
  · exact z_put K hff hb3.2.1 hfi rfl rfl d6 this
set_option maxHeartbeats 4000000 in
set_option maxRecDepth 100000 in
theorem z_fldI {cc : ByteArray} {own : String} {nL pc : Nat} {lv : List (Nat × Value)} {hh : zH} (K : zC p s m args c cc own nL b0 G) (hnm : meth.name = "<init>") {v : Nat → Int} {g : Nat → va_E} {o k0 ci fi iN iC iP : Nat} {fs : List Value} (hk : isN k0 = true) (hrm : nR k0 = 3) (h0 : v k0 = 0) (ho : o < k0) (hfi : fi < fs.length) (hnw : zNw own iN 1 3 [.null, .int 0, .int 0]) (hca : zCa own iC y_N_init b_N_init 2 none 1) (hff : zFf own iP ci fi (.object "ChordPoints$Num"))
    (hl : zl lv 0 = some (.ref (a + o))) (d1 : decode cc pc = .ok (.aload_n 0, 1)) (d2 : decode cc (pc + 1) = .ok (.new iN, 3)) (d3 : decode cc (pc + 4) = .ok (.dup, 1)) (d4 : decode cc (pc + 5) = .ok (.iconst 3, 1)) (d5 : decode cc (pc + 6) = .ok (.invokespecial iC, 3)) (d6 : decode cc (pc + 9) = .ok (.putfield iP, 3)) (hR : 2 ≤ R.frames ∧ 42 ≤ R.locals ∧ kc + 2 ≤ R.cells ∧ ks + 3 + 3 ≤ R.slots)
    (hb : bld G a (Sv v) g o k0 (.inr (ci, fs)) hh) (kk : ∀ h' : zH, bld G a (Sv v) g o (k0 + 2) (.inr (ci, fs.set fi (.ref (a + k0)))) h' → zW p l e R s m args below meth c nL b0 G (kc + 2) (ks + 6) Q h' (pc + 12) lv []) : zW p l e R s m args below meth c nL b0 G kc ks Q hh pc lv [] := by
  have hb1 := hb.1
  refine z_aload_n K d1 hl ?_
  refine z_new K hnw (by omega) (by omega) d2 ?_
  refine z_dup K d3 rfl ?_
  refine z_iconst (v := jI 3) K d4 rfl ?_
  have hb2 := hb.new (.inr (1, [.null, .int 0, .int 0]))
  rw [hb1] at hb2 ⊢
  refine z_callI (As := [.int (jI 3)]) K (g_N_init l G b0 (a + k0 + 1, va_up hh.2 (a + k0) (.inr (1, [.null, .int 0, .int 0]))) (q := a + k0) (N := 3) hb2.2.1 (by show a + k0 < a + k0 + 1; omega) (by decide) (by decide)) hca im_N_init rfl rfl rfl (by omega) (Nat.le_of_ble_eq_true rfl) d5 (fun r h1 hp => ?_)
  obtain ⟨rfl, rfl⟩ := hp
  have hbn := bld_N hk h0 hb2
  rw [hrm] at hbn
  have hb3 := hb.join ho (by omega) hbn
  refine z_putF K hnm hff hb3.2.1 hfi rfl rfl d6 ?_
  exact kk _ (hb3.put (by omega) _)
end I1
