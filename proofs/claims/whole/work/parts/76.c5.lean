theorem pt_pb {A : ecE} (hA : ecOk A) {x y z : Int} (h : ecOn A (some (x, y, z))) (hw : ¬ wdP 162 (some (x, y, z))) : PB x y z := by
  obtain ⟨b1, b2, b3⟩ := pt_bd hA h (n := 81) hw
  exact PB.mk' (lt9_of10 b1 (by decide)) (lt9_of10 b3 (by decide)) (lt9_of10 b2 (by decide))
theorem PV.fr {U U' : Nat → Int} {o : Nat} {x y z : Int} (h : PV U o x y z) (hu : ∀ i : Nat, i < 10 → U' (o + i) = U (o + i)) : PV U' o x y z :=
  ⟨(hu 1 (by decide)).trans h.1, (hu 3 (by decide)).trans h.2.1, (hu 5 (by decide)).trans h.2.2.1, (hu 7 (by decide)).trans h.2.2.2.1, (hu 9 (by decide)).trans h.2.2.2.2⟩
theorem EQ.fr {U U' : Nat → Int} {A : ecE} (h : EQ U A) (hu : ∀ j : Nat, 19 ≤ j → j < 38 → U' j = U j) : EQ U' A := by
  obtain ⟨a1, a2, a3, a4, a6, c2, c6, d4, d6, d8⟩ := h
  exact ⟨(hu 19 (by decide) (by decide)).trans a1, (hu 21 (by decide) (by decide)).trans a2, (hu 23 (by decide) (by decide)).trans a3, (hu 25 (by decide) (by decide)).trans a4, (hu 27 (by decide) (by decide)).trans a6, (hu 29 (by decide) (by decide)).trans c2, (hu 31 (by decide) (by decide)).trans c6, (hu 33 (by decide) (by decide)).trans d4, (hu 35 (by decide) (by decide)).trans d6, (hu 37 (by decide) (by decide)).trans d8⟩
/-- what a join leaves as it was -/
def jfr (oo : Nat) (S S' : xS) (U U' : Nat → Int) : Prop := (∀ j : Nat, (j < 40 ∨ 58 < j) → j ≠ 5 → j ≠ 8 → j ≠ 12 → j ≠ 14 → j ≠ 16 → j ≠ oo + 1 → j ≠ oo + 3 → j ≠ oo + 5 → j ≠ oo + 7 → j ≠ oo + 9 → U' j = U j) ∧ ∀ j : Nat, j ≠ oo → S'.f.nn j = S.f.nn j
def JR (A : ecE) (P Q : ecP) (oo : Nat) (S0 : xS) (U0 : Nat → Int) (r : Option Value) (S' : xS) : Prop := ∃ b : Int, r = some (.int (jI b)) ∧ ∃ U' : Nat → Int, VX S' U' ∧ pm S'.f ∧ jfr oo S0 S' U0 U' ∧ ((b = 0 ∧ wdP 162 (jnA A P Q)) ∨ (b = 1 ∧ ¬ wdP 162 (jnA A P Q) ∧ PT S' U' oo (jnA A P Q)))
section C5
variable {p : Program} {l : Launch} {e : Env} {R : Room} {s : State} {m : MethodId} {args : Array Value} {below : List Frame} {meth : Method} {c : Code} {Q : State → Prop} {b0 kc ks : Nat} {G : zG} {h : zH} {a : Nat} {cd : Int}
set_option maxHeartbeats 4000000 in
set_option maxRecDepth 100000 in
/-- join, from findShare on -/
theorem t_C_join (l : Launch) (G : zG) (b0 : Nat) (h : zH) (a : Nat) (p : Program) (e : Env) (s : State) (m : MethodId) (below : List Frame) (meth : Method) (c : Code) {as : List Value} (K : zC p s m as.toArray c b_C_join R_C 4 b0 G) (hr : meth.sig.returnType = some .boolean) (hlk : meth.locks = false) {S S0 : xS} {U U0 : Nat → Int} {A : ecE} (hA : ecOk A) {P Q : ecP} {po qo oo : Nat} (hp : isP po = true) (hq : isP qo = true) (ho : isP oo = true) (hpo : po ≠ oo) (hqo : qo ≠ oo)
    (hV : VX S U) (hpm : pm S.f) (h10 : U 10 = 2) (eq : EQ U A) {x1 y1 z1 x2 y2 z2 x3 y3 z3 sl s0 : Int} (pv : PV U po x1 y1 z1) (pb : PB x1 y1 z1) (qv : PV U qo x2 y2 z2) (qb : PB x2 y2 z2) (n1 : z1 ≠ 0) (n2 : z2 ≠ 0) (lo0 : S.f.lost = 0) (hR : jnA A P Q = some (x3, y3, z3)) (onR : ecOn A (some (x3, y3, z3))) (hs : s0 ≠ 0)
    (eT : U 40 = x3 * (s0 * s0)) (eB : U 42 = z3 * s0) (eS : U 44 = sl) (bT : lt9 (U 40) 79) (bB : lt9 (U 42) 40) (bS : lt9 sl 59) (hy : sl * (x3 * (z1 * z1) - x1 * (z3 * z3)) + y1 * (z3 * z3 * z3) * (z2 * s0) = -(y3 + A.1 * x3 * z3 + A.2.2.1 * (z3 * z3 * z3)) * (z2 * s0 * (z1 * z1 * z1))) (hf0 : (∀ j : Nat, (j < 40 ∨ 58 < j) → j ≠ 5 → U j = U0 j) ∧ ∀ j : Nat, S.f.nn j = S0.f.nn j) :
    zW p l e (zRm 6 165 0 0) s m as.toArray below meth c 4 b0 G 0 0 (MQ below (zQ G b0 (fun r h' => ∃ S' : xS, h' = hx G h a S' ∧ JR A P Q oo S0 U0 r S')) as.toArray s 0 0 (z_A b0)) (hx G h a S) 114 [(0, .ref (a + 39)), (1, .ref (a + po)), (2, .ref (a + qo)), (3, .ref (a + oo))] [] := by
  have far1 := isP_far hp ho hpo
  have far2 := isP_far hq ho hqo
  have p75 := isP_75 hp
  have q75 := isP_75 hq
  have o75 := isP_75 ho
  refine z_aload_n K d_C_join_114 rfl ?_
  refine z_callV (ci := 7) (As := []) K (v_C_findShare l G b0 h a S hV hpm h10 onR.1 onR.2.1 hs eT eB bT bB) ca_C_128 im_C_findShare se_C_findShare rfl (by decide) (hx_C) rfl rfl (by decide) (Nat.le_of_ble_eq_true rfl) d_C_join_115 (fun r h1 hp => ?_)
  obtain ⟨S1, rfl, rfl, U1, hV1, pm1, u46, fr1, nn1, lo1⟩ := hp
  have t1 : U1 40 = U 40 := fr1 40 (by decide) (by decide) (by decide) (by decide) (by decide) (by decide) (by decide) (by decide) (by decide)
  have t2 : U1 42 = U 42 := fr1 42 (by decide) (by decide) (by decide) (by decide) (by decide) (by decide) (by decide) (by decide) (by decide)
  have t4 : U1 44 = U 44 := fr1 44 (by decide) (by decide) (by decide) (by decide) (by decide) (by decide) (by decide) (by decide) (by decide)
  refine z_aload_n K d_C_join_118 rfl ?_
  refine z_aload_n K d_C_join_119 rfl ?_
  refine z_callV (ci := 7) (As := [.ref (a + oo)]) K (v_C_placeX l G b0 h a S1 hV1 ho onR.1 hs (t1.trans eT) (t2.trans eB) u46 (by rw [t1]; exact bT) (by rw [t2]; exact bB)) ca_C_131 im_C_placeX se_C_placeX rfl (by decide) (hx_C) rfl rfl (by decide) (Nat.le_of_ble_eq_true rfl) d_C_join_120 (fun r h1 hp => ?_)
  obtain ⟨S2, rfl, b, rfl, hb⟩ := hp
  rcases hb with ⟨rfl, hw, ⟨U2, hV2, fr2⟩, f2⟩ | ⟨rfl, hw, ⟨U2, hV2, o1, o5, o7, o9, v44, v46, fr2⟩, f2⟩
  · refine zi_if_ne (tgt := 128) K d_C_join_123 (by decide) (by decide) (fun hc => absurd rfl hc) (fun hc => ?_)
    refine z_iconst (v := jI 0) K d_C_join_126 rfl ?_
    refine z_zret K hr hlk d_C_join_127 rfl ⟨_, rfl, 0, rfl, U2, hV2, by rw [f2]; exact pm1, ⟨fun j a1 a2 a3 a4 a5 a6 _ _ _ _ _ => ?_, fun j _ => by rw [f2, nn1]; exact hf0.2 j⟩, Or.inl ⟨rfl, by rw [hR]; exact hw⟩⟩
    rw [fr2 j a1 a2, fr1 j (by omega) (by omega) (by omega) (by omega) a2 a3 a4 a5 a6]
    exact hf0.1 j a1 a2
  · refine zi_if_ne (tgt := 128) K d_C_join_123 (by decide) (by decide) (fun hc => ?_) (fun hc => absurd hc (by decide))
    have nw : ¬ wdP 162 (some (x3, y3, z3)) := hw
    have rb := pt_pb hA onR nw
    have nb := pt_pb hA (ng_q onR).1 (fun q => nw (ng_wd.1 q))
    have nb' : lt9 (-(y3 + A.1 * x3 * z3 + A.2.2.1 * (z3 * z3) * z3)) 28 := nb.2.1
    have ey : -(y3 + A.1 * x3 * z3 + A.2.2.1 * (z3 * z3 * z3)) = -(y3 + A.1 * x3 * z3 + A.2.2.1 * (z3 * z3) * z3) := by grind
    rw [ey] at hy
    have out12 : ∀ j : Nat, (j < 40 ∨ 58 < j) → j ≠ 5 → j ≠ 8 → j ≠ 12 → j ≠ 14 → j ≠ 16 → j ≠ oo + 1 → j ≠ oo + 5 → j ≠ oo + 7 → j ≠ oo + 9 → U2 j = U j := fun j a1 a2 a3 a4 a5 a6 a7 a8 a9 a10 => by
      rw [fr2 j a1 a2 a7 a8 a9 a10, fr1 j (by omega) (by omega) (by omega) (by omega) a2 a3 a4 a5 a6]
    have pv2 : PV U2 po x1 y1 z1 := pv.fr (fun i hi => out12 _ (by omega) (by omega) (by omega) (by omega) (by omega) (by omega) (by omega) (by omega) (by omega) (by omega))
    have qv2 : PV U2 qo x2 y2 z2 := qv.fr (fun i hi => out12 _ (by omega) (by omega) (by omega) (by omega) (by omega) (by omega) (by omega) (by omega) (by omega) (by omega))
    have eq2 : EQ U2 A := eq.fr (fun j j1 j2 => out12 j (by omega) (by omega) (by omega) (by omega) (by omega) (by omega) (by omega) (by omega) (by omega) (by omega))
    have bs0 : lt9 s0 40 := lt9_le bB (by rw [eB, Int.natAbs_mul]; exact Nat.le_mul_of_pos_left _ (by have := onR.1; omega))
    refine z_aload_n K d_C_join_128 rfl ?_
    refine z_aload_n K d_C_join_129 rfl ?_
    refine z_aload_n K d_C_join_130 rfl ?_
    refine z_aload_n K d_C_join_131 rfl ?_
    refine z_callV (ci := 7) (As := [.ref (a + po), .ref (a + qo), .ref (a + oo)]) K (v_C_placeY l G b0 h a S2 hV2 hp pv2 pb hq qv2 qb (y0 := -(y3 + A.1 * x3 * z3 + A.2.2.1 * (z3 * z3) * z3)) ho hpo hqo o1 o7 o9 rb.1 rb.2.2.2.1 rb.2.2.2.2 (v44.trans (t4.trans eS)) (v46.trans u46) bS bs0 n1 n2 hs nb' hy) ca_C_134 im_C_placeY se_C_placeY rfl (by decide) (hx_C) rfl rfl (by decide) (Nat.le_of_ble_eq_true rfl) d_C_join_132 (fun r h1 hp => ?_)
    obtain ⟨S3, rfl, rfl, ⟨U3, hV3, u3, fr3⟩, f3⟩ := hp
    have nn3 : S3.f.nn oo = 0 := by rw [f3, f2]; show nu S1.f.nn oo 0 oo = 0; rw [nu_self]
    have ov3 : PV U3 oo x3 (-(y3 + A.1 * x3 * z3 + A.2.2.1 * (z3 * z3) * z3)) z3 := ⟨(fr3 _ (by omega) (by omega)).trans o1, u3, (fr3 _ (by omega) (by omega)).trans o5, (fr3 _ (by omega) (by omega)).trans o7, (fr3 _ (by omega) (by omega)).trans o9⟩
    have eq3 : EQ U3 A := eq2.fr (fun j j1 j2 => fr3 j (by omega) (by omega))
    refine z_aload_n K d_C_join_135 rfl ?_
    refine z_aload_n K d_C_join_136 rfl ?_
    refine z_callV (ci := 7) (As := [.ref (a + oo)]) K (v_C_turnOver l G b0 h a S3 hV3 ho ov3 ⟨rb.1, nb', rb.2.2⟩ eq3 hA nn3) ca_C_138 im_C_turnOver se_C_turnOver rfl (by decide) (hx_C) rfl rfl (by decide) (Nat.le_of_ble_eq_true rfl) d_C_join_137 (fun r h1 hp => ?_)
    obtain ⟨S4, rfl, rfl, ⟨U4, hV4, u4, fr4⟩, f4⟩ := hp
    have f4' : S4.f = S1.f.snn (nu S1.f.nn oo 0) := f4.trans (f3.trans f2)
    have lo4 : S4.f.lost = 0 := by rw [f4']; exact lo1.trans lo0
    refine z_aload_n K d_C_join_140 rfl ?_
    refine zx_gC K fd_C_51 rfl d_C_join_141 ?_
    refine zx_gR (v := .int (jI 0)) K fd_C_101 (by rw [← lo4]; rfl) d_C_join_144 ?_
    refine zi_if_ne (tgt := 154) K d_C_join_147 (by decide) (by decide) (fun hc => absurd rfl hc) (fun hc => ?_)
    refine z_iconst (v := jI 1) K d_C_join_150 rfl ?_
    refine z_goto (tgt := 155) K d_C_join_151 (by decide) ?_
    refine z_zret K hr hlk d_C_join_155 rfl ⟨_, rfl, 1, rfl, U4, hV4, by rw [f4']; exact pm1, ⟨fun j a1 a2 a3 a4 a5 a6 a7 a8 a9 a10 a11 => ?_, fun j hj => ?_⟩, Or.inr ⟨rfl, by rw [hR]; exact nw, ?_⟩⟩
    · rw [fr4 j ⟨a1, a8⟩ a2, fr3 j ⟨a1, a8⟩ a2, out12 j a1 a2 a3 a4 a5 a6 a7 a9 a10 a11]; exact hf0.1 j a1 a2
    · rw [f4']; show nu S1.f.nn oo 0 j = _; rw [nu_ne _ _ hj, nn1]; exact hf0.2 j
    · rw [hR]
      refine ⟨by rw [f4']; show nu S1.f.nn oo 0 oo = 0; rw [nu_self], (fr4 _ (by omega) (by omega)).trans ov3.1, u4.trans (by grind), (fr4 _ (by omega) (by omega)).trans ov3.2.2.1, (fr4 _ (by omega) (by omega)).trans ov3.2.2.2.1, (fr4 _ (by omega) (by omega)).trans ov3.2.2.2.2⟩
end C5
