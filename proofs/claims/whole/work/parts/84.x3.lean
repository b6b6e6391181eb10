section X3
variable {p : Program} {l : Launch} {e : Env} {R : Room} {s : State} {m : MethodId} {args : Array Value} {below : List Frame} {meth : Method} {c : Code} {Q : State → Prop} {b0 kc ks : Nat} {G : zG} {h : zH} {a : Nat} {cd : Int}
set_option maxHeartbeats 4000000 in
set_option maxRecDepth 100000 in
theorem c_X_isCoefficient (l : Launch) (G : zG) (b0 : Nat) (h : zH) (a : Nat) (S : xS) {i : Int} (hi : i32 i) : xMet l G b0 y_X_isCoefficient b_X_isCoefficient 1 (some .boolean) 0 0 h a [.int (jI i)] S (fun r S' => S = S' ∧ ∃ b : Int, r = some (.int (jI b)) ∧ (b = 0 ∨ b = 1) ∧ (b = 1 ↔ isIn5 i)) :=
  z_met (by decide) (Nat.le_of_ble_eq_true rfl) fun p e s m below meth c K hr hlk hnm => by
  refine z_iload_n K d_X_isCoefficient_0 rfl ?_
  refine z_ldc (v := jI (-99999)) K d_X_isCoefficient_1 ((show (-99999 : Int32) = jI (-99999) by decide) ▸ kc_X_143) ?_
  refine zi_icmp_lt (tgt := 16) K d_X_isCoefficient_3 (by decide) hi (by decide) (fun hc => ?_) (fun hc => ?_)
  · refine z_iconst (v := jI 0) K d_X_isCoefficient_16 rfl ?_
    exact z_zret K hr hlk d_X_isCoefficient_17 rfl ⟨_, rfl, rfl, 0, rfl, Or.inl rfl, by unfold isIn5; omega⟩
  refine z_iload_n K d_X_isCoefficient_6 rfl ?_
  refine z_ldc (v := jI 99999) K d_X_isCoefficient_7 kc_X_144 ?_
  refine zi_icmp_gt (tgt := 16) K d_X_isCoefficient_9 (by decide) hi (by decide) (fun hc2 => ?_) (fun hc2 => ?_)
  · refine z_iconst (v := jI 0) K d_X_isCoefficient_16 rfl ?_
    exact z_zret K hr hlk d_X_isCoefficient_17 rfl ⟨_, rfl, rfl, 0, rfl, Or.inl rfl, by unfold isIn5; omega⟩
  · refine z_iconst (v := jI 1) K d_X_isCoefficient_12 rfl ?_
    refine z_goto (tgt := 17) K d_X_isCoefficient_13 (by decide) ?_
    exact z_zret K hr hlk d_X_isCoefficient_17 rfl ⟨_, rfl, rfl, 1, rfl, Or.inr rfl, by unfold isIn5; omega⟩
set_option maxHeartbeats 4000000 in
set_option maxRecDepth 100000 in
theorem lp_X_curve (K : zC p s m args c b_X_curve R_X 7 b0 G) (hRm : 5 ≤ R.frames ∧ 152 ≤ R.locals) (hkc : kc ≤ R.cells) (hks : ks ≤ R.slots) {U : Nat → Int} (kx : ∀ S : xS, VX S U → pm S.f → (∀ i : Int, 0 ≤ i → i < 8 → S.f.nn (sO i) = 1) → zW p l e R s m args below meth c 7 b0 G kc ks Q (hx G h a S) 108 [] []) :
    ∀ (d k : Nat) (S : xS), k + d = 8 → VX S U → pm S.f → (∀ i : Int, 0 ≤ i → i < k → S.f.nn (sO i) = 1) → zW p l e R s m args below meth c 7 b0 G kc ks Q (hx G h a S) 85 [(0, .ref a), (6, .int (jI k))] [] := by
  intro d
  induction d with
  | zero =>
    intro k S hk hV hp hn
    refine z_iload K d_X_curve_85 rfl ?_
    refine z_bipush (v := jI 8) K d_X_curve_87 rfl ?_
    refine zi_icmp_ge (tgt := 108) K d_X_curve_89 (by decide) (by omega) (by decide) (fun hc => ?_) (fun hc => absurd hc (by omega))
    exact z_re [] rfl (kx S hV hp (fun i i0 i8 => hn i i0 (by omega)))
  | succ d ih =>
    intro k S hk hV hp hn
    have hv : (0 : Int) ≤ k ∧ (k : Int) < 8 := by omega
    refine z_iload K d_X_curve_85 rfl ?_
    refine z_bipush (v := jI 8) K d_X_curve_87 rfl ?_
    refine zi_icmp_ge (tgt := 108) K d_X_curve_89 (by decide) (by omega) (by decide) (fun hc => absurd hc (by omega)) (fun hc => ?_)
    refine z_aload_n K d_X_curve_92 rfl ?_
    refine zx_gX K fd_X_57 rfl d_X_curve_93 ?_
    refine z_iload K d_X_curve_96 rfl ?_
    refine zx_slot K hv d_X_curve_98 ?_
    refine z_callV (ci := 2) (As := []) K (c_P_becomeNone l G b0 h a S (sO_P hv.1 hv.2)) ca_X_69 im_P_becomeNone se_P_becomeNone rfl (by decide) (hx_P (sO_P hv.1 hv.2)) rfl rfl (rm_ok ⟨hRm.1, hRm.2, hkc, hks⟩ (by decide) (by decide)) (Nat.le_of_ble_eq_true rfl) d_X_curve_99 (fun r h1 hp => ?_)
    obtain ⟨S1, rfl, rfl, rfl⟩ := hp
    refine zi_iinc K d_X_curve_102 rfl (by decide) ?_
    refine z_goto (tgt := 85) K d_X_curve_105 (by decide) ?_
    refine z_re [0, 6] rfl ?_
    refine ih (k + 1) _ (by omega) hV hp (fun i i0 i8 => ?_)
    show nu S.f.nn (sO k) 1 (sO i) = 1
    by_cases e : i = k
    · subst e; rw [nu_self]
    · rw [nu_ne _ _ (sO_ne i0 hv.1 e)]; exact hn i i0 (by omega)
set_option maxHeartbeats 4000000 in
set_option maxRecDepth 100000 in
theorem r_X_curve (l : Launch) (G : zG) (b0 : Nat) (h : zH) (a : Nat) (S : xS) {U : Nat → Int} {A : ecE} {pts : Int → ecP} {c1 c2 c3 c4 c6 : Int} (hX : XS S U A pts) (i1 : i32 c1) (i2 : i32 c2) (i3 : i32 c3) (i4 : i32 c4) (i6 : i32 c6) : xMet l G b0 y_X_curve b_X_curve 7 (some .int) 5 152 h a [.ref a, .int (jI c1), .int (jI c2), .int (jI c3), .int (jI c4), .int (jI c6)] S (fun r S' => (isIn5 c1 ∧ isIn5 c2 ∧ isIn5 c3 ∧ isIn5 c4 ∧ isIn5 c6) ∧ (disc (c1, c2, c3, c4, c6) ≠ 0 ∧ r = some (.int (jI 0)) ∧ (∃ U', XS S' U' (c1, c2, c3, c4, c6) (fun _ => none)) ∨ disc (c1, c2, c3, c4, c6) = 0 ∧ r = some (.int (jI 5)) ∧ ∃ U', XS S' U' A pts) ∨ ¬ (isIn5 c1 ∧ isIn5 c2 ∧ isIn5 c3 ∧ isIn5 c4 ∧ isIn5 c6) ∧ r = some (.int (jI (-1))) ∧ S = S') :=
  z_met (by decide) (Nat.le_of_ble_eq_true rfl) fun p e s m below meth c K hr hlk hnm => by
  refine z_iload_n K d_X_curve_0 rfl ?_
  refine z_callS (As := [.int (jI c1)]) K (c_X_isCoefficient l G b0 h a S i1) ca_X_61 sm_X_isCoefficient rfl rfl (by decide) (Nat.le_of_ble_eq_true rfl) d_X_curve_1 (fun r h1 hp => ?_)
  obtain ⟨Z0, rfl, rfl, bb0, rfl, d0, e0⟩ := hp
  refine zi_if_eq (tgt := 37) K d_X_curve_4 (by decide) (by omega) (fun hc => ?_) (fun hc => ?_)
  · refine z_iconst (v := jI (-1)) K d_X_curve_37 rfl ?_
    exact z_iret K hr hlk d_X_curve_38 ⟨_, rfl, Or.inr ⟨fun w => by have := e0.2 w.1; omega, rfl, rfl⟩⟩
  have h0 := e0.1 (by omega)
  refine z_iload_n K d_X_curve_7 rfl ?_
  refine z_callS (As := [.int (jI c2)]) K (c_X_isCoefficient l G b0 h a S i2) ca_X_61 sm_X_isCoefficient rfl rfl (by decide) (Nat.le_of_ble_eq_true rfl) d_X_curve_8 (fun r h1 hp => ?_)
  obtain ⟨Z1, rfl, rfl, bb1, rfl, d1, e1⟩ := hp
  refine zi_if_eq (tgt := 37) K d_X_curve_11 (by decide) (by omega) (fun hc => ?_) (fun hc => ?_)
  · refine z_iconst (v := jI (-1)) K d_X_curve_37 rfl ?_
    exact z_iret K hr hlk d_X_curve_38 ⟨_, rfl, Or.inr ⟨fun w => by have := e1.2 w.2.1; omega, rfl, rfl⟩⟩
  have h1 := e1.1 (by omega)
  refine z_iload_n K d_X_curve_14 rfl ?_
  refine z_callS (As := [.int (jI c3)]) K (c_X_isCoefficient l G b0 h a S i3) ca_X_61 sm_X_isCoefficient rfl rfl (by decide) (Nat.le_of_ble_eq_true rfl) d_X_curve_15 (fun r h1 hp => ?_)
  obtain ⟨Z2, rfl, rfl, bb2, rfl, d2, e2⟩ := hp
  refine zi_if_eq (tgt := 37) K d_X_curve_18 (by decide) (by omega) (fun hc => ?_) (fun hc => ?_)
  · refine z_iconst (v := jI (-1)) K d_X_curve_37 rfl ?_
    exact z_iret K hr hlk d_X_curve_38 ⟨_, rfl, Or.inr ⟨fun w => by have := e2.2 w.2.2.1; omega, rfl, rfl⟩⟩
  have h2 := e2.1 (by omega)
  refine z_iload K d_X_curve_21 rfl ?_
  refine z_callS (As := [.int (jI c4)]) K (c_X_isCoefficient l G b0 h a S i4) ca_X_61 sm_X_isCoefficient rfl rfl (by decide) (Nat.le_of_ble_eq_true rfl) d_X_curve_23 (fun r h1 hp => ?_)
  obtain ⟨Z3, rfl, rfl, bb3, rfl, d3, e3⟩ := hp
  refine zi_if_eq (tgt := 37) K d_X_curve_26 (by decide) (by omega) (fun hc => ?_) (fun hc => ?_)
  · refine z_iconst (v := jI (-1)) K d_X_curve_37 rfl ?_
    exact z_iret K hr hlk d_X_curve_38 ⟨_, rfl, Or.inr ⟨fun w => by have := e3.2 w.2.2.2.1; omega, rfl, rfl⟩⟩
  have h3 := e3.1 (by omega)
  refine z_iload K d_X_curve_29 rfl ?_
  refine z_callS (As := [.int (jI c6)]) K (c_X_isCoefficient l G b0 h a S i6) ca_X_61 sm_X_isCoefficient rfl rfl (by decide) (Nat.le_of_ble_eq_true rfl) d_X_curve_31 (fun r h1 hp => ?_)
  obtain ⟨Z4, rfl, rfl, bb4, rfl, d4, e4⟩ := hp
  refine zi_if_ne (tgt := 39) K d_X_curve_34 (by decide) (by omega) (fun hc => ?_) (fun hc => ?_)
  rotate_left
  · refine z_iconst (v := jI (-1)) K d_X_curve_37 rfl ?_
    exact z_iret K hr hlk d_X_curve_38 ⟨_, rfl, Or.inr ⟨fun w => by have := e4.2 w.2.2.2.2; omega, rfl, rfl⟩⟩
  have h4 := e4.1 (by omega)
  have all5 : isIn5 c1 ∧ isIn5 c2 ∧ isIn5 c3 ∧ isIn5 c4 ∧ isIn5 c6 := ⟨h0, h1, h2, h3, h4⟩
  unfold isIn5 at h0 h1 h2 h3 h4
  refine z_aload_n K d_X_curve_39 rfl ?_
  refine zx_gX K fd_X_40 rfl d_X_curve_40 ?_
  refine z_iload_n K d_X_curve_43 rfl ?_
  refine zi_i2l K d_X_curve_44 (by omega) ?_
  refine z_iload_n K d_X_curve_45 rfl ?_
  refine zi_i2l K d_X_curve_46 (by omega) ?_
  refine z_iload_n K d_X_curve_47 rfl ?_
  refine zi_i2l K d_X_curve_48 (by omega) ?_
  refine z_iload K d_X_curve_49 rfl ?_
  refine zi_i2l K d_X_curve_51 (by omega) ?_
  refine z_iload K d_X_curve_52 rfl ?_
  refine zi_i2l K d_X_curve_54 (by omega) ?_
  refine z_callV (ci := 6) (As := [.long (kI c1), .long (kI c2), .long (kI c3), .long (kI c4), .long (kI c6)]) K (v_E_isSingular l G b0 h a S (A := (c1, c2, c3, c4, c6)) hX.1 (by show c1.natAbs ≤ 99999; omega) (by show c2.natAbs ≤ 99999; omega) (by show c3.natAbs ≤ 99999; omega) (by show c4.natAbs ≤ 99999; omega) (by show c6.natAbs ≤ 99999; omega)) ca_X_65 im_E_isSingular se_E_isSingular rfl (by decide) (hx_E) rfl rfl (by decide) (Nat.le_of_ble_eq_true rfl) d_X_curve_55 (fun r h1 hp => ?_)
  obtain ⟨S1, rfl, ⟨b9, rfl, z1, z2⟩, ⟨U1, hV1, fr1⟩, f1⟩ := hp
  have z2' : b9 = 1 ↔ disc (c1, c2, c3, c4, c6) = 0 := z2
  refine zi_if_eq (tgt := 63) K d_X_curve_58 (by decide) (by omega) (fun hc => ?_) (fun hc => ?_)
  rotate_left
  · refine z_iconst (v := jI 5) K d_X_curve_61 rfl ?_
    exact z_iret K hr hlk d_X_curve_62 ⟨_, rfl, Or.inl ⟨all5, Or.inr ⟨z2'.1 (by omega), rfl, U1, hX.fr hV1 (by rw [f1]; exact hX.2.1) (fr1 10 (by decide) (by decide)) (fun j j1 => fr1 j (by omega) (by omega)) (fun j j1 => by rw [f1])⟩⟩⟩
  have hd0 : disc (c1, c2, c3, c4, c6) ≠ 0 := fun w => by have := z2'.2 w; omega
  refine z_aload_n K d_X_curve_63 rfl ?_
  refine zx_gX K fd_X_18 rfl d_X_curve_64 ?_
  refine z_iload_n K d_X_curve_67 rfl ?_
  refine zi_i2l K d_X_curve_68 (by omega) ?_
  refine z_iload_n K d_X_curve_69 rfl ?_
  refine zi_i2l K d_X_curve_70 (by omega) ?_
  refine z_iload_n K d_X_curve_71 rfl ?_
  refine zi_i2l K d_X_curve_72 (by omega) ?_
  refine z_iload K d_X_curve_73 rfl ?_
  refine zi_i2l K d_X_curve_75 (by omega) ?_
  refine z_iload K d_X_curve_76 rfl ?_
  refine zi_i2l K d_X_curve_78 (by omega) ?_
  refine z_callV (ci := 3) (As := [.long (kI c1), .long (kI c2), .long (kI c3), .long (kI c4), .long (kI c6)]) K (v_Q_become l G b0 h a S1 (A := (c1, c2, c3, c4, c6)) hV1 (by show c1.natAbs ≤ 99999; omega) (by show c2.natAbs ≤ 99999; omega) (by show c3.natAbs ≤ 99999; omega) (by show c4.natAbs ≤ 99999; omega) (by show c6.natAbs ≤ 99999; omega)) ca_X_24 im_Q_become se_Q_become rfl (by decide) (hx_Q) rfl rfl (by decide) (Nat.le_of_ble_eq_true rfl) d_X_curve_79 (fun r h1 hp => ?_)
  obtain ⟨S2, rfl, rfl, ⟨U2, hV2, eq2, fr2⟩, f2⟩ := hp
  refine z_iconst (v := jI 0) K d_X_curve_82 rfl ?_
  refine z_istore K d_X_curve_83 (by decide) ?_
  refine z_re [0, 6] rfl ?_
  refine lp_X_curve (U := U2) K ⟨Nat.le_of_ble_eq_true rfl, Nat.le_of_ble_eq_true rfl⟩ (Nat.zero_le _) (Nat.zero_le _) (fun S3 w1 w2 w3 => ?_) 8 0 S2 (by decide) hV2 (by rw [f2, f1]; exact hX.2.1) (fun i i0 i8 => absurd i8 (by omega))
  refine z_iconst (v := jI 0) K d_X_curve_108 rfl ?_
  refine z_iret K hr hlk d_X_curve_109 ⟨_, rfl, Or.inl ⟨all5, Or.inl ⟨hd0, rfl, U2, w1, w2, ((fr2 10 (by decide)).trans (fr1 10 (by decide) (by decide))).trans hX.2.2.1, eq2, ⟨by show c1.natAbs ≤ 99999; omega, by show c2.natAbs ≤ 99999; omega, by show c3.natAbs ≤ 99999; omega, by show c4.natAbs ≤ 99999; omega, by show c6.natAbs ≤ 99999; omega, hd0⟩, fun i i0 i8 => ⟨w3 i i0 i8, trivial, fun q => q⟩⟩⟩⟩
end X3
