def PT (S : xS) (U : Nat → Int) (o : Nat) : ecP → Prop
  | none => S.f.nn o = 1
  | some (x, y, z) => S.f.nn o = 0 ∧ PV U o x y z
theorem PT.nn {S : xS} {U : Nat → Int} {o : Nat} {P : ecP} (h : PT S U o P) : S.f.nn o = 0 ∨ S.f.nn o = 1 := by
  match P, h with
  | none, h => exact Or.inr h
  | some (x, y, z), h => exact Or.inl h.1
theorem PT.isn {S : xS} {U : Nat → Int} {o : Nat} {P : ecP} (h : PT S U o P) : S.f.nn o = 1 ↔ P = none := by
  match P, h with
  | none, h => exact ⟨fun _ => rfl, fun _ => h⟩
  | some (x, y, z), h => exact ⟨fun q => by have := h.1; omega, fun q => by cases q⟩
theorem PT.fr {S S' : xS} {U U' : Nat → Int} {o : Nat} {P : ecP} (h : PT S U o P) (hn : S'.f.nn o = S.f.nn o) (hu : ∀ i : Nat, i < 10 → U' (o + i) = U (o + i)) : PT S' U' o P := by
  match P, h with
  | none, h => exact hn.trans h
  | some (x, y, z), h => exact ⟨hn.trans h.1, (hu 1 (by decide)).trans h.2.1, (hu 3 (by decide)).trans h.2.2.1, (hu 5 (by decide)).trans h.2.2.2.1, (hu 7 (by decide)).trans h.2.2.2.2.1, (hu 9 (by decide)).trans h.2.2.2.2.2⟩
section P1
variable {p : Program} {l : Launch} {e : Env} {R : Room} {s : State} {m : MethodId} {args : Array Value} {below : List Frame} {meth : Method} {c : Code} {Q : State → Prop} {b0 kc ks : Nat} {G : zG} {h : zH} {a : Nat} {cd : Int}
set_option maxHeartbeats 4000000 in
set_option maxRecDepth 100000 in
theorem c_P_becomeNone (l : Launch) (G : zG) (b0 : Nat) (h : zH) (a : Nat) (S : xS) {o : Nat} (ho : isP o = true) : xMet l G b0 y_P_becomeNone b_P_becomeNone 1 none 0 0 h a [.ref (a + o)] S (fun r S' => r = none ∧ S' = S.sf (S.f.snn (nu S.f.nn o 1))) :=
  z_met (by decide) (Nat.le_of_ble_eq_true rfl) fun p e s m below meth c K hr hlk hnm => by
  refine z_aload_n K d_P_becomeNone_0 rfl ?_
  refine z_iconst (v := jI 1) K d_P_becomeNone_1 rfl ?_
  refine zx_pNn (v := 1) K ho fd_P_32 (Or.inr rfl) d_P_becomeNone_2 ?_
  exact z_vret K hr hlk d_P_becomeNone_5 ⟨_, rfl, rfl, rfl⟩
set_option maxHeartbeats 4000000 in
set_option maxRecDepth 100000 in
theorem c_P_become (l : Launch) (G : zG) (b0 : Nat) (h : zH) (a : Nat) (S : xS) {U : Nat → Int} {o q : Nat} {P : ecP} (hV : VX S U) (ho : isP o = true) (hq : isP q = true) (hoq : o ≠ q) (hP : PT S U q P) : xMet l G b0 y_P_become b_P_become 2 none 2 61 h a [.ref (a + o), .ref (a + q)] S (fun r S' => r = none ∧ ∃ U', VX S' U' ∧ PT S' U' o P ∧ (∀ j : Nat, j ≠ o + 1 → j ≠ o + 3 → j ≠ o + 5 → j ≠ o + 7 → j ≠ o + 9 → U' j = U j) ∧ S'.f = S.f.snn (nu S.f.nn o (S.f.nn q))) :=
  z_met (by decide) (Nat.le_of_ble_eq_true rfl) fun p e s m below meth c K hr hlk hnm => by
  have hN_o := (isP_lt ho).2.2.2
  have hR_o := nR_P ho
  have hN_q := (isP_lt hq).2.2.2
  have hR_q := nR_P hq
  have far := isP_far ho hq hoq
  have hn := hP.nn
  refine z_aload_n K d_P_become_0 rfl ?_
  refine z_aload_n K d_P_become_1 rfl ?_
  refine zx_gP K hq fd_P_32 rfl d_P_become_2 ?_
  refine zx_pNn (v := S.f.nn q) K ho fd_P_32 hn d_P_become_5 ?_
  refine z_aload_n K d_P_become_8 rfl ?_
  refine zx_gP (v := .int (jI (S.f.nn q))) K ho fd_P_32 (by show some (Value.int (jI (nu S.f.nn o (S.f.nn q) o))) = _; rw [nu_self]) d_P_become_9 ?_
  obtain ⟨S0, hS0⟩ : ∃ Z : xS, Z = S.sf (S.f.snn (nu S.f.nn o (S.f.nn q))) := ⟨_, rfl⟩
  rw [← hS0]
  have f0 : S0.f = S.f.snn (nu S.f.nn o (S.f.nn q)) := by rw [hS0]
  have hV0 : VX S0 U := by rw [hS0]; exact hV
  refine zi_if_eq (tgt := 16) K d_P_become_12 (by decide) (by omega) (fun hc => ?_) (fun hc => ?_)
  rotate_left
  · have hnone := hP.isn.1 (by omega)
    subst hnone
    refine z_vret K hr hlk d_P_become_15 ⟨_, rfl, rfl, U, hV0, ?_, fun j _ _ _ _ _ => rfl, f0⟩
    show S0.f.nn o = 1
    rw [f0]; show nu S.f.nn o (S.f.nn q) o = 1; rw [nu_self]; omega
  have nums : ∀ i : Nat, isN (q + i) = true → i < 11 → ∃ n : Nat, NR S0 (q + i) n (U (q + i)) ∧ lt9 (U (q + i)) 30 := fun i hi hl => by
    obtain ⟨n, v⟩ := hV0 (q + i) hi
    exact ⟨n, v, lt9_mono v.nn (by rw [← hR_q i hl]; exact v.2.1)⟩
  obtain ⟨m1, v1, b1⟩ := nums 1 hN_q.1 (by decide)
  obtain ⟨m3, v3, b3⟩ := nums 3 hN_q.2.1 (by decide)
  obtain ⟨m5, v5, b5⟩ := nums 5 hN_q.2.2.1 (by decide)
  obtain ⟨m7, v7, b7⟩ := nums 7 hN_q.2.2.2.1 (by decide)
  obtain ⟨m9, v9, b9⟩ := nums 9 hN_q.2.2.2.2 (by decide)
  refine z_aload_n K d_P_become_16 rfl ?_
  refine zx_gP K (by first | assumption | rfl) fd_P_14 rfl d_P_become_17 ?_
  refine z_aload_n K d_P_become_20 rfl ?_
  refine zx_gP K (by first | assumption | rfl) fd_P_14 rfl d_P_become_21 ?_
  refine z_callV (ci := 1) (As := [.ref (a + (q + 1))]) K (c_N_become_N l G b0 h a S0 (k := o + 1) (j := q + 1) hN_o.1 hN_q.1 v1 (by rw [hR_o 1 (by decide)]; exact b1)) ca_P_36 im_N_become_N se_N_become_N rfl (by decide) (hx_N hN_o.1) rfl rfl (by decide) (Nat.le_of_ble_eq_true rfl) d_P_become_24 (fun r h1 hp => ?_)
  obtain ⟨S1, rfl, rfl, k1, w1⟩ := hp
  have v3 := k1.nr v3 (show q + 3 ≠ o + 1 by omega)
  have v5 := k1.nr v5 (show q + 5 ≠ o + 1 by omega)
  have v7 := k1.nr v7 (show q + 7 ≠ o + 1 by omega)
  have v9 := k1.nr v9 (show q + 9 ≠ o + 1 by omega)
  refine z_aload_n K d_P_become_27 rfl ?_
  refine zx_gP K (by first | assumption | rfl) fd_P_20 rfl d_P_become_28 ?_
  refine z_aload_n K d_P_become_31 rfl ?_
  refine zx_gP K (by first | assumption | rfl) fd_P_20 rfl d_P_become_32 ?_
  refine z_callV (ci := 1) (As := [.ref (a + (q + 3))]) K (c_N_become_N l G b0 h a S1 (k := o + 3) (j := q + 3) hN_o.2.1 hN_q.2.1 v3 (by rw [hR_o 3 (by decide)]; exact b3)) ca_P_36 im_N_become_N se_N_become_N rfl (by decide) (hx_N hN_o.2.1) rfl rfl (by decide) (Nat.le_of_ble_eq_true rfl) d_P_become_35 (fun r h1 hp => ?_)
  obtain ⟨S2, rfl, rfl, k3, w3⟩ := hp
  have v5 := k3.nr v5 (show q + 5 ≠ o + 3 by omega)
  have v7 := k3.nr v7 (show q + 7 ≠ o + 3 by omega)
  have v9 := k3.nr v9 (show q + 9 ≠ o + 3 by omega)
  refine z_aload_n K d_P_become_38 rfl ?_
  refine zx_gP K (by first | assumption | rfl) fd_P_23 rfl d_P_become_39 ?_
  refine z_aload_n K d_P_become_42 rfl ?_
  refine zx_gP K (by first | assumption | rfl) fd_P_23 rfl d_P_become_43 ?_
  refine z_callV (ci := 1) (As := [.ref (a + (q + 5))]) K (c_N_become_N l G b0 h a S2 (k := o + 5) (j := q + 5) hN_o.2.2.1 hN_q.2.2.1 v5 (by rw [hR_o 5 (by decide)]; exact b5)) ca_P_36 im_N_become_N se_N_become_N rfl (by decide) (hx_N hN_o.2.2.1) rfl rfl (by decide) (Nat.le_of_ble_eq_true rfl) d_P_become_46 (fun r h1 hp => ?_)
  obtain ⟨S3, rfl, rfl, k5, w5⟩ := hp
  have v7 := k5.nr v7 (show q + 7 ≠ o + 5 by omega)
  have v9 := k5.nr v9 (show q + 9 ≠ o + 5 by omega)
  refine z_aload_n K d_P_become_49 rfl ?_
  refine zx_gP K (by first | assumption | rfl) fd_P_26 rfl d_P_become_50 ?_
  refine z_aload_n K d_P_become_53 rfl ?_
  refine zx_gP K (by first | assumption | rfl) fd_P_26 rfl d_P_become_54 ?_
  refine z_callV (ci := 1) (As := [.ref (a + (q + 7))]) K (c_N_become_N l G b0 h a S3 (k := o + 7) (j := q + 7) hN_o.2.2.2.1 hN_q.2.2.2.1 v7 (by rw [hR_o 7 (by decide)]; exact b7)) ca_P_36 im_N_become_N se_N_become_N rfl (by decide) (hx_N hN_o.2.2.2.1) rfl rfl (by decide) (Nat.le_of_ble_eq_true rfl) d_P_become_57 (fun r h1 hp => ?_)
  obtain ⟨S4, rfl, rfl, k7, w7⟩ := hp
  have v9 := k7.nr v9 (show q + 9 ≠ o + 7 by omega)
  refine z_aload_n K d_P_become_60 rfl ?_
  refine zx_gP K (by first | assumption | rfl) fd_P_29 rfl d_P_become_61 ?_
  refine z_aload_n K d_P_become_64 rfl ?_
  refine zx_gP K (by first | assumption | rfl) fd_P_29 rfl d_P_become_65 ?_
  refine z_callV (ci := 1) (As := [.ref (a + (q + 9))]) K (c_N_become_N l G b0 h a S4 (k := o + 9) (j := q + 9) hN_o.2.2.2.2 hN_q.2.2.2.2 v9 (by rw [hR_o 9 (by decide)]; exact b9)) ca_P_36 im_N_become_N se_N_become_N rfl (by decide) (hx_N hN_o.2.2.2.2) rfl rfl (by decide) (Nat.le_of_ble_eq_true rfl) d_P_become_68 (fun r h1 hp => ?_)
  obtain ⟨S5, rfl, rfl, k9, w9⟩ := hp
  have hV5 := ((((hV0.up k1 w1).up k3 w3).up k5 w5).up k7 w7).up k9 w9
  have f5 : S5.f = S.f.snn (nu S.f.nn o (S.f.nn q)) := k9.2.trans (k7.2.trans (k5.2.trans (k3.2.trans (k1.2.trans f0))))
  match P, hP with
  | none, hP => have : S.f.nn q = 1 := hP; omega
  | some (x, y, z), hP =>
    obtain ⟨hn0, e1, e3, e5, e7, e9⟩ := hP
    refine z_vret K hr hlk d_P_become_71 ⟨_, rfl, rfl, _, hV5, ⟨by rw [f5]; show nu S.f.nn o (S.f.nn q) o = 0; rw [nu_self]; exact hn0, ?_, ?_, ?_, ?_, ?_⟩, fun j j1 j3 j5 j7 j9 => ?_, f5⟩
    · rw [nu_ne _ _ (by omega), nu_ne _ _ (by omega), nu_ne _ _ (by omega), nu_ne _ _ (by omega), nu_self]; exact e1
    · rw [nu_ne _ _ (by omega), nu_ne _ _ (by omega), nu_ne _ _ (by omega), nu_self]; exact e3
    · rw [nu_ne _ _ (by omega), nu_ne _ _ (by omega), nu_self]; exact e5
    · rw [nu_ne _ _ (by omega), nu_self]; exact e7
    · rw [nu_self]; exact e9
    · rw [nu_ne _ _ j9, nu_ne _ _ j7, nu_ne _ _ j5, nu_ne _ _ j3, nu_ne _ _ j1]
set_option maxHeartbeats 4000000 in
set_option maxRecDepth 100000 in
theorem c_P_isLike (l : Launch) (G : zG) (b0 : Nat) (h : zH) (a : Nat) (S : xS) {U : Nat → Int} {o q : Nat} {P Q : ecP} (hV : VX S U) (ho : isP o = true) (hq : isP q = true) (hP : PT S U o P) (hQ : PT S U q Q) : xMet l G b0 y_P_isLike b_P_isLike 2 (some .boolean) 2 43 h a [.ref (a + o), .ref (a + q)] S (fun r S' => S = S' ∧ ∃ b : Int, r = some (.int (jI b)) ∧ (b = 0 ∨ b = 1) ∧ (b = 1 ↔ P = Q)) :=
  z_met (by decide) (Nat.le_of_ble_eq_true rfl) fun p e s m below meth c K hr hlk hnm => by
  have hN_o := (isP_lt ho).2.2.2
  have hN_q := (isP_lt hq).2.2.2
  have n1 := hP.nn
  have n2 := hQ.nn
  have z1 := hP.isn
  have z2 := hQ.isn
  have mixed : (S.f.nn o = 1 ∨ S.f.nn q = 1) → zW p l e (zRm 2 43 0 0) s m ([.ref (a + o), .ref (a + q)] : List Value).toArray below meth c 2 b0 G 0 0 (MQ below (zQ G b0 (fun r h' => ∃ S' : xS, h' = hx G h a S' ∧ (S = S' ∧ ∃ b : Int, r = some (.int (jI b)) ∧ (b = 0 ∨ b = 1) ∧ (b = 1 ↔ P = Q)))) ([.ref (a + o), .ref (a + q)] : List Value).toArray s 0 0 (z_A b0)) (hx G h a S) 14 (lv_args 0 [.ref (a + o), .ref (a + q)]) [] := fun hm => by
    refine z_aload_n K d_P_isLike_14 rfl ?_
    refine zx_gP K ho fd_P_32 rfl d_P_isLike_15 ?_
    refine z_aload_n K d_P_isLike_18 rfl ?_
    refine zx_gP K hq fd_P_32 rfl d_P_isLike_19 ?_
    refine zi_icmp_ne (tgt := 29) K d_P_isLike_22 (by decide) (by show i32 (S.f.nn o); omega) (by show i32 (S.f.nn q); omega) (fun hc => ?_) (fun hc => ?_)
    · refine z_iconst (v := jI 0) K d_P_isLike_29 rfl ?_
      refine z_zret K hr hlk d_P_isLike_30 rfl ⟨_, rfl, rfl, 0, rfl, Or.inl rfl, ⟨fun q => by omega, fun q => ?_⟩⟩
      exfalso
      subst q
      apply hc
      show S.f.nn o = S.f.nn _
      rcases hm with w | w
      · rw [w, z2.2 (z1.1 w)]
      · rw [w, z1.2 (z2.1 w)]
    · have hc' : S.f.nn o = S.f.nn q := hc
      refine z_iconst (v := jI 1) K d_P_isLike_25 rfl ?_
      refine z_goto (tgt := 30) K d_P_isLike_26 (by decide) ?_
      refine z_zret K hr hlk d_P_isLike_30 rfl ⟨_, rfl, rfl, 1, rfl, Or.inr rfl, ⟨fun _ => ?_, fun _ => rfl⟩⟩
      rw [z1.1 (by omega), z2.1 (by omega)]
  refine z_aload_n K d_P_isLike_0 rfl ?_
  refine zx_gP K ho fd_P_32 rfl d_P_isLike_1 ?_
  refine zi_if_ne (tgt := 14) K d_P_isLike_4 (by decide) (by show i32 (S.f.nn o); omega) (fun hc => ?_) (fun hc => ?_)
  · have hc' : ¬ S.f.nn o = 0 := hc
    exact mixed (Or.inl (by omega))
  have hc' : S.f.nn o = 0 := hc
  refine z_aload_n K d_P_isLike_7 rfl ?_
  refine zx_gP K hq fd_P_32 rfl d_P_isLike_8 ?_
  refine zi_if_eq (tgt := 31) K d_P_isLike_11 (by decide) (by show i32 (S.f.nn q); omega) (fun hc2 => ?_) (fun hc2 => ?_)
  rotate_left
  · have hc2' : ¬ S.f.nn q = 0 := hc2
    exact mixed (Or.inr (by omega))
  have hc2' : S.f.nn q = 0 := hc2
  match P, Q, hP, hQ with
  | none, _, hP, _ => have : S.f.nn o = 1 := hP; omega
  | some _, none, _, hQ => have : S.f.nn q = 1 := hQ; omega
  | some (x, y, z), some (x', y', z'), hP, hQ =>
    obtain ⟨_, e1, e3, e5, _⟩ := hP
    obtain ⟨_, g1, g3, g5, _⟩ := hQ
    obtain ⟨m1, v1⟩ := hV _ hN_o.1
    obtain ⟨m3, v3⟩ := hV _ hN_o.2.1
    obtain ⟨m5, v5⟩ := hV _ hN_o.2.2.1
    obtain ⟨l1, u1⟩ := hV _ hN_q.1
    obtain ⟨l3, u3⟩ := hV _ hN_q.2.1
    obtain ⟨l5, u5⟩ := hV _ hN_q.2.2.1
    rw [e1] at v1
    rw [e3] at v3
    rw [e5] at v5
    rw [g1] at u1
    rw [g3] at u3
    rw [g5] at u5
    refine z_aload_n K d_P_isLike_31 rfl ?_
    refine zx_gP K (by first | assumption | rfl) fd_P_14 rfl d_P_isLike_32 ?_
    refine z_aload_n K d_P_isLike_35 rfl ?_
    refine zx_gP K (by first | assumption | rfl) fd_P_14 rfl d_P_isLike_36 ?_
    refine z_callV (ci := 1) (As := [.ref (a + (q + 1))]) K (c_N_isLike l G b0 h a S hN_o.1 hN_q.1 v1 u1) ca_P_40 im_N_isLike se_N_isLike rfl (by decide) (hx_N hN_o.1) rfl rfl (by decide) (Nat.le_of_ble_eq_true rfl) d_P_isLike_39 (fun r h1 hp => ?_)
    obtain ⟨S1, rfl, rfl, b1, rfl, c1, c2⟩ := hp
    refine zi_if_eq (tgt := 77) K d_P_isLike_42 (by decide) (by omega) (fun hd => ?_) (fun hd => ?_)
    · refine z_iconst (v := jI 0) K d_P_isLike_77 rfl ?_
      exact z_zret K hr hlk d_P_isLike_78 rfl ⟨_, rfl, rfl, 0, rfl, Or.inl rfl, ⟨fun w => by omega, fun w => by simp only [Option.some.injEq, Prod.mk.injEq] at w; have := c2.2 w.1; omega⟩⟩
    refine z_aload_n K d_P_isLike_45 rfl ?_
    refine zx_gP K (by first | assumption | rfl) fd_P_20 rfl d_P_isLike_46 ?_
    refine z_aload_n K d_P_isLike_49 rfl ?_
    refine zx_gP K (by first | assumption | rfl) fd_P_20 rfl d_P_isLike_50 ?_
    refine z_callV (ci := 1) (As := [.ref (a + (q + 3))]) K (c_N_isLike l G b0 h a S hN_o.2.1 hN_q.2.1 v3 u3) ca_P_40 im_N_isLike se_N_isLike rfl (by decide) (hx_N hN_o.2.1) rfl rfl (by decide) (Nat.le_of_ble_eq_true rfl) d_P_isLike_53 (fun r h1 hp => ?_)
    obtain ⟨S1, rfl, rfl, b3, rfl, c3, c4⟩ := hp
    refine zi_if_eq (tgt := 77) K d_P_isLike_56 (by decide) (by omega) (fun hd2 => ?_) (fun hd2 => ?_)
    · refine z_iconst (v := jI 0) K d_P_isLike_77 rfl ?_
      exact z_zret K hr hlk d_P_isLike_78 rfl ⟨_, rfl, rfl, 0, rfl, Or.inl rfl, ⟨fun w => by omega, fun w => by simp only [Option.some.injEq, Prod.mk.injEq] at w; have := c4.2 w.2.1; omega⟩⟩
    refine z_aload_n K d_P_isLike_59 rfl ?_
    refine zx_gP K (by first | assumption | rfl) fd_P_23 rfl d_P_isLike_60 ?_
    refine z_aload_n K d_P_isLike_63 rfl ?_
    refine zx_gP K (by first | assumption | rfl) fd_P_23 rfl d_P_isLike_64 ?_
    refine z_callV (ci := 1) (As := [.ref (a + (q + 5))]) K (c_N_isLike l G b0 h a S hN_o.2.2.1 hN_q.2.2.1 v5 u5) ca_P_40 im_N_isLike se_N_isLike rfl (by decide) (hx_N hN_o.2.2.1) rfl rfl (by decide) (Nat.le_of_ble_eq_true rfl) d_P_isLike_67 (fun r h1 hp => ?_)
    obtain ⟨S1, rfl, rfl, b5, rfl, c5, c6⟩ := hp
    refine zi_if_eq (tgt := 77) K d_P_isLike_70 (by decide) (by omega) (fun hd3 => ?_) (fun hd3 => ?_)
    · refine z_iconst (v := jI 0) K d_P_isLike_77 rfl ?_
      exact z_zret K hr hlk d_P_isLike_78 rfl ⟨_, rfl, rfl, 0, rfl, Or.inl rfl, ⟨fun w => by omega, fun w => by simp only [Option.some.injEq, Prod.mk.injEq] at w; have := c6.2 w.2.2; omega⟩⟩
    · refine z_iconst (v := jI 1) K d_P_isLike_73 rfl ?_
      refine z_goto (tgt := 78) K d_P_isLike_74 (by decide) ?_
      exact z_zret K hr hlk d_P_isLike_78 rfl ⟨_, rfl, rfl, 1, rfl, Or.inr rfl, ⟨fun _ => by rw [c2.1 (by omega), c4.1 (by omega), c6.1 (by omega)], fun _ => rfl⟩⟩
end P1
