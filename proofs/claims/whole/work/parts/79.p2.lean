section P2
variable {p : Program} {l : Launch} {e : Env} {R : Room} {s : State} {m : MethodId} {args : Array Value} {below : List Frame} {meth : Method} {c : Code} {Q : State → Prop} {b0 kc ks : Nat} {G : zG} {h : zH} {a : Nat} {cd : Int}
set_option maxHeartbeats 4000000 in
set_option maxRecDepth 100000 in
theorem c_P_isWiderThan (l : Launch) (G : zG) (b0 : Nat) (h : zH) (a : Nat) (S : xS) {U : Nat → Int} {o n : Nat} {P : ecP} (hV : VX S U) (ho : isP o = true) (hP : PT S U o P) (hn : 1 ≤ n ∧ n ≤ 1000) : xMet l G b0 y_P_isWiderThan b_P_isWiderThan 2 (some .boolean) 2 41 h a [.ref (a + o), .int (jI n)] S (fun r S' => S = S' ∧ ∃ b : Int, r = some (.int (jI b)) ∧ (b = 0 ∨ b = 1) ∧ (b = 1 ↔ wdP n P)) :=
  z_met (by decide) (Nat.le_of_ble_eq_true rfl) fun p e s m below meth c K hr hlk hnm => by
  have hN_o := (isP_lt ho).2.2.2
  have n1 := hP.nn
  refine z_aload_n K d_P_isWiderThan_0 rfl ?_
  refine zx_gP K ho fd_P_32 rfl d_P_isWiderThan_1 ?_
  refine zi_if_ne (tgt := 33) K d_P_isWiderThan_4 (by decide) (by show i32 (S.f.nn o); omega) (fun hc => ?_) (fun hc => ?_)
  · have hc' : ¬ S.f.nn o = 0 := hc
    have := hP.isn.1 (by omega)
    subst this
    refine z_iconst (v := jI 0) K d_P_isWiderThan_33 rfl ?_
    exact z_zret K hr hlk d_P_isWiderThan_34 rfl ⟨_, rfl, rfl, 0, rfl, Or.inl rfl, ⟨fun w => by omega, fun w => absurd w (fun q => q)⟩⟩
  have hc' : S.f.nn o = 0 := hc
  match P, hP with
  | none, hP => have : S.f.nn o = 1 := hP; omega
  | some (x, y, z), hP =>
    obtain ⟨_, e1, e3, e5, e7, e9⟩ := hP
    obtain ⟨m1, v1⟩ := hV _ hN_o.1
    obtain ⟨m7, v7⟩ := hV _ hN_o.2.2.2.1
    rw [e1] at v1
    rw [e7] at v7
    refine z_aload_n K d_P_isWiderThan_7 rfl ?_
    refine zx_gP K (by first | assumption | rfl) fd_P_14 rfl d_P_isWiderThan_8 ?_
    refine z_callV (ci := 1) (As := []) K (c_N_digitCount l G b0 h a S hN_o.1 v1) ca_P_44 im_N_digitCount se_N_digitCount rfl (by decide) (hx_N hN_o.1) rfl rfl (by decide) (Nat.le_of_ble_eq_true rfl) d_P_isWiderThan_11 (fun r h1 hp => ?_)
    obtain ⟨S1, rfl, rfl, d, rfl, d1, d2⟩ := hp
    have w1 := d1.gt hn.1
    refine z_iload_n K d_P_isWiderThan_14 rfl ?_
    refine zi_icmp_gt (tgt := 29) K d_P_isWiderThan_15 (by decide) (by omega) (by omega) (fun hd => ?_) (fun hd => ?_)
    · refine z_iconst (v := jI 1) K d_P_isWiderThan_29 rfl ?_
      refine z_goto (tgt := 34) K d_P_isWiderThan_30 (by decide) ?_
      exact z_zret K hr hlk d_P_isWiderThan_34 rfl ⟨_, rfl, rfl, 1, rfl, Or.inr rfl, ⟨fun _ => Or.inl (w1.1 (by omega)), fun _ => rfl⟩⟩
    refine z_aload_n K d_P_isWiderThan_18 rfl ?_
    refine zx_gP K (by first | assumption | rfl) fd_P_26 rfl d_P_isWiderThan_19 ?_
    refine z_callV (ci := 1) (As := []) K (c_N_digitCount l G b0 h a S hN_o.2.2.2.1 v7) ca_P_44 im_N_digitCount se_N_digitCount rfl (by decide) (hx_N hN_o.2.2.2.1) rfl rfl (by decide) (Nat.le_of_ble_eq_true rfl) d_P_isWiderThan_22 (fun r h1 hp => ?_)
    obtain ⟨S1, rfl, rfl, d', rfl, d3, d4⟩ := hp
    have w2 := d3.gt hn.1
    refine z_iload_n K d_P_isWiderThan_25 rfl ?_
    refine zi_icmp_le (tgt := 33) K d_P_isWiderThan_26 (by decide) (by omega) (by omega) (fun hd2 => ?_) (fun hd2 => ?_)
    · refine z_iconst (v := jI 0) K d_P_isWiderThan_33 rfl ?_
      refine z_zret K hr hlk d_P_isWiderThan_34 rfl ⟨_, rfl, rfl, 0, rfl, Or.inl rfl, ⟨fun w => by omega, fun w => ?_⟩⟩
      rcases w with w | w
      · have := w1.2 w; omega
      · have := w2.2 w; omega
    · refine z_iconst (v := jI 1) K d_P_isWiderThan_29 rfl ?_
      refine z_goto (tgt := 34) K d_P_isWiderThan_30 (by decide) ?_
      exact z_zret K hr hlk d_P_isWiderThan_34 rfl ⟨_, rfl, rfl, 1, rfl, Or.inr rfl, ⟨fun _ => Or.inr (w2.1 (by omega)), fun _ => rfl⟩⟩
set_option maxHeartbeats 4000000 in
set_option maxRecDepth 100000 in
theorem c_P_isLongerThan (l : Launch) (G : zG) (b0 : Nat) (h : zH) (a : Nat) (S : xS) {U : Nat → Int} {o : Nat} {P : ecP} {A : ecE} (hV : VX S U) (ho : isP o = true) (hP : PT S U o P) (onP : ecOn A P) : xMet l G b0 y_P_isLongerThan b_P_isLongerThan 2 (some .boolean) 3 62 h a [.ref (a + o), .int (jI 120)] S (fun r S' => S = S' ∧ ∃ b : Int, r = some (.int (jI b)) ∧ (b = 0 ∨ b = 1) ∧ (b = 1 ↔ tlP P)) :=
  z_met (by decide) (Nat.le_of_ble_eq_true rfl) fun p e s m below meth c K hr hlk hnm => by
  have hN_o := (isP_lt ho).2.2.2
  have n1 := hP.nn
  refine z_aload_n K d_P_isLongerThan_0 rfl ?_
  refine z_iload_n K d_P_isLongerThan_1 rfl ?_
  refine z_callV (ci := 2) (As := [.int (jI 120)]) K (c_P_isWiderThan l G b0 h a S (n := 120) hV ho hP (by decide)) ca_P_48 im_P_isWiderThan se_P_isWiderThan rfl (by decide) (hx_P ho) rfl rfl (by decide) (Nat.le_of_ble_eq_true rfl) d_P_isLongerThan_2 (fun r h1 hp => ?_)
  obtain ⟨S1, rfl, rfl, b1, rfl, c1, c2⟩ := hp
  refine zi_if_ne (tgt := 37) K d_P_isLongerThan_5 (by decide) (by omega) (fun hc => ?_) (fun hc => ?_)
  · refine z_iconst (v := jI 1) K d_P_isLongerThan_37 rfl ?_
    refine z_goto (tgt := 42) K d_P_isLongerThan_38 (by decide) ?_
    exact z_zret K hr hlk d_P_isLongerThan_42 rfl ⟨_, rfl, rfl, 1, rfl, Or.inr rfl, ⟨fun _ => (wd_tl onP (c2.1 (by omega))).1, fun _ => rfl⟩⟩
  have nw : ¬ wdP 120 P := fun w => by have := c2.2 w; omega
  refine z_aload_n K d_P_isLongerThan_8 rfl ?_
  refine zx_gP K ho fd_P_32 rfl d_P_isLongerThan_9 ?_
  refine zi_if_ne (tgt := 41) K d_P_isLongerThan_12 (by decide) (by show i32 (S.f.nn o); omega) (fun hd => ?_) (fun hd => ?_)
  · have hc' : ¬ S.f.nn o = 0 := hd
    have := hP.isn.1 (by omega)
    subst this
    refine z_iconst (v := jI 0) K d_P_isLongerThan_41 rfl ?_
    exact z_zret K hr hlk d_P_isLongerThan_42 rfl ⟨_, rfl, rfl, 0, rfl, Or.inl rfl, ⟨fun w => by omega, fun w => absurd w (fun q => q)⟩⟩
  have hc' : S.f.nn o = 0 := hd
  match P, hP, nw with
  | none, hP, _ => have : S.f.nn o = 1 := hP; omega
  | some (x, y, z), hP, nw =>
    obtain ⟨_, e1, e3, e5, e7, e9⟩ := hP
    obtain ⟨m3, v3⟩ := hV _ hN_o.2.1
    obtain ⟨m9, v9⟩ := hV _ hN_o.2.2.2.2
    rw [e3] at v3
    rw [e9] at v9
    have nx : ¬ 10 ^ 120 ≤ x.natAbs := fun w => nw (Or.inl w)
    refine z_aload_n K d_P_isLongerThan_15 rfl ?_
    refine zx_gP K (by first | assumption | rfl) fd_P_20 rfl d_P_isLongerThan_16 ?_
    refine z_callV (ci := 1) (As := []) K (c_N_digitCount l G b0 h a S hN_o.2.1 v3) ca_P_44 im_N_digitCount se_N_digitCount rfl (by decide) (hx_N hN_o.2.1) rfl rfl (by decide) (Nat.le_of_ble_eq_true rfl) d_P_isLongerThan_19 (fun r h1 hp => ?_)
    obtain ⟨S1, rfl, rfl, d, rfl, d1, d2⟩ := hp
    have w1 := d1.gt (k := 120) (by decide)
    refine z_iload_n K d_P_isLongerThan_22 rfl ?_
    refine zi_icmp_gt (tgt := 37) K d_P_isLongerThan_23 (by decide) (by omega) (by omega) (fun hd => ?_) (fun hd => ?_)
    · refine z_iconst (v := jI 1) K d_P_isLongerThan_37 rfl ?_
      refine z_goto (tgt := 42) K d_P_isLongerThan_38 (by decide) ?_
      exact z_zret K hr hlk d_P_isLongerThan_42 rfl ⟨_, rfl, rfl, 1, rfl, Or.inr rfl, ⟨fun _ => Or.inr (Or.inl (w1.1 (by omega))), fun _ => rfl⟩⟩
    refine z_aload_n K d_P_isLongerThan_26 rfl ?_
    refine zx_gP K (by first | assumption | rfl) fd_P_29 rfl d_P_isLongerThan_27 ?_
    refine z_callV (ci := 1) (As := []) K (c_N_digitCount l G b0 h a S hN_o.2.2.2.2 v9) ca_P_44 im_N_digitCount se_N_digitCount rfl (by decide) (hx_N hN_o.2.2.2.2) rfl rfl (by decide) (Nat.le_of_ble_eq_true rfl) d_P_isLongerThan_30 (fun r h1 hp => ?_)
    obtain ⟨S1, rfl, rfl, d', rfl, d3, d4⟩ := hp
    have w2 := d3.gt (k := 120) (by decide)
    refine z_iload_n K d_P_isLongerThan_33 rfl ?_
    refine zi_icmp_le (tgt := 41) K d_P_isLongerThan_34 (by decide) (by omega) (by omega) (fun hd2 => ?_) (fun hd2 => ?_)
    · refine z_iconst (v := jI 0) K d_P_isLongerThan_41 rfl ?_
      refine z_zret K hr hlk d_P_isLongerThan_42 rfl ⟨_, rfl, rfl, 0, rfl, Or.inl rfl, ⟨fun w => by omega, fun w => ?_⟩⟩
      rcases w with w | w | w
      · exact absurd w nx
      · have := w1.2 w; omega
      · have := w2.2 w; omega
    · refine z_iconst (v := jI 1) K d_P_isLongerThan_37 rfl ?_
      refine z_goto (tgt := 42) K d_P_isLongerThan_38 (by decide) ?_
      exact z_zret K hr hlk d_P_isLongerThan_42 rfl ⟨_, rfl, rfl, 1, rfl, Or.inr rfl, ⟨fun _ => Or.inr (Or.inr (w2.1 (by omega))), fun _ => rfl⟩⟩
end P2
