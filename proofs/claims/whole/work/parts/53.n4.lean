section N4
variable {p : Program} {l : Launch} {e : Env} {R : Room} {s : State} {m : MethodId} {args : Array Value} {below : List Frame} {meth : Method} {c : Code} {Q : State → Prop} {b0 kc ks : Nat} {G : zG} {h : zH} {a : Nat} {cd : Int}
set_option maxHeartbeats 4000000 in
set_option maxRecDepth 100000 in
theorem lp_N_limbDigits (K : zC p s m args c b_N_limbDigits R_N 2 b0 G) {S : xS} {t : Nat} {x : Int} (hZ : zPw t b0 s) (hx0 : 0 ≤ x ∧ x < 1000000000) (kx : ∀ d : Nat, 1 ≤ d → d ≤ 9 → x < ((10 ^ d : Nat) : Int) → (d = 1 ∨ ((10 ^ (d - 1) : Nat) : Int) ≤ x) → zW p l e R s m args below meth c 2 b0 G kc ks Q (hx G h a S) 23 [(1, .int (jI d))] []) :
    ∀ r d : Nat, d + r = 9 → 1 ≤ d → (d = 1 ∨ ((10 ^ (d - 1) : Nat) : Int) ≤ x) → zW p l e R s m args below meth c 2 b0 G kc ks Q (hx G h a S) 2 [(0, .int (jI x)), (1, .int (jI d))] [] := by
  intro r
  induction r with
  | zero =>
    intro d hd h1 hl
    have h9 : d = 9 := by omega
    subst h9
    refine z_iload_n K d_N_limbDigits_2 rfl ?_
    refine z_bipush (v := jI 9) K d_N_limbDigits_3 rfl ?_
    refine zi_icmp_ge (tgt := 23) K d_N_limbDigits_5 (by decide) (by omega) (by omega) (fun hc => ?_) (fun hc => absurd hc (by omega))
    exact z_re [1] rfl (kx 9 (by omega) (by omega) (by omega) hl)
  | succ r ih =>
    intro d hd h1 hl
    refine z_iload_n K d_N_limbDigits_2 rfl ?_
    refine z_bipush (v := jI 9) K d_N_limbDigits_3 rfl ?_
    refine zi_icmp_ge (tgt := 23) K d_N_limbDigits_5 (by decide) (by omega) (by omega) (fun hc => absurd hc (by omega)) (fun hc => ?_)
    refine z_iload_n K d_N_limbDigits_8 rfl ?_
    refine z_gets K hZ gs_N d_N_limbDigits_9 ?_
    refine z_iload_n K d_N_limbDigits_12 rfl ?_
    refine z_tald K hZ (by omega) d_N_limbDigits_13 ?_
    rw [Int.toNat_natCast]
    have hp : 10 ^ d ≤ 10 ^ 9 := ten_mono (by omega)
    obtain ⟨P, hP⟩ : ∃ P : Nat, 10 ^ d = P := ⟨_, rfl⟩
    rw [hP] at hp ⊢
    refine zi_icmp_lt (tgt := 23) K d_N_limbDigits_14 (by decide) (by omega) (by omega) (fun hc => ?_) (fun hc => ?_)
    · exact z_re [1] rfl (kx d h1 (by omega) (by rw [hP]; exact hc) hl)
    · refine zi_iinc K d_N_limbDigits_17 rfl (by decide) ?_
      refine z_goto (tgt := 2) K d_N_limbDigits_20 (by decide) ?_
      refine z_re [0, 1] rfl ?_
      refine ih (d + 1) (by omega) (by omega) (Or.inr ?_)
      rw [Nat.add_sub_cancel, hP]; exact hc
set_option maxHeartbeats 4000000 in
set_option maxRecDepth 100000 in
theorem c_N_limbDigits (l : Launch) (G : zG) (b0 : Nat) (h : zH) (a : Nat) (S : xS) {x : Int} (hx0 : 0 ≤ x ∧ x < 1000000000) : xMet l G b0 y_N_limbDigits b_N_limbDigits 2 (some .int) 0 0 h a [.int (jI x)] S (fun o S' => S = S' ∧ ∃ d : Nat, o = some (.int (jI d)) ∧ 1 ≤ d ∧ d ≤ 9 ∧ x < ((10 ^ d : Nat) : Int) ∧ (d = 1 ∨ ((10 ^ (d - 1) : Nat) : Int) ≤ x)) :=
  z_met (by decide) (Nat.le_of_ble_eq_true rfl) fun p e s m below meth c K hr hlk hnm => by
  obtain ⟨t, hZ⟩ := K.pw
  refine z_iconst (v := jI 1) K d_N_limbDigits_0 rfl ?_
  refine z_istore_n K d_N_limbDigits_1 (by decide) ?_
  refine z_re [0, 1] rfl ?_
  refine lp_N_limbDigits K hZ hx0 (fun d h1 h2 h3 h4 => ?_) 8 1 (by omega) (by omega) (Or.inl rfl)
  refine z_iload_n K d_N_limbDigits_23 rfl ?_
  exact z_iret K hr hlk d_N_limbDigits_24 ⟨_, rfl, rfl, d, rfl, h1, h2, h3, h4⟩
set_option maxHeartbeats 4000000 in
set_option maxRecDepth 100000 in
theorem c_N_digitCount (l : Launch) (G : zG) (b0 : Nat) (h : zH) (a : Nat) (S : xS) {k n : Nat} {v : Int} (hk : isN k = true) (hv : NR S k n v) : xMet l G b0 y_N_digitCount b_N_digitCount 1 (some .int) 1 21 h a [.ref (a + k)] S (fun o S' => S = S' ∧ ∃ d : Nat, o = some (.int (jI d)) ∧ IsDg v d ∧ d ≤ 1008) :=
  z_met (by decide) (Nat.le_of_ble_eq_true rfl) fun p e s m below meth c K hr hlk hnm => by
  have hL := hv.1
  have hn := hv.i31
  have hn2 := hv.2.1
  have hz := hv.zero
  refine z_aload_n K d_N_digitCount_0 rfl ?_
  refine zx_gN K (by first | assumption | rfl) fd_N_21 rfl d_N_digitCount_1 ?_
  rw [hL]
  refine zi_if_ne (tgt := 9) K d_N_digitCount_4 (by decide) (by omega) (fun hc => ?_) (fun hc => ?_)
  · obtain ⟨j, rfl⟩ : ∃ j, n = j + 1 := ⟨n - 1, by omega⟩
    have hg := hv.limb (i := j) (by omega) (by omega)
    have ht := hv.2.2.2.1 j rfl
    refine z_aload_n K d_N_digitCount_9 rfl ?_
    refine zx_gN K (by first | assumption | rfl) fd_N_21 rfl d_N_digitCount_10 ?_
    rw [hL]
    refine z_iconst (v := jI 1) K d_N_digitCount_13 rfl ?_
    refine zi_isub K d_N_digitCount_14 ?_
    refine z_bipush (v := jI 9) K d_N_digitCount_15 rfl ?_
    refine zi_imul K d_N_digitCount_17 ?_
    refine z_aload_n K d_N_digitCount_18 rfl ?_
    refine zx_gN K (by first | assumption | rfl) fd_N_15 rfl d_N_digitCount_19 ?_
    refine z_aload_n K d_N_digitCount_22 rfl ?_
    refine zx_gN K (by first | assumption | rfl) fd_N_21 rfl d_N_digitCount_23 ?_
    rw [hL]
    refine z_iconst (v := jI 1) K d_N_digitCount_26 rfl ?_
    refine zi_isub K d_N_digitCount_27 ?_
    refine zx_cld K hk (by omega) d_N_digitCount_28 ?_
    rw [show ((j + 1 : Nat) : Int) - 1 = j by omega]
    refine z_callS (As := [.int (jI (S.C k j))]) K (c_N_limbDigits l G b0 h a S hg) ca_N_48 sm_N_limbDigits rfl rfl (by decide) (Nat.le_of_ble_eq_true rfl) d_N_digitCount_29 (fun o h1 hp => ?_)
    obtain ⟨S1, rfl, rfl, d, rfl, d1, d2, d3, d4⟩ := hp
    refine zi_iadd K d_N_digitCount_32 ?_
    rw [show (j : Int) * 9 + (d : Int) = ((9 * j + d : Nat) : Int) by omega]
    refine z_iret K hr hlk d_N_digitCount_33 ⟨_, rfl, rfl, 9 * j + d, rfl, ?_, by omega⟩
    have hb := dv_bd (f := S.C k) (b := 0) (n := j) (fun i hi => hv.2.2.1 i (by omega))
    have h10 : ((10 ^ (d - 1) : Nat) : Int) ≤ S.C k j := by
      rcases d4 with rfl | d4
      · show (1 : Int) ≤ _; omega
      · exact d4
    have hh := ten_top hb.1 hb.2 d1 h10 d3
    have e : (v.natAbs : Int) = dv (S.C k) 0 j + S.C k j * BS ^ j := by
      have := hv.2.2.2.2.2
      rw [this]
      show dv (S.C k) 0 j + S.C k (0 + j) * BS ^ j = _
      rw [Int.zero_add]
    rw [← e] at hh
    exact ⟨by omega, by omega, Or.inr (by omega)⟩
  · refine z_iconst (v := jI 1) K d_N_digitCount_7 rfl ?_
    refine z_iret K hr hlk d_N_digitCount_8 ⟨_, rfl, rfl, 1, rfl, ?_, by decide⟩
    have h0 := hz.1 (by omega)
    subst h0
    exact ⟨by decide, by decide, Or.inl rfl⟩
set_option maxHeartbeats 4000000 in
set_option maxRecDepth 100000 in
theorem c_N_digitAbove (l : Launch) (G : zG) (b0 : Nat) (h : zH) (a : Nat) (S : xS) {k n fr : Nat} {v : Int} (hk : isN k = true) (hv : NR S k n v) (hf : fr / 9 < n) : xMet l G b0 y_N_digitAbove b_N_digitAbove 2 (some .int) 1 21 h a [.ref (a + k), .int (jI fr)] S (fun o S' => S = S' ∧ o = some (.int (jI ((v.natAbs / 10 ^ fr % 10 : Nat) : Int)))) :=
  z_met (by decide) (Nat.le_of_ble_eq_true rfl) fun p e s m below meth c K hr hlk hnm => by
  obtain ⟨t, hZ⟩ := K.pw
  have hn := hv.i31
  have hfr : fr < 1008 := by omega
  obtain ⟨top, t1, t2, t3⟩ := hv.rg.dig hf
  have t1' : S.C k ((fr / 9 : Nat) : Int) = top := by
    have e : S.C k (460 * 0 + ((fr / 9 : Nat) : Int)) = top := t1
    rwa [show (460 * 0 + ((fr / 9 : Nat) : Int)) = ((fr / 9 : Nat) : Int) by omega] at e
  refine z_iload_n K d_N_digitAbove_0 rfl ?_
  refine zi_if_ge (tgt := 6) K d_N_digitAbove_1 (by decide) (by omega) (fun hc => ?_) (fun hc => absurd hc (by omega))
  refine z_aload_n K d_N_digitAbove_6 rfl ?_
  refine z_iload_n K d_N_digitAbove_7 rfl ?_
  refine z_bipush (v := jI 9) K d_N_digitAbove_8 rfl ?_
  refine zi_idiv K d_N_digitAbove_10 (by omega) (by decide) (by decide) ?_
  rw [show ((fr : Int)).tdiv 9 = ((fr / 9 : Nat) : Int) by rw [Int.tdiv_eq_ediv_of_nonneg (by omega)]; omega]
  refine z_callV (ci := 1) (As := [.int (jI ((fr / 9 : Nat) : Int))]) K (c_N_limb l G b0 h a S hk hv.1 hv.2.1 (by omega)) ca_N_44 im_N_limb se_N_limb rfl (by decide) (hx_N hk) rfl rfl (by decide) (Nat.le_of_ble_eq_true rfl) d_N_digitAbove_11 (fun o h1 hp => ?_)
  obtain ⟨S1, rfl, rfl, rfl⟩ := hp
  rw [lb, if_pos (by omega), t1']
  refine z_gets K hZ gs_N d_N_digitAbove_14 ?_
  refine z_iload_n K d_N_digitAbove_17 rfl ?_
  refine z_bipush (v := jI 9) K d_N_digitAbove_18 rfl ?_
  refine zi_irem K d_N_digitAbove_20 (by omega) (by decide) (by decide) ?_
  rw [show ((fr : Int)).tmod 9 = ((fr % 9 : Nat) : Int) by rw [Int.tmod_eq_emod_of_nonneg (by omega)]; omega]
  refine z_tald K hZ (by omega) d_N_digitAbove_21 ?_
  rw [Int.toNat_natCast]
  have hp : 10 ^ (fr % 9) ≤ 10 ^ 8 := ten_mono (by omega)
  have hp2 : 0 < 10 ^ (fr % 9) := Nat.pow_pos (by decide)
  obtain ⟨P, hP⟩ : ∃ P : Nat, 10 ^ (fr % 9) = P := ⟨_, rfl⟩
  rw [hP] at hp hp2 t3 ⊢
  refine zi_idiv K d_N_digitAbove_22 (by omega) (by omega) (by omega) ?_
  rw [show ((top : Int)).tdiv (P : Int) = ((top / P : Nat) : Int) by rw [Int.tdiv_eq_ediv_of_nonneg (by omega), Int.natCast_ediv]]
  have hd : top / P ≤ top := Nat.div_le_self _ _
  generalize top / P = tq at *
  refine z_bipush (v := jI 10) K d_N_digitAbove_23 rfl ?_
  refine zi_irem K d_N_digitAbove_25 (by omega) (by decide) (by decide) ?_
  rw [show (tq : Int).tmod 10 = ((tq % 10 : Nat) : Int) by rw [Int.tmod_eq_emod_of_nonneg (by omega)]; omega, t3]
  exact z_iret K hr hlk d_N_digitAbove_26 ⟨_, rfl, rfl, rfl⟩
set_option maxHeartbeats 4000000 in
set_option maxRecDepth 100000 in
theorem c_N_lowPart (l : Launch) (G : zG) (b0 : Nat) (h : zH) (a : Nat) (S : xS) {k n : Nat} {v : Int} (hk : isN k = true) (hv : NR S k n v) (hn : n ≤ 2) : xMet l G b0 y_N_lowPart b_N_lowPart 1 (some .long) 1 21 h a [.ref (a + k)] S (fun o S' => S = S' ∧ o = some (.long (kI (v.natAbs : Int)))) :=
  z_met (by decide) (Nat.le_of_ble_eq_true rfl) fun p e s m below meth c K hr hlk hnm => by
  have e : (v.natAbs : Int) = lb S k n 1 * 1000000000 + lb S k n 0 ∧ 0 ≤ lb S k n 1 ∧ lb S k n 1 < 1000000000 ∧ 0 ≤ lb S k n 0 ∧ lb S k n 0 < 1000000000 := by
    have hd := hv.2.2.2.2.2
    unfold lb
    match n, hn, hv, hd with
    | 0, _, hv, hd => simp [dv] at hd ⊢; omega
    | 1, _, hv, hd =>
      have g := hv.limb (i := 0) (by omega) (by omega)
      rw [if_neg (by omega), if_pos (by omega)]
      simp [dv] at hd
      omega
    | 2, _, hv, hd =>
      have g := hv.limb (i := 0) (by omega) (by omega)
      have g1 := hv.limb (i := 1) (by omega) (by omega)
      rw [if_pos (by omega), if_pos (by omega)]
      simp [dv] at hd
      rw [show BS ^ 1 = 1000000000 from rfl] at hd
      omega
  refine z_aload_n K d_N_lowPart_0 rfl ?_
  refine z_iconst (v := jI 1) K d_N_lowPart_1 rfl ?_
  refine z_callV (ci := 1) (As := [.int (jI 1)]) K (c_N_limb l G b0 h a S hk hv.1 hv.2.1 (by decide)) ca_N_44 im_N_limb se_N_limb rfl (by decide) (hx_N hk) rfl rfl (by decide) (Nat.le_of_ble_eq_true rfl) d_N_lowPart_2 (fun o h1 hp => ?_)
  obtain ⟨S1, rfl, rfl, rfl⟩ := hp
  refine zi_i2l K d_N_lowPart_5 (by omega) ?_
  refine z_ldc2 (v := kI 1000000000) K d_N_lowPart_6 kc_N_29 ?_
  refine zi_lmul K d_N_lowPart_9 ?_
  refine z_aload_n K d_N_lowPart_10 rfl ?_
  refine z_iconst (v := jI 0) K d_N_lowPart_11 rfl ?_
  refine z_callV (ci := 1) (As := [.int (jI 0)]) K (c_N_limb l G b0 h a S hk hv.1 hv.2.1 (by decide)) ca_N_44 im_N_limb se_N_limb rfl (by decide) (hx_N hk) rfl rfl (by decide) (Nat.le_of_ble_eq_true rfl) d_N_lowPart_12 (fun o h1 hp => ?_)
  obtain ⟨S1, rfl, rfl, rfl⟩ := hp
  refine zi_i2l K d_N_lowPart_15 (by omega) ?_
  refine zi_ladd K d_N_lowPart_16 ?_
  rw [← e.1]
  exact z_lret K hr hlk d_N_lowPart_17 ⟨_, rfl, rfl, rfl⟩
end N4
