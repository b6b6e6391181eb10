theorem NR.abs {S : xS} {k n : Nat} {v : Int} (h : NR S k n v) : NR (S.sB (nu S.B k 0)) k n (v.natAbs : Int) :=
  ⟨h.1, h.2.1, h.2.2.1, h.2.2.2.1, by show nu S.B k 0 k = _; rw [nu_self, if_neg (by omega)], by rw [Int.natAbs_natCast]; exact h.2.2.2.2.2⟩
theorem xK_B {S : xS} {k : Nat} {v : Int} : xK k S (S.sB (nu S.B k v)) := ⟨fun j hj => ⟨rfl, rfl, nu_ne _ _ hj⟩, rfl⟩
/-- only the divisors' own numbers and one more changed -/
def dfo (o : Nat) (S S' : xS) (U U' : Nat → Int) : Prop := (∀ j : Nat, j ≠ o → j ≠ 8 → j ≠ 12 → j ≠ 14 → j ≠ 16 → U' j = U j) ∧ S'.f.nn = S.f.nn ∧ S'.f.lost = S.f.lost
theorem DS.len {S : xS} {U : Nat → Int} {H L : Int} (h : DS S U H L) : ∃ n1 n2 : Nat, NR S S.f.hi n1 H ∧ NR S S.f.lo n2 L ∧ lt9 H 112 ∧ lt9 L 112 := by
  obtain ⟨hV, ⟨p1, p2, _⟩, e1, e2, _⟩ := h
  obtain ⟨n1, v1⟩ := hV _ p1.n
  obtain ⟨n2, v2⟩ := hV _ p2.n
  rw [e1] at v1
  rw [e2] at v2
  exact ⟨n1, n2, v1, v2, lt9_mono v1.nn v1.i31, lt9_mono v2.nn v2.i31⟩
theorem euc_gcd {H L : Int} (hL : 0 < L) : Int.gcd L (H % L) = Int.gcd H L := by
  have := (euc_step (h := H) (l := L) (k := H / L) hL (Int.ediv_mul_le H (by omega)) (by have := Int.lt_mul_ediv_self_add (x := H) hL; rw [Int.add_mul, Int.one_mul, Int.mul_comm]; exact this))
  rw [← this.2, ← this.1]
theorem euc_halfI {x y : Int} (hy : 0 < y) (hxy : y ≤ x) : 2 * (y * (x % y)) ≤ x * y := by
  have e := euc_half (a := x.toNat) (b := y.toNat) (by omega) (by omega)
  have e3 := Int.ofNat_le.2 e
  simp only [Int.natCast_mul, Int.natCast_emod] at e3
  rw [show ((x.toNat : Nat) : Int) = x by omega, show ((y.toNat : Nat) : Int) = y by omega] at e3
  exact e3
section D5
variable {p : Program} {l : Launch} {e : Env} {R : Room} {s : State} {m : MethodId} {args : Array Value} {below : List Frame} {meth : Method} {c : Code} {Q : State → Prop} {b0 kc ks : Nat} {G : zG} {h : zH} {a : Nat} {cd : Int}
set_option maxHeartbeats 4000000 in
set_option maxRecDepth 100000 in
theorem lp_D_common (K : zC p s m args c b_D_common R_D 5 b0 G) (hRm : 4 ≤ R.frames ∧ 121 ≤ R.locals) (hkc : kc ≤ R.cells) (hks : ks ≤ R.slots) {S0 : xS} {U0 : Nat → Int} {o : Nat} {g : Nat} (kx : ∀ (S : xS) (U : Nat → Int) (H L : Int), DS S U H L → L ≤ H → L < BS ^ 2 → Int.gcd H L = g → dfr S0 S U0 U → zW p l e R s m args below meth c 5 b0 G kc ks Q (hx G h a S) 95 [(0, .ref (a + 7)), (3, .ref (a + o))] []) :
    ∀ (N i : Nat) (S : xS) (U : Nat → Int) (H L : Int), i + N ≤ 99999 → DS S U H L → L ≤ H → H * L < 2 ^ N → Int.gcd H L = g → dfr S0 S U0 U → zW p l e R s m args below meth c 5 b0 G kc ks Q (hx G h a S) 53 [(0, .ref (a + 7)), (3, .ref (a + o)), (4, .int (jI i))] [] := by
  intro N
  induction N with
  | zero =>
    intro i S U H L hi hD hLH hp hg hf
    obtain ⟨n1, n2, v1, v2, b1, b2⟩ := hD.len
    have hD' := hD
    obtain ⟨hV, _, _, _, h0, l0⟩ := hD'
    have hL : L = 0 := by
      rcases Int.lt_or_le 0 L with q | q
      · have := Int.mul_le_mul (show 1 ≤ H by omega) (show 1 ≤ L by omega) (by decide) h0
        omega
      · omega
    have hn : n2 = 0 := v2.zero.2 hL
    refine z_iload K d_D_common_53 rfl ?_
    refine z_ldc (v := jI 100000) K d_D_common_55 kc_D_56 ?_
    refine zi_icmp_ge (tgt := 95) K d_D_common_57 (by decide) (by omega) (by decide) (fun hc => absurd hc (by omega)) (fun hc => ?_)
    refine z_aload_n K d_D_common_60 rfl ?_
    refine zx_gD K fd_D_26 rfl d_D_common_61 ?_
    refine zx_gN K hD.2.1.2.1.n fd_D_57 rfl d_D_common_64 ?_
    rw [v2.1]
    refine z_iconst (v := jI 2) K d_D_common_67 rfl ?_
    refine zi_icmp_le (tgt := 95) K d_D_common_68 (by decide) (by omega) (by decide) (fun hc => ?_) (fun hc => absurd hc (by omega))
    exact z_re [0, 3] rfl (kx S U H L hD hLH (by have := BS_pos 2; omega) hg hf)
  | succ N ih =>
    intro i S U H L hi hD hLH hp hg hf
    obtain ⟨n1, n2, v1, v2, b1, b2⟩ := hD.len
    have hD' := hD
    obtain ⟨hV, _, _, _, h0, l0⟩ := hD'
    have n2b := v2.i31
    refine z_iload K d_D_common_53 rfl ?_
    refine z_ldc (v := jI 100000) K d_D_common_55 kc_D_56 ?_
    refine zi_icmp_ge (tgt := 95) K d_D_common_57 (by decide) (by omega) (by decide) (fun hc => absurd hc (by omega)) (fun hc => ?_)
    refine z_aload_n K d_D_common_60 rfl ?_
    refine zx_gD K fd_D_26 rfl d_D_common_61 ?_
    refine zx_gN K hD.2.1.2.1.n fd_D_57 rfl d_D_common_64 ?_
    rw [v2.1]
    refine z_iconst (v := jI 2) K d_D_common_67 rfl ?_
    refine zi_icmp_le (tgt := 95) K d_D_common_68 (by decide) (by omega) (by decide) (fun hc => ?_) (fun hc => ?_)
    · refine z_re [0, 3] rfl (kx S U H L hD hLH ?_ hg hf)
      have := v2.nn
      have := BS_mono (show n2 ≤ 2 by omega)
      omega
    · have hL2 : BS ^ 2 ≤ L := by
        obtain ⟨t, rfl⟩ : ∃ t, n2 = t + 1 := ⟨n2 - 1, by omega⟩
        have := v2.ge
        have := BS_mono (show 2 ≤ t by omega)
        omega
      have hL0 : 0 < L := by have := BS_pos 2; omega
      have hp' : 2 ^ (N + 1) = 2 ^ N * (2 : Int) := Int.pow_succ ..
      refine z_aload_n K d_D_common_71 rfl ?_
      refine z_callV (ci := 5) (As := []) K (c_D_follow l G b0 h a S hD hLH hL2) ca_D_61 im_D_followLeadingDigits se_D_followLeadingDigits rfl (by decide) (hx_D) rfl rfl (rm_ok ⟨hRm.1, hRm.2, hkc, hks⟩ (by decide) (by decide)) (Nat.le_of_ble_eq_true rfl) d_D_common_72 (fun r h1 hp => ?_)
      obtain ⟨S1, rfl, A, B, C, E, b, rfl, rfl, c1, c2, c3, c4, c5, c6, c7⟩ := hp
      have hD1 : DS (stM S A B C E) U H L := hD
      refine zi_if_eq (tgt := 85) K d_D_common_75 (by decide) (by omega) (fun hq => ?_) (fun hq => ?_)
      · refine z_aload_n K d_D_common_85 rfl ?_
        refine z_callV (ci := 5) (As := []) K (c_D_shorten l G b0 h a (stM S A B C E) hD1 (by omega)) ca_D_53 im_D_shorten se_D_shorten rfl (by decide) (hx_D) rfl rfl (rm_ok ⟨hRm.1, hRm.2, hkc, hks⟩ (by decide) (by decide)) (Nat.le_of_ble_eq_true rfl) d_D_common_86 (fun r h1 hp => ?_)
        obtain ⟨S2, rfl, rfl, U2, hD2, hf2⟩ := hp
        refine zi_iinc K d_D_common_89 rfl (by decide) ?_
        refine z_goto (tgt := 53) K d_D_common_92 (by decide) ?_
        refine z_re [0, 3, 4] rfl ?_
        have m1 := Int.emod_lt_of_pos H hL0
        refine ih (i + 1) S2 U2 L (H % L) (by omega) hD2 (by omega) ?_ (by rw [euc_gcd hL0]; exact hg) (hf.tr hf2)
        have := euc_halfI hL0 hLH
        omega
      · have hB : B ≠ 0 := c2.1 (by omega)
        refine z_aload_n K d_D_common_78 rfl ?_
        refine z_callV (ci := 5) (As := []) K (c_D_mix l G b0 h a (stM S A B C E) (A := A) (B := B) (C := C) (E := E) hD1 ⟨rfl, rfl, rfl, rfl⟩ hLH c3 c4 c5 c6 c7) ca_D_65 im_D_mix se_D_mix rfl (by decide) (hx_D) rfl rfl (rm_ok ⟨hRm.1, hRm.2, hkc, hks⟩ (by decide) (by decide)) (Nat.le_of_ble_eq_true rfl) d_D_common_79 (fun r h1 hp => ?_)
        obtain ⟨S2, rfl, rfl, U2, hD2, hf2⟩ := hp
        refine z_goto (tgt := 89) K d_D_common_82 (by decide) ?_
        refine zi_iinc K d_D_common_89 rfl (by decide) ?_
        refine z_goto (tgt := 53) K d_D_common_92 (by decide) ?_
        refine z_re [0, 3, 4] rfl ?_
        obtain ⟨z1, z2, z3, z4, z5, z6, z7⟩ := c3
        refine ih (i + 1) S2 U2 _ _ (by omega) hD2 z2 ?_ (by rw [z5]; exact hg) (hf.tr hf2)
        rcases z7 with q | q
        · exact absurd q hB
        · omega
theorem BS_2 (n : Nat) : BS ^ n ≤ (2 : Int) ^ (30 * n) := by
  rw [Int.pow_mul]
  induction n with
  | zero => decide
  | succ n ih =>
    rw [Int.pow_succ, Int.pow_succ]
    exact Int.mul_le_mul ih (by decide) (by decide) (Int.pow_nonneg (by decide))
set_option maxHeartbeats 4000000 in
set_option maxRecDepth 100000 in
/-- common: the greatest common divisor -/
theorem v_D_common (l : Launch) (G : zG) (b0 : Nat) (h : zH) (a : Nat) (S : xS) {U : Nat → Int} {x y o : Nat} (hV : VX S U) (hpm : pm S.f) (hx0 : isN x = true) (hy0 : isN y = true) (ho0 : isN o = true) (hx8 : x ≠ 8 ∧ x ≠ 12 ∧ x ≠ 14 ∧ x ≠ 16) (hy8 : y ≠ 8 ∧ y ≠ 12 ∧ y ≠ 14 ∧ y ≠ 16) (ho8 : o ≠ 8 ∧ o ≠ 12 ∧ o ≠ 14 ∧ o ≠ 16) (fo : lt9 ((Int.gcd (U x) (U y) : Nat) : Int) (nR o)) : xMet l G b0 y_D_common b_D_common 5 none 4 121 h a [.ref (a + 7), .ref (a + x), .ref (a + y), .ref (a + o)] S (fun r S' => r = none ∧ ∃ U', VX S' U' ∧ pm S'.f ∧ U' o = ((Int.gcd (U x) (U y) : Nat) : Int) ∧ dfo o S S' U U') :=
  z_met (by decide) (Nat.le_of_ble_eq_true rfl) fun p e s m below meth c K hr hlk hnm => by
  obtain ⟨p1, p2, p3, p4, p5, p6⟩ := hpm
  obtain ⟨nx, vx⟩ := hV x hx0
  obtain ⟨ny, vy⟩ := hV y hy0
  obtain ⟨i1, hi1⟩ : ∃ i, i = S.f.hi := ⟨_, rfl⟩
  obtain ⟨j1, hj1⟩ : ∃ j, j = S.f.lo := ⟨_, rfl⟩
  have hpm2 : pm S.f := ⟨p1, p2, p3, p4, p5, p6⟩
  rw [← hi1] at p1 p4 p5
  rw [← hj1] at p2 p4 p6
  have yi : y ≠ i1 := by rcases p1 with q | q | q <;> omega
  have bx := lt9_mono vx.nn vx.i31
  have by1 := lt9_mono vy.nn vy.i31
  refine z_aload_n K d_D_common_0 rfl ?_
  refine zx_gD (v := .ref (a + i1)) K fd_D_23 (by rw [hi1]; rfl) d_D_common_1 ?_
  refine z_aload_n K d_D_common_4 rfl ?_
  refine z_callV (ci := 1) (As := [.ref (a + x)]) K (c_N_become_N l G b0 h a S p1.n hx0 vx (by rw [p1.r]; exact bx)) ca_D_42 im_N_become_N se_N_become_N rfl (by decide) (hx_N p1.n) rfl rfl (by decide) (Nat.le_of_ble_eq_true rfl) d_D_common_5 (fun r h1 hp => ?_)
  obtain ⟨S1, rfl, rfl, k1, k2⟩ := hp
  refine z_aload_n K d_D_common_8 rfl ?_
  refine zx_gD (v := .ref (a + j1)) K fd_D_26 (by rw [hj1, ← k1.2]; rfl) d_D_common_9 ?_
  refine z_aload_n K d_D_common_12 rfl ?_
  have vy1 := k1.nr vy yi
  refine z_callV (ci := 1) (As := [.ref (a + y)]) K (c_N_become_N l G b0 h a S1 p2.n hy0 vy1 (by rw [p2.r]; exact by1)) ca_D_42 im_N_become_N se_N_become_N rfl (by decide) (hx_N p2.n) rfl rfl (by decide) (Nat.le_of_ble_eq_true rfl) d_D_common_13 (fun r h1 hp => ?_)
  obtain ⟨S2, rfl, rfl, k3, k4⟩ := hp
  have f2 : S2.f = S.f := k3.2.trans k1.2
  have vi2 := k3.nr k2 p4
  refine z_aload_n K d_D_common_16 rfl ?_
  refine zx_gD (v := .ref (a + i1)) K fd_D_23 (by rw [hi1, ← f2]; rfl) d_D_common_17 ?_
  refine z_iconst (v := jI 0) K d_D_common_20 rfl ?_
  refine zx_pB K p1.n fd_D_45 (Or.inl rfl) d_D_common_21 ?_
  refine z_aload_n K d_D_common_24 rfl ?_
  refine zx_gD (v := .ref (a + j1)) K fd_D_26 (by rw [hj1, ← f2]; rfl) d_D_common_25 ?_
  refine z_iconst (v := jI 0) K d_D_common_28 rfl ?_
  refine zx_pB K p2.n fd_D_45 (Or.inl rfl) d_D_common_29 ?_
  obtain ⟨S3, hS3⟩ : ∃ S3, S3 = S2.sB (nu S2.B i1 0) := ⟨_, rfl⟩
  obtain ⟨S4, hS4⟩ : ∃ S4, S4 = S3.sB (nu S3.B j1 0) := ⟨_, rfl⟩
  rw [← hS3, ← hS4]
  have k5 : xK i1 S2 S3 := by rw [hS3]; exact xK_B
  have k6 : xK j1 S3 S4 := by rw [hS4]; exact xK_B
  have w1 : NR S3 i1 nx ((U x).natAbs : Int) := by rw [hS3]; exact vi2.abs
  have w2 : NR S4 j1 ny ((U y).natAbs : Int) := by rw [hS4]; exact (k5.nr k4 (Ne.symm p4)).abs
  have w3 : NR S4 i1 nx ((U x).natAbs : Int) := k6.nr w1 p4
  have f4 : S4.f = S.f := k6.2.trans (k5.2.trans f2)
  have hV4 : VX S4 (nu (nu (nu (nu U i1 (U x)) j1 (U y)) i1 ((U x).natAbs : Int)) j1 ((U y).natAbs : Int)) := (((hV.up k1 k2).up k3 k4).up k5 w1).up k6 w2
  obtain ⟨U4, hU4⟩ : ∃ U4, U4 = nu (nu (nu (nu U i1 (U x)) j1 (U y)) i1 ((U x).natAbs : Int)) j1 ((U y).natAbs : Int) := ⟨_, rfl⟩
  rw [← hU4] at hV4
  have hD4 : DS S4 U4 ((U x).natAbs : Int) ((U y).natAbs : Int) := by
    refine ⟨hV4, by rw [f4]; exact hpm2, ?_, ?_, by omega, by omega⟩
    · rw [f4, ← hi1, hU4, nu_ne _ _ p4, nu_self]
    · rw [f4, ← hj1, hU4, nu_self]
  have hf4 : dfr S S4 U U4 := by
    refine ⟨fun j j1' j2 j3 j4 => ?_, by rw [f4], by rw [f4]⟩
    have z1 : j ≠ j1 := by rcases p2 with q | q | q <;> omega
    have z2 : j ≠ i1 := by rcases p1 with q | q | q <;> omega
    rw [hU4, nu_ne _ _ z1, nu_ne _ _ z2, nu_ne _ _ z1, nu_ne _ _ z2]
  have hg0 : Int.gcd ((U x).natAbs : Int) ((U y).natAbs : Int) = Int.gcd (U x) (U y) := rfl
  -- the loop and what follows it
  have tail : ∀ (S5 : xS) (U5 : Nat → Int) (H L : Int), DS S5 U5 H L → L ≤ H → L < BS ^ 2 → Int.gcd H L = Int.gcd (U x) (U y) → dfr S S5 U U5 → zW p l e (zRm 4 121 0 0) s m ([.ref (a + 7), .ref (a + x), .ref (a + y), .ref (a + o)] : List Value).toArray below meth c 5 b0 G 0 0 (MQ below (zQ G b0 (fun r h' => ∃ S' : xS, h' = hx G h a S' ∧ (r = none ∧ ∃ U', VX S' U' ∧ pm S'.f ∧ U' o = ((Int.gcd (U x) (U y) : Nat) : Int) ∧ dfo o S S' U U'))) ([.ref (a + 7), .ref (a + x), .ref (a + y), .ref (a + o)] : List Value).toArray s 0 0 (z_A b0)) (hx G h a S5) 95 [(0, .ref (a + 7)), (3, .ref (a + o))] [] := by
    intro S5 U5 H L hD5 hLH hL2 hg5 hf5
    obtain ⟨n1, n2, v1, v2, b1, b2⟩ := hD5.len
    have hD' := hD5
    obtain ⟨hV5, hpm5, e1, e2, h0, l0⟩ := hD'
    refine z_aload_n K d_D_common_95 rfl ?_
    refine zx_gD K fd_D_26 rfl d_D_common_96 ?_
    refine z_callV (ci := 1) (As := []) K (c_N_isZero l G b0 h a S5 hpm5.2.1.n v2) ca_D_68 im_N_isZero se_N_isZero rfl (by decide) (hx_N hpm5.2.1.n) rfl rfl (by decide) (Nat.le_of_ble_eq_true rfl) d_D_common_99 (fun r h1 hp => ?_)
    obtain ⟨S6, rfl, rfl, b, rfl, c1, c2⟩ := hp
    refine zi_if_eq (tgt := 114) K d_D_common_102 (by decide) (by omega) (fun hq => ?_) (fun hq => ?_)
    · have hL0 : L ≠ 0 := fun q => by have := c2.2 q; omega
      have m0 := Int.emod_nonneg H hL0
      have m1 := Int.emod_lt_of_pos H (show 0 < L by omega)
      refine z_aload_n K d_D_common_114 rfl ?_
      refine z_callV (ci := 5) (As := []) K (c_D_shorten l G b0 h a S5 hD5 hL0) ca_D_53 im_D_shorten se_D_shorten rfl (by decide) (hx_D) rfl rfl (by decide) (Nat.le_of_ble_eq_true rfl) d_D_common_115 (fun r h1 hp => ?_)
      obtain ⟨S6, rfl, rfl, U6, hD6, hf6⟩ := hp
      obtain ⟨n3, n4, v3, v4, b3, b4⟩ := hD6.len
      have hD' := hD6
      obtain ⟨hV6, hpm6, e3, e4, h3, l3⟩ := hD'
      have eB : BS ^ 2 = 1000000000000000000 := by decide
      rw [eB] at hL2
      have n3b : n3 ≤ 2 := v3.le (by show (L.natAbs : Int) < BS ^ 2; rw [eB]; omega)
      have n4b : n4 ≤ 2 := v4.le (by show ((H % L).natAbs : Int) < BS ^ 2; rw [eB]; omega)
      refine z_aload_n K d_D_common_118 rfl ?_
      refine z_aload_n K d_D_common_119 rfl ?_
      refine zx_gD K fd_D_23 rfl d_D_common_120 ?_
      refine z_callV (ci := 1) (As := []) K (c_N_lowPart l G b0 h a S6 hpm6.1.n v3 n3b) ca_D_71 im_N_lowPart se_N_lowPart rfl (by decide) (hx_N hpm6.1.n) rfl rfl (by decide) (Nat.le_of_ble_eq_true rfl) d_D_common_123 (fun r h1 hp => ?_)
      obtain ⟨S7, rfl, rfl, rfl⟩ := hp
      refine z_aload_n K d_D_common_126 rfl ?_
      refine zx_gD K fd_D_26 rfl d_D_common_127 ?_
      refine z_callV (ci := 1) (As := []) K (c_N_lowPart l G b0 h a S6 hpm6.2.1.n v4 n4b) ca_D_71 im_N_lowPart se_N_lowPart rfl (by decide) (hx_N hpm6.2.1.n) rfl rfl (by decide) (Nat.le_of_ble_eq_true rfl) d_D_common_130 (fun r h1 hp => ?_)
      obtain ⟨S7, rfl, rfl, rfl⟩ := hp
      rw [show ((L.natAbs : Nat) : Int) = L by omega, show (((H % L).natAbs : Nat) : Int) = H % L by omega]
      refine z_callS (As := [.long (kI L), .long (kI (H % L))]) K (c_D_commonOfLongs l G b0 h a S6 (x := L) (y := H % L) (by omega) (by omega)) ca_D_75 sm_D_commonOfLongs rfl rfl (by decide) (Nat.le_of_ble_eq_true rfl) d_D_common_133 (fun r h1 hp => ?_)
      obtain ⟨S7, rfl, rfl, rfl, cg⟩ := hp
      rw [euc_gcd (by omega), hg5] at cg ⊢
      refine z_callV (ci := 1) (As := [.long (kI ((Int.gcd (U x) (U y) : Nat) : Int))]) K (c_N_become_J l G b0 h a S6 (k := o) ho0 (by omega)) ca_D_38 im_N_become_J se_N_become_J rfl (by decide) (hx_N ho0) rfl rfl (by decide) (Nat.le_of_ble_eq_true rfl) d_D_common_136 (fun r h1 hp => ?_)
      obtain ⟨S7, rfl, rfl, k7, n7, _, k8⟩ := hp
      refine z_vret K hr hlk d_D_common_139 ⟨_, rfl, rfl, _, hV6.up k7 k8, by rw [k7.2]; exact hpm6, nu_self _ _ _, fun j j0 j1 j2 j3 j4 => ?_, ?_, ?_⟩
      · rw [nu_ne _ _ j0]; exact (hf5.tr hf6).1 j j1 j2 j3 j4
      · rw [k7.2]; exact (hf5.tr hf6).2.1
      · rw [k7.2]; exact (hf5.tr hf6).2.2
    · have hL0 : L = 0 := c2.1 (by omega)
      have hH : H = ((Int.gcd (U x) (U y) : Nat) : Int) := by rw [← hg5, hL0, Int.gcd_zero_right]; omega
      refine z_aload_n K d_D_common_105 rfl ?_
      refine z_aload_n K d_D_common_106 rfl ?_
      refine zx_gD K fd_D_23 rfl d_D_common_107 ?_
      refine z_callV (ci := 1) (As := [.ref (a + S5.f.hi)]) K (c_N_become_N l G b0 h a S5 (k := o) ho0 hpm5.1.n v1 (by rw [hH]; exact fo)) ca_D_42 im_N_become_N se_N_become_N rfl (by decide) (hx_N ho0) rfl rfl (by decide) (Nat.le_of_ble_eq_true rfl) d_D_common_110 (fun r h1 hp => ?_)
      obtain ⟨S7, rfl, rfl, k7, k8⟩ := hp
      refine z_vret K hr hlk d_D_common_113 ⟨_, rfl, rfl, _, hV5.up k7 k8, by rw [k7.2]; exact hpm5, by rw [nu_self, hH], fun j j0 j1 j2 j3 j4 => ?_, ?_, ?_⟩
      · rw [nu_ne _ _ j0]; exact hf5.1 j j1 j2 j3 j4
      · rw [k7.2]; exact hf5.2.1
      · rw [k7.2]; exact hf5.2.2
  have loop : ∀ (S5 : xS) (U5 : Nat → Int) (H L : Int) (lv : List (Nat × Value)), zpick lv [0, 3, 4] = [(0, .ref (a + 7)), (3, .ref (a + o)), (4, .int (jI 0))] → DS S5 U5 H L → L ≤ H → Int.gcd H L = Int.gcd (U x) (U y) → dfr S S5 U U5 → zW p l e (zRm 4 121 0 0) s m ([.ref (a + 7), .ref (a + x), .ref (a + y), .ref (a + o)] : List Value).toArray below meth c 5 b0 G 0 0 (MQ below (zQ G b0 (fun r h' => ∃ S' : xS, h' = hx G h a S' ∧ (r = none ∧ ∃ U', VX S' U' ∧ pm S'.f ∧ U' o = ((Int.gcd (U x) (U y) : Nat) : Int) ∧ dfo o S S' U U'))) ([.ref (a + 7), .ref (a + x), .ref (a + y), .ref (a + o)] : List Value).toArray s 0 0 (z_A b0)) (hx G h a S5) 53 lv [] := by
    intro S5 U5 H L lv hlv hD5 hLH hg5 hf5
    obtain ⟨n1, n2, v1, v2, b1, b2⟩ := hD5.len
    refine z_re [0, 3, 4] hlv ?_
    refine lp_D_common (S0 := S) (U0 := U) (g := Int.gcd (U x) (U y)) K ⟨Nat.le_of_ble_eq_true rfl, Nat.le_of_ble_eq_true rfl⟩ (Nat.zero_le _) (Nat.zero_le _) tail 6720 0 S5 U5 H L (by decide) hD5 hLH ?_ hg5 hf5
    have c1 : H < BS ^ 112 := by have : (H.natAbs : Int) < BS ^ 112 := b1; omega
    have c2 : L < BS ^ 112 := by have : (L.natAbs : Int) < BS ^ 112 := b2; omega
    have h0 := hD5.2.2.2.2.1
    have l0 := hD5.2.2.2.2.2
    have c3 : H * L ≤ BS ^ 112 * L := Int.mul_le_mul_of_nonneg_right (by omega) l0
    have c4 : BS ^ 112 * L < BS ^ 112 * BS ^ 112 := Int.mul_lt_mul_of_pos_left c2 (BS_pos 112)
    rw [← Int.pow_add] at c4
    have c5 := BS_2 (112 + 112)
    rw [show 30 * (112 + 112) = 6720 from rfl] at c5
    exact Int.lt_of_lt_of_le (Int.lt_of_le_of_lt c3 c4) c5
  refine z_aload_n K d_D_common_32 rfl ?_
  refine zx_gD (v := .ref (a + i1)) K fd_D_23 (by rw [hi1, ← f4]; rfl) d_D_common_33 ?_
  refine z_aload_n K d_D_common_36 rfl ?_
  refine zx_gD (v := .ref (a + j1)) K fd_D_26 (by rw [hj1, ← f4]; rfl) d_D_common_37 ?_
  refine z_callV (ci := 1) (As := [.ref (a + j1)]) K (c_N_compareSize l G b0 h a S4 p1.n p2.n w3 w2) ca_D_49 im_N_compareSize se_N_compareSize rfl (by decide) (hx_N p1.n) rfl rfl (by decide) (Nat.le_of_ble_eq_true rfl) d_D_common_40 (fun r h1 hp => ?_)
  obtain ⟨S5, rfl, rfl, z, rfl, z1, z2, z3⟩ := hp
  rw [Int.natAbs_natCast, Int.natAbs_natCast] at z2
  refine zi_if_ge (tgt := 50) K d_D_common_43 (by decide) z1 (fun hc => ?_) (fun hc => ?_)
  · refine z_iconst (v := jI 0) K d_D_common_50 rfl ?_
    refine z_istore K d_D_common_51 (by decide) ?_
    exact loop S4 U4 _ _ _ rfl hD4 (by omega) hg0 hf4
  · refine z_aload_n K d_D_common_46 rfl ?_
    refine z_callV (ci := 5) (As := []) K (c_D_shorten l G b0 h a S4 hD4 (by omega)) ca_D_53 im_D_shorten se_D_shorten rfl (by decide) (hx_D) rfl rfl (by decide) (Nat.le_of_ble_eq_true rfl) d_D_common_47 (fun r h1 hp => ?_)
    obtain ⟨S5, rfl, rfl, U5, hD5, hf5⟩ := hp
    refine z_iconst (v := jI 0) K d_D_common_50 rfl ?_
    refine z_istore K d_D_common_51 (by decide) ?_
    have m1 := Int.emod_lt_of_pos ((U x).natAbs : Int) (show 0 < ((U y).natAbs : Int) by omega)
    exact loop S5 U5 _ _ _ rfl hD5 (by omega) (by rw [euc_gcd (by omega)]; exact hg0) (hf4.tr hf5)
end D5
