def isH (k : Nat) : Prop := k = 12 ∨ k = 14 ∨ k = 16
theorem isH.n {k : Nat} (h : isH k) : isN k = true := by rcases h with rfl | rfl | rfl <;> rfl
theorem isH.r {k : Nat} (h : isH k) : nR k = 112 := by rcases h with rfl | rfl | rfl <;> rfl
/-- the three numbers that change places -/
def pm (F : xF) : Prop := isH F.hi ∧ isH F.lo ∧ isH F.re ∧ F.hi ≠ F.lo ∧ F.hi ≠ F.re ∧ F.lo ≠ F.re
/-- only the divisors' own numbers changed -/
def dfr (S S' : xS) (U U' : Nat → Int) : Prop := (∀ j : Nat, j ≠ 8 → j ≠ 12 → j ≠ 14 → j ≠ 16 → U' j = U j) ∧ S'.f.nn = S.f.nn ∧ S'.f.lost = S.f.lost
theorem dfr.rf {S : xS} {U : Nat → Int} : dfr S S U U := ⟨fun _ _ _ _ _ => rfl, rfl, rfl⟩
theorem dfr.tr {S S' S'' : xS} {U U' U'' : Nat → Int} (h : dfr S S' U U') (h' : dfr S' S'' U' U'') : dfr S S'' U U'' :=
  ⟨fun j a b c d => (h'.1 j a b c d).trans (h.1 j a b c d), h'.2.1.trans h.2.1, h'.2.2.trans h.2.2⟩
/-- high holds H, low holds L -/
def DS (S : xS) (U : Nat → Int) (H L : Int) : Prop := VX S U ∧ pm S.f ∧ U S.f.hi = H ∧ U S.f.lo = L ∧ 0 ≤ H ∧ 0 ≤ L
theorem iN8 : isN 8 = true := rfl
section D1
variable {p : Program} {l : Launch} {e : Env} {R : Room} {s : State} {m : MethodId} {args : Array Value} {below : List Frame} {meth : Method} {c : Code} {Q : State → Prop} {b0 kc ks : Nat} {G : zG} {h : zH} {a : Nat} {cd : Int}
set_option maxHeartbeats 4000000 in
set_option maxRecDepth 100000 in
theorem c_D_shorten (l : Launch) (G : zG) (b0 : Nat) (h : zH) (a : Nat) (S : xS) {U : Nat → Int} {H L : Int} (hD : DS S U H L) (hL : L ≠ 0) : xMet l G b0 y_D_shorten b_D_shorten 2 none 3 100 h a [.ref (a + 7)] S (fun r S' => r = none ∧ ∃ U', DS S' U' L (H % L) ∧ dfr S S' U U') :=
  z_met (by decide) (Nat.le_of_ble_eq_true rfl) fun p e s m below meth c K hr hlk hnm => by
  obtain ⟨hV, ⟨p1, p2, p3, p4, p5, p6⟩, e1, e2, h0, l0⟩ := hD
  obtain ⟨n2, v2⟩ := hV _ p2.n
  rw [e2] at v2
  have h8 : (8 : Nat) ≠ S.f.re := by rcases p3 with q | q | q <;> omega
  obtain ⟨n1, v1⟩ := hV _ p1.n
  rw [e1] at v1
  have b1 : lt9 H 112 := lt9_mono v1.nn (by rw [← p1.r]; exact v1.2.1)
  have tm : H.tmod L = H % L := Int.tmod_eq_emod_of_nonneg h0
  have m0 := Int.emod_nonneg H hL
  have m1 := Int.emod_lt_of_pos H (show 0 < L by omega)
  have fq : lt9 (H.tdiv L) 112 := by
    have q : ((H.tdiv L).natAbs : Int) ≤ H.natAbs := by
      rw [Int.natAbs_tdiv]; exact Int.ofNat_le.2 (Nat.div_le_self _ _)
    exact Int.lt_of_le_of_lt q b1
  have fr : lt9 (H.tmod L) 112 := by
    have b2 : lt9 L 112 := lt9_mono v2.nn (by rw [← p2.r]; exact v2.2.1)
    have b2' : (L.natAbs : Int) < BS ^ 112 := b2
    rw [tm]
    show ((H % L).natAbs : Int) < BS ^ 112
    omega
  refine z_aload_n K d_D_shorten_0 rfl ?_
  refine zx_gD K fd_D_26 rfl d_D_shorten_1 ?_
  refine z_callV (ci := 1) (As := []) K (c_N_isZero l G b0 h a S p2.n v2) ca_D_68 im_N_isZero se_N_isZero rfl (by decide) (hx_N p2.n) rfl rfl (by decide) (Nat.le_of_ble_eq_true rfl) d_D_shorten_4 (fun r h1 hp => ?_)
  obtain ⟨S1, rfl, rfl, b, rfl, c1, c2⟩ := hp
  refine zi_if_eq (tgt := 11) K d_D_shorten_7 (by decide) (by omega) (fun hc => ?_) (fun hc => absurd (c2.1 (by omega)) hL)
  refine z_aload_n K d_D_shorten_11 rfl ?_
  refine zx_gD K fd_D_32 rfl d_D_shorten_12 ?_
  refine z_aload_n K d_D_shorten_15 rfl ?_
  refine zx_gD K fd_D_23 rfl d_D_shorten_16 ?_
  refine z_aload_n K d_D_shorten_19 rfl ?_
  refine zx_gD K fd_D_26 rfl d_D_shorten_20 ?_
  refine z_aload_n K d_D_shorten_23 rfl ?_
  refine zx_gD K fd_D_14 rfl d_D_shorten_24 ?_
  refine z_aload_n K d_D_shorten_27 rfl ?_
  refine zx_gD K fd_D_29 rfl d_D_shorten_28 ?_
  refine z_callV (ci := 4) (As := [.ref (a + S.f.hi), .ref (a + S.f.lo), .ref (a + 8), .ref (a + S.f.re)]) K (v_R_divide l G b0 h a S hV p1.n p2.n iN8 p3.n h8 (by rw [e2]; exact hL) (by rw [e1, e2]; exact fq) (by rw [e1, e2, p3.r]; exact fr)) ca_D_79 im_R_divide se_R_divide rfl (by decide) (hx_R) rfl rfl (by decide) (Nat.le_of_ble_eq_true rfl) d_D_shorten_31 (fun r h1 hp => ?_)
  obtain ⟨S1, rfl, rfl, hV1, f1⟩ := hp
  rw [e1, e2, tm] at hV1
  rw [← f1] at p1 p2 p3 p4 p5 p6 hV1 h8 e2
  refine z_aload_n K d_D_shorten_34 rfl ?_
  refine zx_gD K fd_D_23 rfl d_D_shorten_35 ?_
  refine z_astore_n K d_D_shorten_38 (by decide) ?_
  refine z_aload_n K d_D_shorten_39 rfl ?_
  refine z_aload_n K d_D_shorten_40 rfl ?_
  refine zx_gD K fd_D_26 rfl d_D_shorten_41 ?_
  refine zx_pHi K fd_D_23 d_D_shorten_44 ?_
  refine z_aload_n K d_D_shorten_47 rfl ?_
  refine z_aload_n K d_D_shorten_48 rfl ?_
  refine zx_gD K fd_D_29 rfl d_D_shorten_49 ?_
  refine zx_pLo K fd_D_26 d_D_shorten_52 ?_
  refine z_aload_n K d_D_shorten_55 rfl ?_
  refine z_aload_n K d_D_shorten_56 rfl ?_
  refine zx_pRe K fd_D_29 d_D_shorten_57 ?_
  refine z_vret K hr hlk d_D_shorten_60 ⟨_, rfl, rfl, _, ⟨hV1, ⟨p2, p3, p1, p6, fun e => p4 e.symm, fun e => p5 e.symm⟩, ?_, nu_self _ _ _, l0, m0⟩, fun j j1 j2 j3 j4 => ?_, by show S1.f.nn = _; rw [f1], by show S1.f.lost = _; rw [f1]⟩
  · show nu (nu U 8 _) S1.f.re _ S1.f.lo = L
    have h9 : S1.f.lo ≠ 8 := by rcases p2 with q | q | q <;> omega
    rw [nu_ne _ _ p6, nu_ne _ _ h9]; exact e2
  · have h9 : j ≠ S1.f.re := by rcases p3 with q | q | q <;> omega
    rw [nu_ne _ _ h9, nu_ne _ _ j1]
set_option maxHeartbeats 4000000 in
set_option maxRecDepth 100000 in
theorem lp_D_commonOfLongs (K : zC p s m args c b_D_commonOfLongs R_D 11 b0 G) {hh : zH} {g : Nat} (kx : ∀ x : Int, 0 ≤ x → x < 1000000000000000000 → x = g → zW p l e R s m args below meth c 11 b0 G kc ks Q hh 44 [(4, .long (kI x))] []) :
    ∀ (N i : Nat) (x y : Int), i + N ≤ 99999 → 0 ≤ x → x < 1000000000000000000 → 0 ≤ y → y ≤ x → x * y < 2 ^ N → Int.gcd x y = g → zW p l e R s m args below meth c 11 b0 G kc ks Q hh 9 [(4, .long (kI x)), (6, .long (kI y)), (8, .int (jI i))] [] := by
  intro N
  induction N with
  | zero =>
    intro i x y hi x0 x1 y0 yx hp hg
    have hy : y = 0 := by
      rcases Int.lt_or_le 0 y with q | q
      · have := Int.mul_le_mul (show 1 ≤ x by omega) (show 1 ≤ y by omega) (by decide) x0
        omega
      · omega
    subst hy
    refine z_iload K d_D_commonOfLongs_9 rfl ?_
    refine z_ldc (v := jI 100000) K d_D_commonOfLongs_11 kc_D_56 ?_
    refine zi_icmp_ge (tgt := 44) K d_D_commonOfLongs_13 (by decide) (by omega) (by omega) (fun hc => absurd hc (by omega)) (fun hc => ?_)
    refine z_lload K d_D_commonOfLongs_16 rfl ?_
    refine z_lconst (v := kI 0) K d_D_commonOfLongs_18 rfl ?_
    refine zi_lc_le (tgt := 44) K d_D_commonOfLongs_19 d_D_commonOfLongs_20 (by decide) (by omega) (by omega) (fun hc => ?_) (fun hc => absurd hc (by omega))
    refine z_re [4] rfl (kx x x0 x1 ?_)
    rw [Int.gcd_zero_right] at hg
    omega
  | succ N ih =>
    intro i x y hi x0 x1 y0 yx hp hg
    refine z_iload K d_D_commonOfLongs_9 rfl ?_
    refine z_ldc (v := jI 100000) K d_D_commonOfLongs_11 kc_D_56 ?_
    refine zi_icmp_ge (tgt := 44) K d_D_commonOfLongs_13 (by decide) (by omega) (by omega) (fun hc => absurd hc (by omega)) (fun hc => ?_)
    refine z_lload K d_D_commonOfLongs_16 rfl ?_
    refine z_lconst (v := kI 0) K d_D_commonOfLongs_18 rfl ?_
    refine zi_lc_le (tgt := 44) K d_D_commonOfLongs_19 d_D_commonOfLongs_20 (by decide) (by omega) (by omega) (fun hc => ?_) (fun hc => ?_)
    · have hy : y = 0 := by omega
      subst hy
      refine z_re [4] rfl (kx x x0 x1 ?_)
      rw [Int.gcd_zero_right] at hg
      omega
    · have m0 := Int.emod_nonneg x (show y ≠ 0 by omega)
      have m1 := Int.emod_lt_of_pos x hc
      refine z_lload K d_D_commonOfLongs_23 rfl ?_
      refine z_lload K d_D_commonOfLongs_25 rfl ?_
      refine zi_lrem K d_D_commonOfLongs_27 (by omega) (by omega) hc ?_
      rw [Int.tmod_eq_emod_of_nonneg x0]
      refine z_lstore K d_D_commonOfLongs_28 (by decide) ?_
      refine z_lload K d_D_commonOfLongs_30 rfl ?_
      refine z_lstore K d_D_commonOfLongs_32 (by decide) ?_
      refine z_lload K d_D_commonOfLongs_34 rfl ?_
      refine z_lstore K d_D_commonOfLongs_36 (by decide) ?_
      refine zi_iinc K d_D_commonOfLongs_38 rfl (by decide) ?_
      refine z_goto (tgt := 9) K d_D_commonOfLongs_41 (by decide) ?_
      refine z_re [4, 6, 8] rfl ?_
      refine ih (i + 1) y (x % y) (by omega) y0 (by omega) m0 (by omega) ?_ ?_
      · have e := euc_half (a := x.toNat) (b := y.toNat) (by omega) (by omega)
        have e2 : 2 * (y * (x % y)) ≤ x * y := by
          have e3 := Int.ofNat_le.2 e
          simp only [Int.natCast_mul, Int.natCast_emod] at e3
          rw [show ((x.toNat : Nat) : Int) = x by omega, show ((y.toNat : Nat) : Int) = y by omega] at e3
          exact e3
        rw [Int.pow_succ] at hp
        omega
      · rw [← hg, Int.gcd_comm x y, Int.gcd_comm y (x % y)]
        have := (euc_step (h := x) (l := y) (k := x / y) hc (Int.ediv_mul_le x (by omega)) (by have := Int.lt_mul_ediv_self_add (x := x) hc; rw [Int.add_mul, Int.one_mul, Int.mul_comm]; exact this)).2
        rw [Int.gcd_comm x y] at this
        rw [← this, show x - x / y * y = x % y by have := Int.mul_ediv_add_emod x y; rw [Int.mul_comm]; omega, Int.gcd_comm]
set_option maxHeartbeats 4000000 in
set_option maxRecDepth 100000 in
theorem c_D_commonOfLongs (l : Launch) (G : zG) (b0 : Nat) (h : zH) (a : Nat) (S : xS) {x y : Int} (hx1 : 0 ≤ x ∧ x < 1000000000000000000) (hy1 : 0 ≤ y ∧ y ≤ x) : xMet l G b0 y_D_commonOfLongs b_D_commonOfLongs 11 (some .long) 0 0 h a [.long (kI x), .long (kI y)] S (fun r S' => S = S' ∧ r = some (.long (kI ((Int.gcd x y : Nat) : Int))) ∧ ((Int.gcd x y : Nat) : Int) < 1000000000000000000) :=
  z_met (by decide) (Nat.le_of_ble_eq_true rfl) fun p e s m below meth c K hr hlk hnm => by
  refine z_lload_n K d_D_commonOfLongs_0 rfl ?_
  refine z_lstore K d_D_commonOfLongs_1 (by decide) ?_
  refine z_lload_n K d_D_commonOfLongs_3 rfl ?_
  refine z_lstore K d_D_commonOfLongs_4 (by decide) ?_
  refine z_iconst (v := jI 0) K d_D_commonOfLongs_6 rfl ?_
  refine z_istore K d_D_commonOfLongs_7 (by decide) ?_
  refine z_re [4, 6, 8] rfl ?_
  refine lp_D_commonOfLongs K (g := Int.gcd x y) (fun z z0 z1 z2 => ?_) 120 0 x y (by omega) hx1.1 hx1.2 hy1.1 hy1.2 ?_ rfl
  · refine z_lload K d_D_commonOfLongs_44 rfl ?_
    rw [z2]
    exact z_lret K hr hlk d_D_commonOfLongs_46 ⟨_, rfl, rfl, rfl, by omega⟩
  · have := Int.mul_le_mul (show x ≤ 1000000000000000000 by omega) (show y ≤ 1000000000000000000 by omega) hy1.1 (by decide)
    have e : (1000000000000000000 : Int) * 1000000000000000000 < 2 ^ 120 := by decide
    omega
end D1
