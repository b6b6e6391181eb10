theorem iN10 : isN 10 = true := rfl
section D6
variable {p : Program} {l : Launch} {e : Env} {R : Room} {s : State} {m : MethodId} {args : Array Value} {below : List Frame} {meth : Method} {c : Code} {Q : State → Prop} {b0 kc ks : Nat} {G : zG} {h : zH} {a : Nat} {cd : Int}
set_option maxHeartbeats 4000000 in
set_option maxRecDepth 100000 in
theorem lp_D_powerOfTen (K : zC p s m args c b_D_powerOfTen R_D 4 b0 G) {S : xS} {o tp z : Nat} (ho : isN o = true) (ht : tp < nR o) (kx : ∀ f : Int → Int, (∀ q : Int, 0 ≤ q → q < tp → f q = 0) → zW p l e R s m args below meth c 4 b0 G kc ks Q (hx G h a (S.sC (nu S.C o f))) 43 [(0, .int (jI z)), (1, .ref (a + o)), (2, .int (jI tp))] []) :
    ∀ (d k : Nat) (f : Int → Int), k + d = tp → (∀ q : Int, 0 ≤ q → q < k → f q = 0) → zW p l e R s m args below meth c 4 b0 G kc ks Q (hx G h a (S.sC (nu S.C o f))) 25 [(0, .int (jI z)), (1, .ref (a + o)), (2, .int (jI tp)), (3, .int (jI k))] [] := by
  intro d
  have hR := nR_le o
  induction d with
  | zero =>
    intro k f hk h1
    refine z_iload_n K d_D_powerOfTen_25 rfl ?_
    refine z_iload_n K d_D_powerOfTen_26 rfl ?_
    refine zi_icmp_ge (tgt := 43) K d_D_powerOfTen_27 (by decide) (by omega) (by omega) (fun hc => ?_) (fun hc => absurd hc (by omega))
    exact z_re [0, 1, 2] rfl (kx f (fun q a1 a2 => h1 q a1 (by omega)))
  | succ d ih =>
    intro k f hk h1
    refine z_iload_n K d_D_powerOfTen_25 rfl ?_
    refine z_iload_n K d_D_powerOfTen_26 rfl ?_
    refine zi_icmp_ge (tgt := 43) K d_D_powerOfTen_27 (by decide) (by omega) (by omega) (fun hc => absurd hc (by omega)) (fun hc => ?_)
    refine z_aload_n K d_D_powerOfTen_30 rfl ?_
    refine zx_gN K (by first | assumption | rfl) fd_D_123 rfl d_D_powerOfTen_31 ?_
    refine z_iload_n K d_D_powerOfTen_34 rfl ?_
    refine z_iconst (v := jI 0) K d_D_powerOfTen_35 rfl ?_
    refine zx_cst K ho (by omega) d_D_powerOfTen_36 ?_
    refine z_hp (congrArg (hx G h a) sC_sC) ?_
    refine zi_iinc K d_D_powerOfTen_37 rfl (by decide) ?_
    refine z_goto (tgt := 25) K d_D_powerOfTen_40 (by decide) ?_
    refine z_re [0, 1, 2, 3] rfl ?_
    refine ih (k + 1) _ (by omega) (fun q q1 q2 => ?_)
    by_cases e : q = k
    · subst e; rw [iu_self]
    · rw [iu_ne _ _ e]; exact h1 q q1 (by omega)
set_option maxHeartbeats 4000000 in
set_option maxRecDepth 100000 in
theorem c_D_powerOfTen (l : Launch) (G : zG) (b0 : Nat) (h : zH) (a : Nat) (S : xS) {o z : Nat} (ho : isN o = true) (hz : z / 9 < nR o) : xMet l G b0 y_D_powerOfTen b_D_powerOfTen 4 none 1 23 h a [.int (jI z), .ref (a + o)] S (fun r S' => r = none ∧ xK o S S' ∧ ∃ n : Nat, NR S' o n ((10 ^ z : Nat) : Int)) :=
  z_met (by decide) (Nat.le_of_ble_eq_true rfl) fun p e s m below meth c K hr hlk hnm => by
  obtain ⟨tb, hZ⟩ := K.pw
  have hR := nR_le o
  refine z_iload_n K d_D_powerOfTen_0 rfl ?_
  refine z_bipush (v := jI 9) K d_D_powerOfTen_1 rfl ?_
  refine zi_idiv K d_D_powerOfTen_3 (by omega) (by decide) (by decide) ?_
  rw [show ((z : Int)).tdiv 9 = ((z / 9 : Nat) : Int) by rw [Int.tdiv_eq_ediv_of_nonneg (by omega)]; omega]
  refine z_istore_n K d_D_powerOfTen_4 (by decide) ?_
  refine z_iload_n K d_D_powerOfTen_5 rfl ?_
  refine zi_if_lt (tgt := 18) K d_D_powerOfTen_6 (by decide) (by omega) (fun hc => absurd hc (by omega)) (fun hc => ?_)
  refine z_iload_n K d_D_powerOfTen_9 rfl ?_
  refine z_aload_n K d_D_powerOfTen_10 rfl ?_
  refine zx_gN K (by first | assumption | rfl) fd_D_123 rfl d_D_powerOfTen_11 ?_
  refine zx_alen K (by first | assumption | rfl) d_D_powerOfTen_14 ?_
  refine zi_icmp_lt (tgt := 23) K d_D_powerOfTen_15 (by decide) (by omega) (by omega) (fun hc => ?_) (fun hc => absurd hc (by omega))
  refine z_iconst (v := jI 0) K d_D_powerOfTen_23 rfl ?_
  refine z_istore_n K d_D_powerOfTen_24 (by decide) ?_
  refine z_re [0, 1, 2, 3] rfl ?_
  refine z_hp (congrArg (hx G h a) (sC_id (o := o))) ?_
  refine lp_D_powerOfTen (S := S) K ho hz (fun f hf => ?_) (z / 9) 0 (S.C o) (by omega) (fun q a1 a2 => absurd a2 (by omega))
  refine z_aload_n K d_D_powerOfTen_43 rfl ?_
  refine zx_gN K (by first | assumption | rfl) fd_D_123 rfl d_D_powerOfTen_44 ?_
  refine z_iload_n K d_D_powerOfTen_47 rfl ?_
  refine z_gets K hZ gs_D d_D_powerOfTen_48 ?_
  refine z_iload_n K d_D_powerOfTen_51 rfl ?_
  refine z_bipush (v := jI 9) K d_D_powerOfTen_52 rfl ?_
  refine zi_irem K d_D_powerOfTen_54 (by omega) (by decide) (by decide) ?_
  rw [show ((z : Int)).tmod 9 = ((z % 9 : Nat) : Int) by rw [Int.tmod_eq_emod_of_nonneg (by omega)]; omega]
  refine z_tald K hZ (by omega) d_D_powerOfTen_55 ?_
  rw [Int.toNat_natCast]
  refine zx_cst K ho (by omega) d_D_powerOfTen_56 ?_
  refine z_hp (congrArg (hx G h a) sC_sC) ?_
  refine z_aload_n K d_D_powerOfTen_57 rfl ?_
  refine z_iload_n K d_D_powerOfTen_58 rfl ?_
  refine z_iconst (v := jI 1) K d_D_powerOfTen_59 rfl ?_
  refine zi_iadd K d_D_powerOfTen_60 ?_
  refine z_iconst (v := jI 0) K d_D_powerOfTen_61 rfl ?_
  rw [show ((z / 9 : Nat) : Int) + 1 = ((z / 9 + 1 : Nat) : Int) by omega]
  have hp : 10 ^ (z % 9) ≤ 10 ^ 8 := ten_mono (by omega)
  have hg : dg ((S.sC (nu S.C o (iu f ((z / 9 : Nat) : Int) ((10 ^ (z % 9) : Nat) : Int)))).C o) 0 (z / 9 + 1) := by
    show dg (nu S.C o _ o) 0 _
    rw [nu_self]
    intro k hk
    rw [Int.zero_add]
    by_cases e : k = z / 9
    · rw [e, iu_self]
      generalize 10 ^ (z % 9) = P at *
      omega
    · rw [iu_ne _ _ (by omega), hf k (by omega) (by omega)]; decide
  refine z_callV (ci := 1) (As := [.int (jI ((z / 9 + 1 : Nat) : Int)), .int (jI 0)]) K (c_N_settle l G b0 h a _ (k := o) (N := z / 9 + 1) ho (by omega) (Or.inl rfl) hg) ca_D_129 im_N_settle se_N_settle rfl (by decide) (hx_N ho) rfl rfl (by decide) (Nat.le_of_ble_eq_true rfl) d_D_powerOfTen_62 (fun r h1 hp => ?_)
  obtain ⟨S1, rfl, rfl, k1, k2, n, k3⟩ := hp
  refine z_vret K hr hlk d_D_powerOfTen_65 ⟨_, rfl, rfl, ⟨fun j hj => ⟨(k1.1 j hj).1.trans (nu_ne _ _ hj), (k1.1 j hj).2.1, (k1.1 j hj).2.2⟩, k1.2⟩, n, ?_⟩
  have e : sgn 0 (dv ((S.sC (nu S.C o (iu f ((z / 9 : Nat) : Int) ((10 ^ (z % 9) : Nat) : Int)))).C o) 0 (z / 9 + 1)) = ((10 ^ z : Nat) : Int) := by
    rw [show ∀ x : Int, sgn 0 x = x from fun x => if_neg (by decide)]
    show dv (nu S.C o _ o) 0 (z / 9 + 1) = _
    rw [nu_self]
    show dv (iu f _ _) 0 (z / 9) + iu f _ _ (0 + ((z / 9 : Nat) : Int)) * BS ^ (z / 9) = _
    rw [Int.zero_add, iu_self, dv_iu (fun k hk => by omega), dv_zero (fun k hk => by rw [Int.zero_add]; exact hf k (by omega) (by omega)), BS_ten, Int.zero_add, ← Int.natCast_mul, ← Nat.pow_add]
    congr 2
    omega
  rw [← e]
  exact k3
/-- Newton's root: the numbers as they stand -/
def RT (S : xS) (U : Nat → Int) (x r hh : Nat) : Prop := VX S U ∧ pm S.f ∧ U S.f.hi = hh ∧ U x = ((r * r : Nat) : Int) ∧ U 10 = 2 ∧ r ≤ hh ∧ 0 < hh ∧ lt9 (U x) 100 ∧ lt9 (hh : Int) 60
set_option maxHeartbeats 4000000 in
set_option maxRecDepth 100000 in
theorem st_D_root (K : zC p s m args c b_D_root R_D 4 b0 G) (hRm : 4 ≤ R.frames ∧ 114 ≤ R.locals) (hkc : kc ≤ R.cells) (hks : ks ≤ R.slots) {S S0 : xS} {U U0 : Nat → Int} {x o r hh i : Nat} (hx0 : isN x = true) (hx8 : x ≠ 8 ∧ x ≠ 10 ∧ x ≠ 12 ∧ x ≠ 14 ∧ x ≠ 16) (hi : i < 100000) (hr : 0 < r) (hT : RT S U x r hh) (hf : dfr S0 S U0 U)
    (ke : ∀ (S' : xS) (U' : Nat → Int), VX S' U' → pm S'.f → U' S'.f.hi = r → dfr S0 S' U0 U' → zW p l e R s m args below meth c 4 b0 G kc ks Q (hx G h a S') 131 [(0, .ref (a + 7)), (1, .ref (a + x)), (2, .ref (a + o)), (3, .int (jI i))] [])
    (kn : ∀ (S' : xS) (U' : Nat → Int) (q : Nat), q = (r * r / hh + hh) / 2 → q < hh → RT S' U' x r q → dfr S0 S' U0 U' → zW p l e R s m args below meth c 4 b0 G kc ks Q (hx G h a S') 29 [(0, .ref (a + 7)), (1, .ref (a + x)), (2, .ref (a + o)), (3, .int (jI ((i + 1 : Nat) : Int)))] []) :
    zW p l e R s m args below meth c 4 b0 G kc ks Q (hx G h a S) 29 [(0, .ref (a + 7)), (1, .ref (a + x)), (2, .ref (a + o)), (3, .int (jI i))] [] := by
  obtain ⟨hV, hpm, e1, e2, e3, rh, h0, bx, bh⟩ := hT
  have hpm' := hpm
  obtain ⟨p1, p2, p3, p4, p5, p6⟩ := hpm'
  obtain ⟨i1, hi1⟩ : ∃ i, i = S.f.hi := ⟨_, rfl⟩
  obtain ⟨j1, hj1⟩ : ∃ j, j = S.f.lo := ⟨_, rfl⟩
  obtain ⟨k1, hk1⟩ : ∃ j, j = S.f.re := ⟨_, rfl⟩
  rw [← hi1] at p1 p4 p5 e1
  rw [← hj1] at p2 p4 p6
  rw [← hk1] at p3 p5 p6
  have i8 : i1 ≠ 8 ∧ i1 ≠ 10 ∧ i1 ≠ x := by rcases p1 with q | q | q <;> omega
  have j8 : j1 ≠ 8 ∧ j1 ≠ 10 ∧ j1 ≠ x := by rcases p2 with q | q | q <;> omega
  have k8 : k1 ≠ 8 ∧ k1 ≠ 10 ∧ k1 ≠ x := by rcases p3 with q | q | q <;> omega
  have hq1 : (U x).tdiv (U i1) = ((r * r / hh : Nat) : Int) := by
    rw [e1, e2, Int.tdiv_eq_ediv_of_nonneg (by omega), Int.natCast_ediv]
  have hm1 : ((U x).tmod (U i1)).natAbs ≤ hh := by
    rw [e1, Int.natAbs_tmod]
    exact Nat.le_of_lt (Nat.mod_lt _ (by omega))
  have bq : lt9 (((r * r / hh : Nat)) : Int) 100 := by
    have a1 : ((U x).natAbs : Int) < BS ^ 100 := bx
    rw [e2, Int.natAbs_natCast] at a1
    have a2 := Nat.div_le_self (r * r) hh
    show (((((r * r / hh : Nat)) : Int)).natAbs : Int) < BS ^ 100
    rw [Int.natAbs_natCast]
    exact Int.lt_of_le_of_lt (Int.ofNat_le.2 a2) a1
  have bm : lt9 ((U x).tmod (U i1)) 60 := by
    have a1 : (((hh : Int)).natAbs : Int) < BS ^ 60 := bh
    rw [Int.natAbs_natCast] at a1
    exact Int.lt_of_le_of_lt (Int.ofNat_le.2 hm1) a1
  have rm : ∀ d lw mL, d + 1 ≤ 4 → 8 + (mL + 11) + lw ≤ 114 → d + 1 ≤ R.frames ∧ 8 + (mL + 11) + lw ≤ R.locals ∧ kc + 0 ≤ R.cells ∧ ks + 0 ≤ R.slots := fun d lw mL z1 z2 => rm_ok ⟨hRm.1, hRm.2, hkc, hks⟩ z1 z2
  refine z_iload_n K d_D_root_29 rfl ?_
  refine z_ldc (v := jI 100000) K d_D_root_30 kc_D_56 ?_
  refine zi_icmp_ge (tgt := 131) K d_D_root_32 (by decide) (by omega) (by decide) (fun hc => absurd hc (by omega)) (fun hc => ?_)
  refine z_aload_n K d_D_root_35 rfl ?_
  refine zx_gD K fd_D_32 rfl d_D_root_36 ?_
  refine z_aload_n K d_D_root_39 rfl ?_
  refine z_aload_n K d_D_root_40 rfl ?_
  refine zx_gD (v := .ref (a + i1)) K fd_D_23 (by rw [hi1]; rfl) d_D_root_41 ?_
  refine z_aload_n K d_D_root_44 rfl ?_
  refine zx_gD K fd_D_14 rfl d_D_root_45 ?_
  refine z_aload_n K d_D_root_48 rfl ?_
  refine zx_gD (v := .ref (a + k1)) K fd_D_29 (by rw [hk1]; rfl) d_D_root_49 ?_
  refine z_callV (ci := 4) (As := [.ref (a + x), .ref (a + i1), .ref (a + 8), .ref (a + k1)]) K (v_R_divide l G b0 h a S hV hx0 p1.n iN8 p3.n (Ne.symm k8.1) (by rw [e1]; omega) (by rw [hq1]; exact lt9_mono bq (by decide)) (by rw [p3.r]; exact lt9_mono bm (by decide))) ca_D_79 im_R_divide se_R_divide rfl (by decide) (hx_R) rfl rfl (rm _ _ _ (by decide) (by decide)) (Nat.le_of_ble_eq_true rfl) d_D_root_52 (fun r h1 hp => ?_)
  obtain ⟨S1, rfl, rfl, hV1, f1⟩ := hp
  rw [hq1] at hV1
  obtain ⟨U1, hU1⟩ : ∃ W, W = nu (nu U 8 (((r * r / hh : Nat)) : Int)) k1 ((U x).tmod (U i1)) := ⟨_, rfl⟩
  rw [← hU1] at hV1
  have u8 : U1 8 = (((r * r / hh : Nat)) : Int) := by rw [hU1, nu_ne _ _ (Ne.symm k8.1), nu_self]
  have ui : U1 i1 = hh := by rw [hU1, nu_ne _ _ p5, nu_ne _ _ i8.1, e1]
  have uo : ∀ j : Nat, j ≠ 8 → j ≠ k1 → U1 j = U j := fun j a1 a2 => by rw [hU1, nu_ne _ _ a2, nu_ne _ _ a1]
  have bs : lt9 ((((r * r / hh : Nat)) : Int) + hh) 101 := lt9_mono (lt9_add bq bh) (by decide)
  refine z_aload_n K d_D_root_55 rfl ?_
  refine zx_gD K fd_D_32 rfl d_D_root_56 ?_
  refine z_aload_n K d_D_root_59 rfl ?_
  refine zx_gD K fd_D_14 rfl d_D_root_60 ?_
  refine z_aload_n K d_D_root_63 rfl ?_
  refine zx_gD (v := .ref (a + i1)) K fd_D_23 (by rw [hi1, ← f1]; rfl) d_D_root_64 ?_
  refine z_aload_n K d_D_root_67 rfl ?_
  refine zx_gD (v := .ref (a + j1)) K fd_D_26 (by rw [hj1, ← f1]; rfl) d_D_root_68 ?_
  refine z_callV (ci := 4) (As := [.ref (a + 8), .ref (a + i1), .ref (a + j1)]) K (v_R_add l G b0 h a S1 hV1 iN8 p1.n p2.n (by rw [u8, p2.r]; exact lt9_mono bq (by decide)) (by rw [ui, p2.r]; exact lt9_mono bh (by decide)) (by rw [u8, ui, p2.r]; exact lt9_mono bs (by decide))) ca_D_144 im_R_add se_R_add rfl (by decide) (hx_R) rfl rfl (rm _ _ _ (by decide) (by decide)) (Nat.le_of_ble_eq_true rfl) d_D_root_71 (fun r h1 hp => ?_)
  obtain ⟨S2, rfl, rfl, hV2, f2⟩ := hp
  rw [u8, ui] at hV2
  have f2' : S2.f = S.f := f2.trans f1
  obtain ⟨U2, hU2⟩ : ∃ W, W = nu U1 j1 ((((r * r / hh : Nat)) : Int) + hh) := ⟨_, rfl⟩
  rw [← hU2] at hV2
  have uj2 : U2 j1 = (((r * r / hh + hh : Nat)) : Int) := by rw [hU2, nu_self]; omega
  have u10 : U2 10 = 2 := by rw [hU2, nu_ne _ _ (Ne.symm j8.2.1), uo 10 (by decide) (Ne.symm k8.2.1), e3]
  obtain ⟨q, hq⟩ : ∃ q, q = (r * r / hh + hh) / 2 := ⟨_, rfl⟩
  have hq2 : (U2 j1).tdiv (U2 10) = (q : Int) := by
    rw [uj2, u10, Int.tdiv_eq_ediv_of_nonneg (by omega), hq]; omega
  have bq2 : lt9 (q : Int) 112 := by
    have a1 : (((((r * r / hh : Nat)) : Int) + hh).natAbs : Int) < BS ^ 101 := bs
    have a2 := BS_mono (show 101 ≤ 112 by decide)
    show ((q : Int).natAbs : Int) < BS ^ 112
    omega
  have bm2 : lt9 ((U2 j1).tmod (U2 10)) 112 := by
    rw [u10]
    have a1 : ((U2 j1).tmod 2).natAbs < 2 := by rw [Int.natAbs_tmod]; exact Nat.mod_lt _ (by decide)
    have a2 := BS_mono (show 1 ≤ 112 by decide)
    show (((U2 j1).tmod 2).natAbs : Int) < BS ^ 112
    have : BS ^ 1 = 1000000000 := by decide
    omega
  refine z_aload_n K d_D_root_74 rfl ?_
  refine zx_gD K fd_D_32 rfl d_D_root_75 ?_
  refine z_aload_n K d_D_root_78 rfl ?_
  refine zx_gD (v := .ref (a + j1)) K fd_D_26 (by rw [hj1, ← f2']; rfl) d_D_root_79 ?_
  refine z_aload_n K d_D_root_82 rfl ?_
  refine zx_gD K fd_D_20 rfl d_D_root_83 ?_
  refine z_aload_n K d_D_root_86 rfl ?_
  refine zx_gD (v := .ref (a + j1)) K fd_D_26 (by rw [hj1, ← f2']; rfl) d_D_root_87 ?_
  refine z_aload_n K d_D_root_90 rfl ?_
  refine zx_gD (v := .ref (a + k1)) K fd_D_29 (by rw [hk1, ← f2']; rfl) d_D_root_91 ?_
  refine z_callV (ci := 4) (As := [.ref (a + j1), .ref (a + 10), .ref (a + j1), .ref (a + k1)]) K (v_R_divide l G b0 h a S2 hV2 p2.n iN10 p2.n p3.n p6 (by rw [u10]; decide) (by rw [hq2, p2.r]; exact bq2) (by rw [p3.r]; exact bm2)) ca_D_79 im_R_divide se_R_divide rfl (by decide) (hx_R) rfl rfl (rm _ _ _ (by decide) (by decide)) (Nat.le_of_ble_eq_true rfl) d_D_root_94 (fun r h1 hp => ?_)
  obtain ⟨S3, rfl, rfl, hV3, f3⟩ := hp
  rw [hq2] at hV3
  have f3' : S3.f = S.f := f3.trans f2'
  obtain ⟨U3, hU3⟩ : ∃ W, W = nu (nu U2 j1 (q : Int)) k1 ((U2 j1).tmod (U2 10)) := ⟨_, rfl⟩
  rw [← hU3] at hV3
  have uj3 : U3 j1 = q := by rw [hU3, nu_ne _ _ p6, nu_self]
  have ui3 : U3 i1 = hh := by rw [hU3, nu_ne _ _ p5, nu_ne _ _ p4, hU2, nu_ne _ _ p4, ui]
  have uo3 : ∀ j : Nat, j ≠ 8 → j ≠ k1 → j ≠ j1 → U3 j = U j := fun j a1 a2 a3 => by rw [hU3, nu_ne _ _ a2, nu_ne _ _ a3, hU2, nu_ne _ _ a3, uo j a1 a2]
  have hf3 : dfr S0 S3 U0 U3 := by
    refine hf.tr ⟨fun j a1 a2 a3 a4 => uo3 j a1 ?_ ?_, by rw [f3'], by rw [f3']⟩
    · rcases p3 with z | z | z <;> omega
    · rcases p2 with z | z | z <;> omega
  obtain ⟨n3, v3⟩ := hV3 j1 p2.n
  obtain ⟨n4, v4⟩ := hV3 i1 p1.n
  rw [uj3] at v3
  rw [ui3] at v4
  refine z_aload_n K d_D_root_97 rfl ?_
  refine zx_gD (v := .ref (a + j1)) K fd_D_26 (by rw [hj1, ← f3']; rfl) d_D_root_98 ?_
  refine z_aload_n K d_D_root_101 rfl ?_
  refine zx_gD (v := .ref (a + i1)) K fd_D_23 (by rw [hi1, ← f3']; rfl) d_D_root_102 ?_
  refine z_callV (ci := 1) (As := [.ref (a + i1)]) K (c_N_compareSize l G b0 h a S3 p2.n p1.n v3 v4) ca_D_49 im_N_compareSize se_N_compareSize rfl (by decide) (hx_N p2.n) rfl rfl (rm _ _ _ (by decide) (by decide)) (Nat.le_of_ble_eq_true rfl) d_D_root_105 (fun r h1 hp => ?_)
  obtain ⟨S4, rfl, rfl, z, rfl, z1, z2, z3⟩ := hp
  rw [Int.natAbs_natCast, Int.natAbs_natCast] at z2
  refine zi_if_lt (tgt := 114) K d_D_root_108 (by decide) z1 (fun hc => ?_) (fun hc => ?_)
  · have hlt := z2.1 hc
    have hr2 : r ≤ q := root_above h0 hq
    refine z_aload_n K d_D_root_114 rfl ?_
    refine zx_gD (v := .ref (a + i1)) K fd_D_23 (by rw [hi1, ← f3']; rfl) d_D_root_115 ?_
    refine z_aload_n K d_D_root_118 rfl ?_
    refine zx_gD (v := .ref (a + j1)) K fd_D_26 (by rw [hj1, ← f3']; rfl) d_D_root_119 ?_
    refine z_callV (ci := 1) (As := [.ref (a + j1)]) K (c_N_become_N l G b0 h a S3 p1.n p2.n v3 (by rw [p1.r]; exact bq2)) ca_D_42 im_N_become_N se_N_become_N rfl (by decide) (hx_N p1.n) rfl rfl (rm _ _ _ (by decide) (by decide)) (Nat.le_of_ble_eq_true rfl) d_D_root_122 (fun r h1 hp => ?_)
    obtain ⟨S4, rfl, rfl, c1, c2⟩ := hp
    refine zi_iinc K d_D_root_125 rfl (by decide) ?_
    refine z_goto (tgt := 29) K d_D_root_128 (by decide) ?_
    refine z_re [0, 1, 2, 3] rfl ?_
    have f4 : S4.f = S.f := c1.2.trans f3'
    refine kn S4 (nu U3 i1 q) q hq hlt ⟨hV3.up c1 c2, by rw [f4]; exact hpm, by rw [f4, ← hi1, nu_self], ?_, ?_, hr2, ?_, ?_, ?_⟩ ?_
    · rw [nu_ne _ _ (Ne.symm i8.2.2), uo3 x hx8.1 (Ne.symm k8.2.2) (Ne.symm j8.2.2), e2]
    · rw [nu_ne _ _ (Ne.symm i8.2.1), uo3 10 (by decide) (Ne.symm k8.2.1) (Ne.symm j8.2.1), e3]
    · omega
    · rw [nu_ne _ _ (Ne.symm i8.2.2), uo3 x hx8.1 (Ne.symm k8.2.2) (Ne.symm j8.2.2)]; exact bx
    · have a1 : (((hh : Int)).natAbs : Int) < BS ^ 60 := bh
      show ((q : Int).natAbs : Int) < BS ^ 60
      omega
    · refine hf3.tr ⟨fun j a1 a2 a3 a4 => nu_ne _ _ ?_, by rw [c1.2], by rw [c1.2]⟩
      rcases p1 with z | z | z <;> omega
  · have hge : hh ≤ q := by omega
    refine z_goto (tgt := 131) K d_D_root_111 (by decide) ?_
    have h1 := root_end hq hge
    have hr1 : hh = r := by
      rcases Nat.lt_or_ge r hh with w | w
      · have := Nat.mul_le_mul (show r + 1 ≤ hh from w) (show r + 1 ≤ hh from w)
        have e : (r + 1) * (r + 1) = r * r + 2 * r + 1 := by grind
        omega
      · omega
    exact z_re [0, 1, 2, 3] rfl (ke S3 U3 hV3 (by rw [f3']; exact hpm) (by rw [f3', ← hi1, ui3, hr1]) hf3)
set_option maxHeartbeats 4000000 in
set_option maxRecDepth 100000 in
theorem lp_D_root (K : zC p s m args c b_D_root R_D 4 b0 G) (hRm : 4 ≤ R.frames ∧ 114 ≤ R.locals) (hkc : kc ≤ R.cells) (hks : ks ≤ R.slots) {S0 : xS} {U0 : Nat → Int} {x o r : Nat} (hx0 : isN x = true) (hx8 : x ≠ 8 ∧ x ≠ 10 ∧ x ≠ 12 ∧ x ≠ 14 ∧ x ≠ 16) (hr : 0 < r)
    (ke : ∀ (S' : xS) (U' : Nat → Int), VX S' U' → pm S'.f → U' S'.f.hi = r → dfr S0 S' U0 U' → zW p l e R s m args below meth c 4 b0 G kc ks Q (hx G h a S') 131 [(0, .ref (a + 7)), (2, .ref (a + o))] []) :
    ∀ (N i : Nat) (S : xS) (U : Nat → Int) (hh : Nat), i + N ≤ 99990 → hh - r < 2 ^ N → RT S U x r hh → dfr S0 S U0 U → zW p l e R s m args below meth c 4 b0 G kc ks Q (hx G h a S) 29 [(0, .ref (a + 7)), (1, .ref (a + x)), (2, .ref (a + o)), (3, .int (jI i))] [] := by
  intro N
  induction N with
  | zero =>
    intro i S U hh hi hN hT hf
    refine st_D_root K hRm hkc hks hx0 hx8 (by omega) hr hT hf (fun S' U' a1 a2 a3 a4 => z_re [0, 2] rfl (ke S' U' a1 a2 a3 a4)) (fun S' U' q hq hlt hT' hf' => ?_)
    exfalso
    have hrh := hT.2.2.2.2.2.1
    have hr2 := root_above hT.2.2.2.2.2.2.1 hq
    simp at hN
    omega
  | succ N ih =>
    intro i S U hh hi hN hT hf
    refine st_D_root K hRm hkc hks hx0 hx8 (by omega) hr hT hf (fun S' U' a1 a2 a3 a4 => z_re [0, 2] rfl (ke S' U' a1 a2 a3 a4)) (fun S' U' q hq hlt hT' hf' => ?_)
    refine ih (i + 1) S' U' q (by omega) ?_ hT' hf'
    have := root_half hT.2.2.2.2.2.1 hT.2.2.2.2.2.2.1 hq
    rw [Nat.pow_succ] at hN
    omega
set_option maxHeartbeats 4000000 in
set_option maxRecDepth 100000 in
/-- root: of a square -/
theorem v_D_root (l : Launch) (G : zG) (b0 : Nat) (h : zH) (a : Nat) (S : xS) {U : Nat → Int} {x o r : Nat} (hV : VX S U) (hpm : pm S.f) (hx0 : isN x = true) (ho0 : isN o = true) (hx8 : x ≠ 8 ∧ x ≠ 10 ∧ x ≠ 12 ∧ x ≠ 14 ∧ x ≠ 16) (ho8 : o ≠ 8 ∧ o ≠ 12 ∧ o ≠ 14 ∧ o ≠ 16) (hrp : 0 < r) (h10 : U 10 = 2) (ex : U x = ((r * r : Nat) : Int)) (bx : lt9 (U x) 100) (fo : lt9 (r : Int) (nR o)) : xMet l G b0 y_D_root b_D_root 4 none 4 114 h a [.ref (a + 7), .ref (a + x), .ref (a + o)] S (fun rr S' => rr = none ∧ ∃ U', VX S' U' ∧ pm S'.f ∧ U' o = r ∧ dfo o S S' U U') :=
  z_met (by decide) (Nat.le_of_ble_eq_true rfl) fun p e s m below meth c K hr hlk hnm => by
  obtain ⟨nx, vx⟩ := hV x hx0
  have hpm' := hpm
  obtain ⟨p1, p2, p3, p4, p5, p6⟩ := hpm'
  obtain ⟨i1, hi1⟩ : ∃ i, i = S.f.hi := ⟨_, rfl⟩
  rw [← hi1] at p1
  have i8 : i1 ≠ 10 ∧ i1 ≠ x := by rcases p1 with q | q | q <;> omega
  have rr0 : 0 < r * r := Nat.mul_pos hrp hrp
  refine z_aload_n K d_D_root_0 rfl ?_
  refine z_callV (ci := 1) (As := []) K (c_N_isZero l G b0 h a S hx0 vx) ca_D_68 im_N_isZero se_N_isZero rfl (by decide) (hx_N hx0) rfl rfl (by decide) (Nat.le_of_ble_eq_true rfl) d_D_root_1 (fun r h1 hp => ?_)
  obtain ⟨S1, rfl, rfl, b, rfl, c1, c2⟩ := hp
  refine zi_if_eq (tgt := 12) K d_D_root_4 (by decide) (by omega) (fun hc => ?_) (fun hc => absurd (c2.1 (by omega)) (by rw [ex]; omega))
  refine z_aload_n K d_D_root_12 rfl ?_
  refine z_callV (ci := 1) (As := []) K (c_N_digitCount l G b0 h a S hx0 vx) ca_D_136 im_N_digitCount se_N_digitCount rfl (by decide) (hx_N hx0) rfl rfl (by decide) (Nat.le_of_ble_eq_true rfl) d_D_root_13 (fun r h1 hp => ?_)
  obtain ⟨S1, rfl, rfl, d, rfl, d1, d2⟩ := hp
  refine z_iconst (v := jI 1) K d_D_root_16 rfl ?_
  refine zi_iadd K d_D_root_17 ?_
  refine z_iconst (v := jI 2) K d_D_root_18 rfl ?_
  refine zi_idiv K d_D_root_19 (by omega) (by decide) (by decide) ?_
  rw [show ((d : Int) + 1).tdiv 2 = (((d + 1) / 2 : Nat) : Int) by rw [Int.tdiv_eq_ediv_of_nonneg (by omega)]; omega]
  refine z_aload_n K d_D_root_20 rfl ?_
  refine zx_gD (v := .ref (a + i1)) K fd_D_23 (by rw [hi1]; rfl) d_D_root_21 ?_
  obtain ⟨zz, hzz⟩ : ∃ z, z = (d + 1) / 2 := ⟨_, rfl⟩
  rw [← hzz]
  have dd : d ≤ 900 := by
    rcases Nat.lt_or_ge 900 d with q | q
    · exfalso
      have a1 := (d1.gt (k := 900) (by decide)).1 q
      have a2 : ((U x).natAbs : Int) < BS ^ 100 := bx
      rw [BS_ten] at a2
      have := Int.ofNat_lt.1 a2
      omega
    · exact q
  refine z_callS (As := [.int (jI zz), .ref (a + i1)]) K (c_D_powerOfTen l G b0 h a S (o := i1) (z := zz) p1.n (by rw [p1.r]; omega)) ca_D_140 sm_D_powerOfTen rfl rfl (by decide) (Nat.le_of_ble_eq_true rfl) d_D_root_24 (fun r h1 hp => ?_)
  obtain ⟨S1, rfl, rfl, k1, n1, k2⟩ := hp
  refine z_iconst (v := jI 0) K d_D_root_27 rfl ?_
  refine z_istore_n K d_D_root_28 (by decide) ?_
  refine z_re [0, 1, 2, 3] rfl ?_
  have hrz : r ≤ 10 ^ zz := by
    rcases Nat.lt_or_ge (10 ^ zz) r with q | q
    · exfalso
      have a1 := Nat.mul_le_mul (Nat.le_of_lt q) (Nat.le_of_lt q)
      rw [← Nat.pow_add] at a1
      have a2 := d1.2.1
      rw [ex, Int.natAbs_natCast] at a2
      have a3 := ten_mono (show d ≤ zz + zz by omega)
      omega
    · exact q
  have hf1 : dfr S S1 U (nu U i1 ((10 ^ zz : Nat) : Int)) := by
    refine ⟨fun j a1 a2 a3 a4 => nu_ne _ _ ?_, by rw [k1.2], by rw [k1.2]⟩
    rcases p1 with z | z | z <;> omega
  have hbh : lt9 (((10 ^ zz : Nat) : Nat) : Int) 60 := by
    show ((((10 ^ zz : Nat) : Int)).natAbs : Int) < BS ^ 60
    rw [BS_ten, Int.natAbs_natCast]
    exact Int.ofNat_lt.2 (Nat.pow_lt_pow_right (by decide) (by omega))
  refine lp_D_root (S0 := S) (U0 := U) (r := r) K ⟨Nat.le_of_ble_eq_true rfl, Nat.le_of_ble_eq_true rfl⟩ (Nat.zero_le _) (Nat.zero_le _) hx0 hx8 hrp (fun S2 U2 w1 w2 w3 w4 => ?_) 2000 0 S1 _ (10 ^ zz) (by decide) ?_ ⟨hV.up k1 k2, by rw [k1.2]; exact hpm, by rw [k1.2, ← hi1, nu_self], by rw [nu_ne _ _ (Ne.symm i8.2)]; exact ex, by rw [nu_ne _ _ (Ne.symm i8.1)]; exact h10, hrz, Nat.pow_pos (by decide), by rw [nu_ne _ _ (Ne.symm i8.2)]; exact bx, hbh⟩ hf1
  rotate_left
  · have a1 : 10 ^ zz ≤ (2 ^ 4) ^ zz := Nat.pow_le_pow_left (by decide) zz
    rw [← Nat.pow_mul] at a1
    have a2 : 2 ^ (4 * zz) < 2 ^ 2000 := Nat.pow_lt_pow_right (by decide) (by omega)
    omega
  obtain ⟨n9, v9⟩ := w1 _ w2.1.n
  rw [w3] at v9
  refine z_aload_n K d_D_root_131 rfl ?_
  refine z_aload_n K d_D_root_132 rfl ?_
  refine zx_gD K fd_D_23 rfl d_D_root_133 ?_
  refine z_callV (ci := 1) (As := [.ref (a + S2.f.hi)]) K (c_N_become_N l G b0 h a S2 (k := o) ho0 w2.1.n v9 fo) ca_D_42 im_N_become_N se_N_become_N rfl (by decide) (hx_N ho0) rfl rfl (by decide) (Nat.le_of_ble_eq_true rfl) d_D_root_136 (fun r h1 hp => ?_)
  obtain ⟨S3, rfl, rfl, k7, k8⟩ := hp
  refine z_vret K hr hlk d_D_root_139 ⟨_, rfl, rfl, _, w1.up k7 k8, by rw [k7.2]; exact w2, nu_self _ _ _, fun j j0 j1 j2 j3 j4 => ?_, ?_, ?_⟩
  · rw [nu_ne _ _ j0]; exact w4.1 j j1 j2 j3 j4
  · rw [k7.2]; exact w4.2.1
  · rw [k7.2]; exact w4.2.2
end D6
