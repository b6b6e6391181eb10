section R1
variable {p : Program} {l : Launch} {e : Env} {R : Room} {s : State} {m : MethodId} {args : Array Value} {below : List Frame} {meth : Method} {c : Code} {Q : State → Prop} {b0 kc ks : Nat} {G : zG} {h : zH} {a : Nat} {cd : Int}
theorem NR.lbd {S : xS} {k n : Nat} {v : Int} (h : NR S k n v) (i : Int) : 0 ≤ lb S k n i ∧ lb S k n i < 1000000000 := by
  unfold lb
  by_cases q : 0 ≤ i ∧ i < n
  · rw [if_pos q]; exact h.limb q.1 q.2
  · rw [if_neg q]; omega
theorem NR.lbv {S : xS} {k n N : Nat} {v : Int} (h : NR S k n v) (hN : n ≤ N) : dv (lb S k n) 0 N = v.natAbs := by
  obtain ⟨j, rfl⟩ := Nat.le.dest hN
  rw [h.2.2.2.2.2, ← dv_dx (f := S.C k) (b := 0) (n := n) j]
  refine dv_congr (fun i hi => ?_)
  rw [Int.zero_add]
  unfold lb dx
  by_cases q : (i : Int) < n
  · rw [if_pos ⟨by omega, q⟩, if_pos q, Int.zero_add]
  · rw [if_neg (by omega), if_neg q]
theorem lb_sC {S : xS} {o x n : Nat} {f : Int → Int} {i : Int} (hf : f i = S.C o i) : lb (S.sC (nu S.C o f)) x n i = lb S x n i := by
  unfold lb
  by_cases q : 0 ≤ i ∧ i < n
  · rw [if_pos q, if_pos q]
    show nu S.C o f x i = S.C x i
    by_cases e : x = o
    · subst e; rw [nu_self]; exact hf
    · rw [nu_ne _ _ e]
  · rw [if_neg q, if_neg q]
theorem sC_sC {S : xS} {o : Nat} {f : Int → Int} {i v : Int} : (S.sC (nu S.C o f)).sC (nu (S.sC (nu S.C o f)).C o (iu ((S.sC (nu S.C o f)).C o) i v)) = S.sC (nu S.C o (iu f i v)) := by
  show (nu (nu S.C o f) o (iu (nu S.C o f o) i v), S.2) = _
  rw [nu_nu, nu_self]
theorem sC_id {S : xS} {o : Nat} : S = S.sC (nu S.C o (S.C o)) := by
  show S = (nu S.C o (S.C o), S.2)
  rw [nu_id]
set_option maxHeartbeats 4000000 in
set_option maxRecDepth 100000 in
theorem lp_R_addSizes (K : zC p s m args c b_R_addSizes R_R 8 b0 G) (hRm : 1 ≤ R.frames ∧ 40 ≤ R.locals) (hkc : kc ≤ R.cells) (hks : ks ≤ R.slots) {S : xS} {x y o nx ny : Nat} {v w : Int} {N : Nat} (hx0 : isN x = true) (hy0 : isN y = true) (ho0 : isN o = true) (vx : NR S x nx v) (vy : NR S y ny w) (hN : N ≤ nR o)
    (kx : ∀ (f : Int → Int) (cy : Int), dg f 0 N → (cy = 0 ∨ cy = 1) → (∀ j : Int, N ≤ j → f j = S.C o j) → dv f 0 N + cy * BS ^ N = dv (lb S x nx) 0 N + dv (lb S y ny) 0 N → zW p l e R s m args below meth c 8 b0 G kc ks Q (hx G h a (S.sC (nu S.C o f))) 103 [(0, .ref (a + 1)), (1, .ref (a + x)), (2, .ref (a + y)), (3, .ref (a + o)), (4, .int (jI N)), (5, .int (jI cy))] []) :
    ∀ (d i : Nat) (f : Int → Int) (cy : Int), i + d = N → dg f 0 i → (cy = 0 ∨ cy = 1) → (∀ j : Int, i ≤ j → f j = S.C o j) → dv f 0 i + cy * BS ^ i = dv (lb S x nx) 0 i + dv (lb S y ny) 0 i → zW p l e R s m args below meth c 8 b0 G kc ks Q (hx G h a (S.sC (nu S.C o f))) 35 [(0, .ref (a + 1)), (1, .ref (a + x)), (2, .ref (a + y)), (3, .ref (a + o)), (4, .int (jI N)), (5, .int (jI cy)), (6, .int (jI i))] [] := by
  intro d
  have hR := nR_le o
  induction d with
  | zero =>
    intro i f cy hi hg hcy hf hv
    have : i = N := by omega
    subst this
    refine z_iload K d_R_addSizes_35 rfl ?_
    refine z_iload K d_R_addSizes_37 rfl ?_
    refine zi_icmp_ge (tgt := 103) K d_R_addSizes_39 (by decide) (by omega) (by omega) (fun hc => ?_) (fun hc => absurd hc (by omega))
    exact z_re [0, 1, 2, 3, 4, 5] rfl (kx f cy hg hcy hf hv)
  | succ d ih =>
    intro i f cy hi hg hcy hf hv
    have bx := vx.lbd i
    have by1 := vy.lbd i
    have hfi := hf i (by omega)
    refine z_iload K d_R_addSizes_35 rfl ?_
    refine z_iload K d_R_addSizes_37 rfl ?_
    refine zi_icmp_ge (tgt := 103) K d_R_addSizes_39 (by decide) (by omega) (by omega) (fun hc => absurd hc (by omega)) (fun hc => ?_)
    refine z_aload_n K d_R_addSizes_42 rfl ?_
    refine z_iload K d_R_addSizes_43 rfl ?_
    refine z_callV (ci := 1) (As := [.int (jI i)]) K (c_N_limb l G b0 h a (S.sC (nu S.C o f)) (n := nx) hx0 vx.1 vx.2.1 (by omega)) ca_R_66 im_N_limb se_N_limb rfl (by decide) (hx_N hx0) rfl rfl (rm_ok ⟨hRm.1, hRm.2, hkc, hks⟩ (by decide) (by decide)) (Nat.le_of_ble_eq_true rfl) d_R_addSizes_45 (fun o h1 hp => ?_)
    obtain ⟨S1, rfl, rfl, rfl⟩ := hp
    rw [lb_sC hfi]
    refine z_aload_n K d_R_addSizes_48 rfl ?_
    refine z_iload K d_R_addSizes_49 rfl ?_
    refine z_callV (ci := 1) (As := [.int (jI i)]) K (c_N_limb l G b0 h a (S.sC (nu S.C o f)) (n := ny) hy0 vy.1 vy.2.1 (by omega)) ca_R_66 im_N_limb se_N_limb rfl (by decide) (hx_N hy0) rfl rfl (rm_ok ⟨hRm.1, hRm.2, hkc, hks⟩ (by decide) (by decide)) (Nat.le_of_ble_eq_true rfl) d_R_addSizes_51 (fun o h1 hp => ?_)
    obtain ⟨S1, rfl, rfl, rfl⟩ := hp
    rw [lb_sC hfi]
    refine zi_iadd K d_R_addSizes_54 ?_
    refine z_iload K d_R_addSizes_55 rfl ?_
    refine zi_iadd K d_R_addSizes_57 ?_
    refine z_istore K d_R_addSizes_58 (by decide) ?_
    refine z_iload K d_R_addSizes_60 rfl ?_
    refine z_ldc (v := jI 1000000000) K d_R_addSizes_62 kc_R_70 ?_
    have step : ∀ c1 : Int, (c1 = 0 ∨ c1 = 1) → 0 ≤ lb S x nx i + lb S y ny i + cy - c1 * 1000000000 → lb S x nx i + lb S y ny i + cy - c1 * 1000000000 < 1000000000 → zW p l e R s m args below meth c 8 b0 G kc ks Q (hx G h a (S.sC (nu S.C o (iu f i (lb S x nx i + lb S y ny i + cy - c1 * 1000000000))))) 35 [(0, .ref (a + 1)), (1, .ref (a + x)), (2, .ref (a + y)), (3, .ref (a + o)), (4, .int (jI N)), (5, .int (jI c1)), (6, .int (jI ((i + 1 : Nat) : Int)))] [] := by
      intro c1 h1 h2 h3
      refine ih (i + 1) _ c1 (by omega) (fun j hj => ?_) h1 (fun j hj => ?_) ?_
      · by_cases e : j = i
        · subst e; rw [Int.zero_add, iu_self]; exact ⟨h2, h3⟩
        · rw [iu_ne _ _ (by omega)]; exact hg j (by omega)
      · rw [iu_ne _ _ (by omega)]; exact hf j (by omega)
      · show dv (iu f i _) 0 i + iu f i _ (0 + i) * BS ^ i + c1 * (BS ^ i * BS) = dv (lb S x nx) 0 i + lb S x nx (0 + i) * BS ^ i + (dv (lb S y ny) 0 i + lb S y ny (0 + i) * BS ^ i)
        rw [dv_iu (fun j hj => by omega), Int.zero_add, iu_self]
        have := add_step (d1 := lb S x nx i) (d2 := lb S y ny i) (c1 := c1) hv
        rw [show cy + lb S x nx i + lb S y ny i - c1 * 1000000000 = lb S x nx i + lb S y ny i + cy - c1 * 1000000000 by omega] at this
        exact this
    refine zi_icmp_lt (tgt := 71) K d_R_addSizes_64 (by decide) (by omega) (by omega) (fun hc => ?_) (fun hc => ?_)
    · refine z_iconst (v := jI 0) K d_R_addSizes_71 rfl ?_
      refine z_istore K d_R_addSizes_72 (by decide) ?_
      refine z_aload_n K d_R_addSizes_74 rfl ?_
      refine zx_gN K (by first | assumption | rfl) fd_R_59 rfl d_R_addSizes_75 ?_
      refine z_iload K d_R_addSizes_78 rfl ?_
      refine z_iload K d_R_addSizes_80 rfl ?_
      refine z_iconst (v := jI 1) K d_R_addSizes_82 rfl ?_
      refine zi_icmp_ne (tgt := 94) K d_R_addSizes_83 (by decide) (by omega) (by omega) (fun hc => ?_) (fun hc => absurd hc (by omega))
      refine z_iload K d_R_addSizes_94 rfl ?_
      refine zx_cst K ho0 (by omega) d_R_addSizes_96 ?_
      refine z_hp (congrArg (hx G h a) sC_sC) ?_
      refine zi_iinc K d_R_addSizes_97 rfl (by decide) ?_
      refine z_goto (tgt := 35) K d_R_addSizes_100 (by decide) ?_
      have := step 0 (Or.inl rfl) (by omega) (by omega)
      rw [show lb S x nx i + lb S y ny i + cy - 0 * 1000000000 = lb S x nx i + lb S y ny i + cy by omega] at this
      exact z_re [0, 1, 2, 3, 4, 5, 6] rfl this
    · refine z_iconst (v := jI 1) K d_R_addSizes_67 rfl ?_
      refine z_goto (tgt := 72) K d_R_addSizes_68 (by decide) ?_
      refine z_istore K d_R_addSizes_72 (by decide) ?_
      refine z_aload_n K d_R_addSizes_74 rfl ?_
      refine zx_gN K (by first | assumption | rfl) fd_R_59 rfl d_R_addSizes_75 ?_
      refine z_iload K d_R_addSizes_78 rfl ?_
      refine z_iload K d_R_addSizes_80 rfl ?_
      refine z_iconst (v := jI 1) K d_R_addSizes_82 rfl ?_
      refine zi_icmp_ne (tgt := 94) K d_R_addSizes_83 (by decide) (by omega) (by omega) (fun hc => absurd rfl hc) (fun hc => ?_)
      refine z_iload K d_R_addSizes_86 rfl ?_
      refine z_ldc (v := jI 1000000000) K d_R_addSizes_88 kc_R_70 ?_
      refine zi_isub K d_R_addSizes_90 ?_
      refine z_goto (tgt := 96) K d_R_addSizes_91 (by decide) ?_
      refine zx_cst K ho0 (by omega) d_R_addSizes_96 ?_
      refine z_hp (congrArg (hx G h a) sC_sC) ?_
      refine zi_iinc K d_R_addSizes_97 rfl (by decide) ?_
      refine z_goto (tgt := 35) K d_R_addSizes_100 (by decide) ?_
      have := step 1 (Or.inr rfl) (by omega) (by omega)
      rw [show lb S x nx i + lb S y ny i + cy - 1 * 1000000000 = lb S x nx i + lb S y ny i + cy - 1000000000 by omega] at this
      exact z_re [0, 1, 2, 3, 4, 5, 6] rfl this
set_option maxHeartbeats 4000000 in
set_option maxRecDepth 100000 in
theorem c_R_addSizes (l : Launch) (G : zG) (b0 : Nat) (h : zH) (a : Nat) (S : xS) {x y o nx ny : Nat} {v w : Int} (hx0 : isN x = true) (hy0 : isN y = true) (ho0 : isN o = true) (vx : NR S x nx v) (vy : NR S y ny w) (fx : nx ≤ nR o) (fy : ny ≤ nR o) (fs : (v.natAbs : Int) + w.natAbs < BS ^ nR o) : xMet l G b0 y_R_addSizes b_R_addSizes 8 none 1 40 h a [.ref (a + 1), .ref (a + x), .ref (a + y), .ref (a + o)] S (fun r S' => r = none ∧ xK o S S' ∧ ∃ n : Nat, NR S' o n (sgn (S.B x) ((v.natAbs : Int) + w.natAbs))) :=
  z_met (by decide) (Nat.le_of_ble_eq_true rfl) fun p e s m below meth c K hr hlk hnm => by
  have hR := nR_le o
  have hb := vx.b01
  have l1 := vx.1
  have l2 := vy.1
  have hN : (max nx ny : Int) = ((max nx ny : Nat) : Int) := by omega
  refine z_aload_n K d_R_addSizes_0 rfl ?_
  refine zx_gN K (by first | assumption | rfl) fd_R_49 rfl d_R_addSizes_1 ?_
  refine z_aload_n K d_R_addSizes_4 rfl ?_
  refine zx_gN K hy0 fd_R_49 rfl d_R_addSizes_5 ?_
  rw [l1, l2]
  refine z_callS (As := [.int (jI nx), .int (jI ny)]) K (c_max l G b0 (hx G h a S) (x := nx) (y := ny) (by omega) (by omega)) ca_R_53 sm_max rfl rfl (by decide) (Nat.le_of_ble_eq_true rfl) d_R_addSizes_8 (fun r h1 hp => ?_)
  obtain ⟨rfl, rfl⟩ := hp
  rw [hN]
  refine z_istore K d_R_addSizes_11 (by decide) ?_
  refine z_iload K d_R_addSizes_13 rfl ?_
  refine z_aload_n K d_R_addSizes_15 rfl ?_
  refine zx_gN K (by first | assumption | rfl) fd_R_59 rfl d_R_addSizes_16 ?_
  refine zx_alen K (by first | assumption | rfl) d_R_addSizes_19 ?_
  refine zi_icmp_le (tgt := 29) K d_R_addSizes_20 (by decide) (by omega) (by omega) (fun hc => ?_) (fun hc => absurd hc (by omega))
  refine z_iconst (v := jI 0) K d_R_addSizes_29 rfl ?_
  refine z_istore K d_R_addSizes_30 (by decide) ?_
  refine z_iconst (v := jI 0) K d_R_addSizes_32 rfl ?_
  refine z_istore K d_R_addSizes_33 (by decide) ?_
  refine z_re [0, 1, 2, 3, 4, 5, 6] rfl ?_
  refine z_hp (congrArg (hx G h a) (sC_id (o := o))) ?_
  refine lp_R_addSizes K ⟨Nat.le_of_ble_eq_true rfl, Nat.le_of_ble_eq_true rfl⟩ (Nat.zero_le _) (Nat.zero_le _) hx0 hy0 ho0 vx vy (N := max nx ny) (by omega) (fun f cy hg hcy hf hv => ?_) (max nx ny) 0 (S.C o) 0 (by omega) (fun j hj => absurd hj (by omega)) (Or.inl rfl) (fun j hj => rfl) (by simp [dv])
  rw [vx.lbv (by omega), vy.lbv (by omega)] at hv
  have hbd := dv_bd (f := f) (b := 0) hg
  generalize hNN : max nx ny = N at *
  have hNo : N ≤ nR o := by omega
  have fin : ∀ (M : Nat) (g : Int → Int) (S2 : xS), M ≤ nR o → S2 = S.sC (nu S.C o g) → dg g 0 M → dv g 0 M = (v.natAbs : Int) + w.natAbs → zW p l e (zRm 1 40 0 0) s m ([.ref (a + 1), .ref (a + x), .ref (a + y), .ref (a + o)] : List Value).toArray below meth c 8 b0 G 0 0 (MQ below (zQ G b0 (fun r h' => ∃ S' : xS, h' = hx G h a S' ∧ (r = none ∧ xK o S S' ∧ ∃ n : Nat, NR S' o n (sgn (S.B x) ((v.natAbs : Int) + w.natAbs))))) ([.ref (a + 1), .ref (a + x), .ref (a + y), .ref (a + o)] : List Value).toArray s 0 0 (z_A b0)) (hx G h a S2) 149 [] [.int (jI (S.B x)), .int (jI M), .ref (a + o)] := by
    intro M g S2 hM e2 hg2 hv2
    subst e2
    have hg3 : dg ((S.sC (nu S.C o g)).C o) 0 M := by show dg (nu S.C o g o) 0 M; rw [nu_self]; exact hg2
    refine z_callV (ci := 1) (As := [.int (jI M), .int (jI (S.B x))]) K (c_N_settle l G b0 h a (S.sC (nu S.C o g)) ho0 hM hb hg3) ca_R_71 im_N_settle se_N_settle rfl (by decide) (hx_N ho0) rfl rfl (by decide) (Nat.le_of_ble_eq_true rfl) d_R_addSizes_149 (fun r h1 hp => ?_)
    obtain ⟨S1, rfl, rfl, k1, k2, n, k3⟩ := hp
    refine z_vret K hr hlk d_R_addSizes_152 ⟨_, rfl, rfl, ⟨fun j hj => ⟨((k1.1 j hj).1).trans (nu_ne _ _ hj), (k1.1 j hj).2.1, (k1.1 j hj).2.2⟩, k1.2⟩, n, ?_⟩
    rw [show dv ((S.sC (nu S.C o g)).C o) 0 M = (v.natAbs : Int) + w.natAbs by show dv (nu S.C o g o) 0 M = _; rw [nu_self]; exact hv2] at k3
    exact k3
  refine z_iload K d_R_addSizes_103 rfl ?_
  refine z_iconst (v := jI 1) K d_R_addSizes_105 rfl ?_
  refine zi_icmp_ne (tgt := 125) K d_R_addSizes_106 (by decide) (by omega) (by omega) (fun hc => ?_) (fun hc => ?_)
  · have h0 : cy = 0 := by omega
    subst h0
    refine z_iload K d_R_addSizes_125 rfl ?_
    refine z_iconst (v := jI 1) K d_R_addSizes_127 rfl ?_
    refine zi_icmp_ne (tgt := 139) K d_R_addSizes_128 (by decide) (by omega) (by omega) (fun hc => ?_) (fun hc => absurd hc (by omega))
    refine z_aload_n K d_R_addSizes_139 rfl ?_
    refine z_iload K d_R_addSizes_140 rfl ?_
    refine z_iload K d_R_addSizes_142 rfl ?_
    refine zi_iadd K d_R_addSizes_144 ?_
    refine z_aload_n K d_R_addSizes_145 rfl ?_
    refine zx_gN K (by first | assumption | rfl) fd_R_30 rfl d_R_addSizes_146 ?_
    rw [show (N : Int) + 0 = N by omega]
    exact z_re [] rfl (fin N f _ hNo rfl hg (by omega))
  · have h0 : cy = 1 := by omega
    subst h0
    have hlt : N < nR o := by
      rcases Nat.lt_or_ge N (nR o) with q | q
      · exact q
      · have : N = nR o := by omega
        rw [← this] at fs
        omega
    refine z_iload K d_R_addSizes_109 rfl ?_
    refine z_aload_n K d_R_addSizes_111 rfl ?_
    refine zx_gN K (by first | assumption | rfl) fd_R_59 rfl d_R_addSizes_112 ?_
    refine zx_alen K (by first | assumption | rfl) d_R_addSizes_115 ?_
    refine zi_icmp_ne (tgt := 125) K d_R_addSizes_116 (by decide) (by omega) (by omega) (fun hc => ?_) (fun hc => absurd hc (by omega))
    refine z_iload K d_R_addSizes_125 rfl ?_
    refine z_iconst (v := jI 1) K d_R_addSizes_127 rfl ?_
    refine zi_icmp_ne (tgt := 139) K d_R_addSizes_128 (by decide) (by omega) (by omega) (fun hc => absurd rfl hc) (fun hc => ?_)
    refine z_aload_n K d_R_addSizes_131 rfl ?_
    refine zx_gN K (by first | assumption | rfl) fd_R_59 rfl d_R_addSizes_132 ?_
    refine z_iload K d_R_addSizes_135 rfl ?_
    refine z_iconst (v := jI 1) K d_R_addSizes_137 rfl ?_
    refine zx_cst K ho0 (by omega) d_R_addSizes_138 ?_
    refine z_hp (congrArg (hx G h a) sC_sC) ?_
    refine z_aload_n K d_R_addSizes_139 rfl ?_
    refine z_iload K d_R_addSizes_140 rfl ?_
    refine z_iload K d_R_addSizes_142 rfl ?_
    refine zi_iadd K d_R_addSizes_144 ?_
    refine z_aload_n K d_R_addSizes_145 rfl ?_
    refine zx_gN K (by first | assumption | rfl) fd_R_30 rfl d_R_addSizes_146 ?_
    rw [show (N : Int) + 1 = ((N + 1 : Nat) : Int) by omega]
    refine z_re [] rfl (fin (N + 1) (iu f N 1) _ (by omega) rfl (fun j hj => ?_) ?_)
    · by_cases e : j = N
      · subst e; rw [Int.zero_add, iu_self]; decide
      · rw [iu_ne _ _ (by omega)]; exact hg j (by omega)
    · show dv (iu f N 1) 0 N + iu f N 1 (0 + N) * BS ^ N = _
      rw [dv_iu (fun j hj => by omega), Int.zero_add, iu_self]
      exact hv
end R1
