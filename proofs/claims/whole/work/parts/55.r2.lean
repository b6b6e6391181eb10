section R2
variable {p : Program} {l : Launch} {e : Env} {R : Room} {s : State} {m : MethodId} {args : Array Value} {below : List Frame} {meth : Method} {c : Code} {Q : State → Prop} {b0 kc ks : Nat} {G : zG} {h : zH} {a : Nat} {cd : Int}
set_option maxHeartbeats 4000000 in
set_option maxRecDepth 100000 in
theorem lp_R_subtractSizes (K : zC p s m args c b_R_subtractSizes R_R 9 b0 G) (hRm : 1 ≤ R.frames ∧ 23 ≤ R.locals) (hkc : kc ≤ R.cells) (hks : ks ≤ R.slots) {S : xS} {x y o nx ny : Nat} {v w w3 : Int} (hx0 : isN x = true) (hy0 : isN y = true) (ho0 : isN o = true) (vx : NR S x nx v) (vy : NR S y ny w) (hN : nx ≤ nR o)
    (kx : ∀ (f : Int → Int) (cy : Int), dg f 0 nx → (cy = 0 ∨ cy = 1) → dv f 0 nx - cy * BS ^ nx = dv (lb S x nx) 0 nx - dv (lb S y ny) 0 nx → zW p l e R s m args below meth c 9 b0 G kc ks Q (hx G h a (S.sC (nu S.C o f))) 97 [(3, .int (jI w3)), (4, .ref (a + o)), (5, .int (jI nx))] []) :
    ∀ (d i : Nat) (f : Int → Int) (cy : Int), i + d = nx → dg f 0 i → (cy = 0 ∨ cy = 1) → (∀ j : Int, i ≤ j → f j = S.C o j) → dv f 0 i - cy * BS ^ i = dv (lb S x nx) 0 i - dv (lb S y ny) 0 i → zW p l e R s m args below meth c 9 b0 G kc ks Q (hx G h a (S.sC (nu S.C o f))) 30 [(0, .ref (a + 1)), (1, .ref (a + x)), (2, .ref (a + y)), (3, .int (jI w3)), (4, .ref (a + o)), (5, .int (jI nx)), (6, .int (jI cy)), (7, .int (jI i))] [] := by
  intro d
  have hR := nR_le o
  induction d with
  | zero =>
    intro i f cy hi hg hcy hf hv
    have : i = nx := by omega
    subst this
    refine z_iload K d_R_subtractSizes_30 rfl ?_
    refine z_iload K d_R_subtractSizes_32 rfl ?_
    refine zi_icmp_ge (tgt := 97) K d_R_subtractSizes_34 (by decide) (by omega) (by omega) (fun hc => ?_) (fun hc => absurd hc (by omega))
    exact z_re [3, 4, 5] rfl (kx f cy hg hcy hv)
  | succ d ih =>
    intro i f cy hi hg hcy hf hv
    have bx := vx.lbd i
    have by1 := vy.lbd i
    have hfi := hf i (by omega)
    refine z_iload K d_R_subtractSizes_30 rfl ?_
    refine z_iload K d_R_subtractSizes_32 rfl ?_
    refine zi_icmp_ge (tgt := 97) K d_R_subtractSizes_34 (by decide) (by omega) (by omega) (fun hc => absurd hc (by omega)) (fun hc => ?_)
    refine z_aload_n K d_R_subtractSizes_37 rfl ?_
    refine z_iload K d_R_subtractSizes_38 rfl ?_
    refine z_callV (ci := 1) (As := [.int (jI i)]) K (c_N_limb l G b0 h a (S.sC (nu S.C o f)) (n := nx) hx0 vx.1 vx.2.1 (by omega)) ca_R_66 im_N_limb se_N_limb rfl (by decide) (hx_N hx0) rfl rfl (rm_ok ⟨hRm.1, hRm.2, hkc, hks⟩ (by decide) (by decide)) (Nat.le_of_ble_eq_true rfl) d_R_subtractSizes_40 (fun o h1 hp => ?_)
    obtain ⟨S1, rfl, rfl, rfl⟩ := hp
    rw [lb_sC hfi]
    refine z_aload_n K d_R_subtractSizes_43 rfl ?_
    refine z_iload K d_R_subtractSizes_44 rfl ?_
    refine z_callV (ci := 1) (As := [.int (jI i)]) K (c_N_limb l G b0 h a (S.sC (nu S.C o f)) (n := ny) hy0 vy.1 vy.2.1 (by omega)) ca_R_66 im_N_limb se_N_limb rfl (by decide) (hx_N hy0) rfl rfl (rm_ok ⟨hRm.1, hRm.2, hkc, hks⟩ (by decide) (by decide)) (Nat.le_of_ble_eq_true rfl) d_R_subtractSizes_46 (fun o h1 hp => ?_)
    obtain ⟨S1, rfl, rfl, rfl⟩ := hp
    rw [lb_sC hfi]
    refine zi_isub K d_R_subtractSizes_49 ?_
    refine z_iload K d_R_subtractSizes_50 rfl ?_
    refine zi_isub K d_R_subtractSizes_52 ?_
    refine z_istore K d_R_subtractSizes_53 (by decide) ?_
    refine z_iload K d_R_subtractSizes_55 rfl ?_
    have step : ∀ c1 : Int, (c1 = 0 ∨ c1 = 1) → 0 ≤ lb S x nx i - lb S y ny i - cy + c1 * 1000000000 → lb S x nx i - lb S y ny i - cy + c1 * 1000000000 < 1000000000 → zW p l e R s m args below meth c 9 b0 G kc ks Q (hx G h a (S.sC (nu S.C o (iu f i (lb S x nx i - lb S y ny i - cy + c1 * 1000000000))))) 30 [(0, .ref (a + 1)), (1, .ref (a + x)), (2, .ref (a + y)), (3, .int (jI w3)), (4, .ref (a + o)), (5, .int (jI nx)), (6, .int (jI c1)), (7, .int (jI ((i + 1 : Nat) : Int)))] [] := by
      intro c1 h1 h2 h3
      refine ih (i + 1) _ c1 (by omega) (fun j hj => ?_) h1 (fun j hj => ?_) ?_
      · by_cases e : j = i
        · subst e; rw [Int.zero_add, iu_self]; exact ⟨h2, h3⟩
        · rw [iu_ne _ _ (by omega)]; exact hg j (by omega)
      · rw [iu_ne _ _ (by omega)]; exact hf j (by omega)
      · show dv (iu f i _) 0 i + iu f i _ (0 + i) * BS ^ i - c1 * (BS ^ i * BS) = dv (lb S x nx) 0 i + lb S x nx (0 + i) * BS ^ i - (dv (lb S y ny) 0 i + lb S y ny (0 + i) * BS ^ i)
        rw [dv_iu (fun j hj => by omega), Int.zero_add, iu_self]
        have := sub_step (d1 := lb S x nx i) (d2 := lb S y ny i) (c1 := c1) hv
        rw [show lb S x nx i - cy - lb S y ny i + c1 * 1000000000 = lb S x nx i - lb S y ny i - cy + c1 * 1000000000 by omega] at this
        exact this
    refine zi_if_ge (tgt := 64) K d_R_subtractSizes_57 (by decide) (by omega) (fun hc => ?_) (fun hc => ?_)
    · refine z_iconst (v := jI 0) K d_R_subtractSizes_64 rfl ?_
      refine z_istore K d_R_subtractSizes_65 (by decide) ?_
      refine z_aload K d_R_subtractSizes_67 rfl ?_
      refine zx_gN K (by first | assumption | rfl) fd_R_59 rfl d_R_subtractSizes_69 ?_
      refine z_iload K d_R_subtractSizes_72 rfl ?_
      refine z_iload K d_R_subtractSizes_74 rfl ?_
      refine z_iconst (v := jI 1) K d_R_subtractSizes_76 rfl ?_
      refine zi_icmp_ne (tgt := 88) K d_R_subtractSizes_77 (by decide) (by omega) (by omega) (fun hc => ?_) (fun hc => absurd hc (by omega))
      refine z_iload K d_R_subtractSizes_88 rfl ?_
      refine zx_cst K ho0 (by omega) d_R_subtractSizes_90 ?_
      refine z_hp (congrArg (hx G h a) sC_sC) ?_
      refine zi_iinc K d_R_subtractSizes_91 rfl (by decide) ?_
      refine z_goto (tgt := 30) K d_R_subtractSizes_94 (by decide) ?_
      have := step 0 (Or.inl rfl) (by omega) (by omega)
      rw [show lb S x nx i - lb S y ny i - cy + 0 * 1000000000 = lb S x nx i - lb S y ny i - cy by omega] at this
      exact z_re [0, 1, 2, 3, 4, 5, 6, 7] rfl this
    · refine z_iconst (v := jI 1) K d_R_subtractSizes_60 rfl ?_
      refine z_goto (tgt := 65) K d_R_subtractSizes_61 (by decide) ?_
      refine z_istore K d_R_subtractSizes_65 (by decide) ?_
      refine z_aload K d_R_subtractSizes_67 rfl ?_
      refine zx_gN K (by first | assumption | rfl) fd_R_59 rfl d_R_subtractSizes_69 ?_
      refine z_iload K d_R_subtractSizes_72 rfl ?_
      refine z_iload K d_R_subtractSizes_74 rfl ?_
      refine z_iconst (v := jI 1) K d_R_subtractSizes_76 rfl ?_
      refine zi_icmp_ne (tgt := 88) K d_R_subtractSizes_77 (by decide) (by omega) (by omega) (fun hc => absurd rfl hc) (fun hc => ?_)
      refine z_iload K d_R_subtractSizes_80 rfl ?_
      refine z_ldc (v := jI 1000000000) K d_R_subtractSizes_82 kc_R_70 ?_
      refine zi_iadd K d_R_subtractSizes_84 ?_
      refine z_goto (tgt := 90) K d_R_subtractSizes_85 (by decide) ?_
      refine zx_cst K ho0 (by omega) d_R_subtractSizes_90 ?_
      refine z_hp (congrArg (hx G h a) sC_sC) ?_
      refine zi_iinc K d_R_subtractSizes_91 rfl (by decide) ?_
      refine z_goto (tgt := 30) K d_R_subtractSizes_94 (by decide) ?_
      have := step 1 (Or.inr rfl) (by omega) (by omega)
      rw [show lb S x nx i - lb S y ny i - cy + 1 * 1000000000 = lb S x nx i - lb S y ny i - cy + 1000000000 by omega] at this
      exact z_re [0, 1, 2, 3, 4, 5, 6, 7] rfl this
set_option maxHeartbeats 4000000 in
set_option maxRecDepth 100000 in
theorem c_R_subtractSizes (l : Launch) (G : zG) (b0 : Nat) (h : zH) (a : Nat) (S : xS) {x y o nx ny : Nat} {v w b : Int} (hx0 : isN x = true) (hy0 : isN y = true) (ho0 : isN o = true) (vx : NR S x nx v) (vy : NR S y ny w) (hb : b = 0 ∨ b = 1) (hle : w.natAbs ≤ v.natAbs) (fx : nx ≤ nR o) : xMet l G b0 y_R_subtractSizes b_R_subtractSizes 9 none 1 23 h a [.ref (a + 1), .ref (a + x), .ref (a + y), .int (jI b), .ref (a + o)] S (fun r S' => r = none ∧ xK o S S' ∧ ∃ n : Nat, NR S' o n (sgn b ((v.natAbs : Int) - w.natAbs))) :=
  z_met (by decide) (Nat.le_of_ble_eq_true rfl) fun p e s m below meth c K hr hlk hnm => by
  have hR := nR_le o
  have l1 := vx.1
  refine z_aload_n K d_R_subtractSizes_0 rfl ?_
  refine zx_gN K (by first | assumption | rfl) fd_R_49 rfl d_R_subtractSizes_1 ?_
  rw [l1]
  refine z_istore K d_R_subtractSizes_4 (by decide) ?_
  refine z_iload K d_R_subtractSizes_6 rfl ?_
  refine z_aload K d_R_subtractSizes_8 rfl ?_
  refine zx_gN K (by first | assumption | rfl) fd_R_59 rfl d_R_subtractSizes_10 ?_
  refine zx_alen K (by first | assumption | rfl) d_R_subtractSizes_13 ?_
  refine zi_icmp_le (tgt := 24) K d_R_subtractSizes_14 (by decide) (by omega) (by omega) (fun hc => ?_) (fun hc => absurd hc (by omega))
  refine z_iconst (v := jI 0) K d_R_subtractSizes_24 rfl ?_
  refine z_istore K d_R_subtractSizes_25 (by decide) ?_
  refine z_iconst (v := jI 0) K d_R_subtractSizes_27 rfl ?_
  refine z_istore K d_R_subtractSizes_28 (by decide) ?_
  refine z_re [0, 1, 2, 3, 4, 5, 6, 7] rfl ?_
  refine z_hp (congrArg (hx G h a) (sC_id (o := o))) ?_
  refine lp_R_subtractSizes K ⟨Nat.le_of_ble_eq_true rfl, Nat.le_of_ble_eq_true rfl⟩ (Nat.zero_le _) (Nat.zero_le _) hx0 hy0 ho0 vx vy fx (fun f cy hg hcy hv => ?_) nx 0 (S.C o) 0 (by omega) (fun j hj => absurd hj (by omega)) (Or.inl rfl) (fun j hj => rfl) (by simp [dv])
  have hny : ny ≤ nx := vy.le (show lt9 w nx from by have := vx.nn; show (w.natAbs : Int) < BS ^ nx; omega)
  rw [vx.lbv (Nat.le_refl _), vy.lbv hny] at hv
  have hbd := dv_bd (f := f) (b := 0) hg
  have h0 : cy = 0 := by
    rcases hcy with q | q
    · exact q
    · exfalso; rw [q] at hv; omega
  subst h0
  have hg3 : dg ((S.sC (nu S.C o f)).C o) 0 nx := by show dg (nu S.C o f o) 0 nx; rw [nu_self]; exact hg
  refine z_aload K d_R_subtractSizes_97 rfl ?_
  refine z_iload K d_R_subtractSizes_99 rfl ?_
  refine z_iload_n K d_R_subtractSizes_101 rfl ?_
  refine z_callV (ci := 1) (As := [.int (jI nx), .int (jI b)]) K (c_N_settle l G b0 h a (S.sC (nu S.C o f)) ho0 fx hb hg3) ca_R_71 im_N_settle se_N_settle rfl (by decide) (hx_N ho0) rfl rfl (by decide) (Nat.le_of_ble_eq_true rfl) d_R_subtractSizes_102 (fun r h1 hp => ?_)
  obtain ⟨S1, rfl, rfl, k1, k2, n, k3⟩ := hp
  refine z_vret K hr hlk d_R_subtractSizes_105 ⟨_, rfl, rfl, ⟨fun j hj => ⟨((k1.1 j hj).1).trans (nu_ne _ _ hj), (k1.1 j hj).2.1, (k1.1 j hj).2.2⟩, k1.2⟩, n, ?_⟩
  rw [show dv ((S.sC (nu S.C o f)).C o) 0 nx = (v.natAbs : Int) - w.natAbs by show dv (nu S.C o f o) 0 nx = _; rw [nu_self]; omega] at k3
  exact k3
theorem sgn_eq {b v : Int} (h : b = (if v < 0 then 1 else 0)) : sgn b (v.natAbs : Int) = v := by
  unfold sgn
  by_cases q : v < 0
  · rw [if_pos q] at h; rw [if_pos h]; omega
  · rw [if_neg q] at h; rw [if_neg (by omega)]; omega
set_option maxHeartbeats 4000000 in
set_option maxRecDepth 100000 in
/-- addSigned: v + (w with the sign that b tells) -/
theorem c_R_addSigned (l : Launch) (G : zG) (b0 : Nat) (h : zH) (a : Nat) (S : xS) {x y o nx ny : Nat} {v w b u : Int} (hx0 : isN x = true) (hy0 : isN y = true) (ho0 : isN o = true) (vx : NR S x nx v) (vy : NR S y ny w) (hb : b = 0 ∨ b = 1) (hu : u = v + sgn b (w.natAbs : Int)) (fx : lt9 v (nR o)) (fy : lt9 w (nR o)) (fs : lt9 u (nR o)) : xMet l G b0 y_R_addSigned b_R_addSigned 5 none 2 67 h a [.ref (a + 1), .ref (a + x), .ref (a + y), .int (jI b), .ref (a + o)] S (fun r S' => r = none ∧ xK o S S' ∧ ∃ n : Nat, NR S' o n u) :=
  z_met (by decide) (Nat.le_of_ble_eq_true rfl) fun p e s m below meth c K hr hlk hnm => by
  have hbx := vx.b01
  have bx := vx.2.2.2.2.1
  have hs : (u.natAbs : Int) < BS ^ nR o := fs
  refine z_aload_n K d_R_addSigned_0 rfl ?_
  refine zx_gN K (by first | assumption | rfl) fd_R_30 rfl d_R_addSigned_1 ?_
  refine z_iload_n K d_R_addSigned_4 rfl ?_
  refine zi_icmp_ne (tgt := 19) K d_R_addSigned_5 (by decide) (by omega) (by omega) (fun hc => ?_) (fun hc => ?_)
  · refine z_aload_n K d_R_addSigned_19 rfl ?_
    refine z_aload_n K d_R_addSigned_20 rfl ?_
    refine z_callV (ci := 1) (As := [.ref (a + y)]) K (c_N_compareSize l G b0 h a S hx0 hy0 vx vy) ca_R_42 im_N_compareSize se_N_compareSize rfl (by decide) (hx_N hx0) rfl rfl (by decide) (Nat.le_of_ble_eq_true rfl) d_R_addSigned_21 (fun r h1 hp => ?_)
    obtain ⟨S1, rfl, rfl, z, rfl, z1, z2, z3⟩ := hp
    refine zi_if_lt (tgt := 42) K d_R_addSigned_24 (by decide) z1 (fun hc2 => ?_) (fun hc2 => ?_)
    · refine z_aload_n K d_R_addSigned_42 rfl ?_
      refine z_aload_n K d_R_addSigned_43 rfl ?_
      refine z_aload_n K d_R_addSigned_44 rfl ?_
      refine z_iload_n K d_R_addSigned_45 rfl ?_
      refine z_aload K d_R_addSigned_46 rfl ?_
      refine z_callV (ci := 4) (As := [.ref (a + y), .ref (a + x), .int (jI b), .ref (a + o)]) K (c_R_subtractSizes l G b0 h a S hy0 hx0 ho0 vy vx hb (by omega) (vy.le fy)) ca_R_46 im_R_subtractSizes se_R_subtractSizes rfl (by decide) hx_R rfl rfl (by decide) (Nat.le_of_ble_eq_true rfl) d_R_addSigned_48 (fun r h1 hp => ?_)
      obtain ⟨S1, rfl, rfl, k1, n, k2⟩ := hp
      refine z_vret K hr hlk d_R_addSigned_51 ⟨_, rfl, rfl, k1, n, ?_⟩
      have e : sgn b ((w.natAbs : Int) - v.natAbs) = u := by
        rw [hu]
        unfold sgn
        rw [bx] at hc
        by_cases q : v < 0
        · rw [if_pos q] at hc; rw [if_neg (by omega), if_neg (by omega)]; omega
        · rw [if_neg q] at hc; rw [if_pos (by omega), if_pos (by omega)]; omega
      rw [← e]; exact k2
    · refine z_aload_n K d_R_addSigned_27 rfl ?_
      refine z_aload_n K d_R_addSigned_28 rfl ?_
      refine z_aload_n K d_R_addSigned_29 rfl ?_
      refine z_aload_n K d_R_addSigned_30 rfl ?_
      refine zx_gN K (by first | assumption | rfl) fd_R_30 rfl d_R_addSigned_31 ?_
      refine z_aload K d_R_addSigned_34 rfl ?_
      refine z_callV (ci := 4) (As := [.ref (a + x), .ref (a + y), .int (jI (S.B x)), .ref (a + o)]) K (c_R_subtractSizes l G b0 h a S hx0 hy0 ho0 vx vy hbx (by omega) (vx.le fx)) ca_R_46 im_R_subtractSizes se_R_subtractSizes rfl (by decide) hx_R rfl rfl (by decide) (Nat.le_of_ble_eq_true rfl) d_R_addSigned_36 (fun r h1 hp => ?_)
      obtain ⟨S1, rfl, rfl, k1, n, k2⟩ := hp
      refine z_goto (tgt := 51) K d_R_addSigned_39 (by decide) ?_
      refine z_vret K hr hlk d_R_addSigned_51 ⟨_, rfl, rfl, k1, n, ?_⟩
      have e : sgn (S.B x) ((v.natAbs : Int) - w.natAbs) = u := by
        rw [hu, bx]
        unfold sgn
        rw [bx] at hc
        by_cases q : v < 0
        · rw [if_pos q] at hc ⊢; rw [if_pos rfl, if_neg (by omega)]; omega
        · rw [if_neg q] at hc ⊢; rw [if_neg (by omega), if_pos (by omega)]; omega
      rw [← e]; exact k2
  · have e : sgn (S.B x) ((v.natAbs : Int) + w.natAbs) = u := by
      rw [hu, ← hc, bx]
      unfold sgn
      by_cases q : v < 0
      · rw [if_pos q, if_pos rfl, if_pos rfl]; omega
      · rw [if_neg q, if_neg (by omega), if_neg (by omega)]; omega
    have hs2 : (v.natAbs : Int) + w.natAbs < BS ^ nR o := by
      rw [← e] at hs
      unfold sgn at hs
      by_cases q : S.B x = 1
      · rw [if_pos q] at hs; omega
      · rw [if_neg q] at hs; omega
    refine z_aload_n K d_R_addSigned_8 rfl ?_
    refine z_aload_n K d_R_addSigned_9 rfl ?_
    refine z_aload_n K d_R_addSigned_10 rfl ?_
    refine z_aload K d_R_addSigned_11 rfl ?_
    refine z_callV (ci := 4) (As := [.ref (a + x), .ref (a + y), .ref (a + o)]) K (c_R_addSizes l G b0 h a S hx0 hy0 ho0 vx vy (vx.le fx) (vy.le fy) hs2) ca_R_38 im_R_addSizes se_R_addSizes rfl (by decide) hx_R rfl rfl (by decide) (Nat.le_of_ble_eq_true rfl) d_R_addSigned_13 (fun r h1 hp => ?_)
    obtain ⟨S1, rfl, rfl, k1, n, k2⟩ := hp
    refine z_goto (tgt := 51) K d_R_addSigned_16 (by decide) ?_
    refine z_vret K hr hlk d_R_addSigned_51 ⟨_, rfl, rfl, k1, n, ?_⟩
    rw [← e]; exact k2
-- values: all numbers at once
set_option maxHeartbeats 4000000 in
set_option maxRecDepth 100000 in
theorem v_R_add (l : Launch) (G : zG) (b0 : Nat) (h : zH) (a : Nat) (S : xS) {U : Nat → Int} {x y o : Nat} (hV : VX S U) (hx0 : isN x = true) (hy0 : isN y = true) (ho0 : isN o = true) (fx : lt9 (U x) (nR o)) (fy : lt9 (U y) (nR o)) (fs : lt9 (U x + U y) (nR o)) : xMet l G b0 y_R_add b_R_add 4 none 3 91 h a [.ref (a + 1), .ref (a + x), .ref (a + y), .ref (a + o)] S (fun r S' => r = none ∧ VX S' (nu U o (U x + U y)) ∧ S'.f = S.f) :=
  z_met (by decide) (Nat.le_of_ble_eq_true rfl) fun p e s m below meth c K hr hlk hnm => by
  obtain ⟨nx, vx⟩ := hV x hx0
  obtain ⟨ny, vy⟩ := hV y hy0
  refine z_aload_n K d_R_add_0 rfl ?_
  refine z_aload_n K d_R_add_1 rfl ?_
  refine z_aload_n K d_R_add_2 rfl ?_
  refine z_aload_n K d_R_add_3 rfl ?_
  refine zx_gN K (by first | assumption | rfl) fd_R_30 rfl d_R_add_4 ?_
  refine z_aload_n K d_R_add_7 rfl ?_
  refine z_callV (ci := 4) (As := [.ref (a + x), .ref (a + y), .int (jI (S.B y)), .ref (a + o)]) K (c_R_addSigned l G b0 h a S (u := U x + U y) hx0 hy0 ho0 vx vy vy.b01 (by rw [sgn_eq vy.2.2.2.2.1]) fx fy fs) ca_R_34 im_R_addSigned se_R_addSigned rfl (by decide) (hx_R) rfl rfl (by decide) (Nat.le_of_ble_eq_true rfl) d_R_add_8 (fun r h1 hp => ?_)
  obtain ⟨S1, rfl, rfl, k1, n, k2⟩ := hp
  exact z_vret K hr hlk d_R_add_11 ⟨_, rfl, rfl, hV.up k1 k2, k1.2⟩
set_option maxHeartbeats 4000000 in
set_option maxRecDepth 100000 in
theorem v_R_subtract (l : Launch) (G : zG) (b0 : Nat) (h : zH) (a : Nat) (S : xS) {U : Nat → Int} {x y o : Nat} (hV : VX S U) (hx0 : isN x = true) (hy0 : isN y = true) (ho0 : isN o = true) (fx : lt9 (U x) (nR o)) (fy : lt9 (U y) (nR o)) (fs : lt9 (U x - U y) (nR o)) : xMet l G b0 y_R_subtract b_R_subtract 4 none 3 91 h a [.ref (a + 1), .ref (a + x), .ref (a + y), .ref (a + o)] S (fun r S' => r = none ∧ VX S' (nu U o (U x - U y)) ∧ S'.f = S.f) :=
  z_met (by decide) (Nat.le_of_ble_eq_true rfl) fun p e s m below meth c K hr hlk hnm => by
  obtain ⟨nx, vx⟩ := hV x hx0
  obtain ⟨ny, vy⟩ := hV y hy0
  have b1 := vy.2.2.2.2.1
  have b2 := vy.b01
  refine z_aload_n K d_R_subtract_0 rfl ?_
  refine z_aload_n K d_R_subtract_1 rfl ?_
  refine z_aload_n K d_R_subtract_2 rfl ?_
  refine z_aload_n K d_R_subtract_3 rfl ?_
  refine zx_gN K (by first | assumption | rfl) fd_R_30 rfl d_R_subtract_4 ?_
  refine zi_if_ne (tgt := 14) K d_R_subtract_7 (by decide) (by omega) (fun hc => ?_) (fun hc => ?_)
  · refine z_iconst (v := jI 0) K d_R_subtract_14 rfl ?_
    refine z_aload_n K d_R_subtract_15 rfl ?_
    refine z_callV (ci := 4) (As := [.ref (a + x), .ref (a + y), .int (jI 0), .ref (a + o)]) K (c_R_addSigned l G b0 h a S (b := 0) (u := U x - U y) hx0 hy0 ho0 vx vy (Or.inl rfl) (by unfold sgn; rw [if_neg (by decide)]; by_cases q : U y < 0 <;> simp [q] at b1 <;> omega) fx fy fs) ca_R_34 im_R_addSigned se_R_addSigned rfl (by decide) (hx_R) rfl rfl (by decide) (Nat.le_of_ble_eq_true rfl) d_R_subtract_16 (fun r h1 hp => ?_)
    obtain ⟨S1, rfl, rfl, k1, n, k2⟩ := hp
    exact z_vret K hr hlk d_R_subtract_19 ⟨_, rfl, rfl, hV.up k1 k2, k1.2⟩
  · refine z_iconst (v := jI 1) K d_R_subtract_10 rfl ?_
    refine z_goto (tgt := 15) K d_R_subtract_11 (by decide) ?_
    refine z_aload_n K d_R_subtract_15 rfl ?_
    refine z_callV (ci := 4) (As := [.ref (a + x), .ref (a + y), .int (jI 1), .ref (a + o)]) K (c_R_addSigned l G b0 h a S (b := 1) (u := U x - U y) hx0 hy0 ho0 vx vy (Or.inr rfl) (by unfold sgn; rw [if_pos rfl]; by_cases q : U y < 0 <;> simp [q] at b1 <;> omega) fx fy fs) ca_R_34 im_R_addSigned se_R_addSigned rfl (by decide) (hx_R) rfl rfl (by decide) (Nat.le_of_ble_eq_true rfl) d_R_subtract_16 (fun r h1 hp => ?_)
    obtain ⟨S1, rfl, rfl, k1, n, k2⟩ := hp
    exact z_vret K hr hlk d_R_subtract_19 ⟨_, rfl, rfl, hV.up k1 k2, k1.2⟩
end R2
