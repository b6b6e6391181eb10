section R6
variable {p : Program} {l : Launch} {e : Env} {R : Room} {s : State} {m : MethodId} {args : Array Value} {below : List Frame} {meth : Method} {c : Code} {Q : State → Prop} {b0 kc ks : Nat} {G : zG} {h : zH} {a : Nat} {cd : Int}
set_option maxHeartbeats 4000000 in
set_option maxRecDepth 100000 in
theorem lp_R_scaleUp1 (K : zC p s m args c b_R_scaleUp R_R 10 b0 G) {S : xS} {x n : Nat} {v sc : Int} (hx0 : isN x = true) (vx : NR S x n v) (hsc : 0 < sc ∧ sc ≤ 500000000) (kx : ∀ (f : Int → Int) (cy : Int), dg f 0 n → 0 ≤ cy → cy < 1000000000 → dv f 0 n + cy * BS ^ n = dv (S.C x) 0 n * sc → zW p l e R s m args below meth c 10 b0 G kc ks Q (hx G h a (S.s1 f)) 68 [(5, .long (kI cy))] []) :
    ∀ (j i : Nat) (f : Int → Int) (cy : Int), i + j = n → dg f 0 i → 0 ≤ cy → cy < sc → dv f 0 i + cy * BS ^ i = dv (S.C x) 0 i * sc →
      zW p l e R s m args below meth c 10 b0 G kc ks Q (hx G h a (S.s1 f)) 17 [(0, .ref (a + 1)), (1, .ref (a + x)), (2, .int (jI sc)), (3, .ref (a + 3)), (4, .int (jI n)), (5, .long (kI cy)), (7, .int (jI i))] [] := by
  intro j
  have hn := vx.i31
  have hn2 := vx.2.1
  induction j with
  | zero =>
    intro i f cy hi hg h0 h1 hD
    refine z_iload K d_R_scaleUp_17 rfl ?_
    refine z_iload K d_R_scaleUp_19 rfl ?_
    refine zi_icmp_ge (tgt := 68) K d_R_scaleUp_21 (by decide) (by omega) (by omega) (fun hc => ?_) (fun hc => absurd hc (by omega))
    have hin : i = n := by omega
    subst hin
    exact z_re [5] rfl (kx f cy hg h0 (by omega) hD)
  | succ j ih =>
    intro i f cy hi hg h0 h1 hD
    have g1 := vx.limb (i := i) (by omega) (by omega)
    have g2 := ts_bd (v := sc) g1 (by omega) ⟨h0, h1⟩
    refine z_iload K d_R_scaleUp_17 rfl ?_
    refine z_iload K d_R_scaleUp_19 rfl ?_
    refine zi_icmp_ge (tgt := 68) K d_R_scaleUp_21 (by decide) (by omega) (by omega) (fun hc => absurd hc (by omega)) (fun hc => ?_)
    refine z_iload_n K d_R_scaleUp_24 rfl ?_
    refine zi_i2l K d_R_scaleUp_25 (by omega) ?_
    refine z_aload_n K d_R_scaleUp_26 rfl ?_
    refine zx_gN K (by first | assumption | rfl) fd_R_59 rfl d_R_scaleUp_27 ?_
    refine z_iload K d_R_scaleUp_30 rfl ?_
    refine zx_cldv (v := S.C x i) K hx0 (by omega) rfl d_R_scaleUp_32 ?_
    refine zi_i2l K d_R_scaleUp_33 (by omega) ?_
    refine zi_lmul K d_R_scaleUp_34 ?_
    refine z_lload K d_R_scaleUp_35 rfl ?_
    refine zi_ladd K d_R_scaleUp_37 ?_
    obtain ⟨w, hw⟩ : ∃ w : Int, w = S.C x i * sc + cy := ⟨_, rfl⟩
    rw [show sc * S.C x i + cy = w by rw [hw, Int.mul_comm]]
    rw [← hw] at g2
    refine z_lstore K d_R_scaleUp_38 (by decide) ?_
    refine z_lload K d_R_scaleUp_40 rfl ?_
    refine z_ldc2 (v := kI 1000000000) K d_R_scaleUp_42 kc_R_78 ?_
    refine zi_ldiv K d_R_scaleUp_45 (by omega) (by decide) (by decide) ?_
    rw [tdiv_pos (by omega)]
    refine z_lstore K d_R_scaleUp_46 (by decide) ?_
    refine z_aload_n K d_R_scaleUp_48 rfl ?_
    refine z_iload K d_R_scaleUp_49 rfl ?_
    refine z_lload K d_R_scaleUp_51 rfl ?_
    refine z_lload K d_R_scaleUp_53 rfl ?_
    refine z_ldc2 (v := kI 1000000000) K d_R_scaleUp_55 kc_R_78 ?_
    refine zi_lmul K d_R_scaleUp_58 ?_
    refine zi_lsub K d_R_scaleUp_59 ?_
    refine zi_l2i K d_R_scaleUp_60 ?_
    refine zx_1st K (by omega) d_R_scaleUp_61 ?_
    refine zi_iinc K d_R_scaleUp_62 rfl (by decide) ?_
    refine z_goto (tgt := 17) K d_R_scaleUp_65 (by decide) ?_
    refine z_re [0, 1, 2, 3, 4, 5, 7] rfl ?_
    refine ih (i + 1) (iu f i (w - w / 1000000000 * 1000000000)) (w / 1000000000) (by omega) (fun q hq => ?_) (by omega) (by omega) ?_
    · by_cases hqk : q = i
      · subst hqk; rw [Int.zero_add, iu_self]; omega
      · rw [iu_ne _ _ (by omega)]; exact hg q (by omega)
    · show dv (iu f i _) 0 i + iu f i _ (0 + i) * BS ^ i + w / 1000000000 * (BS ^ i * BS) = (dv (S.C x) 0 i + S.C x (0 + i) * BS ^ i) * sc
      rw [Int.zero_add, iu_self, dv_iu (fun q hq => by omega)]
      exact ts_step hD hw (by omega)
set_option maxHeartbeats 4000000 in
set_option maxRecDepth 100000 in
theorem c_R_scaleUp1 (l : Launch) (G : zG) (b0 : Nat) (h : zH) (a : Nat) (S : xS) {x n : Nat} {v sc : Int} (hx0 : isN x = true) (vx : NR S x n v) (hsc : 0 < sc ∧ sc ≤ 500000000) : xMet l G b0 y_R_scaleUp b_R_scaleUp 10 (some .int) 1 40 h a [.ref (a + 1), .ref (a + x), .int (jI sc), .ref (a + 3)] S (fun r S' => ∃ (f : Int → Int) (cy : Int), S' = S.s1 f ∧ r = some (.int (jI cy)) ∧ dg f 0 n ∧ (0 ≤ cy ∧ cy < 1000000000) ∧ dv f 0 n + cy * BS ^ n = v.natAbs * sc) :=
  z_met (by decide) (Nat.le_of_ble_eq_true rfl) fun p e s m below meth c K hr hlk hnm => by
  have hn := vx.i31
  have l1 := vx.1
  refine z_aload_n K d_R_scaleUp_0 rfl ?_
  refine zx_gN K hx0 fd_R_49 rfl d_R_scaleUp_1 ?_
  rw [l1]
  refine z_aload_n K d_R_scaleUp_4 rfl ?_
  refine zx_1len K d_R_scaleUp_5 ?_
  refine z_callS (As := [.int (jI n), .int (jI 113)]) K (c_min l G b0 (hx G h a S) (x := n) (y := 113) (by omega) (by decide)) ca_R_106 sm_min rfl rfl (by decide) (Nat.le_of_ble_eq_true rfl) d_R_scaleUp_6 (fun r h1 hp => ?_)
  obtain ⟨rfl, rfl⟩ := hp
  rw [show (min (n : Int) 113) = n by omega]
  refine z_istore K d_R_scaleUp_9 (by decide) ?_
  refine z_lconst (v := kI 0) K d_R_scaleUp_11 rfl ?_
  refine z_lstore K d_R_scaleUp_12 (by decide) ?_
  refine z_iconst (v := jI 0) K d_R_scaleUp_14 rfl ?_
  refine z_istore K d_R_scaleUp_15 (by decide) ?_
  refine z_re [0, 1, 2, 3, 4, 5, 7] rfl ?_
  refine lp_R_scaleUp1 (S := S) K hx0 vx hsc (fun f cy hg h0 h1 hD => ?_) n 0 S.r1 0 (by omega) (fun q hq => absurd hq (by omega)) (by omega) (by omega) (by simp [dv])
  refine z_lload K d_R_scaleUp_68 rfl ?_
  refine zi_l2i K d_R_scaleUp_70 ?_
  rw [← vx.2.2.2.2.2] at hD
  exact z_iret K hr hlk d_R_scaleUp_71 ⟨_, rfl, f, cy, rfl, rfl, hg, ⟨h0, h1⟩, hD⟩
set_option maxHeartbeats 4000000 in
set_option maxRecDepth 100000 in
theorem lp_R_scaleUp2 (K : zC p s m args c b_R_scaleUp R_R 10 b0 G) {S : xS} {x n : Nat} {v sc : Int} (hx0 : isN x = true) (vx : NR S x n v) (hsc : 0 < sc ∧ sc ≤ 500000000) (kx : ∀ (f : Int → Int) (cy : Int), dg f 0 n → 0 ≤ cy → cy < 1000000000 → dv f 0 n + cy * BS ^ n = dv (S.C x) 0 n * sc → zW p l e R s m args below meth c 10 b0 G kc ks Q (hx G h a (S.s2 f)) 68 [(5, .long (kI cy))] []) :
    ∀ (j i : Nat) (f : Int → Int) (cy : Int), i + j = n → dg f 0 i → 0 ≤ cy → cy < sc → dv f 0 i + cy * BS ^ i = dv (S.C x) 0 i * sc →
      zW p l e R s m args below meth c 10 b0 G kc ks Q (hx G h a (S.s2 f)) 17 [(0, .ref (a + 1)), (1, .ref (a + x)), (2, .int (jI sc)), (3, .ref (a + 4)), (4, .int (jI n)), (5, .long (kI cy)), (7, .int (jI i))] [] := by
  intro j
  have hn := vx.i31
  have hn2 := vx.2.1
  induction j with
  | zero =>
    intro i f cy hi hg h0 h1 hD
    refine z_iload K d_R_scaleUp_17 rfl ?_
    refine z_iload K d_R_scaleUp_19 rfl ?_
    refine zi_icmp_ge (tgt := 68) K d_R_scaleUp_21 (by decide) (by omega) (by omega) (fun hc => ?_) (fun hc => absurd hc (by omega))
    have hin : i = n := by omega
    subst hin
    exact z_re [5] rfl (kx f cy hg h0 (by omega) hD)
  | succ j ih =>
    intro i f cy hi hg h0 h1 hD
    have g1 := vx.limb (i := i) (by omega) (by omega)
    have g2 := ts_bd (v := sc) g1 (by omega) ⟨h0, h1⟩
    refine z_iload K d_R_scaleUp_17 rfl ?_
    refine z_iload K d_R_scaleUp_19 rfl ?_
    refine zi_icmp_ge (tgt := 68) K d_R_scaleUp_21 (by decide) (by omega) (by omega) (fun hc => absurd hc (by omega)) (fun hc => ?_)
    refine z_iload_n K d_R_scaleUp_24 rfl ?_
    refine zi_i2l K d_R_scaleUp_25 (by omega) ?_
    refine z_aload_n K d_R_scaleUp_26 rfl ?_
    refine zx_gN K (by first | assumption | rfl) fd_R_59 rfl d_R_scaleUp_27 ?_
    refine z_iload K d_R_scaleUp_30 rfl ?_
    refine zx_cldv (v := S.C x i) K hx0 (by omega) rfl d_R_scaleUp_32 ?_
    refine zi_i2l K d_R_scaleUp_33 (by omega) ?_
    refine zi_lmul K d_R_scaleUp_34 ?_
    refine z_lload K d_R_scaleUp_35 rfl ?_
    refine zi_ladd K d_R_scaleUp_37 ?_
    obtain ⟨w, hw⟩ : ∃ w : Int, w = S.C x i * sc + cy := ⟨_, rfl⟩
    rw [show sc * S.C x i + cy = w by rw [hw, Int.mul_comm]]
    rw [← hw] at g2
    refine z_lstore K d_R_scaleUp_38 (by decide) ?_
    refine z_lload K d_R_scaleUp_40 rfl ?_
    refine z_ldc2 (v := kI 1000000000) K d_R_scaleUp_42 kc_R_78 ?_
    refine zi_ldiv K d_R_scaleUp_45 (by omega) (by decide) (by decide) ?_
    rw [tdiv_pos (by omega)]
    refine z_lstore K d_R_scaleUp_46 (by decide) ?_
    refine z_aload_n K d_R_scaleUp_48 rfl ?_
    refine z_iload K d_R_scaleUp_49 rfl ?_
    refine z_lload K d_R_scaleUp_51 rfl ?_
    refine z_lload K d_R_scaleUp_53 rfl ?_
    refine z_ldc2 (v := kI 1000000000) K d_R_scaleUp_55 kc_R_78 ?_
    refine zi_lmul K d_R_scaleUp_58 ?_
    refine zi_lsub K d_R_scaleUp_59 ?_
    refine zi_l2i K d_R_scaleUp_60 ?_
    refine zx_2st K (by omega) d_R_scaleUp_61 ?_
    refine zi_iinc K d_R_scaleUp_62 rfl (by decide) ?_
    refine z_goto (tgt := 17) K d_R_scaleUp_65 (by decide) ?_
    refine z_re [0, 1, 2, 3, 4, 5, 7] rfl ?_
    refine ih (i + 1) (iu f i (w - w / 1000000000 * 1000000000)) (w / 1000000000) (by omega) (fun q hq => ?_) (by omega) (by omega) ?_
    · by_cases hqk : q = i
      · subst hqk; rw [Int.zero_add, iu_self]; omega
      · rw [iu_ne _ _ (by omega)]; exact hg q (by omega)
    · show dv (iu f i _) 0 i + iu f i _ (0 + i) * BS ^ i + w / 1000000000 * (BS ^ i * BS) = (dv (S.C x) 0 i + S.C x (0 + i) * BS ^ i) * sc
      rw [Int.zero_add, iu_self, dv_iu (fun q hq => by omega)]
      exact ts_step hD hw (by omega)
set_option maxHeartbeats 4000000 in
set_option maxRecDepth 100000 in
theorem c_R_scaleUp2 (l : Launch) (G : zG) (b0 : Nat) (h : zH) (a : Nat) (S : xS) {x n : Nat} {v sc : Int} (hx0 : isN x = true) (vx : NR S x n v) (hsc : 0 < sc ∧ sc ≤ 500000000) : xMet l G b0 y_R_scaleUp b_R_scaleUp 10 (some .int) 1 40 h a [.ref (a + 1), .ref (a + x), .int (jI sc), .ref (a + 4)] S (fun r S' => ∃ (f : Int → Int) (cy : Int), S' = S.s2 f ∧ r = some (.int (jI cy)) ∧ dg f 0 n ∧ (0 ≤ cy ∧ cy < 1000000000) ∧ dv f 0 n + cy * BS ^ n = v.natAbs * sc) :=
  z_met (by decide) (Nat.le_of_ble_eq_true rfl) fun p e s m below meth c K hr hlk hnm => by
  have hn := vx.i31
  have l1 := vx.1
  refine z_aload_n K d_R_scaleUp_0 rfl ?_
  refine zx_gN K hx0 fd_R_49 rfl d_R_scaleUp_1 ?_
  rw [l1]
  refine z_aload_n K d_R_scaleUp_4 rfl ?_
  refine zx_2len K d_R_scaleUp_5 ?_
  refine z_callS (As := [.int (jI n), .int (jI 113)]) K (c_min l G b0 (hx G h a S) (x := n) (y := 113) (by omega) (by decide)) ca_R_106 sm_min rfl rfl (by decide) (Nat.le_of_ble_eq_true rfl) d_R_scaleUp_6 (fun r h1 hp => ?_)
  obtain ⟨rfl, rfl⟩ := hp
  rw [show (min (n : Int) 113) = n by omega]
  refine z_istore K d_R_scaleUp_9 (by decide) ?_
  refine z_lconst (v := kI 0) K d_R_scaleUp_11 rfl ?_
  refine z_lstore K d_R_scaleUp_12 (by decide) ?_
  refine z_iconst (v := jI 0) K d_R_scaleUp_14 rfl ?_
  refine z_istore K d_R_scaleUp_15 (by decide) ?_
  refine z_re [0, 1, 2, 3, 4, 5, 7] rfl ?_
  refine lp_R_scaleUp2 (S := S) K hx0 vx hsc (fun f cy hg h0 h1 hD => ?_) n 0 S.r2 0 (by omega) (fun q hq => absurd hq (by omega)) (by omega) (by omega) (by simp [dv])
  refine z_lload K d_R_scaleUp_68 rfl ?_
  refine zi_l2i K d_R_scaleUp_70 ?_
  rw [← vx.2.2.2.2.2] at hD
  exact z_iret K hr hlk d_R_scaleUp_71 ⟨_, rfl, f, cy, rfl, rfl, hg, ⟨h0, h1⟩, hD⟩
set_option maxHeartbeats 4000000 in
set_option maxRecDepth 100000 in
theorem lp_R_scaleDown (K : zC p s m args c b_R_scaleDown R_R 8 b0 G) {S : xS} {n : Nat} {sc : Int} (hn : n ≤ 113) (hg0 : dg S.r1 0 n) (hsc : 0 < sc ∧ sc < 1000000000) (kx : ∀ f : Int → Int, dg f 0 n → dv f 0 n = dv S.r1 0 n / sc → zW p l e R s m args below meth c 8 b0 G kc ks Q (hx G h a (S.s1 f)) 67 [] []) :
    ∀ (i j : Nat) (f : Int → Int) (cy : Int), i + j = n → (∀ q : Int, q < i → f q = S.r1 q) → dg f i j → dv f i j = dv S.r1 i j / sc → cy = dv S.r1 i j % sc →
      zW p l e R s m args below meth c 8 b0 G kc ks Q (hx G h a (S.s1 f)) 21 [(0, .ref (a + 1)), (1, .int (jI sc)), (3, .long (kI cy)), (5, .int (jI ((i : Int) - 1)))] [] := by
  intro i
  induction i with
  | zero =>
    intro j f cy hi hf hg hD hc
    refine z_iload K d_R_scaleDown_21 rfl ?_
    refine zi_if_lt (tgt := 67) K d_R_scaleDown_23 (by decide) (by omega) (fun hq1 => ?_) (fun hq1 => absurd hq1 (by omega))
    have hj : j = n := by omega
    subst hj
    exact z_re [] rfl (kx f hg hD)
  | succ i ih =>
    intro j f cy hi hf hg hD hc
    have g1 := hg0 i (by omega)
    rw [Int.zero_add] at g1
    have c0 : 0 ≤ cy ∧ cy < sc := by rw [hc]; exact ⟨Int.emod_nonneg _ (by omega), Int.emod_lt_of_pos _ (by omega)⟩
    rw [show ((i + 1 : Nat) : Int) - 1 = i by omega]
    refine z_iload K d_R_scaleDown_21 rfl ?_
    refine zi_if_lt (tgt := 67) K d_R_scaleDown_23 (by decide) (by omega) (fun hq1 => absurd hq1 (by omega)) (fun hq1 => ?_)
    refine z_lload_n K d_R_scaleDown_26 rfl ?_
    refine z_ldc2 (v := kI 1000000000) K d_R_scaleDown_27 kc_R_78 ?_
    refine zi_lmul K d_R_scaleDown_30 ?_
    refine z_aload_n K d_R_scaleDown_31 rfl ?_
    refine zx_gR K fd_R_15 rfl d_R_scaleDown_32 ?_
    refine z_iload K d_R_scaleDown_35 rfl ?_
    refine zx_1ldv (v := S.r1 i) K (by omega) (hf i (by omega)) d_R_scaleDown_37 ?_
    refine zi_i2l K d_R_scaleDown_38 (by omega) ?_
    refine zi_ladd K d_R_scaleDown_39 ?_
    obtain ⟨w, hw⟩ : ∃ w : Int, w = cy * 1000000000 + S.r1 i := ⟨_, rfl⟩
    rw [← hw]
    have hb := bs_bd (v := sc) g1 c0
    rw [← hw] at hb
    have hwd : w / sc < 1000000000 := Int.ediv_lt_of_lt_mul (by omega) hb.2
    have hwd0 : 0 ≤ w / sc := Int.ediv_nonneg hb.1 (by omega)
    have hst := bs_step (H := dv S.r1 ((i : Int) + 1) j) (v := sc) (c := S.r1 i) (w := w) (rs := cy) hsc.1 (by rw [hc]; rw [show ((i + 1 : Nat) : Int) = (i : Int) + 1 by omega]) hw g1
    have hlt : w < 1000000000000000000 := by
      have := Int.mul_le_mul_of_nonneg_left (show sc ≤ 1000000000 by omega) (show (0 : Int) ≤ 1000000000 by decide)
      omega
    refine z_lstore K d_R_scaleDown_40 (by decide) ?_
    refine z_aload_n K d_R_scaleDown_42 rfl ?_
    refine zx_gR K fd_R_15 rfl d_R_scaleDown_43 ?_
    refine z_iload K d_R_scaleDown_46 rfl ?_
    refine z_lload K d_R_scaleDown_48 rfl ?_
    refine z_iload_n K d_R_scaleDown_50 rfl ?_
    refine zi_i2l K d_R_scaleDown_51 (by omega) ?_
    refine zi_ldiv K d_R_scaleDown_52 (by omega) (by omega) (by omega) ?_
    rw [tdiv_pos hb.1]
    refine zi_l2i K d_R_scaleDown_53 ?_
    refine zx_1st K (by omega) d_R_scaleDown_54 ?_
    refine z_lload K d_R_scaleDown_55 rfl ?_
    refine z_iload_n K d_R_scaleDown_57 rfl ?_
    refine zi_i2l K d_R_scaleDown_58 (by omega) ?_
    refine zi_lrem K d_R_scaleDown_59 (by omega) (by omega) (by omega) ?_
    rw [tmod_pos hb.1]
    refine z_lstore_n K d_R_scaleDown_60 (by decide) ?_
    refine zi_iinc K d_R_scaleDown_61 rfl (by decide) ?_
    refine z_goto (tgt := 21) K d_R_scaleDown_64 (by decide) ?_
    refine z_re [0, 1, 3, 5] rfl ?_
    rw [show (i : Int) + -1 = (i : Int) - 1 by omega]
    have e1 : dv S.r1 i (j + 1) = S.r1 i + 1000000000 * dv S.r1 ((i : Int) + 1) j := dv_lo j
    refine ih (j + 1) (iu f i (w / sc)) (w % sc) (by omega) (fun q hq => ?_) (fun q hq => ?_) ?_ ?_
    · rw [iu_ne _ _ (by omega)]; exact hf q (by omega)
    · by_cases hq0 : q = 0
      · subst hq0
        rw [show (i : Int) + ((0 : Nat) : Int) = i by omega, iu_self]
        exact ⟨hwd0, hwd⟩
      · rw [iu_ne _ _ (by omega)]
        have := hg (q - 1) (by omega)
        rw [show ((i + 1 : Nat) : Int) + ((q - 1 : Nat) : Int) = (i : Int) + q by omega] at this
        exact this
    · rw [dv_lo, iu_self, e1, hst.1, dv_iu (fun q hq => by omega)]
      rw [show ((i + 1 : Nat) : Int) = (i : Int) + 1 by omega] at hD
      rw [hD]
    · rw [e1, hst.2]
set_option maxHeartbeats 4000000 in
set_option maxRecDepth 100000 in
theorem c_R_scaleDown (l : Launch) (G : zG) (b0 : Nat) (h : zH) (a : Nat) (S : xS) {n : Nat} {sc : Int} (hn : n ≤ 113) (hg0 : dg S.r1 0 n) (hsc : 0 < sc ∧ sc < 1000000000) : xMet l G b0 y_R_scaleDown b_R_scaleDown 8 none 1 40 h a [.ref (a + 1), .int (jI sc), .int (jI n)] S (fun r S' => r = none ∧ ∃ f : Int → Int, S' = S.s1 f ∧ dg f 0 n ∧ dv f 0 n = dv S.r1 0 n / sc) :=
  z_met (by decide) (Nat.le_of_ble_eq_true rfl) fun p e s m below meth c K hr hlk hnm => by
  refine z_iload_n K d_R_scaleDown_0 rfl ?_
  refine z_iconst (v := jI 1) K d_R_scaleDown_1 rfl ?_
  refine zi_icmp_gt (tgt := 6) K d_R_scaleDown_2 (by decide) (by omega) (by omega) (fun hc => ?_) (fun hc => ?_)
  · refine z_lconst (v := kI 0) K d_R_scaleDown_6 rfl ?_
    refine z_lstore_n K d_R_scaleDown_7 (by decide) ?_
    refine z_iload_n K d_R_scaleDown_8 rfl ?_
    refine z_aload_n K d_R_scaleDown_9 rfl ?_
    refine zx_gR K fd_R_15 rfl d_R_scaleDown_10 ?_
    refine zx_1len K d_R_scaleDown_13 ?_
    refine z_callS (As := [.int (jI n), .int (jI 113)]) K (c_min l G b0 (hx G h a S) (x := n) (y := 113) (by omega) (by decide)) ca_R_106 sm_min rfl rfl (by decide) (Nat.le_of_ble_eq_true rfl) d_R_scaleDown_14 (fun r h1 hp => ?_)
    obtain ⟨rfl, rfl⟩ := hp
    rw [show (min (n : Int) 113) = n by omega]
    refine z_iconst (v := jI 1) K d_R_scaleDown_17 rfl ?_
    refine zi_isub K d_R_scaleDown_18 ?_
    refine z_istore K d_R_scaleDown_19 (by decide) ?_
    refine z_re [0, 1, 3, 5] rfl ?_
    refine lp_R_scaleDown (S := S) K hn hg0 hsc (fun f h1 h2 => ?_) n 0 S.r1 0 (by omega) (fun q _ => rfl) (fun q hq => absurd hq (by omega)) (by simp [dv]) (by simp [dv])
    exact z_vret K hr hlk d_R_scaleDown_67 ⟨_, rfl, rfl, f, rfl, h1, h2⟩
  · have h1 : sc = 1 := by omega
    subst h1
    exact z_vret K hr hlk d_R_scaleDown_5 ⟨_, rfl, rfl, S.r1, rfl, hg0, by rw [Int.ediv_one]⟩
set_option maxHeartbeats 4000000 in
set_option maxRecDepth 100000 in
theorem lp_R_giveBack (K : zC p s m args c b_R_giveBack R_R 6 b0 G) {S : xS} {n fr : Nat} (hn : fr + n ≤ 113) (hu : dg S.r1 fr n) (hl0 : dg S.r2 0 n) (kx : ∀ (f : Int → Int) (cy : Int), (∀ q : Int, q < fr ∨ fr + n ≤ q → f q = S.r1 q) → dg f fr n → (cy = 0 ∨ cy = 1) → dv f fr n + cy * BS ^ n = dv S.r1 fr n + dv S.r2 0 n → zW p l e R s m args below meth c 6 b0 G kc ks Q (hx G h a (S.s1 f)) 75 [] []) :
    ∀ (j i : Nat) (f : Int → Int) (cy : Int), i + j = n → (∀ q : Int, q < fr ∨ fr + i ≤ q → f q = S.r1 q) → dg f fr i → (cy = 0 ∨ cy = 1) → dv f fr i + cy * BS ^ i = dv S.r1 fr i + dv S.r2 0 i →
      zW p l e R s m args below meth c 6 b0 G kc ks Q (hx G h a (S.s1 f)) 5 [(0, .ref (a + 1)), (1, .int (jI fr)), (2, .int (jI n)), (3, .int (jI cy)), (4, .int (jI i))] [] := by
  intro j
  induction j with
  | zero =>
    intro i f cy hi hf hg hc hD
    refine z_iload K d_R_giveBack_5 rfl ?_
    refine z_iload_n K d_R_giveBack_7 rfl ?_
    refine zi_icmp_ge (tgt := 75) K d_R_giveBack_8 (by decide) (by omega) (by omega) (fun hq1 => ?_) (fun hq1 => absurd hq1 (by omega))
    have hin : i = n := by omega
    subst hin
    exact z_re [] rfl (kx f cy hf hg hc hD)
  | succ j ih =>
    intro i f cy hi hf hg hc hD
    have g1 := hu i (by omega)
    have g2 := hl0 i (by omega)
    rw [Int.zero_add] at g2
    refine z_iload K d_R_giveBack_5 rfl ?_
    refine z_iload_n K d_R_giveBack_7 rfl ?_
    refine zi_icmp_ge (tgt := 75) K d_R_giveBack_8 (by decide) (by omega) (by omega) (fun hc => absurd hc (by omega)) (fun hc2 => ?_)
    refine z_aload_n K d_R_giveBack_11 rfl ?_
    refine zx_gR K fd_R_15 rfl d_R_giveBack_12 ?_
    refine z_iload_n K d_R_giveBack_15 rfl ?_
    refine z_iload K d_R_giveBack_16 rfl ?_
    refine zi_iadd K d_R_giveBack_18 ?_
    refine zx_1ldv (v := S.r1 ((fr : Int) + i)) K (by omega) (hf _ (by omega)) d_R_giveBack_19 ?_
    refine z_aload_n K d_R_giveBack_20 rfl ?_
    refine zx_gR K fd_R_18 rfl d_R_giveBack_21 ?_
    refine z_iload K d_R_giveBack_24 rfl ?_
    refine zx_2ldv (v := S.r2 i) K (by omega) rfl d_R_giveBack_26 ?_
    refine zi_iadd K d_R_giveBack_27 ?_
    refine z_iload_n K d_R_giveBack_28 rfl ?_
    refine zi_iadd K d_R_giveBack_29 ?_
    refine z_istore K d_R_giveBack_30 (by decide) ?_
    refine z_iload K d_R_giveBack_32 rfl ?_
    refine z_ldc (v := jI 1000000000) K d_R_giveBack_34 kc_R_70 ?_
    have step : ∀ c1 : Int, (c1 = 0 ∨ c1 = 1) → 0 ≤ S.r1 ((fr : Int) + i) + S.r2 i + cy - c1 * 1000000000 → S.r1 ((fr : Int) + i) + S.r2 i + cy - c1 * 1000000000 < 1000000000 → zW p l e R s m args below meth c 6 b0 G kc ks Q (hx G h a (S.s1 (iu f ((fr : Int) + i) (S.r1 ((fr : Int) + i) + S.r2 i + cy - c1 * 1000000000)))) 5 [(0, .ref (a + 1)), (1, .int (jI fr)), (2, .int (jI n)), (3, .int (jI c1)), (4, .int (jI ((i + 1 : Nat) : Int)))] [] := by
      intro c1 h1 h2 h3
      refine ih (i + 1) _ c1 (by omega) (fun q hq => ?_) (fun q hq => ?_) h1 ?_
      · rw [iu_ne _ _ (by omega)]; exact hf q (by omega)
      · by_cases e : q = i
        · subst e; rw [iu_self]; exact ⟨h2, h3⟩
        · rw [iu_ne _ _ (by omega)]; exact hg q (by omega)
      · show dv (iu f _ _) fr i + iu f _ _ ((fr : Int) + i) * BS ^ i + c1 * (BS ^ i * BS) = dv S.r1 fr i + S.r1 ((fr : Int) + i) * BS ^ i + (dv S.r2 0 i + S.r2 (0 + i) * BS ^ i)
        rw [dv_iu (fun q hq => by omega), Int.zero_add, iu_self]
        have := add_step (d1 := S.r1 ((fr : Int) + i)) (d2 := S.r2 i) (c1 := c1) hD
        rw [show cy + S.r1 ((fr : Int) + i) + S.r2 i - c1 * 1000000000 = S.r1 ((fr : Int) + i) + S.r2 i + cy - c1 * 1000000000 by omega] at this
        exact this
    refine zi_icmp_lt (tgt := 43) K d_R_giveBack_36 (by decide) (by omega) (by omega) (fun hc => ?_) (fun hc => ?_)
    · refine z_iconst (v := jI 0) K d_R_giveBack_43 rfl ?_
      refine z_istore_n K d_R_giveBack_44 (by decide) ?_
      refine z_aload_n K d_R_giveBack_45 rfl ?_
      refine zx_gR K fd_R_15 rfl d_R_giveBack_46 ?_
      refine z_iload_n K d_R_giveBack_49 rfl ?_
      refine z_iload K d_R_giveBack_50 rfl ?_
      refine zi_iadd K d_R_giveBack_52 ?_
      refine z_iload_n K d_R_giveBack_53 rfl ?_
      refine z_iconst (v := jI 1) K d_R_giveBack_54 rfl ?_
      refine zi_icmp_ne (tgt := 66) K d_R_giveBack_55 (by decide) (by omega) (by omega) (fun hc => ?_) (fun hc => absurd hc (by omega))
      refine z_iload K d_R_giveBack_66 rfl ?_
      refine zx_1st K (by omega) d_R_giveBack_68 ?_
      refine zi_iinc K d_R_giveBack_69 rfl (by decide) ?_
      refine z_goto (tgt := 5) K d_R_giveBack_72 (by decide) ?_
      have := step 0 (Or.inl rfl) (by omega) (by omega)
      rw [show S.r1 ((fr : Int) + i) + S.r2 i + cy - 0 * 1000000000 = S.r1 ((fr : Int) + i) + S.r2 i + cy by omega] at this
      exact z_re [0, 1, 2, 3, 4] rfl this
    · refine z_iconst (v := jI 1) K d_R_giveBack_39 rfl ?_
      refine z_goto (tgt := 44) K d_R_giveBack_40 (by decide) ?_
      refine z_istore_n K d_R_giveBack_44 (by decide) ?_
      refine z_aload_n K d_R_giveBack_45 rfl ?_
      refine zx_gR K fd_R_15 rfl d_R_giveBack_46 ?_
      refine z_iload_n K d_R_giveBack_49 rfl ?_
      refine z_iload K d_R_giveBack_50 rfl ?_
      refine zi_iadd K d_R_giveBack_52 ?_
      refine z_iload_n K d_R_giveBack_53 rfl ?_
      refine z_iconst (v := jI 1) K d_R_giveBack_54 rfl ?_
      refine zi_icmp_ne (tgt := 66) K d_R_giveBack_55 (by decide) (by omega) (by omega) (fun hc => absurd rfl hc) (fun hc => ?_)
      refine z_iload K d_R_giveBack_58 rfl ?_
      refine z_ldc (v := jI 1000000000) K d_R_giveBack_60 kc_R_70 ?_
      refine zi_isub K d_R_giveBack_62 ?_
      refine z_goto (tgt := 68) K d_R_giveBack_63 (by decide) ?_
      refine zx_1st K (by omega) d_R_giveBack_68 ?_
      refine zi_iinc K d_R_giveBack_69 rfl (by decide) ?_
      refine z_goto (tgt := 5) K d_R_giveBack_72 (by decide) ?_
      have := step 1 (Or.inr rfl) (by omega) (by omega)
      rw [show S.r1 ((fr : Int) + i) + S.r2 i + cy - 1 * 1000000000 = S.r1 ((fr : Int) + i) + S.r2 i + cy - 1000000000 by omega] at this
      exact z_re [0, 1, 2, 3, 4] rfl this
set_option maxHeartbeats 4000000 in
set_option maxRecDepth 100000 in
theorem c_R_giveBack (l : Launch) (G : zG) (b0 : Nat) (h : zH) (a : Nat) (S : xS) {n fr : Nat} (hn : fr + n ≤ 113) (hu : dg S.r1 fr n) (hl0 : dg S.r2 0 n) : xMet l G b0 y_R_giveBack b_R_giveBack 6 none 0 0 h a [.ref (a + 1), .int (jI fr), .int (jI n)] S (fun r S' => r = none ∧ ∃ (f : Int → Int) (cy : Int), S' = S.s1 f ∧ (∀ q : Int, q < fr ∨ fr + n ≤ q → f q = S.r1 q) ∧ dg f fr n ∧ (cy = 0 ∨ cy = 1) ∧ dv f fr n + cy * BS ^ n = dv S.r1 fr n + dv S.r2 0 n) :=
  z_met (by decide) (Nat.le_of_ble_eq_true rfl) fun p e s m below meth c K hr hlk hnm => by
  refine z_iconst (v := jI 0) K d_R_giveBack_0 rfl ?_
  refine z_istore_n K d_R_giveBack_1 (by decide) ?_
  refine z_iconst (v := jI 0) K d_R_giveBack_2 rfl ?_
  refine z_istore K d_R_giveBack_3 (by decide) ?_
  refine z_re [0, 1, 2, 3, 4] rfl ?_
  refine lp_R_giveBack (S := S) K hn hu hl0 (fun f cy h1 h2 h3 h4 => ?_) n 0 S.r1 0 (by omega) (fun q _ => rfl) (fun q hq => absurd hq (by omega)) (Or.inl rfl) (by simp [dv])
  exact z_vret K hr hlk d_R_giveBack_75 ⟨_, rfl, rfl, f, cy, rfl, h1, h2, h3, h4⟩
end R6
