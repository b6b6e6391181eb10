theorem ts_step {D P c w q m v E cy : Int} (hD : D + cy * P = E * v) (hw : w = c * v + cy) (hq : 1000000000 * q + m = w) : D + m * P + q * (P * 1000000000) = (E + c * P) * v := by grind
theorem ts_bd {c v cy : Int} (hc : 0 ≤ c ∧ c < 1000000000) (hv : 0 < v ∧ v ≤ 1000000000) (hcy : 0 ≤ cy ∧ cy < v) : 0 ≤ c * v + cy ∧ c * v + cy < 1000000000 * v := by
  have h1 : c * v ≤ 999999999 * v := Int.mul_le_mul_of_nonneg_right (by omega) (by omega)
  have h2 := Int.mul_nonneg hc.1 (show 0 ≤ v by omega)
  omega
theorem bs_bd {c v rs : Int} (hc : 0 ≤ c ∧ c < 1000000000) (hrs : 0 ≤ rs ∧ rs < v) : 0 ≤ rs * 1000000000 + c ∧ rs * 1000000000 + c < 1000000000 * v := by omega
theorem iu_same (f : Int → Int) (k : Int) : iu f k (f k) = f := by
  funext j
  simp only [iu]
  by_cases hj : j = k
  · rw [if_pos hj, hj]
  · rw [if_neg hj]
theorem dv_lo {f : Int → Int} {b : Int} (n : Nat) : dv f b (n + 1) = f b + 1000000000 * dv f (b + 1) n := by
  rw [show n + 1 = 1 + n by omega, dv_add, show BS ^ 1 = 1000000000 by decide]
  simp [dv]
/-- one step of a division by a small number, from the top -/
theorem bs_step {H rs c v w : Int} (hv : 0 < v) (hrs : rs = H % v) (hw : w = rs * 1000000000 + c) (hc : 0 ≤ c ∧ c < 1000000000) : (c + 1000000000 * H) / v = w / v + 1000000000 * (H / v) ∧ (c + 1000000000 * H) % v = w % v := by
  have h1 := Int.mul_ediv_add_emod H v
  have e : c + 1000000000 * H = w + v * (1000000000 * (H / v)) := by
    rw [hw, hrs]
    grind
  rw [e, Int.add_mul_ediv_left _ _ (by omega), Int.add_mul_emod_self_left]
  exact ⟨rfl, rfl⟩
section M7
variable {p : Program} {l : Launch} {e : Env} {R : Room} {s : State} {m : MethodId} {args : Array Value} {below : List Frame} {meth : Method} {c : Code} {Q : State → Prop} {b0 kc ks : Nat} {G : zG} {h : zH} {a : Nat} {cd : Int}
set_option maxHeartbeats 4000000 in
set_option maxRecDepth 100000 in
theorem lp_M_timesSmall (K : zC p s m args c b_M_timesSmall R_M 9 b0 G) (T : mT) {r v : Int} {n : Nat} (hr0 : 0 ≤ r ∧ r < 56) (hv : 0 < v ∧ v ≤ 1000000000) (hn : n ≤ 458) (hr1 : T.2.1 r = n) (hg0 : dg T.1 (460 * r) n)
    (hx : ∀ (C : Int → Int) (cy : Int), 0 ≤ cy → cy < v → (∀ q : Int, q < 460 * r ∨ 460 * r + n ≤ q → C q = T.1 q) → dg C (460 * r) n → dv C (460 * r) n + cy * BS ^ n = dv T.1 (460 * r) n * v → zW p l e R s m args below meth c 9 b0 G kc ks Q (hm G h a cd (C, T.2)) 72 [(0, .ref a), (1, .int (jI r)), (4, .long (kI cy))] []) :
    ∀ (j i : Nat) (C : Int → Int) (cy : Int), i + j = n → 0 ≤ cy → cy < v → (∀ q : Int, q < 460 * r ∨ 460 * r + i ≤ q → C q = T.1 q) → dg C (460 * r) i → dv C (460 * r) i + cy * BS ^ i = dv T.1 (460 * r) i * v →
      zW p l e R s m args below meth c 9 b0 G kc ks Q (hm G h a cd (C, T.2)) 6 [(0, .ref a), (1, .int (jI r)), (2, .long (kI v)), (4, .long (kI cy)), (6, .int (jI i))] [] := by
  intro j
  induction j with
  | zero =>
    intro i C cy hi hc0 hc1 hC hg hD
    refine z_iload K d_M_timesSmall_6 rfl ?_
    refine z_aload_n K d_M_timesSmall_8 rfl ?_
    refine zm_get K fd_M_13 rfl d_M_timesSmall_9 ?_
    refine z_iload_n K d_M_timesSmall_12 rfl ?_
    refine zm_zld K (by omega) d_M_timesSmall_13 ?_
    rw [hr1]
    refine zi_icmp_ge (tgt := 72) K d_M_timesSmall_14 (by decide) (by omega) (by omega) (fun hc => ?_) (fun hc => absurd hc (by omega))
    have hin : i = n := by omega
    subst hin
    exact z_re [0, 1, 4] rfl (hx C cy hc0 hc1 hC hg hD)
  | succ j ih =>
    intro i C cy hi hc0 hc1 hC hg hD
    have g1 := hg0 i (by omega)
    have e1 : C (460 * r + i) = T.1 (460 * r + i) := hC _ (by omega)
    have g2 := ts_bd g1 hv ⟨hc0, hc1⟩
    refine z_iload K d_M_timesSmall_6 rfl ?_
    refine z_aload_n K d_M_timesSmall_8 rfl ?_
    refine zm_get K fd_M_13 rfl d_M_timesSmall_9 ?_
    refine z_iload_n K d_M_timesSmall_12 rfl ?_
    refine zm_zld K (by omega) d_M_timesSmall_13 ?_
    rw [hr1]
    refine zi_icmp_ge (tgt := 72) K d_M_timesSmall_14 (by decide) (by omega) (by omega) (fun hc => absurd hc (by omega)) (fun hc => ?_)
    refine z_aload_n K d_M_timesSmall_17 rfl ?_
    refine zm_get K fd_M_9 rfl d_M_timesSmall_18 ?_
    refine z_sipush (v := jI 460) K d_M_timesSmall_21 rfl ?_
    refine z_iload_n K d_M_timesSmall_24 rfl ?_
    refine zi_imul K d_M_timesSmall_25 ?_
    refine z_iload K d_M_timesSmall_26 rfl ?_
    refine zi_iadd K d_M_timesSmall_28 ?_
    refine zm_cld K (by omega) d_M_timesSmall_29 ?_
    try dsimp only
    rw [e1]
    refine zi_i2l K d_M_timesSmall_30 (by omega) ?_
    refine z_lload_n K d_M_timesSmall_31 rfl ?_
    refine zi_lmul K d_M_timesSmall_32 ?_
    refine z_lload K d_M_timesSmall_33 rfl ?_
    refine zi_ladd K d_M_timesSmall_35 ?_
    obtain ⟨w, hw⟩ : ∃ w : Int, w = T.1 (460 * r + i) * v + cy := ⟨_, rfl⟩
    rw [← hw]
    rw [← hw] at g2
    refine z_lstore K d_M_timesSmall_36 (by decide) ?_
    refine z_aload_n K d_M_timesSmall_38 rfl ?_
    refine zm_get K fd_M_9 rfl d_M_timesSmall_39 ?_
    refine z_sipush (v := jI 460) K d_M_timesSmall_42 rfl ?_
    refine z_iload_n K d_M_timesSmall_45 rfl ?_
    refine zi_imul K d_M_timesSmall_46 ?_
    refine z_iload K d_M_timesSmall_47 rfl ?_
    refine zi_iadd K d_M_timesSmall_49 ?_
    refine z_lload K d_M_timesSmall_50 rfl ?_
    refine z_ldc2 (v := kI 1000000000) K d_M_timesSmall_52 kc_M_34 ?_
    refine zi_lrem K d_M_timesSmall_55 (by omega) (by omega) (by omega) ?_
    refine zi_l2i K d_M_timesSmall_56 ?_
    refine zm_cst K (by omega) d_M_timesSmall_57 ?_
    refine z_lload K d_M_timesSmall_58 rfl ?_
    refine z_ldc2 (v := kI 1000000000) K d_M_timesSmall_60 kc_M_34 ?_
    refine zi_ldiv K d_M_timesSmall_63 (by omega) (by omega) (by omega) ?_
    refine z_lstore K d_M_timesSmall_64 (by decide) ?_
    refine zi_iinc K d_M_timesSmall_66 rfl (by decide) ?_
    refine z_goto (tgt := 6) K d_M_timesSmall_69 (by decide) ?_
    rw [tmod_pos (by omega), tdiv_pos (by omega)]
    refine z_re [0, 1, 2, 4, 6] rfl ?_
    refine ih (i + 1) _ _ (by omega) (by omega) (by omega) (fun q hq => ?_) (fun q hq => ?_) ?_
    · dsimp only
      rw [iu_ne _ _ (by omega)]; exact hC q (by omega)
    · dsimp only
      by_cases hqk : q = i
      · subst hqk; rw [iu_self]; omega
      · rw [iu_ne _ _ (by omega)]; exact hg q (by omega)
    · simp only [dv]
      rw [iu_self, dv_iu (fun q hq => by omega), Int.pow_succ]
      exact ts_step hD hw (by omega)
set_option maxHeartbeats 4000000 in
set_option maxRecDepth 100000 in
/-- timesSmall(r, v): the cells of r, times v -/
theorem c_M_timesSmall (l : Launch) (G : zG) (b0 : Nat) (h : zH) (a : Nat) (cd : Int) (T : mT) {r v u : Int} {n : Nat} (hr0 : 0 ≤ r ∧ r < 56) (hv : 0 < v ∧ v ≤ 1000000000) (hn : n ≤ 458) (hx : Mg T r n u) :
    mMet l G b0 y_M_timesSmall b_M_timesSmall 9 none 0 0 h a cd [.int (jI r), .long (kI v)] T (fun o T' => o = none ∧ ∃ (N : Nat) (C : Int → Int), T' = (C, iu T.2.1 r N, T.2.2) ∧ n ≤ N ∧ N ≤ n + 1 ∧ (N = n + 1 → C (460 * r + n) ≠ 0) ∧ dg C (460 * r) N ∧ dv C (460 * r) N = u * v ∧ ∀ q : Int, q < 460 * r ∨ 460 * r + 460 ≤ q → C q = T.1 q) :=
  z_met (by decide) (Nat.le_of_ble_eq_true rfl) fun p e s m below meth c K hr hlk hnm => by
  obtain ⟨hx1, hx2, hx3, hx4⟩ := hx
  refine z_lconst (v := kI 0) K d_M_timesSmall_0 rfl ?_
  refine z_lstore K d_M_timesSmall_1 (by decide) ?_
  refine z_iconst (v := jI 0) K d_M_timesSmall_3 rfl ?_
  refine z_istore K d_M_timesSmall_4 (by decide) ?_
  refine z_re [0, 1, 2, 4, 6] rfl ?_
  refine lp_M_timesSmall K T hr0 hv hn hx1 hx3 (fun C cy hc0 hc1 hC hg hD => ?_) n 0 T.1 0 (by omega) (by omega) (by omega) (fun q _ => rfl) (fun k hk => absurd hk (by omega)) (by simp [dv])
  rw [hx4] at hD
  refine z_lload K d_M_timesSmall_72 rfl ?_
  refine z_lconst (v := kI 0) K d_M_timesSmall_74 rfl ?_
  refine zi_lc_le (tgt := 109) K d_M_timesSmall_75 d_M_timesSmall_76 (by decide) (by omega) (by omega) (fun hc => ?_) (fun hc => ?_)
  · have hc2 : cy = 0 := by omega
    subst hc2
    refine z_vret K hr hlk d_M_timesSmall_109 ⟨_, rfl, rfl, n, C, by rw [← hx1, iu_same], Nat.le_refl _, by omega, fun q => absurd q (by omega), hg, by omega, fun q hq => hC q (by omega)⟩
  · refine z_aload_n K d_M_timesSmall_79 rfl ?_
    refine zm_get K fd_M_9 rfl d_M_timesSmall_80 ?_
    refine z_sipush (v := jI 460) K d_M_timesSmall_83 rfl ?_
    refine z_iload_n K d_M_timesSmall_86 rfl ?_
    refine zi_imul K d_M_timesSmall_87 ?_
    refine z_aload_n K d_M_timesSmall_88 rfl ?_
    refine zm_get K fd_M_13 rfl d_M_timesSmall_89 ?_
    refine z_iload_n K d_M_timesSmall_92 rfl ?_
    refine zm_zld K (by omega) d_M_timesSmall_93 ?_
    refine zi_iadd K d_M_timesSmall_94 ?_
    refine z_lload K d_M_timesSmall_95 rfl ?_
    refine zi_l2i K d_M_timesSmall_97 ?_
    try dsimp only
    rw [hx1]
    refine zm_cst K (by omega) d_M_timesSmall_98 ?_
    refine z_aload_n K d_M_timesSmall_99 rfl ?_
    refine zm_get K fd_M_13 rfl d_M_timesSmall_100 ?_
    refine z_iload_n K d_M_timesSmall_103 rfl ?_
    refine z_dup2_11 K d_M_timesSmall_104 rfl rfl ?_
    refine zm_zld K (by omega) d_M_timesSmall_105 ?_
    refine z_iconst (v := jI 1) K d_M_timesSmall_106 rfl ?_
    refine zi_iadd K d_M_timesSmall_107 ?_
    refine zm_zst K (by omega) d_M_timesSmall_108 ?_
    try dsimp only
    rw [hx1]
    refine z_vret K hr hlk d_M_timesSmall_109 ⟨_, rfl, rfl, n + 1, iu C (460 * r + n) cy, ?_, by omega, Nat.le_refl _, fun _ => by rw [iu_self]; omega, fun q hq => ?_, ?_, fun q hq => ?_⟩
    · rw [show ((n + 1 : Nat) : Int) = n + 1 by omega]
    · by_cases hqk : q = n
      · subst hqk; rw [iu_self]; omega
      · rw [iu_ne _ _ (by omega)]; exact hg q (by omega)
    · simp only [dv]
      rw [iu_self, dv_iu (fun q hq => by omega)]; omega
    · rw [iu_ne _ _ (by omega)]; exact hC q (by omega)
set_option maxHeartbeats 4000000 in
set_option maxRecDepth 100000 in
theorem lp_M_bySmall (K : zC p s m args c b_M_bySmall R_M 8 b0 G) (T : mT) {r v : Int} {n : Nat} (hr0 : 0 ≤ r ∧ r < 56) (hv : 0 < v ∧ v ≤ 1000000000) (hn : n ≤ 459) (hg0 : dg T.1 (460 * r) n)
    (hx : ∀ C : Int → Int, (∀ q : Int, q < 460 * r ∨ 460 * r + n ≤ q → C q = T.1 q) → dg C (460 * r) n → dv C (460 * r) n = dv T.1 (460 * r) n / v → zW p l e R s m args below meth c 8 b0 G kc ks Q (hm G h a cd (C, T.2)) 70 [(0, .ref a), (1, .int (jI r))] []) :
    ∀ (i : Nat) (C : Int → Int) (rs : Int), i ≤ n → (∀ q : Int, q < 460 * r + i ∨ 460 * r + n ≤ q → C q = T.1 q) → dg C (460 * r + i) (n - i) → dv C (460 * r + i) (n - i) = dv T.1 (460 * r + i) (n - i) / v → rs = dv T.1 (460 * r + i) (n - i) % v →
      zW p l e R s m args below meth c 8 b0 G kc ks Q (hm G h a cd (C, T.2)) 12 [(0, .ref a), (1, .int (jI r)), (2, .int (jI v)), (3, .long (kI rs)), (5, .int (jI (i - 1)))] [] := by
  intro i
  induction i with
  | zero =>
    intro C rs hi hC hg hD hR
    refine z_iload K d_M_bySmall_12 rfl ?_
    refine zi_if_lt (tgt := 70) K d_M_bySmall_14 (by decide) (by omega) (fun hc => ?_) (fun hc => absurd hc (by omega))
    simp only [Int.natCast_zero, Int.add_zero, Nat.sub_zero] at hC hg hD
    exact z_re [0, 1] rfl (hx C hC hg hD)
  | succ i ih =>
    intro C rs hi hC hg hD hR
    have g1 := hg0 i (by omega)
    have e1 : C (460 * r + i) = T.1 (460 * r + i) := hC _ (by omega)
    have r0 := Int.emod_nonneg (dv T.1 (460 * r + ((i + 1 : Nat) : Int)) (n - (i + 1))) (show v ≠ 0 by omega)
    have r1 := Int.emod_lt_of_pos (dv T.1 (460 * r + ((i + 1 : Nat) : Int)) (n - (i + 1))) hv.1
    rw [← hR] at r0 r1
    have g2 := bs_bd g1 ⟨r0, r1⟩
    rw [show ((i + 1 : Nat) : Int) - 1 = i by omega]
    refine z_iload K d_M_bySmall_12 rfl ?_
    refine zi_if_lt (tgt := 70) K d_M_bySmall_14 (by decide) (by omega) (fun hc => absurd hc (by omega)) (fun hc => ?_)
    refine z_lload_n K d_M_bySmall_17 rfl ?_
    refine z_ldc2 (v := kI 1000000000) K d_M_bySmall_18 kc_M_34 ?_
    refine zi_lmul K d_M_bySmall_21 ?_
    refine z_aload_n K d_M_bySmall_22 rfl ?_
    refine zm_get K fd_M_9 rfl d_M_bySmall_23 ?_
    refine z_sipush (v := jI 460) K d_M_bySmall_26 rfl ?_
    refine z_iload_n K d_M_bySmall_29 rfl ?_
    refine zi_imul K d_M_bySmall_30 ?_
    refine z_iload K d_M_bySmall_31 rfl ?_
    refine zi_iadd K d_M_bySmall_33 ?_
    refine zm_cld K (by omega) d_M_bySmall_34 ?_
    try dsimp only
    rw [e1]
    refine zi_i2l K d_M_bySmall_35 (by omega) ?_
    refine zi_ladd K d_M_bySmall_36 ?_
    obtain ⟨w, hw⟩ : ∃ w : Int, w = rs * 1000000000 + T.1 (460 * r + i) := ⟨_, rfl⟩
    rw [← hw]
    rw [← hw] at g2
    refine z_lstore K d_M_bySmall_37 (by decide) ?_
    refine z_aload_n K d_M_bySmall_39 rfl ?_
    refine zm_get K fd_M_9 rfl d_M_bySmall_40 ?_
    refine z_sipush (v := jI 460) K d_M_bySmall_43 rfl ?_
    refine z_iload_n K d_M_bySmall_46 rfl ?_
    refine zi_imul K d_M_bySmall_47 ?_
    refine z_iload K d_M_bySmall_48 rfl ?_
    refine zi_iadd K d_M_bySmall_50 ?_
    refine z_lload K d_M_bySmall_51 rfl ?_
    refine z_iload_n K d_M_bySmall_53 rfl ?_
    refine zi_i2l K d_M_bySmall_54 (by omega) ?_
    refine zi_ldiv K d_M_bySmall_55 (by omega) (by omega) (by omega) ?_
    refine zi_l2i K d_M_bySmall_56 ?_
    refine zm_cst K (by omega) d_M_bySmall_57 ?_
    refine z_lload K d_M_bySmall_58 rfl ?_
    refine z_iload_n K d_M_bySmall_60 rfl ?_
    refine zi_i2l K d_M_bySmall_61 (by omega) ?_
    refine zi_lrem K d_M_bySmall_62 (by omega) (by omega) (by omega) ?_
    refine z_lstore_n K d_M_bySmall_63 (by decide) ?_
    refine zi_iinc K d_M_bySmall_64 rfl (by decide) ?_
    refine z_goto (tgt := 12) K d_M_bySmall_67 (by decide) ?_
    rw [tmod_pos (by omega), tdiv_pos (by omega)]
    refine z_re [0, 1, 2, 3, 5] rfl ?_
    obtain ⟨s1, s2⟩ := bs_step hv.1 hR hw g1
    have q0 : 0 ≤ w / v := Int.ediv_nonneg g2.1 (by omega)
    have q1 : w / v < 1000000000 := Int.ediv_lt_of_lt_mul hv.1 g2.2
    have eT : dv T.1 (460 * r + i) (n - i) = T.1 (460 * r + i) + 1000000000 * dv T.1 (460 * r + ((i + 1 : Nat) : Int)) (n - (i + 1)) := by
      rw [show n - i = (n - (i + 1)) + 1 by omega, dv_lo, show 460 * r + (i : Int) + 1 = 460 * r + ((i + 1 : Nat) : Int) by omega]
    refine ih _ _ (by omega) (fun q hq => ?_) (fun k hk => ?_) ?_ (by rw [eT, s2])
    · dsimp only
      rw [iu_ne _ _ (by omega)]; exact hC q (by omega)
    · dsimp only
      by_cases hk0 : k = 0
      · subst hk0; rw [show 460 * r + (i : Int) + ((0 : Nat) : Int) = 460 * r + i by omega, iu_self]; exact ⟨q0, q1⟩
      · rw [iu_ne _ _ (by omega)]
        have := hg (k - 1) (by omega)
        rwa [show 460 * r + ((i + 1 : Nat) : Int) + ((k - 1 : Nat) : Int) = 460 * r + i + k by omega] at this
    · dsimp only
      rw [eT, s1, show n - i = (n - (i + 1)) + 1 by omega, dv_lo, iu_self, dv_iu (fun q hq => by omega), show 460 * r + (i : Int) + 1 = 460 * r + ((i + 1 : Nat) : Int) by omega, hD]
set_option maxHeartbeats 4000000 in
set_option maxRecDepth 100000 in
/-- bySmall(r, v): the cells of r, by v; what is left over is dropped -/
theorem c_M_bySmall (l : Launch) (G : zG) (b0 : Nat) (h : zH) (a : Nat) (cd : Int) (T : mT) {r v u : Int} {n : Nat} (hr0 : 0 ≤ r ∧ r < 56) (hv : 0 < v ∧ v ≤ 1000000000) (hx : Mg T r n u) :
    mMet l G b0 y_M_bySmall b_M_bySmall 8 none 1 23 h a cd [.int (jI r), .int (jI v)] T (fun o T' => o = none ∧ ∃ (N : Nat) (C : Int → Int), T' = (C, iu T.2.1 r N, iu T.2.2.1 r (if N = 0 then 0 else T.2.2.1 r), T.2.2.2) ∧ N ≤ n ∧ dg C (460 * r) N ∧ dv C (460 * r) N = u / v ∧ (∀ j : Nat, N = j + 1 → C (460 * r + j) ≠ 0) ∧ ∀ q : Int, q < 460 * r ∨ 460 * r + 460 ≤ q → C q = T.1 q) :=
  z_met (by decide) (Nat.le_of_ble_eq_true rfl) fun p e s m below meth c K hr hlk hnm => by
  obtain ⟨hx1, hx2, hx3, hx4⟩ := hx
  refine z_lconst (v := kI 0) K d_M_bySmall_0 rfl ?_
  refine z_lstore_n K d_M_bySmall_1 (by decide) ?_
  refine z_aload_n K d_M_bySmall_2 rfl ?_
  refine zm_get K fd_M_13 rfl d_M_bySmall_3 ?_
  refine z_iload_n K d_M_bySmall_6 rfl ?_
  refine zm_zld K (by omega) d_M_bySmall_7 ?_
  refine z_iconst (v := jI 1) K d_M_bySmall_8 rfl ?_
  refine zi_isub K d_M_bySmall_9 ?_
  refine z_istore K d_M_bySmall_10 (by decide) ?_
  rw [hx1]
  refine z_re [0, 1, 2, 3, 5] rfl ?_
  refine lp_M_bySmall K T hr0 hv hx2 hx3 (fun C hC hg hD => ?_) n T.1 0 (Nat.le_refl _) (fun q _ => rfl) (fun k hk => absurd hk (by omega)) (by simp [dv]) (by simp [dv])
  rw [hx4] at hD
  refine z_aload_n K d_M_bySmall_70 rfl ?_
  refine z_iload_n K d_M_bySmall_71 rfl ?_
  refine z_aload_n K d_M_bySmall_72 rfl ?_
  refine zm_get K fd_M_13 rfl d_M_bySmall_73 ?_
  refine z_iload_n K d_M_bySmall_76 rfl ?_
  refine zm_zld K (by omega) d_M_bySmall_77 ?_
  try dsimp only
  rw [hx1]
  refine z_callV (ci := 0) (As := [.int (jI r), .int (jI n)]) K (c_M_trim l G b0 h a cd (C, T.2) hr0 hx2 hg) ca_M_53 im_M_trim se_M_trim rfl (by decide) hm_0 rfl rfl (by decide) (Nat.le_of_ble_eq_true rfl) d_M_bySmall_78 (fun o h1 hp => ?_)
  obtain ⟨T1, rfl, rfl, N, k1, k2, k3, rfl⟩ := hp
  dsimp only at k2 k3 ⊢
  exact z_vret K hr hlk d_M_bySmall_81 ⟨_, rfl, rfl, N, C, rfl, k1, fun k hk => hg k (by omega), by rw [k3, hD], k2, fun q hq => hC q (by omega)⟩
end M7
