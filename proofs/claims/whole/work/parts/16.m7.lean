theorem ts_step {D P c w q m v E cy : Int} (hD : D + cy * P = E * v) (hw : w = c * v + cy) (hq : 1000000000 * q + m = w) : D + m * P + q * (P * 1000000000) = (E + c * P) * v := by grind
theorem ts_bd {c v cy : Int} (hc : 0 ≤ c ∧ c < 1000000000) (hv : 0 < v ∧ v ≤ 1000000000) (hcy : 0 ≤ cy ∧ cy < v) : 0 ≤ c * v + cy ∧ c * v + cy < 1000000000 * v := by
  have h1 : c * v ≤ 999999999 * v := Int.mul_le_mul_of_nonneg_right (by omega) (by omega)
  have h2 := Int.mul_nonneg hc.1 (show 0 ≤ v by omega)
  omega
theorem bs_bd {c v rs : Int} (hc : 0 ≤ c ∧ c < 1000000000) (hrs : 0 ≤ rs ∧ rs < v) : 0 ≤ rs * 1000000000 + c ∧ rs * 1000000000 + c < 1000000000 * v := by omega
section M7
variable {p : Program} {l : Launch} {e : Env} {R : Room} {s : State} {m : MethodId} {args : Array Value} {below : List Frame} {meth : Method} {c : Code} {Q : State → Prop} {b0 kc ks : Nat} {G : zG} {h : zH} {a : Nat} {cd : Int}
set_option maxHeartbeats 4000000 in
set_option maxRecDepth 100000 in
theorem lp_M_timesSmall (K : zC p s m args c b_M_timesSmall R_M 9 b0 G) (T : mT) {r v : Int} {n : Nat} (hr0 : 0 ≤ r ∧ r < 56) (hv : 0 < v ∧ v ≤ 1000000000) (hn : n ≤ 458) (hr1 : T.2.1 r = n) (hg0 : dg T.1 (460 * r) n)
    (hx : ∀ (C : Int → Int) (cy : Int), 0 ≤ cy → cy < v → (∀ q : Int, q < 460 * r ∨ 460 * r + n ≤ q → C q = T.1 q) → dg C (460 * r) n → dv C (460 * r) n + cy * BS ^ n = dv T.1 (460 * r) n * v → zW p l e R s m args below meth c 9 b0 G kc ks Q (hm G h a cd (C, T.2)) 72 [(0, .ref a), (1, .int (jI r)), (4, .long (kI cy))] []) :
    ∀ (j i : Nat) (C : Int → Int) (cy : Int), i + j = n → 0 ≤ cy → cy < v → (∀ q : Int, q < 460 * r ∨ 460 * r + i ≤ q → C q = T.1 q) → dg C (460 * r) i → dv C (460 * r) i + cy * BS ^ i = dv T.1 (460 * r) i * v →
      zW p l e R s m args below meth c 9 b0 G kc ks Q (hm G h a cd (C, T.2)) 6 [(0, .ref a), (1, .int (jI r)), (2, .long (kI v)), (4, .long (kI cy)), (6, .int (jI i))] [] := by
  intro j
  induction j with
  | zero =>
    intro i C cy hi hc0 hc1 hC hg hD
    refine z_iload K d_M_timesSmall_6 rfl ?_
    refine z_aload_n K d_M_timesSmall_8 rfl ?_
    refine zm_get K fd_M_13 rfl d_M_timesSmall_9 ?_
    refine z_iload_n K d_M_timesSmall_12 rfl ?_
    refine zm_zld K (by omega) d_M_timesSmall_13 ?_
    rw [hr1]
    refine zi_icmp_ge (tgt := 72) K d_M_timesSmall_14 (by decide) (by omega) (by omega) (fun hc => ?_) (fun hc => absurd hc (by omega))
    have hin : i = n := by omega
    subst hin
    exact z_re [0, 1, 4] rfl (hx C cy hc0 hc1 hC hg hD)
  | succ j ih =>
    intro i C cy hi hc0 hc1 hC hg hD
    have g1 := hg0 i (by omega)
    have e1 : C (460 * r + i) = T.1 (460 * r + i) := hC _ (by omega)
    have g2 := ts_bd g1 hv ⟨hc0, hc1⟩
    refine z_iload K d_M_timesSmall_6 rfl ?_
    refine z_aload_n K d_M_timesSmall_8 rfl ?_
    refine zm_get K fd_M_13 rfl d_M_timesSmall_9 ?_
    refine z_iload_n K d_M_timesSmall_12 rfl ?_
    refine zm_zld K (by omega) d_M_timesSmall_13 ?_
    rw [hr1]
    refine zi_icmp_ge (tgt := 72) K d_M_timesSmall_14 (by decide) (by omega) (by omega) (fun hc => absurd hc (by omega)) (fun hc => ?_)
    refine z_aload_n K d_M_timesSmall_17 rfl ?_
    refine zm_get K fd_M_9 rfl d_M_timesSmall_18 ?_
    refine z_sipush (v := jI 460) K d_M_timesSmall_21 rfl ?_
    refine z_iload_n K d_M_timesSmall_24 rfl ?_
    refine zi_imul K d_M_timesSmall_25 ?_
    refine z_iload K d_M_timesSmall_26 rfl ?_
    refine zi_iadd K d_M_timesSmall_28 ?_
    refine zm_cld K (by omega) d_M_timesSmall_29 ?_
    try dsimp only
    rw [e1]
    refine zi_i2l K d_M_timesSmall_30 (by omega) ?_
    refine z_lload_n K d_M_timesSmall_31 rfl ?_
    refine zi_lmul K d_M_timesSmall_32 ?_
    refine z_lload K d_M_timesSmall_33 rfl ?_
    refine zi_ladd K d_M_timesSmall_35 ?_
    obtain ⟨w, hw⟩ : ∃ w : Int, w = T.1 (460 * r + i) * v + cy := ⟨_, rfl⟩
    rw [← hw]
    rw [← hw] at g2
    refine z_lstore K d_M_timesSmall_36 (by decide) ?_
    refine z_aload_n K d_M_timesSmall_38 rfl ?_
    refine zm_get K fd_M_9 rfl d_M_timesSmall_39 ?_
    refine z_sipush (v := jI 460) K d_M_timesSmall_42 rfl ?_
    refine z_iload_n K d_M_timesSmall_45 rfl ?_
    refine zi_imul K d_M_timesSmall_46 ?_
    refine z_iload K d_M_timesSmall_47 rfl ?_
    refine zi_iadd K d_M_timesSmall_49 ?_
    refine z_lload K d_M_timesSmall_50 rfl ?_
    refine z_ldc2 (v := kI 1000000000) K d_M_timesSmall_52 kc_M_34 ?_
    refine zi_lrem K d_M_timesSmall_55 (by omega) (by omega) (by omega) ?_
    refine zi_l2i K d_M_timesSmall_56 ?_
    refine zm_cst K (by omega) d_M_timesSmall_57 ?_
    refine z_lload K d_M_timesSmall_58 rfl ?_
    refine z_ldc2 (v := kI 1000000000) K d_M_timesSmall_60 kc_M_34 ?_
    refine zi_ldiv K d_M_timesSmall_63 (by omega) (by omega) (by omega) ?_
    refine z_lstore K d_M_timesSmall_64 (by decide) ?_
    refine zi_iinc K d_M_timesSmall_66 rfl (by decide) ?_
    refine z_goto (tgt := 6) K d_M_timesSmall_69 (by decide) ?_
    rw [tmod_pos (by omega), tdiv_pos (by omega)]
    refine z_re [0, 1, 2, 4, 6] rfl ?_
    refine ih (i + 1) _ _ (by omega) (by omega) (by omega) (fun q hq => ?_) (fun q hq => ?_) ?_
    · dsimp only
      rw [iu_ne _ _ (by omega)]; exact hC q (by omega)
    · dsimp only
      by_cases hqk : q = i
      · subst hqk; rw [iu_self]; omega
      · rw [iu_ne _ _ (by omega)]; exact hg q (by omega)
    · simp only [dv]
      rw [iu_self, dv_iu (fun q hq => by omega), Int.pow_succ]
      exact ts_step hD hw (by omega)
set_option maxHeartbeats 4000000 in
set_option maxRecDepth 100000 in
/-- timesSmall(r, v): the cells of r, times v -/
theorem c_M_timesSmall (l : Launch) (G : zG) (b0 : Nat) (h : zH) (a : Nat) (cd : Int) (T : mT) {r v u : Int} {n : Nat} (hr0 : 0 ≤ r ∧ r < 56) (hv : 0 < v ∧ v ≤ 1000000000) (hn : n ≤ 458) (hx : Mg T r n u) :
    mMet l G b0 y_M_timesSmall b_M_timesSmall 9 none 0 0 h a cd [.int (jI r), .long (kI v)] T (fun o T' => o = none ∧ ∃ (N : Nat) (C : Int → Int), T' = (C, iu T.2.1 r N, T.2.2) ∧ n ≤ N ∧ N ≤ n + 1 ∧ (N = n + 1 → C (460 * r + n) ≠ 0) ∧ dg C (460 * r) N ∧ dv C (460 * r) N = u * v ∧ ∀ q : Int, q < 460 * r ∨ 460 * r + 460 ≤ q → C q = T.1 q) :=
  z_met (by decide) (Nat.le_of_ble_eq_true rfl) fun p e s m below meth c K hr hlk hnm => by
  obtain ⟨hx1, hx2, hx3, hx4⟩ := hx
  refine z_lconst (v := kI 0) K d_M_timesSmall_0 rfl ?_
  refine z_lstore K d_M_timesSmall_1 (by decide) ?_
  refine z_iconst (v := jI 0) K d_M_timesSmall_3 rfl ?_
  refine z_istore K d_M_timesSmall_4 (by decide) ?_
  refine z_re [0, 1, 2, 4, 6] rfl ?_
  refine lp_M_timesSmall K T hr0 hv hn hx1 hx3 (fun C cy hc0 hc1 hC hg hD => ?_) n 0 T.1 0 (by omega) (by omega) (by omega) (fun q _ => rfl) (fun k hk => absurd hk (by omega)) (by simp [dv])
  rw [hx4] at hD
  refine z_lload K d_M_timesSmall_72 rfl ?_
  refine z_lconst (v := kI 0) K d_M_timesSmall_74 rfl ?_
  refine zi_lc_le (tgt := 109) K d_M_timesSmall_75 d_M_timesSmall_76 (by decide) (by omega) (by omega) (fun hc => ?_) (fun hc => ?_)
  · have hc2 : cy = 0 := by omega
    subst hc2
    refine z_vret K hr hlk d_M_timesSmall_109 ⟨_, rfl, rfl, n, C, ?_, Nat.le_refl _, by omega, fun q => absurd q (by omega), hg, by omega, fun q hq => hC q (by omega)⟩
    congr 2
    funext q
    by_cases hq : q = r
    · rw [hq, iu_self, hx1]
    · rw [iu_ne _ _ hq]
  · refine z_aload_n K d_M_timesSmall_79 rfl ?_
    refine zm_get K fd_M_9 rfl d_M_timesSmall_80 ?_
    refine z_sipush (v := jI 460) K d_M_timesSmall_83 rfl ?_
    refine z_iload_n K d_M_timesSmall_86 rfl ?_
    refine zi_imul K d_M_timesSmall_87 ?_
    refine z_aload_n K d_M_timesSmall_88 rfl ?_
    refine zm_get K fd_M_13 rfl d_M_timesSmall_89 ?_
    refine z_iload_n K d_M_timesSmall_92 rfl ?_
    refine zm_zld K (by omega) d_M_timesSmall_93 ?_
    refine zi_iadd K d_M_timesSmall_94 ?_
    refine z_lload K d_M_timesSmall_95 rfl ?_
    refine zi_l2i K d_M_timesSmall_97 ?_
    try dsimp only
    rw [hx1]
    refine zm_cst K (by omega) d_M_timesSmall_98 ?_
    refine z_aload_n K d_M_timesSmall_99 rfl ?_
    refine zm_get K fd_M_13 rfl d_M_timesSmall_100 ?_
    refine z_iload_n K d_M_timesSmall_103 rfl ?_
    refine z_dup2_11 K d_M_timesSmall_104 rfl rfl ?_
    refine zm_zld K (by omega) d_M_timesSmall_105 ?_
    refine z_iconst (v := jI 1) K d_M_timesSmall_106 rfl ?_
    refine zi_iadd K d_M_timesSmall_107 ?_
    refine zm_zst K (by omega) d_M_timesSmall_108 ?_
    try dsimp only
    rw [hx1]
    refine z_vret K hr hlk d_M_timesSmall_109 ⟨_, rfl, rfl, n + 1, iu C (460 * r + n) cy, ?_, by omega, Nat.le_refl _, fun _ => by rw [iu_self]; omega, fun q hq => ?_, ?_, fun q hq => ?_⟩
    · rw [show ((n + 1 : Nat) : Int) = n + 1 by omega]
    · by_cases hqk : q = n
      · subst hqk; rw [iu_self]; omega
      · rw [iu_ne _ _ (by omega)]; exact hg q (by omega)
    · simp only [dv]
      rw [iu_self, dv_iu (fun q hq => by omega)]; omega
    · rw [iu_ne _ _ (by omega)]; exact hC q (by omega)
end M7
