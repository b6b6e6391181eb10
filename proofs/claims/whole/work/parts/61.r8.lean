section R8
variable {p : Program} {l : Launch} {e : Env} {R : Room} {s : State} {m : MethodId} {args : Array Value} {below : List Frame} {meth : Method} {c : Code} {Q : State → Prop} {b0 kc ks : Nat} {G : zG} {h : zH} {a : Nat} {cd : Int}
set_option maxHeartbeats 4000000 in
set_option maxRecDepth 100000 in
theorem lp_R_takeMultiple (K : zC p s m args c b_R_takeMultiple R_R 11 b0 G) {S : xS} {n fr : Nat} {g : Int} (hn : fr + n ≤ 112) (hg0 : 0 ≤ g ∧ g < 1000000000) (hu : dg S.r1 fr n) (hlo : dg S.r2 0 n) (kx : ∀ (f : Int → Int) (cy : Int), (∀ q : Int, q < fr ∨ fr + n ≤ q → f q = S.r1 q) → dg f fr n → 0 ≤ cy → cy ≤ 1000000000 → dv f fr n + -cy * BS ^ n = dv S.r1 fr n - g * dv S.r2 0 n → zW p l e R s m args below meth c 11 b0 G kc ks Q (hx G h a (S.s1 f)) 111 [(0, .ref (a + 1)), (1, .long (kI g)), (3, .int (jI fr)), (4, .int (jI n)), (5, .long (kI cy))] []) :
    ∀ (j i : Nat) (f : Int → Int) (cy : Int), i + j = n → (∀ q : Int, q < fr ∨ fr + i ≤ q → f q = S.r1 q) → dg f fr i → 0 ≤ cy → cy ≤ 1000000000 → dv f fr i + -cy * BS ^ i = dv S.r1 fr i - g * dv S.r2 0 i →
      zW p l e R s m args below meth c 11 b0 G kc ks Q (hx G h a (S.s1 f)) 24 [(0, .ref (a + 1)), (1, .long (kI g)), (3, .int (jI fr)), (4, .int (jI n)), (5, .long (kI cy)), (7, .int (jI i))] [] := by
  intro j
  induction j with
  | zero =>
    intro i f cy hi hf hg hc0 hc1 hD
    refine z_iload K d_R_takeMultiple_24 rfl ?_
    refine z_iload K d_R_takeMultiple_26 rfl ?_
    refine zi_icmp_ge (tgt := 111) K d_R_takeMultiple_28 (by decide) (by omega) (by omega) (fun hc => ?_) (fun hc => absurd hc (by omega))
    have hin : i = n := by omega
    subst hin
    exact z_re [0, 1, 3, 4, 5] rfl (kx f cy hf hg hc0 hc1 hD)
  | succ j ih =>
    intro i f cy hi hf hg hc0 hc1 hD
    have g1 := hu i (by omega)
    have g2 := hlo i (by omega)
    have g3 := mul_cell hg0 g2
    rw [Int.zero_add] at g2 g3
    refine z_iload K d_R_takeMultiple_24 rfl ?_
    refine z_iload K d_R_takeMultiple_26 rfl ?_
    refine zi_icmp_ge (tgt := 111) K d_R_takeMultiple_28 (by decide) (by omega) (by omega) (fun hc => absurd hc (by omega)) (fun hc => ?_)
    refine z_lload_n K d_R_takeMultiple_31 rfl ?_
    refine z_aload_n K d_R_takeMultiple_32 rfl ?_
    refine zx_gR K fd_R_18 rfl d_R_takeMultiple_33 ?_
    refine z_iload K d_R_takeMultiple_36 rfl ?_
    refine zx_2ldv (v := S.r2 i) K (by omega) rfl d_R_takeMultiple_38 ?_
    refine zi_i2l K d_R_takeMultiple_39 (by omega) ?_
    refine zi_lmul K d_R_takeMultiple_40 ?_
    refine z_lload K d_R_takeMultiple_41 rfl ?_
    refine zi_ladd K d_R_takeMultiple_43 ?_
    obtain ⟨w, hw⟩ : ∃ w : Int, w = g * S.r2 i + cy := ⟨_, rfl⟩
    rw [← hw]
    refine z_lstore K d_R_takeMultiple_44 (by decide) ?_
    refine z_lload K d_R_takeMultiple_46 rfl ?_
    refine z_ldc2 (v := kI 1000000000) K d_R_takeMultiple_48 kc_R_78 ?_
    refine zi_ldiv K d_R_takeMultiple_51 (by omega) (by decide) (by decide) ?_
    rw [tdiv_pos (by omega)]
    refine z_lstore K d_R_takeMultiple_52 (by decide) ?_
    refine z_aload_n K d_R_takeMultiple_54 rfl ?_
    refine zx_gR K fd_R_15 rfl d_R_takeMultiple_55 ?_
    refine z_iload_n K d_R_takeMultiple_58 rfl ?_
    refine z_iload K d_R_takeMultiple_59 rfl ?_
    refine zi_iadd K d_R_takeMultiple_61 ?_
    refine zx_1ldv (v := S.r1 ((fr : Int) + i)) K (by omega) (hf _ (by omega)) d_R_takeMultiple_62 ?_
    refine z_lload K d_R_takeMultiple_63 rfl ?_
    refine z_lload K d_R_takeMultiple_65 rfl ?_
    refine z_ldc2 (v := kI 1000000000) K d_R_takeMultiple_67 kc_R_78 ?_
    refine zi_lmul K d_R_takeMultiple_70 ?_
    refine zi_lsub K d_R_takeMultiple_71 ?_
    refine zi_l2i K d_R_takeMultiple_72 ?_
    refine zi_isub K d_R_takeMultiple_73 ?_
    refine z_istore K d_R_takeMultiple_74 (by decide) ?_
    refine z_iload K d_R_takeMultiple_76 rfl ?_
    have step : ∀ m1 c1 : Int, 0 ≤ m1 → m1 < 1000000000 → 0 ≤ c1 → c1 ≤ 1000000000 → 1000000000 * -c1 + m1 = S.r1 ((fr : Int) + i) - g * S.r2 i + -cy → zW p l e R s m args below meth c 11 b0 G kc ks Q (hx G h a (S.s1 (iu f ((fr : Int) + i) m1))) 24 [(0, .ref (a + 1)), (1, .long (kI g)), (3, .int (jI fr)), (4, .int (jI n)), (5, .long (kI c1)), (7, .int (jI ((i + 1 : Nat) : Int)))] [] := by
      intro m1 c1 h1 h2 h3 h4 h5
      refine ih (i + 1) _ c1 (by omega) (fun q hq => ?_) (fun q hq => ?_) h3 h4 ?_
      · rw [iu_ne _ _ (by omega)]; exact hf q (by omega)
      · by_cases e : q = i
        · subst e; rw [iu_self]; exact ⟨h1, h2⟩
        · rw [iu_ne _ _ (by omega)]; exact hg q (by omega)
      · show dv (iu f _ _) fr i + iu f _ _ ((fr : Int) + i) * BS ^ i + -c1 * (BS ^ i * BS) = dv S.r1 fr i + S.r1 ((fr : Int) + i) * BS ^ i - g * (dv S.r2 0 i + S.r2 (0 + i) * BS ^ i)
        rw [dv_iu (fun q hq => by omega), Int.zero_add, iu_self]
        exact pl_step (w := S.r1 ((fr : Int) + i) - g * S.r2 i + -cy) hD rfl h5
    refine zi_if_ge (tgt := 94) K d_R_takeMultiple_78 (by decide) (by omega) (fun hc => ?_) (fun hc => ?_)
    · refine z_aload_n K d_R_takeMultiple_94 rfl ?_
      refine zx_gR K fd_R_15 rfl d_R_takeMultiple_95 ?_
      refine z_iload_n K d_R_takeMultiple_98 rfl ?_
      refine z_iload K d_R_takeMultiple_99 rfl ?_
      refine zi_iadd K d_R_takeMultiple_101 ?_
      refine z_iload K d_R_takeMultiple_102 rfl ?_
      refine zx_1st K (by omega) d_R_takeMultiple_104 ?_
      refine zi_iinc K d_R_takeMultiple_105 rfl (by decide) ?_
      refine z_goto (tgt := 24) K d_R_takeMultiple_108 (by decide) ?_
      refine z_re [0, 1, 3, 4, 5, 7] rfl ?_
      exact step _ _ (by omega) (by omega) (by omega) (by omega) (by omega)
    · refine z_iload K d_R_takeMultiple_81 rfl ?_
      refine z_ldc (v := jI 1000000000) K d_R_takeMultiple_83 kc_R_70 ?_
      refine zi_iadd K d_R_takeMultiple_85 ?_
      refine z_istore K d_R_takeMultiple_86 (by decide) ?_
      refine z_lload K d_R_takeMultiple_88 rfl ?_
      refine z_lconst (v := kI 1) K d_R_takeMultiple_90 rfl ?_
      refine zi_ladd K d_R_takeMultiple_91 ?_
      refine z_lstore K d_R_takeMultiple_92 (by decide) ?_
      refine z_aload_n K d_R_takeMultiple_94 rfl ?_
      refine zx_gR K fd_R_15 rfl d_R_takeMultiple_95 ?_
      refine z_iload_n K d_R_takeMultiple_98 rfl ?_
      refine z_iload K d_R_takeMultiple_99 rfl ?_
      refine zi_iadd K d_R_takeMultiple_101 ?_
      refine z_iload K d_R_takeMultiple_102 rfl ?_
      refine zx_1st K (by omega) d_R_takeMultiple_104 ?_
      refine zi_iinc K d_R_takeMultiple_105 rfl (by decide) ?_
      refine z_goto (tgt := 24) K d_R_takeMultiple_108 (by decide) ?_
      refine z_re [0, 1, 3, 4, 5, 7] rfl ?_
      exact step _ _ (by omega) (by omega) (by omega) (by omega) (by omega)
set_option maxHeartbeats 4000000 in
set_option maxRecDepth 100000 in
theorem c_R_takeMultiple (l : Launch) (G : zG) (b0 : Nat) (h : zH) (a : Nat) (S : xS) {n fr : Nat} {g : Int} (hn1 : 1 ≤ n) (hn : fr + n ≤ 112) (hg0 : 0 ≤ g ∧ g < 1000000000) (hu : dg S.r1 fr (n + 1)) (hlo : dg S.r2 0 n) (h1 : dv S.r1 fr (n + 1) < (g + 1) * dv S.r2 0 n) (h2 : (g - 1) * dv S.r2 0 n ≤ dv S.r1 fr (n + 1)) :
    xMet l G b0 y_R_takeMultiple b_R_takeMultiple 11 (some .int) 1 25 h a [.ref (a + 1), .long (kI g), .int (jI fr), .int (jI n)] S (fun r S' => ∃ (f : Int → Int) (q : Int), S' = S.s1 f ∧ r = some (.int (jI q)) ∧ (0 ≤ q ∧ q < 1000000000) ∧ (∀ k : Int, k < fr ∨ fr + n < k → f k = S.r1 k) ∧ f ((fr : Int) + n) = 0 ∧ dg f fr n ∧ dv S.r1 fr (n + 1) = q * dv S.r2 0 n + dv f fr n ∧ dv f fr n < dv S.r2 0 n) :=
  z_met (by decide) (Nat.le_of_ble_eq_true rfl) fun p e s m below meth c K hr hlk hnm => by
  have hBd := dv_bd (f := S.r2) (b := 0) hlo
  have hWd := dv_bd (f := S.r1) (b := fr) hu
  have ut := hu n (by omega)
  have eW : dv S.r1 fr (n + 1) = dv S.r1 fr n + S.r1 ((fr : Int) + n) * BS ^ n := rfl
  obtain ⟨W, hW⟩ : ∃ W : Int, W = dv S.r1 fr (n + 1) := ⟨_, rfl⟩
  obtain ⟨B, hB⟩ : ∃ B : Int, B = dv S.r2 0 n := ⟨_, rfl⟩
  have hPn := BS_pos n
  obtain ⟨Pn, hP⟩ : ∃ P : Int, P = BS ^ n := ⟨_, rfl⟩
  have e1 : (g + 1) * B = g * B + B := by grind
  have e2 : (g - 1) * B = g * B - B := by grind
  rw [← hW, ← hB] at h1 h2 ⊢
  refine z_iload_n K d_R_takeMultiple_0 rfl ?_
  refine zi_if_lt (tgt := 16) K d_R_takeMultiple_1 (by decide) (by omega) (fun hc => absurd hc (by omega)) (fun hc => ?_)
  refine z_iload_n K d_R_takeMultiple_4 rfl ?_
  refine z_iload K d_R_takeMultiple_5 rfl ?_
  refine zi_iadd K d_R_takeMultiple_7 ?_
  refine z_aload_n K d_R_takeMultiple_8 rfl ?_
  refine zx_gR K fd_R_15 rfl d_R_takeMultiple_9 ?_
  refine zx_1len K d_R_takeMultiple_12 ?_
  refine zi_icmp_lt (tgt := 18) K d_R_takeMultiple_13 (by decide) (by omega) (by omega) (fun hc => ?_) (fun hc => absurd hc (by omega))
  refine z_lconst (v := kI 0) K d_R_takeMultiple_18 rfl ?_
  refine z_lstore K d_R_takeMultiple_19 (by decide) ?_
  refine z_iconst (v := jI 0) K d_R_takeMultiple_21 rfl ?_
  refine z_istore K d_R_takeMultiple_22 (by decide) ?_
  refine z_re [0, 1, 3, 4, 5, 7] rfl ?_
  refine lp_R_takeMultiple (S := S) K hn hg0 (fun i hi => hu i (by omega)) hlo (fun f cy hf hgf hc0 hc1 hD => ?_) n 0 S.r1 0 (by omega) (fun q _ => rfl) (fun q hq => absurd hq (by omega)) (by omega) (by omega) (by simp [dv])
  have hDb := dv_bd (f := f) (b := fr) hgf
  rw [← hB] at hD hBd
  rw [← hP] at hD hBd hDb hPn
  have hft : f ((fr : Int) + n) = S.r1 ((fr : Int) + n) := hf _ (by omega)
  have key : W - g * B = dv f fr n + (S.r1 ((fr : Int) + n) - cy) * Pn := by
    rw [hW, eW, ← hP, Int.sub_mul]
    rw [Int.neg_mul] at hD
    omega
  refine z_aload_n K d_R_takeMultiple_111 rfl ?_
  refine zx_gR K fd_R_15 rfl d_R_takeMultiple_112 ?_
  refine z_iload_n K d_R_takeMultiple_115 rfl ?_
  refine z_iload K d_R_takeMultiple_116 rfl ?_
  refine zi_iadd K d_R_takeMultiple_118 ?_
  refine zx_1ldv (v := S.r1 ((fr : Int) + n)) K (by omega) hft d_R_takeMultiple_119 ?_
  refine zi_i2l K d_R_takeMultiple_120 (by omega) ?_
  refine z_lload K d_R_takeMultiple_121 rfl ?_
  refine zi_lc_ge (tgt := 131) K d_R_takeMultiple_123 d_R_takeMultiple_124 (by decide) (by omega) (by omega) (fun hc => ?_) (fun hc => ?_)
  · have m0 := Int.mul_nonneg (show 0 ≤ S.r1 ((fr : Int) + n) - cy by omega) (Int.le_of_lt hPn)
    have mz : S.r1 ((fr : Int) + n) - cy = 0 := by
      rcases Int.lt_or_le 0 (S.r1 ((fr : Int) + n) - cy) with q | q
      · have := Int.mul_le_mul_of_nonneg_right (show 1 ≤ S.r1 ((fr : Int) + n) - cy by omega) (Int.le_of_lt hPn)
        omega
      · omega
    rw [mz, Int.zero_mul] at key
    refine z_iconst (v := jI 0) K d_R_takeMultiple_131 rfl ?_
    refine z_istore K d_R_takeMultiple_132 (by decide) ?_
    refine z_aload_n K d_R_takeMultiple_134 rfl ?_
    refine zx_gR K fd_R_15 rfl d_R_takeMultiple_135 ?_
    refine z_iload_n K d_R_takeMultiple_138 rfl ?_
    refine z_iload K d_R_takeMultiple_139 rfl ?_
    refine zi_iadd K d_R_takeMultiple_141 ?_
    refine z_iconst (v := jI 0) K d_R_takeMultiple_142 rfl ?_
    refine zx_1st K (by omega) d_R_takeMultiple_143 ?_
    refine z_iload K d_R_takeMultiple_144 rfl ?_
    refine zi_if_eq (tgt := 156) K d_R_takeMultiple_146 (by decide) (by decide) (fun _ => ?_) (fun hc => absurd rfl hc)
    refine z_iload K d_R_takeMultiple_156 rfl ?_
    refine zi_if_eq (tgt := 167) K d_R_takeMultiple_158 (by decide) (by decide) (fun _ => ?_) (fun hc => absurd rfl hc)
    refine z_lload_n K d_R_takeMultiple_167 rfl ?_
    refine zi_l2i K d_R_takeMultiple_168 ?_
    have hdv : dv (iu f ((fr : Int) + n) 0) fr n = dv f fr n := dv_iu (fun q hq => by omega)
    refine z_iret K hr hlk d_R_takeMultiple_169 ⟨_, rfl, _, g, rfl, rfl, hg0, fun k hk => ?_, iu_self _ _ _, fun k hk => ?_, ?_, ?_⟩
    · show iu f _ 0 k = _; rw [iu_ne _ _ (by omega)]; exact hf k (by omega)
    · show 0 ≤ iu f _ 0 _ ∧ iu f _ 0 _ < _; rw [iu_ne _ _ (by omega)]; exact hgf k hk
    · show W = g * B + dv (iu f _ 0) fr n; rw [hdv]; omega
    · show dv (iu f _ 0) fr n < B; rw [hdv]; omega
  · have mz : S.r1 ((fr : Int) + n) - cy = -1 := by
      have q1 : S.r1 ((fr : Int) + n) - cy ≤ -1 := by omega
      rcases Int.lt_or_le (S.r1 ((fr : Int) + n) - cy) (-1) with q | q
      · have := Int.mul_le_mul_of_nonneg_right (show S.r1 ((fr : Int) + n) - cy ≤ -2 by omega) (Int.le_of_lt hPn)
        omega
      · omega
    rw [mz] at key
    have hg1 : 1 ≤ g := by
      rcases Int.lt_or_le 0 g with q | q
      · omega
      · have : g = 0 := by omega
        rw [this, Int.zero_mul] at key
        omega
    have hdv : dv (iu f ((fr : Int) + n) 0) fr n = dv f fr n := dv_iu (fun q hq => by omega)
    refine z_iconst (v := jI 1) K d_R_takeMultiple_127 rfl ?_
    refine z_goto (tgt := 132) K d_R_takeMultiple_128 (by decide) ?_
    refine z_istore K d_R_takeMultiple_132 (by decide) ?_
    refine z_aload_n K d_R_takeMultiple_134 rfl ?_
    refine zx_gR K fd_R_15 rfl d_R_takeMultiple_135 ?_
    refine z_iload_n K d_R_takeMultiple_138 rfl ?_
    refine z_iload K d_R_takeMultiple_139 rfl ?_
    refine zi_iadd K d_R_takeMultiple_141 ?_
    refine z_iconst (v := jI 0) K d_R_takeMultiple_142 rfl ?_
    refine zx_1st K (by omega) d_R_takeMultiple_143 ?_
    refine z_iload K d_R_takeMultiple_144 rfl ?_
    refine zi_if_eq (tgt := 156) K d_R_takeMultiple_146 (by decide) (by decide) (fun hc => absurd hc (by decide)) (fun _ => ?_)
    refine z_aload_n K d_R_takeMultiple_149 rfl ?_
    refine z_iload_n K d_R_takeMultiple_150 rfl ?_
    refine z_iload K d_R_takeMultiple_151 rfl ?_
    refine z_callV (ci := 4) (As := [.int (jI fr), .int (jI n)]) K (c_R_giveBack l G b0 h a (S.s1 (iu f ((fr : Int) + n) 0)) (fr := fr) (n := n) (by omega) (fun k hk => by show 0 ≤ iu f _ 0 _ ∧ iu f _ 0 _ < _; rw [iu_ne _ _ (by omega)]; exact hgf k hk) hlo) ca_R_109 im_R_giveBack se_R_giveBack rfl (by decide) (hx_R) rfl rfl (by decide) (Nat.le_of_ble_eq_true rfl) d_R_takeMultiple_153 (fun r h1 hp => ?_)
    obtain ⟨S1, rfl, rfl, f2, c2, rfl, k1, k2, k3, k4⟩ := hp
    have k4' : dv f2 fr n + c2 * Pn = dv f fr n + B := by
      rw [hP, hB, ← hdv]; exact k4
    have k2d := dv_bd (f := f2) (b := fr) k2
    rw [← hP] at k2d
    have hc2 : c2 = 1 := by
      rcases k3 with q | q
      · exfalso; rw [q, Int.zero_mul] at k4'; omega
      · exact q
    rw [hc2, Int.one_mul] at k4'
    refine z_iload K d_R_takeMultiple_156 rfl ?_
    refine zi_if_eq (tgt := 167) K d_R_takeMultiple_158 (by decide) (by decide) (fun hc => absurd hc (by decide)) (fun _ => ?_)
    refine z_lload_n K d_R_takeMultiple_161 rfl ?_
    refine z_lconst (v := kI 1) K d_R_takeMultiple_162 rfl ?_
    refine zi_lsub K d_R_takeMultiple_163 ?_
    refine z_goto (tgt := 168) K d_R_takeMultiple_164 (by decide) ?_
    refine zi_l2i K d_R_takeMultiple_168 ?_
    refine z_iret K hr hlk d_R_takeMultiple_169 ⟨_, rfl, f2, g - 1, rfl, rfl, by omega, fun k hk => ?_, ?_, k2, ?_, ?_⟩
    · rw [k1 k (by omega)]; show iu f _ 0 k = _; rw [iu_ne _ _ (by omega)]; exact hf k (by omega)
    · rw [k1 _ (by omega)]; exact iu_self _ _ _
    · rw [e2]; omega
    · omega
end R8
