theorem dv_add {f : Int → Int} {b : Int} {i : Nat} : ∀ j : Nat, dv f b (i + j) = dv f b i + BS ^ i * dv f (b + i) j
  | 0 => by simp [dv]
  | j + 1 => by
    show dv f b ((i + j) + 1) = _
    simp only [dv]
    rw [dv_add j, Int.pow_add, show b + ((i + j : Nat) : Int) = b + i + j by omega]
    grind
theorem dv_zero {f : Int → Int} {b : Int} : ∀ {n : Nat}, (∀ k : Nat, k < n → f (b + k) = 0) → dv f b n = 0
  | 0, _ => rfl
  | n + 1, h => by
    simp only [dv]
    rw [dv_zero (n := n) (fun k hk => h k (by omega)), h n (by omega)]
    omega
/-- a product of two cells -/
theorem mul_cell {x y : Int} (hx : 0 ≤ x ∧ x < 1000000000) (hy : 0 ≤ y ∧ y < 1000000000) : 0 ≤ x * y ∧ x * y ≤ 999999998000000001 := by
  refine ⟨Int.mul_nonneg hx.1 hy.1, ?_⟩
  have h1 : x * y ≤ 999999999 * y := Int.mul_le_mul_of_nonneg_right (by omega) hy.1
  omega
theorem tmod_pos {w b : Int} (h : 0 ≤ w) : w.tmod b = w % b := Int.tmod_eq_emod_of_nonneg h
theorem tdiv_pos {w b : Int} (h : 0 ≤ w) : w.tdiv b = w / b := Int.tdiv_eq_ediv_of_nonneg h
theorem mul_step {D P c w q m x y E F cy : Int} (hD : D + cy * P = E + x * F) (hw : w = c + x * y + cy) (hq : 1000000000 * q + m = w) : D + m * P + q * (P * 1000000000) = E + c * P + x * (F + y * P) := by grind
theorem mul_fin {A B D E X u P x cy Q : Int} (hA : A + P * E = X * u) (hD : D + cy * Q = E + x * u) : A + P * (D + cy * Q) = (X + x * P) * u := by
  rw [hD]
  grind
section M6
variable {p : Program} {l : Launch} {e : Env} {R : Room} {s : State} {m : MethodId} {args : Array Value} {below : List Frame} {meth : Method} {c : Code} {Q : State → Prop} {b0 kc ks : Nat} {G : zG} {h : zH} {a : Nat} {cd : Int}
set_option maxHeartbeats 4000000 in
set_option maxRecDepth 100000 in
theorem lp_M_mul0 (K : zC p s m args c b_M_multiply R_M 13 b0 G) (T : mT) {r x y : Int} {N : Nat} (hr0 : 0 ≤ r ∧ r < 56) (hN : N ≤ 459) (hx : ∀ C : Int → Int, (∀ q : Int, q < 460 * r ∨ 460 * r + N ≤ q → C q = T.1 q) → (∀ k : Nat, k < N → C (460 * r + k) = 0) → zW p l e R s m args below meth c 13 b0 G kc ks Q (hm G h a cd (C, T.2)) 45 [(0, .ref a), (1, .int (jI r)), (2, .int (jI x)), (3, .int (jI y)), (4, .int (jI N))] []) :
    ∀ (j i : Nat) (C : Int → Int), i + j = N → (∀ q : Int, q < 460 * r ∨ 460 * r + i ≤ q → C q = T.1 q) → (∀ k : Nat, k < i → C (460 * r + k) = 0) →
      zW p l e R s m args below meth c 13 b0 G kc ks Q (hm G h a cd (C, T.2)) 18 [(0, .ref a), (1, .int (jI r)), (2, .int (jI x)), (3, .int (jI y)), (4, .int (jI N)), (5, .int (jI i))] [] := by
  intro j
  induction j with
  | zero =>
    intro i C hi hC h0
    refine z_iload K d_M_multiply_18 rfl ?_
    refine z_iload K d_M_multiply_20 rfl ?_
    refine zi_icmp_ge (tgt := 45) K d_M_multiply_22 (by decide) (by omega) (by omega) (fun hc => ?_) (fun hc => absurd hc (by omega))
    have hiN : i = N := by omega
    subst hiN
    exact z_re [0, 1, 2, 3, 4] rfl (hx C hC h0)
  | succ j ih =>
    intro i C hi hC h0
    refine z_iload K d_M_multiply_18 rfl ?_
    refine z_iload K d_M_multiply_20 rfl ?_
    refine zi_icmp_ge (tgt := 45) K d_M_multiply_22 (by decide) (by omega) (by omega) (fun hc => absurd hc (by omega)) (fun hc => ?_)
    refine z_aload_n K d_M_multiply_25 rfl ?_
    refine zm_get K fd_M_9 rfl d_M_multiply_26 ?_
    refine z_sipush (v := jI 460) K d_M_multiply_29 rfl ?_
    refine z_iload_n K d_M_multiply_32 rfl ?_
    refine zi_imul K d_M_multiply_33 ?_
    refine z_iload K d_M_multiply_34 rfl ?_
    refine zi_iadd K d_M_multiply_36 ?_
    refine z_iconst (v := jI 0) K d_M_multiply_37 rfl ?_
    refine zm_cst K (by omega) d_M_multiply_38 ?_
    refine zi_iinc K d_M_multiply_39 rfl (by decide) ?_
    refine z_goto (tgt := 18) K d_M_multiply_42 (by decide) ?_
    refine z_re [0, 1, 2, 3, 4, 5] rfl ?_
    refine ih (i + 1) _ (by omega) (fun q hq => ?_) (fun k hk => ?_)
    · dsimp only
      rw [iu_ne _ _ (by omega)]; exact hC q (by omega)
    · dsimp only
      by_cases hki : k = i
      · subst hki; rw [iu_self]
      · rw [iu_ne _ _ (by omega)]; exact h0 k (by omega)
set_option maxHeartbeats 4000000 in
set_option maxRecDepth 100000 in
theorem lp_M_mul2 (K : zC p s m args c b_M_multiply R_M 13 b0 G) (T : mT) {r x y xv : Int} {n2 i N : Nat} (hr0 : 0 ≤ r ∧ r < 56) (hy0 : 0 ≤ y ∧ y < 56) (hry : r ≠ y) (hN : i + n2 < 460) (hy1 : T.2.1 y = n2) (hxv : 0 ≤ xv ∧ xv < 1000000000) (C0 : Int → Int) (hgy : dg C0 (460 * y) n2) (hg0 : dg C0 (460 * r + i) n2)
    (hx : ∀ (C : Int → Int) (cy : Int), 0 ≤ cy → cy < 1000000000 → (∀ q : Int, q < 460 * r + i ∨ 460 * r + i + n2 ≤ q → C q = C0 q) → dg C (460 * r + i) n2 → dv C (460 * r + i) n2 + cy * BS ^ n2 = dv C0 (460 * r + i) n2 + xv * dv C0 (460 * y) n2 → zW p l e R s m args below meth c 13 b0 G kc ks Q (hm G h a cd (C, T.2)) 169 [(0, .ref a), (1, .int (jI r)), (2, .int (jI x)), (3, .int (jI y)), (4, .int (jI N)), (5, .int (jI i)), (6, .long (kI cy))] []) :
    ∀ (j k : Nat) (C : Int → Int) (cy : Int), k + j = n2 → 0 ≤ cy → cy < 1000000000 → (∀ q : Int, q < 460 * r + i ∨ 460 * r + i + k ≤ q → C q = C0 q) → dg C (460 * r + i) k → dv C (460 * r + i) k + cy * BS ^ k = dv C0 (460 * r + i) k + xv * dv C0 (460 * y) k →
      zW p l e R s m args below meth c 13 b0 G kc ks Q (hm G h a cd (C, T.2)) 81 [(0, .ref a), (1, .int (jI r)), (2, .int (jI x)), (3, .int (jI y)), (4, .int (jI N)), (5, .int (jI i)), (6, .long (kI cy)), (8, .long (kI xv)), (10, .int (jI k))] [] := by
  intro j
  induction j with
  | zero =>
    intro k C cy hk hc0 hc1 hC hg hD
    refine z_iload K d_M_multiply_81 rfl ?_
    refine z_aload_n K d_M_multiply_83 rfl ?_
    refine zm_get K fd_M_13 rfl d_M_multiply_84 ?_
    refine z_iload_n K d_M_multiply_87 rfl ?_
    refine zm_zld K (by omega) d_M_multiply_88 ?_
    rw [hy1]
    refine zi_icmp_ge (tgt := 169) K d_M_multiply_89 (by decide) (by omega) (by omega) (fun hc => ?_) (fun hc => absurd hc (by omega))
    have hkn : k = n2 := by omega
    subst hkn
    exact z_re [0, 1, 2, 3, 4, 5, 6] rfl (hx C cy hc0 hc1 hC hg hD)
  | succ j ih =>
    intro k C cy hk hc0 hc1 hC hg hD
    have g1 := hg0 k (by omega)
    have g2 := hgy k (by omega)
    have e1 : C (460 * r + i + k) = C0 (460 * r + i + k) := hC _ (by omega)
    have e2 : C (460 * y + k) = C0 (460 * y + k) := hC _ (by omega)
    have g3 := mul_cell hxv g2
    refine z_iload K d_M_multiply_81 rfl ?_
    refine z_aload_n K d_M_multiply_83 rfl ?_
    refine zm_get K fd_M_13 rfl d_M_multiply_84 ?_
    refine z_iload_n K d_M_multiply_87 rfl ?_
    refine zm_zld K (by omega) d_M_multiply_88 ?_
    rw [hy1]
    refine zi_icmp_ge (tgt := 169) K d_M_multiply_89 (by decide) (by omega) (by omega) (fun hc => absurd hc (by omega)) (fun hc => ?_)
    refine z_aload_n K d_M_multiply_92 rfl ?_
    refine zm_get K fd_M_9 rfl d_M_multiply_93 ?_
    refine z_sipush (v := jI 460) K d_M_multiply_96 rfl ?_
    refine z_iload_n K d_M_multiply_99 rfl ?_
    refine zi_imul K d_M_multiply_100 ?_
    refine z_iload K d_M_multiply_101 rfl ?_
    refine zi_iadd K d_M_multiply_103 ?_
    refine z_iload K d_M_multiply_104 rfl ?_
    refine zi_iadd K d_M_multiply_106 ?_
    refine zm_cld K (by omega) d_M_multiply_107 ?_
    try dsimp only
    rw [e1]
    refine zi_i2l K d_M_multiply_108 (by omega) ?_
    refine z_lload K d_M_multiply_109 rfl ?_
    refine z_aload_n K d_M_multiply_111 rfl ?_
    refine zm_get K fd_M_9 rfl d_M_multiply_112 ?_
    refine z_sipush (v := jI 460) K d_M_multiply_115 rfl ?_
    refine z_iload_n K d_M_multiply_118 rfl ?_
    refine zi_imul K d_M_multiply_119 ?_
    refine z_iload K d_M_multiply_120 rfl ?_
    refine zi_iadd K d_M_multiply_122 ?_
    refine zm_cld K (by omega) d_M_multiply_123 ?_
    try dsimp only
    rw [e2]
    refine zi_i2l K d_M_multiply_124 (by omega) ?_
    refine zi_lmul K d_M_multiply_125 ?_
    refine zi_ladd K d_M_multiply_126 ?_
    refine z_lload K d_M_multiply_127 rfl ?_
    refine zi_ladd K d_M_multiply_129 ?_
    refine z_lstore K d_M_multiply_130 (by decide) ?_
    obtain ⟨w, hw⟩ : ∃ w : Int, w = C0 (460 * r + i + k) + xv * C0 (460 * y + k) + cy := ⟨_, rfl⟩
    rw [← hw]
    refine z_aload_n K d_M_multiply_132 rfl ?_
    refine zm_get K fd_M_9 rfl d_M_multiply_133 ?_
    refine z_sipush (v := jI 460) K d_M_multiply_136 rfl ?_
    refine z_iload_n K d_M_multiply_139 rfl ?_
    refine zi_imul K d_M_multiply_140 ?_
    refine z_iload K d_M_multiply_141 rfl ?_
    refine zi_iadd K d_M_multiply_143 ?_
    refine z_iload K d_M_multiply_144 rfl ?_
    refine zi_iadd K d_M_multiply_146 ?_
    refine z_lload K d_M_multiply_147 rfl ?_
    refine z_ldc2 (v := kI 1000000000) K d_M_multiply_149 kc_M_34 ?_
    refine zi_lrem K d_M_multiply_152 (by omega) (by omega) (by omega) ?_
    refine zi_l2i K d_M_multiply_153 ?_
    refine zm_cst K (by omega) d_M_multiply_154 ?_
    refine z_lload K d_M_multiply_155 rfl ?_
    refine z_ldc2 (v := kI 1000000000) K d_M_multiply_157 kc_M_34 ?_
    refine zi_ldiv K d_M_multiply_160 (by omega) (by omega) (by omega) ?_
    refine z_lstore K d_M_multiply_161 (by decide) ?_
    refine zi_iinc K d_M_multiply_163 rfl (by decide) ?_
    refine z_goto (tgt := 81) K d_M_multiply_166 (by decide) ?_
    rw [tmod_pos (by omega), tdiv_pos (by omega)]
    refine z_re [0, 1, 2, 3, 4, 5, 6, 8, 10] rfl ?_
    refine ih (k + 1) _ _ (by omega) (by omega) (by omega) (fun q hq => ?_) (fun q hq => ?_) ?_
    · dsimp only
      rw [iu_ne _ _ (by omega)]; exact hC q (by omega)
    · dsimp only
      by_cases hqk : q = k
      · subst hqk; rw [iu_self]; omega
      · rw [iu_ne _ _ (by omega)]; exact hg q (by omega)
    · simp only [dv]
      rw [iu_self, dv_iu (fun q hq => by omega), Int.pow_succ]
      exact mul_step hD hw (by omega)
set_option maxHeartbeats 4000000 in
set_option maxRecDepth 100000 in
theorem lp_M_mul1 (K : zC p s m args c b_M_multiply R_M 13 b0 G) (T : mT) {r x y : Int} {n1 n2 N : Nat} (hr0 : 0 ≤ r ∧ r < 56) (hx0 : 0 ≤ x ∧ x < 56) (hy0 : 0 ≤ y ∧ y < 56) (hrx : r ≠ x) (hry : r ≠ y) (hN : N = n1 + n2) (hN2 : N ≤ 459) (hx1 : T.2.1 x = n1) (hy1 : T.2.1 y = n2) (hgx : dg T.1 (460 * x) n1) (hgy : dg T.1 (460 * y) n2)
    (hx : ∀ C : Int → Int, (∀ q : Int, q < 460 * r ∨ 460 * r + 460 ≤ q → C q = T.1 q) → dg C (460 * r) N → dv C (460 * r) N = dv T.1 (460 * x) n1 * dv T.1 (460 * y) n2 → zW p l e R s m args below meth c 13 b0 G kc ks Q (hm G h a cd (C, T.2)) 198 [(0, .ref a), (1, .int (jI r)), (2, .int (jI x)), (3, .int (jI y)), (4, .int (jI N))] []) :
    ∀ (j i : Nat) (C : Int → Int), i + j = n1 → (∀ q : Int, q < 460 * r ∨ 460 * r + 460 ≤ q → C q = T.1 q) → dg C (460 * r) (i + n2) → (∀ k : Nat, i + n2 ≤ k → k < N → C (460 * r + k) = 0) → dv C (460 * r) (i + n2) = dv T.1 (460 * x) i * dv T.1 (460 * y) n2 →
      zW p l e R s m args below meth c 13 b0 G kc ks Q (hm G h a cd (C, T.2)) 48 [(0, .ref a), (1, .int (jI r)), (2, .int (jI x)), (3, .int (jI y)), (4, .int (jI N)), (5, .int (jI i))] [] := by
  intro j
  induction j with
  | zero =>
    intro i C hi hC hg h0 hD
    refine z_iload K d_M_multiply_48 rfl ?_
    refine z_aload_n K d_M_multiply_50 rfl ?_
    refine zm_get K fd_M_13 rfl d_M_multiply_51 ?_
    refine z_iload_n K d_M_multiply_54 rfl ?_
    refine zm_zld K (by omega) d_M_multiply_55 ?_
    rw [hx1]
    refine zi_icmp_ge (tgt := 198) K d_M_multiply_56 (by decide) (by omega) (by omega) (fun hc => ?_) (fun hc => absurd hc (by omega))
    have hin : i = n1 := by omega
    subst hin
    subst hN
    exact z_re [0, 1, 2, 3, 4] rfl (hx C hC hg hD)
  | succ j ih =>
    intro i C hi hC hg h0 hD
    have g1 := hgx i (by omega)
    have e1 : C (460 * x + i) = T.1 (460 * x + i) := hC _ (by omega)
    refine z_iload K d_M_multiply_48 rfl ?_
    refine z_aload_n K d_M_multiply_50 rfl ?_
    refine zm_get K fd_M_13 rfl d_M_multiply_51 ?_
    refine z_iload_n K d_M_multiply_54 rfl ?_
    refine zm_zld K (by omega) d_M_multiply_55 ?_
    rw [hx1]
    refine zi_icmp_ge (tgt := 198) K d_M_multiply_56 (by decide) (by omega) (by omega) (fun hc => absurd hc (by omega)) (fun hc => ?_)
    refine z_lconst (v := kI 0) K d_M_multiply_59 rfl ?_
    refine z_lstore K d_M_multiply_60 (by decide) ?_
    refine z_aload_n K d_M_multiply_62 rfl ?_
    refine zm_get K fd_M_9 rfl d_M_multiply_63 ?_
    refine z_sipush (v := jI 460) K d_M_multiply_66 rfl ?_
    refine z_iload_n K d_M_multiply_69 rfl ?_
    refine zi_imul K d_M_multiply_70 ?_
    refine z_iload K d_M_multiply_71 rfl ?_
    refine zi_iadd K d_M_multiply_73 ?_
    refine zm_cld K (by omega) d_M_multiply_74 ?_
    try dsimp only
    rw [e1]
    refine zi_i2l K d_M_multiply_75 (by omega) ?_
    refine z_lstore K d_M_multiply_76 (by decide) ?_
    refine z_iconst (v := jI 0) K d_M_multiply_78 rfl ?_
    refine z_istore K d_M_multiply_79 (by decide) ?_
    refine z_re [0, 1, 2, 3, 4, 5, 6, 8, 10] rfl ?_
    have ey : dv C (460 * y) n2 = dv T.1 (460 * y) n2 := dv_congr (fun k hk => hC _ (by omega))
    refine lp_M_mul2 K T hr0 hy0 hry (by omega) hy1 g1 C (fun k hk => by rw [hC _ (by omega)]; exact hgy k hk) (fun k hk => by rw [show 460 * r + (i : Int) + k = 460 * r + ((i + k : Nat) : Int) by omega]; exact hg (i + k) (by omega)) (fun C1 cy hc0 hc1 hC1 hg1 hD1 => ?_) n2 0 C 0 (by omega) (by omega) (by omega) (fun q _ => rfl) (fun k hk => absurd hk (by omega)) (by simp [dv])
    refine z_aload_n K d_M_multiply_169 rfl ?_
    refine zm_get K fd_M_9 rfl d_M_multiply_170 ?_
    refine z_sipush (v := jI 460) K d_M_multiply_173 rfl ?_
    refine z_iload_n K d_M_multiply_176 rfl ?_
    refine zi_imul K d_M_multiply_177 ?_
    refine z_iload K d_M_multiply_178 rfl ?_
    refine zi_iadd K d_M_multiply_180 ?_
    refine z_aload_n K d_M_multiply_181 rfl ?_
    refine zm_get K fd_M_13 rfl d_M_multiply_182 ?_
    refine z_iload_n K d_M_multiply_185 rfl ?_
    refine zm_zld K (by omega) d_M_multiply_186 ?_
    rw [hy1]
    refine zi_iadd K d_M_multiply_187 ?_
    refine z_lload K d_M_multiply_188 rfl ?_
    refine zi_l2i K d_M_multiply_190 ?_
    refine zm_cst K (by omega) d_M_multiply_191 ?_
    refine zi_iinc K d_M_multiply_192 rfl (by decide) ?_
    refine z_goto (tgt := 48) K d_M_multiply_195 (by decide) ?_
    refine z_re [0, 1, 2, 3, 4, 5] rfl ?_
    refine ih (i + 1) _ (by omega) (fun q hq => ?_) (fun k hk => ?_) (fun k g2 g3 => ?_) ?_
    · dsimp only
      rw [iu_ne _ _ (by omega), hC1 _ (by omega)]; exact hC q (by omega)
    · dsimp only
      by_cases hk1 : k = i + n2
      · subst hk1; rw [show 460 * r + ((i + n2 : Nat) : Int) = 460 * r + i + n2 by omega, iu_self]; omega
      · rw [iu_ne _ _ (by omega)]
        by_cases hk2 : k < i
        · rw [hC1 _ (by omega)]; exact hg k (by omega)
        · have := hg1 (k - i) (by omega)
          rwa [show 460 * r + (i : Int) + ((k - i : Nat) : Int) = 460 * r + k by omega] at this
    · dsimp only
      rw [iu_ne _ _ (by omega), hC1 _ (by omega)]; exact h0 k (by omega) g3
    · rw [show i + 1 + n2 = (i + n2) + 1 by omega]
      simp only [dv]
      rw [show 460 * r + ((i + n2 : Nat) : Int) = 460 * r + i + n2 by omega, iu_self, dv_iu (fun q hq => by omega), dv_add, dv_congr (g := C) (c := 460 * r) (n := i) (fun k hk => hC1 _ (by omega)), Int.pow_add]
      rw [dv_add] at hD
      rw [ey] at hD1
      have := mul_fin (x := T.1 (460 * x + i)) hD hD1 (B := 0)
      rw [← this]
      grind
set_option maxHeartbeats 4000000 in
set_option maxRecDepth 100000 in
/-- multiply(r, x, y): the register r holds v w; r is none of x and y -/
theorem c_M_multiply (l : Launch) (G : zG) (b0 : Nat) (h : zH) (a : Nat) (cd : Int) (T : mT) {r x y v w : Int} {n1 n2 : Nat} (hr0 : 0 ≤ r ∧ r < 56) (hx0 : 0 ≤ x ∧ x < 56) (hy0 : 0 ≤ y ∧ y < 56) (hrx : r ≠ x) (hry : r ≠ y) (hx : Rg T x n1 v) (hy : Rg T y n2 w) (hN : n1 + n2 ≤ 459) :
    mMet l G b0 y_M_multiply b_M_multiply 13 none 1 23 h a cd [.int (jI r), .int (jI x), .int (jI y)] T (fun o T' => o = none ∧ (∃ N : Nat, N ≤ n1 + n2 ∧ Rg T' r N (v * w)) ∧ Fr [r] T T') :=
  z_met (by decide) (Nat.le_of_ble_eq_true rfl) fun p e s m below meth c K hr hlk hnm => by
  have hx1 := hx.1
  have hy1 := hy.1
  refine z_aload_n K d_M_multiply_0 rfl ?_
  refine zm_get K fd_M_13 rfl d_M_multiply_1 ?_
  refine z_iload_n K d_M_multiply_4 rfl ?_
  refine zm_zld K (by omega) d_M_multiply_5 ?_
  refine z_aload_n K d_M_multiply_6 rfl ?_
  refine zm_get K fd_M_13 rfl d_M_multiply_7 ?_
  refine z_iload_n K d_M_multiply_10 rfl ?_
  refine zm_zld K (by omega) d_M_multiply_11 ?_
  refine zi_iadd K d_M_multiply_12 ?_
  refine z_istore K d_M_multiply_13 (by decide) ?_
  refine z_iconst (v := jI 0) K d_M_multiply_15 rfl ?_
  refine z_istore K d_M_multiply_16 (by decide) ?_
  rw [hx1, hy1, show (n1 : Int) + n2 = ((n1 + n2 : Nat) : Int) by omega]
  refine z_re [0, 1, 2, 3, 4, 5] rfl ?_
  refine lp_M_mul0 K T hr0 hN (fun C hC h0 => ?_) (n1 + n2) 0 T.1 (by omega) (fun q _ => rfl) (fun k hk => absurd hk (by omega))
  refine z_iconst (v := jI 0) K d_M_multiply_45 rfl ?_
  refine z_istore K d_M_multiply_46 (by decide) ?_
  refine z_re [0, 1, 2, 3, 4, 5] rfl ?_
  refine lp_M_mul1 K T hr0 hx0 hy0 hrx hry rfl hN hx1 hy1 hx.2.2.1 hy.2.2.1 (fun C1 hC1 hg1 hD1 => ?_) n1 0 C (by omega) (fun q hq => hC q (by omega)) (fun k hk => by rw [h0 k (by omega)]; omega) (fun k _ hk => h0 k hk) (by simp only [dv]; rw [dv_zero (fun k hk => h0 k (by omega))]; omega)
  refine z_aload_n K d_M_multiply_198 rfl ?_
  refine zm_get K fd_M_16 rfl d_M_multiply_199 ?_
  refine z_iload_n K d_M_multiply_202 rfl ?_
  refine z_aload_n K d_M_multiply_203 rfl ?_
  refine zm_get K fd_M_16 rfl d_M_multiply_204 ?_
  refine z_iload_n K d_M_multiply_207 rfl ?_
  refine zm_sld K (by omega) d_M_multiply_208 ?_
  refine z_aload_n K d_M_multiply_209 rfl ?_
  refine zm_get K fd_M_16 rfl d_M_multiply_210 ?_
  refine z_iload_n K d_M_multiply_213 rfl ?_
  refine zm_sld K (by omega) d_M_multiply_214 ?_
  refine zi_imul K d_M_multiply_215 ?_
  refine zm_sst K (by omega) d_M_multiply_216 ?_
  refine z_aload_n K d_M_multiply_217 rfl ?_
  refine z_iload_n K d_M_multiply_218 rfl ?_
  refine z_iload K d_M_multiply_219 rfl ?_
  dsimp only
  rw [hx.2.2.2.2.1, hy.2.2.2.2.1]
  refine z_callV (ci := 0) (As := [.int (jI r), .int (jI (n1 + n2 : Nat))]) K (c_M_trim l G b0 h a cd (C1, T.2.1, iu T.2.2.1 r (v.sign * w.sign), T.2.2.2) hr0 hN hg1) ca_M_53 im_M_trim se_M_trim rfl (by decide) hm_0 rfl rfl (by decide) (Nat.le_of_ble_eq_true rfl) d_M_multiply_221 (fun o h1 hp => ?_)
  obtain ⟨T1, rfl, rfl, N, k1, k2, k3, rfl⟩ := hp
  dsimp only at k2 k3 ⊢
  rw [iu_iu, iu_self]
  have hval : ((v * w).natAbs : Int) = dv C1 (460 * r) N := by
    rw [k3, hD1, ← hx.2.2.2.2.2, ← hy.2.2.2.2.2, Int.natAbs_mul]; rfl
  refine z_vret K hr hlk d_M_multiply_224 ⟨_, rfl, rfl, ⟨N, k1, Rg.mk (T := T) (by omega) (fun k hk => hg1 k (by omega)) k2 ?_ hval⟩, Fr.of1 rfl (Or.inl rfl) hC1⟩
  by_cases hN0 : N = 0
  · subst hN0
    rw [if_pos rfl]
    simp only [dv] at hval
    rw [show v * w = 0 by omega]; rfl
  · rw [if_neg hN0, Int.sign_mul]
end M6
