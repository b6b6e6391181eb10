section R4v
variable {p : Program} {l : Launch} {e : Env} {R : Room} {s : State} {m : MethodId} {args : Array Value} {below : List Frame} {meth : Method} {c : Code} {Q : State → Prop}
variable {cc : ByteArray} {own : String} {nL b0 pc kc ks : Nat} {G : zG} {h : zH} {lv : List (Nat × Value)} {st : List Value} {a : Nat} {S : xS}
theorem zx_cldv (K : zC p s m args c cc own nL b0 G) {k : Nat} {j v : Int} (hk : isN k = true) (h0 : 0 ≤ j ∧ j < nR k) (hv : S.C k j = v) (hd : decode cc pc = .ok (.iaload, 1)) (kk : zW p l e R s m args below meth c nL b0 G kc ks Q (hx G h a S) (pc + 1) lv (.int (jI v) :: st)) : zW p l e R s m args below meth c nL b0 G kc ks Q (hx G h a S) pc lv (.int (jI j) :: .ref (a + k + 1) :: st) := zx_cld K hk h0 hd (hv ▸ kk)
theorem zx_0ldv (K : zC p s m args c cc own nL b0 G) {j v : Int} (h0 : 0 ≤ j ∧ j < 112) (hv : S.r0 j = v) (hd : decode cc pc = .ok (.iaload, 1)) (kk : zW p l e R s m args below meth c nL b0 G kc ks Q (hx G h a S) (pc + 1) lv (.int (jI v) :: st)) : zW p l e R s m args below meth c nL b0 G kc ks Q (hx G h a S) pc lv (.int (jI j) :: .ref (a + 2) :: st) := zx_0ld K h0 hd (hv ▸ kk)
theorem zx_1ldv (K : zC p s m args c cc own nL b0 G) {j v : Int} (h0 : 0 ≤ j ∧ j < 113) (hv : S.r1 j = v) (hd : decode cc pc = .ok (.iaload, 1)) (kk : zW p l e R s m args below meth c nL b0 G kc ks Q (hx G h a S) (pc + 1) lv (.int (jI v) :: st)) : zW p l e R s m args below meth c nL b0 G kc ks Q (hx G h a S) pc lv (.int (jI j) :: .ref (a + 3) :: st) := zx_1ld K h0 hd (hv ▸ kk)
theorem zx_2ldv (K : zC p s m args c cc own nL b0 G) {j v : Int} (h0 : 0 ≤ j ∧ j < 113) (hv : S.r2 j = v) (hd : decode cc pc = .ok (.iaload, 1)) (kk : zW p l e R s m args below meth c nL b0 G kc ks Q (hx G h a S) (pc + 1) lv (.int (jI v) :: st)) : zW p l e R s m args below meth c nL b0 G kc ks Q (hx G h a S) pc lv (.int (jI j) :: .ref (a + 4) :: st) := zx_2ld K h0 hd (hv ▸ kk)
end R4v
section R4
variable {p : Program} {l : Launch} {e : Env} {R : Room} {s : State} {m : MethodId} {args : Array Value} {below : List Frame} {meth : Method} {c : Code} {Q : State → Prop} {b0 kc ks : Nat} {G : zG} {h : zH} {a : Nat} {cd : Int}
set_option maxHeartbeats 4000000 in
set_option maxRecDepth 100000 in
theorem lp_R_mul0 (K : zC p s m args c b_R_multiply R_R 15 b0 G) {S : xS} {x y o n1 n2 : Nat} (hN : n2 ≤ 112) (kx : ∀ C : Int → Int, (∀ k : Nat, k < n2 → C k = 0) → zW p l e R s m args below meth c 15 b0 G kc ks Q (hx G h a (S.s0 C)) 76 [(0, .ref (a + 1)), (1, .ref (a + x)), (2, .ref (a + y)), (3, .ref (a + o)), (4, .ref (a + y + 1)), (5, .int (jI n1)), (6, .int (jI n2))] []) :
    ∀ (j i : Nat) (C : Int → Int), i + j = n2 → (∀ k : Nat, k < i → C k = 0) → zW p l e R s m args below meth c 15 b0 G kc ks Q (hx G h a (S.s0 C)) 55 [(0, .ref (a + 1)), (1, .ref (a + x)), (2, .ref (a + y)), (3, .ref (a + o)), (4, .ref (a + y + 1)), (5, .int (jI n1)), (6, .int (jI n2)), (7, .int (jI i))] [] := by
  intro j
  induction j with
  | zero =>
    intro i C hi h0
    refine z_iload K d_R_multiply_55 rfl ?_
    refine z_iload K d_R_multiply_57 rfl ?_
    refine zi_icmp_ge (tgt := 76) K d_R_multiply_59 (by decide) (by omega) (by omega) (fun hc => ?_) (fun hc => absurd hc (by omega))
    have hiN : i = n2 := by omega
    subst hiN
    exact z_re [0, 1, 2, 3, 4, 5, 6] rfl (kx C h0)
  | succ j ih =>
    intro i C hi h0
    refine z_iload K d_R_multiply_55 rfl ?_
    refine z_iload K d_R_multiply_57 rfl ?_
    refine zi_icmp_ge (tgt := 76) K d_R_multiply_59 (by decide) (by omega) (by omega) (fun hc => absurd hc (by omega)) (fun hc => ?_)
    refine z_aload_n K d_R_multiply_62 rfl ?_
    refine zx_gR K fd_R_9 rfl d_R_multiply_63 ?_
    refine z_iload K d_R_multiply_66 rfl ?_
    refine z_iconst (v := jI 0) K d_R_multiply_68 rfl ?_
    refine zx_0st K (by omega) d_R_multiply_69 ?_
    refine zi_iinc K d_R_multiply_70 rfl (by decide) ?_
    refine z_goto (tgt := 55) K d_R_multiply_73 (by decide) ?_
    refine z_re [0, 1, 2, 3, 4, 5, 6, 7] rfl ?_
    refine ih (i + 1) (iu C i 0) (by omega) (fun k hk => ?_)
    by_cases hki : k = i
    · subst hki; rw [iu_self]
    · rw [iu_ne _ _ (by omega)]; exact h0 k (by omega)
set_option maxHeartbeats 4000000 in
set_option maxRecDepth 100000 in
theorem lp_R_mul2 (K : zC p s m args c b_R_multiply R_R 15 b0 G) {S : xS} {x y o n1 n2 i : Nat} {xv : Int} (hy0 : isN y = true) (hN : i + n2 ≤ 112) (hy2 : n2 ≤ nR y) (hxv : 0 ≤ xv ∧ xv < 1000000000) (C0 : Int → Int) (hgy : dg (S.C y) 0 n2) (hg0 : dg C0 i n2)
    (kx : ∀ (C : Int → Int) (cy : Int), 0 ≤ cy → cy < 1000000000 → (∀ q : Int, q < i ∨ i + n2 ≤ q → C q = C0 q) → dg C i n2 → dv C i n2 + cy * BS ^ n2 = dv C0 i n2 + xv * dv (S.C y) 0 n2 → zW p l e R s m args below meth c 15 b0 G kc ks Q (hx G h a (S.s0 C)) 169 [(0, .ref (a + 1)), (1, .ref (a + x)), (2, .ref (a + y)), (3, .ref (a + o)), (4, .ref (a + y + 1)), (5, .int (jI n1)), (6, .int (jI n2)), (7, .int (jI i)), (10, .long (kI cy))] []) :
    ∀ (j k : Nat) (C : Int → Int) (cy : Int), k + j = n2 → 0 ≤ cy → cy < 1000000000 → (∀ q : Int, q < i ∨ i + k ≤ q → C q = C0 q) → dg C i k → dv C i k + cy * BS ^ k = dv C0 i k + xv * dv (S.C y) 0 k →
      zW p l e R s m args below meth c 15 b0 G kc ks Q (hx G h a (S.s0 C)) 102 [(0, .ref (a + 1)), (1, .ref (a + x)), (2, .ref (a + y)), (3, .ref (a + o)), (4, .ref (a + y + 1)), (5, .int (jI n1)), (6, .int (jI n2)), (7, .int (jI i)), (8, .long (kI xv)), (10, .long (kI cy)), (12, .int (jI k))] [] := by
  intro j
  have hRy := nR_le y
  induction j with
  | zero =>
    intro k C cy hk hc0 hc1 hC hg hD
    refine z_iload K d_R_multiply_102 rfl ?_
    refine z_iload K d_R_multiply_104 rfl ?_
    refine zi_icmp_ge (tgt := 169) K d_R_multiply_106 (by decide) (by omega) (by omega) (fun hc => ?_) (fun hc => absurd hc (by omega))
    have hkn : k = n2 := by omega
    subst hkn
    exact z_re [0, 1, 2, 3, 4, 5, 6, 7, 10] rfl (kx C cy hc0 hc1 hC hg hD)
  | succ j ih =>
    intro k C cy hk hc0 hc1 hC hg hD
    have g1 := hg0 k (by omega)
    have g2 := hgy k (by omega)
    have e1 : C ((i : Int) + k) = C0 ((i : Int) + k) := hC _ (by omega)
    have g3 := mul_cell hxv g2
    rw [Int.zero_add] at g2 g3
    refine z_iload K d_R_multiply_102 rfl ?_
    refine z_iload K d_R_multiply_104 rfl ?_
    refine zi_icmp_ge (tgt := 169) K d_R_multiply_106 (by decide) (by omega) (by omega) (fun hc => absurd hc (by omega)) (fun hc => ?_)
    refine z_lload K d_R_multiply_109 rfl ?_
    refine z_aload K d_R_multiply_111 rfl ?_
    refine z_iload K d_R_multiply_113 rfl ?_
    refine zx_cldv (v := S.C y k) K hy0 (by omega) rfl d_R_multiply_115 ?_
    refine zi_i2l K d_R_multiply_116 (by omega) ?_
    refine zi_lmul K d_R_multiply_117 ?_
    refine z_aload_n K d_R_multiply_118 rfl ?_
    refine zx_gR K fd_R_9 rfl d_R_multiply_119 ?_
    refine z_iload K d_R_multiply_122 rfl ?_
    refine z_iload K d_R_multiply_124 rfl ?_
    refine zi_iadd K d_R_multiply_126 ?_
    refine zx_0ldv (v := C0 ((i : Int) + k)) K (by omega) e1 d_R_multiply_127 ?_
    refine zi_i2l K d_R_multiply_128 (by omega) ?_
    refine zi_ladd K d_R_multiply_129 ?_
    refine z_lload K d_R_multiply_130 rfl ?_
    refine zi_ladd K d_R_multiply_132 ?_
    obtain ⟨w, hw⟩ : ∃ w : Int, w = C0 ((i : Int) + k) + xv * S.C y k + cy := ⟨_, rfl⟩
    rw [show xv * S.C y k + C0 ((i : Int) + k) + cy = w by rw [hw]; omega]
    refine z_lstore K d_R_multiply_133 (by decide) ?_
    refine z_lload K d_R_multiply_135 rfl ?_
    refine z_ldc2 (v := kI 1000000000) K d_R_multiply_137 kc_R_78 ?_
    refine zi_ldiv K d_R_multiply_140 (by omega) (by decide) (by decide) ?_
    rw [tdiv_pos (by omega)]
    refine z_lstore K d_R_multiply_141 (by decide) ?_
    refine z_aload_n K d_R_multiply_143 rfl ?_
    refine zx_gR K fd_R_9 rfl d_R_multiply_144 ?_
    refine z_iload K d_R_multiply_147 rfl ?_
    refine z_iload K d_R_multiply_149 rfl ?_
    refine zi_iadd K d_R_multiply_151 ?_
    refine z_lload K d_R_multiply_152 rfl ?_
    refine z_lload K d_R_multiply_154 rfl ?_
    refine z_ldc2 (v := kI 1000000000) K d_R_multiply_156 kc_R_78 ?_
    refine zi_lmul K d_R_multiply_159 ?_
    refine zi_lsub K d_R_multiply_160 ?_
    refine zi_l2i K d_R_multiply_161 ?_
    refine zx_0st K (by omega) d_R_multiply_162 ?_
    refine zi_iinc K d_R_multiply_163 rfl (by decide) ?_
    refine z_goto (tgt := 102) K d_R_multiply_166 (by decide) ?_
    refine z_re [0, 1, 2, 3, 4, 5, 6, 7, 8, 10, 12] rfl ?_
    refine ih (k + 1) (iu C ((i : Int) + k) (w - w / 1000000000 * 1000000000)) (w / 1000000000) (by omega) (by omega) (by omega) (fun q hq => ?_) (fun q hq => ?_) ?_
    · rw [iu_ne _ _ (by omega)]; exact hC q (by omega)
    · by_cases hqk : q = k
      · subst hqk; rw [iu_self]; omega
      · rw [iu_ne _ _ (by omega)]; exact hg q (by omega)
    · show dv (iu C _ _) i k + iu C _ _ ((i : Int) + k) * BS ^ k + w / 1000000000 * (BS ^ k * BS) = dv C0 i k + C0 ((i : Int) + k) * BS ^ k + xv * (dv (S.C y) 0 k + S.C y (0 + k) * BS ^ k)
      rw [iu_self, dv_iu (fun q hq => by omega), Int.zero_add]
      exact mul_step hD hw (by omega)
set_option maxHeartbeats 4000000 in
set_option maxRecDepth 100000 in
theorem lp_R_mul1 (K : zC p s m args c b_R_multiply R_R 15 b0 G) {S : xS} {x y o n1 n2 : Nat} {v w : Int} (hx0 : isN x = true) (hy0 : isN y = true) (vx : NR S x n1 v) (vy : NR S y n2 w) (hN2 : n1 + n2 ≤ 112)
    (kx : ∀ C : Int → Int, dg C 0 (n1 + n2) → dv C 0 (n1 + n2) = dv (S.C x) 0 n1 * dv (S.C y) 0 n2 → zW p l e R s m args below meth c 15 b0 G kc ks Q (hx G h a (S.s0 C)) 188 [(0, .ref (a + 1)), (1, .ref (a + x)), (2, .ref (a + y)), (3, .ref (a + o)), (5, .int (jI n1)), (6, .int (jI n2))] []) :
    ∀ (j i : Nat) (C : Int → Int), i + j = n1 → dg C 0 (i + n2) → dv C 0 (i + n2) = dv (S.C x) 0 i * dv (S.C y) 0 n2 →
      zW p l e R s m args below meth c 15 b0 G kc ks Q (hx G h a (S.s0 C)) 79 [(0, .ref (a + 1)), (1, .ref (a + x)), (2, .ref (a + y)), (3, .ref (a + o)), (4, .ref (a + y + 1)), (5, .int (jI n1)), (6, .int (jI n2)), (7, .int (jI i))] [] := by
  intro j
  have hR1 := vx.2.1
  have hR2 := vx.i31
  induction j with
  | zero =>
    intro i C hi hg hD
    refine z_iload K d_R_multiply_79 rfl ?_
    refine z_iload K d_R_multiply_81 rfl ?_
    refine zi_icmp_ge (tgt := 188) K d_R_multiply_83 (by decide) (by omega) (by omega) (fun hc => ?_) (fun hc => absurd hc (by omega))
    have hin : i = n1 := by omega
    subst hin
    exact z_re [0, 1, 2, 3, 5, 6] rfl (kx C hg hD)
  | succ j ih =>
    intro i C hi hg hD
    have g1 := vx.limb (i := i) (by omega) (by omega)
    refine z_iload K d_R_multiply_79 rfl ?_
    refine z_iload K d_R_multiply_81 rfl ?_
    refine zi_icmp_ge (tgt := 188) K d_R_multiply_83 (by decide) (by omega) (by omega) (fun hc => absurd hc (by omega)) (fun hc => ?_)
    refine z_aload_n K d_R_multiply_86 rfl ?_
    refine zx_gN K (by first | assumption | rfl) fd_R_59 rfl d_R_multiply_87 ?_
    refine z_iload K d_R_multiply_90 rfl ?_
    refine zx_cldv (v := S.C x i) K hx0 (by omega) rfl d_R_multiply_92 ?_
    refine zi_i2l K d_R_multiply_93 (by omega) ?_
    refine z_lstore K d_R_multiply_94 (by decide) ?_
    refine z_lconst (v := kI 0) K d_R_multiply_96 rfl ?_
    refine z_lstore K d_R_multiply_97 (by decide) ?_
    refine z_iconst (v := jI 0) K d_R_multiply_99 rfl ?_
    refine z_istore K d_R_multiply_100 (by decide) ?_
    refine z_re [0, 1, 2, 3, 4, 5, 6, 7, 8, 10, 12] rfl ?_
    refine lp_R_mul2 K hy0 (by omega) vy.2.1 g1 C vy.2.2.1 (fun k hk => by have := hg (i + k) (by omega); rw [show (0 : Int) + ((i + k : Nat) : Int) = (i : Int) + k by omega] at this; exact this) (fun C1 cy hc0 hc1 hC1 hg1 hD1 => ?_) n2 0 C 0 (by omega) (by omega) (by omega) (fun q _ => rfl) (fun k hk => absurd hk (by omega)) (by simp [dv])
    refine z_aload_n K d_R_multiply_169 rfl ?_
    refine zx_gR K fd_R_9 rfl d_R_multiply_170 ?_
    refine z_iload K d_R_multiply_173 rfl ?_
    refine z_iload K d_R_multiply_175 rfl ?_
    refine zi_iadd K d_R_multiply_177 ?_
    refine z_lload K d_R_multiply_178 rfl ?_
    refine zi_l2i K d_R_multiply_180 ?_
    refine zx_0st K (by omega) d_R_multiply_181 ?_
    refine zi_iinc K d_R_multiply_182 rfl (by decide) ?_
    refine z_goto (tgt := 79) K d_R_multiply_185 (by decide) ?_
    refine z_re [0, 1, 2, 3, 4, 5, 6, 7] rfl ?_
    refine ih (i + 1) (iu C1 ((i : Int) + n2) cy) (by omega) (fun k hk => ?_) ?_
    · rw [Int.zero_add]
      by_cases h1 : (k : Int) = i + n2
      · rw [h1, iu_self]; exact ⟨hc0, hc1⟩
      · rw [iu_ne _ _ h1]
        by_cases h2 : k < i
        · rw [hC1 _ (by omega)]
          have := hg k (by omega)
          rw [Int.zero_add] at this
          exact this
        · have := hg1 (k - i) (by omega)
          rw [show (i : Int) + ((k - i : Nat) : Int) = k by omega] at this
          exact this
    · have e1 : dv (iu C1 ((i : Int) + n2) cy) 0 (i + 1 + n2) = dv C 0 i + BS ^ i * (dv C1 i n2 + cy * BS ^ n2) := by
        rw [show i + 1 + n2 = i + (n2 + 1) by omega, dv_add, Int.zero_add]
        have a1 : dv (iu C1 ((i : Int) + n2) cy) 0 i = dv C 0 i := dv_congr (fun k hk => by rw [iu_ne _ _ (by omega), hC1 _ (by omega)])
        have a2 : dv (iu C1 ((i : Int) + n2) cy) i (n2 + 1) = dv C1 i n2 + cy * BS ^ n2 := by
          show dv (iu C1 _ cy) i n2 + iu C1 _ cy ((i : Int) + n2) * BS ^ n2 = _
          rw [iu_self, dv_iu (fun k hk => by omega)]
        rw [a1, a2]
      rw [e1]
      have e2 := dv_add (f := C) (b := 0) (i := i) n2
      rw [Int.zero_add, hD] at e2
      show _ = (dv (S.C x) 0 i + S.C x (0 + i) * BS ^ i) * dv (S.C y) 0 n2
      rw [Int.zero_add]
      exact mul_fin (B := 0) e2.symm hD1
set_option maxHeartbeats 4000000 in
set_option maxRecDepth 100000 in
theorem c_R_multiply (l : Launch) (G : zG) (b0 : Nat) (h : zH) (a : Nat) (S : xS) {x y o n1 n2 : Nat} {v w : Int} (hx0 : isN x = true) (hy0 : isN y = true) (ho0 : isN o = true) (vx : NR S x n1 v) (vy : NR S y n2 w) (hN2 : n1 + n2 ≤ 112) (fs : lt9 (v * w) (nR o)) : xMet l G b0 y_R_multiply b_R_multiply 15 none 2 65 h a [.ref (a + 1), .ref (a + x), .ref (a + y), .ref (a + o)] S (fun r S' => r = none ∧ xK o S S' ∧ ∃ n : Nat, NR S' o n (v * w)) :=
  z_met (by decide) (Nat.le_of_ble_eq_true rfl) fun p e s m below meth c K hr hlk hnm => by
  have l1 := vx.1
  have l2 := vy.1
  have b1 := vx.2.2.2.2.1
  have b2 := vy.2.2.2.2.1
  have c1 := vx.b01
  have c2 := vy.b01
  refine z_aload_n K d_R_multiply_0 rfl ?_
  refine zx_gN K (by first | assumption | rfl) fd_R_59 rfl d_R_multiply_1 ?_
  refine z_astore K d_R_multiply_4 (by decide) ?_
  refine z_aload_n K d_R_multiply_6 rfl ?_
  refine zx_gN K hx0 fd_R_49 rfl d_R_multiply_7 ?_
  rw [l1]
  refine z_istore K d_R_multiply_10 (by decide) ?_
  refine z_aload_n K d_R_multiply_12 rfl ?_
  refine zx_gN K hy0 fd_R_49 rfl d_R_multiply_13 ?_
  rw [l2]
  refine z_istore K d_R_multiply_16 (by decide) ?_
  refine z_iload K d_R_multiply_18 rfl ?_
  refine z_iload K d_R_multiply_20 rfl ?_
  refine zi_iadd K d_R_multiply_22 ?_
  refine z_aload_n K d_R_multiply_23 rfl ?_
  refine zx_gR K fd_R_9 rfl d_R_multiply_24 ?_
  refine zx_0len K d_R_multiply_27 ?_
  refine zi_icmp_le (tgt := 37) K d_R_multiply_28 (by decide) (by omega) (by omega) (fun hc => ?_) (fun hc => absurd hc (by omega))
  have zero : ∀ (lv : List (Nat × Value)), zl lv 3 = some (.ref (a + o)) → v * w = 0 → zW p l e (zRm 2 65 0 0) s m ([.ref (a + 1), .ref (a + x), .ref (a + y), .ref (a + o)] : List Value).toArray below meth c 15 b0 G 0 0 (MQ below (zQ G b0 (fun r h' => ∃ S' : xS, h' = hx G h a S' ∧ (r = none ∧ xK o S S' ∧ ∃ n : Nat, NR S' o n (v * w)))) ([.ref (a + 1), .ref (a + x), .ref (a + y), .ref (a + o)] : List Value).toArray s 0 0 (z_A b0)) (hx G h a S) 47 lv [] := by
    intro lv hl hz
    refine z_aload_n K d_R_multiply_47 hl ?_
    refine z_callV (ci := 1) (As := []) K (c_N_becomeZero l G b0 h a S ho0) ca_R_75 im_N_becomeZero se_N_becomeZero rfl (by decide) (hx_N ho0) rfl rfl (by decide) (Nat.le_of_ble_eq_true rfl) d_R_multiply_48 (fun r h1 hp => ?_)
    obtain ⟨S1, rfl, rfl, k1, k2, k3⟩ := hp
    exact z_vret K hr hlk d_R_multiply_51 ⟨_, rfl, rfl, k1, 0, by rw [hz]; exact k3⟩
  refine z_iload K d_R_multiply_37 rfl ?_
  refine zi_if_eq (tgt := 47) K d_R_multiply_39 (by decide) (by omega) (fun hc => ?_) (fun hc => ?_)
  · exact zero _ rfl (by rw [vx.zero.1 (by omega), Int.zero_mul])
  refine z_iload K d_R_multiply_42 rfl ?_
  refine zi_if_ne (tgt := 52) K d_R_multiply_44 (by decide) (by omega) (fun hc => ?_) (fun hc => ?_)
  rotate_left
  · exact zero _ rfl (by rw [vy.zero.1 (by omega), Int.mul_zero])
  refine z_iconst (v := jI 0) K d_R_multiply_52 rfl ?_
  refine z_istore K d_R_multiply_53 (by decide) ?_
  refine z_re [0, 1, 2, 3, 4, 5, 6, 7] rfl ?_
  refine lp_R_mul0 (S := S) K (by omega) (fun C hC => ?_) n2 0 S.r0 (by omega) (fun k hk => absurd hk (by omega))
  refine z_iconst (v := jI 0) K d_R_multiply_76 rfl ?_
  refine z_istore K d_R_multiply_77 (by decide) ?_
  refine z_re [0, 1, 2, 3, 4, 5, 6, 7] rfl ?_
  refine lp_R_mul1 (S := S) K hx0 hy0 vx vy hN2 (fun C1 hg hv => ?_) n1 0 C (by omega) (fun k hk => ?_) ?_
  rotate_left
  · rw [Int.zero_add, hC k (by omega)]; decide
  · rw [Nat.zero_add, dv_zero (fun k hk => by rw [Int.zero_add]; exact hC k hk)]
    show (0 : Int) = 0 * _
    rw [Int.zero_mul]
  rw [← vx.2.2.2.2.2, ← vy.2.2.2.2.2] at hv
  have fs2 : dv C1 0 (n1 + n2) < BS ^ nR o := by
    rw [hv]
    have : ((v * w).natAbs : Int) < BS ^ nR o := fs
    rw [Int.natAbs_mul, Int.natCast_mul] at this
    exact this
  have fin : ∀ b : Int, (b = 0 ∨ b = 1) → sgn b ((v.natAbs : Int) * w.natAbs) = v * w → ∀ (lv : List (Nat × Value)), zl lv 3 = some (.ref (a + o)) → zW p l e (zRm 2 65 0 0) s m ([.ref (a + 1), .ref (a + x), .ref (a + y), .ref (a + o)] : List Value).toArray below meth c 15 b0 G 0 0 (MQ below (zQ G b0 (fun r h' => ∃ S' : xS, h' = hx G h a S' ∧ (r = none ∧ xK o S S' ∧ ∃ n : Nat, NR S' o n (v * w)))) ([.ref (a + 1), .ref (a + x), .ref (a + y), .ref (a + o)] : List Value).toArray s 0 0 (z_A b0)) (hx G h a (S.s0 C1)) 214 lv [.int (jI b), .int (jI ((n1 + n2 : Nat) : Int)), .ref (a + 2), .ref (a + 1)] := by
    intro b hb he lv hl
    refine z_aload_n K d_R_multiply_214 hl ?_
    refine z_callV (ci := 4) (As := [.ref (a + 2), .int (jI ((n1 + n2 : Nat) : Int)), .int (jI b), .ref (a + o)]) K (c_R_store l G b0 h a (S.s0 C1) (F := C1) ho0 hx_r0 (by decide) hN2 hb hg fs2) ca_R_80 im_R_store se_R_store rfl (by decide) (hx_R) rfl rfl (by decide) (Nat.le_of_ble_eq_true rfl) d_R_multiply_215 (fun r h1 hp => ?_)
    obtain ⟨S1, rfl, rfl, k1, k2, n, k3⟩ := hp
    rw [hv, he] at k3
    exact z_vret K hr hlk d_R_multiply_218 ⟨_, rfl, rfl, ⟨k1.1, k1.2⟩, n, k3⟩
  refine z_aload_n K d_R_multiply_188 rfl ?_
  refine z_aload_n K d_R_multiply_189 rfl ?_
  refine zx_gR K fd_R_9 rfl d_R_multiply_190 ?_
  refine z_iload K d_R_multiply_193 rfl ?_
  refine z_iload K d_R_multiply_195 rfl ?_
  refine zi_iadd K d_R_multiply_197 ?_
  refine z_aload_n K d_R_multiply_198 rfl ?_
  refine zx_gN K hx0 fd_R_30 rfl d_R_multiply_199 ?_
  refine z_aload_n K d_R_multiply_202 rfl ?_
  refine zx_gN K hy0 fd_R_30 rfl d_R_multiply_203 ?_
  rw [show (n1 : Int) + n2 = ((n1 + n2 : Nat) : Int) by omega]
  have hsg : v * w = (if (S.B x = S.B y) then (v.natAbs : Int) * w.natAbs else -((v.natAbs : Int) * w.natAbs)) := by
    rw [b1, b2]
    by_cases q : v < 0 <;> by_cases q' : w < 0
    · rw [if_pos q, if_pos q', if_pos rfl, show (v.natAbs : Int) = -v by omega, show (w.natAbs : Int) = -w by omega]; grind
    · rw [if_pos q, if_neg q', if_neg (by decide), show (v.natAbs : Int) = -v by omega, show (w.natAbs : Int) = w by omega]; grind
    · rw [if_neg q, if_pos q', if_neg (by decide), show (v.natAbs : Int) = v by omega, show (w.natAbs : Int) = -w by omega]; grind
    · rw [if_neg q, if_neg q', if_pos rfl, show (v.natAbs : Int) = v by omega, show (w.natAbs : Int) = w by omega]
  refine zi_icmp_eq (tgt := 213) K d_R_multiply_206 (by decide) (by show i32 (S.B x); omega) (by show i32 (S.B y); omega) (fun hc => ?_) (fun hc => ?_)
  · refine z_iconst (v := jI 0) K d_R_multiply_213 rfl ?_
    exact fin 0 (Or.inl rfl) (by rw [hsg, if_pos hc]; unfold sgn; rw [if_neg (by decide)]) _ rfl
  · refine z_iconst (v := jI 1) K d_R_multiply_209 rfl ?_
    refine z_goto (tgt := 214) K d_R_multiply_210 (by decide) ?_
    exact fin 1 (Or.inr rfl) (by rw [hsg, if_neg hc]; unfold sgn; rw [if_pos rfl]) _ rfl
end R4
