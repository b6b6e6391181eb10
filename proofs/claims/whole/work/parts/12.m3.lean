theorem add_step {D P X Y cy d1 d2 c1 : Int} (hD : D + cy * P = X + Y) : D + (cy + d1 + d2 - c1 * 1000000000) * P + c1 * (P * 1000000000) = X + d1 * P + (Y + d2 * P) := by grind
theorem sub_step {D P X Y cy d1 d2 c1 : Int} (hD : D - cy * P = X - Y) : D + (d1 - cy - d2 + c1 * 1000000000) * P - c1 * (P * 1000000000) = X + d1 * P - (Y + d2 * P) := by grind
section M3
variable {p : Program} {l : Launch} {e : Env} {R : Room} {s : State} {m : MethodId} {args : Array Value} {below : List Frame} {meth : Method} {c : Code} {Q : State → Prop} {b0 kc ks : Nat} {G : zG} {h : zH} {a : Nat} {cd : Int}
set_option maxHeartbeats 4000000 in
set_option maxRecDepth 100000 in
theorem lp_M_addSizes (K : zC p s m args c b_M_addSizes R_M 10 b0 G) (T : mT) {r x y : Int} {n1 n2 N : Nat} (hr0 : 0 ≤ r ∧ r < 56) (hx0 : 0 ≤ x ∧ x < 56) (hy0 : 0 ≤ y ∧ y < 56) (h1N : n1 ≤ N) (h2N : n2 ≤ N) (hN : N ≤ 459) (hgx : dg T.1 (460 * x) n1) (hgy : dg T.1 (460 * y) n2)
    (hx : ∀ (C : Int → Int) (cy : Int), cy = 0 ∨ cy = 1 → (∀ q : Int, q < 460 * r ∨ 460 * r + N ≤ q → C q = T.1 q) → dg C (460 * r) N → dv C (460 * r) N + cy * BS ^ N = dv (dx T.1 (460 * x) n1) 0 N + dv (dx T.1 (460 * y) n2) 0 N → zW p l e R s m args below meth c 10 b0 G kc ks Q (hm G h a cd (C, T.2)) 164 [(0, .ref a), (1, .int (jI r)), (4, .int (jI N)), (7, .int (jI cy))] []) :
    ∀ (j i : Nat) (C : Int → Int) (cy : Int), i + j = N → cy = 0 ∨ cy = 1 → (∀ q : Int, q < 460 * r ∨ 460 * r + i ≤ q → C q = T.1 q) → dg C (460 * r) i → dv C (460 * r) i + cy * BS ^ i = dv (dx T.1 (460 * x) n1) 0 i + dv (dx T.1 (460 * y) n2) 0 i →
      zW p l e R s m args below meth c 10 b0 G kc ks Q (hm G h a cd (C, T.2)) 54 [(0, .ref a), (1, .int (jI r)), (2, .int (jI x)), (3, .int (jI y)), (4, .int (jI N)), (5, .int (jI n1)), (6, .int (jI n2)), (7, .int (jI cy)), (8, .int (jI i))] [] := by
  intro j
  induction j with
  | zero =>
    intro i C cy hi hcy hC hg hD
    refine z_iload K d_M_addSizes_54 rfl ?_
    refine z_iload K d_M_addSizes_56 rfl ?_
    refine zi_icmp_ge (tgt := 164) K d_M_addSizes_58 (by decide) (by omega) (by omega) (fun hc => ?_) (fun hc => absurd hc (by omega))
    have hiN : i = N := by omega
    subst hiN
    exact z_re [0, 1, 4, 7] rfl (hx C cy hcy hC hg hD)
  | succ j ih =>
    intro i C cy hi hcy hC hg hD
    have J157 : ∀ (w c1 : Int), (c1 = 0 ∨ c1 = 1) → w = cy + dx T.1 (460 * x) n1 i + dx T.1 (460 * y) n2 i → 0 ≤ w - c1 * 1000000000 → w - c1 * 1000000000 < 1000000000 → zW p l e R s m args below meth c 10 b0 G kc ks Q (hm G h a cd (C, T.2)) 157 [(0, .ref a), (1, .int (jI r)), (2, .int (jI x)), (3, .int (jI y)), (4, .int (jI N)), (5, .int (jI n1)), (6, .int (jI n2)), (7, .int (jI c1)), (8, .int (jI i))] [.int (jI (w - c1 * 1000000000)), .int (jI (460 * r + i)), .ref (a + 1)] := fun w c1 hc1 hw g1 g2 => by
      refine zm_cst K (by omega) d_M_addSizes_157 ?_
      refine zi_iinc K d_M_addSizes_158 rfl (by decide) ?_
      refine z_goto (tgt := 54) K d_M_addSizes_161 (by decide) ?_
      refine z_re [0, 1, 2, 3, 4, 5, 6, 7, 8] rfl ?_
      refine ih (i + 1) _ c1 (by omega) hc1 (fun q hq => ?_) (fun k hk => ?_) ?_
      · dsimp only
        rw [iu_ne _ _ (by omega)]; exact hC q (by omega)
      · dsimp only
        by_cases hki : k = i
        · subst hki; rw [iu_self]; exact ⟨g1, g2⟩
        · rw [iu_ne _ _ (by omega)]; exact hg k (by omega)
      · simp only [dv]
        rw [iu_self, dv_iu (fun q hq => by omega), Int.pow_succ, hw, Int.zero_add]
        exact add_step hD
    have J127 : ∀ (w c1 : Int), w = cy + dx T.1 (460 * x) n1 i + dx T.1 (460 * y) n2 i → 0 ≤ w → w < 2000000000 → (w < 1000000000 ∧ c1 = 0 ∨ 1000000000 ≤ w ∧ c1 = 1) → zW p l e R s m args below meth c 10 b0 G kc ks Q (hm G h a cd (C, T.2)) 127 [(0, .ref a), (1, .int (jI r)), (2, .int (jI x)), (3, .int (jI y)), (4, .int (jI N)), (5, .int (jI n1)), (6, .int (jI n2)), (8, .int (jI i)), (9, .int (jI w))] [.int (jI c1)] := fun w c1 hw g1 g2 hc1 => by
      refine z_istore K d_M_addSizes_127 (by decide) ?_
      refine z_aload_n K d_M_addSizes_129 rfl ?_
      refine zm_get K fd_M_9 rfl d_M_addSizes_130 ?_
      refine z_sipush (v := jI 460) K d_M_addSizes_133 rfl ?_
      refine z_iload_n K d_M_addSizes_136 rfl ?_
      refine zi_imul K d_M_addSizes_137 ?_
      refine z_iload K d_M_addSizes_138 rfl ?_
      refine zi_iadd K d_M_addSizes_140 ?_
      refine z_iload K d_M_addSizes_141 rfl ?_
      refine z_iconst (v := jI 1) K d_M_addSizes_143 rfl ?_
      refine zi_icmp_ne (tgt := 155) K d_M_addSizes_144 (by decide) (by omega) (by omega) (fun hc => ?_) (fun hc => ?_)
      · have hc0 : c1 = 0 := by omega
        subst hc0
        refine z_iload K d_M_addSizes_155 rfl ?_
        refine z_re [0, 1, 2, 3, 4, 5, 6, 7, 8] rfl ?_
        have := J157 w 0 (Or.inl rfl) hw (by omega) (by omega)
        rwa [show w - 0 * 1000000000 = w by omega] at this
      · subst hc
        refine z_iload K d_M_addSizes_147 rfl ?_
        refine z_ldc (v := jI 1000000000) K d_M_addSizes_149 kc_M_52 ?_
        refine zi_isub K d_M_addSizes_151 ?_
        refine z_goto (tgt := 157) K d_M_addSizes_152 (by decide) ?_
        refine z_re [0, 1, 2, 3, 4, 5, 6, 7, 8] rfl ?_
        have := J157 w 1 (Or.inr rfl) hw (by omega) (by omega)
        rwa [show w - 1 * 1000000000 = w - 1000000000 by omega] at this
    have J112 : ∀ d1 d2 : Int, d1 = dx T.1 (460 * x) n1 i → d2 = dx T.1 (460 * y) n2 i → 0 ≤ d1 → d1 < 1000000000 → 0 ≤ d2 → d2 < 1000000000 → zW p l e R s m args below meth c 10 b0 G kc ks Q (hm G h a cd (C, T.2)) 112 [(0, .ref a), (1, .int (jI r)), (2, .int (jI x)), (3, .int (jI y)), (4, .int (jI N)), (5, .int (jI n1)), (6, .int (jI n2)), (7, .int (jI cy)), (8, .int (jI i))] [.int (jI d2), .int (jI (cy + d1))] := fun d1 d2 e1 e2 g1 g2 g3 g4 => by
      refine zi_iadd K d_M_addSizes_112 ?_
      refine z_istore K d_M_addSizes_113 (by decide) ?_
      refine z_iload K d_M_addSizes_115 rfl ?_
      refine z_ldc (v := jI 1000000000) K d_M_addSizes_117 kc_M_52 ?_
      refine zi_icmp_lt (tgt := 126) K d_M_addSizes_119 (by decide) (by omega) (by omega) (fun hc => ?_) (fun hc => ?_)
      · refine z_iconst (v := jI 0) K d_M_addSizes_126 rfl ?_
        refine z_re [0, 1, 2, 3, 4, 5, 6, 8, 9] rfl ?_
        exact J127 (cy + d1 + d2) 0 (by rw [e1, e2]) (by omega) (by omega) (by omega)
      · refine z_iconst (v := jI 1) K d_M_addSizes_122 rfl ?_
        refine z_goto (tgt := 127) K d_M_addSizes_123 (by decide) ?_
        refine z_re [0, 1, 2, 3, 4, 5, 6, 8, 9] rfl ?_
        exact J127 (cy + d1 + d2) 1 (by rw [e1, e2]) (by omega) (by omega) (by omega)
    have J87 : ∀ d1 : Int, d1 = dx T.1 (460 * x) n1 i → 0 ≤ d1 → d1 < 1000000000 → zW p l e R s m args below meth c 10 b0 G kc ks Q (hm G h a cd (C, T.2)) 87 [(0, .ref a), (1, .int (jI r)), (2, .int (jI x)), (3, .int (jI y)), (4, .int (jI N)), (5, .int (jI n1)), (6, .int (jI n2)), (7, .int (jI cy)), (8, .int (jI i))] [.int (jI d1), .int (jI cy)] := fun d1 e1 g1 g2 => by
      refine zi_iadd K d_M_addSizes_87 ?_
      refine z_iload K d_M_addSizes_88 rfl ?_
      refine z_iload K d_M_addSizes_90 rfl ?_
      refine zi_icmp_ge (tgt := 111) K d_M_addSizes_92 (by decide) (by omega) (by omega) (fun hc => ?_) (fun hc => ?_)
      · refine z_iconst (v := jI 0) K d_M_addSizes_111 rfl ?_
        exact J112 d1 0 e1 (by rw [dx_out (by omega)]) g1 g2 (by omega) (by omega)
      · refine z_aload_n K d_M_addSizes_95 rfl ?_
        refine zm_get K fd_M_9 rfl d_M_addSizes_96 ?_
        refine z_sipush (v := jI 460) K d_M_addSizes_99 rfl ?_
        refine z_iload_n K d_M_addSizes_102 rfl ?_
        refine zi_imul K d_M_addSizes_103 ?_
        refine z_iload K d_M_addSizes_104 rfl ?_
        refine zi_iadd K d_M_addSizes_106 ?_
        refine zm_cld K (by omega) d_M_addSizes_107 ?_
        refine z_goto (tgt := 112) K d_M_addSizes_108 (by decide) ?_
        dsimp only
        have hg3 := hgy i (by omega)
        rw [hC _ (by omega)]
        exact J112 d1 _ e1 (by rw [dx_in (by omega)]) g1 g2 (by omega) (by omega)
    refine z_iload K d_M_addSizes_54 rfl ?_
    refine z_iload K d_M_addSizes_56 rfl ?_
    refine zi_icmp_ge (tgt := 164) K d_M_addSizes_58 (by decide) (by omega) (by omega) (fun hc => absurd hc (by omega)) (fun hc => ?_)
    refine z_iload K d_M_addSizes_61 rfl ?_
    refine z_iload K d_M_addSizes_63 rfl ?_
    refine z_iload K d_M_addSizes_65 rfl ?_
    refine zi_icmp_ge (tgt := 86) K d_M_addSizes_67 (by decide) (by omega) (by omega) (fun hc => ?_) (fun hc => ?_)
    · refine z_iconst (v := jI 0) K d_M_addSizes_86 rfl ?_
      exact J87 0 (by rw [dx_out (by omega)]) (by omega) (by omega)
    · refine z_aload_n K d_M_addSizes_70 rfl ?_
      refine zm_get K fd_M_9 rfl d_M_addSizes_71 ?_
      refine z_sipush (v := jI 460) K d_M_addSizes_74 rfl ?_
      refine z_iload_n K d_M_addSizes_77 rfl ?_
      refine zi_imul K d_M_addSizes_78 ?_
      refine z_iload K d_M_addSizes_79 rfl ?_
      refine zi_iadd K d_M_addSizes_81 ?_
      refine zm_cld K (by omega) d_M_addSizes_82 ?_
      refine z_goto (tgt := 87) K d_M_addSizes_83 (by decide) ?_
      dsimp only
      have hg3 := hgx i (by omega)
      rw [hC _ (by omega)]
      exact J87 _ (by rw [dx_in (by omega)]) (by omega) (by omega)
set_option maxHeartbeats 4000000 in
set_option maxRecDepth 100000 in
/-- addSizes(r, x, y): the cells of r hold the sum of what the cells of x and y hold -/
theorem c_M_addSizes (l : Launch) (G : zG) (b0 : Nat) (h : zH) (a : Nat) (cd : Int) (T : mT) {r x y u1 u2 : Int} {n1 n2 : Nat} (hr0 : 0 ≤ r ∧ r < 56) (hx0 : 0 ≤ x ∧ x < 56) (hy0 : 0 ≤ y ∧ y < 56) (hx : Mg T x n1 u1) (hy : Mg T y n2 u2) (hb1 : n1 ≤ 458) (hb2 : n2 ≤ 458) :
    mMet l G b0 y_M_addSizes b_M_addSizes 10 none 0 0 h a cd [.int (jI r), .int (jI x), .int (jI y)] T (fun o T' => o = none ∧ ∃ (N : Nat) (C : Int → Int), T' = (C, iu T.2.1 r N, T.2.2) ∧ N ≤ max n1 n2 + 1 ∧ dg C (460 * r) N ∧ dv C (460 * r) N = u1 + u2 ∧ (N = max n1 n2 ∨ ∃ j, N = j + 1 ∧ C (460 * r + j) ≠ 0) ∧ ∀ q : Int, q < 460 * r ∨ 460 * r + 460 ≤ q → C q = T.1 q) :=
  z_met (by decide) (Nat.le_of_ble_eq_true rfl) fun p e s m below meth c K hr hlk hnm => by
  obtain ⟨hx1, hx2, hx3, hx4⟩ := hx
  obtain ⟨hy1, hy2, hy3, hy4⟩ := hy
  have fin : ∀ (N : Nat) (C : Int → Int) (cy : Int), N = max n1 n2 → cy = 0 ∨ cy = 1 → (∀ q : Int, q < 460 * r ∨ 460 * r + N ≤ q → C q = T.1 q) → dg C (460 * r) N → dv C (460 * r) N + cy * BS ^ N = u1 + u2 → zW p l e (zRm 0 0 0 0) s m _ below meth c 10 b0 G 0 0 (MQ below (zQ G b0 (fun r_1 h' => ∃ T' : mT, h' = hm G h a cd T' ∧ r_1 = none ∧ ∃ (N : Nat) (C : Int → Int), T' = (C, iu T.2.1 r N, T.2.2) ∧ N ≤ max n1 n2 + 1 ∧ dg C (460 * r) N ∧ dv C (460 * r) N = u1 + u2 ∧ (N = max n1 n2 ∨ ∃ j, N = j + 1 ∧ C (460 * r + j) ≠ 0) ∧ ∀ q : Int, q < 460 * r ∨ 460 * r + 460 ≤ q → C q = T.1 q)) ([.ref a, .int (jI r), .int (jI x), .int (jI y)] : List Value).toArray s 0 0 (z_A b0)) (hm G h a cd (C, T.2)) 164 [(0, .ref a), (1, .int (jI r)), (4, .int (jI N)), (7, .int (jI cy))] [] := fun N C cy hN hcy hC hg hD => by
    have hNb : N ≤ 458 := by omega
    refine z_aload_n K d_M_addSizes_164 rfl ?_
    refine zm_get K fd_M_9 rfl d_M_addSizes_165 ?_
    refine z_sipush (v := jI 460) K d_M_addSizes_168 rfl ?_
    refine z_iload_n K d_M_addSizes_171 rfl ?_
    refine zi_imul K d_M_addSizes_172 ?_
    refine z_iload K d_M_addSizes_173 rfl ?_
    refine zi_iadd K d_M_addSizes_175 ?_
    refine z_iload K d_M_addSizes_176 rfl ?_
    refine zm_cst K (by omega) d_M_addSizes_178 ?_
    refine z_aload_n K d_M_addSizes_179 rfl ?_
    refine zm_get K fd_M_13 rfl d_M_addSizes_180 ?_
    refine z_iload_n K d_M_addSizes_183 rfl ?_
    refine z_iload K d_M_addSizes_184 rfl ?_
    refine z_iload K d_M_addSizes_186 rfl ?_
    refine zi_iadd K d_M_addSizes_188 ?_
    refine zm_zst K (by omega) d_M_addSizes_189 ?_
    refine z_vret K hr hlk d_M_addSizes_190 ⟨_, rfl, rfl, N + cy.toNat, iu C (460 * r + N) cy, ?_, by omega, fun k hk => ?_, ?_, ?_, fun q hq => ?_⟩
    · rw [show ((N + cy.toNat : Nat) : Int) = N + cy by omega]
    · by_cases hkN : k = N
      · subst hkN; rw [iu_self]; omega
      · rw [iu_ne _ _ (by omega)]; exact hg k (by omega)
    · rcases hcy with rfl | rfl
      · rw [show N + (0 : Int).toNat = N by simp, dv_iu (fun q hq => by omega)]; omega
      · rw [show N + (1 : Int).toNat = N + 1 by simp]
        simp only [dv]
        rw [iu_self, dv_iu (fun q hq => by omega)]; omega
    · rcases hcy with rfl | rfl
      · exact Or.inl (by simpa using hN)
      · exact Or.inr ⟨N, by simp, by rw [iu_self]; decide⟩
    · rw [iu_ne _ _ (by omega)]; exact hC q (by omega)
  have go : ∀ N : Nat, N = max n1 n2 → zW p l e (zRm 0 0 0 0) s m _ below meth c 10 b0 G 0 0 (MQ below (zQ G b0 (fun r_1 h' => ∃ T' : mT, h' = hm G h a cd T' ∧ r_1 = none ∧ ∃ (N : Nat) (C : Int → Int), T' = (C, iu T.2.1 r N, T.2.2) ∧ N ≤ max n1 n2 + 1 ∧ dg C (460 * r) N ∧ dv C (460 * r) N = u1 + u2 ∧ (N = max n1 n2 ∨ ∃ j, N = j + 1 ∧ C (460 * r + j) ≠ 0) ∧ ∀ q : Int, q < 460 * r ∨ 460 * r + 460 ≤ q → C q = T.1 q)) ([.ref a, .int (jI r), .int (jI x), .int (jI y)] : List Value).toArray s 0 0 (z_A b0)) (hm G h a cd T) 30 [(0, .ref a), (1, .int (jI r)), (2, .int (jI x)), (3, .int (jI y))] [.int (jI N)] := fun N hN => by
    refine z_istore K d_M_addSizes_30 (by decide) ?_
    refine z_aload_n K d_M_addSizes_32 rfl ?_
    refine zm_get K fd_M_13 rfl d_M_addSizes_33 ?_
    refine z_iload_n K d_M_addSizes_36 rfl ?_
    refine zm_zld K (by omega) d_M_addSizes_37 ?_
    refine z_istore K d_M_addSizes_38 (by decide) ?_
    refine z_aload_n K d_M_addSizes_40 rfl ?_
    refine zm_get K fd_M_13 rfl d_M_addSizes_41 ?_
    refine z_iload_n K d_M_addSizes_44 rfl ?_
    refine zm_zld K (by omega) d_M_addSizes_45 ?_
    refine z_istore K d_M_addSizes_46 (by decide) ?_
    refine z_iconst (v := jI 0) K d_M_addSizes_48 rfl ?_
    refine z_istore K d_M_addSizes_49 (by decide) ?_
    refine z_iconst (v := jI 0) K d_M_addSizes_51 rfl ?_
    refine z_istore K d_M_addSizes_52 (by decide) ?_
    rw [hx1, hy1]
    refine z_re [0, 1, 2, 3, 4, 5, 6, 7, 8] rfl ?_
    have e1 := dv_dx (f := T.1) (b := 460 * x) (n := n1) (N - n1)
    have e2 := dv_dx (f := T.1) (b := 460 * y) (n := n2) (N - n2)
    rw [show n1 + (N - n1) = N by omega] at e1
    rw [show n2 + (N - n2) = N by omega] at e2
    refine lp_M_addSizes K T hr0 hx0 hy0 (by omega) (by omega) (by omega) hx3 hy3 (fun C cy g1 g2 g3 g4 => fin N C cy hN g1 g2 g3 (by rw [g4, e1, e2, hx4, hy4])) N 0 T.1 0 (by omega) (Or.inl rfl) (fun q _ => rfl) (fun k hk => absurd hk (by omega)) (by simp [dv])
  refine z_aload_n K d_M_addSizes_0 rfl ?_
  refine zm_get K fd_M_13 rfl d_M_addSizes_1 ?_
  refine z_iload_n K d_M_addSizes_4 rfl ?_
  refine zm_zld K (by omega) d_M_addSizes_5 ?_
  refine z_aload_n K d_M_addSizes_6 rfl ?_
  refine zm_get K fd_M_13 rfl d_M_addSizes_7 ?_
  refine z_iload_n K d_M_addSizes_10 rfl ?_
  refine zm_zld K (by omega) d_M_addSizes_11 ?_
  rw [hx1, hy1]
  refine zi_icmp_le (tgt := 24) K d_M_addSizes_12 (by decide) (by omega) (by omega) (fun hc => ?_) (fun hc => ?_)
  · refine z_aload_n K d_M_addSizes_24 rfl ?_
    refine zm_get K fd_M_13 rfl d_M_addSizes_25 ?_
    refine z_iload_n K d_M_addSizes_28 rfl ?_
    refine zm_zld K (by omega) d_M_addSizes_29 ?_
    rw [hy1]
    exact z_re [0, 1, 2, 3] rfl (go n2 (by omega))
  · refine z_aload_n K d_M_addSizes_15 rfl ?_
    refine zm_get K fd_M_13 rfl d_M_addSizes_16 ?_
    refine z_iload_n K d_M_addSizes_19 rfl ?_
    refine zm_zld K (by omega) d_M_addSizes_20 ?_
    refine z_goto (tgt := 30) K d_M_addSizes_21 (by decide) ?_
    rw [hx1]
    exact z_re [0, 1, 2, 3] rfl (go n1 (by omega))
end M3
