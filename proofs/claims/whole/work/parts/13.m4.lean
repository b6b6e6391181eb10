section M4
variable {p : Program} {l : Launch} {e : Env} {R : Room} {s : State} {m : MethodId} {args : Array Value} {below : List Frame} {meth : Method} {c : Code} {Q : State → Prop} {b0 kc ks : Nat} {G : zG} {h : zH} {a : Nat} {cd : Int}
set_option maxHeartbeats 4000000 in
set_option maxRecDepth 100000 in
theorem lp_M_takeSizes (K : zC p s m args c b_M_takeSizes R_M 10 b0 G) (T : mT) {r x y sg : Int} {n1 n2 : Nat} (hr0 : 0 ≤ r ∧ r < 56) (hx0 : 0 ≤ x ∧ x < 56) (hy0 : 0 ≤ y ∧ y < 56) (h2N : n2 ≤ n1) (hN : n1 ≤ 459) (hgx : dg T.1 (460 * x) n1) (hgy : dg T.1 (460 * y) n2)
    (hx : ∀ (C : Int → Int) (cy : Int), cy = 0 ∨ cy = 1 → (∀ q : Int, q < 460 * r ∨ 460 * r + n1 ≤ q → C q = T.1 q) → dg C (460 * r) n1 → dv C (460 * r) n1 - cy * BS ^ n1 = dv (dx T.1 (460 * x) n1) 0 n1 - dv (dx T.1 (460 * y) n2) 0 n1 → zW p l e R s m args below meth c 10 b0 G kc ks Q (hm G h a cd (C, T.2)) 118 [(0, .ref a), (1, .int (jI r)), (4, .int (jI sg)), (5, .int (jI n1))] []) :
    ∀ (j i : Nat) (C : Int → Int) (cy : Int), i + j = n1 → cy = 0 ∨ cy = 1 → (∀ q : Int, q < 460 * r ∨ 460 * r + i ≤ q → C q = T.1 q) → dg C (460 * r) i → dv C (460 * r) i - cy * BS ^ i = dv (dx T.1 (460 * x) n1) 0 i - dv (dx T.1 (460 * y) n2) 0 i →
      zW p l e R s m args below meth c 10 b0 G kc ks Q (hm G h a cd (C, T.2)) 22 [(0, .ref a), (1, .int (jI r)), (2, .int (jI x)), (3, .int (jI y)), (4, .int (jI sg)), (5, .int (jI n1)), (6, .int (jI n2)), (7, .int (jI cy)), (8, .int (jI i))] [] := by
  intro j
  induction j with
  | zero =>
    intro i C cy hi hcy hC hg hD
    refine z_iload K d_M_takeSizes_22 rfl ?_
    refine z_iload K d_M_takeSizes_24 rfl ?_
    refine zi_icmp_ge (tgt := 118) K d_M_takeSizes_26 (by decide) (by omega) (by omega) (fun hc => ?_) (fun hc => absurd hc (by omega))
    have hiN : i = n1 := by omega
    subst hiN
    exact z_re [0, 1, 4, 5] rfl (hx C cy hcy hC hg hD)
  | succ j ih =>
    intro i C cy hi hcy hC hg hD
    have hgi := hgx i (by omega)
    have J111 : ∀ (w c1 : Int), (c1 = 0 ∨ c1 = 1) → w = dx T.1 (460 * x) n1 i - cy - dx T.1 (460 * y) n2 i → 0 ≤ w + c1 * 1000000000 → w + c1 * 1000000000 < 1000000000 → zW p l e R s m args below meth c 10 b0 G kc ks Q (hm G h a cd (C, T.2)) 111 [(0, .ref a), (1, .int (jI r)), (2, .int (jI x)), (3, .int (jI y)), (4, .int (jI sg)), (5, .int (jI n1)), (6, .int (jI n2)), (7, .int (jI c1)), (8, .int (jI i))] [.int (jI (w + c1 * 1000000000)), .int (jI (460 * r + i)), .ref (a + 1)] := fun w c1 hc1 hw g1 g2 => by
      refine zm_cst K (by omega) d_M_takeSizes_111 ?_
      refine zi_iinc K d_M_takeSizes_112 rfl (by decide) ?_
      refine z_goto (tgt := 22) K d_M_takeSizes_115 (by decide) ?_
      refine z_re [0, 1, 2, 3, 4, 5, 6, 7, 8] rfl ?_
      refine ih (i + 1) _ c1 (by omega) hc1 (fun q hq => ?_) (fun k hk => ?_) ?_
      · dsimp only
        rw [iu_ne _ _ (by omega)]; exact hC q (by omega)
      · dsimp only
        by_cases hki : k = i
        · subst hki; rw [iu_self]; exact ⟨g1, g2⟩
        · rw [iu_ne _ _ (by omega)]; exact hg k (by omega)
      · simp only [dv]
        rw [iu_self, dv_iu (fun q hq => by omega), Int.pow_succ, hw, Int.zero_add]
        exact sub_step hD
    have J82 : ∀ (w c1 : Int), w = dx T.1 (460 * x) n1 i - cy - dx T.1 (460 * y) n2 i → -1000000000 ≤ w → w < 1000000000 → (w < 0 ∧ c1 = 1 ∨ 0 ≤ w ∧ c1 = 0) → zW p l e R s m args below meth c 10 b0 G kc ks Q (hm G h a cd (C, T.2)) 82 [(0, .ref a), (1, .int (jI r)), (2, .int (jI x)), (3, .int (jI y)), (4, .int (jI sg)), (5, .int (jI n1)), (6, .int (jI n2)), (8, .int (jI i)), (9, .int (jI w))] [.int (jI c1)] := fun w c1 hw g1 g2 hc1 => by
      refine z_istore K d_M_takeSizes_82 (by decide) ?_
      refine z_aload_n K d_M_takeSizes_84 rfl ?_
      refine zm_get K fd_M_9 rfl d_M_takeSizes_85 ?_
      refine z_sipush (v := jI 460) K d_M_takeSizes_88 rfl ?_
      refine z_iload_n K d_M_takeSizes_91 rfl ?_
      refine zi_imul K d_M_takeSizes_92 ?_
      refine z_iload K d_M_takeSizes_93 rfl ?_
      refine zi_iadd K d_M_takeSizes_95 ?_
      refine z_iload K d_M_takeSizes_96 rfl ?_
      refine zi_if_ge (tgt := 109) K d_M_takeSizes_98 (by decide) (by omega) (fun hc => ?_) (fun hc => ?_)
      · have hc0 : c1 = 0 := by omega
        subst hc0
        refine z_iload K d_M_takeSizes_109 rfl ?_
        refine z_re [0, 1, 2, 3, 4, 5, 6, 7, 8] rfl ?_
        have := J111 w 0 (Or.inl rfl) hw (by omega) (by omega)
        rwa [show w + 0 * 1000000000 = w by omega] at this
      · have hc0 : c1 = 1 := by omega
        subst hc0
        refine z_iload K d_M_takeSizes_101 rfl ?_
        refine z_ldc (v := jI 1000000000) K d_M_takeSizes_103 kc_M_52 ?_
        refine zi_iadd K d_M_takeSizes_105 ?_
        refine z_goto (tgt := 111) K d_M_takeSizes_106 (by decide) ?_
        refine z_re [0, 1, 2, 3, 4, 5, 6, 7, 8] rfl ?_
        have := J111 w 1 (Or.inr rfl) hw (by omega) (by omega)
        rwa [show w + 1 * 1000000000 = w + 1000000000 by omega] at this
    have J69 : ∀ d1 d2 : Int, d1 = dx T.1 (460 * x) n1 i → d2 = dx T.1 (460 * y) n2 i → 0 ≤ d1 → d1 < 1000000000 → 0 ≤ d2 → d2 < 1000000000 → zW p l e R s m args below meth c 10 b0 G kc ks Q (hm G h a cd (C, T.2)) 69 [(0, .ref a), (1, .int (jI r)), (2, .int (jI x)), (3, .int (jI y)), (4, .int (jI sg)), (5, .int (jI n1)), (6, .int (jI n2)), (7, .int (jI cy)), (8, .int (jI i))] [.int (jI d2), .int (jI (d1 - cy))] := fun d1 d2 e1 e2 g1 g2 g3 g4 => by
      refine zi_isub K d_M_takeSizes_69 ?_
      refine z_istore K d_M_takeSizes_70 (by decide) ?_
      refine z_iload K d_M_takeSizes_72 rfl ?_
      refine zi_if_ge (tgt := 81) K d_M_takeSizes_74 (by decide) (by omega) (fun hc => ?_) (fun hc => ?_)
      · refine z_iconst (v := jI 0) K d_M_takeSizes_81 rfl ?_
        refine z_re [0, 1, 2, 3, 4, 5, 6, 8, 9] rfl ?_
        exact J82 (d1 - cy - d2) 0 (by rw [e1, e2]) (by omega) (by omega) (by omega)
      · refine z_iconst (v := jI 1) K d_M_takeSizes_77 rfl ?_
        refine z_goto (tgt := 82) K d_M_takeSizes_78 (by decide) ?_
        refine z_re [0, 1, 2, 3, 4, 5, 6, 8, 9] rfl ?_
        exact J82 (d1 - cy - d2) 1 (by rw [e1, e2]) (by omega) (by omega) (by omega)
    refine z_iload K d_M_takeSizes_22 rfl ?_
    refine z_iload K d_M_takeSizes_24 rfl ?_
    refine zi_icmp_ge (tgt := 118) K d_M_takeSizes_26 (by decide) (by omega) (by omega) (fun hc => absurd hc (by omega)) (fun hc => ?_)
    refine z_aload_n K d_M_takeSizes_29 rfl ?_
    refine zm_get K fd_M_9 rfl d_M_takeSizes_30 ?_
    refine z_sipush (v := jI 460) K d_M_takeSizes_33 rfl ?_
    refine z_iload_n K d_M_takeSizes_36 rfl ?_
    refine zi_imul K d_M_takeSizes_37 ?_
    refine z_iload K d_M_takeSizes_38 rfl ?_
    refine zi_iadd K d_M_takeSizes_40 ?_
    refine zm_cld K (by omega) d_M_takeSizes_41 ?_
    refine z_iload K d_M_takeSizes_42 rfl ?_
    refine zi_isub K d_M_takeSizes_44 ?_
    refine z_iload K d_M_takeSizes_45 rfl ?_
    refine z_iload K d_M_takeSizes_47 rfl ?_
    dsimp only
    rw [hC (460 * x + i) (by omega)]
    have e1 : T.1 (460 * x + i) = dx T.1 (460 * x) n1 i := by rw [dx_in (by omega)]
    refine zi_icmp_ge (tgt := 68) K d_M_takeSizes_49 (by decide) (by omega) (by omega) (fun hc => ?_) (fun hc => ?_)
    · refine z_iconst (v := jI 0) K d_M_takeSizes_68 rfl ?_
      exact J69 _ 0 e1 (by rw [dx_out (by omega)]) (by omega) (by omega) (by omega) (by omega)
    · refine z_aload_n K d_M_takeSizes_52 rfl ?_
      refine zm_get K fd_M_9 rfl d_M_takeSizes_53 ?_
      refine z_sipush (v := jI 460) K d_M_takeSizes_56 rfl ?_
      refine z_iload_n K d_M_takeSizes_59 rfl ?_
      refine zi_imul K d_M_takeSizes_60 ?_
      refine z_iload K d_M_takeSizes_61 rfl ?_
      refine zi_iadd K d_M_takeSizes_63 ?_
      refine zm_cld K (by omega) d_M_takeSizes_64 ?_
      refine z_goto (tgt := 69) K d_M_takeSizes_65 (by decide) ?_
      dsimp only
      have hg3 := hgy i (by omega)
      rw [hC (460 * y + i) (by omega)]
      exact J69 _ _ e1 (by rw [dx_in (by omega)]) (by omega) (by omega) (by omega) (by omega)
set_option maxHeartbeats 4000000 in
set_option maxRecDepth 100000 in
/-- takeSizes(r, x, y, sg): the register r holds sg times the difference of the cells of x and y -/
theorem c_M_takeSizes (l : Launch) (G : zG) (b0 : Nat) (h : zH) (a : Nat) (cd : Int) (T : mT) {r x y u1 u2 sg : Int} {n1 n2 : Nat} (hr0 : 0 ≤ r ∧ r < 56) (hx0 : 0 ≤ x ∧ x < 56) (hy0 : 0 ≤ y ∧ y < 56) (hx : Mg T x n1 u1) (hy : Mg T y n2 u2) (h21 : n2 ≤ n1) (hu : u2 ≤ u1) :
    mMet l G b0 y_M_takeSizes b_M_takeSizes 10 none 1 23 h a cd [.int (jI r), .int (jI x), .int (jI y), .int (jI sg)] T (fun o T' => o = none ∧ ∃ (N : Nat) (C : Int → Int), T' = (C, iu T.2.1 r N, iu T.2.2.1 r (if N = 0 then 0 else sg), T.2.2.2) ∧ N ≤ n1 ∧ dg C (460 * r) N ∧ dv C (460 * r) N = u1 - u2 ∧ (∀ j : Nat, N = j + 1 → C (460 * r + j) ≠ 0) ∧ ∀ q : Int, q < 460 * r ∨ 460 * r + 460 ≤ q → C q = T.1 q) :=
  z_met (by decide) (Nat.le_of_ble_eq_true rfl) fun p e s m below meth c K hr hlk hnm => by
  obtain ⟨hx1, hx2, hx3, hx4⟩ := hx
  obtain ⟨hy1, hy2, hy3, hy4⟩ := hy
  refine z_aload_n K d_M_takeSizes_0 rfl ?_
  refine zm_get K fd_M_13 rfl d_M_takeSizes_1 ?_
  refine z_iload_n K d_M_takeSizes_4 rfl ?_
  refine zm_zld K (by omega) d_M_takeSizes_5 ?_
  refine z_istore K d_M_takeSizes_6 (by decide) ?_
  refine z_aload_n K d_M_takeSizes_8 rfl ?_
  refine zm_get K fd_M_13 rfl d_M_takeSizes_9 ?_
  refine z_iload_n K d_M_takeSizes_12 rfl ?_
  refine zm_zld K (by omega) d_M_takeSizes_13 ?_
  refine z_istore K d_M_takeSizes_14 (by decide) ?_
  refine z_iconst (v := jI 0) K d_M_takeSizes_16 rfl ?_
  refine z_istore K d_M_takeSizes_17 (by decide) ?_
  refine z_iconst (v := jI 0) K d_M_takeSizes_19 rfl ?_
  refine z_istore K d_M_takeSizes_20 (by decide) ?_
  rw [hx1, hy1]
  refine z_re [0, 1, 2, 3, 4, 5, 6, 7, 8] rfl ?_
  have e1 := dv_dx (f := T.1) (b := 460 * x) (n := n1) 0
  have e2 := dv_dx (f := T.1) (b := 460 * y) (n := n2) (n1 - n2)
  rw [Nat.add_zero] at e1
  rw [show n2 + (n1 - n2) = n1 by omega] at e2
  refine lp_M_takeSizes K T hr0 hx0 hy0 h21 hx2 hx3 hy3 (fun C cy g1 g2 g3 g4 => ?_) n1 0 T.1 0 (by omega) (Or.inl rfl) (fun q _ => rfl) (fun k hk => absurd hk (by omega)) (by simp [dv])
  rw [e1, e2, hx4, hy4] at g4
  have hb := (dv_bd g3).2
  have hcy : cy = 0 := by
    rcases g1 with h0 | h0
    · exact h0
    · rw [h0] at g4; omega
  subst hcy
  refine z_aload_n K d_M_takeSizes_118 rfl ?_
  refine zm_get K fd_M_16 rfl d_M_takeSizes_119 ?_
  refine z_iload_n K d_M_takeSizes_122 rfl ?_
  refine z_iload K d_M_takeSizes_123 rfl ?_
  refine zm_sst K (by omega) d_M_takeSizes_125 ?_
  refine z_aload_n K d_M_takeSizes_126 rfl ?_
  refine z_iload_n K d_M_takeSizes_127 rfl ?_
  refine z_iload K d_M_takeSizes_128 rfl ?_
  refine z_callV (ci := 0) (As := [.int (jI r), .int (jI n1)]) K (c_M_trim l G b0 h a cd (C, T.2.1, iu T.2.2.1 r sg, T.2.2.2) hr0 hx2 g3) ca_M_53 im_M_trim se_M_trim rfl (by decide) hm_0 rfl rfl (by decide) (Nat.le_of_ble_eq_true rfl) d_M_takeSizes_130 (fun o h1 hp => ?_)
  obtain ⟨T1, rfl, rfl, N, k1, k2, k3, rfl⟩ := hp
  refine z_vret K hr hlk d_M_takeSizes_133 ⟨_, rfl, rfl, N, C, ?_, k1, fun k hk => g3 k (by omega), by dsimp only at k3; rw [k3]; omega, k2, fun q hq => g2 q (by omega)⟩
  dsimp only
  rw [iu_iu, iu_self]
theorem Fr.of1 {T : mT} {C Z S : Int → Int} {r : Int} {zv sv : Int} (hZ : Z = iu T.2.1 r zv) (hS : S = iu T.2.2.1 r sv ∨ S = T.2.2.1) (hC : ∀ q : Int, q < 460 * r ∨ 460 * r + 460 ≤ q → C q = T.1 q) : Fr [r] T (C, Z, S, T.2.2.2) := by
  refine ⟨rfl, fun q hq => ?_⟩
  have hq2 : q ≠ r := fun z => hq (by rw [z]; exact List.mem_cons_self)
  refine ⟨?_, ?_, fun k h0 h1 => hC _ (by omega)⟩
  · show Z q = _
    rw [hZ, iu_ne _ _ hq2]
  · show S q = _
    rcases hS with h | h
    · rw [h, iu_ne _ _ hq2]
    · rw [h]
theorem sgn_pos_mul {v w : Int} (hv : v.sign ≠ 0) (h : v.sign = w.sign) : (v + w).sign = v.sign ∧ ((v + w).natAbs : Int) = v.natAbs + w.natAbs := by
  rcases sgn3 v with h1 | h1 | h1
  · have a1 : v < 0 := Int.neg_of_sign_eq_neg_one h1
    have a2 : w < 0 := Int.neg_of_sign_eq_neg_one (by omega)
    exact ⟨by rw [h1]; exact Int.sign_eq_neg_one_of_neg (by omega), by omega⟩
  · exact absurd h1 hv
  · have a1 : 0 < v := Int.pos_of_sign_eq_one h1
    have a2 : 0 < w := Int.pos_of_sign_eq_one (by omega)
    exact ⟨by rw [h1]; exact Int.sign_eq_one_of_pos (by omega), by omega⟩
/-- of different signs: the larger size takes the sign -/
theorem sgn_diff {v w : Int} (hv : v.sign ≠ 0) (hw : w.sign ≠ 0) (h : v.sign ≠ w.sign) (hl : w.natAbs ≤ v.natAbs) : ((v + w).natAbs : Int) = v.natAbs - w.natAbs ∧ ((v + w).natAbs ≠ 0 → (v + w).sign = v.sign) := by
  rcases sgn3 v with h1 | h1 | h1
  · have a1 : v < 0 := Int.neg_of_sign_eq_neg_one h1
    have a2 : 0 < w := Int.pos_of_sign_eq_one (by have := sgn3 w; omega)
    exact ⟨by omega, fun hn => by rw [h1]; exact Int.sign_eq_neg_one_of_neg (by omega)⟩
  · exact absurd h1 hv
  · have a1 : 0 < v := Int.pos_of_sign_eq_one h1
    have a2 : w < 0 := Int.neg_of_sign_eq_neg_one (by have := sgn3 w; omega)
    exact ⟨by omega, fun hn => by rw [h1]; exact Int.sign_eq_one_of_pos (by omega)⟩
end M4
