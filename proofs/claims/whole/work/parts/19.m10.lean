theorem norm_half {t b : Int} (ht : 1 ≤ t) (hb : 1 ≤ b) (h : 1000000000 < (t + 1) * (b + 1)) : 500000000 ≤ t * b := by
  have h1 := Int.mul_nonneg (show 0 ≤ t - 1 by omega) (show 0 ≤ b - 1 by omega)
  have e1 : (t - 1) * (b - 1) = t * b - t - b + 1 := by grind
  have e2 : (t + 1) * (b + 1) = t * b + t + b + 1 := by grind
  omega
theorem dv_hi {f : Int → Int} {b : Int} (n : Nat) : dv f b (n + 1) = dv f b n + f (b + n) * BS ^ n := rfl
section M10
variable {p : Program} {l : Launch} {e : Env} {R : Room} {s : State} {m : MethodId} {args : Array Value} {below : List Frame} {meth : Method} {c : Code} {Q : State → Prop} {b0 kc ks : Nat} {G : zG} {h : zH} {a : Nat} {cd : Int}
set_option maxHeartbeats 4000000 in
set_option maxRecDepth 100000 in
theorem lp_M_divide (K : zC p s m args c b_M_divide R_M 10 b0 G) (hRm : 1 ≤ R.frames ∧ 45 ≤ R.locals ∧ kc ≤ R.cells ∧ ks ≤ R.slots) (T : mT) {q x y by0 sg B A0 : Int} {n tp : Nat} (hq : q = -1 ∨ (0 ≤ q ∧ q < 56 ∧ q ≠ x ∧ q ≠ y)) (hx0 : 0 ≤ x ∧ x < 56) (hy0 : 0 ≤ y ∧ y < 56) (hxy : x ≠ y) (hn : 1 ≤ n) (htp : n ≤ tp) (htp2 : tp ≤ 458) (hgb : dg T.1 (460 * y) n) (hB : B = dv T.1 (460 * y) n) (hl : 500000000 ≤ T.1 (460 * y + (n - 1)))
    (hx : ∀ (C : Int → Int) (Qd : Int), dg C (460 * x) n → dv C (460 * x) n < B → A0 = dv C (460 * x) n + Qd * B → (0 ≤ q → dg C (460 * q) (tp - n + 1) ∧ dv C (460 * q) (tp - n + 1) = Qd) → (∀ z : Int, z < 460 * x ∨ 460 * x + 460 ≤ z → (q < 0 ∨ z < 460 * q ∨ 460 * q + 460 ≤ z) → C z = T.1 z) → zW p l e R s m args below meth c 10 b0 G kc ks Q (hm G h a cd (C, T.2)) 157 [(0, .ref a), (1, .int (jI q)), (2, .int (jI x)), (3, .int (jI y)), (4, .int (jI by0)), (5, .int (jI n)), (6, .int (jI tp)), (7, .int (jI sg))] []) :
    ∀ (i : Nat) (C : Int → Int) (Qd : Int), i + n ≤ tp + 1 → dg C (460 * x) (i + n) → dv C (460 * x + i) n < B → A0 = dv C (460 * x) (i + n) + BS ^ i * Qd * B → (0 ≤ q → dg C (460 * q + i) (tp - n + 1 - i) ∧ dv C (460 * q + i) (tp - n + 1 - i) = Qd) → (∀ z : Int, z < 460 * x ∨ 460 * x + 460 ≤ z → (q < 0 ∨ z < 460 * q ∨ 460 * q + 460 ≤ z) → C z = T.1 z) →
      zW p l e R s m args below meth c 10 b0 G kc ks Q (hm G h a cd (C, T.2)) 115 [(0, .ref a), (1, .int (jI q)), (2, .int (jI x)), (3, .int (jI y)), (4, .int (jI by0)), (5, .int (jI n)), (6, .int (jI tp)), (7, .int (jI sg)), (8, .int (jI (i - 1)))] [] := by
  intro i
  induction i with
  | zero =>
    intro C Qd hi hg hW hA hQ hC
    refine z_iload K d_M_divide_115 rfl ?_
    refine zi_if_lt (tgt := 157) K d_M_divide_117 (by decide) (by omega) (fun hc => ?_) (fun hc => absurd hc (by omega))
    simp only [Nat.zero_add, Int.natCast_zero, Int.add_zero, Nat.sub_zero, Int.pow_zero, Int.one_mul] at hg hW hA hQ
    exact z_re [0, 1, 2, 3, 4, 5, 6, 7] rfl (hx C Qd hg hW hA hQ hC)
  | succ i ih =>
    intro C Qd hi hg hW hA hQ hC
    rw [show ((i + 1 : Nat) : Int) - 1 = i by omega]
    have hgy : dg C (460 * y) n := fun k hk => by rw [hC _ (by omega) (by omega)]; exact hgb k hk
    have hBy : B = dv C (460 * y) n := by rw [hB]; exact dv_congr (fun k hk => (hC _ (by omega) (by omega)).symm)
    have hga : dg C (460 * x + i) (n + 1) := fun k hk => by
      have := hg (i + k) (by omega)
      rwa [show 460 * x + ((i + k : Nat) : Int) = 460 * x + i + k by omega] at this
    have hWlo : dv C (460 * x + i) (n + 1) = C (460 * x + i) + 1000000000 * dv C (460 * x + ((i + 1 : Nat) : Int)) n := by
      rw [dv_lo, show 460 * x + (i : Int) + 1 = 460 * x + ((i + 1 : Nat) : Int) by omega]
    have hc0 := hga 0 (by omega)
    rw [show 460 * x + (i : Int) + ((0 : Nat) : Int) = 460 * x + i by omega] at hc0
    refine z_iload K d_M_divide_115 rfl ?_
    refine zi_if_lt (tgt := 157) K d_M_divide_117 (by decide) (by omega) (fun hc => absurd hc (by omega)) (fun hc => ?_)
    refine z_aload_n K d_M_divide_120 rfl ?_
    refine z_iload_n K d_M_divide_121 rfl ?_
    refine z_iload_n K d_M_divide_122 rfl ?_
    refine z_iload K d_M_divide_123 rfl ?_
    refine z_iload K d_M_divide_125 rfl ?_
    refine z_callV (ci := 0) (As := [.int (jI x), .int (jI y), .int (jI i), .int (jI n)]) K (c_M_place l G b0 h a cd (C, T.2) hx0 hy0 hxy hn (by omega) hga hgy rfl hBy (by dsimp only; rw [hC _ (by omega) (by omega)]; exact hl) (by dsimp only; rw [hWlo]; omega)) ca_M_59 im_M_place se_M_place rfl (by decide) hm_0 rfl rfl (by omega) (Nat.le_of_ble_eq_true rfl) d_M_divide_127 (fun o h1 hp => ?_)
    obtain ⟨T1, rfl, dq, C1, rfl, rfl, k0, k1, k2, k3, k4, k5, k6⟩ := hp
    dsimp only at k4 k5 k6 ⊢
    have hA1 : A0 = dv C1 (460 * x) (i + n) + BS ^ i * (dq + 1000000000 * Qd) * B := by
      have a1 : dv C (460 * x) (i + 1 + n) = dv C (460 * x) i + BS ^ i * dv C (460 * x + i) (n + 1) := by
        rw [show i + 1 + n = i + (n + 1) by omega, dv_add]
      have a2 : dv C1 (460 * x) (i + n) = dv C (460 * x) i + BS ^ i * dv C1 (460 * x + i) n := by
        rw [dv_add, dv_congr (f := C1) (g := C) (c := 460 * x) (n := i) (fun k hk => k6 _ (by omega))]
      rw [hA, a1, a2, k4, Int.pow_succ]
      grind
    have hg1 : dg C1 (460 * x) (i + n) := fun k hk => by
      by_cases hki : k < i
      · rw [k6 _ (by omega)]; exact hg k (by omega)
      · have := k2 (k - i) (by omega)
        rwa [show 460 * x + (i : Int) + ((k - i : Nat) : Int) = 460 * x + k by omega] at this
    refine z_istore K d_M_divide_130 (by decide) ?_
    refine z_iload_n K d_M_divide_132 rfl ?_
    refine zi_if_lt (tgt := 151) K d_M_divide_133 (by decide) (by omega) (fun hcq => ?_) (fun hcq => ?_)
    · refine zi_iinc K d_M_divide_151 rfl (by decide) ?_
      refine z_goto (tgt := 115) K d_M_divide_154 (by decide) ?_
      refine z_re [0, 1, 2, 3, 4, 5, 6, 7, 8] rfl ?_
      exact ih C1 (dq + 1000000000 * Qd) (by omega) hg1 (by rw [k4]; exact k5) hA1 (fun z => absurd z (by omega)) (fun z z1 z2 => by rw [k6 _ (by omega)]; exact hC z z1 z2)
    · obtain ⟨q1, q2⟩ := hQ hcq
      refine z_aload_n K d_M_divide_136 rfl ?_
      refine zm_get K fd_M_9 rfl d_M_divide_137 ?_
      refine z_sipush (v := jI 460) K d_M_divide_140 rfl ?_
      refine z_iload_n K d_M_divide_143 rfl ?_
      refine zi_imul K d_M_divide_144 ?_
      refine z_iload K d_M_divide_145 rfl ?_
      refine zi_iadd K d_M_divide_147 ?_
      refine z_iload K d_M_divide_148 rfl ?_
      refine zm_cst K (by omega) d_M_divide_150 ?_
      refine zi_iinc K d_M_divide_151 rfl (by decide) ?_
      refine z_goto (tgt := 115) K d_M_divide_154 (by decide) ?_
      refine z_re [0, 1, 2, 3, 4, 5, 6, 7, 8] rfl ?_
      refine ih _ (dq + 1000000000 * Qd) (by omega) (fun k hk => ?_) ?_ ?_ (fun _ => ⟨fun k hk => ?_, ?_⟩) (fun z z1 z2 => ?_)
      · dsimp only
        rw [iu_ne _ _ (by omega)]; exact hg1 k hk
      · dsimp only
        rw [dv_iu (fun k hk => by omega), k4]; exact k5
      · dsimp only
        rw [dv_iu (fun k hk => by omega)]; exact hA1
      · dsimp only
        by_cases hk0 : k = 0
        · subst hk0; rw [show 460 * q + (i : Int) + ((0 : Nat) : Int) = 460 * q + i by omega, iu_self]; exact ⟨k0, k1⟩
        · rw [iu_ne _ _ (by omega), k6 _ (by omega)]
          have := q1 (k - 1) (by omega)
          rwa [show 460 * q + ((i + 1 : Nat) : Int) + ((k - 1 : Nat) : Int) = 460 * q + i + k by omega] at this
      · dsimp only
        rw [show tp - n + 1 - i = (tp - n + 1 - (i + 1)) + 1 by omega, dv_lo, iu_self, dv_iu (fun k hk => by omega), ← q2]
        congr 2
        rw [show 460 * q + (i : Int) + 1 = 460 * q + ((i + 1 : Nat) : Int) by omega]
        exact dv_congr (fun k hk => k6 _ (by omega))
      · dsimp only
        rw [iu_ne _ _ (by omega), k6 _ (by omega)]; exact hC z z1 z2
end M10
