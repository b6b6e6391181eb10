theorem sgn_div {v w bv bw : Int} (h1 : bv = (if v < 0 then 1 else 0)) (h2 : bw = (if w < 0 then 1 else 0)) : (bv = bw → (v.natAbs : Int) / w.natAbs = v.tdiv w) ∧ (bv ≠ bw → -((v.natAbs : Int) / w.natAbs) = v.tdiv w) ∧ sgn bv ((v.natAbs : Int) % w.natAbs) = v.tmod w := by
  have e1 : (v.natAbs : Int) / w.natAbs = (v.natAbs : Int).tdiv w.natAbs := (Int.tdiv_eq_ediv_of_nonneg (by omega)).symm
  have e2 : (v.natAbs : Int) % w.natAbs = (v.natAbs : Int).tmod w.natAbs := (Int.tmod_eq_emod_of_nonneg (by omega)).symm
  rw [e1, e2]
  by_cases q : v < 0 <;> by_cases q' : w < 0
  · rw [if_pos q] at h1; rw [if_pos q'] at h2
    rw [show (v.natAbs : Int) = -v by omega, show (w.natAbs : Int) = -w by omega]
    refine ⟨fun _ => by rw [Int.neg_tdiv, Int.tdiv_neg, Int.neg_neg], fun h => absurd (h1.trans h2.symm) h, ?_⟩
    unfold sgn; rw [if_pos h1, Int.neg_tmod, Int.tmod_neg, Int.neg_neg]
  · rw [if_pos q] at h1; rw [if_neg q'] at h2
    rw [show (v.natAbs : Int) = -v by omega, show (w.natAbs : Int) = w by omega]
    refine ⟨fun h => by omega, fun _ => by rw [Int.neg_tdiv, Int.neg_neg], ?_⟩
    unfold sgn; rw [if_pos h1, Int.neg_tmod, Int.neg_neg]
  · rw [if_neg q] at h1; rw [if_pos q'] at h2
    rw [show (v.natAbs : Int) = v by omega, show (w.natAbs : Int) = -w by omega]
    refine ⟨fun h => by omega, fun _ => by rw [Int.tdiv_neg, Int.neg_neg], ?_⟩
    unfold sgn; rw [if_neg (by omega), Int.tmod_neg]
  · rw [if_neg q] at h1; rw [if_neg q'] at h2
    rw [show (v.natAbs : Int) = v by omega, show (w.natAbs : Int) = w by omega]
    refine ⟨fun _ => rfl, fun h => absurd (h1.trans h2.symm) h, ?_⟩
    unfold sgn; rw [if_neg (by omega)]
theorem div_step {A0 G B W q D' P E Gi : Int} (h : A0 = G * B * (P * 1000000000) + (E + P * W)) (hW : W = q * B + D') (hG : Gi = q + 1000000000 * G) : A0 = Gi * B * P + (E + P * D') := by
  rw [h, hW, hG]; grind
section R9
variable {p : Program} {l : Launch} {e : Env} {R : Room} {s : State} {m : MethodId} {args : Array Value} {below : List Frame} {meth : Method} {c : Code} {Q : State → Prop} {b0 kc ks : Nat} {G : zG} {h : zH} {a : Nat} {cd : Int}
set_option maxHeartbeats 4000000 in
set_option maxRecDepth 100000 in
theorem lp_R_divide (K : zC p s m args c b_R_divide R_R 12 b0 G) (hRm : 2 ≤ R.frames ∧ 69 ≤ R.locals) (hkc : kc ≤ R.cells) (hks : ks ≤ R.slots) {S : xS} {n M : Nat} {A0 : Int} {r3 r4 : Nat} {w7 w8 w9 w10 : Int} (hn1 : 1 ≤ n) (hM : M + n ≤ 113) (hlo : dg S.r2 0 n) (hl : 500000000 ≤ S.r2 ((n : Int) - 1))
    (kx : ∀ (gq f : Int → Int), dg gq 0 M → dg f 0 n → dv f 0 n < dv S.r2 0 n → A0 = dv gq 0 M * dv S.r2 0 n + dv f 0 n → zW p l e R s m args below meth c 12 b0 G kc ks Q (hx G h a ((S.s0 gq).s1 f)) 192 [(0, .ref (a + 1)), (3, .ref (a + r3)), (4, .ref (a + r4)), (5, .int (jI n)), (7, .int (jI w7)), (8, .int (jI w8)), (9, .int (jI w9)), (10, .int (jI w10))] []) :
    ∀ (i j : Nat) (gq f : Int → Int), i + j = M → dg gq i j → dg f 0 (i + n) → dv f i n < dv S.r2 0 n → A0 = dv gq i j * dv S.r2 0 n * BS ^ i + (dv f 0 i + BS ^ i * dv f i n) →
      zW p l e R s m args below meth c 12 b0 G kc ks Q (hx G h a ((S.s0 gq).s1 f)) 155 [(0, .ref (a + 1)), (3, .ref (a + r3)), (4, .ref (a + r4)), (5, .int (jI n)), (7, .int (jI w7)), (8, .int (jI w8)), (9, .int (jI w9)), (10, .int (jI w10)), (11, .int (jI ((i : Int) - 1)))] [] := by
  intro i
  induction i with
  | zero =>
    intro j gq f hi hgq hf hB hA
    refine z_iload K d_R_divide_155 rfl ?_
    refine zi_if_lt (tgt := 192) K d_R_divide_157 (by decide) (by omega) (fun hc => ?_) (fun hc => absurd hc (by omega))
    have hj : j = M := by omega
    subst hj
    refine z_re [0, 3, 4, 5, 7, 8, 9, 10] rfl (kx gq f hgq (by rw [Nat.zero_add] at hf; exact hf) hB ?_)
    rw [hA]
    show dv gq 0 j * dv S.r2 0 n * BS ^ 0 + (0 + BS ^ 0 * dv f 0 n) = _
    rw [Int.pow_zero]; omega
  | succ i ih =>
    intro j gq f hi hgq hf hB hA
    have hfw : dg f i (n + 1) := fun k hk => by have := hf (i + k) (by omega); rw [show (0 : Int) + ((i + k : Nat) : Int) = (i : Int) + k by omega] at this; exact this
    have fi := hf i (by omega)
    rw [Int.zero_add] at fi
    have eW : dv f i (n + 1) = f i + 1000000000 * dv f ((i : Int) + 1) n := dv_lo n
    rw [show ((i + 1 : Nat) : Int) = (i : Int) + 1 by omega] at hB hA hgq
    have hWB : dv f i (n + 1) < 1000000000 * dv S.r2 0 n := by omega
    rw [show ((i + 1 : Nat) : Int) - 1 = i by omega]
    refine z_iload K d_R_divide_155 rfl ?_
    refine zi_if_lt (tgt := 192) K d_R_divide_157 (by decide) (by omega) (fun hc => absurd hc (by omega)) (fun hc => ?_)
    refine z_aload_n K d_R_divide_160 rfl ?_
    refine zx_gR K fd_R_9 rfl d_R_divide_161 ?_
    refine z_iload K d_R_divide_164 rfl ?_
    refine z_aload_n K d_R_divide_166 rfl ?_
    refine z_aload_n K d_R_divide_167 rfl ?_
    refine z_iload K d_R_divide_168 rfl ?_
    refine z_iload K d_R_divide_170 rfl ?_
    refine zi_iadd K d_R_divide_172 ?_
    refine z_iload K d_R_divide_173 rfl ?_
    rw [show (i : Int) + n = ((i + n : Nat) : Int) by omega]
    refine z_callV (ci := 4) (As := [.int (jI ((i + n : Nat) : Int)), .int (jI n)]) K (c_R_guessLimb l G b0 h a ((S.s0 gq).s1 f) (fr := i) (n := n) hn1 (by omega) hfw hlo hl hWB) ca_R_94 im_R_guessLimb se_R_guessLimb rfl (by decide) (hx_R) rfl rfl (rm_ok ⟨hRm.1, hRm.2, hkc, hks⟩ (by decide) (by decide)) (Nat.le_of_ble_eq_true rfl) d_R_divide_175 (fun r h1 hp => ?_)
    obtain ⟨S1, rfl, rfl, g, rfl, g1, g2, g3, g4⟩ := hp
    refine z_iload K d_R_divide_178 rfl ?_
    refine z_iload K d_R_divide_180 rfl ?_
    refine z_callV (ci := 4) (As := [.long (kI g), .int (jI i), .int (jI n)]) K (c_R_takeMultiple l G b0 h a ((S.s0 gq).s1 f) (fr := i) (n := n) hn1 (by omega) ⟨g1, g2⟩ hfw hlo g3 g4) ca_R_98 im_R_takeMultiple se_R_takeMultiple rfl (by decide) (hx_R) rfl rfl (rm_ok ⟨hRm.1, hRm.2, hkc, hks⟩ (by decide) (by decide)) (Nat.le_of_ble_eq_true rfl) d_R_divide_182 (fun r h1 hp => ?_)
    obtain ⟨S1, rfl, f1, q, rfl, rfl, q1, k1, k2, k3, k4, k5⟩ := hp
    refine zx_0st K (by omega) d_R_divide_185 ?_
    refine zi_iinc K d_R_divide_186 rfl (by decide) ?_
    refine z_goto (tgt := 155) K d_R_divide_189 (by decide) ?_
    refine z_re [0, 3, 4, 5, 7, 8, 9, 10, 11] rfl ?_
    rw [show (i : Int) + -1 = (i : Int) - 1 by omega]
    have k4' : dv f i (n + 1) = q * dv S.r2 0 n + dv f1 i n := k4
    refine ih (j + 1) (iu gq i q) f1 (by omega) (fun k hk => ?_) (fun k hk => ?_) k5 ?_
    · by_cases e : k = 0
      · subst e; rw [show (i : Int) + ((0 : Nat) : Int) = i by omega, iu_self]; exact q1
      · rw [iu_ne _ _ (by omega)]
        have := hgq (k - 1) (by omega)
        rw [show (i : Int) + 1 + ((k - 1 : Nat) : Int) = (i : Int) + k by omega] at this
        exact this
    · rw [Int.zero_add]
      by_cases e : k < i
      · rw [k1 _ (by omega)]
        have := hf k (by omega)
        rw [Int.zero_add] at this
        exact this
      · have := k3 (k - i) (by omega)
        rw [show (i : Int) + ((k - i : Nat) : Int) = k by omega] at this
        exact this
    · have e1 : dv f1 0 i = dv f 0 i := dv_congr (fun k hk => k1 _ (by omega))
      have e2 : dv (iu gq i q) i (j + 1) = q + 1000000000 * dv gq ((i : Int) + 1) j := by
        rw [dv_lo, iu_self, dv_iu (fun k hk => by omega)]
      have e3 : dv f 0 (i + 1) = dv f 0 i + f i * BS ^ i := by
        show dv f 0 i + f (0 + i) * BS ^ i = _
        rw [Int.zero_add]
      rw [e1]
      refine div_step (W := dv f i (n + 1)) (q := q) (G := dv gq ((i : Int) + 1) j) ?_ k4' e2
      rw [hA, e3, eW]
      rw [show BS ^ (i + 1) = BS ^ i * 1000000000 from rfl]
      grind
end R9
