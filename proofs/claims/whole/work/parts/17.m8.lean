/-! Knuth's guess of a cell of the quotient. W: the n + 1 cells on top, B: the divisor's n cells; 'two' the two highest of W, 'lead' the highest of B -/
theorem mul_lt_cancel {a b B : Int} (hB : 0 < B) (h : a * B < b * B) : a < b := Int.lt_of_mul_lt_mul_right h (Int.le_of_lt hB)
/-- the first guess is no less than what is due -/
theorem kd_first {W B P two lead Wl Bl : Int} (hP : 0 < P) (hW : W = Wl + P * two) (hWl : Wl < P) (hB : B = Bl + P * lead) (hBl : 0 ≤ Bl) (hl : 0 < lead) (h2 : 0 ≤ two) : W < (two / lead + 1) * B := by
  have h3 : two < (two / lead + 1) * lead := by
    have := Int.lt_mul_ediv_self_add (x := two) hl
    rw [Int.add_mul, Int.one_mul, Int.mul_comm]
    omega
  have h4 : 0 ≤ two / lead := Int.ediv_nonneg h2 (by omega)
  have h5 : (two / lead + 1) * B = (two / lead + 1) * Bl + P * ((two / lead + 1) * lead) := by rw [hB]; grind
  have h6 : P * (two + 1) ≤ P * ((two / lead + 1) * lead) := Int.mul_le_mul_of_nonneg_left (by omega) (by omega)
  have h7 := Int.mul_nonneg (show 0 ≤ two / lead + 1 by omega) hBl
  rw [Int.mul_add, Int.mul_one] at h6
  omega
/-- where the second cell says so, the guess is too large -/
theorem kd_dec {W B P two lead second third Wl Bl g r : Int} (hP : 0 < P) (hW : W = Wl + P * (third + 1000000000 * two)) (hWl : Wl < P) (hB : B = Bl + P * (second + 1000000000 * lead)) (hBl : 0 ≤ Bl) (hg : 0 ≤ g) (hr : two = g * lead + r) (h : r * 1000000000 + third < g * second) : W < g * B := by
  have h5 : g * B = g * Bl + P * (g * second + 1000000000 * (g * lead)) := by rw [hB]; grind
  have h6 : P * (third + 1000000000 * two + 1) ≤ P * (g * second + 1000000000 * (g * lead)) := Int.mul_le_mul_of_nonneg_left (by omega) (by omega)
  have h7 := Int.mul_nonneg hg hBl
  rw [Int.mul_add (b := third + 1000000000 * two), Int.mul_one] at h6
  omega
/-- where it doesn't, the guess is too large by one at most -/
theorem kd_exit {W B P two lead second third Wl Bl g r : Int} (hW0 : 0 ≤ W) (hB0 : 0 ≤ B) (hP : 0 < P) (hW : W = Wl + P * (third + 1000000000 * two)) (hWl : 0 ≤ Wl) (hB : B = Bl + P * (second + 1000000000 * lead)) (hBl : Bl < P) (hs : 0 ≤ second) (hs2 : second < 1000000000) (h3 : 0 ≤ third) (hl : 0 < lead) (hg : 0 ≤ g) (hg2 : g < 1000000000) (hr : two = g * lead + r) (h : 1000000000 ≤ r ∨ g * second ≤ r * 1000000000 + third) : (g - 1) * B ≤ W := by
  by_cases hg0 : g = 0
  · subst hg0
    rw [Int.zero_sub, Int.neg_mul, Int.one_mul]
    omega
  · have e : (g - 1) * B = (g - 1) * Bl + P * ((g - 1) * second + 1000000000 * ((g - 1) * lead)) := by rw [hB]; grind
    have e2 : (g - 1) * Bl ≤ (g - 1) * P := Int.mul_le_mul_of_nonneg_left (by omega) (by omega)
    have e3 : (g - 1) * P + P * ((g - 1) * second + 1000000000 * ((g - 1) * lead)) = P * (g - 1 + (g - 1) * second + 1000000000 * ((g - 1) * lead)) := by grind
    have e4 : g - 1 + (g - 1) * second + 1000000000 * ((g - 1) * lead) ≤ third + 1000000000 * two := by
      have a1 : (g - 1) * lead = g * lead - lead := by grind
      have a2 : (g - 1) * second = g * second - second := by grind
      have a3 : g * second ≤ g * 999999999 := Int.mul_le_mul_of_nonneg_left (by omega) hg
      rw [a1, a2]
      rcases h with h | h <;> omega
    have e5 := Int.mul_le_mul_of_nonneg_left e4 (show 0 ≤ P by omega)
    omega
theorem tm_emod (v : Int) : (if v.tmod 1000000000 < 0 then v.tmod 1000000000 + 1000000000 else v.tmod 1000000000) = v % 1000000000 := by
  have h1 := Int.tmod_eq_emod (a := v) (b := 1000000000)
  have h2 := Int.emod_nonneg v (show (1000000000 : Int) ≠ 0 by decide)
  have h3 := Int.emod_lt_of_pos v (show (0 : Int) < 1000000000 by decide)
  rw [h1]
  split at * <;> split <;> omega
theorem tm_ediv (v : Int) : (v - v % 1000000000).tdiv 1000000000 = v / 1000000000 := by
  have h1 := Int.mul_ediv_add_emod v 1000000000
  rw [show v - v % 1000000000 = 1000000000 * (v / 1000000000) by omega]
  exact Int.mul_tdiv_cancel_left _ (by decide)
theorem pl_step {D P c w q m b E F cy g : Int} (hD : D + cy * P = E - g * F) (hw : w = c - g * b + cy) (hq : 1000000000 * q + m = w) : D + m * P + q * (P * 1000000000) = E + c * P - g * (F + b * P) := by grind
section M8
variable {p : Program} {l : Launch} {e : Env} {R : Room} {s : State} {m : MethodId} {args : Array Value} {below : List Frame} {meth : Method} {c : Code} {Q : State → Prop} {b0 kc ks : Nat} {G : zG} {h : zH} {a : Nat} {cd : Int}
set_option maxHeartbeats 4000000 in
set_option maxRecDepth 100000 in
theorem lp_M_place1 (K : zC p s m args c b_M_place R_M 26 b0 G) (T : mT) {x y j n pa pb W B two lead second third : Int} (hB : 0 < B) (hW : 0 ≤ W) (hWB : W < 1000000000 * B) (hl : 500000000 ≤ lead ∧ lead < 1000000000) (h2 : 0 ≤ two) (h2b : two < 1000000000 * (lead + 1)) (hs : 0 ≤ second ∧ second < 1000000000) (h3 : 0 ≤ third ∧ third < 1000000000)
    (hdec : ∀ g r : Int, 0 ≤ g → 0 ≤ r → two = g * lead + r → r * 1000000000 + third < g * second → W < g * B) (hex : ∀ g r : Int, 0 ≤ g → 0 ≤ r → g < 1000000000 → two = g * lead + r → 1000000000 ≤ r ∨ g * second ≤ r * 1000000000 + third → (g - 1) * B ≤ W)
    (hx : ∀ g : Int, 0 ≤ g → g < 1000000000 → W < (g + 1) * B → (g - 1) * B ≤ W → zW p l e R s m args below meth c 26 b0 G kc ks Q (hm G h a cd T) 178 [(0, .ref a), (4, .int (jI n)), (5, .int (jI pa)), (6, .int (jI pb)), (11, .long (kI g))] []) :
    ∀ (N : Nat) (g r : Int), g ≤ N → 0 ≤ g → g ≤ 1000000002 → two = g * lead + r → 0 ≤ r → r < 1000000000 + lead → W < (g + 1) * B →
      zW p l e R s m args below meth c 26 b0 G kc ks Q (hm G h a cd T) 126 [(0, .ref a), (1, .int (jI x)), (2, .int (jI y)), (3, .int (jI j)), (4, .int (jI n)), (5, .int (jI pa)), (6, .int (jI pb)), (7, .long (kI two)), (9, .long (kI lead)), (11, .long (kI g)), (13, .long (kI r)), (15, .long (kI second)), (17, .long (kI third))] [] := by
  intro N
  induction N with
  | zero =>
    intro g r hN h0 hg hgr hr0 hr1 hq
    have hg0 : g = 0 := by omega
    subst hg0
    refine z_lload K d_M_place_126 rfl ?_
    refine z_ldc2 (v := kI 1000000000) K d_M_place_128 kc_M_34 ?_
    refine zi_lc_ge (tgt := 162) K d_M_place_131 d_M_place_132 (by decide) (by omega) (by omega) (fun hc => absurd hc (by omega)) (fun hc => ?_)
    have hf := hx 0 (by omega) (by omega) hq (by rw [Int.zero_sub, Int.neg_mul, Int.one_mul]; omega)
    refine z_lload K d_M_place_135 rfl ?_
    refine z_ldc2 (v := kI 1000000000) K d_M_place_137 kc_M_34 ?_
    refine zi_lc_ge (tgt := 178) K d_M_place_140 d_M_place_141 (by decide) (by omega) (by omega) (fun hc => ?_) (fun hc => ?_)
    · exact z_re [0, 4, 5, 6, 11] rfl hf
    · refine z_lload K d_M_place_144 rfl ?_
      refine z_lload K d_M_place_146 rfl ?_
      refine zi_lmul K d_M_place_148 ?_
      refine z_lload K d_M_place_149 rfl ?_
      refine z_ldc2 (v := kI 1000000000) K d_M_place_151 kc_M_34 ?_
      refine zi_lmul K d_M_place_154 ?_
      refine z_lload K d_M_place_155 rfl ?_
      refine zi_ladd K d_M_place_157 ?_
      refine zi_lc_le (tgt := 178) K d_M_place_158 d_M_place_159 (by decide) (by omega) (by omega) (fun hc => ?_) (fun hc => absurd hc (by omega))
      exact z_re [0, 4, 5, 6, 11] rfl hf
  | succ N ih =>
    intro g r hN h0 hg hgr hr0 hr1 hq
    have dec : W < g * B → r + lead < 1000000000 + lead ∨ 1000000000 ≤ g → zW p l e R s m args below meth c 26 b0 G kc ks Q (hm G h a cd T) 162 [(0, .ref a), (1, .int (jI x)), (2, .int (jI y)), (3, .int (jI j)), (4, .int (jI n)), (5, .int (jI pa)), (6, .int (jI pb)), (7, .long (kI two)), (9, .long (kI lead)), (11, .long (kI g)), (13, .long (kI r)), (15, .long (kI second)), (17, .long (kI third))] [] := fun hd1 hd2 => by
      have hg1 : 1 ≤ g := by
        by_cases q : 1 ≤ g
        · exact q
        · have : g = 0 := by omega
          subst this
          omega
      refine z_lload K d_M_place_162 rfl ?_
      refine z_lconst (v := kI 1) K d_M_place_164 rfl ?_
      refine zi_lsub K d_M_place_165 ?_
      refine z_lstore K d_M_place_166 (by decide) ?_
      refine z_lload K d_M_place_168 rfl ?_
      refine z_lload K d_M_place_170 rfl ?_
      refine zi_ladd K d_M_place_172 ?_
      refine z_lstore K d_M_place_173 (by decide) ?_
      refine z_goto (tgt := 126) K d_M_place_175 (by decide) ?_
      refine z_re [0, 1, 2, 3, 4, 5, 6, 7, 9, 11, 13, 15, 17] rfl ?_
      have e1 : (g - 1) * lead = g * lead - lead := by grind
      refine ih (g - 1) (r + lead) (by omega) (by omega) (by omega) (by omega) (by omega) ?_ (by rw [Int.sub_add_cancel]; exact hd1)
      rcases hd2 with q | q
      · exact q
      · have e2 : 999999999 * lead ≤ (g - 1) * lead := Int.mul_le_mul_of_nonneg_right (by omega) (by omega)
        omega
    refine z_lload K d_M_place_126 rfl ?_
    refine z_ldc2 (v := kI 1000000000) K d_M_place_128 kc_M_34 ?_
    refine zi_lc_ge (tgt := 162) K d_M_place_131 d_M_place_132 (by decide) (by omega) (by omega) (fun hc => ?_) (fun hc => ?_)
    · refine dec ?_ (Or.inr hc)
      have := Int.mul_le_mul_of_nonneg_right hc (Int.le_of_lt hB)
      omega
    · have hm1 : g * second ≤ g * 999999999 := Int.mul_le_mul_of_nonneg_left (by omega) h0
      have hm2 := Int.mul_nonneg h0 hs.1
      refine z_lload K d_M_place_135 rfl ?_
      refine z_ldc2 (v := kI 1000000000) K d_M_place_137 kc_M_34 ?_
      refine zi_lc_ge (tgt := 178) K d_M_place_140 d_M_place_141 (by decide) (by omega) (by omega) (fun hc2 => ?_) (fun hc2 => ?_)
      · exact z_re [0, 4, 5, 6, 11] rfl (hx g h0 hc hq (hex g r h0 hr0 hc hgr (Or.inl hc2)))
      · refine z_lload K d_M_place_144 rfl ?_
        refine z_lload K d_M_place_146 rfl ?_
        refine zi_lmul K d_M_place_148 ?_
        refine z_lload K d_M_place_149 rfl ?_
        refine z_ldc2 (v := kI 1000000000) K d_M_place_151 kc_M_34 ?_
        refine zi_lmul K d_M_place_154 ?_
        refine z_lload K d_M_place_155 rfl ?_
        refine zi_ladd K d_M_place_157 ?_
        refine zi_lc_le (tgt := 178) K d_M_place_158 d_M_place_159 (by decide) (by omega) (by omega) (fun hc3 => ?_) (fun hc3 => ?_)
        · exact z_re [0, 4, 5, 6, 11] rfl (hx g h0 hc hq (hex g r h0 hr0 hc hgr (Or.inr hc3)))
        · exact dec (hdec g r h0 hr0 hgr hc3) (Or.inl (by omega))
set_option maxHeartbeats 4000000 in
set_option maxRecDepth 100000 in
theorem lp_M_place2 (K : zC p s m args c b_M_place R_M 26 b0 G) (T : mT) {pa pb g : Int} {n : Nat} (hn : n ≤ 459) (hpa : 0 ≤ pa ∧ pa + n < 25760) (hpb : 0 ≤ pb ∧ pb + n < 25760) (hab : pa + n ≤ pb ∨ pb + n ≤ pa) (hg0 : 0 ≤ g ∧ g < 1000000000) (hga : dg T.1 pa n) (hgb : dg T.1 pb n)
    (hx : ∀ (C : Int → Int) (cy : Int), -1000000000 ≤ cy → cy ≤ 0 → (∀ q : Int, q < pa ∨ pa + n ≤ q → C q = T.1 q) → dg C pa n → dv C pa n + cy * BS ^ n = dv T.1 pa n - g * dv T.1 pb n → zW p l e R s m args below meth c 26 b0 G kc ks Q (hm G h a cd (C, T.2)) 280 [(0, .ref a), (4, .int (jI n)), (5, .int (jI pa)), (6, .int (jI pb)), (11, .long (kI g)), (19, .long (kI cy))] []) :
    ∀ (j k : Nat) (C : Int → Int) (cy : Int), k + j = n → -1000000000 ≤ cy → cy ≤ 0 → (∀ q : Int, q < pa ∨ pa + k ≤ q → C q = T.1 q) → dg C pa k → dv C pa k + cy * BS ^ k = dv T.1 pa k - g * dv T.1 pb k →
      zW p l e R s m args below meth c 26 b0 G kc ks Q (hm G h a cd (C, T.2)) 184 [(0, .ref a), (4, .int (jI n)), (5, .int (jI pa)), (6, .int (jI pb)), (11, .long (kI g)), (19, .long (kI cy)), (21, .int (jI k))] [] := by
  intro j
  induction j with
  | zero =>
    intro k C cy hk hc0 hc1 hC hg hD
    refine z_iload K d_M_place_184 rfl ?_
    refine z_iload K d_M_place_186 rfl ?_
    refine zi_icmp_ge (tgt := 280) K d_M_place_188 (by decide) (by omega) (by omega) (fun hc => ?_) (fun hc => absurd hc (by omega))
    have hkn : k = n := by omega
    subst hkn
    exact z_re [0, 4, 5, 6, 11, 19] rfl (hx C cy hc0 hc1 hC hg hD)
  | succ j ih =>
    intro k C cy hk hc0 hc1 hC hg hD
    have g1 := hga k (by omega)
    have g2 := hgb k (by omega)
    have e1 : C (pa + k) = T.1 (pa + k) := hC _ (by omega)
    have e2 : C (pb + k) = T.1 (pb + k) := hC _ (by omega)
    have g3 := mul_cell hg0 g2
    refine z_iload K d_M_place_184 rfl ?_
    refine z_iload K d_M_place_186 rfl ?_
    refine zi_icmp_ge (tgt := 280) K d_M_place_188 (by decide) (by omega) (by omega) (fun hc => absurd hc (by omega)) (fun hc => ?_)
    refine z_aload_n K d_M_place_191 rfl ?_
    refine zm_get K fd_M_9 rfl d_M_place_192 ?_
    refine z_iload K d_M_place_195 rfl ?_
    refine z_iload K d_M_place_197 rfl ?_
    refine zi_iadd K d_M_place_199 ?_
    refine zm_cld K (by omega) d_M_place_200 ?_
    try dsimp only
    rw [e1]
    refine zi_i2l K d_M_place_201 (by omega) ?_
    refine z_lload K d_M_place_202 rfl ?_
    refine z_aload_n K d_M_place_204 rfl ?_
    refine zm_get K fd_M_9 rfl d_M_place_205 ?_
    refine z_iload K d_M_place_208 rfl ?_
    refine z_iload K d_M_place_210 rfl ?_
    refine zi_iadd K d_M_place_212 ?_
    refine zm_cld K (by omega) d_M_place_213 ?_
    try dsimp only
    rw [e2]
    refine zi_i2l K d_M_place_214 (by omega) ?_
    refine zi_lmul K d_M_place_215 ?_
    refine zi_lsub K d_M_place_216 ?_
    refine z_lload K d_M_place_217 rfl ?_
    refine zi_ladd K d_M_place_219 ?_
    obtain ⟨w, hw⟩ : ∃ w : Int, w = T.1 (pa + k) - g * T.1 (pb + k) + cy := ⟨_, rfl⟩
    rw [← hw]
    have fin : zW p l e R s m args below meth c 26 b0 G kc ks Q (hm G h a cd (C, T.2)) 248 [(0, .ref a), (4, .int (jI n)), (5, .int (jI pa)), (6, .int (jI pb)), (11, .long (kI g)), (19, .long (kI cy)), (21, .int (jI k)), (22, .long (kI w))] [.long (kI (w % 1000000000))] := by
      have m0 := Int.emod_nonneg w (show (1000000000 : Int) ≠ 0 by decide)
      have m1 := Int.emod_lt_of_pos w (show (0 : Int) < 1000000000 by decide)
      refine z_lstore K d_M_place_248 (by decide) ?_
      refine z_aload_n K d_M_place_250 rfl ?_
      refine zm_get K fd_M_9 rfl d_M_place_251 ?_
      refine z_iload K d_M_place_254 rfl ?_
      refine z_iload K d_M_place_256 rfl ?_
      refine zi_iadd K d_M_place_258 ?_
      refine z_lload K d_M_place_259 rfl ?_
      refine zi_l2i K d_M_place_261 ?_
      refine zm_cst K (by omega) d_M_place_262 ?_
      refine z_lload K d_M_place_263 rfl ?_
      refine z_lload K d_M_place_265 rfl ?_
      refine zi_lsub K d_M_place_267 ?_
      refine z_ldc2 (v := kI 1000000000) K d_M_place_268 kc_M_34 ?_
      refine zi_ldiv K d_M_place_271 (by omega) (by omega) (by omega) ?_
      refine z_lstore K d_M_place_272 (by decide) ?_
      refine zi_iinc K d_M_place_274 rfl (by decide) ?_
      refine z_goto (tgt := 184) K d_M_place_277 (by decide) ?_
      rw [tm_ediv]
      refine z_re [0, 4, 5, 6, 11, 19, 21] rfl ?_
      refine ih (k + 1) _ _ (by omega) (by omega) (by omega) (fun q hq => ?_) (fun q hq => ?_) ?_
      · dsimp only
        rw [iu_ne _ _ (by omega)]; exact hC q (by omega)
      · dsimp only
        by_cases hqk : q = k
        · subst hqk; rw [iu_self]; omega
        · rw [iu_ne _ _ (by omega)]; exact hg q (by omega)
      · simp only [dv]
        rw [iu_self, dv_iu (fun q hq => by omega), Int.pow_succ]
        exact pl_step hD hw (by omega)
    have t0 := tm_emod w
    have t1 := Int.tmod_lt_of_pos w (show (0 : Int) < 1000000000 by decide)
    have t2 := Int.lt_tmod_of_pos w (show (0 : Int) < 1000000000 by decide)
    refine z_lstore K d_M_place_220 (by decide) ?_
    refine z_lload K d_M_place_222 rfl ?_
    refine z_ldc2 (v := kI 1000000000) K d_M_place_224 kc_M_34 ?_
    refine zi_lrem K d_M_place_227 (by omega) (by omega) (by omega) ?_
    refine z_lstore K d_M_place_228 (by decide) ?_
    refine z_lload K d_M_place_230 rfl ?_
    refine z_lconst (v := kI 0) K d_M_place_232 rfl ?_
    refine zi_lc_ge (tgt := 246) K d_M_place_233 d_M_place_234 (by decide) (by omega) (by omega) (fun hc2 => ?_) (fun hc2 => ?_)
    · rw [if_neg (by omega)] at t0
      refine z_lload K d_M_place_246 rfl ?_
      rw [← t0] at fin
      exact z_re [0, 4, 5, 6, 11, 19, 21, 22] rfl fin
    · rw [if_pos (by omega)] at t0
      refine z_lload K d_M_place_237 rfl ?_
      refine z_ldc2 (v := kI 1000000000) K d_M_place_239 kc_M_34 ?_
      refine zi_ladd K d_M_place_242 ?_
      refine z_goto (tgt := 248) K d_M_place_243 (by decide) ?_
      rw [← t0] at fin
      exact z_re [0, 4, 5, 6, 11, 19, 21, 22] rfl fin
set_option maxHeartbeats 4000000 in
set_option maxRecDepth 100000 in
theorem lp_M_place3 (K : zC p s m args c b_M_place R_M 26 b0 G) (T : mT) {pa pb g ls : Int} {n : Nat} (hn : n ≤ 459) (hpa : 0 ≤ pa ∧ pa + n < 25760) (hpb : 0 ≤ pb ∧ pb + n < 25760) (hab : pa + n ≤ pb ∨ pb + n ≤ pa) (hga : dg T.1 pa n) (hgb : dg T.1 pb n)
    (hx : ∀ (C : Int → Int) (cy : Int), cy = 0 ∨ cy = 1 → (∀ q : Int, q < pa ∨ pa + n ≤ q → C q = T.1 q) → dg C pa n → dv C pa n + cy * BS ^ n = dv T.1 pa n + dv T.1 pb n → zW p l e R s m args below meth c 26 b0 G kc ks Q (hm G h a cd (C, T.2)) 394 [(0, .ref a), (4, .int (jI n)), (5, .int (jI pa)), (11, .long (kI g)), (21, .long (kI ls)), (23, .int (jI cy))] []) :
    ∀ (j k : Nat) (C : Int → Int) (cy : Int), k + j = n → cy = 0 ∨ cy = 1 → (∀ q : Int, q < pa ∨ pa + k ≤ q → C q = T.1 q) → dg C pa k → dv C pa k + cy * BS ^ k = dv T.1 pa k + dv T.1 pb k →
      zW p l e R s m args below meth c 26 b0 G kc ks Q (hm G h a cd (C, T.2)) 315 [(0, .ref a), (4, .int (jI n)), (5, .int (jI pa)), (6, .int (jI pb)), (11, .long (kI g)), (21, .long (kI ls)), (23, .int (jI cy)), (24, .int (jI k))] [] := by
  intro j
  induction j with
  | zero =>
    intro k C cy hk hc0 hC hg hD
    refine z_iload K d_M_place_315 rfl ?_
    refine z_iload K d_M_place_317 rfl ?_
    refine zi_icmp_ge (tgt := 394) K d_M_place_319 (by decide) (by omega) (by omega) (fun hc => ?_) (fun hc => absurd hc (by omega))
    have hkn : k = n := by omega
    subst hkn
    exact z_re [0, 4, 5, 11, 21, 23] rfl (hx C cy hc0 hC hg hD)
  | succ j ih =>
    intro k C cy hk hc0 hC hg hD
    have g1 := hga k (by omega)
    have g2 := hgb k (by omega)
    have e1 : C (pa + k) = T.1 (pa + k) := hC _ (by omega)
    have e2 : C (pb + k) = T.1 (pb + k) := hC _ (by omega)
    have J387 : ∀ c1 : Int, (c1 = 0 ∨ c1 = 1) → 0 ≤ T.1 (pa + k) + T.1 (pb + k) + cy - c1 * 1000000000 → T.1 (pa + k) + T.1 (pb + k) + cy - c1 * 1000000000 < 1000000000 → zW p l e R s m args below meth c 26 b0 G kc ks Q (hm G h a cd (C, T.2)) 387 [(0, .ref a), (4, .int (jI n)), (5, .int (jI pa)), (6, .int (jI pb)), (11, .long (kI g)), (21, .long (kI ls)), (23, .int (jI c1)), (24, .int (jI k))] [.int (jI (T.1 (pa + k) + T.1 (pb + k) + cy - c1 * 1000000000)), .int (jI (pa + k)), .ref (a + 1)] := fun c1 hc1 k1 k2 => by
      refine zm_cst K (by omega) d_M_place_387 ?_
      refine zi_iinc K d_M_place_388 rfl (by decide) ?_
      refine z_goto (tgt := 315) K d_M_place_391 (by decide) ?_
      refine z_re [0, 4, 5, 6, 11, 21, 23, 24] rfl ?_
      refine ih (k + 1) _ c1 (by omega) hc1 (fun q hq => ?_) (fun q hq => ?_) ?_
      · dsimp only
        rw [iu_ne _ _ (by omega)]; exact hC q (by omega)
      · dsimp only
        by_cases hqk : q = k
        · subst hqk; rw [iu_self]; exact ⟨k1, k2⟩
        · rw [iu_ne _ _ (by omega)]; exact hg q (by omega)
      · simp only [dv]
        rw [iu_self, dv_iu (fun q hq => by omega), Int.pow_succ]
        have := add_step (d1 := T.1 (pa + k)) (d2 := T.1 (pb + k)) (c1 := c1) hD
        rw [show T.1 (pa + k) + T.1 (pb + k) + cy - c1 * 1000000000 = cy + T.1 (pa + k) + T.1 (pb + k) - c1 * 1000000000 by omega]
        exact this
    refine z_iload K d_M_place_315 rfl ?_
    refine z_iload K d_M_place_317 rfl ?_
    refine zi_icmp_ge (tgt := 394) K d_M_place_319 (by decide) (by omega) (by omega) (fun hc => absurd hc (by omega)) (fun hc => ?_)
    refine z_aload_n K d_M_place_322 rfl ?_
    refine zm_get K fd_M_9 rfl d_M_place_323 ?_
    refine z_iload K d_M_place_326 rfl ?_
    refine z_iload K d_M_place_328 rfl ?_
    refine zi_iadd K d_M_place_330 ?_
    refine zm_cld K (by omega) d_M_place_331 ?_
    try dsimp only
    rw [e1]
    refine z_aload_n K d_M_place_332 rfl ?_
    refine zm_get K fd_M_9 rfl d_M_place_333 ?_
    refine z_iload K d_M_place_336 rfl ?_
    refine z_iload K d_M_place_338 rfl ?_
    refine zi_iadd K d_M_place_340 ?_
    refine zm_cld K (by omega) d_M_place_341 ?_
    try dsimp only
    rw [e2]
    refine zi_iadd K d_M_place_342 ?_
    refine z_iload K d_M_place_343 rfl ?_
    refine zi_iadd K d_M_place_345 ?_
    refine z_istore K d_M_place_346 (by decide) ?_
    refine z_iload K d_M_place_348 rfl ?_
    refine z_ldc (v := jI 1000000000) K d_M_place_350 kc_M_52 ?_
    refine zi_icmp_lt (tgt := 359) K d_M_place_352 (by decide) (by omega) (by omega) (fun hc2 => ?_) (fun hc2 => ?_)
    · refine z_iconst (v := jI 0) K d_M_place_359 rfl ?_
      refine z_istore K d_M_place_360 (by decide) ?_
      refine z_aload_n K d_M_place_362 rfl ?_
      refine zm_get K fd_M_9 rfl d_M_place_363 ?_
      refine z_iload K d_M_place_366 rfl ?_
      refine z_iload K d_M_place_368 rfl ?_
      refine zi_iadd K d_M_place_370 ?_
      refine z_iload K d_M_place_371 rfl ?_
      refine z_iconst (v := jI 1) K d_M_place_373 rfl ?_
      refine zi_icmp_ne (tgt := 385) K d_M_place_374 (by decide) (by omega) (by omega) (fun hc3 => ?_) (fun hc3 => absurd hc3 (by omega))
      refine z_iload K d_M_place_385 rfl ?_
      have := J387 0 (Or.inl rfl) (by omega) (by omega)
      rw [show T.1 (pa + k) + T.1 (pb + k) + cy - 0 * 1000000000 = T.1 (pa + k) + T.1 (pb + k) + cy by omega] at this
      exact z_re [0, 4, 5, 6, 11, 21, 23, 24] rfl this
    · refine z_iconst (v := jI 1) K d_M_place_355 rfl ?_
      refine z_goto (tgt := 360) K d_M_place_356 (by decide) ?_
      refine z_istore K d_M_place_360 (by decide) ?_
      refine z_aload_n K d_M_place_362 rfl ?_
      refine zm_get K fd_M_9 rfl d_M_place_363 ?_
      refine z_iload K d_M_place_366 rfl ?_
      refine z_iload K d_M_place_368 rfl ?_
      refine zi_iadd K d_M_place_370 ?_
      refine z_iload K d_M_place_371 rfl ?_
      refine z_iconst (v := jI 1) K d_M_place_373 rfl ?_
      refine zi_icmp_ne (tgt := 385) K d_M_place_374 (by decide) (by omega) (by omega) (fun hc3 => absurd rfl hc3) (fun hc3 => ?_)
      refine z_iload K d_M_place_377 rfl ?_
      refine z_ldc (v := jI 1000000000) K d_M_place_379 kc_M_52 ?_
      refine zi_isub K d_M_place_381 ?_
      refine z_goto (tgt := 387) K d_M_place_382 (by decide) ?_
      have := J387 1 (Or.inr rfl) (by omega) (by omega)
      rw [show T.1 (pa + k) + T.1 (pb + k) + cy - 1 * 1000000000 = T.1 (pa + k) + T.1 (pb + k) + cy - 1000000000 by omega] at this
      exact z_re [0, 4, 5, 6, 11, 21, 23, 24] rfl this
end M8
