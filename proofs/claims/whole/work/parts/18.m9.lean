theorem pl_zero {D ls Pn R B : Int} (hD0 : 0 ≤ D) (hD1 : D < Pn) (h : D + ls * Pn = R) (hR0 : 0 ≤ R) (hR1 : R < B) (hB : B ≤ Pn) : ls = 0 ∧ D = R := by
  have hP : 0 < Pn := by omega
  have h1 : ls < 1 := mul_lt_cancel hP (by rw [Int.one_mul]; omega)
  have h2 : -1 < ls := mul_lt_cancel hP (by rw [Int.neg_mul, Int.one_mul]; omega)
  have h3 : ls = 0 := by omega
  subst h3
  omega
/-- the highest cells of n + 1 and of n -/
theorem kd_parts1 (f : Int → Int) (pa pb : Int) : dv f pa 2 = 0 + 1 * (f (pa + 1) * 1000000000 + f pa) ∧ dv f pb 1 = 0 + 1 * f pb := by
  constructor
  · simp only [dv]
    rw [show BS ^ 1 = 1000000000 by decide]
    simp
    omega
  · simp [dv]
theorem kd_parts2 (f : Int → Int) (pa pb : Int) (t : Nat) : dv f pa (t + 3) = dv f pa t + BS ^ t * (f (pa + t) + 1000000000 * (f (pa + (t + 2)) * 1000000000 + f (pa + (t + 1)))) ∧ dv f pb (t + 2) = dv f pb t + BS ^ t * (f (pb + t) + 1000000000 * f (pb + (t + 1))) := by
  constructor
  · show dv f pa (((t + 1) + 1) + 1) = _
    simp only [dv]
    rw [show pa + ((t + 1 + 1 : Nat) : Int) = pa + (t + 2) by omega, show pa + ((t + 1 : Nat) : Int) = pa + (t + 1) by omega, Int.pow_succ, Int.pow_succ]
    grind
  · show dv f pb ((t + 1) + 1) = _
    simp only [dv]
    rw [show pb + ((t + 1 : Nat) : Int) = pb + (t + 1) by omega, Int.pow_succ]
    grind
section M9
variable {p : Program} {l : Launch} {e : Env} {R : Room} {s : State} {m : MethodId} {args : Array Value} {below : List Frame} {meth : Method} {c : Code} {Q : State → Prop} {b0 kc ks : Nat} {G : zG} {h : zH} {a : Nat} {cd : Int}
set_option maxHeartbeats 4000000 in
set_option maxRecDepth 100000 in
/-- from the guess to the end -/
theorem t_M_place178 (K : zC p s m args c b_M_place R_M 26 b0 G) (T : mT) {pa pb g W B : Int} {n : Nat} (hn : n ≤ 459) (hpa : 0 ≤ pa ∧ pa + n < 25760) (hpb : 0 ≤ pb ∧ pb + n < 25760) (hab : pa + n < pb ∨ pb + n ≤ pa) (hga : dg T.1 pa (n + 1)) (hgb : dg T.1 pb n) (hW : W = dv T.1 pa (n + 1)) (hB : B = dv T.1 pb n) (hg0 : 0 ≤ g) (hg1 : g < 1000000000) (hq1 : W < (g + 1) * B) (hq2 : (g - 1) * B ≤ W)
    (hx : ∀ (q : Int) (C : Int → Int), 0 ≤ q → q < 1000000000 → dg C pa n → C (pa + n) = 0 → dv C pa n = W - q * B → W - q * B < B → (∀ z : Int, z < pa ∨ pa + n < z → C z = T.1 z) → zW p l e R s m args below meth c 26 b0 G kc ks Q (hm G h a cd (C, T.2)) 418 [] [.int (jI q)]) :
    zW p l e R s m args below meth c 26 b0 G kc ks Q (hm G h a cd T) 178 [(0, .ref a), (4, .int (jI n)), (5, .int (jI pa)), (6, .int (jI pb)), (11, .long (kI g))] [] := by
  have hga2 : dg T.1 pa n := fun k hk => hga k (by omega)
  have gt := hga n (by omega)
  have bB := dv_bd hgb
  rw [← hB] at bB
  have last : ∀ (q : Int) (C : Int → Int) (ls : Int), 0 ≤ q → q < 1000000000 → dg C pa n → dv C pa n + ls * BS ^ n = W - q * B → 0 ≤ W - q * B → W - q * B < B → (∀ z : Int, z < pa ∨ pa + n ≤ z → C z = T.1 z) → zW p l e R s m args below meth c 26 b0 G kc ks Q (hm G h a cd (C, T.2)) 402 [(0, .ref a), (4, .int (jI n)), (5, .int (jI pa)), (11, .long (kI q)), (21, .long (kI ls))] [] := fun q C ls h0 h1 hg hD hR0 hR1 hC => by
    have hb := dv_bd hg
    obtain ⟨l0, l1⟩ := pl_zero hb.1 hb.2 hD hR0 hR1 (by omega)
    subst l0
    refine z_aload_n K d_M_place_402 rfl ?_
    refine zm_get K fd_M_9 rfl d_M_place_403 ?_
    refine z_iload K d_M_place_406 rfl ?_
    refine z_iload K d_M_place_408 rfl ?_
    refine zi_iadd K d_M_place_410 ?_
    refine z_lload K d_M_place_411 rfl ?_
    refine zi_l2i K d_M_place_413 ?_
    refine zm_cst K (by omega) d_M_place_414 ?_
    refine z_lload K d_M_place_415 rfl ?_
    refine zi_l2i K d_M_place_417 ?_
    refine z_re [] rfl (hx q _ h0 h1 (fun k hk => ?_) (iu_self _ _ _) ?_ hR1 (fun z hz => ?_))
    · dsimp only
      rw [iu_ne _ _ (by omega)]; exact hg k hk
    · dsimp only
      rw [dv_iu (fun q hq => by omega), l1]
    · dsimp only
      rw [iu_ne _ _ (by omega)]; exact hC z (by omega)
  refine z_lconst (v := kI 0) K d_M_place_178 rfl ?_
  refine z_lstore K d_M_place_179 (by decide) ?_
  refine z_iconst (v := jI 0) K d_M_place_181 rfl ?_
  refine z_istore K d_M_place_182 (by decide) ?_
  refine z_re [0, 4, 5, 6, 11, 19, 21] rfl ?_
  refine lp_M_place2 K T hn hpa hpb (by omega) ⟨hg0, hg1⟩ hga2 hgb (fun C cy hc0 hc1 hC hg hD => ?_) n 0 T.1 0 (by omega) (by omega) (by omega) (fun q _ => rfl) (fun k hk => absurd hk (by omega)) (by simp [dv])
  have e1 : C (pa + n) = T.1 (pa + n) := hC _ (by omega)
  have hWn : W = dv T.1 pa n + T.1 (pa + n) * BS ^ n := by rw [hW]; rfl
  have hb := dv_bd hg
  have tot : dv C pa n + (T.1 (pa + n) + cy) * BS ^ n = W - g * B := by
    rw [hWn, hB, Int.add_mul]
    omega
  refine z_aload_n K d_M_place_280 rfl ?_
  refine zm_get K fd_M_9 rfl d_M_place_281 ?_
  refine z_iload K d_M_place_284 rfl ?_
  refine z_iload K d_M_place_286 rfl ?_
  refine zi_iadd K d_M_place_288 ?_
  refine zm_cld K (by omega) d_M_place_289 ?_
  try dsimp only
  rw [e1]
  refine zi_i2l K d_M_place_290 (by omega) ?_
  refine z_lload K d_M_place_291 rfl ?_
  refine zi_ladd K d_M_place_293 ?_
  refine z_lstore K d_M_place_294 (by decide) ?_
  refine z_lload K d_M_place_296 rfl ?_
  refine z_lconst (v := kI 0) K d_M_place_298 rfl ?_
  refine zi_lc_ge (tgt := 402) K d_M_place_299 d_M_place_300 (by decide) (by omega) (by omega) (fun hc => ?_) (fun hc => ?_)
  · have := Int.mul_nonneg hc (Int.le_of_lt (BS_pos n))
    rw [Int.add_mul, Int.one_mul] at hq1
    exact z_re [0, 4, 5, 11, 21] rfl (last g C _ hg0 hg1 hg tot (by omega) (by omega) hC)
  · have hneg : (T.1 (pa + n) + cy) * BS ^ n ≤ -1 * BS ^ n := Int.mul_le_mul_of_nonneg_right (by omega) (Int.le_of_lt (BS_pos n))
    have e3 : (g - 1) * B = g * B - B := by grind
    have hg2 : 1 ≤ g := by
      by_cases q : 1 ≤ g
      · exact q
      · have : g = 0 := by omega
        subst this
        have : 0 ≤ W := by rw [hW]; exact (dv_bd hga).1
        omega
    refine z_lload K d_M_place_303 rfl ?_
    refine z_lconst (v := kI 1) K d_M_place_305 rfl ?_
    refine zi_lsub K d_M_place_306 ?_
    refine z_lstore K d_M_place_307 (by decide) ?_
    refine z_iconst (v := jI 0) K d_M_place_309 rfl ?_
    refine z_istore K d_M_place_310 (by decide) ?_
    refine z_iconst (v := jI 0) K d_M_place_312 rfl ?_
    refine z_istore K d_M_place_313 (by decide) ?_
    refine z_re [0, 4, 5, 6, 11, 21, 23, 24] rfl ?_
    refine lp_M_place3 K (C, T.2) hn hpa hpb (by omega) hg (fun k hk => by dsimp only; rw [hC _ (by omega)]; exact hgb k hk) (fun C2 c2 k0 k1 k2 k3 => ?_) n 0 C 0 (by omega) (Or.inl rfl) (fun q _ => rfl) (fun k hk => absurd hk (by omega)) (by simp [dv])
    dsimp only at k1 k3
    rw [dv_congr (g := T.1) (c := pb) (n := n) (f := C) (fun k hk => hC _ (by omega)), ← hB] at k3
    refine z_lload K d_M_place_394 rfl ?_
    refine z_iload K d_M_place_396 rfl ?_
    refine zi_i2l K d_M_place_398 (by omega) ?_
    refine zi_ladd K d_M_place_399 ?_
    refine z_lstore K d_M_place_400 (by decide) ?_
    refine z_re [0, 4, 5, 11, 21] rfl ?_
    refine last (g - 1) C2 _ (by omega) (by omega) k2 ?_ (by omega) (by omega) (fun z hz => by rw [k1 z hz]; exact hC z hz)
    rw [Int.add_mul]
    omega
set_option maxHeartbeats 4000000 in
set_option maxRecDepth 100000 in
/-- place(x, y, j, n): one cell of the quotient; the cells from j on of x become the rest -/
theorem c_M_place (l : Launch) (G : zG) (b0 : Nat) (h : zH) (a : Nat) (cd : Int) (T : mT) {x y W B : Int} {j n : Nat} (hx0 : 0 ≤ x ∧ x < 56) (hy0 : 0 ≤ y ∧ y < 56) (hxy : x ≠ y) (hn : 1 ≤ n) (hjn : j + n ≤ 459) (hga : dg T.1 (460 * x + j) (n + 1)) (hgb : dg T.1 (460 * y) n) (hW : W = dv T.1 (460 * x + j) (n + 1)) (hB : B = dv T.1 (460 * y) n) (hl : 500000000 ≤ T.1 (460 * y + (n - 1))) (hWB : W < 1000000000 * B) :
    mMet l G b0 y_M_place b_M_place 26 (some .int) 0 0 h a cd [.int (jI x), .int (jI y), .int (jI j), .int (jI n)] T (fun o T' => ∃ (q : Int) (C : Int → Int), o = some (.int (jI q)) ∧ T' = (C, T.2) ∧ 0 ≤ q ∧ q < 1000000000 ∧ dg C (460 * x + j) n ∧ C (460 * x + j + n) = 0 ∧ dv C (460 * x + j) n = W - q * B ∧ W - q * B < B ∧ ∀ z : Int, z < 460 * x + j ∨ 460 * x + j + n < z → C z = T.1 z) :=
  z_met (by decide) (Nat.le_of_ble_eq_true rfl) fun p e s m below meth c K hr hlk hnm => by
  have d1 := hga n (by omega)
  have d2 := hga (n - 1) (by omega)
  rw [show 460 * x + (j : Int) + ((n - 1 : Nat) : Int) = 460 * x + j + n - 1 by omega] at d2
  have d3 := hgb (n - 1) (by omega)
  rw [show 460 * y + ((n - 1 : Nat) : Int) = 460 * y + n - 1 by omega] at d3
  rw [show 460 * y + ((n : Int) - 1) = 460 * y + n - 1 by omega] at hl
  have bW := (dv_bd hga).1
  rw [← hW] at bW
  have bB := (dv_bd hgb).1
  rw [← hB] at bB
  have bB2 : 0 < B := by omega
  have fin : ∀ g : Int, 0 ≤ g → g < 1000000000 → W < (g + 1) * B → (g - 1) * B ≤ W → zW p l e (zRm 0 0 0 0) s m ([.ref a, .int (jI x), .int (jI y), .int (jI j), .int (jI n)] : List Value).toArray below meth c 26 b0 G 0 0 (MQ below (zQ G b0 (fun r_1 h' => ∃ T' : mT, h' = hm G h a cd T' ∧ ∃ (q : Int) (C : Int → Int), r_1 = some (.int (jI q)) ∧ T' = (C, T.2) ∧ 0 ≤ q ∧ q < 1000000000 ∧ dg C (460 * x + j) n ∧ C (460 * x + j + n) = 0 ∧ dv C (460 * x + j) n = W - q * B ∧ W - q * B < B ∧ ∀ z : Int, z < 460 * x + j ∨ 460 * x + j + n < z → C z = T.1 z)) ([.ref a, .int (jI x), .int (jI y), .int (jI j), .int (jI n)] : List Value).toArray s 0 0 (z_A b0)) (hm G h a cd T) 178 [(0, .ref a), (4, .int (jI n)), (5, .int (jI (460 * x + j))), (6, .int (jI (460 * y))), (11, .long (kI g))] [] := fun g h0 h1 h2 h3 =>
    t_M_place178 K T (by omega) (by omega) (by omega) (by omega) hga hgb hW hB h0 h1 h2 h3 (fun q C k0 k1 k2 k3 k4 k5 k6 => z_iret K hr hlk d_M_place_418 ⟨_, rfl, q, C, rfl, rfl, k0, k1, k2, k3, k4, k5, k6⟩)
  refine z_sipush (v := jI 460) K d_M_place_0 rfl ?_
  refine z_iload_n K d_M_place_3 rfl ?_
  refine zi_imul K d_M_place_4 ?_
  refine z_iload_n K d_M_place_5 rfl ?_
  refine zi_iadd K d_M_place_6 ?_
  refine z_istore K d_M_place_7 (by decide) ?_
  refine z_sipush (v := jI 460) K d_M_place_9 rfl ?_
  refine z_iload_n K d_M_place_12 rfl ?_
  refine zi_imul K d_M_place_13 ?_
  refine z_istore K d_M_place_14 (by decide) ?_
  refine z_aload_n K d_M_place_16 rfl ?_
  refine zm_get K fd_M_9 rfl d_M_place_17 ?_
  refine z_iload K d_M_place_20 rfl ?_
  refine z_iload K d_M_place_22 rfl ?_
  refine zi_iadd K d_M_place_24 ?_
  refine zm_cld K (by omega) d_M_place_25 ?_
  refine zi_i2l K d_M_place_26 (by omega) ?_
  refine z_ldc2 (v := kI 1000000000) K d_M_place_27 kc_M_34 ?_
  refine zi_lmul K d_M_place_30 ?_
  refine z_aload_n K d_M_place_31 rfl ?_
  refine zm_get K fd_M_9 rfl d_M_place_32 ?_
  refine z_iload K d_M_place_35 rfl ?_
  refine z_iload K d_M_place_37 rfl ?_
  refine zi_iadd K d_M_place_39 ?_
  refine z_iconst (v := jI 1) K d_M_place_40 rfl ?_
  refine zi_isub K d_M_place_41 ?_
  refine zm_cld K (by omega) d_M_place_42 ?_
  refine zi_i2l K d_M_place_43 (by omega) ?_
  refine zi_ladd K d_M_place_44 ?_
  refine z_lstore K d_M_place_45 (by decide) ?_
  refine z_aload_n K d_M_place_47 rfl ?_
  refine zm_get K fd_M_9 rfl d_M_place_48 ?_
  refine z_iload K d_M_place_51 rfl ?_
  refine z_iload K d_M_place_53 rfl ?_
  refine zi_iadd K d_M_place_55 ?_
  refine z_iconst (v := jI 1) K d_M_place_56 rfl ?_
  refine zi_isub K d_M_place_57 ?_
  refine zm_cld K (by omega) d_M_place_58 ?_
  refine zi_i2l K d_M_place_59 (by omega) ?_
  obtain ⟨two, h2⟩ : ∃ z : Int, z = T.1 (460 * x + j + n) * 1000000000 + T.1 (460 * x + j + n - 1) := ⟨_, rfl⟩
  obtain ⟨lead, hle⟩ : ∃ z : Int, z = T.1 (460 * y + n - 1) := ⟨_, rfl⟩
  rw [← h2, ← hle]
  rw [← hle] at hl d3
  have h20 : 0 ≤ two := by omega
  refine z_lstore K d_M_place_60 (by decide) ?_
  refine z_lload K d_M_place_62 rfl ?_
  refine z_lload K d_M_place_64 rfl ?_
  refine zi_ldiv K d_M_place_66 (by omega) (by omega) (by omega) ?_
  refine z_lstore K d_M_place_67 (by decide) ?_
  refine z_lload K d_M_place_69 rfl ?_
  refine z_lload K d_M_place_71 rfl ?_
  refine zi_lrem K d_M_place_73 (by omega) (by omega) (by omega) ?_
  refine z_lstore K d_M_place_74 (by decide) ?_
  refine z_iload K d_M_place_76 rfl ?_
  refine z_iconst (v := jI 1) K d_M_place_78 rfl ?_
  rw [tdiv_pos (by omega), tmod_pos (by omega)]
  have r0 := Int.emod_nonneg two (show lead ≠ 0 by omega)
  have r1 := Int.emod_lt_of_pos two (show 0 < lead by omega)
  have r2 := Int.mul_ediv_add_emod two lead
  have r3 : 0 ≤ two / lead := Int.ediv_nonneg (by omega) (by omega)
  refine zi_icmp_le (tgt := 98) K d_M_place_79 (by decide) (by omega) (by omega) (fun hc => ?_) (fun hc => ?_)
  · have hn1 : n = 1 := by omega
    subst hn1
    obtain ⟨w1, w2⟩ := kd_parts1 T.1 (460 * x + j) (460 * y)
    rw [← hW] at w1
    rw [← hB] at w2
    simp only [Int.natCast_one] at h2 hle ⊢
    rw [show 460 * x + (j : Int) + 1 - 1 = 460 * x + j by omega] at h2
    rw [show 460 * y + (1 : Int) - 1 = 460 * y by omega] at hle
    rw [← h2] at w1
    rw [← hle] at w2
    refine z_lconst (v := kI 0) K d_M_place_98 rfl ?_
    refine z_lstore K d_M_place_99 (by decide) ?_
    refine z_iload K d_M_place_101 rfl ?_
    refine z_iconst (v := jI 1) K d_M_place_103 rfl ?_
    refine zi_icmp_le (tgt := 123) K d_M_place_104 (by decide) (by omega) (by omega) (fun hc => ?_) (fun hc => absurd hc (by omega))
    refine z_lconst (v := kI 0) K d_M_place_123 rfl ?_
    refine z_lstore K d_M_place_124 (by decide) ?_
    refine z_re [0, 1, 2, 3, 4, 5, 6, 7, 9, 11, 13, 15, 17] rfl ?_
    have w3 : two < 1000000000 * (lead + 1) := by omega
    exact lp_M_place1 K T bB2 bW hWB ⟨hl, d3.2⟩ (by omega) w3 ⟨by omega, by omega⟩ ⟨by omega, by omega⟩ (fun g r q0 q1 q2 q3 => absurd q3 (by omega))
      (fun g r q0 q1 q2 q3 q4 => by
        have : (g - 1) * lead = g * lead - lead := by grind
        rw [w1, w2, Int.zero_add, Int.one_mul, Int.zero_add, Int.one_mul, this]
        omega)
      (fun g q0 q1 q2 q3 => fin g q0 q1 q2 q3) 1000000002 (two / lead) (two % lead) (by have := Int.ediv_lt_of_lt_mul (a := two) (b := 1000000002) (c := lead) (by omega) (by omega); omega) r3 (by have := Int.ediv_lt_of_lt_mul (a := two) (b := 1000000002) (c := lead) (by omega) (by omega); omega) (by rw [Int.mul_comm]; omega) r0 (by omega)
      (kd_first (P := 1) (Wl := 0) (Bl := 0) (by decide) w1 (by decide) w2 (by decide) (by omega) (by omega))
  · obtain ⟨t, rfl⟩ : ∃ t, n = t + 2 := ⟨n - 2, by omega⟩
    have d4 := hga t (by omega)
    have d5 := hgb t (by omega)
    have ex : 460 * x + (j : Int) + ((t + 2 : Nat) : Int) - 2 = 460 * x + j + t := by omega
    have ey : 460 * y + ((t + 2 : Nat) : Int) - 2 = 460 * y + t := by omega
    obtain ⟨w1, w2⟩ := kd_parts2 T.1 (460 * x + j) (460 * y) t
    rw [← hW] at w1
    rw [← hB] at w2
    rw [show 460 * x + (j : Int) + ((t + 2 : Nat) : Int) = 460 * x + j + (t + 2) by omega, show 460 * x + (j : Int) + (t + 2) - 1 = 460 * x + j + (t + 1) by omega] at h2
    rw [show 460 * y + ((t + 2 : Nat) : Int) - 1 = 460 * y + (t + 1) by omega] at hle
    rw [← h2] at w1
    rw [← hle] at w2
    have hP := BS_pos t
    have b1 := dv_bd (f := T.1) (b := 460 * x + j) (n := t) (fun k hk => hga k (by omega))
    have b2 := dv_bd (f := T.1) (b := 460 * y) (n := t) (fun k hk => hgb k (by omega))
    have w3 : two < 1000000000 * (lead + 1) := by
      have p1 : BS ^ t * (1000000000 * two) ≤ W := by
        have := Int.mul_nonneg (Int.le_of_lt hP) d4.1
        rw [w1, Int.mul_add]
        omega
      have p2 : B < BS ^ t * (1000000000 * (lead + 1)) := by
        have : BS ^ t * (T.1 (460 * y + t) + 1000000000 * lead + 1) ≤ BS ^ t * (1000000000 * (lead + 1)) := Int.mul_le_mul_of_nonneg_left (by omega) (Int.le_of_lt hP)
        rw [Int.mul_add _ _ 1, Int.mul_one] at this
        omega
      have p3 : (1000000000 * two) * BS ^ t < (1000000000 * (1000000000 * (lead + 1))) * BS ^ t := by
        rw [Int.mul_comm _ (BS ^ t), Int.mul_assoc, Int.mul_comm _ (BS ^ t)]
        omega
      have := mul_lt_cancel hP p3
      omega
    refine z_aload_n K d_M_place_82 rfl ?_
    refine zm_get K fd_M_9 rfl d_M_place_83 ?_
    refine z_iload K d_M_place_86 rfl ?_
    refine z_iload K d_M_place_88 rfl ?_
    refine zi_iadd K d_M_place_90 ?_
    refine z_iconst (v := jI 2) K d_M_place_91 rfl ?_
    refine zi_isub K d_M_place_92 ?_
    refine zm_cld K (by omega) d_M_place_93 ?_
    rw [ey]
    refine zi_i2l K d_M_place_94 (by omega) ?_
    refine z_goto (tgt := 99) K d_M_place_95 (by decide) ?_
    refine z_lstore K d_M_place_99 (by decide) ?_
    refine z_iload K d_M_place_101 rfl ?_
    refine z_iconst (v := jI 1) K d_M_place_103 rfl ?_
    refine zi_icmp_le (tgt := 123) K d_M_place_104 (by decide) (by omega) (by omega) (fun hc => absurd hc (by omega)) (fun hc => ?_)
    refine z_aload_n K d_M_place_107 rfl ?_
    refine zm_get K fd_M_9 rfl d_M_place_108 ?_
    refine z_iload K d_M_place_111 rfl ?_
    refine z_iload K d_M_place_113 rfl ?_
    refine zi_iadd K d_M_place_115 ?_
    refine z_iconst (v := jI 2) K d_M_place_116 rfl ?_
    refine zi_isub K d_M_place_117 ?_
    refine zm_cld K (by omega) d_M_place_118 ?_
    rw [ex]
    refine zi_i2l K d_M_place_119 (by omega) ?_
    refine z_goto (tgt := 124) K d_M_place_120 (by decide) ?_
    refine z_lstore K d_M_place_124 (by decide) ?_
    refine z_re [0, 1, 2, 3, 4, 5, 6, 7, 9, 11, 13, 15, 17] rfl ?_
    have f1 : W < (two / lead + 1) * B := by
      refine kd_first (P := BS ^ t * 1000000000) (Wl := dv T.1 (460 * x + j) t + BS ^ t * T.1 (460 * x + j + t)) (Bl := dv T.1 (460 * y) t + BS ^ t * T.1 (460 * y + t)) (by omega) (by rw [w1]; grind) ?_ (by rw [w2]; grind) ?_ (by omega) (by omega)
      · have : BS ^ t * (T.1 (460 * x + j + t) + 1) ≤ BS ^ t * 1000000000 := Int.mul_le_mul_of_nonneg_left (by omega) (Int.le_of_lt hP)
        rw [Int.mul_add, Int.mul_one] at this
        omega
      · have := Int.mul_nonneg (Int.le_of_lt hP) d5.1
        omega
    exact lp_M_place1 K T bB2 bW hWB ⟨hl, d3.2⟩ (by omega) w3 d5 d4 (fun g r q0 q1 q2 q3 => kd_dec hP w1 b1.2 w2 b2.1 q0 q2 q3)
      (fun g r q0 q1 q2 q3 q4 => kd_exit bW bB hP w1 b1.1 w2 b2.2 d5.1 d5.2 d4.1 (by omega) q0 q2 q3 q4)
      (fun g q0 q1 q2 q3 => fin g q0 q1 q2 q3) 1000000002 (two / lead) (two % lead) (by have := Int.ediv_lt_of_lt_mul (a := two) (b := 1000000002) (c := lead) (by omega) (by omega); omega) r3 (by have := Int.ediv_lt_of_lt_mul (a := two) (b := 1000000002) (c := lead) (by omega) (by omega); omega) (by rw [Int.mul_comm]; omega) r0 (by omega) f1
end M9
