/-- with a large lead, the first guess is too large by two at most -/
theorem kd_norm {W B P two lead Wl Bl : Int} (hP : 0 < P) (hW : W = Wl + P * two) (hWl : 0 ≤ Wl) (hB : B = Bl + P * lead) (hBl0 : 0 ≤ Bl) (hBl : Bl < P) (hl : 500000000 ≤ lead) (h2 : 0 ≤ two) (h2b : two < 1000000000 * (lead + 1)) : (two / lead - 2) * B ≤ W := by
  have h4 : 0 ≤ two / lead := Int.ediv_nonneg h2 (by omega)
  have h5 : two / lead * lead ≤ two := Int.ediv_mul_le two (by omega)
  have h6 : two / lead ≤ 1000000002 := by
    have : two / lead < 1000000003 := Int.ediv_lt_of_lt_mul (by omega) (by omega)
    omega
  generalize two / lead = g at *
  have hB0 : 0 ≤ B := by have := Int.mul_nonneg (Int.le_of_lt hP) (show 0 ≤ lead by omega); omega
  rcases Int.lt_or_le g 2 with h | h
  · have : (g - 2) * B ≤ 0 * B := Int.mul_le_mul_of_nonneg_right (by omega) hB0
    rw [Int.zero_mul] at this
    have := Int.mul_nonneg (Int.le_of_lt hP) h2
    omega
  · have e1 : (g - 2) * B ≤ (g - 2) * (P * (lead + 1)) := Int.mul_le_mul_of_nonneg_left (by rw [hB, Int.mul_add, Int.mul_one]; omega) (by omega)
    have e2 : (g - 2) * (P * (lead + 1)) = P * (g * lead + g - 2 * lead - 2) := by grind
    have e3 : P * (g * lead + g - 2 * lead - 2) ≤ P * two := Int.mul_le_mul_of_nonneg_left (by omega) (by omega)
    omega
section R7
variable {p : Program} {l : Launch} {e : Env} {R : Room} {s : State} {m : MethodId} {args : Array Value} {below : List Frame} {meth : Method} {c : Code} {Q : State → Prop} {b0 kc ks : Nat} {G : zG} {h : zH} {a : Nat} {cd : Int}
set_option maxHeartbeats 4000000 in
set_option maxRecDepth 100000 in
theorem lp_R_guessLimb (K : zC p s m args c b_R_guessLimb R_R 16 b0 G) {S : xS} {W B two lead second third g0 : Int} (hB : 0 < B) (hW : 0 ≤ W) (hWB : W < 1000000000 * B) (hl : 500000000 ≤ lead ∧ lead < 1000000000) (h2 : 0 ≤ two) (h2b : two < 1000000000 * (lead + 1)) (hs : 0 ≤ second ∧ second < 1000000000) (h3 : 0 ≤ third ∧ third < 1000000000) (hg0 : 0 ≤ g0 ∧ g0 ≤ 1000000002) (hfar : (g0 - 2) * B ≤ W)
    (hdec : ∀ g r : Int, 0 ≤ g → 0 ≤ r → two = g * lead + r → r * 1000000000 + third < g * second → W < g * B) (hex : ∀ g r : Int, 0 ≤ g → 0 ≤ r → g < 1000000000 → two = g * lead + r → 1000000000 ≤ r ∨ g * second ≤ r * 1000000000 + third → (g - 1) * B ≤ W)
    (kx : ∀ g : Int, 0 ≤ g → g < 1000000000 → W < (g + 1) * B → (g - 1) * B ≤ W → zW p l e R s m args below meth c 16 b0 G kc ks Q (hx G h a S) 186 [(11, .long (kI g))] []) :
    ∀ (N t : Nat) (g r : Int), t + N = 3 → g + t = g0 → two = g * lead + r → 0 ≤ r → r < 1000000000 + lead → W < (g + 1) * B →
      zW p l e R s m args below meth c 16 b0 G kc ks Q (hx G h a S) 123 [(3, .long (kI lead)), (5, .long (kI second)), (7, .long (kI third)), (11, .long (kI g)), (13, .long (kI r)), (15, .int (jI t))] [] := by
  intro N
  have g_nn : ∀ g : Int, W < (g + 1) * B → 0 ≤ g := fun g hq => by
    rcases Int.lt_or_le g 0 with q | q
    · have : (g + 1) * B ≤ 0 * B := Int.mul_le_mul_of_nonneg_right (by omega) (by omega)
      rw [Int.zero_mul] at this
      omega
    · exact q
  induction N with
  | zero =>
    intro t g r ht hg hgr hr0 hr1 hq
    exfalso
    have : (g + 1) * B ≤ (g0 - 2) * B := Int.mul_le_mul_of_nonneg_right (by omega) (by omega)
    omega
  | succ N ih =>
    intro t g r ht hg hgr hr0 hr1 hq
    have h0 := g_nn g hq
    have e1 : (g - 1) * lead = g * lead - lead := by grind
    have dec : W < g * B → r < 1000000000 → zW p l e R s m args below meth c 16 b0 G kc ks Q (hx G h a S) 168 [(3, .long (kI lead)), (5, .long (kI second)), (7, .long (kI third)), (11, .long (kI g)), (13, .long (kI r)), (15, .int (jI t))] [] := fun hd1 hd2 => by
      refine z_lload K d_R_guessLimb_168 rfl ?_
      refine z_lconst (v := kI 1) K d_R_guessLimb_170 rfl ?_
      refine zi_lsub K d_R_guessLimb_171 ?_
      refine z_lstore K d_R_guessLimb_172 (by decide) ?_
      refine z_lload K d_R_guessLimb_174 rfl ?_
      refine z_lload_n K d_R_guessLimb_176 rfl ?_
      refine zi_ladd K d_R_guessLimb_177 ?_
      refine z_lstore K d_R_guessLimb_178 (by decide) ?_
      refine zi_iinc K d_R_guessLimb_180 rfl (by decide) ?_
      refine z_goto (tgt := 123) K d_R_guessLimb_183 (by decide) ?_
      refine z_re [3, 5, 7, 11, 13, 15] rfl ?_
      exact ih (t + 1) (g - 1) (r + lead) (by omega) (by omega) (by omega) (by omega) (by omega) (by rw [Int.sub_add_cancel]; exact hd1)
    have gB : 1000000000 ≤ r → g < 1000000000 := fun q => by
      rcases Int.lt_or_le g 1000000000 with q2 | q2
      · exact q2
      · have := Int.mul_le_mul_of_nonneg_right q2 (show 0 ≤ lead by omega)
        omega
    refine z_iload K d_R_guessLimb_123 rfl ?_
    refine z_iconst (v := jI 3) K d_R_guessLimb_125 rfl ?_
    refine zi_icmp_ge (tgt := 186) K d_R_guessLimb_126 (by decide) (by omega) (by omega) (fun hc => absurd hc (by omega)) (fun hc => ?_)
    refine z_lload K d_R_guessLimb_129 rfl ?_
    refine z_ldc2 (v := kI 1000000000) K d_R_guessLimb_131 kc_R_78 ?_
    refine zi_lc_ge (tgt := 186) K d_R_guessLimb_134 d_R_guessLimb_135 (by decide) (by omega) (by omega) (fun hc2 => ?_) (fun hc2 => ?_)
    · exact z_re [11] rfl (kx g h0 (gB hc2) hq (hex g r h0 hr0 (gB hc2) hgr (Or.inl hc2)))
    refine z_lload K d_R_guessLimb_138 rfl ?_
    refine z_ldc2 (v := kI 1000000000) K d_R_guessLimb_140 kc_R_78 ?_
    refine zi_lc_ge (tgt := 168) K d_R_guessLimb_143 d_R_guessLimb_144 (by decide) (by omega) (by omega) (fun hc3 => ?_) (fun hc3 => ?_)
    · refine dec ?_ hc2
      have := Int.mul_le_mul_of_nonneg_right hc3 (Int.le_of_lt hB)
      omega
    · have hm1 : g * second ≤ g * 999999999 := Int.mul_le_mul_of_nonneg_left (by omega) h0
      have hm2 := Int.mul_nonneg h0 hs.1
      refine z_lload K d_R_guessLimb_147 rfl ?_
      refine z_lload K d_R_guessLimb_149 rfl ?_
      refine zi_lmul K d_R_guessLimb_151 ?_
      refine z_lload K d_R_guessLimb_152 rfl ?_
      refine z_ldc2 (v := kI 1000000000) K d_R_guessLimb_154 kc_R_78 ?_
      refine zi_lmul K d_R_guessLimb_157 ?_
      refine z_lload K d_R_guessLimb_158 rfl ?_
      refine zi_ladd K d_R_guessLimb_160 ?_
      refine zi_lc_gt (tgt := 168) K d_R_guessLimb_161 d_R_guessLimb_162 (by decide) (by omega) (by omega) (fun hc4 => ?_) (fun hc4 => ?_)
      · exact dec (hdec g r h0 hr0 hgr hc4) hc2
      · refine z_goto (tgt := 186) K d_R_guessLimb_165 (by decide) ?_
        exact z_re [11] rfl (kx g h0 hc3 hq (hex g r h0 hr0 hc3 hgr (Or.inr hc4)))
set_option maxHeartbeats 4000000 in
set_option maxRecDepth 100000 in
theorem c_R_guessLimb (l : Launch) (G : zG) (b0 : Nat) (h : zH) (a : Nat) (S : xS) {fr n : Nat} (hn : 1 ≤ n) (hfn : fr + n ≤ 112) (hu : dg S.r1 fr (n + 1)) (hlo : dg S.r2 0 n) (hl : 500000000 ≤ S.r2 ((n : Int) - 1)) (hWB : dv S.r1 fr (n + 1) < 1000000000 * dv S.r2 0 n) : xMet l G b0 y_R_guessLimb b_R_guessLimb 16 (some .long) 0 0 h a [.ref (a + 1), .int (jI ((fr + n : Nat) : Int)), .int (jI n)] S (fun r S' => S = S' ∧ ∃ g : Int, r = some (.long (kI g)) ∧ 0 ≤ g ∧ g < 1000000000 ∧ dv S.r1 fr (n + 1) < (g + 1) * dv S.r2 0 n ∧ (g - 1) * dv S.r2 0 n ≤ dv S.r1 fr (n + 1)) :=
  z_met (by decide) (Nat.le_of_ble_eq_true rfl) fun p e s m below meth c K hr hlk hnm => by
  have hWd := dv_bd (f := S.r1) (b := fr) hu
  have hBd := dv_bd (f := S.r2) (b := 0) hlo
  have u0 := hu n (by omega)
  have u1 := hu (n - 1) (by omega)
  have w1 := hlo (n - 1) (by omega)
  rw [show (fr : Int) + ((n - 1 : Nat) : Int) = (fr : Int) + n - 1 by omega] at u1
  rw [show (0 : Int) + ((n - 1 : Nat) : Int) = (n : Int) - 1 by omega] at w1
  obtain ⟨W, hW⟩ : ∃ W : Int, W = dv S.r1 fr (n + 1) := ⟨_, rfl⟩
  obtain ⟨B, hB⟩ : ∃ B : Int, B = dv S.r2 0 n := ⟨_, rfl⟩
  obtain ⟨two, h2⟩ : ∃ z : Int, z = S.r1 ((fr : Int) + n) * 1000000000 + S.r1 ((fr : Int) + n - 1) := ⟨_, rfl⟩
  obtain ⟨lead, hle⟩ : ∃ z : Int, z = S.r2 ((n : Int) - 1) := ⟨_, rfl⟩
  rw [← hW, ← hB] at hWB ⊢
  rw [← hW] at hWd
  rw [← hB] at hBd
  rw [← hle] at hl w1
  have two_bd : 0 ≤ two ∧ two < 1000000000000000000 := by omega
  have q0 : 0 ≤ two / lead := Int.ediv_nonneg two_bd.1 (by omega)
  have q1 := Int.mul_ediv_add_emod two lead
  have q2 := Int.emod_nonneg two (show lead ≠ 0 by omega)
  have q3 := Int.emod_lt_of_pos two (show 0 < lead by omega)
  -- what the two cases of n give
  have key : ∃ second third : Int, (0 ≤ second ∧ second < 1000000000) ∧ (0 ≤ third ∧ third < 1000000000) ∧ (if n ≤ 1 then second = 0 ∧ third = 0 else second = S.r2 ((n : Int) - 2) ∧ third = S.r1 ((fr : Int) + n - 2)) ∧ 0 < B ∧ two < 1000000000 * (lead + 1) ∧ W < (two / lead + 1) * B ∧ (two / lead - 2) * B ≤ W ∧ (∀ g r : Int, 0 ≤ g → 0 ≤ r → two = g * lead + r → r * 1000000000 + third < g * second → W < g * B) ∧ (∀ g r : Int, 0 ≤ g → 0 ≤ r → g < 1000000000 → two = g * lead + r → 1000000000 ≤ r ∨ g * second ≤ r * 1000000000 + third → (g - 1) * B ≤ W) := by
    by_cases h1 : n ≤ 1
    · have e : n = 1 := by omega
      subst e
      have eW : W = 0 + 1 * two := by
        rw [hW, (kd_parts1 S.r1 fr 0).1, h2]
        rw [show (fr : Int) + ((1 : Nat) : Int) = (fr : Int) + 1 by omega, show (fr : Int) + 1 - 1 = fr by omega]
      have eB : B = 0 + 1 * lead := by
        rw [hB, (kd_parts1 S.r2 0 0).2, hle]
        rfl
      have h2b : two < 1000000000 * (lead + 1) := by omega
      refine ⟨0, 0, by omega, by omega, by rw [if_pos h1]; exact ⟨rfl, rfl⟩, by omega, h2b, kd_first (Wl := 0) (Bl := 0) (P := 1) (by decide) eW (by decide) eB (by decide) (by omega) two_bd.1, kd_norm (P := 1) (by decide) eW (by omega) eB (by omega) (by decide) hl two_bd.1 h2b, fun g r _ hr0 _ hh => ?_, fun g r g0 hr0 _ hr hh => ?_⟩
      · exfalso; rw [Int.mul_zero] at hh; omega
      · rw [eW, eB]
        have e1 : (g - 1) * (0 + 1 * lead) = g * lead - lead := by grind
        omega
    · obtain ⟨t, rfl⟩ : ∃ t, n = t + 2 := ⟨n - 2, by omega⟩
      have hP := BS_pos t
      have pW := (kd_parts2 S.r1 fr 0 t).1
      have pB := (kd_parts2 S.r2 0 0 t).2
      have bW := dv_bd (f := S.r1) (b := fr) (n := t) (fun i hi => hu i (by omega))
      have bB := dv_bd (f := S.r2) (b := 0) (n := t) (fun i hi => hlo i (by omega))
      have u2 := hu t (by omega)
      have w2 := hlo t (by omega)
      have eW : W = dv S.r1 fr t + BS ^ t * (S.r1 ((fr : Int) + t) + 1000000000 * two) := by
        rw [hW, pW, h2]
        rw [show (fr : Int) + ((t + 2 : Nat) : Int) = (fr : Int) + (t + 2) by omega, show (fr : Int) + (t + 2) - 1 = (fr : Int) + (t + 1) by omega]
      have eB : B = dv S.r2 0 t + BS ^ t * (S.r2 (0 + t) + 1000000000 * lead) := by
        rw [hB, pB, hle]
        rw [show ((t + 2 : Nat) : Int) - 1 = 0 + ((t : Int) + 1) by omega]
      have eW' : W = (dv S.r1 fr t + BS ^ t * S.r1 ((fr : Int) + t)) + BS ^ t * 1000000000 * two := by rw [eW]; grind
      have eB' : B = (dv S.r2 0 t + BS ^ t * S.r2 (0 + t)) + BS ^ t * 1000000000 * lead := by rw [eB]; grind
      have m1 := Int.mul_le_mul_of_nonneg_left (show S.r1 ((fr : Int) + t) ≤ 999999999 by omega) (Int.le_of_lt hP)
      have m2 := Int.mul_le_mul_of_nonneg_left (show S.r2 (0 + (t : Int)) ≤ 999999999 by omega) (Int.le_of_lt hP)
      have m3 := Int.mul_nonneg (Int.le_of_lt hP) u2.1
      have m4 := Int.mul_nonneg (Int.le_of_lt hP) w2.1
      have hP9 : 0 < BS ^ t * 1000000000 := by omega
      have Bp : 0 < B := by
        have := Int.mul_pos hP9 (show 0 < lead by omega)
        omega
      have h2b : two < 1000000000 * (lead + 1) := by
        have a1 : BS ^ t * 1000000000 * two < BS ^ t * 1000000000 * (1000000000 * (lead + 1)) := by
          have a2 : 1000000000 * B < BS ^ t * 1000000000 * (1000000000 * (lead + 1)) := by
            have a3 : BS ^ t * 1000000000 * (1000000000 * (lead + 1)) = 1000000000 * (BS ^ t * 1000000000 + BS ^ t * 1000000000 * lead) := by grind
            omega
          omega
        exact Int.lt_of_mul_lt_mul_left a1 (Int.le_of_lt hP9)
      refine ⟨S.r2 (0 + t), S.r1 ((fr : Int) + t), w2, u2, ?_, Bp, h2b, kd_first hP9 eW' (by omega) eB' (by omega) (by omega) two_bd.1, kd_norm hP9 eW' (by omega) eB' (by omega) (by omega) hl two_bd.1 h2b, fun g r hg0 hr0 hr hh => kd_dec hP eW bW.2 eB bB.1 hg0 hr hh, fun g r hg0 hr0 hg2 hr hh => kd_exit hWd.1 (Int.le_of_lt Bp) hP eW bW.1 eB bB.2 w2.1 w2.2 u2.1 (by omega) hg0 hg2 hr hh⟩
      rw [if_neg h1]
      exact ⟨by rw [show ((t + 2 : Nat) : Int) - 2 = 0 + (t : Int) by omega], by rw [show (fr : Int) + ((t + 2 : Nat) : Int) - 2 = (fr : Int) + t by omega]⟩
  obtain ⟨second, third, s2, s3, sd, Bp, h2b, kf, kn, kd, ke⟩ := key
  have g6 : two / lead ≤ 1000000002 := by
    have : two / lead < 1000000003 := Int.ediv_lt_of_lt_mul (by omega) (by omega)
    omega
  -- the walk
  refine z_iload_n K d_R_guessLimb_0 rfl ?_
  refine z_iconst (v := jI 1) K d_R_guessLimb_1 rfl ?_
  refine zi_icmp_lt (tgt := 30) K d_R_guessLimb_2 (by decide) (by omega) (by omega) (fun hc => absurd hc (by omega)) (fun hc => ?_)
  refine z_iload_n K d_R_guessLimb_5 rfl ?_
  refine z_iload_n K d_R_guessLimb_6 rfl ?_
  refine zi_icmp_lt (tgt := 30) K d_R_guessLimb_7 (by decide) (by omega) (by omega) (fun hc => absurd hc (by omega)) (fun hc => ?_)
  refine z_iload_n K d_R_guessLimb_10 rfl ?_
  refine z_aload_n K d_R_guessLimb_11 rfl ?_
  refine zx_gR K fd_R_15 rfl d_R_guessLimb_12 ?_
  refine zx_1len K d_R_guessLimb_15 ?_
  refine zi_icmp_ge (tgt := 30) K d_R_guessLimb_16 (by decide) (by omega) (by omega) (fun hc => absurd hc (by omega)) (fun hc => ?_)
  refine z_aload_n K d_R_guessLimb_19 rfl ?_
  refine zx_gR K fd_R_18 rfl d_R_guessLimb_20 ?_
  refine z_iload_n K d_R_guessLimb_23 rfl ?_
  refine z_iconst (v := jI 1) K d_R_guessLimb_24 rfl ?_
  refine zi_isub K d_R_guessLimb_25 ?_
  refine zx_2ldv (v := lead) K (by omega) hle.symm d_R_guessLimb_26 ?_
  refine zi_if_ne (tgt := 32) K d_R_guessLimb_27 (by decide) (by omega) (fun hc => ?_) (fun hc => absurd hc (by omega))
  refine z_aload_n K d_R_guessLimb_32 rfl ?_
  refine zx_gR K fd_R_18 rfl d_R_guessLimb_33 ?_
  refine z_iload_n K d_R_guessLimb_36 rfl ?_
  refine z_iconst (v := jI 1) K d_R_guessLimb_37 rfl ?_
  refine zi_isub K d_R_guessLimb_38 ?_
  refine zx_2ldv (v := lead) K (by omega) hle.symm d_R_guessLimb_39 ?_
  refine zi_i2l K d_R_guessLimb_40 (by omega) ?_
  refine z_lstore_n K d_R_guessLimb_41 (by decide) ?_
  refine z_iload_n K d_R_guessLimb_42 rfl ?_
  refine z_iconst (v := jI 1) K d_R_guessLimb_43 rfl ?_
  have tail : ∀ lv : List (Nat × Value), lv = [(0, .ref (a + 1)), (1, .int (jI ((fr + n : Nat) : Int))), (2, .int (jI n)), (3, .long (kI lead)), (5, .long (kI second)), (7, .long (kI third))] → zW p l e (zRm 0 0 0 0) s m ([.ref (a + 1), .int (jI ((fr + n : Nat) : Int)), .int (jI n)] : List Value).toArray below meth c 16 b0 G 0 0 (MQ below (zQ G b0 (fun r h' => ∃ S' : xS, h' = hx G h a S' ∧ (S = S' ∧ ∃ g : Int, r = some (.long (kI g)) ∧ 0 ≤ g ∧ g < 1000000000 ∧ W < (g + 1) * B ∧ (g - 1) * B ≤ W))) ([.ref (a + 1), .int (jI ((fr + n : Nat) : Int)), .int (jI n)] : List Value).toArray s 0 0 (z_A b0)) (hx G h a S) 82 lv [] := by
    intro lv hlv
    subst hlv
    refine z_aload_n K d_R_guessLimb_82 rfl ?_
    refine zx_gR K fd_R_15 rfl d_R_guessLimb_83 ?_
    refine z_iload_n K d_R_guessLimb_86 rfl ?_
    refine zx_1ldv (v := S.r1 ((fr : Int) + n)) K (by omega) (by rw [show ((fr + n : Nat) : Int) = (fr : Int) + n by omega]) d_R_guessLimb_87 ?_
    refine zi_i2l K d_R_guessLimb_88 (by omega) ?_
    refine z_ldc2 (v := kI 1000000000) K d_R_guessLimb_89 kc_R_78 ?_
    refine zi_lmul K d_R_guessLimb_92 ?_
    refine z_aload_n K d_R_guessLimb_93 rfl ?_
    refine zx_gR K fd_R_15 rfl d_R_guessLimb_94 ?_
    refine z_iload_n K d_R_guessLimb_97 rfl ?_
    refine z_iconst (v := jI 1) K d_R_guessLimb_98 rfl ?_
    refine zi_isub K d_R_guessLimb_99 ?_
    refine zx_1ldv (v := S.r1 ((fr : Int) + n - 1)) K (by omega) (by rw [show ((fr + n : Nat) : Int) - 1 = (fr : Int) + n - 1 by omega]) d_R_guessLimb_100 ?_
    refine zi_i2l K d_R_guessLimb_101 (by omega) ?_
    refine zi_ladd K d_R_guessLimb_102 ?_
    rw [← h2]
    refine z_lstore K d_R_guessLimb_103 (by decide) ?_
    refine z_lload K d_R_guessLimb_105 rfl ?_
    refine z_lload_n K d_R_guessLimb_107 rfl ?_
    refine zi_ldiv K d_R_guessLimb_108 (by omega) (by omega) (by omega) ?_
    rw [tdiv_pos two_bd.1]
    refine z_lstore K d_R_guessLimb_109 (by decide) ?_
    refine z_lload K d_R_guessLimb_111 rfl ?_
    refine z_lload K d_R_guessLimb_113 rfl ?_
    refine z_lload_n K d_R_guessLimb_115 rfl ?_
    refine zi_lmul K d_R_guessLimb_116 ?_
    refine zi_lsub K d_R_guessLimb_117 ?_
    refine z_lstore K d_R_guessLimb_118 (by decide) ?_
    refine z_iconst (v := jI 0) K d_R_guessLimb_120 rfl ?_
    refine z_istore K d_R_guessLimb_121 (by decide) ?_
    rw [show two - two / lead * lead = two % lead by rw [Int.mul_comm]; omega]
    refine z_re [3, 5, 7, 11, 13, 15] rfl ?_
    refine lp_R_guessLimb (two := two) (g0 := two / lead) K Bp hWd.1 hWB ⟨hl, w1.2⟩ two_bd.1 h2b s2 s3 ⟨q0, g6⟩ kn kd ke (fun g g1 g2 g3 g4 => ?_) 3 0 (two / lead) (two % lead) (by omega) (by omega) (by rw [Int.mul_comm]; omega) q2 (by omega) kf
    refine z_lload K d_R_guessLimb_186 rfl ?_
    exact z_lret K hr hlk d_R_guessLimb_188 ⟨_, rfl, rfl, g, rfl, g1, g2, g3, g4⟩
  refine zi_icmp_le (tgt := 59) K d_R_guessLimb_44 (by decide) (by omega) (by omega) (fun hc => ?_) (fun hc => ?_)
  · rw [if_pos (by omega)] at sd
    obtain ⟨rfl, rfl⟩ := sd
    refine z_lconst (v := kI 0) K d_R_guessLimb_59 rfl ?_
    refine z_lstore K d_R_guessLimb_60 (by decide) ?_
    refine z_iload_n K d_R_guessLimb_62 rfl ?_
    refine z_iconst (v := jI 1) K d_R_guessLimb_63 rfl ?_
    refine zi_icmp_le (tgt := 79) K d_R_guessLimb_64 (by decide) (by omega) (by omega) (fun hc => ?_) (fun hc => absurd hc (by omega))
    refine z_lconst (v := kI 0) K d_R_guessLimb_79 rfl ?_
    refine z_lstore K d_R_guessLimb_80 (by decide) ?_
    exact z_re [0, 1, 2, 3, 5, 7] rfl (tail _ rfl)
  · rw [if_neg (by omega)] at sd
    obtain ⟨e2, e3⟩ := sd
    refine z_aload_n K d_R_guessLimb_47 rfl ?_
    refine zx_gR K fd_R_18 rfl d_R_guessLimb_48 ?_
    refine z_iload_n K d_R_guessLimb_51 rfl ?_
    refine z_iconst (v := jI 2) K d_R_guessLimb_52 rfl ?_
    refine zi_isub K d_R_guessLimb_53 ?_
    refine zx_2ldv (v := second) K (by omega) e2.symm d_R_guessLimb_54 ?_
    refine zi_i2l K d_R_guessLimb_55 (by omega) ?_
    refine z_goto (tgt := 60) K d_R_guessLimb_56 (by decide) ?_
    refine z_lstore K d_R_guessLimb_60 (by decide) ?_
    refine z_iload_n K d_R_guessLimb_62 rfl ?_
    refine z_iconst (v := jI 1) K d_R_guessLimb_63 rfl ?_
    refine zi_icmp_le (tgt := 79) K d_R_guessLimb_64 (by decide) (by omega) (by omega) (fun hc => absurd hc (by omega)) (fun hc => ?_)
    refine z_aload_n K d_R_guessLimb_67 rfl ?_
    refine zx_gR K fd_R_15 rfl d_R_guessLimb_68 ?_
    refine z_iload_n K d_R_guessLimb_71 rfl ?_
    refine z_iconst (v := jI 2) K d_R_guessLimb_72 rfl ?_
    refine zi_isub K d_R_guessLimb_73 ?_
    refine zx_1ldv (v := third) K (by omega) (by rw [e3, show ((fr + n : Nat) : Int) - 2 = (fr : Int) + n - 2 by omega]) d_R_guessLimb_74 ?_
    refine zi_i2l K d_R_guessLimb_75 (by omega) ?_
    refine z_goto (tgt := 80) K d_R_guessLimb_76 (by decide) ?_
    refine z_lstore K d_R_guessLimb_80 (by decide) ?_
    exact z_re [0, 1, 2, 3, 5, 7] rfl (tail _ rfl)
end R7
