abbrev stM (S : xS) (A B C E : Int) : xS := (((S.sm0 A).sm1 B).sm2 C).sm3 E
/-- what the leading digits' steps keep -/
def EI (H L A B C E : Int) : Prop := 0 ≤ C * H + E * L ∧ C * H + E * L ≤ A * H + B * L ∧ 0 < A * H + B * L ∧ A * H + B * L ≤ H ∧ Int.gcd (A * H + B * L) (C * H + E * L) = Int.gcd H L ∧ (A * H + B * L) * (C * H + E * L) ≤ H * L ∧ (B = 0 ∨ 2 * ((A * H + B * L) * (C * H + E * L)) ≤ H * L)
def sgP (A B C E : Int) : Prop := (0 ≤ A ∧ B ≤ 0 ∧ C ≤ 0 ∧ 0 ≤ E) ∨ (A ≤ 0 ∧ 0 ≤ B ∧ 0 ≤ C ∧ E ≤ 0)
theorem EI_step {H L A B C E k : Int} (h : EI H L A B C E) (h1 : k * (C * H + E * L) ≤ A * H + B * L) (h2 : A * H + B * L < (k + 1) * (C * H + E * L)) : EI H L C E (A - k * C) (B - k * E) := by
  obtain ⟨a1, a2, a3, a4, a5, a6, a7⟩ := h
  have e : (A - k * C) * H + (B - k * E) * L = (A * H + B * L) - k * (C * H + E * L) := by grind
  unfold EI
  rw [e]
  generalize A * H + B * L = p at *
  generalize C * H + E * L = q at *
  have e1 : (k + 1) * q = k * q + q := by grind
  have q0 : 0 < q := by
    rcases Int.lt_or_le 0 q with h0 | h0
    · exact h0
    · have : q = 0 := by omega
      rw [this] at h1 h2
      simp at h1 h2
      omega
  have k1 : 1 ≤ k := by
    rcases Int.lt_or_le k 1 with h0 | h0
    · have : k * q ≤ 0 * q := Int.mul_le_mul_of_nonneg_right (by omega) (by omega)
      rw [Int.zero_mul] at this
      omega
    · exact h0
  have kq : q ≤ k * q := by
    have := Int.mul_le_mul_of_nonneg_right k1 (show 0 ≤ q by omega)
    omega
  have b1 : 2 * (p - k * q) ≤ p := by omega
  have b2 : q * (2 * (p - k * q)) ≤ q * p := Int.mul_le_mul_of_nonneg_left b1 (by omega)
  have b3 : q * (2 * (p - k * q)) = 2 * (q * (p - k * q)) := by grind
  have b4 : 0 ≤ q * (p - k * q) := Int.mul_nonneg (by omega) (by omega)
  have b5 : q * p = p * q := Int.mul_comm _ _
  refine ⟨by omega, by omega, q0, by omega, ?_, by omega, Or.inr (by omega)⟩
  rw [← a5]
  exact (euc_step q0 h1 h2).2
theorem sgP_step {A B C E k : Int} (h : sgP A B C E) (hk : 0 ≤ k) : sgP C E (A - k * C) (B - k * E) := by
  rcases h with ⟨a, b, c, d⟩ | ⟨a, b, c, d⟩
  · have := Int.mul_nonpos_of_nonneg_of_nonpos hk c
    have := Int.mul_nonneg hk d
    exact .inr ⟨c, d, by omega, by omega⟩
  · have := Int.mul_nonpos_of_nonneg_of_nonpos hk d
    have := Int.mul_nonneg hk c
    exact .inl ⟨c, d, by omega, by omega⟩
theorem k_bd {k c : Int} (hk : 0 ≤ k ∧ k ≤ 2000000000) (hc : -2000000000 ≤ c ∧ c ≤ 2000000000) : -4000000000000000000 ≤ k * c ∧ k * c ≤ 4000000000000000000 := by
  have a1 := Int.mul_le_mul_of_nonneg_left hc.1 hk.1
  have a2 := Int.mul_le_mul_of_nonneg_left hc.2 hk.1
  omega
section D3
variable {p : Program} {l : Launch} {e : Env} {R : Room} {s : State} {m : MethodId} {args : Array Value} {below : List Frame} {meth : Method} {c : Code} {Q : State → Prop} {b0 kc ks : Nat} {G : zG} {h : zH} {a : Nat} {cd : Int}
set_option maxHeartbeats 4000000 in
set_option maxRecDepth 100000 in
theorem lp_D_follow (K : zC p s m args c b_D_followLeadingDigits R_D 16 b0 G) (hRm : 1 ≤ R.frames ∧ 25 ≤ R.locals) (hkc : kc ≤ R.cells) (hks : ks ≤ R.slots) {S : xS} {H L D u0 v0 : Int} (hD : 0 < D) (hH : D * u0 ≤ H ∧ H < D * u0 + D) (hL : D * v0 ≤ L ∧ L < D * v0 + D)
    (kx : ∀ A B C E : Int, EI H L A B C E → (-2000000000 ≤ A ∧ A ≤ 2000000000) → (-2000000000 ≤ B ∧ B ≤ 2000000000) → (-2000000000 ≤ C ∧ C ≤ 2000000000) → (-2000000000 ≤ E ∧ E ≤ 2000000000) → zW p l e R s m args below meth c 16 b0 G kc ks Q (hx G h a (stM S A B C E)) 253 [(0, .ref (a + 7))] []) :
    ∀ (N i : Nat) (A B C E u v : Int), i + N = 100 → EI H L A B C E → sgP A B C E → (-2000000000 ≤ A ∧ A ≤ 2000000000) → (-2000000000 ≤ B ∧ B ≤ 2000000000) → (-2000000000 ≤ C ∧ C ≤ 2000000000) → (-2000000000 ≤ E ∧ E ≤ 2000000000) → u = A * u0 + B * v0 → v = C * u0 + E * v0 → 0 < u + A → 0 < u + B → u ≤ 1000000000000000000 + 4000000000 * i → -2000000000 ≤ v → v ≤ 1000000000000000000 + 4000000000 * i →
      zW p l e R s m args below meth c 16 b0 G kc ks Q (hx G h a (stM S A B C E)) 66 [(0, .ref (a + 7)), (3, .long (kI u)), (5, .long (kI v)), (7, .int (jI i))] [] := by
  intro N
  induction N with
  | zero =>
    intro i A B C E u v hi hE hs bA bB bC bE hu hv u1 u2 ub vb0 vb
    refine z_iload K d_D_followLeadingDigits_66 rfl ?_
    refine z_bipush (v := jI 100) K d_D_followLeadingDigits_68 rfl ?_
    refine zi_icmp_ge (tgt := 253) K d_D_followLeadingDigits_70 (by decide) (by omega) (by omega) (fun hc => ?_) (fun hc => absurd hc (by omega))
    exact z_re [0] rfl (kx A B C E hE bA bB bC bE)
  | succ N ih =>
    intro i A B C E u v hi hE hs bA bB bC bE hu hv u1 u2 ub vb0 vb
    have out := fun (q : zW p l e R s m args below meth c 16 b0 G kc ks Q (hx G h a (stM S A B C E)) 253 [(0, .ref (a + 7))] []) => q
    refine z_iload K d_D_followLeadingDigits_66 rfl ?_
    refine z_bipush (v := jI 100) K d_D_followLeadingDigits_68 rfl ?_
    refine zi_icmp_ge (tgt := 253) K d_D_followLeadingDigits_70 (by decide) (by omega) (by omega) (fun hc => absurd hc (by omega)) (fun hc => ?_)
    refine z_lload K d_D_followLeadingDigits_73 rfl ?_
    refine z_aload_n K d_D_followLeadingDigits_75 rfl ?_
    refine zx_gD (v := .long (kI C)) K fd_D_103 rfl d_D_followLeadingDigits_76 ?_
    refine zi_ladd K d_D_followLeadingDigits_79 ?_
    refine z_lconst (v := kI 0) K d_D_followLeadingDigits_80 rfl ?_
    refine zi_lc_le (tgt := 253) K d_D_followLeadingDigits_81 d_D_followLeadingDigits_82 (by decide) (by omega) (by omega) (fun hc1 => z_re [0] rfl (kx A B C E hE bA bB bC bE)) (fun hc1 => ?_)
    refine z_lload K d_D_followLeadingDigits_85 rfl ?_
    refine z_aload_n K d_D_followLeadingDigits_87 rfl ?_
    refine zx_gD (v := .long (kI E)) K fd_D_106 rfl d_D_followLeadingDigits_88 ?_
    refine zi_ladd K d_D_followLeadingDigits_91 ?_
    refine z_lconst (v := kI 0) K d_D_followLeadingDigits_92 rfl ?_
    refine zi_lc_gt (tgt := 100) K d_D_followLeadingDigits_93 d_D_followLeadingDigits_94 (by decide) (by omega) (by omega) (fun hc2 => ?_) (fun hc2 => ?_)
    rotate_left
    · refine z_goto (tgt := 253) K d_D_followLeadingDigits_97 (by decide) ?_
      exact z_re [0] rfl (kx A B C E hE bA bB bC bE)
    refine z_lload_n K d_D_followLeadingDigits_100 rfl ?_
    refine z_aload_n K d_D_followLeadingDigits_101 rfl ?_
    refine zx_gD (v := .long (kI A)) K fd_D_96 rfl d_D_followLeadingDigits_102 ?_
    refine zi_ladd K d_D_followLeadingDigits_105 ?_
    refine z_lload K d_D_followLeadingDigits_106 rfl ?_
    refine z_aload_n K d_D_followLeadingDigits_108 rfl ?_
    refine zx_gD (v := .long (kI C)) K fd_D_103 rfl d_D_followLeadingDigits_109 ?_
    refine zi_ladd K d_D_followLeadingDigits_112 ?_
    refine zi_ldiv K d_D_followLeadingDigits_113 (by omega) (by omega) (by omega) ?_
    rw [tdiv_pos (by omega)]
    have kk0 : 0 ≤ (u + A) / (v + C) := Int.ediv_nonneg (by omega) (by omega)
    have kk1 : (u + A) / (v + C) ≤ u + A := Int.ediv_le_self _ (by omega)
    have kk2 := Int.ediv_mul_le (u + A) (show v + C ≠ 0 by omega)
    have kk3 := Int.lt_mul_ediv_self_add (x := u + A) (show 0 < v + C by omega)
    obtain ⟨k, hk⟩ : ∃ k, k = (u + A) / (v + C) := ⟨_, rfl⟩
    rw [← hk] at kk0 kk1 kk2 kk3 ⊢
    refine z_lstore K d_D_followLeadingDigits_114 (by decide) ?_
    refine z_lload K d_D_followLeadingDigits_116 rfl ?_
    refine z_ldc2 (v := kI 2000000000) K d_D_followLeadingDigits_118 kc_D_109 ?_
    refine zi_lc_gt (tgt := 253) K d_D_followLeadingDigits_121 d_D_followLeadingDigits_122 (by decide) (by omega) (by omega) (fun hc3 => z_re [0] rfl (kx A B C E hE bA bB bC bE)) (fun hc3 => ?_)
    refine z_lload K d_D_followLeadingDigits_125 rfl ?_
    refine z_lload_n K d_D_followLeadingDigits_127 rfl ?_
    refine z_aload_n K d_D_followLeadingDigits_128 rfl ?_
    refine zx_gD (v := .long (kI B)) K fd_D_100 rfl d_D_followLeadingDigits_129 ?_
    refine zi_ladd K d_D_followLeadingDigits_132 ?_
    refine z_lload K d_D_followLeadingDigits_133 rfl ?_
    refine z_aload_n K d_D_followLeadingDigits_135 rfl ?_
    refine zx_gD (v := .long (kI E)) K fd_D_106 rfl d_D_followLeadingDigits_136 ?_
    refine zi_ladd K d_D_followLeadingDigits_139 ?_
    refine zi_ldiv K d_D_followLeadingDigits_140 (by omega) (by omega) (by omega) ?_
    rw [tdiv_pos (by omega)]
    have jj1 : (u + B) / (v + E) ≤ u + B := Int.ediv_le_self _ (by omega)
    have jj0 : 0 ≤ (u + B) / (v + E) := Int.ediv_nonneg (by omega) (by omega)
    have jj2 := Int.ediv_mul_le (u + B) (show v + E ≠ 0 by omega)
    have jj3 := Int.lt_mul_ediv_self_add (x := u + B) (show 0 < v + E by omega)
    refine zi_lc_eq (tgt := 148) K d_D_followLeadingDigits_141 d_D_followLeadingDigits_142 (by decide) (by omega) (by omega) (fun hc4 => ?_) (fun hc4 => ?_)
    rotate_left
    · refine z_goto (tgt := 253) K d_D_followLeadingDigits_145 (by decide) ?_
      exact z_re [0] rfl (kx A B C E hE bA bB bC bE)
    rw [← hc4] at jj2 jj3
    have bc1 := k_bd ⟨kk0, hc3⟩ bC
    have be1 := k_bd ⟨kk0, hc3⟩ bE
    refine z_aload_n K d_D_followLeadingDigits_148 rfl ?_
    refine zx_gD (v := .long (kI A)) K fd_D_96 rfl d_D_followLeadingDigits_149 ?_
    refine z_lload K d_D_followLeadingDigits_152 rfl ?_
    refine z_aload_n K d_D_followLeadingDigits_154 rfl ?_
    refine zx_gD (v := .long (kI C)) K fd_D_103 rfl d_D_followLeadingDigits_155 ?_
    refine zi_lmul K d_D_followLeadingDigits_158 ?_
    refine zi_lsub K d_D_followLeadingDigits_159 ?_
    refine z_lstore K d_D_followLeadingDigits_160 (by decide) ?_
    refine z_aload_n K d_D_followLeadingDigits_162 rfl ?_
    refine zx_gD (v := .long (kI B)) K fd_D_100 rfl d_D_followLeadingDigits_163 ?_
    refine z_lload K d_D_followLeadingDigits_166 rfl ?_
    refine z_aload_n K d_D_followLeadingDigits_168 rfl ?_
    refine zx_gD (v := .long (kI E)) K fd_D_106 rfl d_D_followLeadingDigits_169 ?_
    refine zi_lmul K d_D_followLeadingDigits_172 ?_
    refine zi_lsub K d_D_followLeadingDigits_173 ?_
    refine z_lstore K d_D_followLeadingDigits_174 (by decide) ?_
    refine z_lload K d_D_followLeadingDigits_176 rfl ?_
    refine z_callS (As := [.long (kI (A - k * C))]) K (c_abs l G b0 (hx G h a (stM S A B C E)) (x := A - k * C) (by omega)) ca_D_111 sm_abs rfl rfl (rm_ok ⟨hRm.1, hRm.2, hkc, hks⟩ (by decide) (by decide)) (Nat.le_of_ble_eq_true rfl) d_D_followLeadingDigits_178 (fun r h1 hp => ?_)
    obtain ⟨rfl, rfl⟩ := hp
    refine z_ldc2 (v := kI 2000000000) K d_D_followLeadingDigits_181 kc_D_109 ?_
    refine zi_lc_gt (tgt := 253) K d_D_followLeadingDigits_184 d_D_followLeadingDigits_185 (by decide) (by omega) (by omega) (fun hc5 => z_re [0] rfl (kx A B C E hE bA bB bC bE)) (fun hc5 => ?_)
    refine z_lload K d_D_followLeadingDigits_188 rfl ?_
    refine z_callS (As := [.long (kI (B - k * E))]) K (c_abs l G b0 (hx G h a (stM S A B C E)) (x := B - k * E) (by omega)) ca_D_111 sm_abs rfl rfl (rm_ok ⟨hRm.1, hRm.2, hkc, hks⟩ (by decide) (by decide)) (Nat.le_of_ble_eq_true rfl) d_D_followLeadingDigits_190 (fun r h1 hp => ?_)
    obtain ⟨rfl, rfl⟩ := hp
    refine z_ldc2 (v := kI 2000000000) K d_D_followLeadingDigits_193 kc_D_109 ?_
    refine zi_lc_le (tgt := 203) K d_D_followLeadingDigits_196 d_D_followLeadingDigits_197 (by decide) (by omega) (by omega) (fun hc6 => ?_) (fun hc6 => ?_)
    rotate_left
    · refine z_goto (tgt := 253) K d_D_followLeadingDigits_200 (by decide) ?_
      exact z_re [0] rfl (kx A B C E hE bA bB bC bE)
    have ek1 : (k + 1) * (v + C) = k * (v + C) + (v + C) := by grind
    have ek2 : (k + 1) * (v + E) = k * (v + E) + (v + E) := by grind
    have ek3 : k * (v + C) = k * v + k * C := by grind
    have lk := leh_k hD hH hL hs kk0 (by rw [← hu, ← hv]; exact jj2) (by rw [← hu, ← hv]; exact kk2) (by rw [← hu, ← hv, ek1, Int.mul_comm k]; exact kk3) (by rw [← hu, ← hv, ek2, Int.mul_comm k]; exact jj3)
    rw [Int.mul_comm (v + C)] at kk3
    refine z_aload_n K d_D_followLeadingDigits_203 rfl ?_
    refine z_aload_n K d_D_followLeadingDigits_204 rfl ?_
    refine zx_gD (v := .long (kI C)) K fd_D_103 rfl d_D_followLeadingDigits_205 ?_
    refine zx_pM0 K fd_D_96 d_D_followLeadingDigits_208 ?_
    refine z_aload_n K d_D_followLeadingDigits_211 rfl ?_
    refine z_aload_n K d_D_followLeadingDigits_212 rfl ?_
    refine zx_gD (v := .long (kI E)) K fd_D_106 rfl d_D_followLeadingDigits_213 ?_
    refine zx_pM1 K fd_D_100 d_D_followLeadingDigits_216 ?_
    refine z_aload_n K d_D_followLeadingDigits_219 rfl ?_
    refine z_lload K d_D_followLeadingDigits_220 rfl ?_
    refine zx_pM2 K fd_D_103 d_D_followLeadingDigits_222 ?_
    refine z_aload_n K d_D_followLeadingDigits_225 rfl ?_
    refine z_lload K d_D_followLeadingDigits_226 rfl ?_
    refine zx_pM3 K fd_D_106 d_D_followLeadingDigits_228 ?_
    refine z_lload_n K d_D_followLeadingDigits_231 rfl ?_
    refine z_lload K d_D_followLeadingDigits_232 rfl ?_
    refine z_lload K d_D_followLeadingDigits_234 rfl ?_
    refine zi_lmul K d_D_followLeadingDigits_236 ?_
    refine zi_lsub K d_D_followLeadingDigits_237 ?_
    refine z_lstore K d_D_followLeadingDigits_238 (by decide) ?_
    refine z_lload K d_D_followLeadingDigits_240 rfl ?_
    refine z_lstore_n K d_D_followLeadingDigits_242 (by decide) ?_
    refine z_lload K d_D_followLeadingDigits_243 rfl ?_
    refine z_lstore K d_D_followLeadingDigits_245 (by decide) ?_
    refine zi_iinc K d_D_followLeadingDigits_247 rfl (by decide) ?_
    refine z_goto (tgt := 66) K d_D_followLeadingDigits_250 (by decide) ?_
    refine z_re [0, 3, 5, 7] rfl ?_
    exact ih (i + 1) C E (A - k * C) (B - k * E) v (u - k * v) (by omega) (EI_step hE lk.1 lk.2) (sgP_step hs kk0) bC bE (by omega) (by omega) hv (by rw [hu, hv]; grind) hc1 hc2 (by omega) (by omega) (by omega)
theorem EI_init {H L : Int} (h0 : 0 ≤ L) (h1 : L ≤ H) (h2 : 0 < H) : EI H L 1 0 0 1 := by
  unfold EI
  rw [show (1 : Int) * H + 0 * L = H by omega, show (0 : Int) * H + 1 * L = L by omega]
  exact ⟨h0, h1, h2, Int.le_refl _, rfl, Int.le_refl _, Or.inl rfl⟩
set_option maxHeartbeats 4000000 in
set_option maxRecDepth 100000 in
/-- followLeadingDigits: a mix that makes steps of Euclid's -/
theorem c_D_follow (l : Launch) (G : zG) (b0 : Nat) (h : zH) (a : Nat) (S : xS) {U : Nat → Int} {H L : Int} (hD : DS S U H L) (hHL : L ≤ H) (hL : BS ^ 2 ≤ L) : xMet l G b0 y_D_followLeadingDigits b_D_followLeadingDigits 16 (some .boolean) 2 46 h a [.ref (a + 7)] S (fun r S' => ∃ A B C E b : Int, S' = stM S A B C E ∧ r = some (.int (jI b)) ∧ (b = 0 ∨ b = 1) ∧ (b = 1 ↔ B ≠ 0) ∧ EI H L A B C E ∧ (-2000000000 ≤ A ∧ A ≤ 2000000000) ∧ (-2000000000 ≤ B ∧ B ≤ 2000000000) ∧ (-2000000000 ≤ C ∧ C ≤ 2000000000) ∧ (-2000000000 ≤ E ∧ E ≤ 2000000000)) :=
  z_met (by decide) (Nat.le_of_ble_eq_true rfl) fun p e s m below meth c K hr hlk hnm => by
  obtain ⟨hV, ⟨p1, p2, p3, p4, p5, p6⟩, e1, e2, h0, l0⟩ := hD
  obtain ⟨n1, v1⟩ := hV _ p1.n
  obtain ⟨n2, v2⟩ := hV _ p2.n
  rw [e1] at v1
  rw [e2] at v2
  have hH2 : H.natAbs = H := by omega
  have hL2 : L.natAbs = L := by omega
  have hn3 : 3 ≤ n1 := by
    rcases Nat.lt_or_ge n1 3 with q | q
    · have := v1.nn
      have := BS_mono (show n1 ≤ 2 by omega)
      omega
    · exact q
  obtain ⟨c0, rfl⟩ : ∃ c0, n1 = c0 + 3 := ⟨n1 - 3, by omega⟩
  have n12 := v1.i31
  have hn2 : n2 ≤ c0 + 3 := v2.le (by show (L.natAbs : Int) < BS ^ (c0 + 3); have := v1.nn; omega)
  have gt := v1.limb (i := ((c0 + 2 : Nat) : Int)) (by omega) (by omega)
  have gt0 := v1.2.2.2.1 (c0 + 2) rfl
  have lbt : lb S S.f.hi (c0 + 3) (((c0 + 3 : Nat) : Int) - 1) = S.C S.f.hi ((c0 + 2 : Nat) : Int) := by
    rw [lb, if_pos (by omega), show ((c0 + 3 : Nat) : Int) - 1 = ((c0 + 2 : Nat) : Int) by omega]
  refine z_aload_n K d_D_followLeadingDigits_0 rfl ?_
  refine zx_gD K fd_D_23 rfl d_D_followLeadingDigits_1 ?_
  refine zx_gN K p1.n fd_D_57 rfl d_D_followLeadingDigits_4 ?_
  rw [v1.1]
  refine z_istore_n K d_D_followLeadingDigits_7 (by decide) ?_
  refine z_aload_n K d_D_followLeadingDigits_8 rfl ?_
  refine zx_gD K fd_D_23 rfl d_D_followLeadingDigits_9 ?_
  refine z_iload_n K d_D_followLeadingDigits_12 rfl ?_
  refine z_iconst (v := jI 1) K d_D_followLeadingDigits_13 rfl ?_
  refine zi_isub K d_D_followLeadingDigits_14 ?_
  refine z_callV (ci := 1) (As := [.int (jI (((c0 + 3 : Nat) : Int) - 1))]) K (c_N_limb l G b0 h a S (n := c0 + 3) p1.n v1.1 v1.2.1 (by omega)) ca_D_85 im_N_limb se_N_limb rfl (by decide) (hx_N p1.n) rfl rfl (by decide) (Nat.le_of_ble_eq_true rfl) d_D_followLeadingDigits_15 (fun r h1 hp => ?_)
  obtain ⟨S1, rfl, rfl, rfl⟩ := hp
  rw [lbt]
  refine z_callS (As := [.int (jI (S.C S.f.hi ((c0 + 2 : Nat) : Int)))]) K (c_N_limbDigits l G b0 h a S gt) ca_D_89 sm_N_limbDigits rfl rfl (by decide) (Nat.le_of_ble_eq_true rfl) d_D_followLeadingDigits_18 (fun r h1 hp => ?_)
  obtain ⟨S1, rfl, rfl, t, rfl, t1, t2, t3, t4⟩ := hp
  obtain ⟨T, hT⟩ : ∃ T : Nat, 10 ^ t = T := ⟨_, rfl⟩
  have hT0 : 0 < T := by rw [← hT]; exact Nat.pow_pos (by decide)
  have hT10 : 10 ≤ T := by rw [← hT]; exact Nat.le_trans (by decide) (ten_mono t1)
  have hbH : (H.natAbs : Int) < ((10 ^ t : Nat) : Int) * BS ^ (c0 + 2) := by
    have a1 : (H.natAbs : Int) = dv (S.C S.f.hi) 0 (c0 + 2) + S.C S.f.hi ((c0 + 2 : Nat) : Int) * BS ^ (c0 + 2) := by
      rw [v1.2.2.2.2.2]
      show dv (S.C S.f.hi) 0 (c0 + 2) + S.C S.f.hi (0 + ((c0 + 2 : Nat) : Int)) * BS ^ (c0 + 2) = _
      rw [Int.zero_add]
    have a2 := dv_bd (f := S.C S.f.hi) (b := 0) (n := c0 + 2) (fun i hi => v1.2.2.1 i (by omega))
    have a3 := Int.mul_le_mul_of_nonneg_right (show S.C S.f.hi ((c0 + 2 : Nat) : Int) + 1 ≤ ((10 ^ t : Nat) : Int) by omega) (Int.le_of_lt (BS_pos (c0 + 2)))
    rw [Int.add_mul, Int.one_mul] at a3
    omega
  have hbL : (L.natAbs : Int) < ((10 ^ t : Nat) : Int) * BS ^ (c0 + 2) := by omega
  refine z_istore_n K d_D_followLeadingDigits_21 (by decide) ?_
  refine z_aload_n K d_D_followLeadingDigits_22 rfl ?_
  refine zx_gD K fd_D_23 rfl d_D_followLeadingDigits_23 ?_
  refine z_iload_n K d_D_followLeadingDigits_26 rfl ?_
  refine z_iload_n K d_D_followLeadingDigits_27 rfl ?_
  refine z_callS (As := [.ref (a + S.f.hi), .int (jI ((c0 + 3 : Nat) : Int)), .int (jI t)]) K (c_D_leading l G b0 h a S p1.n v1 (Nat.le_refl _) (by omega) ⟨t1, t2⟩ hbH) ca_D_92 sm_D_leading rfl rfl (by decide) (Nat.le_of_ble_eq_true rfl) d_D_followLeadingDigits_28 (fun r h1 hp => ?_)
  obtain ⟨S1, rfl, rfl, u0, rfl, u1, u2, u3⟩ := hp
  refine z_lstore_n K d_D_followLeadingDigits_31 (by decide) ?_
  refine z_aload_n K d_D_followLeadingDigits_32 rfl ?_
  refine zx_gD K fd_D_26 rfl d_D_followLeadingDigits_33 ?_
  refine z_iload_n K d_D_followLeadingDigits_36 rfl ?_
  refine z_iload_n K d_D_followLeadingDigits_37 rfl ?_
  refine z_callS (As := [.ref (a + S.f.lo), .int (jI ((c0 + 3 : Nat) : Int)), .int (jI t)]) K (c_D_leading l G b0 h a S p2.n v2 hn2 (by omega) ⟨t1, t2⟩ hbL) ca_D_92 sm_D_leading rfl rfl (by decide) (Nat.le_of_ble_eq_true rfl) d_D_followLeadingDigits_38 (fun r h1 hp => ?_)
  obtain ⟨S1, rfl, rfl, w0, rfl, w1, w2, w3⟩ := hp
  rw [hT, hH2] at u1
  rw [hT, hL2] at w1
  have hD0 : 0 < (T : Int) * BS ^ c0 := Int.mul_pos (by omega) (BS_pos c0)
  have uH : (T : Int) * BS ^ c0 * u0 ≤ H ∧ H < (T : Int) * BS ^ c0 * u0 + (T : Int) * BS ^ c0 := by
    rw [u1]
    exact ⟨Int.mul_ediv_self_le (by omega), Int.lt_mul_ediv_self_add hD0⟩
  have wL : (T : Int) * BS ^ c0 * w0 ≤ L ∧ L < (T : Int) * BS ^ c0 * w0 + (T : Int) * BS ^ c0 := by
    rw [w1]
    exact ⟨Int.mul_ediv_self_le (by omega), Int.lt_mul_ediv_self_add hD0⟩
  have u0p : 0 < u0 := by
    rcases Int.lt_or_le 0 u0 with q | q
    · exact q
    · exfalso
      have a1 : H < (T : Int) * BS ^ c0 := by
        have := Int.mul_nonpos_of_nonneg_of_nonpos (Int.le_of_lt hD0) q
        omega
      have a2 : (T : Int) ≤ 1000000000 := by
        have : T ≤ 10 ^ 9 := by rw [← hT]; exact ten_mono t2
        omega
      have a3 := Int.mul_le_mul_of_nonneg_right a2 (Int.le_of_lt (BS_pos c0))
      have a4 := v1.ge
      rw [show BS ^ (c0 + 2) = BS ^ c0 * 1000000000000000000 from by rw [Int.pow_add]; rfl] at a4
      have := BS_pos c0
      omega
  have hp2 := BS_pos 2
  refine z_lstore K d_D_followLeadingDigits_41 (by decide) ?_
  refine z_aload_n K d_D_followLeadingDigits_43 rfl ?_
  refine z_lconst (v := kI 1) K d_D_followLeadingDigits_44 rfl ?_
  refine zx_pM0 K fd_D_96 d_D_followLeadingDigits_45 ?_
  refine z_aload_n K d_D_followLeadingDigits_48 rfl ?_
  refine z_lconst (v := kI 0) K d_D_followLeadingDigits_49 rfl ?_
  refine zx_pM1 K fd_D_100 d_D_followLeadingDigits_50 ?_
  refine z_aload_n K d_D_followLeadingDigits_53 rfl ?_
  refine z_lconst (v := kI 0) K d_D_followLeadingDigits_54 rfl ?_
  refine zx_pM2 K fd_D_103 d_D_followLeadingDigits_55 ?_
  refine z_aload_n K d_D_followLeadingDigits_58 rfl ?_
  refine z_lconst (v := kI 1) K d_D_followLeadingDigits_59 rfl ?_
  refine zx_pM3 K fd_D_106 d_D_followLeadingDigits_60 ?_
  refine z_iconst (v := jI 0) K d_D_followLeadingDigits_63 rfl ?_
  refine z_istore K d_D_followLeadingDigits_64 (by decide) ?_
  refine z_re [0, 3, 5, 7] rfl ?_
  refine lp_D_follow (S := S) (u0 := u0) (v0 := w0) K ⟨Nat.le_of_ble_eq_true rfl, Nat.le_of_ble_eq_true rfl⟩ (Nat.zero_le _) (Nat.zero_le _) hD0 uH wL (fun A B C E q1 q2 q3 q4 q5 => ?_) 100 0 1 0 0 1 u0 w0 (by omega) (EI_init l0 hHL (by omega)) (Or.inl ⟨by decide, by decide, by decide, by decide⟩) (by decide) (by decide) (by decide) (by decide) (by omega) (by omega) (by omega) (by omega) (by omega) (by omega) (by omega)
  refine z_aload_n K d_D_followLeadingDigits_253 rfl ?_
  refine zx_gD (v := .long (kI B)) K fd_D_100 rfl d_D_followLeadingDigits_254 ?_
  refine z_lconst (v := kI 0) K d_D_followLeadingDigits_257 rfl ?_
  refine zi_lc_eq (tgt := 266) K d_D_followLeadingDigits_258 d_D_followLeadingDigits_259 (by decide) (by omega) (by omega) (fun hc => ?_) (fun hc => ?_)
  · refine z_iconst (v := jI 0) K d_D_followLeadingDigits_266 rfl ?_
    exact z_zret K hr hlk d_D_followLeadingDigits_267 rfl ⟨_, rfl, A, B, C, E, 0, rfl, rfl, Or.inl rfl, by omega, q1, q2, q3, q4, q5⟩
  · refine z_iconst (v := jI 1) K d_D_followLeadingDigits_262 rfl ?_
    refine z_goto (tgt := 267) K d_D_followLeadingDigits_263 (by decide) ?_
    exact z_zret K hr hlk d_D_followLeadingDigits_267 rfl ⟨_, rfl, A, B, C, E, 1, rfl, rfl, Or.inr rfl, by omega, q1, q2, q3, q4, q5⟩
end D3
