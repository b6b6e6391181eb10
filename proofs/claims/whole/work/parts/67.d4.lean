abbrev stC (S : xS) (i j : Nat) (f g : Int → Int) : xS := S.sC (nu (nu S.C i f) j g)
theorem stC_i {S : xS} {i j : Nat} {f g : Int → Int} (h : i ≠ j) : (stC S i j f g).C i = f := by
  show nu (nu S.C i f) j g i = f
  rw [nu_ne _ _ h, nu_self]
theorem stC_j {S : xS} {i j : Nat} {f g : Int → Int} : (stC S i j f g).C j = g := nu_self _ _ _
theorem stC_si {S : xS} {i j : Nat} {f g : Int → Int} {k v : Int} (h : i ≠ j) : (stC S i j f g).sC (nu (stC S i j f g).C i (iu ((stC S i j f g).C i) k v)) = stC S i j (iu f k v) g := by
  rw [stC_i h]
  show (nu (nu (nu S.C i f) j g) i (iu f k v), S.2) = _
  rw [nu_comm _ _ _ h, nu_nu, nu_comm _ _ _ (Ne.symm h)]
theorem stC_sj {S : xS} {i j : Nat} {f g : Int → Int} {k v : Int} : (stC S i j f g).sC (nu (stC S i j f g).C j (iu ((stC S i j f g).C j) k v)) = stC S i j f (iu g k v) := by
  rw [stC_j]
  show (nu (nu (nu S.C i f) j g) j (iu g k v), S.2) = _
  rw [nu_nu]
theorem stC_id {S : xS} {i j : Nat} : S = stC S i j (S.C i) (S.C j) := by
  show S = (nu (nu S.C i (S.C i)) j (S.C j), S.2)
  rw [nu_id, nu_id]
theorem mix_bd {A B u v cy : Int} (hA : -2000000000 ≤ A ∧ A ≤ 2000000000) (hB : -2000000000 ≤ B ∧ B ≤ 2000000000) (hu : 0 ≤ u ∧ u < 1000000000) (hv : 0 ≤ v ∧ v < 1000000000) (hc : -4000000000 ≤ cy ∧ cy ≤ 4000000000) : (-2000000000000000000 ≤ A * u ∧ A * u ≤ 2000000000000000000) ∧ (-2000000000000000000 ≤ B * v ∧ B * v ≤ 2000000000000000000) ∧ -4000000000000000000 ≤ A * u + B * v + cy ∧ A * u + B * v + cy ≤ 4000000000000000000 ∧ -4000000000 ≤ (A * u + B * v + cy) / 1000000000 ∧ (A * u + B * v + cy) / 1000000000 ≤ 4000000000 := by
  have a1 := Int.mul_le_mul_of_nonneg_right hA.1 hu.1
  have a2 := Int.mul_le_mul_of_nonneg_right hA.2 hu.1
  have a3 := Int.mul_le_mul_of_nonneg_right hB.1 hv.1
  have a4 := Int.mul_le_mul_of_nonneg_right hB.2 hv.1
  generalize A * u = p at *
  generalize B * v = q at *
  omega
theorem mix_step {D P X Y cy A B u v w : Int} (hD : D + cy * P = A * X + B * Y) (hw : w = A * u + B * v + cy) : D + (w - w / 1000000000 * 1000000000) * P + w / 1000000000 * (P * 1000000000) = A * (X + u * P) + B * (Y + v * P) := by
  generalize w / 1000000000 = q
  rw [hw]; grind
section D4
variable {p : Program} {l : Launch} {e : Env} {R : Room} {s : State} {m : MethodId} {args : Array Value} {below : List Frame} {meth : Method} {c : Code} {Q : State → Prop} {b0 kc ks : Nat} {G : zG} {h : zH} {a : Nat} {cd : Int}
set_option maxHeartbeats 4000000 in
set_option maxRecDepth 100000 in
theorem lp_D_mix0 (K : zC p s m args c b_D_mix R_D 15 b0 G) {S : xS} {n i j : Nat} {f : Int → Int} (hj : isN j = true) (hlo : S.f.lo = j) (hn : n ≤ nR j) (kx : ∀ g : Int → Int, (∀ q : Int, q < i → g q = S.C j q) → (∀ q : Int, i ≤ q → q < n → g q = 0) → zW p l e R s m args below meth c 15 b0 G kc ks Q (hx G h a (stC S S.f.hi j f g)) 50 [(0, .ref (a + 7)), (1, .int (jI n))] []) :
    ∀ (d k : Nat) (g : Int → Int), k + d = n → i ≤ k → (∀ q : Int, q < i → g q = S.C j q) → (∀ q : Int, i ≤ q → q < k → g q = 0) → zW p l e R s m args below meth c 15 b0 G kc ks Q (hx G h a (stC S S.f.hi j f g)) 29 [(0, .ref (a + 7)), (1, .int (jI n)), (2, .int (jI k))] [] := by
  intro d
  have hR := nR_le j
  induction d with
  | zero =>
    intro k g hk hik h1 h2
    refine z_iload_n K d_D_mix_29 rfl ?_
    refine z_iload_n K d_D_mix_30 rfl ?_
    refine zi_icmp_ge (tgt := 50) K d_D_mix_31 (by decide) (by omega) (by omega) (fun hc => ?_) (fun hc => absurd hc (by omega))
    exact z_re [0, 1] rfl (kx g h1 (fun q q1 q2 => h2 q q1 (by omega)))
  | succ d ih =>
    intro k g hk hik h1 h2
    refine z_iload_n K d_D_mix_29 rfl ?_
    refine z_iload_n K d_D_mix_30 rfl ?_
    refine zi_icmp_ge (tgt := 50) K d_D_mix_31 (by decide) (by omega) (by omega) (fun hc => absurd hc (by omega)) (fun hc => ?_)
    refine z_aload_n K d_D_mix_34 rfl ?_
    refine zx_gD (v := .ref (a + j)) K fd_D_26 (by rw [← hlo]; rfl) d_D_mix_35 ?_
    refine zx_gN K (by first | assumption | rfl) fd_D_123 rfl d_D_mix_38 ?_
    refine z_iload_n K d_D_mix_41 rfl ?_
    refine z_iconst (v := jI 0) K d_D_mix_42 rfl ?_
    refine zx_cst K hj (by omega) d_D_mix_43 ?_
    refine z_hp (congrArg (hx G h a) stC_sj) ?_
    refine zi_iinc K d_D_mix_44 rfl (by decide) ?_
    refine z_goto (tgt := 29) K d_D_mix_47 (by decide) ?_
    refine z_re [0, 1, 2] rfl ?_
    refine ih (k + 1) _ (by omega) (by omega) (fun q hq => ?_) (fun q q1 q2 => ?_)
    · rw [iu_ne _ _ (by omega)]; exact h1 q hq
    · by_cases e : q = k
      · subst e; rw [iu_self]
      · rw [iu_ne _ _ e]; exact h2 q q1 (by omega)
set_option maxHeartbeats 4000000 in
set_option maxRecDepth 100000 in
theorem lp_D_mix (K : zC p s m args c b_D_mix R_D 15 b0 G) (hRm : 1 ≤ R.frames ∧ 40 ≤ R.locals) (hkc : kc ≤ R.cells) (hks : ks ≤ R.slots) {S : xS} {n i1 j1 : Nat} {A B C E : Int} {X Y : Int → Int} (hm : S.m0 = A ∧ S.m1 = B ∧ S.m2 = C ∧ S.m3 = E) (hi1 : isN i1 = true) (hj1 : isN j1 = true) (hij : i1 ≠ j1) (hhi : S.f.hi = i1) (hlo : S.f.lo = j1) (hn : n ≤ nR i1 ∧ n ≤ nR j1) (bA : -2000000000 ≤ A ∧ A ≤ 2000000000) (bB : -2000000000 ≤ B ∧ B ≤ 2000000000) (bC : -2000000000 ≤ C ∧ C ≤ 2000000000) (bE : -2000000000 ≤ E ∧ E ≤ 2000000000) (hX : dg X 0 n) (hY : dg Y 0 n)
    (kx : ∀ (f g : Int → Int) (c1 c2 : Int), dg f 0 n → dg g 0 n → dv f 0 n + c1 * BS ^ n = A * dv X 0 n + B * dv Y 0 n → dv g 0 n + c2 * BS ^ n = C * dv X 0 n + E * dv Y 0 n → zW p l e R s m args below meth c 15 b0 G kc ks Q (hx G h a (stC S i1 j1 f g)) 193 [(0, .ref (a + 7)), (1, .int (jI n))] []) :
    ∀ (d i : Nat) (f g : Int → Int) (c1 c2 : Int), i + d = n → dg f 0 i → dg g 0 i → (∀ q : Int, i ≤ q → q < n → f q = X q ∧ g q = Y q) → (-4000000000 ≤ c1 ∧ c1 ≤ 4000000000) → (-4000000000 ≤ c2 ∧ c2 ≤ 4000000000) → dv f 0 i + c1 * BS ^ i = A * dv X 0 i + B * dv Y 0 i → dv g 0 i + c2 * BS ^ i = C * dv X 0 i + E * dv Y 0 i →
      zW p l e R s m args below meth c 15 b0 G kc ks Q (hx G h a (stC S i1 j1 f g)) 58 [(0, .ref (a + 7)), (1, .int (jI n)), (2, .long (kI c1)), (4, .long (kI c2)), (6, .int (jI i))] [] := by
  intro d
  have hR := nR_le i1
  induction d with
  | zero =>
    intro i f g c1 c2 hi hf hg hq b1 b2 h1 h2
    refine z_iload K d_D_mix_58 rfl ?_
    refine z_iload_n K d_D_mix_60 rfl ?_
    refine zi_icmp_ge (tgt := 193) K d_D_mix_61 (by decide) (by omega) (by omega) (fun hc => ?_) (fun hc => absurd hc (by omega))
    have : i = n := by omega
    subst this
    exact z_re [0, 1] rfl (kx f g c1 c2 hf hg h1 h2)
  | succ d ih =>
    intro i f g c1 c2 hi hf hg hq b1 b2 h1 h2
    obtain ⟨fi, gi⟩ := hq i (by omega) (by omega)
    have gX := hX i (by omega)
    have gY := hY i (by omega)
    rw [Int.zero_add] at gX gY
    obtain ⟨m1, m2, m3, m4, m5, m6⟩ := mix_bd bA bB gX gY b1
    obtain ⟨l1, l2, l3, l4, l5, l6⟩ := mix_bd bC bE gX gY b2
    refine z_iload K d_D_mix_58 rfl ?_
    refine z_iload_n K d_D_mix_60 rfl ?_
    refine zi_icmp_ge (tgt := 193) K d_D_mix_61 (by decide) (by omega) (by omega) (fun hc => absurd hc (by omega)) (fun hc => ?_)
    refine z_aload_n K d_D_mix_64 rfl ?_
    refine zx_gD (v := .ref (a + i1)) K fd_D_23 (by rw [← hhi]; rfl) d_D_mix_65 ?_
    refine zx_gN K (by first | assumption | rfl) fd_D_123 rfl d_D_mix_68 ?_
    refine z_iload K d_D_mix_71 rfl ?_
    refine zx_cldv (v := X i) K hi1 (by omega) (by rw [stC_i hij]; exact fi) d_D_mix_73 ?_
    refine zi_i2l K d_D_mix_74 (by omega) ?_
    refine z_lstore K d_D_mix_75 (by decide) ?_
    refine z_aload_n K d_D_mix_77 rfl ?_
    refine zx_gD (v := .ref (a + j1)) K fd_D_26 (by rw [← hlo]; rfl) d_D_mix_78 ?_
    refine zx_gN K (by first | assumption | rfl) fd_D_123 rfl d_D_mix_81 ?_
    refine z_iload K d_D_mix_84 rfl ?_
    refine zx_cldv (v := Y i) K hj1 (by omega) (by rw [stC_j]; exact gi) d_D_mix_86 ?_
    refine zi_i2l K d_D_mix_87 (by omega) ?_
    refine z_lstore K d_D_mix_88 (by decide) ?_
    refine z_aload_n K d_D_mix_90 rfl ?_
    refine zx_gD (v := .long (kI A)) K fd_D_96 (by rw [← hm.1]; rfl) d_D_mix_91 ?_
    refine z_lload K d_D_mix_94 rfl ?_
    refine zi_lmul K d_D_mix_96 ?_
    refine z_aload_n K d_D_mix_97 rfl ?_
    refine zx_gD (v := .long (kI B)) K fd_D_100 (by rw [← hm.2.1]; rfl) d_D_mix_98 ?_
    refine z_lload K d_D_mix_101 rfl ?_
    refine zi_lmul K d_D_mix_103 ?_
    refine zi_ladd K d_D_mix_104 ?_
    refine z_lload_n K d_D_mix_105 rfl ?_
    refine zi_ladd K d_D_mix_106 ?_
    refine z_lstore K d_D_mix_107 (by decide) ?_
    refine z_aload_n K d_D_mix_109 rfl ?_
    refine zx_gD (v := .long (kI C)) K fd_D_103 (by rw [← hm.2.2.1]; rfl) d_D_mix_110 ?_
    refine z_lload K d_D_mix_113 rfl ?_
    refine zi_lmul K d_D_mix_115 ?_
    refine z_aload_n K d_D_mix_116 rfl ?_
    refine zx_gD (v := .long (kI E)) K fd_D_106 (by rw [← hm.2.2.2]; rfl) d_D_mix_117 ?_
    refine z_lload K d_D_mix_120 rfl ?_
    refine zi_lmul K d_D_mix_122 ?_
    refine zi_ladd K d_D_mix_123 ?_
    refine z_lload K d_D_mix_124 rfl ?_
    refine zi_ladd K d_D_mix_126 ?_
    refine z_lstore K d_D_mix_127 (by decide) ?_
    refine z_lload K d_D_mix_129 rfl ?_
    refine z_ldc2 (v := kI 1000000000) K d_D_mix_131 kc_D_121 ?_
    obtain ⟨w1, hw1⟩ : ∃ w, w = A * X i + B * Y i + c1 := ⟨_, rfl⟩
    obtain ⟨w2, hw2⟩ : ∃ w, w = C * X i + E * Y i + c2 := ⟨_, rfl⟩
    rw [← hw1, ← hw2]
    rw [← hw1] at m3 m4 m5 m6
    rw [← hw2] at l3 l4 l5 l6
    refine z_callS (As := [.long (kI w1), .long (kI 1000000000)]) K (c_fdiv l G b0 (hx G h a (stC S i1 j1 f g)) (x := w1) (y := 1000000000) (by omega) (by decide) (by decide)) ca_D_126 sm_fdiv rfl rfl (rm_ok ⟨hRm.1, hRm.2, hkc, hks⟩ (by decide) (by decide)) (Nat.le_of_ble_eq_true rfl) d_D_mix_134 (fun r h1 hp => ?_)
    obtain ⟨rfl, rfl⟩ := hp
    refine z_lstore_n K d_D_mix_137 (by decide) ?_
    refine z_lload K d_D_mix_138 rfl ?_
    refine z_ldc2 (v := kI 1000000000) K d_D_mix_140 kc_D_121 ?_
    refine z_callS (As := [.long (kI w2), .long (kI 1000000000)]) K (c_fdiv l G b0 (hx G h a (stC S i1 j1 f g)) (x := w2) (y := 1000000000) (by omega) (by decide) (by decide)) ca_D_126 sm_fdiv rfl rfl (rm_ok ⟨hRm.1, hRm.2, hkc, hks⟩ (by decide) (by decide)) (Nat.le_of_ble_eq_true rfl) d_D_mix_143 (fun r h1 hp => ?_)
    obtain ⟨rfl, rfl⟩ := hp
    refine z_lstore K d_D_mix_146 (by decide) ?_
    refine z_aload_n K d_D_mix_148 rfl ?_
    refine zx_gD (v := .ref (a + i1)) K fd_D_23 (by rw [← hhi]; rfl) d_D_mix_149 ?_
    refine zx_gN K (by first | assumption | rfl) fd_D_123 rfl d_D_mix_152 ?_
    refine z_iload K d_D_mix_155 rfl ?_
    refine z_lload K d_D_mix_157 rfl ?_
    refine z_lload_n K d_D_mix_159 rfl ?_
    refine z_ldc2 (v := kI 1000000000) K d_D_mix_160 kc_D_121 ?_
    refine zi_lmul K d_D_mix_163 ?_
    refine zi_lsub K d_D_mix_164 ?_
    refine zi_l2i K d_D_mix_165 ?_
    refine zx_cst K hi1 (by omega) d_D_mix_166 ?_
    refine z_hp (congrArg (hx G h a) (stC_si hij)) ?_
    refine z_aload_n K d_D_mix_167 rfl ?_
    refine zx_gD (v := .ref (a + j1)) K fd_D_26 (by rw [← hlo]; rfl) d_D_mix_168 ?_
    refine zx_gN K (by first | assumption | rfl) fd_D_123 rfl d_D_mix_171 ?_
    refine z_iload K d_D_mix_174 rfl ?_
    refine z_lload K d_D_mix_176 rfl ?_
    refine z_lload K d_D_mix_178 rfl ?_
    refine z_ldc2 (v := kI 1000000000) K d_D_mix_180 kc_D_121 ?_
    refine zi_lmul K d_D_mix_183 ?_
    refine zi_lsub K d_D_mix_184 ?_
    refine zi_l2i K d_D_mix_185 ?_
    refine zx_cst K hj1 (by omega) d_D_mix_186 ?_
    refine z_hp (congrArg (hx G h a) stC_sj) ?_
    refine zi_iinc K d_D_mix_187 rfl (by decide) ?_
    refine z_goto (tgt := 58) K d_D_mix_190 (by decide) ?_
    refine z_re [0, 1, 2, 4, 6] rfl ?_
    refine ih (i + 1) _ _ _ _ (by omega) (fun q hq1 => ?_) (fun q hq1 => ?_) (fun q q1 q2 => ?_) ⟨m5, m6⟩ ⟨l5, l6⟩ ?_ ?_
    · by_cases e : q = i
      · subst e; rw [Int.zero_add, iu_self]; omega
      · rw [iu_ne _ _ (by omega)]; exact hf q (by omega)
    · by_cases e : q = i
      · subst e; rw [Int.zero_add, iu_self]; omega
      · rw [iu_ne _ _ (by omega)]; exact hg q (by omega)
    · rw [iu_ne _ _ (by omega), iu_ne _ _ (by omega)]; exact hq q (by omega) q2
    · show dv (iu f i _) 0 i + iu f i _ (0 + i) * BS ^ i + w1 / 1000000000 * (BS ^ i * BS) = A * (dv X 0 i + X (0 + i) * BS ^ i) + B * (dv Y 0 i + Y (0 + i) * BS ^ i)
      rw [dv_iu (fun q hq => by omega), Int.zero_add, iu_self]
      exact mix_step h1 hw1
    · show dv (iu g i _) 0 i + iu g i _ (0 + i) * BS ^ i + w2 / 1000000000 * (BS ^ i * BS) = C * (dv X 0 i + X (0 + i) * BS ^ i) + E * (dv Y 0 i + Y (0 + i) * BS ^ i)
      rw [dv_iu (fun q hq => by omega), Int.zero_add, iu_self]
      exact mix_step h2 hw2
theorem top_z {D c P V : Int} (hD : 0 ≤ D ∧ D < P) (h : D + c * P = V) (hV : 0 ≤ V ∧ V < P) : D = V := by
  rcases Int.lt_trichotomy c 0 with q | q | q
  · have := Int.mul_le_mul_of_nonneg_right (show c ≤ -1 by omega) (show 0 ≤ P by omega); omega
  · rw [q, Int.zero_mul] at h; omega
  · have := Int.mul_le_mul_of_nonneg_right (show 1 ≤ c by omega) (show 0 ≤ P by omega); omega
set_option maxHeartbeats 4000000 in
set_option maxRecDepth 100000 in
theorem c_D_mix (l : Launch) (G : zG) (b0 : Nat) (h : zH) (a : Nat) (S : xS) {U : Nat → Int} {H L A B C E : Int} (hD : DS S U H L) (hm : S.m0 = A ∧ S.m1 = B ∧ S.m2 = C ∧ S.m3 = E) (hHL : L ≤ H) (hE : EI H L A B C E) (bA : -2000000000 ≤ A ∧ A ≤ 2000000000) (bB : -2000000000 ≤ B ∧ B ≤ 2000000000) (bC : -2000000000 ≤ C ∧ C ≤ 2000000000) (bE : -2000000000 ≤ E ∧ E ≤ 2000000000) : xMet l G b0 y_D_mix b_D_mix 15 none 1 40 h a [.ref (a + 7)] S (fun r S' => r = none ∧ ∃ U', DS S' U' (A * H + B * L) (C * H + E * L) ∧ dfr S S' U U') :=
  z_met (by decide) (Nat.le_of_ble_eq_true rfl) fun p e s m below meth c K hr hlk hnm => by
  obtain ⟨hV, hpm, e1, e2, h0, l0⟩ := hD
  have hpm2 := hpm
  obtain ⟨p1, p2, p3, p4, p5, p6⟩ := hpm
  obtain ⟨n, v1⟩ := hV _ p1.n
  obtain ⟨n2, v2⟩ := hV _ p2.n
  rw [e1] at v1
  rw [e2] at v2
  have n1 := v1.i31
  have r1 := p1.r
  have r2 := p2.r
  have hnn := v1.nn
  have hn2 : n2 ≤ n := v2.le (by show (L.natAbs : Int) < BS ^ n; omega)
  obtain ⟨q1, q2, q3, q4, q5, q6, q7⟩ := hE
  obtain ⟨i1, hi1⟩ : ∃ i, i = S.f.hi := ⟨_, rfl⟩
  obtain ⟨j1, hj1⟩ : ∃ j, j = S.f.lo := ⟨_, rfl⟩
  rw [← hi1] at p1 p4 p5 v1 r1 e1
  rw [← hj1] at p2 p4 p6 v2 r2 e2
  refine z_aload_n K d_D_mix_0 rfl ?_
  refine zx_gD (v := .ref (a + i1)) K fd_D_23 (by rw [hi1]; rfl) d_D_mix_1 ?_
  refine zx_gN K p1.n fd_D_57 rfl d_D_mix_4 ?_
  rw [v1.1]
  refine z_istore_n K d_D_mix_7 (by decide) ?_
  refine z_aload_n K d_D_mix_8 rfl ?_
  refine zx_gD (v := .ref (a + j1)) K fd_D_26 (by rw [hj1]; rfl) d_D_mix_9 ?_
  refine zx_gN K p2.n fd_D_123 rfl d_D_mix_12 ?_
  refine zx_alen K p2.n d_D_mix_15 ?_
  rw [r2]
  refine z_iload_n K d_D_mix_16 rfl ?_
  refine zi_icmp_ge (tgt := 21) K d_D_mix_17 (by decide) (by decide) (by omega) (fun hc => ?_) (fun hc => absurd hc (by omega))
  refine z_aload_n K d_D_mix_21 rfl ?_
  refine zx_gD (v := .ref (a + j1)) K fd_D_26 (by rw [hj1]; rfl) d_D_mix_22 ?_
  refine zx_gN K p2.n fd_D_57 rfl d_D_mix_25 ?_
  rw [v2.1]
  refine z_istore_n K d_D_mix_28 (by decide) ?_
  refine z_re [0, 1, 2] rfl ?_
  refine z_hp (congrArg (hx G h a) (stC_id (i := i1) (j := j1))) ?_
  rw [hi1]
  refine lp_D_mix0 (S := S) (n := n) (i := n2) (j := j1) (f := S.C S.f.hi) K p2.n hj1.symm (by omega) (fun g g1 g2 => ?_) (n - n2) n2 (S.C j1) (by omega) (Nat.le_refl _) (fun q _ => rfl) (fun q h1 h2 => absurd h1 (by omega))
  rw [← hi1]
  refine z_lconst (v := kI 0) K d_D_mix_50 rfl ?_
  refine z_lstore_n K d_D_mix_51 (by decide) ?_
  refine z_lconst (v := kI 0) K d_D_mix_52 rfl ?_
  refine z_lstore K d_D_mix_53 (by decide) ?_
  refine z_iconst (v := jI 0) K d_D_mix_55 rfl ?_
  refine z_istore K d_D_mix_56 (by decide) ?_
  refine z_re [0, 1, 2, 4, 6] rfl ?_
  have dX : dv (S.C i1) 0 n = H := by have := v1.2.2.2.2.2; omega
  have dY : dv (lb S j1 n2) 0 n = L := by have := v2.lbv hn2; omega
  refine lp_D_mix (S := S) (n := n) (X := S.C i1) (Y := lb S j1 n2) K ⟨Nat.le_of_ble_eq_true rfl, Nat.le_of_ble_eq_true rfl⟩ (Nat.zero_le _) (Nat.zero_le _) hm p1.n p2.n p4 hi1.symm hj1.symm (by omega) bA bB bC bE v1.2.2.1 (fun k _ => v2.lbd _) (fun f9 g9 c1 c2 d1 d2 d3 d4 => ?_) n 0 (S.C i1) g 0 0 (by omega) (fun k hk => absurd hk (by omega)) (fun k hk => absurd hk (by omega)) (fun q z1 z2 => ⟨rfl, ?_⟩) (by decide) (by decide) (by simp [dv]) (by simp [dv])
  rotate_left
  · unfold lb
    by_cases z : q < n2
    · rw [if_pos ⟨by omega, z⟩]; exact g1 q z
    · rw [if_neg (by omega)]; exact g2 q (by omega) z2
  rw [dX, dY] at d3 d4
  have f1 := top_z (dv_bd (f := f9) (b := 0) d1) d3 (by omega)
  have f2 := top_z (dv_bd (f := g9) (b := 0) d2) d4 (by omega)
  refine z_aload_n K d_D_mix_193 rfl ?_
  refine zx_gD (v := .ref (a + i1)) K fd_D_23 (by rw [hi1]; rfl) d_D_mix_194 ?_
  refine z_iload_n K d_D_mix_197 rfl ?_
  refine z_iconst (v := jI 0) K d_D_mix_198 rfl ?_
  refine z_callV (ci := 1) (As := [.int (jI n), .int (jI 0)]) K (c_N_settle l G b0 h a (stC S i1 j1 f9 g9) (k := i1) (N := n) p1.n (by omega) (Or.inl rfl) (by rw [stC_i p4]; exact d1)) ca_D_129 im_N_settle se_N_settle rfl (by decide) (hx_N p1.n) rfl rfl (by decide) (Nat.le_of_ble_eq_true rfl) d_D_mix_199 (fun r h1 hp => ?_)
  obtain ⟨S1, rfl, rfl, k1, k2, n3, k3⟩ := hp
  rw [stC_i p4, f1, show sgn 0 (A * H + B * L) = A * H + B * L from if_neg (by decide)] at k3
  have hf1 : S1.f = S.f := k1.2
  refine z_aload_n K d_D_mix_202 rfl ?_
  refine zx_gD (v := .ref (a + j1)) K fd_D_26 (by rw [hj1, ← hf1]; rfl) d_D_mix_203 ?_
  refine z_iload_n K d_D_mix_206 rfl ?_
  refine z_iconst (v := jI 0) K d_D_mix_207 rfl ?_
  have hC1 : S1.C j1 = g9 := by rw [k2, stC_j]
  refine z_callV (ci := 1) (As := [.int (jI n), .int (jI 0)]) K (c_N_settle l G b0 h a S1 (k := j1) (N := n) p2.n (by omega) (Or.inl rfl) (by rw [hC1]; exact d2)) ca_D_129 im_N_settle se_N_settle rfl (by decide) (hx_N p2.n) rfl rfl (by decide) (Nat.le_of_ble_eq_true rfl) d_D_mix_208 (fun r h1 hp => ?_)
  obtain ⟨S2, rfl, rfl, k4, k5, n4, k6⟩ := hp
  rw [hC1, f2, show sgn 0 (C * H + E * L) = C * H + E * L from if_neg (by decide)] at k6
  have hf2 : S2.f = S.f := k4.2.trans hf1
  have hV2 : VX S2 (nu (nu U i1 (A * H + B * L)) j1 (C * H + E * L)) := fun k hk => by
    by_cases z1 : k = j1
    · subst z1; rw [nu_self]; exact ⟨n4, k6⟩
    · rw [nu_ne _ _ z1]
      by_cases z2 : k = i1
      · subst z2; rw [nu_self]; exact ⟨n3, k4.nr k3 z1⟩
      · rw [nu_ne _ _ z2]
        obtain ⟨m9, hm9⟩ := hV k hk
        refine ⟨m9, k4.nr (k1.nr (hm9.fr ⟨?_, rfl, rfl⟩) z2) z1⟩
        show nu (nu S.C i1 f9) j1 g9 k = S.C k
        rw [nu_ne _ _ z1, nu_ne _ _ z2]
  refine z_vret K hr hlk d_D_mix_211 ⟨_, rfl, rfl, _, ⟨hV2, by rw [hf2]; exact hpm2, ?_, ?_, by omega, q1⟩, fun k a1 a2 a3 a4 => ?_, by rw [hf2], by rw [hf2]⟩
  · rw [hf2, ← hi1, nu_ne _ _ p4, nu_self]
  · rw [hf2, ← hj1, nu_self]
  · have z1 : k ≠ j1 := by rcases p2 with q | q | q <;> omega
    have z2 : k ≠ i1 := by rcases p1 with q | q | q <;> omega
    rw [nu_ne _ _ z1, nu_ne _ _ z2]
end D4
