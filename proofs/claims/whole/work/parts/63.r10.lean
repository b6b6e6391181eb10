theorem nu_comm {α : Type} (f : Nat → α) {i j : Nat} (u v : α) (h : i ≠ j) : nu (nu f i u) j v = nu (nu f j v) i u := by
  funext k; unfold nu
  by_cases h1 : k = i
  · subst h1; simp [h]
  · by_cases h2 : k = j
    · subst h2; simp [h1]
    · simp [h1, h2]
theorem td_small {v w : Int} (h : v.natAbs < w.natAbs) : v.tdiv w = 0 := by
  have : (v.tdiv w).natAbs = 0 := by rw [Int.natAbs_tdiv]; exact Nat.div_eq_of_lt h
  omega
/-- normalization -/
theorem div_norm {w t sc low P : Int} (hP : 0 < P) (hw : w = low + t * P) (hl : 0 ≤ low ∧ low < P) (ht : 1 ≤ t ∧ t < 1000000000) (hs : sc = 1000000000 / (t + 1)) : 0 < sc ∧ sc ≤ 500000000 ∧ w * sc < P * 1000000000 ∧ P * 500000000 ≤ w * sc := by
  have h1 : sc * (t + 1) ≤ 1000000000 := by rw [hs]; exact Int.ediv_mul_le _ (by omega)
  have h2 : 1000000000 < sc * (t + 1) + (t + 1) := by
    have := Int.lt_mul_ediv_self_add (x := 1000000000) (show 0 < t + 1 by omega)
    rw [← hs, Int.mul_comm] at this
    exact this
  have h3 : 0 < sc := by
    rw [hs]
    have : 1 ≤ 1000000000 / (t + 1) := (Int.le_ediv_iff_mul_le (by omega)).2 (by omega)
    omega
  have h4 : sc ≤ 500000000 := by
    have := Int.mul_le_mul_of_nonneg_left (show 2 ≤ t + 1 by omega) (show 0 ≤ sc by omega)
    omega
  have h5 : 500000000 ≤ t * sc := norm_half (by omega) (by omega) (by rw [Int.mul_add, Int.mul_one, Int.mul_comm (t + 1) sc]; omega)
  refine ⟨h3, h4, ?_, ?_⟩
  · have a1 : w < P * (t + 1) := by rw [hw, Int.mul_add, Int.mul_one, Int.mul_comm t P]; omega
    have a2 : w * sc < P * (t + 1) * sc := Int.mul_lt_mul_of_pos_right a1 h3
    have a3 : P * (t + 1) * sc = P * (sc * (t + 1)) := by grind
    have a4 : P * (sc * (t + 1)) ≤ P * 1000000000 := Int.mul_le_mul_of_nonneg_left h1 (by omega)
    omega
  · have a1 : t * P * sc ≤ w * sc := Int.mul_le_mul_of_nonneg_right (by omega) (by omega)
    have a2 : t * P * sc = P * (t * sc) := by grind
    have a3 : P * 500000000 ≤ P * (t * sc) := Int.mul_le_mul_of_nonneg_left h5 (by omega)
    omega
theorem div_quot {A B Qt R v w sc : Int} (hw : 0 < w) (hs : 0 < sc) (hA : A = v * sc) (hB : B = w * sc) (h : A = Qt * B + R) (h0 : 0 ≤ R) (h1 : R < B) : Qt = v / w ∧ R / sc = v % w := by
  have e : R = (v - Qt * w) * sc := by rw [hB] at h; rw [hA] at h; grind
  have e0 : 0 ≤ v - Qt * w := by
    rcases Int.lt_or_le (v - Qt * w) 0 with q | q
    · have := Int.mul_neg_of_neg_of_pos q hs; omega
    · exact q
  have e1 : v - Qt * w < w := by
    rw [e, hB] at h1
    exact Int.lt_of_mul_lt_mul_right h1 (by omega)
  have q1 : Qt = v / w := by
    have : v = (v - Qt * w) + Qt * w := by omega
    rw [this, Int.add_mul_ediv_right _ _ (by omega), Int.ediv_eq_zero_of_lt e0 e1]
    omega
  refine ⟨q1, ?_⟩
  rw [e, Int.mul_ediv_cancel _ (by omega)]
  have := Int.mul_ediv_add_emod v w
  rw [← q1, Int.mul_comm] at this
  omega
section R10
variable {p : Program} {l : Launch} {e : Env} {R : Room} {s : State} {m : MethodId} {args : Array Value} {below : List Frame} {meth : Method} {c : Code} {Q : State → Prop} {b0 kc ks : Nat} {G : zG} {h : zH} {a : Nat} {cd : Int}
set_option maxHeartbeats 4000000 in
set_option maxRecDepth 100000 in
theorem v_R_divide (l : Launch) (G : zG) (b0 : Nat) (h : zH) (a : Nat) (S : xS) {U : Nat → Int} {x y qq rr : Nat} (hV : VX S U) (hx0 : isN x = true) (hy0 : isN y = true) (hq0 : isN qq = true) (hr0 : isN rr = true) (hqr : qq ≠ rr) (hw : U y ≠ 0) (fq : lt9 ((U x).tdiv (U y)) (nR qq)) (fr : lt9 ((U x).tmod (U y)) (nR rr)) : xMet l G b0 y_R_divide b_R_divide 12 none 2 69 h a [.ref (a + 1), .ref (a + x), .ref (a + y), .ref (a + qq), .ref (a + rr)] S (fun r S' => r = none ∧ VX S' (nu (nu U qq ((U x).tdiv (U y))) rr ((U x).tmod (U y))) ∧ S'.f = S.f) :=
  z_met (by decide) (Nat.le_of_ble_eq_true rfl) fun p e s m below meth c K hr hlk hnm => by
  obtain ⟨nx, vx⟩ := hV x hx0
  obtain ⟨ny, vy⟩ := hV y hy0
  obtain ⟨v, hv⟩ : ∃ v, v = U x := ⟨_, rfl⟩
  obtain ⟨w, hww⟩ : ∃ w, w = U y := ⟨_, rfl⟩
  rw [← hv] at vx fq fr ⊢
  rw [← hww] at vy fq fr hw ⊢
  have l1 := vx.1
  have l2 := vy.1
  have n1 := vx.i31
  have n2 := vy.i31
  have ny0 : ny ≠ 0 := fun e => hw (vy.zero.1 e)
  obtain ⟨t, rfl⟩ : ∃ t, ny = t + 1 := ⟨ny - 1, by omega⟩
  have gt := vy.limb (i := t) (by omega) (by omega)
  have gt0 := vy.2.2.2.1 t rfl
  have lbt : lb S y (t + 1) (((t + 1 : Nat) : Int) - 1) = S.C y t := by
    rw [lb, if_pos (by omega), show ((t + 1 : Nat) : Int) - 1 = t by omega]
  refine z_aload_n K d_R_divide_0 rfl ?_
  refine zx_gN K hy0 fd_R_49 rfl d_R_divide_1 ?_
  rw [l2]
  refine z_istore K d_R_divide_4 (by decide) ?_
  refine z_aload_n K d_R_divide_6 rfl ?_
  refine z_iload K d_R_divide_7 rfl ?_
  refine z_iconst (v := jI 1) K d_R_divide_9 rfl ?_
  refine zi_isub K d_R_divide_10 ?_
  refine z_callV (ci := 1) (As := [.int (jI (((t + 1 : Nat) : Int) - 1))]) K (c_N_limb l G b0 h a S (n := t + 1) hy0 l2 vy.2.1 (by omega)) ca_R_66 im_N_limb se_N_limb rfl (by decide) (hx_N hy0) rfl rfl (by decide) (Nat.le_of_ble_eq_true rfl) d_R_divide_11 (fun r h1 hp => ?_)
  obtain ⟨S1, rfl, rfl, rfl⟩ := hp
  rw [lbt]
  refine z_istore K d_R_divide_14 (by decide) ?_
  refine z_iload K d_R_divide_16 rfl ?_
  refine zi_if_le (tgt := 43) K d_R_divide_18 (by decide) (by omega) (fun hc => absurd hc (by omega)) (fun hc => ?_)
  refine z_aload_n K d_R_divide_21 rfl ?_
  refine zx_gN K hx0 fd_R_49 rfl d_R_divide_22 ?_
  rw [l1]
  refine z_aload_n K d_R_divide_25 rfl ?_
  refine zx_gR K fd_R_15 rfl d_R_divide_26 ?_
  refine zx_1len K d_R_divide_29 ?_
  refine zi_icmp_ge (tgt := 43) K d_R_divide_30 (by decide) (by omega) (by omega) (fun hc => absurd hc (by omega)) (fun hc => ?_)
  refine z_iload K d_R_divide_33 rfl ?_
  refine z_aload_n K d_R_divide_35 rfl ?_
  refine zx_gR K fd_R_18 rfl d_R_divide_36 ?_
  refine zx_2len K d_R_divide_39 ?_
  refine zi_icmp_lt (tgt := 55) K d_R_divide_40 (by decide) (by omega) (by omega) (fun hc => ?_) (fun hc => absurd hc (by omega))
  refine z_aload_n K d_R_divide_55 rfl ?_
  refine zx_gN K hx0 fd_R_49 rfl d_R_divide_56 ?_
  rw [l1]
  refine z_iload K d_R_divide_59 rfl ?_
  refine zi_isub K d_R_divide_61 ?_
  refine z_istore K d_R_divide_62 (by decide) ?_
  refine z_iload K d_R_divide_64 rfl ?_
  have wn := vy.nn
  have wg := vy.ge
  have vn := vx.nn
  refine zi_if_ge (tgt := 80) K d_R_divide_66 (by decide) (by omega) (fun hc => ?_) (fun hc => ?_)
  rotate_left
  · -- a short number
    have hlt : v.natAbs < w.natAbs := by
      have := BS_mono (show nx ≤ t by omega)
      omega
    rw [tm_small hlt] at fr ⊢
    rw [td_small hlt]
    refine z_aload K d_R_divide_69 rfl ?_
    refine z_aload_n K d_R_divide_71 rfl ?_
    refine z_callV (ci := 1) (As := [.ref (a + x)]) K (c_N_become_N l G b0 h a S hr0 hx0 vx fr) ca_R_87 im_N_become_N se_N_become_N rfl (by decide) (hx_N hr0) rfl rfl (by decide) (Nat.le_of_ble_eq_true rfl) d_R_divide_72 (fun r h1 hp => ?_)
    obtain ⟨S1, rfl, rfl, k1, k2⟩ := hp
    refine z_aload_n K d_R_divide_75 rfl ?_
    refine z_callV (ci := 1) (As := []) K (c_N_becomeZero l G b0 h a S1 hq0) ca_R_75 im_N_becomeZero se_N_becomeZero rfl (by decide) (hx_N hq0) rfl rfl (by decide) (Nat.le_of_ble_eq_true rfl) d_R_divide_76 (fun r h1 hp => ?_)
    obtain ⟨S2, rfl, rfl, k3, k4, k5⟩ := hp
    refine z_vret K hr hlk d_R_divide_79 ⟨_, rfl, rfl, ?_, k3.2.trans k1.2⟩
    rw [nu_comm _ _ _ hqr]
    exact (hV.up k1 k2).up k3 k5
  -- the long way
  have bx := vx.2.2.2.2.1
  have by1 := vy.2.2.2.2.1
  have cx := vx.b01
  have cy1 := vy.b01
  obtain ⟨sd1, sd2, sd3⟩ := sgn_div bx by1
  have hbd := dv_bd (f := S.C y) (b := 0) (n := t) (fun i hi => vy.2.2.1 i (by omega))
  have ew : (w.natAbs : Int) = dv (S.C y) 0 t + S.C y t * BS ^ t := by
    rw [vy.2.2.2.2.2]
    show dv (S.C y) 0 t + S.C y (0 + t) * BS ^ t = _
    rw [Int.zero_add]
  obtain ⟨sc, hsc⟩ : ∃ z : Int, z = 1000000000 / (S.C y t + 1) := ⟨_, rfl⟩
  have wpos : 0 < (w.natAbs : Int) := by omega
  obtain ⟨s1, s2, s3, s4⟩ := div_norm (BS_pos t) ew hbd (by omega) hsc
  have main : ∀ b : Int, (b = 0 ∨ b = 1) → sgn b ((v.natAbs : Int) / w.natAbs) = v.tdiv w → ∀ lv : List (Nat × Value), zpick lv [0, 1, 2, 3, 4, 5, 6, 7] = [(0, .ref (a + 1)), (1, .ref (a + x)), (2, .ref (a + y)), (3, .ref (a + qq)), (4, .ref (a + rr)), (5, .int (jI ((t + 1 : Nat) : Int))), (6, .int (jI (S.C y t))), (7, .int (jI ((nx : Int) - ((t + 1 : Nat) : Int))))] → zW p l e (zRm 2 69 0 0) s m ([.ref (a + 1), .ref (a + x), .ref (a + y), .ref (a + qq), .ref (a + rr)] : List Value).toArray below meth c 12 b0 G 0 0 (MQ below (zQ G b0 (fun r h' => ∃ S' : xS, h' = hx G h a S' ∧ (r = none ∧ VX S' (nu (nu U qq (v.tdiv w)) rr (v.tmod w)) ∧ S'.f = S.f))) ([.ref (a + 1), .ref (a + x), .ref (a + y), .ref (a + qq), .ref (a + rr)] : List Value).toArray s 0 0 (z_A b0)) (hx G h a S) 96 lv [.int (jI b)] := by
    intro b hb hbq lv hlv
    refine z_re [0, 1, 2, 3, 4, 5, 6, 7] hlv ?_
    refine z_istore K d_R_divide_96 (by decide) ?_
    refine z_aload_n K d_R_divide_98 rfl ?_
    refine zx_gN K hx0 fd_R_30 rfl d_R_divide_99 ?_
    refine z_istore K d_R_divide_102 (by decide) ?_
    refine z_ldc (v := jI 1000000000) K d_R_divide_104 kc_R_70 ?_
    refine z_iload K d_R_divide_106 rfl ?_
    refine z_iconst (v := jI 1) K d_R_divide_108 rfl ?_
    refine zi_iadd K d_R_divide_109 ?_
    refine zi_idiv K d_R_divide_110 (by decide) (by omega) (by omega) ?_
    rw [show Int.tdiv 1000000000 (S.C y t + 1) = sc by rw [hsc]; exact tdiv_pos (by decide)]
    refine z_istore K d_R_divide_111 (by decide) ?_
    refine z_aload_n K d_R_divide_113 rfl ?_
    refine zx_gR K fd_R_15 rfl d_R_divide_114 ?_
    refine z_aload_n K d_R_divide_117 rfl ?_
    refine zx_gN K hx0 fd_R_49 rfl d_R_divide_118 ?_
    rw [l1]
    refine z_aload_n K d_R_divide_121 rfl ?_
    refine z_aload_n K d_R_divide_122 rfl ?_
    refine z_iload K d_R_divide_123 rfl ?_
    refine z_aload_n K d_R_divide_125 rfl ?_
    refine zx_gR K fd_R_15 rfl d_R_divide_126 ?_
    refine z_callV (ci := 4) (As := [.ref (a + x), .int (jI sc), .ref (a + 3)]) K (c_R_scaleUp1 l G b0 h a S hx0 vx ⟨s1, s2⟩) ca_R_90 im_R_scaleUp se_R_scaleUp rfl (by decide) (hx_R) rfl rfl (by decide) (Nat.le_of_ble_eq_true rfl) d_R_divide_129 (fun r h1 hp => ?_)
    obtain ⟨S1, rfl, f, c1, rfl, rfl, f1, f2, f3⟩ := hp
    refine zx_1st K (by omega) d_R_divide_132 ?_
    refine z_aload_n K d_R_divide_133 rfl ?_
    refine zx_gR K fd_R_18 rfl d_R_divide_134 ?_
    refine z_iload K d_R_divide_137 rfl ?_
    refine z_aload_n K d_R_divide_139 rfl ?_
    refine z_aload_n K d_R_divide_140 rfl ?_
    refine z_iload K d_R_divide_141 rfl ?_
    refine z_aload_n K d_R_divide_143 rfl ?_
    refine zx_gR K fd_R_18 rfl d_R_divide_144 ?_
    refine z_callV (ci := 4) (As := [.ref (a + y), .int (jI sc), .ref (a + 4)]) K (c_R_scaleUp2 l G b0 h a ((S.s1 f).s1 (iu f nx c1)) (x := y) (n := t + 1) (v := w) hy0 vy ⟨s1, s2⟩) ca_R_90 im_R_scaleUp se_R_scaleUp rfl (by decide) (hx_R) rfl rfl (by decide) (Nat.le_of_ble_eq_true rfl) d_R_divide_147 (fun r h1 hp => ?_)
    obtain ⟨S1, rfl, f', c2, rfl, rfl, g1, g2, g3⟩ := hp
    refine zx_2st K (by omega) d_R_divide_150 ?_
    refine z_iload K d_R_divide_151 rfl ?_
    refine z_istore K d_R_divide_153 (by decide) ?_
    have c20 : c2 = 0 := by
      have hb := dv_bd (f := f') (b := 0) g1
      rcases Int.lt_or_le 0 c2 with q | q
      · have := Int.mul_le_mul_of_nonneg_right (show 1 ≤ c2 by omega) (Int.le_of_lt (BS_pos (t + 1)))
        rw [show BS ^ (t + 1) = BS ^ t * 1000000000 from rfl] at *
        omega
      · omega
    subst c20
    have hB : dv f' 0 (t + 1) = w.natAbs * sc := by rw [Int.zero_mul] at g3; omega
    have hlow : dv (iu f' ((t + 1 : Nat) : Int) 0) 0 (t + 1) = w.natAbs * sc := by rw [dv_iu (fun k hk => by omega), hB]
    have hlg : dg (iu f' ((t + 1 : Nat) : Int) 0) 0 (t + 1) := fun k hk => by rw [iu_ne _ _ (by omega)]; exact g1 k hk
    have hlead : 500000000 ≤ f' t := by
      have hb := dv_bd (f := f') (b := 0) (n := t) (fun k hk => g1 k (by omega))
      have e : dv f' 0 (t + 1) = dv f' 0 t + f' t * BS ^ t := by
        show dv f' 0 t + f' (0 + t) * BS ^ t = _
        rw [Int.zero_add]
      rcases Int.lt_or_le (f' t) 500000000 with q | q
      · have := Int.mul_le_mul_of_nonneg_right (show f' t ≤ 499999999 by omega) (Int.le_of_lt (BS_pos t))
        have e9 : BS ^ t * 500000000 = 500000000 * BS ^ t := Int.mul_comm _ _
        omega
      · exact q
    have hup : dv (iu f nx c1) 0 (nx + 1) = v.natAbs * sc := by
      show dv (iu f nx c1) 0 nx + iu f nx c1 (0 + nx) * BS ^ nx = _
      rw [Int.zero_add, iu_self, dv_iu (fun k hk => by omega)]; exact f3
    have hug : dg (iu f nx c1) 0 (nx + 1) := fun k hk => by
      by_cases e : k = nx
      · subst e; rw [Int.zero_add, iu_self]; exact f2
      · rw [iu_ne _ _ (by omega)]; exact f1 k (by omega)
    obtain ⟨sh, hsh⟩ : ∃ sh : Nat, nx = sh + (t + 1) := ⟨nx - (t + 1), by omega⟩
    have hM : nx + 1 = (sh + 1) + (t + 1) := by omega
    have hsp := dv_add (f := iu f nx c1) (b := 0) (i := sh + 1) (t + 1)
    rw [← hM, hup, Int.zero_add] at hsp
    have hbl := dv_bd (f := iu f nx c1) (b := 0) (n := sh + 1) (fun k hk => hug k (by omega))
    have htop : dv (iu f nx c1) ((sh + 1 : Nat) : Int) (t + 1) < w.natAbs * sc := by
      have a1 : (v.natAbs : Int) * sc < BS ^ nx * 500000000 := by
        have b1 : (v.natAbs : Int) * sc ≤ v.natAbs * 500000000 := Int.mul_le_mul_of_nonneg_left s2 (by omega)
        have b2 : (v.natAbs : Int) * 500000000 < BS ^ nx * 500000000 := Int.mul_lt_mul_of_pos_right vn (by decide)
        omega
      have a2 : BS ^ nx = BS ^ (sh + 1) * BS ^ t := by rw [← Int.pow_add, show sh + 1 + t = nx by omega]
      have a3 : BS ^ (sh + 1) * (BS ^ t * 500000000) ≤ BS ^ (sh + 1) * ((w.natAbs : Int) * sc) := Int.mul_le_mul_of_nonneg_left s4 (Int.le_of_lt (BS_pos _))
      have a4 : BS ^ nx * 500000000 = BS ^ (sh + 1) * (BS ^ t * 500000000) := by rw [a2]; grind
      have a5 : BS ^ (sh + 1) * dv (iu f nx c1) ((sh + 1 : Nat) : Int) (t + 1) < BS ^ (sh + 1) * ((w.natAbs : Int) * sc) := by omega
      exact Int.lt_of_mul_lt_mul_left a5 (Int.le_of_lt (BS_pos _))
    refine z_re [0, 3, 4, 5, 7, 8, 9, 10, 11] rfl ?_
    rw [show (nx : Int) - ((t + 1 : Nat) : Int) = ((sh + 1 : Nat) : Int) - 1 by omega]
    refine lp_R_divide (S := ((((S.s1 f).s1 (iu f nx c1)).s2 f').s2 (iu f' ((t + 1 : Nat) : Int) 0))) (n := t + 1) (M := sh + 1) (A0 := v.natAbs * sc) K ⟨Nat.le_of_ble_eq_true rfl, Nat.le_of_ble_eq_true rfl⟩ (Nat.zero_le _) (Nat.zero_le _) (by omega) (by omega) hlg (by show 500000000 ≤ iu f' ((t + 1 : Nat) : Int) 0 _; rw [iu_ne _ _ (by omega), show ((t + 1 : Nat) : Int) - 1 = t by omega]; exact hlead) (fun gq f9 d1 d2 d3 d4 => ?_) (sh + 1) 0 S.r0 (iu f nx c1) (by omega) (fun k hk => absurd hk (by omega)) (fun k hk => hug k (by omega)) (by show _ < dv (iu f' _ 0) 0 (t + 1); rw [hlow]; exact htop) (by rw [show dv S.r0 ((sh + 1 : Nat) : Int) 0 = 0 from rfl, Int.zero_mul, Int.zero_mul, Int.zero_add]; exact hsp)
    have d3' : dv f9 0 (t + 1) < w.natAbs * sc := by rw [← hlow]; exact d3
    have d4' : (v.natAbs : Int) * sc = dv gq 0 (sh + 1) * (w.natAbs * sc) + dv f9 0 (t + 1) := by rw [← hlow]; exact d4
    have d9 := dv_bd (f := f9) (b := 0) d2
    obtain ⟨e1, e2⟩ := div_quot wpos s1 rfl rfl d4' d9.1 d3'
    refine z_aload_n K d_R_divide_192 rfl ?_
    refine z_iload K d_R_divide_193 rfl ?_
    refine z_iload K d_R_divide_195 rfl ?_
    refine z_callV (ci := 4) (As := [.int (jI sc), .int (jI ((t + 1 : Nat) : Int))]) K (c_R_scaleDown l G b0 h a ((((((S.s1 f).s1 (iu f nx c1)).s2 f').s2 (iu f' ((t + 1 : Nat) : Int) 0)).s0 gq).s1 f9) (n := t + 1) (by omega) d2 (by omega)) ca_R_102 im_R_scaleDown se_R_scaleDown rfl (by decide) (hx_R) rfl rfl (by decide) (Nat.le_of_ble_eq_true rfl) d_R_divide_197 (fun r h1 hp => ?_)
    obtain ⟨S1, rfl, rfl, f8, rfl, j1, j2⟩ := hp
    have j2' : dv f8 0 (t + 1) = (v.natAbs : Int) % w.natAbs := by rw [← e2]; exact j2
    refine z_aload_n K d_R_divide_200 rfl ?_
    refine z_aload_n K d_R_divide_201 rfl ?_
    refine zx_gR K fd_R_9 rfl d_R_divide_202 ?_
    refine z_iload K d_R_divide_205 rfl ?_
    refine z_iconst (v := jI 1) K d_R_divide_207 rfl ?_
    refine zi_iadd K d_R_divide_208 ?_
    rw [show ((sh + 1 : Nat) : Int) - 1 + 1 = ((sh + 1 : Nat) : Int) by omega]
    refine z_iload K d_R_divide_209 rfl ?_
    refine z_aload_n K d_R_divide_211 rfl ?_
    have fq' : dv gq 0 (sh + 1) < BS ^ nR qq := by
      rw [e1]
      have : ((v.tdiv w).natAbs : Int) < BS ^ nR qq := fq
      rw [Int.natAbs_tdiv] at this
      exact this
    have hV0 : VX (((((((S.s1 f).s1 (iu f nx c1)).s2 f').s2 (iu f' ((t + 1 : Nat) : Int) 0)).s0 gq).s1 f9).s1 f8) U := hV
    refine z_callV (ci := 4) (As := [.ref (a + 2), .int (jI ((sh + 1 : Nat) : Int)), .int (jI b), .ref (a + qq)]) K (c_R_store l G b0 h a (((((((S.s1 f).s1 (iu f nx c1)).s2 f').s2 (iu f' ((t + 1 : Nat) : Int) 0)).s0 gq).s1 f9).s1 f8) (F := gq) hq0 hx_r0 (by decide) (by omega) hb d1 fq') ca_R_80 im_R_store se_R_store rfl (by decide) (hx_R) rfl rfl (by decide) (Nat.le_of_ble_eq_true rfl) d_R_divide_212 (fun r h1 hp => ?_)
    obtain ⟨S2, rfl, rfl, k1, k2, n3, k3⟩ := hp
    rw [e1, hbq] at k3
    have fr' : dv f8 0 (t + 1) < BS ^ nR rr := by
      rw [j2']
      have : ((v.tmod w).natAbs : Int) < BS ^ nR rr := fr
      rw [tm_nat] at this
      exact this
    refine z_aload_n K d_R_divide_215 rfl ?_
    refine z_aload_n K d_R_divide_216 rfl ?_
    refine zx_gR K fd_R_15 rfl d_R_divide_217 ?_
    refine z_iload K d_R_divide_220 rfl ?_
    refine z_iload K d_R_divide_222 rfl ?_
    refine z_aload K d_R_divide_224 rfl ?_
    have hS2 : S2.r1 = f8 := k2.2.1
    refine z_callV (ci := 4) (As := [.ref (a + 3), .int (jI ((t + 1 : Nat) : Int)), .int (jI (S.B x)), .ref (a + rr)]) K (c_R_store l G b0 h a S2 (F := f8) hr0 (by rw [← hS2]; exact hx_r1) (by decide) (by omega) cx j1 fr') ca_R_80 im_R_store se_R_store rfl (by decide) (hx_R) rfl rfl (by decide) (Nat.le_of_ble_eq_true rfl) d_R_divide_226 (fun r h1 hp => ?_)
    obtain ⟨S3, rfl, rfl, k4, k5, n4, k6⟩ := hp
    rw [j2', sd3] at k6
    exact z_vret K hr hlk d_R_divide_229 ⟨_, rfl, rfl, (hV0.up k1 k3).up k4 k6, k4.2.trans k1.2⟩
  refine z_aload_n K d_R_divide_80 rfl ?_
  refine zx_gN K hx0 fd_R_30 rfl d_R_divide_81 ?_
  refine z_aload_n K d_R_divide_84 rfl ?_
  refine zx_gN K hy0 fd_R_30 rfl d_R_divide_85 ?_
  refine zi_icmp_eq (tgt := 95) K d_R_divide_88 (by decide) (by omega) (by omega) (fun hc => ?_) (fun hc => ?_)
  · refine z_iconst (v := jI 0) K d_R_divide_95 rfl ?_
    exact main 0 (Or.inl rfl) (by unfold sgn; rw [if_neg (by decide)]; exact sd1 hc) _ rfl
  · refine z_iconst (v := jI 1) K d_R_divide_91 rfl ?_
    refine z_goto (tgt := 96) K d_R_divide_92 (by decide) ?_
    exact main 1 (Or.inr rfl) (by unfold sgn; rw [if_pos rfl]; exact sd2 hc) _ rfl
end R10
