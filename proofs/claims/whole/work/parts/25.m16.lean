theorem gnz_r {a b : Int} (hb : b ≠ 0) : ((Int.gcd a b : Nat) : Int) ≠ 0 := by have := Int.gcd_pos_of_ne_zero_right a hb; omega
theorem gnz_l {a b : Int} (ha : a ≠ 0) : ((Int.gcd a b : Nat) : Int) ≠ 0 := by have := Int.gcd_pos_of_ne_zero_left b ha; omega
/-- the x of the third point, before it is cut: top, and the lower parts w w and w w w -/
def fX (A1 A2 nn ww dd ss : Int) : Int := nn * nn + A1 * nn * ww - A2 * (ww * ww) - dd * dd * ss
def fY (A1 A3 nn ww dd vv kk X : Int) : Int := nn * (dd * dd * vv - X) - A1 * X * ww - dd * dd * dd * kk - A3 * (ww * ww * ww)
theorem ne30 {q k : Int} (hq : q < 30) (hk : 30 ≤ k) : q ≠ k := by omega
section M16
variable {p : Program} {l : Launch} {e : Env} {R : Room} {s : State} {m : MethodId} {args : Array Value} {below : List Frame} {meth : Method} {c : Code} {Q : State → Prop} {b0 kc ks : Nat} {G : zG} {h : zH} {a : Nat} {cd : Int}

set_option maxHeartbeats 4000000 in
set_option maxRecDepth 100000 in
theorem t_M_finish332 (K : zC p s m args c b_M_finish R_M 1 b0 G) (hRm : 4 ≤ R.frames ∧ 103 ≤ R.locals ∧ kc ≤ R.cells ∧ ks ≤ R.slots) (T : mT) {V : Int → Int} {v49 u48 : Int} {mm : Nat} (hV : RV T V) (f49 : V 49 = v49) (f48 : V 48 = u48) (h48 : u48 ≠ 0) (b49 : lt9 v49 mm) (hm1 : mm ≤ 457)
    (hx : ∀ (T' : mT) (V' : Int → Int), RV T' V' → (∀ q : Int, q < 38 → V' q = V q) → V' 38 = v49.tdiv u48 → T'.2.2.2 = iu T.2.2.2 36 0 → zW p l e R s m args below meth c 1 b0 G kc ks Q (hm G h a cd T') 350 [] []) :
    zW p l e R s m args below meth c 1 b0 G kc ks Q (hm G h a cd T) 332 [(0, .ref a)] [] := by
  refine z_aload_n K d_M_finish_332 rfl ?_
  refine z_bipush (v := jI 38) K d_M_finish_333 rfl ?_
  refine z_bipush (v := jI 49) K d_M_finish_335 rfl ?_
  refine z_bipush (v := jI 48) K d_M_finish_337 rfl ?_
  refine z_callV (ci := 0) (As := [.int (jI 38), .int (jI 49), .int (jI 48)]) K (w_M_share l G b0 h a cd T (v := v49) (w := u48) hV (by decide) (by decide) (by decide) f49 f48 h48 b49 hm1) ca_M_109 im_M_share se_M_share rfl (by decide) hm_0 rfl rfl (by omega) (Nat.le_of_ble_eq_true rfl) d_M_finish_339 (fun o h1 hp => ?_)
  obtain ⟨T1, rfl, rfl, ⟨y1, z1, hV1⟩, hN1⟩ := hp
  refine z_aload_n K d_M_finish_342 rfl ?_
  refine zm_get K fd_M_19 rfl d_M_finish_343 ?_
  refine z_bipush (v := jI 36) K d_M_finish_346 rfl ?_
  refine z_iconst (v := jI 0) K d_M_finish_348 rfl ?_
  refine zm_nst K (by omega) (by omega) d_M_finish_349 ?_
  refine z_re [] rfl (hx _ _ (fun r h0 h1 => hV1 r h0 h1) (fun q hq => ?_) (iu_self _ _ _) ?_)
  · rw [iu_ne _ _ (by omega), iu_ne _ _ (by omega), iu_ne _ _ (by omega)]
  · dsimp only
    rw [hN1]
set_option maxHeartbeats 4000000 in
set_option maxRecDepth 100000 in
theorem t_M_finish299 (K : zC p s m args c b_M_finish R_M 1 b0 G) (hRm : 4 ≤ R.frames ∧ 103 ≤ R.locals ∧ kc ≤ R.cells ∧ ks ≤ R.slots) (T : mT) {V : Int → Int} {X Y ww : Int} {mm : Nat} (hV : RV T V) (f36 : V 36 = X.tdiv (Int.gcd X (ww * ww))) (f48 : V 48 = (ww * ww).tdiv (Int.gcd X (ww * ww))) (f37 : V 37 = Y.tdiv (Int.gcd Y (ww * ww * ww))) (f49 : V 49 = (ww * ww * ww).tdiv (Int.gcd Y (ww * ww * ww))) (b49 : lt9 ((ww * ww * ww).tdiv (Int.gcd Y (ww * ww * ww))) mm) (hm1 : mm ≤ 457) (hw0 : ww ≠ 0)
    (hx : ∀ (T' : mT) (V' : Int → Int), RV T' V' → (∀ q : Int, q < 30 → V' q = V q) → V' 36 = fUp X (ww * ww) → V' 37 = fUp Y (ww * ww * ww) → V' 38 = (fLo Y (ww * ww * ww)).tdiv (fLo X (ww * ww)) → T'.2.2.2 = iu T.2.2.2 36 0 → zW p l e R s m args below meth c 1 b0 G kc ks Q (hm G h a cd T') 350 [] []) :
    zW p l e R s m args below meth c 1 b0 G kc ks Q (hm G h a cd T) 299 [(0, .ref a)] [] := by
  have hww : 0 < ww * ww := by
    rcases Int.lt_trichotomy ww 0 with q | q | q
    · exact Int.mul_pos_of_neg_of_neg q q
    · exact absurd q hw0
    · exact Int.mul_pos q q
  have h3 : ww * ww * ww ≠ 0 := Int.mul_ne_zero (by omega) hw0
  have r36 : X.tdiv (Int.gcd X (ww * ww)) = fUp X (ww * ww) := by unfold fUp; rw [if_neg (by omega)]
  have r48 : (ww * ww).tdiv (Int.gcd X (ww * ww)) = fLo X (ww * ww) := by unfold fLo; rw [if_neg (by omega)]
  have n48 : fLo X (ww * ww) ≠ 0 := by
    have := f_pos (a := X) (b := ww * ww) (by omega)
    omega
  rw [r36] at f36
  rw [r48] at f48
  obtain ⟨c3, hc3⟩ : ∃ z : Int, z = ww * ww * ww := ⟨_, rfl⟩
  rw [← hc3] at f37 f49 b49 h3 hx
  have hx49 := td_exact (Int.gcd_dvd_right (a := Y) (b := c3))
  have gp := gcd_pos2 (a := Y) h3
  obtain ⟨n1, k1⟩ := hV 49 (by decide) (by decide)
  obtain ⟨n2, k2⟩ := hV 37 (by decide) (by decide)
  rw [f49] at k1
  rw [f37] at k2
  have s1 := sgn3 (c3.tdiv (Int.gcd Y c3))
  refine z_aload_n K d_M_finish_299 rfl ?_
  refine zm_get K fd_M_16 rfl d_M_finish_300 ?_
  refine z_bipush (v := jI 49) K d_M_finish_303 rfl ?_
  refine zm_sld K (by omega) d_M_finish_305 ?_
  rw [k1.2.2.2.2.1]
  refine zi_if_ge (tgt := 332) K d_M_finish_306 (by decide) (by omega) (fun hc => ?_) (fun hc => ?_)
  · have hnn : ¬ c3 < 0 := fun z => by
      rcases Int.lt_trichotomy (c3.tdiv (Int.gcd Y c3)) 0 with q | q | q
      · rw [Int.sign_eq_neg_one_of_neg q] at hc; omega
      · rw [q] at hx49; omega
      · have := Int.mul_pos q gp; omega
    have e1 : Y.tdiv (Int.gcd Y c3) = fUp Y c3 := by unfold fUp; rw [if_neg hnn]
    have e2 : c3.tdiv (Int.gcd Y c3) = fLo Y c3 := by unfold fLo; rw [if_neg hnn]
    rw [e1] at f37
    rw [e2] at f49 b49
    exact t_M_finish332 K hRm T hV f49 f48 n48 b49 hm1 (fun T' V' q1 q2 q3 q4 => hx T' V' q1 (fun q hq => q2 q (by omega)) ((q2 36 (by decide)).trans f36) ((q2 37 (by decide)).trans f37) q3 q4)
  · have hneg : c3.tdiv (Int.gcd Y c3) < 0 := Int.neg_of_sign_eq_neg_one (by omega)
    have hnn : c3 < 0 := by
      have := Int.mul_neg_of_neg_of_pos hneg gp
      omega
    have e1 : -(Y.tdiv (Int.gcd Y c3)) = fUp Y c3 := by unfold fUp; rw [if_pos hnn]
    have e2 : -(c3.tdiv (Int.gcd Y c3)) = fLo Y c3 := by unfold fLo; rw [if_pos hnn]
    obtain ⟨v37, hv37⟩ : ∃ z : Int, z = Y.tdiv (Int.gcd Y c3) := ⟨_, rfl⟩
    obtain ⟨v49, hv49⟩ : ∃ z : Int, z = c3.tdiv (Int.gcd Y c3) := ⟨_, rfl⟩
    rw [← hv37] at f37 k2 e1
    rw [← hv49] at f49 b49 e2 hneg
    refine z_aload_n K d_M_finish_309 rfl ?_
    refine zm_get K fd_M_16 rfl d_M_finish_310 ?_
    refine z_bipush (v := jI 49) K d_M_finish_313 rfl ?_
    refine z_iconst (v := jI 1) K d_M_finish_315 rfl ?_
    refine zm_sst K (by omega) d_M_finish_316 ?_
    have hV6 := RV.sign (r := 49) (sv := 1) hV ⟨by decide, by decide⟩ (Or.inl (by rw [f49]; omega)) (Or.inl rfl)
    refine z_aload_n K d_M_finish_317 rfl ?_
    refine zm_get K fd_M_16 rfl d_M_finish_318 ?_
    refine z_bipush (v := jI 37) K d_M_finish_321 rfl ?_
    refine z_aload_n K d_M_finish_323 rfl ?_
    refine zm_get K fd_M_16 rfl d_M_finish_324 ?_
    refine z_bipush (v := jI 37) K d_M_finish_327 rfl ?_
    refine zm_sld K (by omega) d_M_finish_329 ?_
    dsimp only
    rw [iu_ne _ _ (by decide), k2.2.2.2.2.1]
    refine zi_ineg K d_M_finish_330 ?_
    refine zm_sst K (by omega) d_M_finish_331 ?_
    dsimp only
    have s2 := sgn3 v37
    have e6 : iu V 49 (1 * ((V 49).natAbs : Int)) 37 = v37 := by rw [iu_ne _ _ (by decide), f37]
    have hV7 := RV.sign (r := 37) (sv := -v37.sign) hV6 ⟨by decide, by decide⟩ (by
      rw [e6]
      by_cases z : v37 = 0
      · right; rw [z]; rfl
      · left; exact z) (by
      rw [e6]
      rcases s2 with q | q | q
      · left; rw [q]; rfl
      · right; right; exact ⟨by rw [q]; rfl, Int.sign_eq_zero_iff_zero.mp q⟩
      · right; left; rw [q])
    rw [e6, f49, Int.neg_mul, Int.sign_mul_natAbs] at hV7
    refine t_M_finish332 (V := iu (iu V 49 (1 * (v49.natAbs : Int))) 37 (-v37)) K hRm _ hV7 (v49 := fLo Y c3) (by rw [iu_ne _ _ (by decide), iu_self, ← e2]; omega) (by rw [iu_ne _ _ (by decide), iu_ne _ _ (by decide)]; exact f48) n48 (e2 ▸ lt9_neg b49) hm1 (fun T' V' q1 q2 q3 q4 => hx T' V' q1 (fun q hq => ?_) ?_ ?_ q3 q4)
    · rw [q2 q (by omega), iu_ne _ _ (by omega), iu_ne _ _ (by omega)]
    · rw [q2 36 (by decide), iu_ne _ _ (by decide), iu_ne _ _ (by decide), f36]
    · rw [q2 37 (by decide), iu_self, e1]
set_option maxHeartbeats 4000000 in
set_option maxRecDepth 100000 in
theorem v_M_finish (l : Launch) (G : zG) (b0 : Nat) (h : zH) (a : Nat) (cd : Int) (T : mT) {V : Int → Int} {dd nn ww ss vv kk A1 A2 A3 A4 A6 : Int} (hV : RV T V) (cA1 : V 24 = A1) (cA2 : V 25 = A2) (cA3 : V 26 = A3) (cA4 : V 27 = A4) (cA6 : V 28 = A6) (bA1 : lt9 A1 1) (bA2 : lt9 A2 1) (bA3 : lt9 A3 1) (bA4 : lt9 A4 1) (bA6 : lt9 A6 1) (fD : V 43 = dd) (fN : V 42 = nn) (fW : V 44 = ww) (fS : V 50 = ss) (fV : V 49 = vv) (fK : V 39 = kk) (bD : lt9 dd 77) (bN : lt9 nn 116) (bW : lt9 ww 115) (bS : lt9 ss 77) (bV : lt9 vv 76) (bK : lt9 kk 115) (hw0 : ww ≠ 0) :
    mMet l G b0 y_M_finish b_M_finish 1 none 4 103 h a cd [] T (fun o T' => o = none ∧ (∃ V' : Int → Int, RV T' V' ∧ (∀ q : Int, q < 30 → V' q = V q) ∧ V' 36 = fUp (fX A1 A2 nn ww dd ss) (ww * ww) ∧ V' 37 = fUp (fY A1 A3 nn ww dd vv kk (fX A1 A2 nn ww dd ss)) (ww * ww * ww) ∧ V' 38 = (fLo (fY A1 A3 nn ww dd vv kk (fX A1 A2 nn ww dd ss)) (ww * ww * ww)).tdiv (fLo (fX A1 A2 nn ww dd ss) (ww * ww))) ∧ T'.2.2.2 = iu T.2.2.2 36 0) :=
  z_met (by decide) (Nat.le_of_ble_eq_true rfl) fun p e s m below meth c K hr hlk hnm => by
  have g0 : ∀ q : Int, q < 30 → V q = V q := fun _ _ => rfl
  refine z_aload_n K d_M_finish_0 rfl ?_
  refine z_bipush (v := jI 53) K d_M_finish_1 rfl ?_
  refine z_bipush (v := jI 43) K d_M_finish_3 rfl ?_
  refine z_bipush (v := jI 43) K d_M_finish_5 rfl ?_
  refine z_callV (ci := 0) (As := [.int (jI 53), .int (jI 43), .int (jI 43)]) K (w_M_multiply l G b0 h a cd T (v := dd) (w := dd) hV (by decide) (by decide) (by decide) (by decide) (by decide) fD fD bD bD (by decide)) ca_M_92 im_M_multiply se_M_multiply rfl (by decide) hm_0 rfl rfl (by decide) (Nat.le_of_ble_eq_true rfl) d_M_finish_7 (fun o h1 hp => ?_)
  obtain ⟨T1, rfl, rfl, hV1, hN1⟩ := hp
  obtain ⟨x1, e1⟩ : ∃ z : Int, z = dd * dd := ⟨_, rfl⟩
  rw [← e1] at hV1
  have b1 : lt9 x1 154 := by rw [e1]; have z := lt9_mul bD bD; exact z
  obtain ⟨V1, eV1⟩ : ∃ W : Int → Int, W = iu V 53 x1 := ⟨_, rfl⟩
  rw [← eV1] at hV1
  have f1_43 : V1 43 = dd := (by rw [eV1, iu_ne _ _ (by decide)] : V1 43 = V 43).trans fD
  have f1_42 : V1 42 = nn := (by rw [eV1, iu_ne _ _ (by decide)] : V1 42 = V 42).trans fN
  have f1_44 : V1 44 = ww := (by rw [eV1, iu_ne _ _ (by decide)] : V1 44 = V 44).trans fW
  have f1_50 : V1 50 = ss := (by rw [eV1, iu_ne _ _ (by decide)] : V1 50 = V 50).trans fS
  have f1_49 : V1 49 = vv := (by rw [eV1, iu_ne _ _ (by decide)] : V1 49 = V 49).trans fV
  have f1_39 : V1 39 = kk := (by rw [eV1, iu_ne _ _ (by decide)] : V1 39 = V 39).trans fK
  have f1_53 : V1 53 = x1 := by rw [eV1, iu_self]
  have g1 : ∀ q : Int, q < 30 → V1 q = V q := fun q hq => (by rw [eV1, iu_ne _ _ (ne30 hq (by decide))] : V1 q = V q).trans (g0 q hq)
  refine z_aload_n K d_M_finish_10 rfl ?_
  refine z_bipush (v := jI 54) K d_M_finish_11 rfl ?_
  refine z_bipush (v := jI 53) K d_M_finish_13 rfl ?_
  refine z_bipush (v := jI 50) K d_M_finish_15 rfl ?_
  refine z_callV (ci := 0) (As := [.int (jI 54), .int (jI 53), .int (jI 50)]) K (w_M_multiply l G b0 h a cd T1 (v := x1) (w := ss) hV1 (by decide) (by decide) (by decide) (by decide) (by decide) f1_53 f1_50 b1 bS (by decide)) ca_M_92 im_M_multiply se_M_multiply rfl (by decide) hm_0 rfl rfl (by decide) (Nat.le_of_ble_eq_true rfl) d_M_finish_17 (fun o h1 hp => ?_)
  obtain ⟨T2, rfl, rfl, hV2, hN2⟩ := hp
  obtain ⟨x2, e2⟩ : ∃ z : Int, z = x1 * ss := ⟨_, rfl⟩
  rw [← e2] at hV2
  have b2 : lt9 x2 231 := by rw [e2]; have z := lt9_mul b1 bS; exact z
  obtain ⟨V2, eV2⟩ : ∃ W : Int → Int, W = iu V1 54 x2 := ⟨_, rfl⟩
  rw [← eV2] at hV2
  have f2_43 : V2 43 = dd := (by rw [eV2, iu_ne _ _ (by decide)] : V2 43 = V1 43).trans f1_43
  have f2_42 : V2 42 = nn := (by rw [eV2, iu_ne _ _ (by decide)] : V2 42 = V1 42).trans f1_42
  have f2_44 : V2 44 = ww := (by rw [eV2, iu_ne _ _ (by decide)] : V2 44 = V1 44).trans f1_44
  have f2_50 : V2 50 = ss := (by rw [eV2, iu_ne _ _ (by decide)] : V2 50 = V1 50).trans f1_50
  have f2_49 : V2 49 = vv := (by rw [eV2, iu_ne _ _ (by decide)] : V2 49 = V1 49).trans f1_49
  have f2_39 : V2 39 = kk := (by rw [eV2, iu_ne _ _ (by decide)] : V2 39 = V1 39).trans f1_39
  have f2_53 : V2 53 = x1 := (by rw [eV2, iu_ne _ _ (by decide)] : V2 53 = V1 53).trans f1_53
  have f2_54 : V2 54 = x2 := by rw [eV2, iu_self]
  have g2 : ∀ q : Int, q < 30 → V2 q = V q := fun q hq => (by rw [eV2, iu_ne _ _ (ne30 hq (by decide))] : V2 q = V1 q).trans (g1 q hq)
  refine z_aload_n K d_M_finish_20 rfl ?_
  refine z_bipush (v := jI 54) K d_M_finish_21 rfl ?_
  refine z_bipush (v := jI 50) K d_M_finish_23 rfl ?_
  refine z_callV (ci := 0) (As := [.int (jI 54), .int (jI 50)]) K (w_M_copy l G b0 h a cd T2 (v := x2) hV2 (by decide) (by decide) f2_54) ca_M_40 im_M_copy se_M_copy rfl (by decide) hm_0 rfl rfl (by decide) (Nat.le_of_ble_eq_true rfl) d_M_finish_25 (fun o h1 hp => ?_)
  obtain ⟨T3, rfl, rfl, hV3, hN3⟩ := hp
  obtain ⟨V3, eV3⟩ : ∃ W : Int → Int, W = iu V2 50 x2 := ⟨_, rfl⟩
  rw [← eV3] at hV3
  have f3_43 : V3 43 = dd := (by rw [eV3, iu_ne _ _ (by decide)] : V3 43 = V2 43).trans f2_43
  have f3_42 : V3 42 = nn := (by rw [eV3, iu_ne _ _ (by decide)] : V3 42 = V2 42).trans f2_42
  have f3_44 : V3 44 = ww := (by rw [eV3, iu_ne _ _ (by decide)] : V3 44 = V2 44).trans f2_44
  have f3_49 : V3 49 = vv := (by rw [eV3, iu_ne _ _ (by decide)] : V3 49 = V2 49).trans f2_49
  have f3_39 : V3 39 = kk := (by rw [eV3, iu_ne _ _ (by decide)] : V3 39 = V2 39).trans f2_39
  have f3_53 : V3 53 = x1 := (by rw [eV3, iu_ne _ _ (by decide)] : V3 53 = V2 53).trans f2_53
  have f3_54 : V3 54 = x2 := (by rw [eV3, iu_ne _ _ (by decide)] : V3 54 = V2 54).trans f2_54
  have f3_50 : V3 50 = x2 := by rw [eV3, iu_self]
  have g3 : ∀ q : Int, q < 30 → V3 q = V q := fun q hq => (by rw [eV3, iu_ne _ _ (ne30 hq (by decide))] : V3 q = V2 q).trans (g2 q hq)
  refine z_aload_n K d_M_finish_28 rfl ?_
  refine z_bipush (v := jI 45) K d_M_finish_29 rfl ?_
  refine z_bipush (v := jI 42) K d_M_finish_31 rfl ?_
  refine z_bipush (v := jI 42) K d_M_finish_33 rfl ?_
  refine z_callV (ci := 0) (As := [.int (jI 45), .int (jI 42), .int (jI 42)]) K (w_M_multiply l G b0 h a cd T3 (v := nn) (w := nn) hV3 (by decide) (by decide) (by decide) (by decide) (by decide) f3_42 f3_42 bN bN (by decide)) ca_M_92 im_M_multiply se_M_multiply rfl (by decide) hm_0 rfl rfl (by decide) (Nat.le_of_ble_eq_true rfl) d_M_finish_35 (fun o h1 hp => ?_)
  obtain ⟨T4, rfl, rfl, hV4, hN4⟩ := hp
  obtain ⟨x4, e4⟩ : ∃ z : Int, z = nn * nn := ⟨_, rfl⟩
  rw [← e4] at hV4
  have b4 : lt9 x4 232 := by rw [e4]; have z := lt9_mul bN bN; exact z
  obtain ⟨V4, eV4⟩ : ∃ W : Int → Int, W = iu V3 45 x4 := ⟨_, rfl⟩
  rw [← eV4] at hV4
  have f4_43 : V4 43 = dd := (by rw [eV4, iu_ne _ _ (by decide)] : V4 43 = V3 43).trans f3_43
  have f4_42 : V4 42 = nn := (by rw [eV4, iu_ne _ _ (by decide)] : V4 42 = V3 42).trans f3_42
  have f4_44 : V4 44 = ww := (by rw [eV4, iu_ne _ _ (by decide)] : V4 44 = V3 44).trans f3_44
  have f4_49 : V4 49 = vv := (by rw [eV4, iu_ne _ _ (by decide)] : V4 49 = V3 49).trans f3_49
  have f4_39 : V4 39 = kk := (by rw [eV4, iu_ne _ _ (by decide)] : V4 39 = V3 39).trans f3_39
  have f4_53 : V4 53 = x1 := (by rw [eV4, iu_ne _ _ (by decide)] : V4 53 = V3 53).trans f3_53
  have f4_54 : V4 54 = x2 := (by rw [eV4, iu_ne _ _ (by decide)] : V4 54 = V3 54).trans f3_54
  have f4_50 : V4 50 = x2 := (by rw [eV4, iu_ne _ _ (by decide)] : V4 50 = V3 50).trans f3_50
  have f4_45 : V4 45 = x4 := by rw [eV4, iu_self]
  have g4 : ∀ q : Int, q < 30 → V4 q = V q := fun q hq => (by rw [eV4, iu_ne _ _ (ne30 hq (by decide))] : V4 q = V3 q).trans (g3 q hq)
  refine z_aload_n K d_M_finish_38 rfl ?_
  refine z_bipush (v := jI 54) K d_M_finish_39 rfl ?_
  refine z_bipush (v := jI 24) K d_M_finish_41 rfl ?_
  refine z_bipush (v := jI 42) K d_M_finish_43 rfl ?_
  refine z_callV (ci := 0) (As := [.int (jI 54), .int (jI 24), .int (jI 42)]) K (w_M_multiply l G b0 h a cd T4 (v := A1) (w := nn) hV4 (by decide) (by decide) (by decide) (by decide) (by decide) ((g4 24 (by decide)).trans cA1) f4_42 bA1 bN (by decide)) ca_M_92 im_M_multiply se_M_multiply rfl (by decide) hm_0 rfl rfl (by decide) (Nat.le_of_ble_eq_true rfl) d_M_finish_45 (fun o h1 hp => ?_)
  obtain ⟨T5, rfl, rfl, hV5, hN5⟩ := hp
  obtain ⟨x5, e5⟩ : ∃ z : Int, z = A1 * nn := ⟨_, rfl⟩
  rw [← e5] at hV5
  have b5 : lt9 x5 117 := by rw [e5]; have z := lt9_mul bA1 bN; exact z
  obtain ⟨V5, eV5⟩ : ∃ W : Int → Int, W = iu V4 54 x5 := ⟨_, rfl⟩
  rw [← eV5] at hV5
  have f5_43 : V5 43 = dd := (by rw [eV5, iu_ne _ _ (by decide)] : V5 43 = V4 43).trans f4_43
  have f5_42 : V5 42 = nn := (by rw [eV5, iu_ne _ _ (by decide)] : V5 42 = V4 42).trans f4_42
  have f5_44 : V5 44 = ww := (by rw [eV5, iu_ne _ _ (by decide)] : V5 44 = V4 44).trans f4_44
  have f5_49 : V5 49 = vv := (by rw [eV5, iu_ne _ _ (by decide)] : V5 49 = V4 49).trans f4_49
  have f5_39 : V5 39 = kk := (by rw [eV5, iu_ne _ _ (by decide)] : V5 39 = V4 39).trans f4_39
  have f5_53 : V5 53 = x1 := (by rw [eV5, iu_ne _ _ (by decide)] : V5 53 = V4 53).trans f4_53
  have f5_50 : V5 50 = x2 := (by rw [eV5, iu_ne _ _ (by decide)] : V5 50 = V4 50).trans f4_50
  have f5_45 : V5 45 = x4 := (by rw [eV5, iu_ne _ _ (by decide)] : V5 45 = V4 45).trans f4_45
  have f5_54 : V5 54 = x5 := by rw [eV5, iu_self]
  have g5 : ∀ q : Int, q < 30 → V5 q = V q := fun q hq => (by rw [eV5, iu_ne _ _ (ne30 hq (by decide))] : V5 q = V4 q).trans (g4 q hq)
  refine z_aload_n K d_M_finish_48 rfl ?_
  refine z_bipush (v := jI 46) K d_M_finish_49 rfl ?_
  refine z_bipush (v := jI 54) K d_M_finish_51 rfl ?_
  refine z_bipush (v := jI 44) K d_M_finish_53 rfl ?_
  refine z_callV (ci := 0) (As := [.int (jI 46), .int (jI 54), .int (jI 44)]) K (w_M_multiply l G b0 h a cd T5 (v := x5) (w := ww) hV5 (by decide) (by decide) (by decide) (by decide) (by decide) f5_54 f5_44 b5 bW (by decide)) ca_M_92 im_M_multiply se_M_multiply rfl (by decide) hm_0 rfl rfl (by decide) (Nat.le_of_ble_eq_true rfl) d_M_finish_55 (fun o h1 hp => ?_)
  obtain ⟨T6, rfl, rfl, hV6, hN6⟩ := hp
  obtain ⟨x6, e6⟩ : ∃ z : Int, z = x5 * ww := ⟨_, rfl⟩
  rw [← e6] at hV6
  have b6 : lt9 x6 232 := by rw [e6]; have z := lt9_mul b5 bW; exact z
  obtain ⟨V6, eV6⟩ : ∃ W : Int → Int, W = iu V5 46 x6 := ⟨_, rfl⟩
  rw [← eV6] at hV6
  have f6_43 : V6 43 = dd := (by rw [eV6, iu_ne _ _ (by decide)] : V6 43 = V5 43).trans f5_43
  have f6_42 : V6 42 = nn := (by rw [eV6, iu_ne _ _ (by decide)] : V6 42 = V5 42).trans f5_42
  have f6_44 : V6 44 = ww := (by rw [eV6, iu_ne _ _ (by decide)] : V6 44 = V5 44).trans f5_44
  have f6_49 : V6 49 = vv := (by rw [eV6, iu_ne _ _ (by decide)] : V6 49 = V5 49).trans f5_49
  have f6_39 : V6 39 = kk := (by rw [eV6, iu_ne _ _ (by decide)] : V6 39 = V5 39).trans f5_39
  have f6_53 : V6 53 = x1 := (by rw [eV6, iu_ne _ _ (by decide)] : V6 53 = V5 53).trans f5_53
  have f6_50 : V6 50 = x2 := (by rw [eV6, iu_ne _ _ (by decide)] : V6 50 = V5 50).trans f5_50
  have f6_45 : V6 45 = x4 := (by rw [eV6, iu_ne _ _ (by decide)] : V6 45 = V5 45).trans f5_45
  have f6_54 : V6 54 = x5 := (by rw [eV6, iu_ne _ _ (by decide)] : V6 54 = V5 54).trans f5_54
  have f6_46 : V6 46 = x6 := by rw [eV6, iu_self]
  have g6 : ∀ q : Int, q < 30 → V6 q = V q := fun q hq => (by rw [eV6, iu_ne _ _ (ne30 hq (by decide))] : V6 q = V5 q).trans (g5 q hq)
  refine z_aload_n K d_M_finish_58 rfl ?_
  refine z_bipush (v := jI 45) K d_M_finish_59 rfl ?_
  refine z_bipush (v := jI 45) K d_M_finish_61 rfl ?_
  refine z_bipush (v := jI 46) K d_M_finish_63 rfl ?_
  refine z_iconst (v := jI 1) K d_M_finish_65 rfl ?_
  refine z_callV (ci := 0) (As := [.int (jI 45), .int (jI 45), .int (jI 46), .int (jI 1)]) K (w_M_add l G b0 h a cd T6 (v := x4) (w := x6) hV6 (by decide) (by decide) (by decide) (by decide) f6_45 f6_46 b4 b6 (by decide) (by decide)) ca_M_83 im_M_add se_M_add rfl (by decide) hm_0 rfl rfl (by decide) (Nat.le_of_ble_eq_true rfl) d_M_finish_66 (fun o h1 hp => ?_)
  obtain ⟨T7, rfl, rfl, hV7, hN7⟩ := hp
  obtain ⟨x7, e7⟩ : ∃ z : Int, z = x4 + x6 := ⟨_, rfl⟩
  rw [Int.one_mul, ← e7] at hV7
  have b7 : lt9 x7 233 := by rw [e7]; have z := lt9_add b4 b6; exact z
  obtain ⟨V7, eV7⟩ : ∃ W : Int → Int, W = iu V6 45 x7 := ⟨_, rfl⟩
  rw [← eV7] at hV7
  have f7_43 : V7 43 = dd := (by rw [eV7, iu_ne _ _ (by decide)] : V7 43 = V6 43).trans f6_43
  have f7_42 : V7 42 = nn := (by rw [eV7, iu_ne _ _ (by decide)] : V7 42 = V6 42).trans f6_42
  have f7_44 : V7 44 = ww := (by rw [eV7, iu_ne _ _ (by decide)] : V7 44 = V6 44).trans f6_44
  have f7_49 : V7 49 = vv := (by rw [eV7, iu_ne _ _ (by decide)] : V7 49 = V6 49).trans f6_49
  have f7_39 : V7 39 = kk := (by rw [eV7, iu_ne _ _ (by decide)] : V7 39 = V6 39).trans f6_39
  have f7_53 : V7 53 = x1 := (by rw [eV7, iu_ne _ _ (by decide)] : V7 53 = V6 53).trans f6_53
  have f7_50 : V7 50 = x2 := (by rw [eV7, iu_ne _ _ (by decide)] : V7 50 = V6 50).trans f6_50
  have f7_54 : V7 54 = x5 := (by rw [eV7, iu_ne _ _ (by decide)] : V7 54 = V6 54).trans f6_54
  have f7_46 : V7 46 = x6 := (by rw [eV7, iu_ne _ _ (by decide)] : V7 46 = V6 46).trans f6_46
  have f7_45 : V7 45 = x7 := by rw [eV7, iu_self]
  have g7 : ∀ q : Int, q < 30 → V7 q = V q := fun q hq => (by rw [eV7, iu_ne _ _ (ne30 hq (by decide))] : V7 q = V6 q).trans (g6 q hq)
  refine z_aload_n K d_M_finish_69 rfl ?_
  refine z_bipush (v := jI 54) K d_M_finish_70 rfl ?_
  refine z_bipush (v := jI 44) K d_M_finish_72 rfl ?_
  refine z_bipush (v := jI 44) K d_M_finish_74 rfl ?_
  refine z_callV (ci := 0) (As := [.int (jI 54), .int (jI 44), .int (jI 44)]) K (w_M_multiply l G b0 h a cd T7 (v := ww) (w := ww) hV7 (by decide) (by decide) (by decide) (by decide) (by decide) f7_44 f7_44 bW bW (by decide)) ca_M_92 im_M_multiply se_M_multiply rfl (by decide) hm_0 rfl rfl (by decide) (Nat.le_of_ble_eq_true rfl) d_M_finish_76 (fun o h1 hp => ?_)
  obtain ⟨T8, rfl, rfl, hV8, hN8⟩ := hp
  obtain ⟨x8, e8⟩ : ∃ z : Int, z = ww * ww := ⟨_, rfl⟩
  rw [← e8] at hV8
  have b8 : lt9 x8 230 := by rw [e8]; have z := lt9_mul bW bW; exact z
  obtain ⟨V8, eV8⟩ : ∃ W : Int → Int, W = iu V7 54 x8 := ⟨_, rfl⟩
  rw [← eV8] at hV8
  have f8_43 : V8 43 = dd := (by rw [eV8, iu_ne _ _ (by decide)] : V8 43 = V7 43).trans f7_43
  have f8_42 : V8 42 = nn := (by rw [eV8, iu_ne _ _ (by decide)] : V8 42 = V7 42).trans f7_42
  have f8_44 : V8 44 = ww := (by rw [eV8, iu_ne _ _ (by decide)] : V8 44 = V7 44).trans f7_44
  have f8_49 : V8 49 = vv := (by rw [eV8, iu_ne _ _ (by decide)] : V8 49 = V7 49).trans f7_49
  have f8_39 : V8 39 = kk := (by rw [eV8, iu_ne _ _ (by decide)] : V8 39 = V7 39).trans f7_39
  have f8_53 : V8 53 = x1 := (by rw [eV8, iu_ne _ _ (by decide)] : V8 53 = V7 53).trans f7_53
  have f8_50 : V8 50 = x2 := (by rw [eV8, iu_ne _ _ (by decide)] : V8 50 = V7 50).trans f7_50
  have f8_46 : V8 46 = x6 := (by rw [eV8, iu_ne _ _ (by decide)] : V8 46 = V7 46).trans f7_46
  have f8_45 : V8 45 = x7 := (by rw [eV8, iu_ne _ _ (by decide)] : V8 45 = V7 45).trans f7_45
  have f8_54 : V8 54 = x8 := by rw [eV8, iu_self]
  have g8 : ∀ q : Int, q < 30 → V8 q = V q := fun q hq => (by rw [eV8, iu_ne _ _ (ne30 hq (by decide))] : V8 q = V7 q).trans (g7 q hq)
  have nx8 : x8 ≠ 0 := by rw [e8]; exact Int.mul_ne_zero hw0 hw0
  refine z_aload_n K d_M_finish_79 rfl ?_
  refine z_bipush (v := jI 46) K d_M_finish_80 rfl ?_
  refine z_bipush (v := jI 25) K d_M_finish_82 rfl ?_
  refine z_bipush (v := jI 54) K d_M_finish_84 rfl ?_
  refine z_callV (ci := 0) (As := [.int (jI 46), .int (jI 25), .int (jI 54)]) K (w_M_multiply l G b0 h a cd T8 (v := A2) (w := x8) hV8 (by decide) (by decide) (by decide) (by decide) (by decide) ((g8 25 (by decide)).trans cA2) f8_54 bA2 b8 (by decide)) ca_M_92 im_M_multiply se_M_multiply rfl (by decide) hm_0 rfl rfl (by decide) (Nat.le_of_ble_eq_true rfl) d_M_finish_86 (fun o h1 hp => ?_)
  obtain ⟨T9, rfl, rfl, hV9, hN9⟩ := hp
  obtain ⟨x9, e9⟩ : ∃ z : Int, z = A2 * x8 := ⟨_, rfl⟩
  rw [← e9] at hV9
  have b9 : lt9 x9 231 := by rw [e9]; have z := lt9_mul bA2 b8; exact z
  obtain ⟨V9, eV9⟩ : ∃ W : Int → Int, W = iu V8 46 x9 := ⟨_, rfl⟩
  rw [← eV9] at hV9
  have f9_43 : V9 43 = dd := (by rw [eV9, iu_ne _ _ (by decide)] : V9 43 = V8 43).trans f8_43
  have f9_42 : V9 42 = nn := (by rw [eV9, iu_ne _ _ (by decide)] : V9 42 = V8 42).trans f8_42
  have f9_44 : V9 44 = ww := (by rw [eV9, iu_ne _ _ (by decide)] : V9 44 = V8 44).trans f8_44
  have f9_49 : V9 49 = vv := (by rw [eV9, iu_ne _ _ (by decide)] : V9 49 = V8 49).trans f8_49
  have f9_39 : V9 39 = kk := (by rw [eV9, iu_ne _ _ (by decide)] : V9 39 = V8 39).trans f8_39
  have f9_53 : V9 53 = x1 := (by rw [eV9, iu_ne _ _ (by decide)] : V9 53 = V8 53).trans f8_53
  have f9_50 : V9 50 = x2 := (by rw [eV9, iu_ne _ _ (by decide)] : V9 50 = V8 50).trans f8_50
  have f9_45 : V9 45 = x7 := (by rw [eV9, iu_ne _ _ (by decide)] : V9 45 = V8 45).trans f8_45
  have f9_54 : V9 54 = x8 := (by rw [eV9, iu_ne _ _ (by decide)] : V9 54 = V8 54).trans f8_54
  have f9_46 : V9 46 = x9 := by rw [eV9, iu_self]
  have g9 : ∀ q : Int, q < 30 → V9 q = V q := fun q hq => (by rw [eV9, iu_ne _ _ (ne30 hq (by decide))] : V9 q = V8 q).trans (g8 q hq)
  refine z_aload_n K d_M_finish_89 rfl ?_
  refine z_bipush (v := jI 45) K d_M_finish_90 rfl ?_
  refine z_bipush (v := jI 45) K d_M_finish_92 rfl ?_
  refine z_bipush (v := jI 46) K d_M_finish_94 rfl ?_
  refine z_iconst (v := jI (-1)) K d_M_finish_96 rfl ?_
  refine z_callV (ci := 0) (As := [.int (jI 45), .int (jI 45), .int (jI 46), .int (jI (-1))]) K (w_M_add l G b0 h a cd T9 (v := x7) (w := x9) hV9 (by decide) (by decide) (by decide) (by decide) f9_45 f9_46 b7 b9 (by decide) (by decide)) ca_M_83 im_M_add se_M_add rfl (by decide) hm_0 rfl rfl (by decide) (Nat.le_of_ble_eq_true rfl) d_M_finish_97 (fun o h1 hp => ?_)
  obtain ⟨T10, rfl, rfl, hV10, hN10⟩ := hp
  obtain ⟨x10, e10⟩ : ∃ z : Int, z = x7 - x9 := ⟨_, rfl⟩
  rw [Int.neg_mul, Int.one_mul, ← Int.sub_eq_add_neg, ← e10] at hV10
  have b10 : lt9 x10 234 := by rw [e10]; have z := lt9_sub b7 b9; exact z
  obtain ⟨V10, eV10⟩ : ∃ W : Int → Int, W = iu V9 45 x10 := ⟨_, rfl⟩
  rw [← eV10] at hV10
  have f10_43 : V10 43 = dd := (by rw [eV10, iu_ne _ _ (by decide)] : V10 43 = V9 43).trans f9_43
  have f10_42 : V10 42 = nn := (by rw [eV10, iu_ne _ _ (by decide)] : V10 42 = V9 42).trans f9_42
  have f10_44 : V10 44 = ww := (by rw [eV10, iu_ne _ _ (by decide)] : V10 44 = V9 44).trans f9_44
  have f10_49 : V10 49 = vv := (by rw [eV10, iu_ne _ _ (by decide)] : V10 49 = V9 49).trans f9_49
  have f10_39 : V10 39 = kk := (by rw [eV10, iu_ne _ _ (by decide)] : V10 39 = V9 39).trans f9_39
  have f10_53 : V10 53 = x1 := (by rw [eV10, iu_ne _ _ (by decide)] : V10 53 = V9 53).trans f9_53
  have f10_50 : V10 50 = x2 := (by rw [eV10, iu_ne _ _ (by decide)] : V10 50 = V9 50).trans f9_50
  have f10_54 : V10 54 = x8 := (by rw [eV10, iu_ne _ _ (by decide)] : V10 54 = V9 54).trans f9_54
  have f10_46 : V10 46 = x9 := (by rw [eV10, iu_ne _ _ (by decide)] : V10 46 = V9 46).trans f9_46
  have f10_45 : V10 45 = x10 := by rw [eV10, iu_self]
  have g10 : ∀ q : Int, q < 30 → V10 q = V q := fun q hq => (by rw [eV10, iu_ne _ _ (ne30 hq (by decide))] : V10 q = V9 q).trans (g9 q hq)
  refine z_aload_n K d_M_finish_100 rfl ?_
  refine z_bipush (v := jI 45) K d_M_finish_101 rfl ?_
  refine z_bipush (v := jI 45) K d_M_finish_103 rfl ?_
  refine z_bipush (v := jI 50) K d_M_finish_105 rfl ?_
  refine z_iconst (v := jI (-1)) K d_M_finish_107 rfl ?_
  refine z_callV (ci := 0) (As := [.int (jI 45), .int (jI 45), .int (jI 50), .int (jI (-1))]) K (w_M_add l G b0 h a cd T10 (v := x10) (w := x2) hV10 (by decide) (by decide) (by decide) (by decide) f10_45 f10_50 b10 b2 (by decide) (by decide)) ca_M_83 im_M_add se_M_add rfl (by decide) hm_0 rfl rfl (by decide) (Nat.le_of_ble_eq_true rfl) d_M_finish_108 (fun o h1 hp => ?_)
  obtain ⟨T11, rfl, rfl, hV11, hN11⟩ := hp
  obtain ⟨x11, e11⟩ : ∃ z : Int, z = x10 - x2 := ⟨_, rfl⟩
  rw [Int.neg_mul, Int.one_mul, ← Int.sub_eq_add_neg, ← e11] at hV11
  have b11 : lt9 x11 235 := by rw [e11]; have z := lt9_sub b10 b2; exact z
  obtain ⟨V11, eV11⟩ : ∃ W : Int → Int, W = iu V10 45 x11 := ⟨_, rfl⟩
  rw [← eV11] at hV11
  have f11_43 : V11 43 = dd := (by rw [eV11, iu_ne _ _ (by decide)] : V11 43 = V10 43).trans f10_43
  have f11_42 : V11 42 = nn := (by rw [eV11, iu_ne _ _ (by decide)] : V11 42 = V10 42).trans f10_42
  have f11_44 : V11 44 = ww := (by rw [eV11, iu_ne _ _ (by decide)] : V11 44 = V10 44).trans f10_44
  have f11_49 : V11 49 = vv := (by rw [eV11, iu_ne _ _ (by decide)] : V11 49 = V10 49).trans f10_49
  have f11_39 : V11 39 = kk := (by rw [eV11, iu_ne _ _ (by decide)] : V11 39 = V10 39).trans f10_39
  have f11_53 : V11 53 = x1 := (by rw [eV11, iu_ne _ _ (by decide)] : V11 53 = V10 53).trans f10_53
  have f11_50 : V11 50 = x2 := (by rw [eV11, iu_ne _ _ (by decide)] : V11 50 = V10 50).trans f10_50
  have f11_54 : V11 54 = x8 := (by rw [eV11, iu_ne _ _ (by decide)] : V11 54 = V10 54).trans f10_54
  have f11_46 : V11 46 = x9 := (by rw [eV11, iu_ne _ _ (by decide)] : V11 46 = V10 46).trans f10_46
  have f11_45 : V11 45 = x11 := by rw [eV11, iu_self]
  have g11 : ∀ q : Int, q < 30 → V11 q = V q := fun q hq => (by rw [eV11, iu_ne _ _ (ne30 hq (by decide))] : V11 q = V10 q).trans (g10 q hq)
  refine z_aload_n K d_M_finish_111 rfl ?_
  refine z_bipush (v := jI 50) K d_M_finish_112 rfl ?_
  refine z_bipush (v := jI 53) K d_M_finish_114 rfl ?_
  refine z_bipush (v := jI 49) K d_M_finish_116 rfl ?_
  refine z_callV (ci := 0) (As := [.int (jI 50), .int (jI 53), .int (jI 49)]) K (w_M_multiply l G b0 h a cd T11 (v := x1) (w := vv) hV11 (by decide) (by decide) (by decide) (by decide) (by decide) f11_53 f11_49 b1 bV (by decide)) ca_M_92 im_M_multiply se_M_multiply rfl (by decide) hm_0 rfl rfl (by decide) (Nat.le_of_ble_eq_true rfl) d_M_finish_118 (fun o h1 hp => ?_)
  obtain ⟨T12, rfl, rfl, hV12, hN12⟩ := hp
  obtain ⟨x12, e12⟩ : ∃ z : Int, z = x1 * vv := ⟨_, rfl⟩
  rw [← e12] at hV12
  have b12 : lt9 x12 230 := by rw [e12]; have z := lt9_mul b1 bV; exact z
  obtain ⟨V12, eV12⟩ : ∃ W : Int → Int, W = iu V11 50 x12 := ⟨_, rfl⟩
  rw [← eV12] at hV12
  have f12_43 : V12 43 = dd := (by rw [eV12, iu_ne _ _ (by decide)] : V12 43 = V11 43).trans f11_43
  have f12_42 : V12 42 = nn := (by rw [eV12, iu_ne _ _ (by decide)] : V12 42 = V11 42).trans f11_42
  have f12_44 : V12 44 = ww := (by rw [eV12, iu_ne _ _ (by decide)] : V12 44 = V11 44).trans f11_44
  have f12_49 : V12 49 = vv := (by rw [eV12, iu_ne _ _ (by decide)] : V12 49 = V11 49).trans f11_49
  have f12_39 : V12 39 = kk := (by rw [eV12, iu_ne _ _ (by decide)] : V12 39 = V11 39).trans f11_39
  have f12_53 : V12 53 = x1 := (by rw [eV12, iu_ne _ _ (by decide)] : V12 53 = V11 53).trans f11_53
  have f12_54 : V12 54 = x8 := (by rw [eV12, iu_ne _ _ (by decide)] : V12 54 = V11 54).trans f11_54
  have f12_46 : V12 46 = x9 := (by rw [eV12, iu_ne _ _ (by decide)] : V12 46 = V11 46).trans f11_46
  have f12_45 : V12 45 = x11 := (by rw [eV12, iu_ne _ _ (by decide)] : V12 45 = V11 45).trans f11_45
  have f12_50 : V12 50 = x12 := by rw [eV12, iu_self]
  have g12 : ∀ q : Int, q < 30 → V12 q = V q := fun q hq => (by rw [eV12, iu_ne _ _ (ne30 hq (by decide))] : V12 q = V11 q).trans (g11 q hq)
  refine z_aload_n K d_M_finish_121 rfl ?_
  refine z_bipush (v := jI 50) K d_M_finish_122 rfl ?_
  refine z_bipush (v := jI 50) K d_M_finish_124 rfl ?_
  refine z_bipush (v := jI 45) K d_M_finish_126 rfl ?_
  refine z_iconst (v := jI (-1)) K d_M_finish_128 rfl ?_
  refine z_callV (ci := 0) (As := [.int (jI 50), .int (jI 50), .int (jI 45), .int (jI (-1))]) K (w_M_add l G b0 h a cd T12 (v := x12) (w := x11) hV12 (by decide) (by decide) (by decide) (by decide) f12_50 f12_45 b12 b11 (by decide) (by decide)) ca_M_83 im_M_add se_M_add rfl (by decide) hm_0 rfl rfl (by decide) (Nat.le_of_ble_eq_true rfl) d_M_finish_129 (fun o h1 hp => ?_)
  obtain ⟨T13, rfl, rfl, hV13, hN13⟩ := hp
  obtain ⟨x13, e13⟩ : ∃ z : Int, z = x12 - x11 := ⟨_, rfl⟩
  rw [Int.neg_mul, Int.one_mul, ← Int.sub_eq_add_neg, ← e13] at hV13
  have b13 : lt9 x13 236 := by rw [e13]; have z := lt9_sub b12 b11; exact z
  obtain ⟨V13, eV13⟩ : ∃ W : Int → Int, W = iu V12 50 x13 := ⟨_, rfl⟩
  rw [← eV13] at hV13
  have f13_43 : V13 43 = dd := (by rw [eV13, iu_ne _ _ (by decide)] : V13 43 = V12 43).trans f12_43
  have f13_42 : V13 42 = nn := (by rw [eV13, iu_ne _ _ (by decide)] : V13 42 = V12 42).trans f12_42
  have f13_44 : V13 44 = ww := (by rw [eV13, iu_ne _ _ (by decide)] : V13 44 = V12 44).trans f12_44
  have f13_49 : V13 49 = vv := (by rw [eV13, iu_ne _ _ (by decide)] : V13 49 = V12 49).trans f12_49
  have f13_39 : V13 39 = kk := (by rw [eV13, iu_ne _ _ (by decide)] : V13 39 = V12 39).trans f12_39
  have f13_53 : V13 53 = x1 := (by rw [eV13, iu_ne _ _ (by decide)] : V13 53 = V12 53).trans f12_53
  have f13_54 : V13 54 = x8 := (by rw [eV13, iu_ne _ _ (by decide)] : V13 54 = V12 54).trans f12_54
  have f13_46 : V13 46 = x9 := (by rw [eV13, iu_ne _ _ (by decide)] : V13 46 = V12 46).trans f12_46
  have f13_45 : V13 45 = x11 := (by rw [eV13, iu_ne _ _ (by decide)] : V13 45 = V12 45).trans f12_45
  have f13_50 : V13 50 = x13 := by rw [eV13, iu_self]
  have g13 : ∀ q : Int, q < 30 → V13 q = V q := fun q hq => (by rw [eV13, iu_ne _ _ (ne30 hq (by decide))] : V13 q = V12 q).trans (g12 q hq)
  refine z_aload_n K d_M_finish_132 rfl ?_
  refine z_bipush (v := jI 46) K d_M_finish_133 rfl ?_
  refine z_bipush (v := jI 42) K d_M_finish_135 rfl ?_
  refine z_bipush (v := jI 50) K d_M_finish_137 rfl ?_
  refine z_callV (ci := 0) (As := [.int (jI 46), .int (jI 42), .int (jI 50)]) K (w_M_multiply l G b0 h a cd T13 (v := nn) (w := x13) hV13 (by decide) (by decide) (by decide) (by decide) (by decide) f13_42 f13_50 bN b13 (by decide)) ca_M_92 im_M_multiply se_M_multiply rfl (by decide) hm_0 rfl rfl (by decide) (Nat.le_of_ble_eq_true rfl) d_M_finish_139 (fun o h1 hp => ?_)
  obtain ⟨T14, rfl, rfl, hV14, hN14⟩ := hp
  obtain ⟨x14, e14⟩ : ∃ z : Int, z = nn * x13 := ⟨_, rfl⟩
  rw [← e14] at hV14
  have b14 : lt9 x14 352 := by rw [e14]; have z := lt9_mul bN b13; exact z
  obtain ⟨V14, eV14⟩ : ∃ W : Int → Int, W = iu V13 46 x14 := ⟨_, rfl⟩
  rw [← eV14] at hV14
  have f14_43 : V14 43 = dd := (by rw [eV14, iu_ne _ _ (by decide)] : V14 43 = V13 43).trans f13_43
  have f14_42 : V14 42 = nn := (by rw [eV14, iu_ne _ _ (by decide)] : V14 42 = V13 42).trans f13_42
  have f14_44 : V14 44 = ww := (by rw [eV14, iu_ne _ _ (by decide)] : V14 44 = V13 44).trans f13_44
  have f14_49 : V14 49 = vv := (by rw [eV14, iu_ne _ _ (by decide)] : V14 49 = V13 49).trans f13_49
  have f14_39 : V14 39 = kk := (by rw [eV14, iu_ne _ _ (by decide)] : V14 39 = V13 39).trans f13_39
  have f14_53 : V14 53 = x1 := (by rw [eV14, iu_ne _ _ (by decide)] : V14 53 = V13 53).trans f13_53
  have f14_54 : V14 54 = x8 := (by rw [eV14, iu_ne _ _ (by decide)] : V14 54 = V13 54).trans f13_54
  have f14_45 : V14 45 = x11 := (by rw [eV14, iu_ne _ _ (by decide)] : V14 45 = V13 45).trans f13_45
  have f14_50 : V14 50 = x13 := (by rw [eV14, iu_ne _ _ (by decide)] : V14 50 = V13 50).trans f13_50
  have f14_46 : V14 46 = x14 := by rw [eV14, iu_self]
  have g14 : ∀ q : Int, q < 30 → V14 q = V q := fun q hq => (by rw [eV14, iu_ne _ _ (ne30 hq (by decide))] : V14 q = V13 q).trans (g13 q hq)
  refine z_aload_n K d_M_finish_142 rfl ?_
  refine z_bipush (v := jI 50) K d_M_finish_143 rfl ?_
  refine z_bipush (v := jI 24) K d_M_finish_145 rfl ?_
  refine z_bipush (v := jI 45) K d_M_finish_147 rfl ?_
  refine z_callV (ci := 0) (As := [.int (jI 50), .int (jI 24), .int (jI 45)]) K (w_M_multiply l G b0 h a cd T14 (v := A1) (w := x11) hV14 (by decide) (by decide) (by decide) (by decide) (by decide) ((g14 24 (by decide)).trans cA1) f14_45 bA1 b11 (by decide)) ca_M_92 im_M_multiply se_M_multiply rfl (by decide) hm_0 rfl rfl (by decide) (Nat.le_of_ble_eq_true rfl) d_M_finish_149 (fun o h1 hp => ?_)
  obtain ⟨T15, rfl, rfl, hV15, hN15⟩ := hp
  obtain ⟨x15, e15⟩ : ∃ z : Int, z = A1 * x11 := ⟨_, rfl⟩
  rw [← e15] at hV15
  have b15 : lt9 x15 236 := by rw [e15]; have z := lt9_mul bA1 b11; exact z
  obtain ⟨V15, eV15⟩ : ∃ W : Int → Int, W = iu V14 50 x15 := ⟨_, rfl⟩
  rw [← eV15] at hV15
  have f15_43 : V15 43 = dd := (by rw [eV15, iu_ne _ _ (by decide)] : V15 43 = V14 43).trans f14_43
  have f15_42 : V15 42 = nn := (by rw [eV15, iu_ne _ _ (by decide)] : V15 42 = V14 42).trans f14_42
  have f15_44 : V15 44 = ww := (by rw [eV15, iu_ne _ _ (by decide)] : V15 44 = V14 44).trans f14_44
  have f15_49 : V15 49 = vv := (by rw [eV15, iu_ne _ _ (by decide)] : V15 49 = V14 49).trans f14_49
  have f15_39 : V15 39 = kk := (by rw [eV15, iu_ne _ _ (by decide)] : V15 39 = V14 39).trans f14_39
  have f15_53 : V15 53 = x1 := (by rw [eV15, iu_ne _ _ (by decide)] : V15 53 = V14 53).trans f14_53
  have f15_54 : V15 54 = x8 := (by rw [eV15, iu_ne _ _ (by decide)] : V15 54 = V14 54).trans f14_54
  have f15_45 : V15 45 = x11 := (by rw [eV15, iu_ne _ _ (by decide)] : V15 45 = V14 45).trans f14_45
  have f15_46 : V15 46 = x14 := (by rw [eV15, iu_ne _ _ (by decide)] : V15 46 = V14 46).trans f14_46
  have f15_50 : V15 50 = x15 := by rw [eV15, iu_self]
  have g15 : ∀ q : Int, q < 30 → V15 q = V q := fun q hq => (by rw [eV15, iu_ne _ _ (ne30 hq (by decide))] : V15 q = V14 q).trans (g14 q hq)
  refine z_aload_n K d_M_finish_152 rfl ?_
  refine z_bipush (v := jI 49) K d_M_finish_153 rfl ?_
  refine z_bipush (v := jI 50) K d_M_finish_155 rfl ?_
  refine z_bipush (v := jI 44) K d_M_finish_157 rfl ?_
  refine z_callV (ci := 0) (As := [.int (jI 49), .int (jI 50), .int (jI 44)]) K (w_M_multiply l G b0 h a cd T15 (v := x15) (w := ww) hV15 (by decide) (by decide) (by decide) (by decide) (by decide) f15_50 f15_44 b15 bW (by decide)) ca_M_92 im_M_multiply se_M_multiply rfl (by decide) hm_0 rfl rfl (by decide) (Nat.le_of_ble_eq_true rfl) d_M_finish_159 (fun o h1 hp => ?_)
  obtain ⟨T16, rfl, rfl, hV16, hN16⟩ := hp
  obtain ⟨x16, e16⟩ : ∃ z : Int, z = x15 * ww := ⟨_, rfl⟩
  rw [← e16] at hV16
  have b16 : lt9 x16 351 := by rw [e16]; have z := lt9_mul b15 bW; exact z
  obtain ⟨V16, eV16⟩ : ∃ W : Int → Int, W = iu V15 49 x16 := ⟨_, rfl⟩
  rw [← eV16] at hV16
  have f16_43 : V16 43 = dd := (by rw [eV16, iu_ne _ _ (by decide)] : V16 43 = V15 43).trans f15_43
  have f16_42 : V16 42 = nn := (by rw [eV16, iu_ne _ _ (by decide)] : V16 42 = V15 42).trans f15_42
  have f16_44 : V16 44 = ww := (by rw [eV16, iu_ne _ _ (by decide)] : V16 44 = V15 44).trans f15_44
  have f16_39 : V16 39 = kk := (by rw [eV16, iu_ne _ _ (by decide)] : V16 39 = V15 39).trans f15_39
  have f16_53 : V16 53 = x1 := (by rw [eV16, iu_ne _ _ (by decide)] : V16 53 = V15 53).trans f15_53
  have f16_54 : V16 54 = x8 := (by rw [eV16, iu_ne _ _ (by decide)] : V16 54 = V15 54).trans f15_54
  have f16_45 : V16 45 = x11 := (by rw [eV16, iu_ne _ _ (by decide)] : V16 45 = V15 45).trans f15_45
  have f16_46 : V16 46 = x14 := (by rw [eV16, iu_ne _ _ (by decide)] : V16 46 = V15 46).trans f15_46
  have f16_50 : V16 50 = x15 := (by rw [eV16, iu_ne _ _ (by decide)] : V16 50 = V15 50).trans f15_50
  have f16_49 : V16 49 = x16 := by rw [eV16, iu_self]
  have g16 : ∀ q : Int, q < 30 → V16 q = V q := fun q hq => (by rw [eV16, iu_ne _ _ (ne30 hq (by decide))] : V16 q = V15 q).trans (g15 q hq)
  refine z_aload_n K d_M_finish_162 rfl ?_
  refine z_bipush (v := jI 46) K d_M_finish_163 rfl ?_
  refine z_bipush (v := jI 46) K d_M_finish_165 rfl ?_
  refine z_bipush (v := jI 49) K d_M_finish_167 rfl ?_
  refine z_iconst (v := jI (-1)) K d_M_finish_169 rfl ?_
  refine z_callV (ci := 0) (As := [.int (jI 46), .int (jI 46), .int (jI 49), .int (jI (-1))]) K (w_M_add l G b0 h a cd T16 (v := x14) (w := x16) hV16 (by decide) (by decide) (by decide) (by decide) f16_46 f16_49 b14 b16 (by decide) (by decide)) ca_M_83 im_M_add se_M_add rfl (by decide) hm_0 rfl rfl (by decide) (Nat.le_of_ble_eq_true rfl) d_M_finish_170 (fun o h1 hp => ?_)
  obtain ⟨T17, rfl, rfl, hV17, hN17⟩ := hp
  obtain ⟨x17, e17⟩ : ∃ z : Int, z = x14 - x16 := ⟨_, rfl⟩
  rw [Int.neg_mul, Int.one_mul, ← Int.sub_eq_add_neg, ← e17] at hV17
  have b17 : lt9 x17 353 := by rw [e17]; have z := lt9_sub b14 b16; exact z
  obtain ⟨V17, eV17⟩ : ∃ W : Int → Int, W = iu V16 46 x17 := ⟨_, rfl⟩
  rw [← eV17] at hV17
  have f17_43 : V17 43 = dd := (by rw [eV17, iu_ne _ _ (by decide)] : V17 43 = V16 43).trans f16_43
  have f17_42 : V17 42 = nn := (by rw [eV17, iu_ne _ _ (by decide)] : V17 42 = V16 42).trans f16_42
  have f17_44 : V17 44 = ww := (by rw [eV17, iu_ne _ _ (by decide)] : V17 44 = V16 44).trans f16_44
  have f17_39 : V17 39 = kk := (by rw [eV17, iu_ne _ _ (by decide)] : V17 39 = V16 39).trans f16_39
  have f17_53 : V17 53 = x1 := (by rw [eV17, iu_ne _ _ (by decide)] : V17 53 = V16 53).trans f16_53
  have f17_54 : V17 54 = x8 := (by rw [eV17, iu_ne _ _ (by decide)] : V17 54 = V16 54).trans f16_54
  have f17_45 : V17 45 = x11 := (by rw [eV17, iu_ne _ _ (by decide)] : V17 45 = V16 45).trans f16_45
  have f17_50 : V17 50 = x15 := (by rw [eV17, iu_ne _ _ (by decide)] : V17 50 = V16 50).trans f16_50
  have f17_49 : V17 49 = x16 := (by rw [eV17, iu_ne _ _ (by decide)] : V17 49 = V16 49).trans f16_49
  have f17_46 : V17 46 = x17 := by rw [eV17, iu_self]
  have g17 : ∀ q : Int, q < 30 → V17 q = V q := fun q hq => (by rw [eV17, iu_ne _ _ (ne30 hq (by decide))] : V17 q = V16 q).trans (g16 q hq)
  refine z_aload_n K d_M_finish_173 rfl ?_
  refine z_bipush (v := jI 50) K d_M_finish_174 rfl ?_
  refine z_bipush (v := jI 53) K d_M_finish_176 rfl ?_
  refine z_bipush (v := jI 43) K d_M_finish_178 rfl ?_
  refine z_callV (ci := 0) (As := [.int (jI 50), .int (jI 53), .int (jI 43)]) K (w_M_multiply l G b0 h a cd T17 (v := x1) (w := dd) hV17 (by decide) (by decide) (by decide) (by decide) (by decide) f17_53 f17_43 b1 bD (by decide)) ca_M_92 im_M_multiply se_M_multiply rfl (by decide) hm_0 rfl rfl (by decide) (Nat.le_of_ble_eq_true rfl) d_M_finish_180 (fun o h1 hp => ?_)
  obtain ⟨T18, rfl, rfl, hV18, hN18⟩ := hp
  obtain ⟨x18, e18⟩ : ∃ z : Int, z = x1 * dd := ⟨_, rfl⟩
  rw [← e18] at hV18
  have b18 : lt9 x18 231 := by rw [e18]; have z := lt9_mul b1 bD; exact z
  obtain ⟨V18, eV18⟩ : ∃ W : Int → Int, W = iu V17 50 x18 := ⟨_, rfl⟩
  rw [← eV18] at hV18
  have f18_43 : V18 43 = dd := (by rw [eV18, iu_ne _ _ (by decide)] : V18 43 = V17 43).trans f17_43
  have f18_42 : V18 42 = nn := (by rw [eV18, iu_ne _ _ (by decide)] : V18 42 = V17 42).trans f17_42
  have f18_44 : V18 44 = ww := (by rw [eV18, iu_ne _ _ (by decide)] : V18 44 = V17 44).trans f17_44
  have f18_39 : V18 39 = kk := (by rw [eV18, iu_ne _ _ (by decide)] : V18 39 = V17 39).trans f17_39
  have f18_53 : V18 53 = x1 := (by rw [eV18, iu_ne _ _ (by decide)] : V18 53 = V17 53).trans f17_53
  have f18_54 : V18 54 = x8 := (by rw [eV18, iu_ne _ _ (by decide)] : V18 54 = V17 54).trans f17_54
  have f18_45 : V18 45 = x11 := (by rw [eV18, iu_ne _ _ (by decide)] : V18 45 = V17 45).trans f17_45
  have f18_49 : V18 49 = x16 := (by rw [eV18, iu_ne _ _ (by decide)] : V18 49 = V17 49).trans f17_49
  have f18_46 : V18 46 = x17 := (by rw [eV18, iu_ne _ _ (by decide)] : V18 46 = V17 46).trans f17_46
  have f18_50 : V18 50 = x18 := by rw [eV18, iu_self]
  have g18 : ∀ q : Int, q < 30 → V18 q = V q := fun q hq => (by rw [eV18, iu_ne _ _ (ne30 hq (by decide))] : V18 q = V17 q).trans (g17 q hq)
  refine z_aload_n K d_M_finish_183 rfl ?_
  refine z_bipush (v := jI 49) K d_M_finish_184 rfl ?_
  refine z_bipush (v := jI 50) K d_M_finish_186 rfl ?_
  refine z_bipush (v := jI 39) K d_M_finish_188 rfl ?_
  refine z_callV (ci := 0) (As := [.int (jI 49), .int (jI 50), .int (jI 39)]) K (w_M_multiply l G b0 h a cd T18 (v := x18) (w := kk) hV18 (by decide) (by decide) (by decide) (by decide) (by decide) f18_50 f18_39 b18 bK (by decide)) ca_M_92 im_M_multiply se_M_multiply rfl (by decide) hm_0 rfl rfl (by decide) (Nat.le_of_ble_eq_true rfl) d_M_finish_190 (fun o h1 hp => ?_)
  obtain ⟨T19, rfl, rfl, hV19, hN19⟩ := hp
  obtain ⟨x19, e19⟩ : ∃ z : Int, z = x18 * kk := ⟨_, rfl⟩
  rw [← e19] at hV19
  have b19 : lt9 x19 346 := by rw [e19]; have z := lt9_mul b18 bK; exact z
  obtain ⟨V19, eV19⟩ : ∃ W : Int → Int, W = iu V18 49 x19 := ⟨_, rfl⟩
  rw [← eV19] at hV19
  have f19_43 : V19 43 = dd := (by rw [eV19, iu_ne _ _ (by decide)] : V19 43 = V18 43).trans f18_43
  have f19_42 : V19 42 = nn := (by rw [eV19, iu_ne _ _ (by decide)] : V19 42 = V18 42).trans f18_42
  have f19_44 : V19 44 = ww := (by rw [eV19, iu_ne _ _ (by decide)] : V19 44 = V18 44).trans f18_44
  have f19_39 : V19 39 = kk := (by rw [eV19, iu_ne _ _ (by decide)] : V19 39 = V18 39).trans f18_39
  have f19_53 : V19 53 = x1 := (by rw [eV19, iu_ne _ _ (by decide)] : V19 53 = V18 53).trans f18_53
  have f19_54 : V19 54 = x8 := (by rw [eV19, iu_ne _ _ (by decide)] : V19 54 = V18 54).trans f18_54
  have f19_45 : V19 45 = x11 := (by rw [eV19, iu_ne _ _ (by decide)] : V19 45 = V18 45).trans f18_45
  have f19_46 : V19 46 = x17 := (by rw [eV19, iu_ne _ _ (by decide)] : V19 46 = V18 46).trans f18_46
  have f19_50 : V19 50 = x18 := (by rw [eV19, iu_ne _ _ (by decide)] : V19 50 = V18 50).trans f18_50
  have f19_49 : V19 49 = x19 := by rw [eV19, iu_self]
  have g19 : ∀ q : Int, q < 30 → V19 q = V q := fun q hq => (by rw [eV19, iu_ne _ _ (ne30 hq (by decide))] : V19 q = V18 q).trans (g18 q hq)
  refine z_aload_n K d_M_finish_193 rfl ?_
  refine z_bipush (v := jI 46) K d_M_finish_194 rfl ?_
  refine z_bipush (v := jI 46) K d_M_finish_196 rfl ?_
  refine z_bipush (v := jI 49) K d_M_finish_198 rfl ?_
  refine z_iconst (v := jI (-1)) K d_M_finish_200 rfl ?_
  refine z_callV (ci := 0) (As := [.int (jI 46), .int (jI 46), .int (jI 49), .int (jI (-1))]) K (w_M_add l G b0 h a cd T19 (v := x17) (w := x19) hV19 (by decide) (by decide) (by decide) (by decide) f19_46 f19_49 b17 b19 (by decide) (by decide)) ca_M_83 im_M_add se_M_add rfl (by decide) hm_0 rfl rfl (by decide) (Nat.le_of_ble_eq_true rfl) d_M_finish_201 (fun o h1 hp => ?_)
  obtain ⟨T20, rfl, rfl, hV20, hN20⟩ := hp
  obtain ⟨x20, e20⟩ : ∃ z : Int, z = x17 - x19 := ⟨_, rfl⟩
  rw [Int.neg_mul, Int.one_mul, ← Int.sub_eq_add_neg, ← e20] at hV20
  have b20 : lt9 x20 354 := by rw [e20]; have z := lt9_sub b17 b19; exact z
  obtain ⟨V20, eV20⟩ : ∃ W : Int → Int, W = iu V19 46 x20 := ⟨_, rfl⟩
  rw [← eV20] at hV20
  have f20_43 : V20 43 = dd := (by rw [eV20, iu_ne _ _ (by decide)] : V20 43 = V19 43).trans f19_43
  have f20_42 : V20 42 = nn := (by rw [eV20, iu_ne _ _ (by decide)] : V20 42 = V19 42).trans f19_42
  have f20_44 : V20 44 = ww := (by rw [eV20, iu_ne _ _ (by decide)] : V20 44 = V19 44).trans f19_44
  have f20_39 : V20 39 = kk := (by rw [eV20, iu_ne _ _ (by decide)] : V20 39 = V19 39).trans f19_39
  have f20_53 : V20 53 = x1 := (by rw [eV20, iu_ne _ _ (by decide)] : V20 53 = V19 53).trans f19_53
  have f20_54 : V20 54 = x8 := (by rw [eV20, iu_ne _ _ (by decide)] : V20 54 = V19 54).trans f19_54
  have f20_45 : V20 45 = x11 := (by rw [eV20, iu_ne _ _ (by decide)] : V20 45 = V19 45).trans f19_45
  have f20_50 : V20 50 = x18 := (by rw [eV20, iu_ne _ _ (by decide)] : V20 50 = V19 50).trans f19_50
  have f20_49 : V20 49 = x19 := (by rw [eV20, iu_ne _ _ (by decide)] : V20 49 = V19 49).trans f19_49
  have f20_46 : V20 46 = x20 := by rw [eV20, iu_self]
  have g20 : ∀ q : Int, q < 30 → V20 q = V q := fun q hq => (by rw [eV20, iu_ne _ _ (ne30 hq (by decide))] : V20 q = V19 q).trans (g19 q hq)
  refine z_aload_n K d_M_finish_204 rfl ?_
  refine z_bipush (v := jI 50) K d_M_finish_205 rfl ?_
  refine z_bipush (v := jI 54) K d_M_finish_207 rfl ?_
  refine z_bipush (v := jI 44) K d_M_finish_209 rfl ?_
  refine z_callV (ci := 0) (As := [.int (jI 50), .int (jI 54), .int (jI 44)]) K (w_M_multiply l G b0 h a cd T20 (v := x8) (w := ww) hV20 (by decide) (by decide) (by decide) (by decide) (by decide) f20_54 f20_44 b8 bW (by decide)) ca_M_92 im_M_multiply se_M_multiply rfl (by decide) hm_0 rfl rfl (by decide) (Nat.le_of_ble_eq_true rfl) d_M_finish_211 (fun o h1 hp => ?_)
  obtain ⟨T21, rfl, rfl, hV21, hN21⟩ := hp
  obtain ⟨x21, e21⟩ : ∃ z : Int, z = x8 * ww := ⟨_, rfl⟩
  rw [← e21] at hV21
  have b21 : lt9 x21 345 := by rw [e21]; have z := lt9_mul b8 bW; exact z
  obtain ⟨V21, eV21⟩ : ∃ W : Int → Int, W = iu V20 50 x21 := ⟨_, rfl⟩
  rw [← eV21] at hV21
  have f21_43 : V21 43 = dd := (by rw [eV21, iu_ne _ _ (by decide)] : V21 43 = V20 43).trans f20_43
  have f21_42 : V21 42 = nn := (by rw [eV21, iu_ne _ _ (by decide)] : V21 42 = V20 42).trans f20_42
  have f21_44 : V21 44 = ww := (by rw [eV21, iu_ne _ _ (by decide)] : V21 44 = V20 44).trans f20_44
  have f21_39 : V21 39 = kk := (by rw [eV21, iu_ne _ _ (by decide)] : V21 39 = V20 39).trans f20_39
  have f21_53 : V21 53 = x1 := (by rw [eV21, iu_ne _ _ (by decide)] : V21 53 = V20 53).trans f20_53
  have f21_54 : V21 54 = x8 := (by rw [eV21, iu_ne _ _ (by decide)] : V21 54 = V20 54).trans f20_54
  have f21_45 : V21 45 = x11 := (by rw [eV21, iu_ne _ _ (by decide)] : V21 45 = V20 45).trans f20_45
  have f21_49 : V21 49 = x19 := (by rw [eV21, iu_ne _ _ (by decide)] : V21 49 = V20 49).trans f20_49
  have f21_46 : V21 46 = x20 := (by rw [eV21, iu_ne _ _ (by decide)] : V21 46 = V20 46).trans f20_46
  have f21_50 : V21 50 = x21 := by rw [eV21, iu_self]
  have g21 : ∀ q : Int, q < 30 → V21 q = V q := fun q hq => (by rw [eV21, iu_ne _ _ (ne30 hq (by decide))] : V21 q = V20 q).trans (g20 q hq)
  have nx21 : x21 ≠ 0 := by rw [e21]; exact Int.mul_ne_zero nx8 hw0
  refine z_aload_n K d_M_finish_214 rfl ?_
  refine z_bipush (v := jI 49) K d_M_finish_215 rfl ?_
  refine z_bipush (v := jI 26) K d_M_finish_217 rfl ?_
  refine z_bipush (v := jI 50) K d_M_finish_219 rfl ?_
  refine z_callV (ci := 0) (As := [.int (jI 49), .int (jI 26), .int (jI 50)]) K (w_M_multiply l G b0 h a cd T21 (v := A3) (w := x21) hV21 (by decide) (by decide) (by decide) (by decide) (by decide) ((g21 26 (by decide)).trans cA3) f21_50 bA3 b21 (by decide)) ca_M_92 im_M_multiply se_M_multiply rfl (by decide) hm_0 rfl rfl (by decide) (Nat.le_of_ble_eq_true rfl) d_M_finish_221 (fun o h1 hp => ?_)
  obtain ⟨T22, rfl, rfl, hV22, hN22⟩ := hp
  obtain ⟨x22, e22⟩ : ∃ z : Int, z = A3 * x21 := ⟨_, rfl⟩
  rw [← e22] at hV22
  have b22 : lt9 x22 346 := by rw [e22]; have z := lt9_mul bA3 b21; exact z
  obtain ⟨V22, eV22⟩ : ∃ W : Int → Int, W = iu V21 49 x22 := ⟨_, rfl⟩
  rw [← eV22] at hV22
  have f22_43 : V22 43 = dd := (by rw [eV22, iu_ne _ _ (by decide)] : V22 43 = V21 43).trans f21_43
  have f22_42 : V22 42 = nn := (by rw [eV22, iu_ne _ _ (by decide)] : V22 42 = V21 42).trans f21_42
  have f22_44 : V22 44 = ww := (by rw [eV22, iu_ne _ _ (by decide)] : V22 44 = V21 44).trans f21_44
  have f22_39 : V22 39 = kk := (by rw [eV22, iu_ne _ _ (by decide)] : V22 39 = V21 39).trans f21_39
  have f22_53 : V22 53 = x1 := (by rw [eV22, iu_ne _ _ (by decide)] : V22 53 = V21 53).trans f21_53
  have f22_54 : V22 54 = x8 := (by rw [eV22, iu_ne _ _ (by decide)] : V22 54 = V21 54).trans f21_54
  have f22_45 : V22 45 = x11 := (by rw [eV22, iu_ne _ _ (by decide)] : V22 45 = V21 45).trans f21_45
  have f22_46 : V22 46 = x20 := (by rw [eV22, iu_ne _ _ (by decide)] : V22 46 = V21 46).trans f21_46
  have f22_50 : V22 50 = x21 := (by rw [eV22, iu_ne _ _ (by decide)] : V22 50 = V21 50).trans f21_50
  have f22_49 : V22 49 = x22 := by rw [eV22, iu_self]
  have g22 : ∀ q : Int, q < 30 → V22 q = V q := fun q hq => (by rw [eV22, iu_ne _ _ (ne30 hq (by decide))] : V22 q = V21 q).trans (g21 q hq)
  refine z_aload_n K d_M_finish_224 rfl ?_
  refine z_bipush (v := jI 46) K d_M_finish_225 rfl ?_
  refine z_bipush (v := jI 46) K d_M_finish_227 rfl ?_
  refine z_bipush (v := jI 49) K d_M_finish_229 rfl ?_
  refine z_iconst (v := jI (-1)) K d_M_finish_231 rfl ?_
  refine z_callV (ci := 0) (As := [.int (jI 46), .int (jI 46), .int (jI 49), .int (jI (-1))]) K (w_M_add l G b0 h a cd T22 (v := x20) (w := x22) hV22 (by decide) (by decide) (by decide) (by decide) f22_46 f22_49 b20 b22 (by decide) (by decide)) ca_M_83 im_M_add se_M_add rfl (by decide) hm_0 rfl rfl (by decide) (Nat.le_of_ble_eq_true rfl) d_M_finish_232 (fun o h1 hp => ?_)
  obtain ⟨T23, rfl, rfl, hV23, hN23⟩ := hp
  obtain ⟨x23, e23⟩ : ∃ z : Int, z = x20 - x22 := ⟨_, rfl⟩
  rw [Int.neg_mul, Int.one_mul, ← Int.sub_eq_add_neg, ← e23] at hV23
  have b23 : lt9 x23 355 := by rw [e23]; have z := lt9_sub b20 b22; exact z
  obtain ⟨V23, eV23⟩ : ∃ W : Int → Int, W = iu V22 46 x23 := ⟨_, rfl⟩
  rw [← eV23] at hV23
  have f23_43 : V23 43 = dd := (by rw [eV23, iu_ne _ _ (by decide)] : V23 43 = V22 43).trans f22_43
  have f23_42 : V23 42 = nn := (by rw [eV23, iu_ne _ _ (by decide)] : V23 42 = V22 42).trans f22_42
  have f23_44 : V23 44 = ww := (by rw [eV23, iu_ne _ _ (by decide)] : V23 44 = V22 44).trans f22_44
  have f23_39 : V23 39 = kk := (by rw [eV23, iu_ne _ _ (by decide)] : V23 39 = V22 39).trans f22_39
  have f23_53 : V23 53 = x1 := (by rw [eV23, iu_ne _ _ (by decide)] : V23 53 = V22 53).trans f22_53
  have f23_54 : V23 54 = x8 := (by rw [eV23, iu_ne _ _ (by decide)] : V23 54 = V22 54).trans f22_54
  have f23_45 : V23 45 = x11 := (by rw [eV23, iu_ne _ _ (by decide)] : V23 45 = V22 45).trans f22_45
  have f23_50 : V23 50 = x21 := (by rw [eV23, iu_ne _ _ (by decide)] : V23 50 = V22 50).trans f22_50
  have f23_49 : V23 49 = x22 := (by rw [eV23, iu_ne _ _ (by decide)] : V23 49 = V22 49).trans f22_49
  have f23_46 : V23 46 = x23 := by rw [eV23, iu_self]
  have g23 : ∀ q : Int, q < 30 → V23 q = V q := fun q hq => (by rw [eV23, iu_ne _ _ (ne30 hq (by decide))] : V23 q = V22 q).trans (g22 q hq)
  refine z_aload_n K d_M_finish_235 rfl ?_
  refine z_bipush (v := jI 54) K d_M_finish_236 rfl ?_
  refine z_bipush (v := jI 47) K d_M_finish_238 rfl ?_
  refine z_callV (ci := 0) (As := [.int (jI 54), .int (jI 47)]) K (w_M_copy l G b0 h a cd T23 (v := x8) hV23 (by decide) (by decide) f23_54) ca_M_40 im_M_copy se_M_copy rfl (by decide) hm_0 rfl rfl (by decide) (Nat.le_of_ble_eq_true rfl) d_M_finish_240 (fun o h1 hp => ?_)
  obtain ⟨T24, rfl, rfl, hV24, hN24⟩ := hp
  obtain ⟨V24, eV24⟩ : ∃ W : Int → Int, W = iu V23 47 x8 := ⟨_, rfl⟩
  rw [← eV24] at hV24
  have f24_43 : V24 43 = dd := (by rw [eV24, iu_ne _ _ (by decide)] : V24 43 = V23 43).trans f23_43
  have f24_42 : V24 42 = nn := (by rw [eV24, iu_ne _ _ (by decide)] : V24 42 = V23 42).trans f23_42
  have f24_44 : V24 44 = ww := (by rw [eV24, iu_ne _ _ (by decide)] : V24 44 = V23 44).trans f23_44
  have f24_39 : V24 39 = kk := (by rw [eV24, iu_ne _ _ (by decide)] : V24 39 = V23 39).trans f23_39
  have f24_53 : V24 53 = x1 := (by rw [eV24, iu_ne _ _ (by decide)] : V24 53 = V23 53).trans f23_53
  have f24_54 : V24 54 = x8 := (by rw [eV24, iu_ne _ _ (by decide)] : V24 54 = V23 54).trans f23_54
  have f24_45 : V24 45 = x11 := (by rw [eV24, iu_ne _ _ (by decide)] : V24 45 = V23 45).trans f23_45
  have f24_50 : V24 50 = x21 := (by rw [eV24, iu_ne _ _ (by decide)] : V24 50 = V23 50).trans f23_50
  have f24_49 : V24 49 = x22 := (by rw [eV24, iu_ne _ _ (by decide)] : V24 49 = V23 49).trans f23_49
  have f24_46 : V24 46 = x23 := (by rw [eV24, iu_ne _ _ (by decide)] : V24 46 = V23 46).trans f23_46
  have f24_47 : V24 47 = x8 := by rw [eV24, iu_self]
  have g24 : ∀ q : Int, q < 30 → V24 q = V q := fun q hq => (by rw [eV24, iu_ne _ _ (ne30 hq (by decide))] : V24 q = V23 q).trans (g23 q hq)
  refine z_aload_n K d_M_finish_243 rfl ?_
  refine z_bipush (v := jI 45) K d_M_finish_244 rfl ?_
  refine z_bipush (v := jI 47) K d_M_finish_246 rfl ?_
  refine z_callV (ci := 0) (As := [.int (jI 45), .int (jI 47)]) K (w_M_common l G b0 h a cd T24 (v := x11) (w := x8) hV24 (by decide) (by decide) f24_45 f24_47 (Or.inr nx8) b11 b8 (by decide) (by decide)) ca_M_115 im_M_common se_M_common rfl (by decide) hm_0 rfl rfl (by decide) (Nat.le_of_ble_eq_true rfl) d_M_finish_248 (fun o h1 hp => ?_)
  obtain ⟨T25, rfl, rfl, ⟨z25, hV25⟩, hN25⟩ := hp
  obtain ⟨x25, e25⟩ : ∃ z : Int, z = ((Int.gcd x11 x8 : Nat) : Int) := ⟨_, rfl⟩
  rw [← e25] at hV25
  have b25 : lt9 x25 235 := by rw [e25]; have z := lt9_gcd (Or.inr nx8) b11 b8; exact z
  obtain ⟨V25, eV25⟩ : ∃ W : Int → Int, W = iu (iu V24 52 z25) 51 x25 := ⟨_, rfl⟩
  rw [← eV25] at hV25
  have f25_43 : V25 43 = dd := (by rw [eV25, iu_ne _ _ (by decide), iu_ne _ _ (by decide)] : V25 43 = V24 43).trans f24_43
  have f25_42 : V25 42 = nn := (by rw [eV25, iu_ne _ _ (by decide), iu_ne _ _ (by decide)] : V25 42 = V24 42).trans f24_42
  have f25_44 : V25 44 = ww := (by rw [eV25, iu_ne _ _ (by decide), iu_ne _ _ (by decide)] : V25 44 = V24 44).trans f24_44
  have f25_39 : V25 39 = kk := (by rw [eV25, iu_ne _ _ (by decide), iu_ne _ _ (by decide)] : V25 39 = V24 39).trans f24_39
  have f25_53 : V25 53 = x1 := (by rw [eV25, iu_ne _ _ (by decide), iu_ne _ _ (by decide)] : V25 53 = V24 53).trans f24_53
  have f25_54 : V25 54 = x8 := (by rw [eV25, iu_ne _ _ (by decide), iu_ne _ _ (by decide)] : V25 54 = V24 54).trans f24_54
  have f25_45 : V25 45 = x11 := (by rw [eV25, iu_ne _ _ (by decide), iu_ne _ _ (by decide)] : V25 45 = V24 45).trans f24_45
  have f25_50 : V25 50 = x21 := (by rw [eV25, iu_ne _ _ (by decide), iu_ne _ _ (by decide)] : V25 50 = V24 50).trans f24_50
  have f25_49 : V25 49 = x22 := (by rw [eV25, iu_ne _ _ (by decide), iu_ne _ _ (by decide)] : V25 49 = V24 49).trans f24_49
  have f25_46 : V25 46 = x23 := (by rw [eV25, iu_ne _ _ (by decide), iu_ne _ _ (by decide)] : V25 46 = V24 46).trans f24_46
  have f25_47 : V25 47 = x8 := (by rw [eV25, iu_ne _ _ (by decide), iu_ne _ _ (by decide)] : V25 47 = V24 47).trans f24_47
  have f25_51 : V25 51 = x25 := by rw [eV25, iu_self]
  have g25 : ∀ q : Int, q < 30 → V25 q = V q := fun q hq => (by rw [eV25, iu_ne _ _ (ne30 hq (by decide)), iu_ne _ _ (ne30 hq (by decide))] : V25 q = V24 q).trans (g24 q hq)
  have nx25 : x25 ≠ 0 := by rw [e25]; exact gnz_r nx8
  refine z_aload_n K d_M_finish_251 rfl ?_
  refine z_bipush (v := jI 36) K d_M_finish_252 rfl ?_
  refine z_bipush (v := jI 45) K d_M_finish_254 rfl ?_
  refine z_bipush (v := jI 51) K d_M_finish_256 rfl ?_
  refine z_callV (ci := 0) (As := [.int (jI 36), .int (jI 45), .int (jI 51)]) K (w_M_share l G b0 h a cd T25 (v := x11) (w := x25) hV25 (by decide) (by decide) (by decide) f25_45 f25_51 nx25 b11 (by decide)) ca_M_109 im_M_share se_M_share rfl (by decide) hm_0 rfl rfl (by decide) (Nat.le_of_ble_eq_true rfl) d_M_finish_258 (fun o h1 hp => ?_)
  obtain ⟨T26, rfl, rfl, ⟨y26, z26, hV26⟩, hN26⟩ := hp
  obtain ⟨x26, e26⟩ : ∃ z : Int, z = (x11).tdiv x25 := ⟨_, rfl⟩
  rw [← e26] at hV26
  have b26 : lt9 x26 235 := by rw [e26]; have z := lt9_tdiv (w := x25) b11; exact z
  obtain ⟨V26, eV26⟩ : ∃ W : Int → Int, W = iu (iu (iu V25 53 y26) 54 z26) 36 x26 := ⟨_, rfl⟩
  rw [← eV26] at hV26
  have f26_43 : V26 43 = dd := (by rw [eV26, iu_ne _ _ (by decide), iu_ne _ _ (by decide), iu_ne _ _ (by decide)] : V26 43 = V25 43).trans f25_43
  have f26_42 : V26 42 = nn := (by rw [eV26, iu_ne _ _ (by decide), iu_ne _ _ (by decide), iu_ne _ _ (by decide)] : V26 42 = V25 42).trans f25_42
  have f26_44 : V26 44 = ww := (by rw [eV26, iu_ne _ _ (by decide), iu_ne _ _ (by decide), iu_ne _ _ (by decide)] : V26 44 = V25 44).trans f25_44
  have f26_39 : V26 39 = kk := (by rw [eV26, iu_ne _ _ (by decide), iu_ne _ _ (by decide), iu_ne _ _ (by decide)] : V26 39 = V25 39).trans f25_39
  have f26_45 : V26 45 = x11 := (by rw [eV26, iu_ne _ _ (by decide), iu_ne _ _ (by decide), iu_ne _ _ (by decide)] : V26 45 = V25 45).trans f25_45
  have f26_50 : V26 50 = x21 := (by rw [eV26, iu_ne _ _ (by decide), iu_ne _ _ (by decide), iu_ne _ _ (by decide)] : V26 50 = V25 50).trans f25_50
  have f26_49 : V26 49 = x22 := (by rw [eV26, iu_ne _ _ (by decide), iu_ne _ _ (by decide), iu_ne _ _ (by decide)] : V26 49 = V25 49).trans f25_49
  have f26_46 : V26 46 = x23 := (by rw [eV26, iu_ne _ _ (by decide), iu_ne _ _ (by decide), iu_ne _ _ (by decide)] : V26 46 = V25 46).trans f25_46
  have f26_47 : V26 47 = x8 := (by rw [eV26, iu_ne _ _ (by decide), iu_ne _ _ (by decide), iu_ne _ _ (by decide)] : V26 47 = V25 47).trans f25_47
  have f26_51 : V26 51 = x25 := (by rw [eV26, iu_ne _ _ (by decide), iu_ne _ _ (by decide), iu_ne _ _ (by decide)] : V26 51 = V25 51).trans f25_51
  have f26_36 : V26 36 = x26 := by rw [eV26, iu_self]
  have g26 : ∀ q : Int, q < 30 → V26 q = V q := fun q hq => (by rw [eV26, iu_ne _ _ (ne30 hq (by decide)), iu_ne _ _ (ne30 hq (by decide)), iu_ne _ _ (ne30 hq (by decide))] : V26 q = V25 q).trans (g25 q hq)
  refine z_aload_n K d_M_finish_261 rfl ?_
  refine z_bipush (v := jI 48) K d_M_finish_262 rfl ?_
  refine z_bipush (v := jI 47) K d_M_finish_264 rfl ?_
  refine z_bipush (v := jI 51) K d_M_finish_266 rfl ?_
  refine z_callV (ci := 0) (As := [.int (jI 48), .int (jI 47), .int (jI 51)]) K (w_M_share l G b0 h a cd T26 (v := x8) (w := x25) hV26 (by decide) (by decide) (by decide) f26_47 f26_51 nx25 b8 (by decide)) ca_M_109 im_M_share se_M_share rfl (by decide) hm_0 rfl rfl (by decide) (Nat.le_of_ble_eq_true rfl) d_M_finish_268 (fun o h1 hp => ?_)
  obtain ⟨T27, rfl, rfl, ⟨y27, z27, hV27⟩, hN27⟩ := hp
  obtain ⟨x27, e27⟩ : ∃ z : Int, z = (x8).tdiv x25 := ⟨_, rfl⟩
  rw [← e27] at hV27
  have b27 : lt9 x27 230 := by rw [e27]; have z := lt9_tdiv (w := x25) b8; exact z
  obtain ⟨V27, eV27⟩ : ∃ W : Int → Int, W = iu (iu (iu V26 53 y27) 54 z27) 48 x27 := ⟨_, rfl⟩
  rw [← eV27] at hV27
  have f27_43 : V27 43 = dd := (by rw [eV27, iu_ne _ _ (by decide), iu_ne _ _ (by decide), iu_ne _ _ (by decide)] : V27 43 = V26 43).trans f26_43
  have f27_42 : V27 42 = nn := (by rw [eV27, iu_ne _ _ (by decide), iu_ne _ _ (by decide), iu_ne _ _ (by decide)] : V27 42 = V26 42).trans f26_42
  have f27_44 : V27 44 = ww := (by rw [eV27, iu_ne _ _ (by decide), iu_ne _ _ (by decide), iu_ne _ _ (by decide)] : V27 44 = V26 44).trans f26_44
  have f27_39 : V27 39 = kk := (by rw [eV27, iu_ne _ _ (by decide), iu_ne _ _ (by decide), iu_ne _ _ (by decide)] : V27 39 = V26 39).trans f26_39
  have f27_45 : V27 45 = x11 := (by rw [eV27, iu_ne _ _ (by decide), iu_ne _ _ (by decide), iu_ne _ _ (by decide)] : V27 45 = V26 45).trans f26_45
  have f27_50 : V27 50 = x21 := (by rw [eV27, iu_ne _ _ (by decide), iu_ne _ _ (by decide), iu_ne _ _ (by decide)] : V27 50 = V26 50).trans f26_50
  have f27_49 : V27 49 = x22 := (by rw [eV27, iu_ne _ _ (by decide), iu_ne _ _ (by decide), iu_ne _ _ (by decide)] : V27 49 = V26 49).trans f26_49
  have f27_46 : V27 46 = x23 := (by rw [eV27, iu_ne _ _ (by decide), iu_ne _ _ (by decide), iu_ne _ _ (by decide)] : V27 46 = V26 46).trans f26_46
  have f27_47 : V27 47 = x8 := (by rw [eV27, iu_ne _ _ (by decide), iu_ne _ _ (by decide), iu_ne _ _ (by decide)] : V27 47 = V26 47).trans f26_47
  have f27_51 : V27 51 = x25 := (by rw [eV27, iu_ne _ _ (by decide), iu_ne _ _ (by decide), iu_ne _ _ (by decide)] : V27 51 = V26 51).trans f26_51
  have f27_36 : V27 36 = x26 := (by rw [eV27, iu_ne _ _ (by decide), iu_ne _ _ (by decide), iu_ne _ _ (by decide)] : V27 36 = V26 36).trans f26_36
  have f27_48 : V27 48 = x27 := by rw [eV27, iu_self]
  have g27 : ∀ q : Int, q < 30 → V27 q = V q := fun q hq => (by rw [eV27, iu_ne _ _ (ne30 hq (by decide)), iu_ne _ _ (ne30 hq (by decide)), iu_ne _ _ (ne30 hq (by decide))] : V27 q = V26 q).trans (g26 q hq)
  refine z_aload_n K d_M_finish_271 rfl ?_
  refine z_bipush (v := jI 46) K d_M_finish_272 rfl ?_
  refine z_bipush (v := jI 50) K d_M_finish_274 rfl ?_
  refine z_callV (ci := 0) (As := [.int (jI 46), .int (jI 50)]) K (w_M_common l G b0 h a cd T27 (v := x23) (w := x21) hV27 (by decide) (by decide) f27_46 f27_50 (Or.inr nx21) b23 b21 (by decide) (by decide)) ca_M_115 im_M_common se_M_common rfl (by decide) hm_0 rfl rfl (by decide) (Nat.le_of_ble_eq_true rfl) d_M_finish_276 (fun o h1 hp => ?_)
  obtain ⟨T28, rfl, rfl, ⟨z28, hV28⟩, hN28⟩ := hp
  obtain ⟨x28, e28⟩ : ∃ z : Int, z = ((Int.gcd x23 x21 : Nat) : Int) := ⟨_, rfl⟩
  rw [← e28] at hV28
  have b28 : lt9 x28 355 := by rw [e28]; have z := lt9_gcd (Or.inr nx21) b23 b21; exact z
  obtain ⟨V28, eV28⟩ : ∃ W : Int → Int, W = iu (iu V27 52 z28) 51 x28 := ⟨_, rfl⟩
  rw [← eV28] at hV28
  have f28_43 : V28 43 = dd := (by rw [eV28, iu_ne _ _ (by decide), iu_ne _ _ (by decide)] : V28 43 = V27 43).trans f27_43
  have f28_42 : V28 42 = nn := (by rw [eV28, iu_ne _ _ (by decide), iu_ne _ _ (by decide)] : V28 42 = V27 42).trans f27_42
  have f28_44 : V28 44 = ww := (by rw [eV28, iu_ne _ _ (by decide), iu_ne _ _ (by decide)] : V28 44 = V27 44).trans f27_44
  have f28_39 : V28 39 = kk := (by rw [eV28, iu_ne _ _ (by decide), iu_ne _ _ (by decide)] : V28 39 = V27 39).trans f27_39
  have f28_45 : V28 45 = x11 := (by rw [eV28, iu_ne _ _ (by decide), iu_ne _ _ (by decide)] : V28 45 = V27 45).trans f27_45
  have f28_50 : V28 50 = x21 := (by rw [eV28, iu_ne _ _ (by decide), iu_ne _ _ (by decide)] : V28 50 = V27 50).trans f27_50
  have f28_49 : V28 49 = x22 := (by rw [eV28, iu_ne _ _ (by decide), iu_ne _ _ (by decide)] : V28 49 = V27 49).trans f27_49
  have f28_46 : V28 46 = x23 := (by rw [eV28, iu_ne _ _ (by decide), iu_ne _ _ (by decide)] : V28 46 = V27 46).trans f27_46
  have f28_47 : V28 47 = x8 := (by rw [eV28, iu_ne _ _ (by decide), iu_ne _ _ (by decide)] : V28 47 = V27 47).trans f27_47
  have f28_36 : V28 36 = x26 := (by rw [eV28, iu_ne _ _ (by decide), iu_ne _ _ (by decide)] : V28 36 = V27 36).trans f27_36
  have f28_48 : V28 48 = x27 := (by rw [eV28, iu_ne _ _ (by decide), iu_ne _ _ (by decide)] : V28 48 = V27 48).trans f27_48
  have f28_51 : V28 51 = x28 := by rw [eV28, iu_self]
  have g28 : ∀ q : Int, q < 30 → V28 q = V q := fun q hq => (by rw [eV28, iu_ne _ _ (ne30 hq (by decide)), iu_ne _ _ (ne30 hq (by decide))] : V28 q = V27 q).trans (g27 q hq)
  have nx28 : x28 ≠ 0 := by rw [e28]; exact gnz_r nx21
  refine z_aload_n K d_M_finish_279 rfl ?_
  refine z_bipush (v := jI 37) K d_M_finish_280 rfl ?_
  refine z_bipush (v := jI 46) K d_M_finish_282 rfl ?_
  refine z_bipush (v := jI 51) K d_M_finish_284 rfl ?_
  refine z_callV (ci := 0) (As := [.int (jI 37), .int (jI 46), .int (jI 51)]) K (w_M_share l G b0 h a cd T28 (v := x23) (w := x28) hV28 (by decide) (by decide) (by decide) f28_46 f28_51 nx28 b23 (by decide)) ca_M_109 im_M_share se_M_share rfl (by decide) hm_0 rfl rfl (by decide) (Nat.le_of_ble_eq_true rfl) d_M_finish_286 (fun o h1 hp => ?_)
  obtain ⟨T29, rfl, rfl, ⟨y29, z29, hV29⟩, hN29⟩ := hp
  obtain ⟨x29, e29⟩ : ∃ z : Int, z = (x23).tdiv x28 := ⟨_, rfl⟩
  rw [← e29] at hV29
  have b29 : lt9 x29 355 := by rw [e29]; have z := lt9_tdiv (w := x28) b23; exact z
  obtain ⟨V29, eV29⟩ : ∃ W : Int → Int, W = iu (iu (iu V28 53 y29) 54 z29) 37 x29 := ⟨_, rfl⟩
  rw [← eV29] at hV29
  have f29_43 : V29 43 = dd := (by rw [eV29, iu_ne _ _ (by decide), iu_ne _ _ (by decide), iu_ne _ _ (by decide)] : V29 43 = V28 43).trans f28_43
  have f29_42 : V29 42 = nn := (by rw [eV29, iu_ne _ _ (by decide), iu_ne _ _ (by decide), iu_ne _ _ (by decide)] : V29 42 = V28 42).trans f28_42
  have f29_44 : V29 44 = ww := (by rw [eV29, iu_ne _ _ (by decide), iu_ne _ _ (by decide), iu_ne _ _ (by decide)] : V29 44 = V28 44).trans f28_44
  have f29_39 : V29 39 = kk := (by rw [eV29, iu_ne _ _ (by decide), iu_ne _ _ (by decide), iu_ne _ _ (by decide)] : V29 39 = V28 39).trans f28_39
  have f29_45 : V29 45 = x11 := (by rw [eV29, iu_ne _ _ (by decide), iu_ne _ _ (by decide), iu_ne _ _ (by decide)] : V29 45 = V28 45).trans f28_45
  have f29_50 : V29 50 = x21 := (by rw [eV29, iu_ne _ _ (by decide), iu_ne _ _ (by decide), iu_ne _ _ (by decide)] : V29 50 = V28 50).trans f28_50
  have f29_49 : V29 49 = x22 := (by rw [eV29, iu_ne _ _ (by decide), iu_ne _ _ (by decide), iu_ne _ _ (by decide)] : V29 49 = V28 49).trans f28_49
  have f29_46 : V29 46 = x23 := (by rw [eV29, iu_ne _ _ (by decide), iu_ne _ _ (by decide), iu_ne _ _ (by decide)] : V29 46 = V28 46).trans f28_46
  have f29_47 : V29 47 = x8 := (by rw [eV29, iu_ne _ _ (by decide), iu_ne _ _ (by decide), iu_ne _ _ (by decide)] : V29 47 = V28 47).trans f28_47
  have f29_36 : V29 36 = x26 := (by rw [eV29, iu_ne _ _ (by decide), iu_ne _ _ (by decide), iu_ne _ _ (by decide)] : V29 36 = V28 36).trans f28_36
  have f29_48 : V29 48 = x27 := (by rw [eV29, iu_ne _ _ (by decide), iu_ne _ _ (by decide), iu_ne _ _ (by decide)] : V29 48 = V28 48).trans f28_48
  have f29_51 : V29 51 = x28 := (by rw [eV29, iu_ne _ _ (by decide), iu_ne _ _ (by decide), iu_ne _ _ (by decide)] : V29 51 = V28 51).trans f28_51
  have f29_37 : V29 37 = x29 := by rw [eV29, iu_self]
  have g29 : ∀ q : Int, q < 30 → V29 q = V q := fun q hq => (by rw [eV29, iu_ne _ _ (ne30 hq (by decide)), iu_ne _ _ (ne30 hq (by decide)), iu_ne _ _ (ne30 hq (by decide))] : V29 q = V28 q).trans (g28 q hq)
  refine z_aload_n K d_M_finish_289 rfl ?_
  refine z_bipush (v := jI 49) K d_M_finish_290 rfl ?_
  refine z_bipush (v := jI 50) K d_M_finish_292 rfl ?_
  refine z_bipush (v := jI 51) K d_M_finish_294 rfl ?_
  refine z_callV (ci := 0) (As := [.int (jI 49), .int (jI 50), .int (jI 51)]) K (w_M_share l G b0 h a cd T29 (v := x21) (w := x28) hV29 (by decide) (by decide) (by decide) f29_50 f29_51 nx28 b21 (by decide)) ca_M_109 im_M_share se_M_share rfl (by decide) hm_0 rfl rfl (by decide) (Nat.le_of_ble_eq_true rfl) d_M_finish_296 (fun o h1 hp => ?_)
  obtain ⟨T30, rfl, rfl, ⟨y30, z30, hV30⟩, hN30⟩ := hp
  obtain ⟨x30, e30⟩ : ∃ z : Int, z = (x21).tdiv x28 := ⟨_, rfl⟩
  rw [← e30] at hV30
  have b30 : lt9 x30 345 := by rw [e30]; have z := lt9_tdiv (w := x28) b21; exact z
  obtain ⟨V30, eV30⟩ : ∃ W : Int → Int, W = iu (iu (iu V29 53 y30) 54 z30) 49 x30 := ⟨_, rfl⟩
  rw [← eV30] at hV30
  have f30_43 : V30 43 = dd := (by rw [eV30, iu_ne _ _ (by decide), iu_ne _ _ (by decide), iu_ne _ _ (by decide)] : V30 43 = V29 43).trans f29_43
  have f30_42 : V30 42 = nn := (by rw [eV30, iu_ne _ _ (by decide), iu_ne _ _ (by decide), iu_ne _ _ (by decide)] : V30 42 = V29 42).trans f29_42
  have f30_44 : V30 44 = ww := (by rw [eV30, iu_ne _ _ (by decide), iu_ne _ _ (by decide), iu_ne _ _ (by decide)] : V30 44 = V29 44).trans f29_44
  have f30_39 : V30 39 = kk := (by rw [eV30, iu_ne _ _ (by decide), iu_ne _ _ (by decide), iu_ne _ _ (by decide)] : V30 39 = V29 39).trans f29_39
  have f30_45 : V30 45 = x11 := (by rw [eV30, iu_ne _ _ (by decide), iu_ne _ _ (by decide), iu_ne _ _ (by decide)] : V30 45 = V29 45).trans f29_45
  have f30_50 : V30 50 = x21 := (by rw [eV30, iu_ne _ _ (by decide), iu_ne _ _ (by decide), iu_ne _ _ (by decide)] : V30 50 = V29 50).trans f29_50
  have f30_46 : V30 46 = x23 := (by rw [eV30, iu_ne _ _ (by decide), iu_ne _ _ (by decide), iu_ne _ _ (by decide)] : V30 46 = V29 46).trans f29_46
  have f30_47 : V30 47 = x8 := (by rw [eV30, iu_ne _ _ (by decide), iu_ne _ _ (by decide), iu_ne _ _ (by decide)] : V30 47 = V29 47).trans f29_47
  have f30_36 : V30 36 = x26 := (by rw [eV30, iu_ne _ _ (by decide), iu_ne _ _ (by decide), iu_ne _ _ (by decide)] : V30 36 = V29 36).trans f29_36
  have f30_48 : V30 48 = x27 := (by rw [eV30, iu_ne _ _ (by decide), iu_ne _ _ (by decide), iu_ne _ _ (by decide)] : V30 48 = V29 48).trans f29_48
  have f30_51 : V30 51 = x28 := (by rw [eV30, iu_ne _ _ (by decide), iu_ne _ _ (by decide), iu_ne _ _ (by decide)] : V30 51 = V29 51).trans f29_51
  have f30_37 : V30 37 = x29 := (by rw [eV30, iu_ne _ _ (by decide), iu_ne _ _ (by decide), iu_ne _ _ (by decide)] : V30 37 = V29 37).trans f29_37
  have f30_49 : V30 49 = x30 := by rw [eV30, iu_self]
  have g30 : ∀ q : Int, q < 30 → V30 q = V q := fun q hq => (by rw [eV30, iu_ne _ _ (ne30 hq (by decide)), iu_ne _ _ (ne30 hq (by decide)), iu_ne _ _ (ne30 hq (by decide))] : V30 q = V29 q).trans (g29 q hq)
  have hXe : x11 = fX A1 A2 nn ww dd ss := by
    unfold fX
    simp only [e11, e10, e7, e4, e6, e5, e9, e8, e2, e1]
  have hYe : x23 = fY A1 A3 nn ww dd vv kk (fX A1 A2 nn ww dd ss) := by
    rw [← hXe]
    unfold fY
    simp only [e23, e20, e17, e14, e13, e12, e1, e16, e15, e19, e18, e22, e21, e8]
  have hSe : x21 = ww * ww * ww := by rw [e21, e8]
  refine z_re [0] rfl (t_M_finish299 K ⟨Nat.le_refl _, Nat.le_refl _, Nat.le_refl _, Nat.le_refl _⟩ T30 (X := fX A1 A2 nn ww dd ss) (Y := fY A1 A3 nn ww dd vv kk (fX A1 A2 nn ww dd ss)) (ww := ww) hV30 (by rw [f30_36, e26, e25, hXe, e8]) (by rw [f30_48, e27, e25, hXe, e8]) (by rw [f30_37, e29, e28, hYe, hSe]) (by rw [f30_49, e30, e28, hYe, hSe]) (mm := 345) (by have z := b30; rw [e30, e28, hYe, hSe] at z; exact z) (by decide) hw0 (fun T' V' q1 q2 q3 q4 q5 q6 => z_vret K hr hlk d_M_finish_350 ⟨_, rfl, rfl, ⟨V', q1, fun q hq => (q2 q hq).trans (g30 q hq), q3, q4, q5⟩, ?_⟩))
  rw [q6, (hN30.trans (hN29.trans (hN28.trans (hN27.trans (hN26.trans (hN25.trans (hN24.trans (hN23.trans (hN22.trans (hN21.trans (hN20.trans (hN19.trans (hN18.trans (hN17.trans (hN16.trans (hN15.trans (hN14.trans (hN13.trans (hN12.trans (hN11.trans (hN10.trans (hN9.trans (hN8.trans (hN7.trans (hN6.trans (hN5.trans (hN4.trans (hN3.trans (hN2.trans (hN1.trans rfl))))))))))))))))))))))))))))))]
end M16
