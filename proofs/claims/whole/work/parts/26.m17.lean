/-- the sum of two points on a curve, as the reference reckons it: nn / ww is the rise of the line, dd, ss, vv, kk as they stand in it -/
def fSum (A1 A2 A3 nn ww dd ss vv kk : Int) : Int × Int × Int :=
  (fUp (fX A1 A2 nn ww dd ss) (ww * ww), fUp (fY A1 A3 nn ww dd vv kk (fX A1 A2 nn ww dd ss)) (ww * ww * ww), (fLo (fY A1 A3 nn ww dd vv kk (fX A1 A2 nn ww dd ss)) (ww * ww * ww)).tdiv (fLo (fX A1 A2 nn ww dd ss) (ww * ww)))
def tD (A1 A3 x y z : Int) : Int := y + y + A1 * x * z + A3 * (z * z) * z
def tN (A1 A2 A4 x y z : Int) : Int := x * x * 3 + (A2 * x + A2 * x) * (z * z) + A4 * (z * z) * (z * z) - A1 * y * z
/-- the tangent -/
def fTouch (A1 A2 A3 A4 x y z : Int) : Int × Int × Int := fSum A1 A2 A3 (tN A1 A2 A4 x y z) (z * tD A1 A3 x y z) (tD A1 A3 x y z) (x + x) x y
/-- the chord -/
def cD (x1 z1 x2 z2 : Int) : Int := x2 * (z1 * z1) - x1 * (z2 * z2)
def cN (y1 z1 y2 z2 : Int) : Int := y2 * (z1 * z1 * z1) - y1 * (z2 * z2 * z2)
def fChord (A1 A2 A3 x1 y1 z1 x2 y2 z2 : Int) : Int × Int × Int := fSum A1 A2 A3 (cN y1 z1 y2 z2) (z1 * z2 * cD x1 z1 x2 z2) (cD x1 z1 x2 z2) (x2 * (z1 * z1) + x1 * (z2 * z2)) (x1 * (z2 * z2)) (y1 * (z2 * z2 * z2))
section M17
variable {p : Program} {l : Launch} {e : Env} {R : Room} {s : State} {m : MethodId} {args : Array Value} {below : List Frame} {meth : Method} {c : Code} {Q : State → Prop} {b0 kc ks : Nat} {G : zG} {h : zH} {a : Nat} {cd : Int}
set_option maxHeartbeats 4000000 in
set_option maxRecDepth 100000 in
theorem v_M_touch (l : Launch) (G : zG) (b0 : Nat) (h : zH) (a : Nat) (cd : Int) (T : mT) {V : Int → Int} {px py pz A1 A2 A3 A4 A6 : Int} (hV : RV T V) (cA1 : V 24 = A1) (cA2 : V 25 = A2) (cA3 : V 26 = A3) (cA4 : V 27 = A4) (cA6 : V 28 = A6) (bA1 : lt9 A1 1) (bA2 : lt9 A2 1) (bA3 : lt9 A3 1) (bA4 : lt9 A4 1) (bA6 : lt9 A6 1) (fx : V 30 = px) (fy : V 31 = py) (fz : V 32 = pz) (bx : lt9 px 38) (by1 : lt9 py 58) (bz : lt9 pz 19) (hw0 : pz * tD A1 A3 px py pz ≠ 0) :
    mMet l G b0 y_M_touch b_M_touch 1 none 5 123 h a cd [] T (fun o T' => o = none ∧ (∃ V' : Int → Int, RV T' V' ∧ (∀ q : Int, q < 30 → V' q = V q) ∧ V' 36 = (fTouch A1 A2 A3 A4 px py pz).1 ∧ V' 37 = (fTouch A1 A2 A3 A4 px py pz).2.1 ∧ V' 38 = (fTouch A1 A2 A3 A4 px py pz).2.2) ∧ T'.2.2.2 = iu T.2.2.2 36 0) :=
  z_met (by decide) (Nat.le_of_ble_eq_true rfl) fun p e s m below meth c K hr hlk hnm => by
  have g0 : ∀ q : Int, q < 30 → V q = V q := fun _ _ => rfl
  refine z_aload_n K d_M_touch_0 rfl ?_
  refine z_bipush (v := jI 49) K d_M_touch_1 rfl ?_
  refine z_bipush (v := jI 32) K d_M_touch_3 rfl ?_
  refine z_bipush (v := jI 32) K d_M_touch_5 rfl ?_
  refine z_callV (ci := 0) (As := [.int (jI 49), .int (jI 32), .int (jI 32)]) K (w_M_multiply l G b0 h a cd T (v := pz) (w := pz) hV (by decide) (by decide) (by decide) (by decide) (by decide) fz fz bz bz (by decide)) ca_M_92 im_M_multiply se_M_multiply rfl (by decide) hm_0 rfl rfl (by decide) (Nat.le_of_ble_eq_true rfl) d_M_touch_7 (fun o h1 hp => ?_)
  obtain ⟨T1, rfl, rfl, hV1, hN1⟩ := hp
  obtain ⟨x1, e1⟩ : ∃ z : Int, z = pz * pz := ⟨_, rfl⟩
  rw [← e1] at hV1
  have b1 : lt9 x1 38 := by rw [e1]; have z := lt9_mul bz bz; exact z
  obtain ⟨V1, eV1⟩ : ∃ W : Int → Int, W = iu V 49 x1 := ⟨_, rfl⟩
  rw [← eV1] at hV1
  have f1_30 : V1 30 = px := (by rw [eV1, iu_ne _ _ (by decide)] : V1 30 = V 30).trans fx
  have f1_31 : V1 31 = py := (by rw [eV1, iu_ne _ _ (by decide)] : V1 31 = V 31).trans fy
  have f1_32 : V1 32 = pz := (by rw [eV1, iu_ne _ _ (by decide)] : V1 32 = V 32).trans fz
  have f1_49 : V1 49 = x1 := by rw [eV1, iu_self]
  have g1 : ∀ q : Int, q < 30 → V1 q = V q := fun q hq => (by rw [eV1, iu_ne _ _ (ne30 hq (by decide))] : V1 q = V q).trans (g0 q hq)
  refine z_aload_n K d_M_touch_10 rfl ?_
  refine z_bipush (v := jI 43) K d_M_touch_11 rfl ?_
  refine z_bipush (v := jI 31) K d_M_touch_13 rfl ?_
  refine z_bipush (v := jI 31) K d_M_touch_15 rfl ?_
  refine z_iconst (v := jI 1) K d_M_touch_17 rfl ?_
  refine z_callV (ci := 0) (As := [.int (jI 43), .int (jI 31), .int (jI 31), .int (jI 1)]) K (w_M_add l G b0 h a cd T1 (v := py) (w := py) hV1 (by decide) (by decide) (by decide) (by decide) f1_31 f1_31 by1 by1 (by decide) (by decide)) ca_M_83 im_M_add se_M_add rfl (by decide) hm_0 rfl rfl (by decide) (Nat.le_of_ble_eq_true rfl) d_M_touch_18 (fun o h1 hp => ?_)
  obtain ⟨T2, rfl, rfl, hV2, hN2⟩ := hp
  obtain ⟨x2, e2⟩ : ∃ z : Int, z = py + py := ⟨_, rfl⟩
  rw [Int.one_mul, ← e2] at hV2
  have b2 : lt9 x2 59 := by rw [e2]; have z := lt9_add by1 by1; exact z
  obtain ⟨V2, eV2⟩ : ∃ W : Int → Int, W = iu V1 43 x2 := ⟨_, rfl⟩
  rw [← eV2] at hV2
  have f2_30 : V2 30 = px := (by rw [eV2, iu_ne _ _ (by decide)] : V2 30 = V1 30).trans f1_30
  have f2_31 : V2 31 = py := (by rw [eV2, iu_ne _ _ (by decide)] : V2 31 = V1 31).trans f1_31
  have f2_32 : V2 32 = pz := (by rw [eV2, iu_ne _ _ (by decide)] : V2 32 = V1 32).trans f1_32
  have f2_49 : V2 49 = x1 := (by rw [eV2, iu_ne _ _ (by decide)] : V2 49 = V1 49).trans f1_49
  have f2_43 : V2 43 = x2 := by rw [eV2, iu_self]
  have g2 : ∀ q : Int, q < 30 → V2 q = V q := fun q hq => (by rw [eV2, iu_ne _ _ (ne30 hq (by decide))] : V2 q = V1 q).trans (g1 q hq)
  refine z_aload_n K d_M_touch_21 rfl ?_
  refine z_bipush (v := jI 43) K d_M_touch_22 rfl ?_
  refine z_bipush (v := jI 24) K d_M_touch_24 rfl ?_
  refine z_bipush (v := jI 30) K d_M_touch_26 rfl ?_
  refine z_bipush (v := jI 32) K d_M_touch_28 rfl ?_
  refine z_callV (ci := 0) (As := [.int (jI 43), .int (jI 24), .int (jI 30), .int (jI 32)]) K (v_M_more l G b0 h a cd T2 (u := x2) (v := A1) (w := px) (t := pz) hV2 (by decide) (by decide) (by decide) (by decide) f2_43 ((g2 24 (by decide)).trans cA1) f2_30 f2_32 b2 bA1 bx bz (by decide) (by decide)) ca_M_102 im_M_more se_M_more rfl (by decide) hm_0 rfl rfl (by decide) (Nat.le_of_ble_eq_true rfl) d_M_touch_30 (fun o h1 hp => ?_)
  obtain ⟨T3, rfl, rfl, hV3, hN3⟩ := hp
  obtain ⟨x3, e3⟩ : ∃ z : Int, z = x2 + A1 * px * pz := ⟨_, rfl⟩
  rw [← e3] at hV3
  have b3 : lt9 x3 60 := by rw [e3]; have z := lt9_add b2 (lt9_mul (lt9_mul bA1 bx) bz); exact z
  obtain ⟨V3, eV3⟩ : ∃ W : Int → Int, W = iu (iu (iu V2 47 (A1 * px)) 48 (A1 * px * pz)) 43 x3 := ⟨_, rfl⟩
  rw [← eV3] at hV3
  have f3_30 : V3 30 = px := (by rw [eV3, iu_ne _ _ (by decide), iu_ne _ _ (by decide), iu_ne _ _ (by decide)] : V3 30 = V2 30).trans f2_30
  have f3_31 : V3 31 = py := (by rw [eV3, iu_ne _ _ (by decide), iu_ne _ _ (by decide), iu_ne _ _ (by decide)] : V3 31 = V2 31).trans f2_31
  have f3_32 : V3 32 = pz := (by rw [eV3, iu_ne _ _ (by decide), iu_ne _ _ (by decide), iu_ne _ _ (by decide)] : V3 32 = V2 32).trans f2_32
  have f3_49 : V3 49 = x1 := (by rw [eV3, iu_ne _ _ (by decide), iu_ne _ _ (by decide), iu_ne _ _ (by decide)] : V3 49 = V2 49).trans f2_49
  have f3_43 : V3 43 = x3 := by rw [eV3, iu_self]
  have g3 : ∀ q : Int, q < 30 → V3 q = V q := fun q hq => (by rw [eV3, iu_ne _ _ (ne30 hq (by decide)), iu_ne _ _ (ne30 hq (by decide)), iu_ne _ _ (ne30 hq (by decide))] : V3 q = V2 q).trans (g2 q hq)
  refine z_aload_n K d_M_touch_33 rfl ?_
  refine z_bipush (v := jI 43) K d_M_touch_34 rfl ?_
  refine z_bipush (v := jI 26) K d_M_touch_36 rfl ?_
  refine z_bipush (v := jI 49) K d_M_touch_38 rfl ?_
  refine z_bipush (v := jI 32) K d_M_touch_40 rfl ?_
  refine z_callV (ci := 0) (As := [.int (jI 43), .int (jI 26), .int (jI 49), .int (jI 32)]) K (v_M_more l G b0 h a cd T3 (u := x3) (v := A3) (w := x1) (t := pz) hV3 (by decide) (by decide) (by decide) (by decide) f3_43 ((g3 26 (by decide)).trans cA3) f3_49 f3_32 b3 bA3 b1 bz (by decide) (by decide)) ca_M_102 im_M_more se_M_more rfl (by decide) hm_0 rfl rfl (by decide) (Nat.le_of_ble_eq_true rfl) d_M_touch_42 (fun o h1 hp => ?_)
  obtain ⟨T4, rfl, rfl, hV4, hN4⟩ := hp
  obtain ⟨x4, e4⟩ : ∃ z : Int, z = x3 + A3 * x1 * pz := ⟨_, rfl⟩
  rw [← e4] at hV4
  have b4 : lt9 x4 61 := by rw [e4]; have z := lt9_add b3 (lt9_mul (lt9_mul bA3 b1) bz); exact z
  obtain ⟨V4, eV4⟩ : ∃ W : Int → Int, W = iu (iu (iu V3 47 (A3 * x1)) 48 (A3 * x1 * pz)) 43 x4 := ⟨_, rfl⟩
  rw [← eV4] at hV4
  have f4_30 : V4 30 = px := (by rw [eV4, iu_ne _ _ (by decide), iu_ne _ _ (by decide), iu_ne _ _ (by decide)] : V4 30 = V3 30).trans f3_30
  have f4_31 : V4 31 = py := (by rw [eV4, iu_ne _ _ (by decide), iu_ne _ _ (by decide), iu_ne _ _ (by decide)] : V4 31 = V3 31).trans f3_31
  have f4_32 : V4 32 = pz := (by rw [eV4, iu_ne _ _ (by decide), iu_ne _ _ (by decide), iu_ne _ _ (by decide)] : V4 32 = V3 32).trans f3_32
  have f4_49 : V4 49 = x1 := (by rw [eV4, iu_ne _ _ (by decide), iu_ne _ _ (by decide), iu_ne _ _ (by decide)] : V4 49 = V3 49).trans f3_49
  have f4_43 : V4 43 = x4 := by rw [eV4, iu_self]
  have g4 : ∀ q : Int, q < 30 → V4 q = V q := fun q hq => (by rw [eV4, iu_ne _ _ (ne30 hq (by decide)), iu_ne _ _ (ne30 hq (by decide)), iu_ne _ _ (ne30 hq (by decide))] : V4 q = V3 q).trans (g3 q hq)
  refine z_aload_n K d_M_touch_45 rfl ?_
  refine z_bipush (v := jI 42) K d_M_touch_46 rfl ?_
  refine z_bipush (v := jI 30) K d_M_touch_48 rfl ?_
  refine z_bipush (v := jI 30) K d_M_touch_50 rfl ?_
  refine z_callV (ci := 0) (As := [.int (jI 42), .int (jI 30), .int (jI 30)]) K (w_M_multiply l G b0 h a cd T4 (v := px) (w := px) hV4 (by decide) (by decide) (by decide) (by decide) (by decide) f4_30 f4_30 bx bx (by decide)) ca_M_92 im_M_multiply se_M_multiply rfl (by decide) hm_0 rfl rfl (by decide) (Nat.le_of_ble_eq_true rfl) d_M_touch_52 (fun o h1 hp => ?_)
  obtain ⟨T5, rfl, rfl, hV5, hN5⟩ := hp
  obtain ⟨x5, e5⟩ : ∃ z : Int, z = px * px := ⟨_, rfl⟩
  rw [← e5] at hV5
  have b5 : lt9 x5 76 := by rw [e5]; have z := lt9_mul bx bx; exact z
  obtain ⟨V5, eV5⟩ : ∃ W : Int → Int, W = iu V4 42 x5 := ⟨_, rfl⟩
  rw [← eV5] at hV5
  have f5_30 : V5 30 = px := (by rw [eV5, iu_ne _ _ (by decide)] : V5 30 = V4 30).trans f4_30
  have f5_31 : V5 31 = py := (by rw [eV5, iu_ne _ _ (by decide)] : V5 31 = V4 31).trans f4_31
  have f5_32 : V5 32 = pz := (by rw [eV5, iu_ne _ _ (by decide)] : V5 32 = V4 32).trans f4_32
  have f5_49 : V5 49 = x1 := (by rw [eV5, iu_ne _ _ (by decide)] : V5 49 = V4 49).trans f4_49
  have f5_43 : V5 43 = x4 := (by rw [eV5, iu_ne _ _ (by decide)] : V5 43 = V4 43).trans f4_43
  have f5_42 : V5 42 = x5 := by rw [eV5, iu_self]
  have g5 : ∀ q : Int, q < 30 → V5 q = V q := fun q hq => (by rw [eV5, iu_ne _ _ (ne30 hq (by decide))] : V5 q = V4 q).trans (g4 q hq)
  refine z_aload_n K d_M_touch_55 rfl ?_
  refine z_bipush (v := jI 50) K d_M_touch_56 rfl ?_
  refine z_ldc2 (v := kI 3) K d_M_touch_58 kc_M_128 ?_
  refine z_callV (ci := 0) (As := [.int (jI 50), .long (kI 3)]) K (v_M_set l G b0 h a cd T5 (v := 3) hV5 (by decide) (by decide)) ca_M_26 im_M_set se_M_set rfl (by decide) hm_0 rfl rfl (by decide) (Nat.le_of_ble_eq_true rfl) d_M_touch_61 (fun o h1 hp => ?_)
  obtain ⟨T6, rfl, rfl, hV6, hN6⟩ := hp
  obtain ⟨V6, eV6⟩ : ∃ W : Int → Int, W = iu V5 50 3 := ⟨_, rfl⟩
  rw [← eV6] at hV6
  have f6_30 : V6 30 = px := (by rw [eV6, iu_ne _ _ (by decide)] : V6 30 = V5 30).trans f5_30
  have f6_31 : V6 31 = py := (by rw [eV6, iu_ne _ _ (by decide)] : V6 31 = V5 31).trans f5_31
  have f6_32 : V6 32 = pz := (by rw [eV6, iu_ne _ _ (by decide)] : V6 32 = V5 32).trans f5_32
  have f6_49 : V6 49 = x1 := (by rw [eV6, iu_ne _ _ (by decide)] : V6 49 = V5 49).trans f5_49
  have f6_43 : V6 43 = x4 := (by rw [eV6, iu_ne _ _ (by decide)] : V6 43 = V5 43).trans f5_43
  have f6_42 : V6 42 = x5 := (by rw [eV6, iu_ne _ _ (by decide)] : V6 42 = V5 42).trans f5_42
  have f6_50 : V6 50 = 3 := by rw [eV6, iu_self]
  have g6 : ∀ q : Int, q < 30 → V6 q = V q := fun q hq => (by rw [eV6, iu_ne _ _ (ne30 hq (by decide))] : V6 q = V5 q).trans (g5 q hq)
  refine z_aload_n K d_M_touch_64 rfl ?_
  refine z_bipush (v := jI 45) K d_M_touch_65 rfl ?_
  refine z_bipush (v := jI 42) K d_M_touch_67 rfl ?_
  refine z_bipush (v := jI 50) K d_M_touch_69 rfl ?_
  refine z_callV (ci := 0) (As := [.int (jI 45), .int (jI 42), .int (jI 50)]) K (w_M_multiply l G b0 h a cd T6 (v := x5) (w := 3) hV6 (by decide) (by decide) (by decide) (by decide) (by decide) f6_42 f6_50 b5 (show lt9 3 1 from (by show ((3 : Int).natAbs : Int) < BS ^ 1; decide)) (by decide)) ca_M_92 im_M_multiply se_M_multiply rfl (by decide) hm_0 rfl rfl (by decide) (Nat.le_of_ble_eq_true rfl) d_M_touch_71 (fun o h1 hp => ?_)
  obtain ⟨T7, rfl, rfl, hV7, hN7⟩ := hp
  obtain ⟨x7, e7⟩ : ∃ z : Int, z = x5 * 3 := ⟨_, rfl⟩
  rw [← e7] at hV7
  have b7 : lt9 x7 77 := by rw [e7]; have z := lt9_mul b5 (show lt9 3 1 from (by show ((3 : Int).natAbs : Int) < BS ^ 1; decide)); exact z
  obtain ⟨V7, eV7⟩ : ∃ W : Int → Int, W = iu V6 45 x7 := ⟨_, rfl⟩
  rw [← eV7] at hV7
  have f7_30 : V7 30 = px := (by rw [eV7, iu_ne _ _ (by decide)] : V7 30 = V6 30).trans f6_30
  have f7_31 : V7 31 = py := (by rw [eV7, iu_ne _ _ (by decide)] : V7 31 = V6 31).trans f6_31
  have f7_32 : V7 32 = pz := (by rw [eV7, iu_ne _ _ (by decide)] : V7 32 = V6 32).trans f6_32
  have f7_49 : V7 49 = x1 := (by rw [eV7, iu_ne _ _ (by decide)] : V7 49 = V6 49).trans f6_49
  have f7_43 : V7 43 = x4 := (by rw [eV7, iu_ne _ _ (by decide)] : V7 43 = V6 43).trans f6_43
  have f7_42 : V7 42 = x5 := (by rw [eV7, iu_ne _ _ (by decide)] : V7 42 = V6 42).trans f6_42
  have f7_50 : V7 50 = 3 := (by rw [eV7, iu_ne _ _ (by decide)] : V7 50 = V6 50).trans f6_50
  have f7_45 : V7 45 = x7 := by rw [eV7, iu_self]
  have g7 : ∀ q : Int, q < 30 → V7 q = V q := fun q hq => (by rw [eV7, iu_ne _ _ (ne30 hq (by decide))] : V7 q = V6 q).trans (g6 q hq)
  refine z_aload_n K d_M_touch_74 rfl ?_
  refine z_bipush (v := jI 45) K d_M_touch_75 rfl ?_
  refine z_bipush (v := jI 42) K d_M_touch_77 rfl ?_
  refine z_callV (ci := 0) (As := [.int (jI 45), .int (jI 42)]) K (w_M_copy l G b0 h a cd T7 (v := x7) hV7 (by decide) (by decide) f7_45) ca_M_40 im_M_copy se_M_copy rfl (by decide) hm_0 rfl rfl (by decide) (Nat.le_of_ble_eq_true rfl) d_M_touch_79 (fun o h1 hp => ?_)
  obtain ⟨T8, rfl, rfl, hV8, hN8⟩ := hp
  obtain ⟨V8, eV8⟩ : ∃ W : Int → Int, W = iu V7 42 x7 := ⟨_, rfl⟩
  rw [← eV8] at hV8
  have f8_30 : V8 30 = px := (by rw [eV8, iu_ne _ _ (by decide)] : V8 30 = V7 30).trans f7_30
  have f8_31 : V8 31 = py := (by rw [eV8, iu_ne _ _ (by decide)] : V8 31 = V7 31).trans f7_31
  have f8_32 : V8 32 = pz := (by rw [eV8, iu_ne _ _ (by decide)] : V8 32 = V7 32).trans f7_32
  have f8_49 : V8 49 = x1 := (by rw [eV8, iu_ne _ _ (by decide)] : V8 49 = V7 49).trans f7_49
  have f8_43 : V8 43 = x4 := (by rw [eV8, iu_ne _ _ (by decide)] : V8 43 = V7 43).trans f7_43
  have f8_50 : V8 50 = 3 := (by rw [eV8, iu_ne _ _ (by decide)] : V8 50 = V7 50).trans f7_50
  have f8_45 : V8 45 = x7 := (by rw [eV8, iu_ne _ _ (by decide)] : V8 45 = V7 45).trans f7_45
  have f8_42 : V8 42 = x7 := by rw [eV8, iu_self]
  have g8 : ∀ q : Int, q < 30 → V8 q = V q := fun q hq => (by rw [eV8, iu_ne _ _ (ne30 hq (by decide))] : V8 q = V7 q).trans (g7 q hq)
  refine z_aload_n K d_M_touch_82 rfl ?_
  refine z_bipush (v := jI 45) K d_M_touch_83 rfl ?_
  refine z_bipush (v := jI 25) K d_M_touch_85 rfl ?_
  refine z_bipush (v := jI 30) K d_M_touch_87 rfl ?_
  refine z_callV (ci := 0) (As := [.int (jI 45), .int (jI 25), .int (jI 30)]) K (w_M_multiply l G b0 h a cd T8 (v := A2) (w := px) hV8 (by decide) (by decide) (by decide) (by decide) (by decide) ((g8 25 (by decide)).trans cA2) f8_30 bA2 bx (by decide)) ca_M_92 im_M_multiply se_M_multiply rfl (by decide) hm_0 rfl rfl (by decide) (Nat.le_of_ble_eq_true rfl) d_M_touch_89 (fun o h1 hp => ?_)
  obtain ⟨T9, rfl, rfl, hV9, hN9⟩ := hp
  obtain ⟨x9, e9⟩ : ∃ z : Int, z = A2 * px := ⟨_, rfl⟩
  rw [← e9] at hV9
  have b9 : lt9 x9 39 := by rw [e9]; have z := lt9_mul bA2 bx; exact z
  obtain ⟨V9, eV9⟩ : ∃ W : Int → Int, W = iu V8 45 x9 := ⟨_, rfl⟩
  rw [← eV9] at hV9
  have f9_30 : V9 30 = px := (by rw [eV9, iu_ne _ _ (by decide)] : V9 30 = V8 30).trans f8_30
  have f9_31 : V9 31 = py := (by rw [eV9, iu_ne _ _ (by decide)] : V9 31 = V8 31).trans f8_31
  have f9_32 : V9 32 = pz := (by rw [eV9, iu_ne _ _ (by decide)] : V9 32 = V8 32).trans f8_32
  have f9_49 : V9 49 = x1 := (by rw [eV9, iu_ne _ _ (by decide)] : V9 49 = V8 49).trans f8_49
  have f9_43 : V9 43 = x4 := (by rw [eV9, iu_ne _ _ (by decide)] : V9 43 = V8 43).trans f8_43
  have f9_50 : V9 50 = 3 := (by rw [eV9, iu_ne _ _ (by decide)] : V9 50 = V8 50).trans f8_50
  have f9_42 : V9 42 = x7 := (by rw [eV9, iu_ne _ _ (by decide)] : V9 42 = V8 42).trans f8_42
  have f9_45 : V9 45 = x9 := by rw [eV9, iu_self]
  have g9 : ∀ q : Int, q < 30 → V9 q = V q := fun q hq => (by rw [eV9, iu_ne _ _ (ne30 hq (by decide))] : V9 q = V8 q).trans (g8 q hq)
  refine z_aload_n K d_M_touch_92 rfl ?_
  refine z_bipush (v := jI 45) K d_M_touch_93 rfl ?_
  refine z_bipush (v := jI 45) K d_M_touch_95 rfl ?_
  refine z_bipush (v := jI 45) K d_M_touch_97 rfl ?_
  refine z_iconst (v := jI 1) K d_M_touch_99 rfl ?_
  refine z_callV (ci := 0) (As := [.int (jI 45), .int (jI 45), .int (jI 45), .int (jI 1)]) K (w_M_add l G b0 h a cd T9 (v := x9) (w := x9) hV9 (by decide) (by decide) (by decide) (by decide) f9_45 f9_45 b9 b9 (by decide) (by decide)) ca_M_83 im_M_add se_M_add rfl (by decide) hm_0 rfl rfl (by decide) (Nat.le_of_ble_eq_true rfl) d_M_touch_100 (fun o h1 hp => ?_)
  obtain ⟨T10, rfl, rfl, hV10, hN10⟩ := hp
  obtain ⟨x10, e10⟩ : ∃ z : Int, z = x9 + x9 := ⟨_, rfl⟩
  rw [Int.one_mul, ← e10] at hV10
  have b10 : lt9 x10 40 := by rw [e10]; have z := lt9_add b9 b9; exact z
  obtain ⟨V10, eV10⟩ : ∃ W : Int → Int, W = iu V9 45 x10 := ⟨_, rfl⟩
  rw [← eV10] at hV10
  have f10_30 : V10 30 = px := (by rw [eV10, iu_ne _ _ (by decide)] : V10 30 = V9 30).trans f9_30
  have f10_31 : V10 31 = py := (by rw [eV10, iu_ne _ _ (by decide)] : V10 31 = V9 31).trans f9_31
  have f10_32 : V10 32 = pz := (by rw [eV10, iu_ne _ _ (by decide)] : V10 32 = V9 32).trans f9_32
  have f10_49 : V10 49 = x1 := (by rw [eV10, iu_ne _ _ (by decide)] : V10 49 = V9 49).trans f9_49
  have f10_43 : V10 43 = x4 := (by rw [eV10, iu_ne _ _ (by decide)] : V10 43 = V9 43).trans f9_43
  have f10_50 : V10 50 = 3 := (by rw [eV10, iu_ne _ _ (by decide)] : V10 50 = V9 50).trans f9_50
  have f10_42 : V10 42 = x7 := (by rw [eV10, iu_ne _ _ (by decide)] : V10 42 = V9 42).trans f9_42
  have f10_45 : V10 45 = x10 := by rw [eV10, iu_self]
  have g10 : ∀ q : Int, q < 30 → V10 q = V q := fun q hq => (by rw [eV10, iu_ne _ _ (ne30 hq (by decide))] : V10 q = V9 q).trans (g9 q hq)
  refine z_aload_n K d_M_touch_103 rfl ?_
  refine z_bipush (v := jI 46) K d_M_touch_104 rfl ?_
  refine z_bipush (v := jI 45) K d_M_touch_106 rfl ?_
  refine z_bipush (v := jI 49) K d_M_touch_108 rfl ?_
  refine z_callV (ci := 0) (As := [.int (jI 46), .int (jI 45), .int (jI 49)]) K (w_M_multiply l G b0 h a cd T10 (v := x10) (w := x1) hV10 (by decide) (by decide) (by decide) (by decide) (by decide) f10_45 f10_49 b10 b1 (by decide)) ca_M_92 im_M_multiply se_M_multiply rfl (by decide) hm_0 rfl rfl (by decide) (Nat.le_of_ble_eq_true rfl) d_M_touch_110 (fun o h1 hp => ?_)
  obtain ⟨T11, rfl, rfl, hV11, hN11⟩ := hp
  obtain ⟨x11, e11⟩ : ∃ z : Int, z = x10 * x1 := ⟨_, rfl⟩
  rw [← e11] at hV11
  have b11 : lt9 x11 78 := by rw [e11]; have z := lt9_mul b10 b1; exact z
  obtain ⟨V11, eV11⟩ : ∃ W : Int → Int, W = iu V10 46 x11 := ⟨_, rfl⟩
  rw [← eV11] at hV11
  have f11_30 : V11 30 = px := (by rw [eV11, iu_ne _ _ (by decide)] : V11 30 = V10 30).trans f10_30
  have f11_31 : V11 31 = py := (by rw [eV11, iu_ne _ _ (by decide)] : V11 31 = V10 31).trans f10_31
  have f11_32 : V11 32 = pz := (by rw [eV11, iu_ne _ _ (by decide)] : V11 32 = V10 32).trans f10_32
  have f11_49 : V11 49 = x1 := (by rw [eV11, iu_ne _ _ (by decide)] : V11 49 = V10 49).trans f10_49
  have f11_43 : V11 43 = x4 := (by rw [eV11, iu_ne _ _ (by decide)] : V11 43 = V10 43).trans f10_43
  have f11_50 : V11 50 = 3 := (by rw [eV11, iu_ne _ _ (by decide)] : V11 50 = V10 50).trans f10_50
  have f11_42 : V11 42 = x7 := (by rw [eV11, iu_ne _ _ (by decide)] : V11 42 = V10 42).trans f10_42
  have f11_45 : V11 45 = x10 := (by rw [eV11, iu_ne _ _ (by decide)] : V11 45 = V10 45).trans f10_45
  have f11_46 : V11 46 = x11 := by rw [eV11, iu_self]
  have g11 : ∀ q : Int, q < 30 → V11 q = V q := fun q hq => (by rw [eV11, iu_ne _ _ (ne30 hq (by decide))] : V11 q = V10 q).trans (g10 q hq)
  refine z_aload_n K d_M_touch_113 rfl ?_
  refine z_bipush (v := jI 42) K d_M_touch_114 rfl ?_
  refine z_bipush (v := jI 42) K d_M_touch_116 rfl ?_
  refine z_bipush (v := jI 46) K d_M_touch_118 rfl ?_
  refine z_iconst (v := jI 1) K d_M_touch_120 rfl ?_
  refine z_callV (ci := 0) (As := [.int (jI 42), .int (jI 42), .int (jI 46), .int (jI 1)]) K (w_M_add l G b0 h a cd T11 (v := x7) (w := x11) hV11 (by decide) (by decide) (by decide) (by decide) f11_42 f11_46 b7 b11 (by decide) (by decide)) ca_M_83 im_M_add se_M_add rfl (by decide) hm_0 rfl rfl (by decide) (Nat.le_of_ble_eq_true rfl) d_M_touch_121 (fun o h1 hp => ?_)
  obtain ⟨T12, rfl, rfl, hV12, hN12⟩ := hp
  obtain ⟨x12, e12⟩ : ∃ z : Int, z = x7 + x11 := ⟨_, rfl⟩
  rw [Int.one_mul, ← e12] at hV12
  have b12 : lt9 x12 79 := by rw [e12]; have z := lt9_add b7 b11; exact z
  obtain ⟨V12, eV12⟩ : ∃ W : Int → Int, W = iu V11 42 x12 := ⟨_, rfl⟩
  rw [← eV12] at hV12
  have f12_30 : V12 30 = px := (by rw [eV12, iu_ne _ _ (by decide)] : V12 30 = V11 30).trans f11_30
  have f12_31 : V12 31 = py := (by rw [eV12, iu_ne _ _ (by decide)] : V12 31 = V11 31).trans f11_31
  have f12_32 : V12 32 = pz := (by rw [eV12, iu_ne _ _ (by decide)] : V12 32 = V11 32).trans f11_32
  have f12_49 : V12 49 = x1 := (by rw [eV12, iu_ne _ _ (by decide)] : V12 49 = V11 49).trans f11_49
  have f12_43 : V12 43 = x4 := (by rw [eV12, iu_ne _ _ (by decide)] : V12 43 = V11 43).trans f11_43
  have f12_50 : V12 50 = 3 := (by rw [eV12, iu_ne _ _ (by decide)] : V12 50 = V11 50).trans f11_50
  have f12_45 : V12 45 = x10 := (by rw [eV12, iu_ne _ _ (by decide)] : V12 45 = V11 45).trans f11_45
  have f12_46 : V12 46 = x11 := (by rw [eV12, iu_ne _ _ (by decide)] : V12 46 = V11 46).trans f11_46
  have f12_42 : V12 42 = x12 := by rw [eV12, iu_self]
  have g12 : ∀ q : Int, q < 30 → V12 q = V q := fun q hq => (by rw [eV12, iu_ne _ _ (ne30 hq (by decide))] : V12 q = V11 q).trans (g11 q hq)
  refine z_aload_n K d_M_touch_124 rfl ?_
  refine z_bipush (v := jI 42) K d_M_touch_125 rfl ?_
  refine z_bipush (v := jI 27) K d_M_touch_127 rfl ?_
  refine z_bipush (v := jI 49) K d_M_touch_129 rfl ?_
  refine z_bipush (v := jI 49) K d_M_touch_131 rfl ?_
  refine z_callV (ci := 0) (As := [.int (jI 42), .int (jI 27), .int (jI 49), .int (jI 49)]) K (v_M_more l G b0 h a cd T12 (u := x12) (v := A4) (w := x1) (t := x1) hV12 (by decide) (by decide) (by decide) (by decide) f12_42 ((g12 27 (by decide)).trans cA4) f12_49 f12_49 b12 bA4 b1 b1 (by decide) (by decide)) ca_M_102 im_M_more se_M_more rfl (by decide) hm_0 rfl rfl (by decide) (Nat.le_of_ble_eq_true rfl) d_M_touch_133 (fun o h1 hp => ?_)
  obtain ⟨T13, rfl, rfl, hV13, hN13⟩ := hp
  obtain ⟨x13, e13⟩ : ∃ z : Int, z = x12 + A4 * x1 * x1 := ⟨_, rfl⟩
  rw [← e13] at hV13
  have b13 : lt9 x13 80 := by rw [e13]; have z := lt9_add b12 (lt9_mul (lt9_mul bA4 b1) b1); exact z
  obtain ⟨V13, eV13⟩ : ∃ W : Int → Int, W = iu (iu (iu V12 47 (A4 * x1)) 48 (A4 * x1 * x1)) 42 x13 := ⟨_, rfl⟩
  rw [← eV13] at hV13
  have f13_30 : V13 30 = px := (by rw [eV13, iu_ne _ _ (by decide), iu_ne _ _ (by decide), iu_ne _ _ (by decide)] : V13 30 = V12 30).trans f12_30
  have f13_31 : V13 31 = py := (by rw [eV13, iu_ne _ _ (by decide), iu_ne _ _ (by decide), iu_ne _ _ (by decide)] : V13 31 = V12 31).trans f12_31
  have f13_32 : V13 32 = pz := (by rw [eV13, iu_ne _ _ (by decide), iu_ne _ _ (by decide), iu_ne _ _ (by decide)] : V13 32 = V12 32).trans f12_32
  have f13_49 : V13 49 = x1 := (by rw [eV13, iu_ne _ _ (by decide), iu_ne _ _ (by decide), iu_ne _ _ (by decide)] : V13 49 = V12 49).trans f12_49
  have f13_43 : V13 43 = x4 := (by rw [eV13, iu_ne _ _ (by decide), iu_ne _ _ (by decide), iu_ne _ _ (by decide)] : V13 43 = V12 43).trans f12_43
  have f13_50 : V13 50 = 3 := (by rw [eV13, iu_ne _ _ (by decide), iu_ne _ _ (by decide), iu_ne _ _ (by decide)] : V13 50 = V12 50).trans f12_50
  have f13_45 : V13 45 = x10 := (by rw [eV13, iu_ne _ _ (by decide), iu_ne _ _ (by decide), iu_ne _ _ (by decide)] : V13 45 = V12 45).trans f12_45
  have f13_46 : V13 46 = x11 := (by rw [eV13, iu_ne _ _ (by decide), iu_ne _ _ (by decide), iu_ne _ _ (by decide)] : V13 46 = V12 46).trans f12_46
  have f13_42 : V13 42 = x13 := by rw [eV13, iu_self]
  have g13 : ∀ q : Int, q < 30 → V13 q = V q := fun q hq => (by rw [eV13, iu_ne _ _ (ne30 hq (by decide)), iu_ne _ _ (ne30 hq (by decide)), iu_ne _ _ (ne30 hq (by decide))] : V13 q = V12 q).trans (g12 q hq)
  refine z_aload_n K d_M_touch_136 rfl ?_
  refine z_bipush (v := jI 45) K d_M_touch_137 rfl ?_
  refine z_bipush (v := jI 24) K d_M_touch_139 rfl ?_
  refine z_bipush (v := jI 31) K d_M_touch_141 rfl ?_
  refine z_callV (ci := 0) (As := [.int (jI 45), .int (jI 24), .int (jI 31)]) K (w_M_multiply l G b0 h a cd T13 (v := A1) (w := py) hV13 (by decide) (by decide) (by decide) (by decide) (by decide) ((g13 24 (by decide)).trans cA1) f13_31 bA1 by1 (by decide)) ca_M_92 im_M_multiply se_M_multiply rfl (by decide) hm_0 rfl rfl (by decide) (Nat.le_of_ble_eq_true rfl) d_M_touch_143 (fun o h1 hp => ?_)
  obtain ⟨T14, rfl, rfl, hV14, hN14⟩ := hp
  obtain ⟨x14, e14⟩ : ∃ z : Int, z = A1 * py := ⟨_, rfl⟩
  rw [← e14] at hV14
  have b14 : lt9 x14 59 := by rw [e14]; have z := lt9_mul bA1 by1; exact z
  obtain ⟨V14, eV14⟩ : ∃ W : Int → Int, W = iu V13 45 x14 := ⟨_, rfl⟩
  rw [← eV14] at hV14
  have f14_30 : V14 30 = px := (by rw [eV14, iu_ne _ _ (by decide)] : V14 30 = V13 30).trans f13_30
  have f14_31 : V14 31 = py := (by rw [eV14, iu_ne _ _ (by decide)] : V14 31 = V13 31).trans f13_31
  have f14_32 : V14 32 = pz := (by rw [eV14, iu_ne _ _ (by decide)] : V14 32 = V13 32).trans f13_32
  have f14_49 : V14 49 = x1 := (by rw [eV14, iu_ne _ _ (by decide)] : V14 49 = V13 49).trans f13_49
  have f14_43 : V14 43 = x4 := (by rw [eV14, iu_ne _ _ (by decide)] : V14 43 = V13 43).trans f13_43
  have f14_50 : V14 50 = 3 := (by rw [eV14, iu_ne _ _ (by decide)] : V14 50 = V13 50).trans f13_50
  have f14_46 : V14 46 = x11 := (by rw [eV14, iu_ne _ _ (by decide)] : V14 46 = V13 46).trans f13_46
  have f14_42 : V14 42 = x13 := (by rw [eV14, iu_ne _ _ (by decide)] : V14 42 = V13 42).trans f13_42
  have f14_45 : V14 45 = x14 := by rw [eV14, iu_self]
  have g14 : ∀ q : Int, q < 30 → V14 q = V q := fun q hq => (by rw [eV14, iu_ne _ _ (ne30 hq (by decide))] : V14 q = V13 q).trans (g13 q hq)
  refine z_aload_n K d_M_touch_146 rfl ?_
  refine z_bipush (v := jI 46) K d_M_touch_147 rfl ?_
  refine z_bipush (v := jI 45) K d_M_touch_149 rfl ?_
  refine z_bipush (v := jI 32) K d_M_touch_151 rfl ?_
  refine z_callV (ci := 0) (As := [.int (jI 46), .int (jI 45), .int (jI 32)]) K (w_M_multiply l G b0 h a cd T14 (v := x14) (w := pz) hV14 (by decide) (by decide) (by decide) (by decide) (by decide) f14_45 f14_32 b14 bz (by decide)) ca_M_92 im_M_multiply se_M_multiply rfl (by decide) hm_0 rfl rfl (by decide) (Nat.le_of_ble_eq_true rfl) d_M_touch_153 (fun o h1 hp => ?_)
  obtain ⟨T15, rfl, rfl, hV15, hN15⟩ := hp
  obtain ⟨x15, e15⟩ : ∃ z : Int, z = x14 * pz := ⟨_, rfl⟩
  rw [← e15] at hV15
  have b15 : lt9 x15 78 := by rw [e15]; have z := lt9_mul b14 bz; exact z
  obtain ⟨V15, eV15⟩ : ∃ W : Int → Int, W = iu V14 46 x15 := ⟨_, rfl⟩
  rw [← eV15] at hV15
  have f15_30 : V15 30 = px := (by rw [eV15, iu_ne _ _ (by decide)] : V15 30 = V14 30).trans f14_30
  have f15_31 : V15 31 = py := (by rw [eV15, iu_ne _ _ (by decide)] : V15 31 = V14 31).trans f14_31
  have f15_32 : V15 32 = pz := (by rw [eV15, iu_ne _ _ (by decide)] : V15 32 = V14 32).trans f14_32
  have f15_49 : V15 49 = x1 := (by rw [eV15, iu_ne _ _ (by decide)] : V15 49 = V14 49).trans f14_49
  have f15_43 : V15 43 = x4 := (by rw [eV15, iu_ne _ _ (by decide)] : V15 43 = V14 43).trans f14_43
  have f15_50 : V15 50 = 3 := (by rw [eV15, iu_ne _ _ (by decide)] : V15 50 = V14 50).trans f14_50
  have f15_42 : V15 42 = x13 := (by rw [eV15, iu_ne _ _ (by decide)] : V15 42 = V14 42).trans f14_42
  have f15_45 : V15 45 = x14 := (by rw [eV15, iu_ne _ _ (by decide)] : V15 45 = V14 45).trans f14_45
  have f15_46 : V15 46 = x15 := by rw [eV15, iu_self]
  have g15 : ∀ q : Int, q < 30 → V15 q = V q := fun q hq => (by rw [eV15, iu_ne _ _ (ne30 hq (by decide))] : V15 q = V14 q).trans (g14 q hq)
  refine z_aload_n K d_M_touch_156 rfl ?_
  refine z_bipush (v := jI 42) K d_M_touch_157 rfl ?_
  refine z_bipush (v := jI 42) K d_M_touch_159 rfl ?_
  refine z_bipush (v := jI 46) K d_M_touch_161 rfl ?_
  refine z_iconst (v := jI (-1)) K d_M_touch_163 rfl ?_
  refine z_callV (ci := 0) (As := [.int (jI 42), .int (jI 42), .int (jI 46), .int (jI (-1))]) K (w_M_add l G b0 h a cd T15 (v := x13) (w := x15) hV15 (by decide) (by decide) (by decide) (by decide) f15_42 f15_46 b13 b15 (by decide) (by decide)) ca_M_83 im_M_add se_M_add rfl (by decide) hm_0 rfl rfl (by decide) (Nat.le_of_ble_eq_true rfl) d_M_touch_164 (fun o h1 hp => ?_)
  obtain ⟨T16, rfl, rfl, hV16, hN16⟩ := hp
  obtain ⟨x16, e16⟩ : ∃ z : Int, z = x13 - x15 := ⟨_, rfl⟩
  rw [Int.neg_mul, Int.one_mul, ← Int.sub_eq_add_neg, ← e16] at hV16
  have b16 : lt9 x16 81 := by rw [e16]; have z := lt9_sub b13 b15; exact z
  obtain ⟨V16, eV16⟩ : ∃ W : Int → Int, W = iu V15 42 x16 := ⟨_, rfl⟩
  rw [← eV16] at hV16
  have f16_30 : V16 30 = px := (by rw [eV16, iu_ne _ _ (by decide)] : V16 30 = V15 30).trans f15_30
  have f16_31 : V16 31 = py := (by rw [eV16, iu_ne _ _ (by decide)] : V16 31 = V15 31).trans f15_31
  have f16_32 : V16 32 = pz := (by rw [eV16, iu_ne _ _ (by decide)] : V16 32 = V15 32).trans f15_32
  have f16_49 : V16 49 = x1 := (by rw [eV16, iu_ne _ _ (by decide)] : V16 49 = V15 49).trans f15_49
  have f16_43 : V16 43 = x4 := (by rw [eV16, iu_ne _ _ (by decide)] : V16 43 = V15 43).trans f15_43
  have f16_50 : V16 50 = 3 := (by rw [eV16, iu_ne _ _ (by decide)] : V16 50 = V15 50).trans f15_50
  have f16_45 : V16 45 = x14 := (by rw [eV16, iu_ne _ _ (by decide)] : V16 45 = V15 45).trans f15_45
  have f16_46 : V16 46 = x15 := (by rw [eV16, iu_ne _ _ (by decide)] : V16 46 = V15 46).trans f15_46
  have f16_42 : V16 42 = x16 := by rw [eV16, iu_self]
  have g16 : ∀ q : Int, q < 30 → V16 q = V q := fun q hq => (by rw [eV16, iu_ne _ _ (ne30 hq (by decide))] : V16 q = V15 q).trans (g15 q hq)
  refine z_aload_n K d_M_touch_167 rfl ?_
  refine z_bipush (v := jI 44) K d_M_touch_168 rfl ?_
  refine z_bipush (v := jI 32) K d_M_touch_170 rfl ?_
  refine z_bipush (v := jI 43) K d_M_touch_172 rfl ?_
  refine z_callV (ci := 0) (As := [.int (jI 44), .int (jI 32), .int (jI 43)]) K (w_M_multiply l G b0 h a cd T16 (v := pz) (w := x4) hV16 (by decide) (by decide) (by decide) (by decide) (by decide) f16_32 f16_43 bz b4 (by decide)) ca_M_92 im_M_multiply se_M_multiply rfl (by decide) hm_0 rfl rfl (by decide) (Nat.le_of_ble_eq_true rfl) d_M_touch_174 (fun o h1 hp => ?_)
  obtain ⟨T17, rfl, rfl, hV17, hN17⟩ := hp
  obtain ⟨x17, e17⟩ : ∃ z : Int, z = pz * x4 := ⟨_, rfl⟩
  rw [← e17] at hV17
  have b17 : lt9 x17 80 := by rw [e17]; have z := lt9_mul bz b4; exact z
  obtain ⟨V17, eV17⟩ : ∃ W : Int → Int, W = iu V16 44 x17 := ⟨_, rfl⟩
  rw [← eV17] at hV17
  have f17_30 : V17 30 = px := (by rw [eV17, iu_ne _ _ (by decide)] : V17 30 = V16 30).trans f16_30
  have f17_31 : V17 31 = py := (by rw [eV17, iu_ne _ _ (by decide)] : V17 31 = V16 31).trans f16_31
  have f17_32 : V17 32 = pz := (by rw [eV17, iu_ne _ _ (by decide)] : V17 32 = V16 32).trans f16_32
  have f17_49 : V17 49 = x1 := (by rw [eV17, iu_ne _ _ (by decide)] : V17 49 = V16 49).trans f16_49
  have f17_43 : V17 43 = x4 := (by rw [eV17, iu_ne _ _ (by decide)] : V17 43 = V16 43).trans f16_43
  have f17_50 : V17 50 = 3 := (by rw [eV17, iu_ne _ _ (by decide)] : V17 50 = V16 50).trans f16_50
  have f17_45 : V17 45 = x14 := (by rw [eV17, iu_ne _ _ (by decide)] : V17 45 = V16 45).trans f16_45
  have f17_46 : V17 46 = x15 := (by rw [eV17, iu_ne _ _ (by decide)] : V17 46 = V16 46).trans f16_46
  have f17_42 : V17 42 = x16 := (by rw [eV17, iu_ne _ _ (by decide)] : V17 42 = V16 42).trans f16_42
  have f17_44 : V17 44 = x17 := by rw [eV17, iu_self]
  have g17 : ∀ q : Int, q < 30 → V17 q = V q := fun q hq => (by rw [eV17, iu_ne _ _ (ne30 hq (by decide))] : V17 q = V16 q).trans (g16 q hq)
  refine z_aload_n K d_M_touch_177 rfl ?_
  refine z_bipush (v := jI 50) K d_M_touch_178 rfl ?_
  refine z_bipush (v := jI 30) K d_M_touch_180 rfl ?_
  refine z_bipush (v := jI 30) K d_M_touch_182 rfl ?_
  refine z_iconst (v := jI 1) K d_M_touch_184 rfl ?_
  refine z_callV (ci := 0) (As := [.int (jI 50), .int (jI 30), .int (jI 30), .int (jI 1)]) K (w_M_add l G b0 h a cd T17 (v := px) (w := px) hV17 (by decide) (by decide) (by decide) (by decide) f17_30 f17_30 bx bx (by decide) (by decide)) ca_M_83 im_M_add se_M_add rfl (by decide) hm_0 rfl rfl (by decide) (Nat.le_of_ble_eq_true rfl) d_M_touch_185 (fun o h1 hp => ?_)
  obtain ⟨T18, rfl, rfl, hV18, hN18⟩ := hp
  obtain ⟨x18, e18⟩ : ∃ z : Int, z = px + px := ⟨_, rfl⟩
  rw [Int.one_mul, ← e18] at hV18
  have b18 : lt9 x18 39 := by rw [e18]; have z := lt9_add bx bx; exact z
  obtain ⟨V18, eV18⟩ : ∃ W : Int → Int, W = iu V17 50 x18 := ⟨_, rfl⟩
  rw [← eV18] at hV18
  have f18_30 : V18 30 = px := (by rw [eV18, iu_ne _ _ (by decide)] : V18 30 = V17 30).trans f17_30
  have f18_31 : V18 31 = py := (by rw [eV18, iu_ne _ _ (by decide)] : V18 31 = V17 31).trans f17_31
  have f18_32 : V18 32 = pz := (by rw [eV18, iu_ne _ _ (by decide)] : V18 32 = V17 32).trans f17_32
  have f18_49 : V18 49 = x1 := (by rw [eV18, iu_ne _ _ (by decide)] : V18 49 = V17 49).trans f17_49
  have f18_43 : V18 43 = x4 := (by rw [eV18, iu_ne _ _ (by decide)] : V18 43 = V17 43).trans f17_43
  have f18_45 : V18 45 = x14 := (by rw [eV18, iu_ne _ _ (by decide)] : V18 45 = V17 45).trans f17_45
  have f18_46 : V18 46 = x15 := (by rw [eV18, iu_ne _ _ (by decide)] : V18 46 = V17 46).trans f17_46
  have f18_42 : V18 42 = x16 := (by rw [eV18, iu_ne _ _ (by decide)] : V18 42 = V17 42).trans f17_42
  have f18_44 : V18 44 = x17 := (by rw [eV18, iu_ne _ _ (by decide)] : V18 44 = V17 44).trans f17_44
  have f18_50 : V18 50 = x18 := by rw [eV18, iu_self]
  have g18 : ∀ q : Int, q < 30 → V18 q = V q := fun q hq => (by rw [eV18, iu_ne _ _ (ne30 hq (by decide))] : V18 q = V17 q).trans (g17 q hq)
  refine z_aload_n K d_M_touch_188 rfl ?_
  refine z_bipush (v := jI 30) K d_M_touch_189 rfl ?_
  refine z_bipush (v := jI 49) K d_M_touch_191 rfl ?_
  refine z_callV (ci := 0) (As := [.int (jI 30), .int (jI 49)]) K (w_M_copy l G b0 h a cd T18 (v := px) hV18 (by decide) (by decide) f18_30) ca_M_40 im_M_copy se_M_copy rfl (by decide) hm_0 rfl rfl (by decide) (Nat.le_of_ble_eq_true rfl) d_M_touch_193 (fun o h1 hp => ?_)
  obtain ⟨T19, rfl, rfl, hV19, hN19⟩ := hp
  obtain ⟨V19, eV19⟩ : ∃ W : Int → Int, W = iu V18 49 px := ⟨_, rfl⟩
  rw [← eV19] at hV19
  have f19_30 : V19 30 = px := (by rw [eV19, iu_ne _ _ (by decide)] : V19 30 = V18 30).trans f18_30
  have f19_31 : V19 31 = py := (by rw [eV19, iu_ne _ _ (by decide)] : V19 31 = V18 31).trans f18_31
  have f19_32 : V19 32 = pz := (by rw [eV19, iu_ne _ _ (by decide)] : V19 32 = V18 32).trans f18_32
  have f19_43 : V19 43 = x4 := (by rw [eV19, iu_ne _ _ (by decide)] : V19 43 = V18 43).trans f18_43
  have f19_45 : V19 45 = x14 := (by rw [eV19, iu_ne _ _ (by decide)] : V19 45 = V18 45).trans f18_45
  have f19_46 : V19 46 = x15 := (by rw [eV19, iu_ne _ _ (by decide)] : V19 46 = V18 46).trans f18_46
  have f19_42 : V19 42 = x16 := (by rw [eV19, iu_ne _ _ (by decide)] : V19 42 = V18 42).trans f18_42
  have f19_44 : V19 44 = x17 := (by rw [eV19, iu_ne _ _ (by decide)] : V19 44 = V18 44).trans f18_44
  have f19_50 : V19 50 = x18 := (by rw [eV19, iu_ne _ _ (by decide)] : V19 50 = V18 50).trans f18_50
  have f19_49 : V19 49 = px := by rw [eV19, iu_self]
  have g19 : ∀ q : Int, q < 30 → V19 q = V q := fun q hq => (by rw [eV19, iu_ne _ _ (ne30 hq (by decide))] : V19 q = V18 q).trans (g18 q hq)
  refine z_aload_n K d_M_touch_196 rfl ?_
  refine z_bipush (v := jI 31) K d_M_touch_197 rfl ?_
  refine z_bipush (v := jI 39) K d_M_touch_199 rfl ?_
  refine z_callV (ci := 0) (As := [.int (jI 31), .int (jI 39)]) K (w_M_copy l G b0 h a cd T19 (v := py) hV19 (by decide) (by decide) f19_31) ca_M_40 im_M_copy se_M_copy rfl (by decide) hm_0 rfl rfl (by decide) (Nat.le_of_ble_eq_true rfl) d_M_touch_201 (fun o h1 hp => ?_)
  obtain ⟨T20, rfl, rfl, hV20, hN20⟩ := hp
  obtain ⟨V20, eV20⟩ : ∃ W : Int → Int, W = iu V19 39 py := ⟨_, rfl⟩
  rw [← eV20] at hV20
  have f20_30 : V20 30 = px := (by rw [eV20, iu_ne _ _ (by decide)] : V20 30 = V19 30).trans f19_30
  have f20_31 : V20 31 = py := (by rw [eV20, iu_ne _ _ (by decide)] : V20 31 = V19 31).trans f19_31
  have f20_32 : V20 32 = pz := (by rw [eV20, iu_ne _ _ (by decide)] : V20 32 = V19 32).trans f19_32
  have f20_43 : V20 43 = x4 := (by rw [eV20, iu_ne _ _ (by decide)] : V20 43 = V19 43).trans f19_43
  have f20_45 : V20 45 = x14 := (by rw [eV20, iu_ne _ _ (by decide)] : V20 45 = V19 45).trans f19_45
  have f20_46 : V20 46 = x15 := (by rw [eV20, iu_ne _ _ (by decide)] : V20 46 = V19 46).trans f19_46
  have f20_42 : V20 42 = x16 := (by rw [eV20, iu_ne _ _ (by decide)] : V20 42 = V19 42).trans f19_42
  have f20_44 : V20 44 = x17 := (by rw [eV20, iu_ne _ _ (by decide)] : V20 44 = V19 44).trans f19_44
  have f20_50 : V20 50 = x18 := (by rw [eV20, iu_ne _ _ (by decide)] : V20 50 = V19 50).trans f19_50
  have f20_49 : V20 49 = px := (by rw [eV20, iu_ne _ _ (by decide)] : V20 49 = V19 49).trans f19_49
  have f20_39 : V20 39 = py := by rw [eV20, iu_self]
  have g20 : ∀ q : Int, q < 30 → V20 q = V q := fun q hq => (by rw [eV20, iu_ne _ _ (ne30 hq (by decide))] : V20 q = V19 q).trans (g19 q hq)
  have s43 : x4 = tD A1 A3 px py pz := by
    simp only [e4, e3, e2, e1, tD]
    try grind
  have s42 : x16 = tN A1 A2 A4 px py pz := by
    simp only [e16, e13, e12, e7, e5, e11, e10, e9, e1, e15, e14, tN]
    try grind
  have s44 : x17 = pz * tD A1 A3 px py pz := by
    simp only [e17, e4, e3, e2, e1, tD]
    try grind
  have s50 : x18 = px + px := by
    simp only [e18]
    try grind
  have s49 : px = px := rfl
  have s39 : py = py := rfl
  refine z_aload_n K d_M_touch_204 rfl ?_
  refine z_callV (ci := 0) (As := []) K (v_M_finish l G b0 h a cd T20 (V := V20) (dd := (tD A1 A3 px py pz)) (nn := (tN A1 A2 A4 px py pz)) (ww := (pz * tD A1 A3 px py pz)) (ss := (px + px)) (vv := (px)) (kk := (py)) hV20 ((g20 24 (by decide)).trans cA1) ((g20 25 (by decide)).trans cA2) ((g20 26 (by decide)).trans cA3) ((g20 27 (by decide)).trans cA4) ((g20 28 (by decide)).trans cA6) bA1 bA2 bA3 bA4 bA6 (f20_43.trans s43) (f20_42.trans s42) (f20_44.trans s44) (f20_50.trans s50) (f20_49.trans s49) (f20_39.trans s39) (s43 ▸ lt9_mono b4 (by decide)) (s42 ▸ lt9_mono b16 (by decide)) (s44 ▸ lt9_mono b17 (by decide)) (s50 ▸ lt9_mono b18 (by decide)) (s49 ▸ lt9_mono bx (by decide)) (s39 ▸ lt9_mono by1 (by decide)) hw0) ca_M_125 im_M_finish se_M_finish rfl (by decide) hm_0 rfl rfl (by decide) (Nat.le_of_ble_eq_true rfl) d_M_touch_205 (fun o h1 hp => ?_)
  obtain ⟨TT, rfl, rfl, ⟨V9, q1, q2, q3, q4, q5⟩, q6⟩ := hp
  exact z_vret K hr hlk d_M_touch_208 ⟨_, rfl, rfl, ⟨V9, q1, fun q hq => (q2 q hq).trans (g20 q hq), q3, q4, q5⟩, by rw [q6, (hN20.trans (hN19.trans (hN18.trans (hN17.trans (hN16.trans (hN15.trans (hN14.trans (hN13.trans (hN12.trans (hN11.trans (hN10.trans (hN9.trans (hN8.trans (hN7.trans (hN6.trans (hN5.trans (hN4.trans (hN3.trans (hN2.trans (hN1.trans rfl))))))))))))))))))))]⟩
end M17
