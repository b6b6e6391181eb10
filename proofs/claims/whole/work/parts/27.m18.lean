/-- the point that the registers from b on hold -/
def PtAt (V N : Int → Int) (b : Int) (o : Option (Int × Int × Int)) : Prop := match o with
  | none => N b = 1
  | some (x, y, z) => N b = 0 ∧ V b = x ∧ V (b + 1) = y ∧ V (b + 2) = z
/-- sums, as the reference reckons them -/
def jn (A1 A2 A3 A4 : Int) : Option (Int × Int × Int) → Option (Int × Int × Int) → Option (Int × Int × Int)
  | none, q => q
  | some p, none => some p
  | some (x1, y1, z1), some (x2, y2, z2) => if x1 = x2 ∧ z1 = z2 then (if y1 + y2 + A1 * x1 * z1 + A3 * (z1 * z1) * z1 = 0 then none else some (fTouch A1 A2 A3 A4 x1 y1 z1)) else some (fChord A1 A2 A3 x1 y1 z1 x2 y2 z2)
/-- what a point must be so that sums of it can be reckoned -/
def capJ : Option (Int × Int × Int) → Prop
  | none => True
  | some (x, y, z) => lt9 x 38 ∧ lt9 y 58 ∧ lt9 z 19 ∧ z ≠ 0
theorem ne45 {q k : Int} (hq : q < 45) (hk : 45 ≤ k) : q ≠ k := by omega
theorem rm_ok {R : Room} {kc ks f w d lw mL : Nat} (h : f ≤ R.frames ∧ w ≤ R.locals ∧ kc ≤ R.cells ∧ ks ≤ R.slots) (h1 : d + 1 ≤ f) (h2 : 8 + (mL + 11) + lw ≤ w) : d + 1 ≤ R.frames ∧ 8 + (mL + 11) + lw ≤ R.locals ∧ kc + 0 ≤ R.cells ∧ ks + 0 ≤ R.slots := ⟨Nat.le_trans h1 h.1, Nat.le_trans h2 h.2.1, h.2.2.1, h.2.2.2⟩
section M18
variable {p : Program} {l : Launch} {e : Env} {R : Room} {s : State} {m : MethodId} {args : Array Value} {below : List Frame} {meth : Method} {c : Code} {Q : State → Prop} {b0 kc ks : Nat} {G : zG} {h : zH} {a : Nat} {cd : Int}
set_option maxHeartbeats 4000000 in
set_option maxRecDepth 100000 in
theorem v_M_isOther (l : Launch) (G : zG) (b0 : Nat) (h : zH) (a : Nat) (cd : Int) (T : mT) {V : Int → Int} {px py pz qy A1 A2 A3 A4 A6 : Int} (hV : RV T V) (cA1 : V 24 = A1) (cA2 : V 25 = A2) (cA3 : V 26 = A3) (cA4 : V 27 = A4) (cA6 : V 28 = A6) (bA1 : lt9 A1 1) (bA2 : lt9 A2 1) (bA3 : lt9 A3 1) (bA4 : lt9 A4 1) (bA6 : lt9 A6 1) (fx : V 30 = px) (fy : V 31 = py) (fz : V 32 = pz) (fq : V 34 = qy) (bx : lt9 px 38) (by1 : lt9 py 58) (bz : lt9 pz 19) (bq : lt9 qy 58) :
    mMet l G b0 y_M_isOther b_M_isOther 1 (some .boolean) 4 102 h a cd [] T (fun o T' => o = some (.int (jI (if py + qy + A1 * px * pz + A3 * (pz * pz) * pz = 0 then 1 else 0))) ∧ (∃ V' : Int → Int, RV T' V' ∧ ∀ q : Int, q < 45 → V' q = V q) ∧ T'.2.2.2 = T.2.2.2) :=
  z_met (by decide) (Nat.le_of_ble_eq_true rfl) fun p e s m below meth c K hr hlk hnm => by
  have g0 : ∀ q : Int, q < 45 → V q = V q := fun _ _ => rfl
  refine z_aload_n K d_M_isOther_0 rfl ?_
  refine z_bipush (v := jI 45) K d_M_isOther_1 rfl ?_
  refine z_bipush (v := jI 31) K d_M_isOther_3 rfl ?_
  refine z_bipush (v := jI 34) K d_M_isOther_5 rfl ?_
  refine z_iconst (v := jI 1) K d_M_isOther_7 rfl ?_
  refine z_callV (ci := 0) (As := [.int (jI 45), .int (jI 31), .int (jI 34), .int (jI 1)]) K (w_M_add l G b0 h a cd T (v := py) (w := qy) hV (by decide) (by decide) (by decide) (by decide) fy fq by1 bq (by decide) (by decide)) ca_M_83 im_M_add se_M_add rfl (by decide) hm_0 rfl rfl (by decide) (Nat.le_of_ble_eq_true rfl) d_M_isOther_8 (fun o h1 hp => ?_)
  obtain ⟨T1, rfl, rfl, hV1, hN1⟩ := hp
  obtain ⟨x1, e1⟩ : ∃ z : Int, z = py + qy := ⟨_, rfl⟩
  rw [Int.one_mul, ← e1] at hV1
  have b1 : lt9 x1 59 := by rw [e1]; have z := lt9_add by1 bq; exact z
  obtain ⟨V1, eV1⟩ : ∃ W : Int → Int, W = iu V 45 x1 := ⟨_, rfl⟩
  rw [← eV1] at hV1
  have f1_30 : V1 30 = px := (by rw [eV1, iu_ne _ _ (by decide)] : V1 30 = V 30).trans fx
  have f1_31 : V1 31 = py := (by rw [eV1, iu_ne _ _ (by decide)] : V1 31 = V 31).trans fy
  have f1_32 : V1 32 = pz := (by rw [eV1, iu_ne _ _ (by decide)] : V1 32 = V 32).trans fz
  have f1_34 : V1 34 = qy := (by rw [eV1, iu_ne _ _ (by decide)] : V1 34 = V 34).trans fq
  have f1_45 : V1 45 = x1 := by rw [eV1, iu_self]
  have g1 : ∀ q : Int, q < 45 → V1 q = V q := fun q hq => (by rw [eV1, iu_ne _ _ (ne45 hq (by decide))] : V1 q = V q).trans (g0 q hq)
  refine z_aload_n K d_M_isOther_11 rfl ?_
  refine z_bipush (v := jI 45) K d_M_isOther_12 rfl ?_
  refine z_bipush (v := jI 24) K d_M_isOther_14 rfl ?_
  refine z_bipush (v := jI 30) K d_M_isOther_16 rfl ?_
  refine z_bipush (v := jI 32) K d_M_isOther_18 rfl ?_
  refine z_callV (ci := 0) (As := [.int (jI 45), .int (jI 24), .int (jI 30), .int (jI 32)]) K (v_M_more l G b0 h a cd T1 (u := x1) (v := A1) (w := px) (t := pz) hV1 (by decide) (by decide) (by decide) (by decide) f1_45 ((g1 24 (by decide)).trans cA1) f1_30 f1_32 b1 bA1 bx bz (by decide) (by decide)) ca_M_102 im_M_more se_M_more rfl (by decide) hm_0 rfl rfl (by decide) (Nat.le_of_ble_eq_true rfl) d_M_isOther_20 (fun o h1 hp => ?_)
  obtain ⟨T2, rfl, rfl, hV2, hN2⟩ := hp
  obtain ⟨x2, e2⟩ : ∃ z : Int, z = x1 + A1 * px * pz := ⟨_, rfl⟩
  rw [← e2] at hV2
  have b2 : lt9 x2 60 := by rw [e2]; have z := lt9_add b1 (lt9_mul (lt9_mul bA1 bx) bz); exact z
  obtain ⟨V2, eV2⟩ : ∃ W : Int → Int, W = iu (iu (iu V1 47 (A1 * px)) 48 (A1 * px * pz)) 45 x2 := ⟨_, rfl⟩
  rw [← eV2] at hV2
  have f2_30 : V2 30 = px := (by rw [eV2, iu_ne _ _ (by decide), iu_ne _ _ (by decide), iu_ne _ _ (by decide)] : V2 30 = V1 30).trans f1_30
  have f2_31 : V2 31 = py := (by rw [eV2, iu_ne _ _ (by decide), iu_ne _ _ (by decide), iu_ne _ _ (by decide)] : V2 31 = V1 31).trans f1_31
  have f2_32 : V2 32 = pz := (by rw [eV2, iu_ne _ _ (by decide), iu_ne _ _ (by decide), iu_ne _ _ (by decide)] : V2 32 = V1 32).trans f1_32
  have f2_34 : V2 34 = qy := (by rw [eV2, iu_ne _ _ (by decide), iu_ne _ _ (by decide), iu_ne _ _ (by decide)] : V2 34 = V1 34).trans f1_34
  have f2_45 : V2 45 = x2 := by rw [eV2, iu_self]
  have g2 : ∀ q : Int, q < 45 → V2 q = V q := fun q hq => (by rw [eV2, iu_ne _ _ (ne45 hq (by decide)), iu_ne _ _ (ne45 hq (by decide)), iu_ne _ _ (ne45 hq (by decide))] : V2 q = V1 q).trans (g1 q hq)
  refine z_aload_n K d_M_isOther_23 rfl ?_
  refine z_bipush (v := jI 49) K d_M_isOther_24 rfl ?_
  refine z_bipush (v := jI 32) K d_M_isOther_26 rfl ?_
  refine z_bipush (v := jI 32) K d_M_isOther_28 rfl ?_
  refine z_callV (ci := 0) (As := [.int (jI 49), .int (jI 32), .int (jI 32)]) K (w_M_multiply l G b0 h a cd T2 (v := pz) (w := pz) hV2 (by decide) (by decide) (by decide) (by decide) (by decide) f2_32 f2_32 bz bz (by decide)) ca_M_92 im_M_multiply se_M_multiply rfl (by decide) hm_0 rfl rfl (by decide) (Nat.le_of_ble_eq_true rfl) d_M_isOther_30 (fun o h1 hp => ?_)
  obtain ⟨T3, rfl, rfl, hV3, hN3⟩ := hp
  obtain ⟨x3, e3⟩ : ∃ z : Int, z = pz * pz := ⟨_, rfl⟩
  rw [← e3] at hV3
  have b3 : lt9 x3 38 := by rw [e3]; have z := lt9_mul bz bz; exact z
  obtain ⟨V3, eV3⟩ : ∃ W : Int → Int, W = iu V2 49 x3 := ⟨_, rfl⟩
  rw [← eV3] at hV3
  have f3_30 : V3 30 = px := (by rw [eV3, iu_ne _ _ (by decide)] : V3 30 = V2 30).trans f2_30
  have f3_31 : V3 31 = py := (by rw [eV3, iu_ne _ _ (by decide)] : V3 31 = V2 31).trans f2_31
  have f3_32 : V3 32 = pz := (by rw [eV3, iu_ne _ _ (by decide)] : V3 32 = V2 32).trans f2_32
  have f3_34 : V3 34 = qy := (by rw [eV3, iu_ne _ _ (by decide)] : V3 34 = V2 34).trans f2_34
  have f3_45 : V3 45 = x2 := (by rw [eV3, iu_ne _ _ (by decide)] : V3 45 = V2 45).trans f2_45
  have f3_49 : V3 49 = x3 := by rw [eV3, iu_self]
  have g3 : ∀ q : Int, q < 45 → V3 q = V q := fun q hq => (by rw [eV3, iu_ne _ _ (ne45 hq (by decide))] : V3 q = V2 q).trans (g2 q hq)
  refine z_aload_n K d_M_isOther_33 rfl ?_
  refine z_bipush (v := jI 45) K d_M_isOther_34 rfl ?_
  refine z_bipush (v := jI 26) K d_M_isOther_36 rfl ?_
  refine z_bipush (v := jI 49) K d_M_isOther_38 rfl ?_
  refine z_bipush (v := jI 32) K d_M_isOther_40 rfl ?_
  refine z_callV (ci := 0) (As := [.int (jI 45), .int (jI 26), .int (jI 49), .int (jI 32)]) K (v_M_more l G b0 h a cd T3 (u := x2) (v := A3) (w := x3) (t := pz) hV3 (by decide) (by decide) (by decide) (by decide) f3_45 ((g3 26 (by decide)).trans cA3) f3_49 f3_32 b2 bA3 b3 bz (by decide) (by decide)) ca_M_102 im_M_more se_M_more rfl (by decide) hm_0 rfl rfl (by decide) (Nat.le_of_ble_eq_true rfl) d_M_isOther_42 (fun o h1 hp => ?_)
  obtain ⟨T4, rfl, rfl, hV4, hN4⟩ := hp
  obtain ⟨x4, e4⟩ : ∃ z : Int, z = x2 + A3 * x3 * pz := ⟨_, rfl⟩
  rw [← e4] at hV4
  have b4 : lt9 x4 61 := by rw [e4]; have z := lt9_add b2 (lt9_mul (lt9_mul bA3 b3) bz); exact z
  obtain ⟨V4, eV4⟩ : ∃ W : Int → Int, W = iu (iu (iu V3 47 (A3 * x3)) 48 (A3 * x3 * pz)) 45 x4 := ⟨_, rfl⟩
  rw [← eV4] at hV4
  have f4_30 : V4 30 = px := (by rw [eV4, iu_ne _ _ (by decide), iu_ne _ _ (by decide), iu_ne _ _ (by decide)] : V4 30 = V3 30).trans f3_30
  have f4_31 : V4 31 = py := (by rw [eV4, iu_ne _ _ (by decide), iu_ne _ _ (by decide), iu_ne _ _ (by decide)] : V4 31 = V3 31).trans f3_31
  have f4_32 : V4 32 = pz := (by rw [eV4, iu_ne _ _ (by decide), iu_ne _ _ (by decide), iu_ne _ _ (by decide)] : V4 32 = V3 32).trans f3_32
  have f4_34 : V4 34 = qy := (by rw [eV4, iu_ne _ _ (by decide), iu_ne _ _ (by decide), iu_ne _ _ (by decide)] : V4 34 = V3 34).trans f3_34
  have f4_49 : V4 49 = x3 := (by rw [eV4, iu_ne _ _ (by decide), iu_ne _ _ (by decide), iu_ne _ _ (by decide)] : V4 49 = V3 49).trans f3_49
  have f4_45 : V4 45 = x4 := by rw [eV4, iu_self]
  have g4 : ∀ q : Int, q < 45 → V4 q = V q := fun q hq => (by rw [eV4, iu_ne _ _ (ne45 hq (by decide)), iu_ne _ _ (ne45 hq (by decide)), iu_ne _ _ (ne45 hq (by decide))] : V4 q = V3 q).trans (g3 q hq)
  have hX : x4 = py + qy + A1 * px * pz + A3 * (pz * pz) * pz := by simp only [e4, e2, e1, e3]
  obtain ⟨n1, k1⟩ := hV4 45 (by decide) (by decide)
  rw [f4_45] at k1
  have s1 := sgn3 x4
  refine z_aload_n K d_M_isOther_45 rfl ?_
  refine zm_get K fd_M_16 rfl d_M_isOther_46 ?_
  refine z_bipush (v := jI 45) K d_M_isOther_49 rfl ?_
  refine zm_sld K (by omega) d_M_isOther_51 ?_
  rw [k1.2.2.2.2.1]
  refine zi_if_ne (tgt := 59) K d_M_isOther_52 (by decide) (by omega) (fun hc => ?_) (fun hc => ?_)
  · refine z_iconst (v := jI 0) K d_M_isOther_59 rfl ?_
    refine z_zret K hr hlk d_M_isOther_60 rfl ⟨_, rfl, ?_, ⟨_, hV4, g4⟩, (hN4.trans (hN3.trans (hN2.trans (hN1.trans rfl))))⟩
    rw [if_neg (fun z => hc (by rw [hX, z]; rfl))]
  · refine z_iconst (v := jI 1) K d_M_isOther_55 rfl ?_
    refine z_goto (tgt := 60) K d_M_isOther_56 (by decide) ?_
    refine z_zret K hr hlk d_M_isOther_60 rfl ⟨_, rfl, ?_, ⟨_, hV4, g4⟩, (hN4.trans (hN3.trans (hN2.trans (hN1.trans rfl))))⟩
    rw [if_pos (by rw [← hX]; exact Int.sign_eq_zero_iff_zero.mp hc)]
set_option maxHeartbeats 4000000 in
set_option maxRecDepth 100000 in
theorem t_M_join89 (K : zC p s m args c b_M_join R_M 1 b0 G) (hRm : 6 ≤ R.frames ∧ 143 ≤ R.locals ∧ kc ≤ R.cells ∧ ks ≤ R.slots) (T : mT) {V : Int → Int} {px py pz qx qy qz A1 A2 A3 A4 A6 : Int} (hV : RV T V) (cA1 : V 24 = A1) (cA2 : V 25 = A2) (cA3 : V 26 = A3) (cA4 : V 27 = A4) (cA6 : V 28 = A6) (bA1 : lt9 A1 1) (bA2 : lt9 A2 1) (bA3 : lt9 A3 1) (bA4 : lt9 A4 1) (bA6 : lt9 A6 1) (fx : V 30 = px) (fy : V 31 = py) (fz : V 32 = pz) (fqx : V 33 = qx) (fqy : V 34 = qy) (fqz : V 35 = qz) (bx : lt9 px 38) (by1 : lt9 py 58) (bz : lt9 pz 19) (bqx : lt9 qx 38) (bqy : lt9 qy 58) (bqz : lt9 qz 19) (hw0 : pz * qz * cD px pz qx qz ≠ 0)
    (hx : ∀ (T' : mT) (V' : Int → Int), RV T' V' → (∀ q : Int, q < 30 → V' q = V q) → V' 36 = (fChord A1 A2 A3 px py pz qx qy qz).1 → V' 37 = (fChord A1 A2 A3 px py pz qx qy qz).2.1 → V' 38 = (fChord A1 A2 A3 px py pz qx qy qz).2.2 → T'.2.2.2 = iu T.2.2.2 36 0 → zW p l e R s m args below meth c 1 b0 G kc ks Q (hm G h a cd T') 242 [(0, .ref a)] []) :
    zW p l e R s m args below meth c 1 b0 G kc ks Q (hm G h a cd T) 89 [(0, .ref a)] [] := by
  have g0 : ∀ q : Int, q < 30 → V q = V q := fun _ _ => rfl
  refine z_aload_n K d_M_join_89 rfl ?_
  refine z_bipush (v := jI 47) K d_M_join_90 rfl ?_
  refine z_bipush (v := jI 32) K d_M_join_92 rfl ?_
  refine z_bipush (v := jI 32) K d_M_join_94 rfl ?_
  refine z_callV (ci := 0) (As := [.int (jI 47), .int (jI 32), .int (jI 32)]) K (w_M_multiply l G b0 h a cd T (v := pz) (w := pz) hV (by decide) (by decide) (by decide) (by decide) (by decide) fz fz bz bz (by decide)) ca_M_92 im_M_multiply se_M_multiply rfl (by decide) hm_0 rfl rfl (rm_ok hRm (by decide) (by decide)) (Nat.le_of_ble_eq_true rfl) d_M_join_96 (fun o h1 hp => ?_)
  obtain ⟨T1, rfl, rfl, hV1, hN1⟩ := hp
  obtain ⟨x1, e1⟩ : ∃ z : Int, z = pz * pz := ⟨_, rfl⟩
  rw [← e1] at hV1
  have b1 : lt9 x1 38 := by rw [e1]; have z := lt9_mul bz bz; exact z
  obtain ⟨V1, eV1⟩ : ∃ W : Int → Int, W = iu V 47 x1 := ⟨_, rfl⟩
  rw [← eV1] at hV1
  have f1_30 : V1 30 = px := (by rw [eV1, iu_ne _ _ (by decide)] : V1 30 = V 30).trans fx
  have f1_31 : V1 31 = py := (by rw [eV1, iu_ne _ _ (by decide)] : V1 31 = V 31).trans fy
  have f1_32 : V1 32 = pz := (by rw [eV1, iu_ne _ _ (by decide)] : V1 32 = V 32).trans fz
  have f1_33 : V1 33 = qx := (by rw [eV1, iu_ne _ _ (by decide)] : V1 33 = V 33).trans fqx
  have f1_34 : V1 34 = qy := (by rw [eV1, iu_ne _ _ (by decide)] : V1 34 = V 34).trans fqy
  have f1_35 : V1 35 = qz := (by rw [eV1, iu_ne _ _ (by decide)] : V1 35 = V 35).trans fqz
  have f1_47 : V1 47 = x1 := by rw [eV1, iu_self]
  have g1 : ∀ q : Int, q < 30 → V1 q = V q := fun q hq => (by rw [eV1, iu_ne _ _ (ne30 hq (by decide))] : V1 q = V q).trans (g0 q hq)
  refine z_aload_n K d_M_join_99 rfl ?_
  refine z_bipush (v := jI 48) K d_M_join_100 rfl ?_
  refine z_bipush (v := jI 35) K d_M_join_102 rfl ?_
  refine z_bipush (v := jI 35) K d_M_join_104 rfl ?_
  refine z_callV (ci := 0) (As := [.int (jI 48), .int (jI 35), .int (jI 35)]) K (w_M_multiply l G b0 h a cd T1 (v := qz) (w := qz) hV1 (by decide) (by decide) (by decide) (by decide) (by decide) f1_35 f1_35 bqz bqz (by decide)) ca_M_92 im_M_multiply se_M_multiply rfl (by decide) hm_0 rfl rfl (rm_ok hRm (by decide) (by decide)) (Nat.le_of_ble_eq_true rfl) d_M_join_106 (fun o h1 hp => ?_)
  obtain ⟨T2, rfl, rfl, hV2, hN2⟩ := hp
  obtain ⟨x2, e2⟩ : ∃ z : Int, z = qz * qz := ⟨_, rfl⟩
  rw [← e2] at hV2
  have b2 : lt9 x2 38 := by rw [e2]; have z := lt9_mul bqz bqz; exact z
  obtain ⟨V2, eV2⟩ : ∃ W : Int → Int, W = iu V1 48 x2 := ⟨_, rfl⟩
  rw [← eV2] at hV2
  have f2_30 : V2 30 = px := (by rw [eV2, iu_ne _ _ (by decide)] : V2 30 = V1 30).trans f1_30
  have f2_31 : V2 31 = py := (by rw [eV2, iu_ne _ _ (by decide)] : V2 31 = V1 31).trans f1_31
  have f2_32 : V2 32 = pz := (by rw [eV2, iu_ne _ _ (by decide)] : V2 32 = V1 32).trans f1_32
  have f2_33 : V2 33 = qx := (by rw [eV2, iu_ne _ _ (by decide)] : V2 33 = V1 33).trans f1_33
  have f2_34 : V2 34 = qy := (by rw [eV2, iu_ne _ _ (by decide)] : V2 34 = V1 34).trans f1_34
  have f2_35 : V2 35 = qz := (by rw [eV2, iu_ne _ _ (by decide)] : V2 35 = V1 35).trans f1_35
  have f2_47 : V2 47 = x1 := (by rw [eV2, iu_ne _ _ (by decide)] : V2 47 = V1 47).trans f1_47
  have f2_48 : V2 48 = x2 := by rw [eV2, iu_self]
  have g2 : ∀ q : Int, q < 30 → V2 q = V q := fun q hq => (by rw [eV2, iu_ne _ _ (ne30 hq (by decide))] : V2 q = V1 q).trans (g1 q hq)
  refine z_aload_n K d_M_join_109 rfl ?_
  refine z_bipush (v := jI 45) K d_M_join_110 rfl ?_
  refine z_bipush (v := jI 33) K d_M_join_112 rfl ?_
  refine z_bipush (v := jI 47) K d_M_join_114 rfl ?_
  refine z_callV (ci := 0) (As := [.int (jI 45), .int (jI 33), .int (jI 47)]) K (w_M_multiply l G b0 h a cd T2 (v := qx) (w := x1) hV2 (by decide) (by decide) (by decide) (by decide) (by decide) f2_33 f2_47 bqx b1 (by decide)) ca_M_92 im_M_multiply se_M_multiply rfl (by decide) hm_0 rfl rfl (rm_ok hRm (by decide) (by decide)) (Nat.le_of_ble_eq_true rfl) d_M_join_116 (fun o h1 hp => ?_)
  obtain ⟨T3, rfl, rfl, hV3, hN3⟩ := hp
  obtain ⟨x3, e3⟩ : ∃ z : Int, z = qx * x1 := ⟨_, rfl⟩
  rw [← e3] at hV3
  have b3 : lt9 x3 76 := by rw [e3]; have z := lt9_mul bqx b1; exact z
  obtain ⟨V3, eV3⟩ : ∃ W : Int → Int, W = iu V2 45 x3 := ⟨_, rfl⟩
  rw [← eV3] at hV3
  have f3_30 : V3 30 = px := (by rw [eV3, iu_ne _ _ (by decide)] : V3 30 = V2 30).trans f2_30
  have f3_31 : V3 31 = py := (by rw [eV3, iu_ne _ _ (by decide)] : V3 31 = V2 31).trans f2_31
  have f3_32 : V3 32 = pz := (by rw [eV3, iu_ne _ _ (by decide)] : V3 32 = V2 32).trans f2_32
  have f3_33 : V3 33 = qx := (by rw [eV3, iu_ne _ _ (by decide)] : V3 33 = V2 33).trans f2_33
  have f3_34 : V3 34 = qy := (by rw [eV3, iu_ne _ _ (by decide)] : V3 34 = V2 34).trans f2_34
  have f3_35 : V3 35 = qz := (by rw [eV3, iu_ne _ _ (by decide)] : V3 35 = V2 35).trans f2_35
  have f3_47 : V3 47 = x1 := (by rw [eV3, iu_ne _ _ (by decide)] : V3 47 = V2 47).trans f2_47
  have f3_48 : V3 48 = x2 := (by rw [eV3, iu_ne _ _ (by decide)] : V3 48 = V2 48).trans f2_48
  have f3_45 : V3 45 = x3 := by rw [eV3, iu_self]
  have g3 : ∀ q : Int, q < 30 → V3 q = V q := fun q hq => (by rw [eV3, iu_ne _ _ (ne30 hq (by decide))] : V3 q = V2 q).trans (g2 q hq)
  refine z_aload_n K d_M_join_119 rfl ?_
  refine z_bipush (v := jI 46) K d_M_join_120 rfl ?_
  refine z_bipush (v := jI 30) K d_M_join_122 rfl ?_
  refine z_bipush (v := jI 48) K d_M_join_124 rfl ?_
  refine z_callV (ci := 0) (As := [.int (jI 46), .int (jI 30), .int (jI 48)]) K (w_M_multiply l G b0 h a cd T3 (v := px) (w := x2) hV3 (by decide) (by decide) (by decide) (by decide) (by decide) f3_30 f3_48 bx b2 (by decide)) ca_M_92 im_M_multiply se_M_multiply rfl (by decide) hm_0 rfl rfl (rm_ok hRm (by decide) (by decide)) (Nat.le_of_ble_eq_true rfl) d_M_join_126 (fun o h1 hp => ?_)
  obtain ⟨T4, rfl, rfl, hV4, hN4⟩ := hp
  obtain ⟨x4, e4⟩ : ∃ z : Int, z = px * x2 := ⟨_, rfl⟩
  rw [← e4] at hV4
  have b4 : lt9 x4 76 := by rw [e4]; have z := lt9_mul bx b2; exact z
  obtain ⟨V4, eV4⟩ : ∃ W : Int → Int, W = iu V3 46 x4 := ⟨_, rfl⟩
  rw [← eV4] at hV4
  have f4_30 : V4 30 = px := (by rw [eV4, iu_ne _ _ (by decide)] : V4 30 = V3 30).trans f3_30
  have f4_31 : V4 31 = py := (by rw [eV4, iu_ne _ _ (by decide)] : V4 31 = V3 31).trans f3_31
  have f4_32 : V4 32 = pz := (by rw [eV4, iu_ne _ _ (by decide)] : V4 32 = V3 32).trans f3_32
  have f4_33 : V4 33 = qx := (by rw [eV4, iu_ne _ _ (by decide)] : V4 33 = V3 33).trans f3_33
  have f4_34 : V4 34 = qy := (by rw [eV4, iu_ne _ _ (by decide)] : V4 34 = V3 34).trans f3_34
  have f4_35 : V4 35 = qz := (by rw [eV4, iu_ne _ _ (by decide)] : V4 35 = V3 35).trans f3_35
  have f4_47 : V4 47 = x1 := (by rw [eV4, iu_ne _ _ (by decide)] : V4 47 = V3 47).trans f3_47
  have f4_48 : V4 48 = x2 := (by rw [eV4, iu_ne _ _ (by decide)] : V4 48 = V3 48).trans f3_48
  have f4_45 : V4 45 = x3 := (by rw [eV4, iu_ne _ _ (by decide)] : V4 45 = V3 45).trans f3_45
  have f4_46 : V4 46 = x4 := by rw [eV4, iu_self]
  have g4 : ∀ q : Int, q < 30 → V4 q = V q := fun q hq => (by rw [eV4, iu_ne _ _ (ne30 hq (by decide))] : V4 q = V3 q).trans (g3 q hq)
  refine z_aload_n K d_M_join_129 rfl ?_
  refine z_bipush (v := jI 43) K d_M_join_130 rfl ?_
  refine z_bipush (v := jI 45) K d_M_join_132 rfl ?_
  refine z_bipush (v := jI 46) K d_M_join_134 rfl ?_
  refine z_iconst (v := jI (-1)) K d_M_join_136 rfl ?_
  refine z_callV (ci := 0) (As := [.int (jI 43), .int (jI 45), .int (jI 46), .int (jI (-1))]) K (w_M_add l G b0 h a cd T4 (v := x3) (w := x4) hV4 (by decide) (by decide) (by decide) (by decide) f4_45 f4_46 b3 b4 (by decide) (by decide)) ca_M_83 im_M_add se_M_add rfl (by decide) hm_0 rfl rfl (rm_ok hRm (by decide) (by decide)) (Nat.le_of_ble_eq_true rfl) d_M_join_137 (fun o h1 hp => ?_)
  obtain ⟨T5, rfl, rfl, hV5, hN5⟩ := hp
  obtain ⟨x5, e5⟩ : ∃ z : Int, z = x3 - x4 := ⟨_, rfl⟩
  rw [Int.neg_mul, Int.one_mul, ← Int.sub_eq_add_neg, ← e5] at hV5
  have b5 : lt9 x5 77 := by rw [e5]; have z := lt9_sub b3 b4; exact z
  obtain ⟨V5, eV5⟩ : ∃ W : Int → Int, W = iu V4 43 x5 := ⟨_, rfl⟩
  rw [← eV5] at hV5
  have f5_30 : V5 30 = px := (by rw [eV5, iu_ne _ _ (by decide)] : V5 30 = V4 30).trans f4_30
  have f5_31 : V5 31 = py := (by rw [eV5, iu_ne _ _ (by decide)] : V5 31 = V4 31).trans f4_31
  have f5_32 : V5 32 = pz := (by rw [eV5, iu_ne _ _ (by decide)] : V5 32 = V4 32).trans f4_32
  have f5_33 : V5 33 = qx := (by rw [eV5, iu_ne _ _ (by decide)] : V5 33 = V4 33).trans f4_33
  have f5_34 : V5 34 = qy := (by rw [eV5, iu_ne _ _ (by decide)] : V5 34 = V4 34).trans f4_34
  have f5_35 : V5 35 = qz := (by rw [eV5, iu_ne _ _ (by decide)] : V5 35 = V4 35).trans f4_35
  have f5_47 : V5 47 = x1 := (by rw [eV5, iu_ne _ _ (by decide)] : V5 47 = V4 47).trans f4_47
  have f5_48 : V5 48 = x2 := (by rw [eV5, iu_ne _ _ (by decide)] : V5 48 = V4 48).trans f4_48
  have f5_45 : V5 45 = x3 := (by rw [eV5, iu_ne _ _ (by decide)] : V5 45 = V4 45).trans f4_45
  have f5_46 : V5 46 = x4 := (by rw [eV5, iu_ne _ _ (by decide)] : V5 46 = V4 46).trans f4_46
  have f5_43 : V5 43 = x5 := by rw [eV5, iu_self]
  have g5 : ∀ q : Int, q < 30 → V5 q = V q := fun q hq => (by rw [eV5, iu_ne _ _ (ne30 hq (by decide))] : V5 q = V4 q).trans (g4 q hq)
  refine z_aload_n K d_M_join_140 rfl ?_
  refine z_bipush (v := jI 50) K d_M_join_141 rfl ?_
  refine z_bipush (v := jI 45) K d_M_join_143 rfl ?_
  refine z_bipush (v := jI 46) K d_M_join_145 rfl ?_
  refine z_iconst (v := jI 1) K d_M_join_147 rfl ?_
  refine z_callV (ci := 0) (As := [.int (jI 50), .int (jI 45), .int (jI 46), .int (jI 1)]) K (w_M_add l G b0 h a cd T5 (v := x3) (w := x4) hV5 (by decide) (by decide) (by decide) (by decide) f5_45 f5_46 b3 b4 (by decide) (by decide)) ca_M_83 im_M_add se_M_add rfl (by decide) hm_0 rfl rfl (rm_ok hRm (by decide) (by decide)) (Nat.le_of_ble_eq_true rfl) d_M_join_148 (fun o h1 hp => ?_)
  obtain ⟨T6, rfl, rfl, hV6, hN6⟩ := hp
  obtain ⟨x6, e6⟩ : ∃ z : Int, z = x3 + x4 := ⟨_, rfl⟩
  rw [Int.one_mul, ← e6] at hV6
  have b6 : lt9 x6 77 := by rw [e6]; have z := lt9_add b3 b4; exact z
  obtain ⟨V6, eV6⟩ : ∃ W : Int → Int, W = iu V5 50 x6 := ⟨_, rfl⟩
  rw [← eV6] at hV6
  have f6_30 : V6 30 = px := (by rw [eV6, iu_ne _ _ (by decide)] : V6 30 = V5 30).trans f5_30
  have f6_31 : V6 31 = py := (by rw [eV6, iu_ne _ _ (by decide)] : V6 31 = V5 31).trans f5_31
  have f6_32 : V6 32 = pz := (by rw [eV6, iu_ne _ _ (by decide)] : V6 32 = V5 32).trans f5_32
  have f6_33 : V6 33 = qx := (by rw [eV6, iu_ne _ _ (by decide)] : V6 33 = V5 33).trans f5_33
  have f6_34 : V6 34 = qy := (by rw [eV6, iu_ne _ _ (by decide)] : V6 34 = V5 34).trans f5_34
  have f6_35 : V6 35 = qz := (by rw [eV6, iu_ne _ _ (by decide)] : V6 35 = V5 35).trans f5_35
  have f6_47 : V6 47 = x1 := (by rw [eV6, iu_ne _ _ (by decide)] : V6 47 = V5 47).trans f5_47
  have f6_48 : V6 48 = x2 := (by rw [eV6, iu_ne _ _ (by decide)] : V6 48 = V5 48).trans f5_48
  have f6_45 : V6 45 = x3 := (by rw [eV6, iu_ne _ _ (by decide)] : V6 45 = V5 45).trans f5_45
  have f6_46 : V6 46 = x4 := (by rw [eV6, iu_ne _ _ (by decide)] : V6 46 = V5 46).trans f5_46
  have f6_43 : V6 43 = x5 := (by rw [eV6, iu_ne _ _ (by decide)] : V6 43 = V5 43).trans f5_43
  have f6_50 : V6 50 = x6 := by rw [eV6, iu_self]
  have g6 : ∀ q : Int, q < 30 → V6 q = V q := fun q hq => (by rw [eV6, iu_ne _ _ (ne30 hq (by decide))] : V6 q = V5 q).trans (g5 q hq)
  refine z_aload_n K d_M_join_151 rfl ?_
  refine z_bipush (v := jI 46) K d_M_join_152 rfl ?_
  refine z_bipush (v := jI 49) K d_M_join_154 rfl ?_
  refine z_callV (ci := 0) (As := [.int (jI 46), .int (jI 49)]) K (w_M_copy l G b0 h a cd T6 (v := x4) hV6 (by decide) (by decide) f6_46) ca_M_40 im_M_copy se_M_copy rfl (by decide) hm_0 rfl rfl (rm_ok hRm (by decide) (by decide)) (Nat.le_of_ble_eq_true rfl) d_M_join_156 (fun o h1 hp => ?_)
  obtain ⟨T7, rfl, rfl, hV7, hN7⟩ := hp
  obtain ⟨V7, eV7⟩ : ∃ W : Int → Int, W = iu V6 49 x4 := ⟨_, rfl⟩
  rw [← eV7] at hV7
  have f7_30 : V7 30 = px := (by rw [eV7, iu_ne _ _ (by decide)] : V7 30 = V6 30).trans f6_30
  have f7_31 : V7 31 = py := (by rw [eV7, iu_ne _ _ (by decide)] : V7 31 = V6 31).trans f6_31
  have f7_32 : V7 32 = pz := (by rw [eV7, iu_ne _ _ (by decide)] : V7 32 = V6 32).trans f6_32
  have f7_33 : V7 33 = qx := (by rw [eV7, iu_ne _ _ (by decide)] : V7 33 = V6 33).trans f6_33
  have f7_34 : V7 34 = qy := (by rw [eV7, iu_ne _ _ (by decide)] : V7 34 = V6 34).trans f6_34
  have f7_35 : V7 35 = qz := (by rw [eV7, iu_ne _ _ (by decide)] : V7 35 = V6 35).trans f6_35
  have f7_47 : V7 47 = x1 := (by rw [eV7, iu_ne _ _ (by decide)] : V7 47 = V6 47).trans f6_47
  have f7_48 : V7 48 = x2 := (by rw [eV7, iu_ne _ _ (by decide)] : V7 48 = V6 48).trans f6_48
  have f7_45 : V7 45 = x3 := (by rw [eV7, iu_ne _ _ (by decide)] : V7 45 = V6 45).trans f6_45
  have f7_46 : V7 46 = x4 := (by rw [eV7, iu_ne _ _ (by decide)] : V7 46 = V6 46).trans f6_46
  have f7_43 : V7 43 = x5 := (by rw [eV7, iu_ne _ _ (by decide)] : V7 43 = V6 43).trans f6_43
  have f7_50 : V7 50 = x6 := (by rw [eV7, iu_ne _ _ (by decide)] : V7 50 = V6 50).trans f6_50
  have f7_49 : V7 49 = x4 := by rw [eV7, iu_self]
  have g7 : ∀ q : Int, q < 30 → V7 q = V q := fun q hq => (by rw [eV7, iu_ne _ _ (ne30 hq (by decide))] : V7 q = V6 q).trans (g6 q hq)
  refine z_aload_n K d_M_join_159 rfl ?_
  refine z_bipush (v := jI 45) K d_M_join_160 rfl ?_
  refine z_bipush (v := jI 47) K d_M_join_162 rfl ?_
  refine z_bipush (v := jI 32) K d_M_join_164 rfl ?_
  refine z_callV (ci := 0) (As := [.int (jI 45), .int (jI 47), .int (jI 32)]) K (w_M_multiply l G b0 h a cd T7 (v := x1) (w := pz) hV7 (by decide) (by decide) (by decide) (by decide) (by decide) f7_47 f7_32 b1 bz (by decide)) ca_M_92 im_M_multiply se_M_multiply rfl (by decide) hm_0 rfl rfl (rm_ok hRm (by decide) (by decide)) (Nat.le_of_ble_eq_true rfl) d_M_join_166 (fun o h1 hp => ?_)
  obtain ⟨T8, rfl, rfl, hV8, hN8⟩ := hp
  obtain ⟨x8, e8⟩ : ∃ z : Int, z = x1 * pz := ⟨_, rfl⟩
  rw [← e8] at hV8
  have b8 : lt9 x8 57 := by rw [e8]; have z := lt9_mul b1 bz; exact z
  obtain ⟨V8, eV8⟩ : ∃ W : Int → Int, W = iu V7 45 x8 := ⟨_, rfl⟩
  rw [← eV8] at hV8
  have f8_30 : V8 30 = px := (by rw [eV8, iu_ne _ _ (by decide)] : V8 30 = V7 30).trans f7_30
  have f8_31 : V8 31 = py := (by rw [eV8, iu_ne _ _ (by decide)] : V8 31 = V7 31).trans f7_31
  have f8_32 : V8 32 = pz := (by rw [eV8, iu_ne _ _ (by decide)] : V8 32 = V7 32).trans f7_32
  have f8_33 : V8 33 = qx := (by rw [eV8, iu_ne _ _ (by decide)] : V8 33 = V7 33).trans f7_33
  have f8_34 : V8 34 = qy := (by rw [eV8, iu_ne _ _ (by decide)] : V8 34 = V7 34).trans f7_34
  have f8_35 : V8 35 = qz := (by rw [eV8, iu_ne _ _ (by decide)] : V8 35 = V7 35).trans f7_35
  have f8_47 : V8 47 = x1 := (by rw [eV8, iu_ne _ _ (by decide)] : V8 47 = V7 47).trans f7_47
  have f8_48 : V8 48 = x2 := (by rw [eV8, iu_ne _ _ (by decide)] : V8 48 = V7 48).trans f7_48
  have f8_46 : V8 46 = x4 := (by rw [eV8, iu_ne _ _ (by decide)] : V8 46 = V7 46).trans f7_46
  have f8_43 : V8 43 = x5 := (by rw [eV8, iu_ne _ _ (by decide)] : V8 43 = V7 43).trans f7_43
  have f8_50 : V8 50 = x6 := (by rw [eV8, iu_ne _ _ (by decide)] : V8 50 = V7 50).trans f7_50
  have f8_49 : V8 49 = x4 := (by rw [eV8, iu_ne _ _ (by decide)] : V8 49 = V7 49).trans f7_49
  have f8_45 : V8 45 = x8 := by rw [eV8, iu_self]
  have g8 : ∀ q : Int, q < 30 → V8 q = V q := fun q hq => (by rw [eV8, iu_ne _ _ (ne30 hq (by decide))] : V8 q = V7 q).trans (g7 q hq)
  refine z_aload_n K d_M_join_169 rfl ?_
  refine z_bipush (v := jI 46) K d_M_join_170 rfl ?_
  refine z_bipush (v := jI 48) K d_M_join_172 rfl ?_
  refine z_bipush (v := jI 35) K d_M_join_174 rfl ?_
  refine z_callV (ci := 0) (As := [.int (jI 46), .int (jI 48), .int (jI 35)]) K (w_M_multiply l G b0 h a cd T8 (v := x2) (w := qz) hV8 (by decide) (by decide) (by decide) (by decide) (by decide) f8_48 f8_35 b2 bqz (by decide)) ca_M_92 im_M_multiply se_M_multiply rfl (by decide) hm_0 rfl rfl (rm_ok hRm (by decide) (by decide)) (Nat.le_of_ble_eq_true rfl) d_M_join_176 (fun o h1 hp => ?_)
  obtain ⟨T9, rfl, rfl, hV9, hN9⟩ := hp
  obtain ⟨x9, e9⟩ : ∃ z : Int, z = x2 * qz := ⟨_, rfl⟩
  rw [← e9] at hV9
  have b9 : lt9 x9 57 := by rw [e9]; have z := lt9_mul b2 bqz; exact z
  obtain ⟨V9, eV9⟩ : ∃ W : Int → Int, W = iu V8 46 x9 := ⟨_, rfl⟩
  rw [← eV9] at hV9
  have f9_30 : V9 30 = px := (by rw [eV9, iu_ne _ _ (by decide)] : V9 30 = V8 30).trans f8_30
  have f9_31 : V9 31 = py := (by rw [eV9, iu_ne _ _ (by decide)] : V9 31 = V8 31).trans f8_31
  have f9_32 : V9 32 = pz := (by rw [eV9, iu_ne _ _ (by decide)] : V9 32 = V8 32).trans f8_32
  have f9_33 : V9 33 = qx := (by rw [eV9, iu_ne _ _ (by decide)] : V9 33 = V8 33).trans f8_33
  have f9_34 : V9 34 = qy := (by rw [eV9, iu_ne _ _ (by decide)] : V9 34 = V8 34).trans f8_34
  have f9_35 : V9 35 = qz := (by rw [eV9, iu_ne _ _ (by decide)] : V9 35 = V8 35).trans f8_35
  have f9_47 : V9 47 = x1 := (by rw [eV9, iu_ne _ _ (by decide)] : V9 47 = V8 47).trans f8_47
  have f9_48 : V9 48 = x2 := (by rw [eV9, iu_ne _ _ (by decide)] : V9 48 = V8 48).trans f8_48
  have f9_43 : V9 43 = x5 := (by rw [eV9, iu_ne _ _ (by decide)] : V9 43 = V8 43).trans f8_43
  have f9_50 : V9 50 = x6 := (by rw [eV9, iu_ne _ _ (by decide)] : V9 50 = V8 50).trans f8_50
  have f9_49 : V9 49 = x4 := (by rw [eV9, iu_ne _ _ (by decide)] : V9 49 = V8 49).trans f8_49
  have f9_45 : V9 45 = x8 := (by rw [eV9, iu_ne _ _ (by decide)] : V9 45 = V8 45).trans f8_45
  have f9_46 : V9 46 = x9 := by rw [eV9, iu_self]
  have g9 : ∀ q : Int, q < 30 → V9 q = V q := fun q hq => (by rw [eV9, iu_ne _ _ (ne30 hq (by decide))] : V9 q = V8 q).trans (g8 q hq)
  refine z_aload_n K d_M_join_179 rfl ?_
  refine z_bipush (v := jI 42) K d_M_join_180 rfl ?_
  refine z_bipush (v := jI 34) K d_M_join_182 rfl ?_
  refine z_bipush (v := jI 45) K d_M_join_184 rfl ?_
  refine z_callV (ci := 0) (As := [.int (jI 42), .int (jI 34), .int (jI 45)]) K (w_M_multiply l G b0 h a cd T9 (v := qy) (w := x8) hV9 (by decide) (by decide) (by decide) (by decide) (by decide) f9_34 f9_45 bqy b8 (by decide)) ca_M_92 im_M_multiply se_M_multiply rfl (by decide) hm_0 rfl rfl (rm_ok hRm (by decide) (by decide)) (Nat.le_of_ble_eq_true rfl) d_M_join_186 (fun o h1 hp => ?_)
  obtain ⟨T10, rfl, rfl, hV10, hN10⟩ := hp
  obtain ⟨x10, e10⟩ : ∃ z : Int, z = qy * x8 := ⟨_, rfl⟩
  rw [← e10] at hV10
  have b10 : lt9 x10 115 := by rw [e10]; have z := lt9_mul bqy b8; exact z
  obtain ⟨V10, eV10⟩ : ∃ W : Int → Int, W = iu V9 42 x10 := ⟨_, rfl⟩
  rw [← eV10] at hV10
  have f10_30 : V10 30 = px := (by rw [eV10, iu_ne _ _ (by decide)] : V10 30 = V9 30).trans f9_30
  have f10_31 : V10 31 = py := (by rw [eV10, iu_ne _ _ (by decide)] : V10 31 = V9 31).trans f9_31
  have f10_32 : V10 32 = pz := (by rw [eV10, iu_ne _ _ (by decide)] : V10 32 = V9 32).trans f9_32
  have f10_33 : V10 33 = qx := (by rw [eV10, iu_ne _ _ (by decide)] : V10 33 = V9 33).trans f9_33
  have f10_34 : V10 34 = qy := (by rw [eV10, iu_ne _ _ (by decide)] : V10 34 = V9 34).trans f9_34
  have f10_35 : V10 35 = qz := (by rw [eV10, iu_ne _ _ (by decide)] : V10 35 = V9 35).trans f9_35
  have f10_47 : V10 47 = x1 := (by rw [eV10, iu_ne _ _ (by decide)] : V10 47 = V9 47).trans f9_47
  have f10_48 : V10 48 = x2 := (by rw [eV10, iu_ne _ _ (by decide)] : V10 48 = V9 48).trans f9_48
  have f10_43 : V10 43 = x5 := (by rw [eV10, iu_ne _ _ (by decide)] : V10 43 = V9 43).trans f9_43
  have f10_50 : V10 50 = x6 := (by rw [eV10, iu_ne _ _ (by decide)] : V10 50 = V9 50).trans f9_50
  have f10_49 : V10 49 = x4 := (by rw [eV10, iu_ne _ _ (by decide)] : V10 49 = V9 49).trans f9_49
  have f10_45 : V10 45 = x8 := (by rw [eV10, iu_ne _ _ (by decide)] : V10 45 = V9 45).trans f9_45
  have f10_46 : V10 46 = x9 := (by rw [eV10, iu_ne _ _ (by decide)] : V10 46 = V9 46).trans f9_46
  have f10_42 : V10 42 = x10 := by rw [eV10, iu_self]
  have g10 : ∀ q : Int, q < 30 → V10 q = V q := fun q hq => (by rw [eV10, iu_ne _ _ (ne30 hq (by decide))] : V10 q = V9 q).trans (g9 q hq)
  refine z_aload_n K d_M_join_189 rfl ?_
  refine z_bipush (v := jI 47) K d_M_join_190 rfl ?_
  refine z_bipush (v := jI 31) K d_M_join_192 rfl ?_
  refine z_bipush (v := jI 46) K d_M_join_194 rfl ?_
  refine z_callV (ci := 0) (As := [.int (jI 47), .int (jI 31), .int (jI 46)]) K (w_M_multiply l G b0 h a cd T10 (v := py) (w := x9) hV10 (by decide) (by decide) (by decide) (by decide) (by decide) f10_31 f10_46 by1 b9 (by decide)) ca_M_92 im_M_multiply se_M_multiply rfl (by decide) hm_0 rfl rfl (rm_ok hRm (by decide) (by decide)) (Nat.le_of_ble_eq_true rfl) d_M_join_196 (fun o h1 hp => ?_)
  obtain ⟨T11, rfl, rfl, hV11, hN11⟩ := hp
  obtain ⟨x11, e11⟩ : ∃ z : Int, z = py * x9 := ⟨_, rfl⟩
  rw [← e11] at hV11
  have b11 : lt9 x11 115 := by rw [e11]; have z := lt9_mul by1 b9; exact z
  obtain ⟨V11, eV11⟩ : ∃ W : Int → Int, W = iu V10 47 x11 := ⟨_, rfl⟩
  rw [← eV11] at hV11
  have f11_30 : V11 30 = px := (by rw [eV11, iu_ne _ _ (by decide)] : V11 30 = V10 30).trans f10_30
  have f11_31 : V11 31 = py := (by rw [eV11, iu_ne _ _ (by decide)] : V11 31 = V10 31).trans f10_31
  have f11_32 : V11 32 = pz := (by rw [eV11, iu_ne _ _ (by decide)] : V11 32 = V10 32).trans f10_32
  have f11_33 : V11 33 = qx := (by rw [eV11, iu_ne _ _ (by decide)] : V11 33 = V10 33).trans f10_33
  have f11_34 : V11 34 = qy := (by rw [eV11, iu_ne _ _ (by decide)] : V11 34 = V10 34).trans f10_34
  have f11_35 : V11 35 = qz := (by rw [eV11, iu_ne _ _ (by decide)] : V11 35 = V10 35).trans f10_35
  have f11_48 : V11 48 = x2 := (by rw [eV11, iu_ne _ _ (by decide)] : V11 48 = V10 48).trans f10_48
  have f11_43 : V11 43 = x5 := (by rw [eV11, iu_ne _ _ (by decide)] : V11 43 = V10 43).trans f10_43
  have f11_50 : V11 50 = x6 := (by rw [eV11, iu_ne _ _ (by decide)] : V11 50 = V10 50).trans f10_50
  have f11_49 : V11 49 = x4 := (by rw [eV11, iu_ne _ _ (by decide)] : V11 49 = V10 49).trans f10_49
  have f11_45 : V11 45 = x8 := (by rw [eV11, iu_ne _ _ (by decide)] : V11 45 = V10 45).trans f10_45
  have f11_46 : V11 46 = x9 := (by rw [eV11, iu_ne _ _ (by decide)] : V11 46 = V10 46).trans f10_46
  have f11_42 : V11 42 = x10 := (by rw [eV11, iu_ne _ _ (by decide)] : V11 42 = V10 42).trans f10_42
  have f11_47 : V11 47 = x11 := by rw [eV11, iu_self]
  have g11 : ∀ q : Int, q < 30 → V11 q = V q := fun q hq => (by rw [eV11, iu_ne _ _ (ne30 hq (by decide))] : V11 q = V10 q).trans (g10 q hq)
  refine z_aload_n K d_M_join_199 rfl ?_
  refine z_bipush (v := jI 42) K d_M_join_200 rfl ?_
  refine z_bipush (v := jI 42) K d_M_join_202 rfl ?_
  refine z_bipush (v := jI 47) K d_M_join_204 rfl ?_
  refine z_iconst (v := jI (-1)) K d_M_join_206 rfl ?_
  refine z_callV (ci := 0) (As := [.int (jI 42), .int (jI 42), .int (jI 47), .int (jI (-1))]) K (w_M_add l G b0 h a cd T11 (v := x10) (w := x11) hV11 (by decide) (by decide) (by decide) (by decide) f11_42 f11_47 b10 b11 (by decide) (by decide)) ca_M_83 im_M_add se_M_add rfl (by decide) hm_0 rfl rfl (rm_ok hRm (by decide) (by decide)) (Nat.le_of_ble_eq_true rfl) d_M_join_207 (fun o h1 hp => ?_)
  obtain ⟨T12, rfl, rfl, hV12, hN12⟩ := hp
  obtain ⟨x12, e12⟩ : ∃ z : Int, z = x10 - x11 := ⟨_, rfl⟩
  rw [Int.neg_mul, Int.one_mul, ← Int.sub_eq_add_neg, ← e12] at hV12
  have b12 : lt9 x12 116 := by rw [e12]; have z := lt9_sub b10 b11; exact z
  obtain ⟨V12, eV12⟩ : ∃ W : Int → Int, W = iu V11 42 x12 := ⟨_, rfl⟩
  rw [← eV12] at hV12
  have f12_30 : V12 30 = px := (by rw [eV12, iu_ne _ _ (by decide)] : V12 30 = V11 30).trans f11_30
  have f12_31 : V12 31 = py := (by rw [eV12, iu_ne _ _ (by decide)] : V12 31 = V11 31).trans f11_31
  have f12_32 : V12 32 = pz := (by rw [eV12, iu_ne _ _ (by decide)] : V12 32 = V11 32).trans f11_32
  have f12_33 : V12 33 = qx := (by rw [eV12, iu_ne _ _ (by decide)] : V12 33 = V11 33).trans f11_33
  have f12_34 : V12 34 = qy := (by rw [eV12, iu_ne _ _ (by decide)] : V12 34 = V11 34).trans f11_34
  have f12_35 : V12 35 = qz := (by rw [eV12, iu_ne _ _ (by decide)] : V12 35 = V11 35).trans f11_35
  have f12_48 : V12 48 = x2 := (by rw [eV12, iu_ne _ _ (by decide)] : V12 48 = V11 48).trans f11_48
  have f12_43 : V12 43 = x5 := (by rw [eV12, iu_ne _ _ (by decide)] : V12 43 = V11 43).trans f11_43
  have f12_50 : V12 50 = x6 := (by rw [eV12, iu_ne _ _ (by decide)] : V12 50 = V11 50).trans f11_50
  have f12_49 : V12 49 = x4 := (by rw [eV12, iu_ne _ _ (by decide)] : V12 49 = V11 49).trans f11_49
  have f12_45 : V12 45 = x8 := (by rw [eV12, iu_ne _ _ (by decide)] : V12 45 = V11 45).trans f11_45
  have f12_46 : V12 46 = x9 := (by rw [eV12, iu_ne _ _ (by decide)] : V12 46 = V11 46).trans f11_46
  have f12_47 : V12 47 = x11 := (by rw [eV12, iu_ne _ _ (by decide)] : V12 47 = V11 47).trans f11_47
  have f12_42 : V12 42 = x12 := by rw [eV12, iu_self]
  have g12 : ∀ q : Int, q < 30 → V12 q = V q := fun q hq => (by rw [eV12, iu_ne _ _ (ne30 hq (by decide))] : V12 q = V11 q).trans (g11 q hq)
  refine z_aload_n K d_M_join_210 rfl ?_
  refine z_bipush (v := jI 47) K d_M_join_211 rfl ?_
  refine z_bipush (v := jI 39) K d_M_join_213 rfl ?_
  refine z_callV (ci := 0) (As := [.int (jI 47), .int (jI 39)]) K (w_M_copy l G b0 h a cd T12 (v := x11) hV12 (by decide) (by decide) f12_47) ca_M_40 im_M_copy se_M_copy rfl (by decide) hm_0 rfl rfl (rm_ok hRm (by decide) (by decide)) (Nat.le_of_ble_eq_true rfl) d_M_join_215 (fun o h1 hp => ?_)
  obtain ⟨T13, rfl, rfl, hV13, hN13⟩ := hp
  obtain ⟨V13, eV13⟩ : ∃ W : Int → Int, W = iu V12 39 x11 := ⟨_, rfl⟩
  rw [← eV13] at hV13
  have f13_30 : V13 30 = px := (by rw [eV13, iu_ne _ _ (by decide)] : V13 30 = V12 30).trans f12_30
  have f13_31 : V13 31 = py := (by rw [eV13, iu_ne _ _ (by decide)] : V13 31 = V12 31).trans f12_31
  have f13_32 : V13 32 = pz := (by rw [eV13, iu_ne _ _ (by decide)] : V13 32 = V12 32).trans f12_32
  have f13_33 : V13 33 = qx := (by rw [eV13, iu_ne _ _ (by decide)] : V13 33 = V12 33).trans f12_33
  have f13_34 : V13 34 = qy := (by rw [eV13, iu_ne _ _ (by decide)] : V13 34 = V12 34).trans f12_34
  have f13_35 : V13 35 = qz := (by rw [eV13, iu_ne _ _ (by decide)] : V13 35 = V12 35).trans f12_35
  have f13_48 : V13 48 = x2 := (by rw [eV13, iu_ne _ _ (by decide)] : V13 48 = V12 48).trans f12_48
  have f13_43 : V13 43 = x5 := (by rw [eV13, iu_ne _ _ (by decide)] : V13 43 = V12 43).trans f12_43
  have f13_50 : V13 50 = x6 := (by rw [eV13, iu_ne _ _ (by decide)] : V13 50 = V12 50).trans f12_50
  have f13_49 : V13 49 = x4 := (by rw [eV13, iu_ne _ _ (by decide)] : V13 49 = V12 49).trans f12_49
  have f13_45 : V13 45 = x8 := (by rw [eV13, iu_ne _ _ (by decide)] : V13 45 = V12 45).trans f12_45
  have f13_46 : V13 46 = x9 := (by rw [eV13, iu_ne _ _ (by decide)] : V13 46 = V12 46).trans f12_46
  have f13_47 : V13 47 = x11 := (by rw [eV13, iu_ne _ _ (by decide)] : V13 47 = V12 47).trans f12_47
  have f13_42 : V13 42 = x12 := (by rw [eV13, iu_ne _ _ (by decide)] : V13 42 = V12 42).trans f12_42
  have f13_39 : V13 39 = x11 := by rw [eV13, iu_self]
  have g13 : ∀ q : Int, q < 30 → V13 q = V q := fun q hq => (by rw [eV13, iu_ne _ _ (ne30 hq (by decide))] : V13 q = V12 q).trans (g12 q hq)
  refine z_aload_n K d_M_join_218 rfl ?_
  refine z_bipush (v := jI 47) K d_M_join_219 rfl ?_
  refine z_bipush (v := jI 32) K d_M_join_221 rfl ?_
  refine z_bipush (v := jI 35) K d_M_join_223 rfl ?_
  refine z_callV (ci := 0) (As := [.int (jI 47), .int (jI 32), .int (jI 35)]) K (w_M_multiply l G b0 h a cd T13 (v := pz) (w := qz) hV13 (by decide) (by decide) (by decide) (by decide) (by decide) f13_32 f13_35 bz bqz (by decide)) ca_M_92 im_M_multiply se_M_multiply rfl (by decide) hm_0 rfl rfl (rm_ok hRm (by decide) (by decide)) (Nat.le_of_ble_eq_true rfl) d_M_join_225 (fun o h1 hp => ?_)
  obtain ⟨T14, rfl, rfl, hV14, hN14⟩ := hp
  obtain ⟨x14, e14⟩ : ∃ z : Int, z = pz * qz := ⟨_, rfl⟩
  rw [← e14] at hV14
  have b14 : lt9 x14 38 := by rw [e14]; have z := lt9_mul bz bqz; exact z
  obtain ⟨V14, eV14⟩ : ∃ W : Int → Int, W = iu V13 47 x14 := ⟨_, rfl⟩
  rw [← eV14] at hV14
  have f14_30 : V14 30 = px := (by rw [eV14, iu_ne _ _ (by decide)] : V14 30 = V13 30).trans f13_30
  have f14_31 : V14 31 = py := (by rw [eV14, iu_ne _ _ (by decide)] : V14 31 = V13 31).trans f13_31
  have f14_32 : V14 32 = pz := (by rw [eV14, iu_ne _ _ (by decide)] : V14 32 = V13 32).trans f13_32
  have f14_33 : V14 33 = qx := (by rw [eV14, iu_ne _ _ (by decide)] : V14 33 = V13 33).trans f13_33
  have f14_34 : V14 34 = qy := (by rw [eV14, iu_ne _ _ (by decide)] : V14 34 = V13 34).trans f13_34
  have f14_35 : V14 35 = qz := (by rw [eV14, iu_ne _ _ (by decide)] : V14 35 = V13 35).trans f13_35
  have f14_48 : V14 48 = x2 := (by rw [eV14, iu_ne _ _ (by decide)] : V14 48 = V13 48).trans f13_48
  have f14_43 : V14 43 = x5 := (by rw [eV14, iu_ne _ _ (by decide)] : V14 43 = V13 43).trans f13_43
  have f14_50 : V14 50 = x6 := (by rw [eV14, iu_ne _ _ (by decide)] : V14 50 = V13 50).trans f13_50
  have f14_49 : V14 49 = x4 := (by rw [eV14, iu_ne _ _ (by decide)] : V14 49 = V13 49).trans f13_49
  have f14_45 : V14 45 = x8 := (by rw [eV14, iu_ne _ _ (by decide)] : V14 45 = V13 45).trans f13_45
  have f14_46 : V14 46 = x9 := (by rw [eV14, iu_ne _ _ (by decide)] : V14 46 = V13 46).trans f13_46
  have f14_42 : V14 42 = x12 := (by rw [eV14, iu_ne _ _ (by decide)] : V14 42 = V13 42).trans f13_42
  have f14_39 : V14 39 = x11 := (by rw [eV14, iu_ne _ _ (by decide)] : V14 39 = V13 39).trans f13_39
  have f14_47 : V14 47 = x14 := by rw [eV14, iu_self]
  have g14 : ∀ q : Int, q < 30 → V14 q = V q := fun q hq => (by rw [eV14, iu_ne _ _ (ne30 hq (by decide))] : V14 q = V13 q).trans (g13 q hq)
  refine z_aload_n K d_M_join_228 rfl ?_
  refine z_bipush (v := jI 44) K d_M_join_229 rfl ?_
  refine z_bipush (v := jI 47) K d_M_join_231 rfl ?_
  refine z_bipush (v := jI 43) K d_M_join_233 rfl ?_
  refine z_callV (ci := 0) (As := [.int (jI 44), .int (jI 47), .int (jI 43)]) K (w_M_multiply l G b0 h a cd T14 (v := x14) (w := x5) hV14 (by decide) (by decide) (by decide) (by decide) (by decide) f14_47 f14_43 b14 b5 (by decide)) ca_M_92 im_M_multiply se_M_multiply rfl (by decide) hm_0 rfl rfl (rm_ok hRm (by decide) (by decide)) (Nat.le_of_ble_eq_true rfl) d_M_join_235 (fun o h1 hp => ?_)
  obtain ⟨T15, rfl, rfl, hV15, hN15⟩ := hp
  obtain ⟨x15, e15⟩ : ∃ z : Int, z = x14 * x5 := ⟨_, rfl⟩
  rw [← e15] at hV15
  have b15 : lt9 x15 115 := by rw [e15]; have z := lt9_mul b14 b5; exact z
  obtain ⟨V15, eV15⟩ : ∃ W : Int → Int, W = iu V14 44 x15 := ⟨_, rfl⟩
  rw [← eV15] at hV15
  have f15_30 : V15 30 = px := (by rw [eV15, iu_ne _ _ (by decide)] : V15 30 = V14 30).trans f14_30
  have f15_31 : V15 31 = py := (by rw [eV15, iu_ne _ _ (by decide)] : V15 31 = V14 31).trans f14_31
  have f15_32 : V15 32 = pz := (by rw [eV15, iu_ne _ _ (by decide)] : V15 32 = V14 32).trans f14_32
  have f15_33 : V15 33 = qx := (by rw [eV15, iu_ne _ _ (by decide)] : V15 33 = V14 33).trans f14_33
  have f15_34 : V15 34 = qy := (by rw [eV15, iu_ne _ _ (by decide)] : V15 34 = V14 34).trans f14_34
  have f15_35 : V15 35 = qz := (by rw [eV15, iu_ne _ _ (by decide)] : V15 35 = V14 35).trans f14_35
  have f15_48 : V15 48 = x2 := (by rw [eV15, iu_ne _ _ (by decide)] : V15 48 = V14 48).trans f14_48
  have f15_43 : V15 43 = x5 := (by rw [eV15, iu_ne _ _ (by decide)] : V15 43 = V14 43).trans f14_43
  have f15_50 : V15 50 = x6 := (by rw [eV15, iu_ne _ _ (by decide)] : V15 50 = V14 50).trans f14_50
  have f15_49 : V15 49 = x4 := (by rw [eV15, iu_ne _ _ (by decide)] : V15 49 = V14 49).trans f14_49
  have f15_45 : V15 45 = x8 := (by rw [eV15, iu_ne _ _ (by decide)] : V15 45 = V14 45).trans f14_45
  have f15_46 : V15 46 = x9 := (by rw [eV15, iu_ne _ _ (by decide)] : V15 46 = V14 46).trans f14_46
  have f15_42 : V15 42 = x12 := (by rw [eV15, iu_ne _ _ (by decide)] : V15 42 = V14 42).trans f14_42
  have f15_39 : V15 39 = x11 := (by rw [eV15, iu_ne _ _ (by decide)] : V15 39 = V14 39).trans f14_39
  have f15_47 : V15 47 = x14 := (by rw [eV15, iu_ne _ _ (by decide)] : V15 47 = V14 47).trans f14_47
  have f15_44 : V15 44 = x15 := by rw [eV15, iu_self]
  have g15 : ∀ q : Int, q < 30 → V15 q = V q := fun q hq => (by rw [eV15, iu_ne _ _ (ne30 hq (by decide))] : V15 q = V14 q).trans (g14 q hq)
  have s43 : x5 = cD px pz qx qz := by
    simp only [e5, e3, e1, e4, e2, cD]
    try grind
  have s42 : x12 = cN py pz qy qz := by
    simp only [e12, e10, e8, e1, e11, e9, e2, cN]
    try grind
  have s44 : x15 = pz * qz * cD px pz qx qz := by
    simp only [e15, e14, e5, e3, e1, e4, e2, cD]
    try grind
  have s50 : x6 = qx * (pz * pz) + px * (qz * qz) := by
    simp only [e6, e3, e1, e4, e2]
    try grind
  have s49 : x4 = px * (qz * qz) := by
    simp only [e4, e2]
    try grind
  have s39 : x11 = py * (qz * qz * qz) := by
    simp only [e11, e9, e2]
    try grind
  refine z_aload_n K d_M_join_238 rfl ?_
  refine z_callV (ci := 0) (As := []) K (v_M_finish l G b0 h a cd T15 (V := V15) (dd := (cD px pz qx qz)) (nn := (cN py pz qy qz)) (ww := (pz * qz * cD px pz qx qz)) (ss := (qx * (pz * pz) + px * (qz * qz))) (vv := (px * (qz * qz))) (kk := (py * (qz * qz * qz))) hV15 ((g15 24 (by decide)).trans cA1) ((g15 25 (by decide)).trans cA2) ((g15 26 (by decide)).trans cA3) ((g15 27 (by decide)).trans cA4) ((g15 28 (by decide)).trans cA6) bA1 bA2 bA3 bA4 bA6 (f15_43.trans s43) (f15_42.trans s42) (f15_44.trans s44) (f15_50.trans s50) (f15_49.trans s49) (f15_39.trans s39) (s43 ▸ lt9_mono b5 (by decide)) (s42 ▸ lt9_mono b12 (by decide)) (s44 ▸ lt9_mono b15 (by decide)) (s50 ▸ lt9_mono b6 (by decide)) (s49 ▸ lt9_mono b4 (by decide)) (s39 ▸ lt9_mono b11 (by decide)) hw0) ca_M_125 im_M_finish se_M_finish rfl (by decide) hm_0 rfl rfl (rm_ok hRm (by decide) (by decide)) (Nat.le_of_ble_eq_true rfl) d_M_join_239 (fun o h1 hp => ?_)
  obtain ⟨TT, rfl, rfl, ⟨V9, q1, q2, q3, q4, q5⟩, q6⟩ := hp
  exact hx TT V9 q1 (fun q hq => (q2 q hq).trans (g15 q hq)) q3 q4 q5 (by rw [q6, (hN15.trans (hN14.trans (hN13.trans (hN12.trans (hN11.trans (hN10.trans (hN9.trans (hN8.trans (hN7.trans (hN6.trans (hN5.trans (hN4.trans (hN3.trans (hN2.trans (hN1.trans rfl)))))))))))))))])
end M18
