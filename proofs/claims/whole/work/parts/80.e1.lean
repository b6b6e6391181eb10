theorem t10_mul {v w : Int} {m n : Nat} (h : v.natAbs < 10 ^ m) (h' : w.natAbs < 10 ^ n) : (v * w).natAbs < 10 ^ (m + n) := by
  rw [Int.natAbs_mul, Nat.pow_add]; exact Nat.mul_lt_mul'' h h'
theorem t10_add {v w : Int} {m n : Nat} (h : v.natAbs < 10 ^ m) (h' : w.natAbs < 10 ^ n) : (v + w).natAbs < 10 ^ (max m n + 1) := by
  have a1 := ten_mono (Nat.le_max_left m n)
  have a2 := ten_mono (Nat.le_max_right m n)
  rw [Nat.pow_succ]
  generalize 10 ^ max m n = z at *
  generalize 10 ^ m = x at *
  generalize 10 ^ n = y at *
  omega
theorem t10_sub {v w : Int} {m n : Nat} (h : v.natAbs < 10 ^ m) (h' : w.natAbs < 10 ^ n) : (v - w).natAbs < 10 ^ (max m n + 1) := by
  have := t10_add h (show (-w).natAbs < 10 ^ n by rw [Int.natAbs_neg]; exact h')
  rwa [← Int.sub_eq_add_neg] at this
section E1
variable {p : Program} {l : Launch} {e : Env} {R : Room} {s : State} {m : MethodId} {args : Array Value} {below : List Frame} {meth : Method} {c : Code} {Q : State → Prop} {b0 kc ks : Nat} {G : zG} {h : zH} {a : Nat} {cd : Int}
set_option maxHeartbeats 4000000 in
set_option maxRecDepth 100000 in
theorem v_E_isOnCurve (l : Launch) (G : zG) (b0 : Nat) (h : zH) (a : Nat) (S : xS) {U : Nat → Int} (hV : VX S U) {A : ecE} (eq : EQ U A) (hA : ecOk A) {xu xl yu yl : Int} (h61 : U 61 = xu) (h63 : U 63 = xl) (h65 : U 65 = yu) (h67 : U 67 = yl) (b61 : xu.natAbs < 10 ^ 19) (b63 : xl.natAbs < 10 ^ 19) (b65 : yu.natAbs < 10 ^ 19) (b67 : yl.natAbs < 10 ^ 19) : xMet l G b0 y_E_isOnCurve b_E_isOnCurve 1 (some .boolean) 4 122 h a [.ref (a + 60)] S (fun r S' => (∃ b : Int, r = some (.int (jI b)) ∧ (b = 0 ∨ b = 1) ∧ (b = 1 ↔ pRight A xu xl yu yl = pLeft A xu xl yu yl)) ∧ (∃ U', VX S' U' ∧ ∀ j : Nat, (j < 69 ∨ 73 < j) → j ≠ 5 → U' j = U j) ∧ S'.f = S.f) :=
  z_met (by decide) (Nat.le_of_ble_eq_true rfl) fun p e s m below meth c K hr hlk hnm => by
  have c0 : A.1.natAbs < 10 ^ 5 := Nat.lt_of_le_of_lt hA.l1 (by decide)
  have c1 : A.2.1.natAbs < 10 ^ 5 := Nat.lt_of_le_of_lt hA.l2 (by decide)
  have c2 : A.2.2.1.natAbs < 10 ^ 5 := Nat.lt_of_le_of_lt hA.l3 (by decide)
  have c3 : A.2.2.2.1.natAbs < 10 ^ 5 := Nat.lt_of_le_of_lt hA.l4 (by decide)
  have c4 : A.2.2.2.2.natAbs < 10 ^ 5 := Nat.lt_of_le_of_lt hA.l6 (by decide)
  refine z_aload_n K d_E_isOnCurve_0 rfl ?_
  refine zx_gE K fd_E_42 rfl d_E_isOnCurve_1 ?_
  refine z_aload_n K d_E_isOnCurve_4 rfl ?_
  refine zx_gE K fd_E_23 rfl d_E_isOnCurve_5 ?_
  refine z_aload_n K d_E_isOnCurve_8 rfl ?_
  refine zx_gE K fd_E_20 rfl d_E_isOnCurve_9 ?_
  refine z_aload_n K d_E_isOnCurve_12 rfl ?_
  refine zx_gE K fd_E_29 rfl d_E_isOnCurve_13 ?_
  obtain ⟨w1, ex1⟩ : ∃ z : Int, z = yu * xl := ⟨_, rfl⟩
  have b1 : w1.natAbs < 10 ^ 38 := by rw [ex1]; have z := t10_mul b65 b63; exact z
  refine z_callV (ci := 4) (As := [.ref (a + 65), .ref (a + 63), .ref (a + 69)]) K (v_R_multiply l G b0 h a S hV (by rfl) (by rfl) (by rfl) (by rw [h65]; exact lt9_of10 (m := 3) b65 (by decide)) (by rw [h63]; exact lt9_of10 (m := 3) b63 (by decide)) (by decide) (by rw [h65, h63, ← ex1]; exact (lt9_of10 b1 (by decide)))) ca_E_104 im_R_multiply se_R_multiply rfl (by decide) (hx_R) rfl rfl (by decide) (Nat.le_of_ble_eq_true rfl) d_E_isOnCurve_16 (fun r h1 hp => ?_)
  obtain ⟨S1, rfl, rfl, hV1, ef1⟩ := hp
  rw [h65, h63, ← ex1] at hV1
  obtain ⟨U1, w1hU⟩ : ∃ W : Nat → Int, W = nu U 69 w1 := ⟨_, rfl⟩
  rw [← w1hU] at hV1
  have f1_61 : U1 61 = xu := (by rw [w1hU, nu_ne _ _ (by omega)] : U1 61 = U 61).trans h61
  have f1_63 : U1 63 = xl := (by rw [w1hU, nu_ne _ _ (by omega)] : U1 63 = U 63).trans h63
  have f1_65 : U1 65 = yu := (by rw [w1hU, nu_ne _ _ (by omega)] : U1 65 = U 65).trans h65
  have f1_67 : U1 67 = yl := (by rw [w1hU, nu_ne _ _ (by omega)] : U1 67 = U 67).trans h67
  have f1_19 : U1 19 = A.1 := (by rw [w1hU, nu_ne _ _ (by omega)] : U1 19 = U 19).trans eq.1
  have f1_21 : U1 21 = A.2.1 := (by rw [w1hU, nu_ne _ _ (by omega)] : U1 21 = U 21).trans eq.2.1
  have f1_23 : U1 23 = A.2.2.1 := (by rw [w1hU, nu_ne _ _ (by omega)] : U1 23 = U 23).trans eq.2.2.1
  have f1_25 : U1 25 = A.2.2.2.1 := (by rw [w1hU, nu_ne _ _ (by omega)] : U1 25 = U 25).trans eq.2.2.2.1
  have f1_27 : U1 27 = A.2.2.2.2 := (by rw [w1hU, nu_ne _ _ (by omega)] : U1 27 = U 27).trans eq.2.2.2.2.1
  have f1_69 : U1 69 = w1 := by rw [w1hU, nu_self]
  have g1 : ∀ j : Nat, (j < 69 ∨ 73 < j) → j ≠ 5 → U1 j = U j := fun j j1 j2 => (by rw [w1hU, nu_ne _ _ (by omega)] : U1 j = U j).trans ((fun j _ _ => rfl) j j1 j2)
  refine z_aload_n K d_E_isOnCurve_19 rfl ?_
  refine zx_gE K fd_E_42 rfl d_E_isOnCurve_20 ?_
  refine z_aload_n K d_E_isOnCurve_23 rfl ?_
  refine zx_gE K fd_E_14 rfl d_E_isOnCurve_24 ?_
  refine z_aload_n K d_E_isOnCurve_27 rfl ?_
  refine zx_gE K fd_E_26 rfl d_E_isOnCurve_28 ?_
  refine z_aload_n K d_E_isOnCurve_31 rfl ?_
  refine zx_gE K fd_E_32 rfl d_E_isOnCurve_32 ?_
  obtain ⟨w2, ex2⟩ : ∃ z : Int, z = xu * yl := ⟨_, rfl⟩
  have b2 : w2.natAbs < 10 ^ 38 := by rw [ex2]; have z := t10_mul b61 b67; exact z
  refine z_callV (ci := 4) (As := [.ref (a + 61), .ref (a + 67), .ref (a + 71)]) K (v_R_multiply l G b0 h a S1 hV1 (by rfl) (by rfl) (by rfl) (by rw [f1_61]; exact lt9_of10 (m := 3) b61 (by decide)) (by rw [f1_67]; exact lt9_of10 (m := 3) b67 (by decide)) (by decide) (by rw [f1_61, f1_67, ← ex2]; exact (lt9_of10 b2 (by decide)))) ca_E_104 im_R_multiply se_R_multiply rfl (by decide) (hx_R) rfl rfl (by decide) (Nat.le_of_ble_eq_true rfl) d_E_isOnCurve_35 (fun r h1 hp => ?_)
  obtain ⟨S2, rfl, rfl, hV2, ef2⟩ := hp
  rw [f1_61, f1_67, ← ex2] at hV2
  obtain ⟨U2, w2hU⟩ : ∃ W : Nat → Int, W = nu U1 71 w2 := ⟨_, rfl⟩
  rw [← w2hU] at hV2
  have f2_61 : U2 61 = xu := (by rw [w2hU, nu_ne _ _ (by omega)] : U2 61 = U1 61).trans f1_61
  have f2_63 : U2 63 = xl := (by rw [w2hU, nu_ne _ _ (by omega)] : U2 63 = U1 63).trans f1_63
  have f2_65 : U2 65 = yu := (by rw [w2hU, nu_ne _ _ (by omega)] : U2 65 = U1 65).trans f1_65
  have f2_67 : U2 67 = yl := (by rw [w2hU, nu_ne _ _ (by omega)] : U2 67 = U1 67).trans f1_67
  have f2_19 : U2 19 = A.1 := (by rw [w2hU, nu_ne _ _ (by omega)] : U2 19 = U1 19).trans f1_19
  have f2_21 : U2 21 = A.2.1 := (by rw [w2hU, nu_ne _ _ (by omega)] : U2 21 = U1 21).trans f1_21
  have f2_23 : U2 23 = A.2.2.1 := (by rw [w2hU, nu_ne _ _ (by omega)] : U2 23 = U1 23).trans f1_23
  have f2_25 : U2 25 = A.2.2.2.1 := (by rw [w2hU, nu_ne _ _ (by omega)] : U2 25 = U1 25).trans f1_25
  have f2_27 : U2 27 = A.2.2.2.2 := (by rw [w2hU, nu_ne _ _ (by omega)] : U2 27 = U1 27).trans f1_27
  have f2_69 : U2 69 = w1 := (by rw [w2hU, nu_ne _ _ (by omega)] : U2 69 = U1 69).trans f1_69
  have f2_71 : U2 71 = w2 := by rw [w2hU, nu_self]
  have g2 : ∀ j : Nat, (j < 69 ∨ 73 < j) → j ≠ 5 → U2 j = U j := fun j j1 j2 => (by rw [w2hU, nu_ne _ _ (by omega)] : U2 j = U1 j).trans (g1 j j1 j2)
  refine z_aload_n K d_E_isOnCurve_38 rfl ?_
  refine zx_gE K fd_E_42 rfl d_E_isOnCurve_39 ?_
  refine z_aload_n K d_E_isOnCurve_42 rfl ?_
  refine zx_gE K fd_E_38 rfl d_E_isOnCurve_43 ?_
  refine zx_gQ K fd_E_107 rfl d_E_isOnCurve_46 ?_
  refine z_aload_n K d_E_isOnCurve_49 rfl ?_
  refine zx_gE K fd_E_32 rfl d_E_isOnCurve_50 ?_
  refine z_aload_n K d_E_isOnCurve_53 rfl ?_
  refine zx_gE K fd_E_29 rfl d_E_isOnCurve_54 ?_
  have b3p : (A.1 * w2).natAbs < 10 ^ 43 := by have z := t10_mul c0 b2; exact z
  obtain ⟨w3, ex3⟩ : ∃ z : Int, z = w1 + A.1 * w2 := ⟨_, rfl⟩
  have b3 : w3.natAbs < 10 ^ 44 := by rw [ex3]; have z := t10_add b1 b3p; exact z
  refine z_callV (ci := 4) (As := [.ref (a + 19), .ref (a + 71), .ref (a + 69)]) K (v_R_addProduct l G b0 h a S2 hV2 (by rfl) (by rfl) (by rfl) (by omega) (by rw [f2_19]; exact lt9_of10 (m := 1) c0 (by decide)) (by rw [f2_71]; exact lt9_of10 (m := 5) b2 (by decide)) (by decide) (by rw [f2_69]; exact (lt9_of10 b1 (by decide))) (by rw [f2_19, f2_71]; exact (lt9_of10 b3p (by decide))) (by rw [f2_69, f2_19, f2_71, ← ex3]; exact (lt9_of10 b3 (by decide)))) ca_E_112 im_R_addProduct se_R_addProduct rfl (by decide) (hx_R) rfl rfl (by decide) (Nat.le_of_ble_eq_true rfl) d_E_isOnCurve_57 (fun r h1 hp => ?_)
  obtain ⟨S3, rfl, rfl, ⟨U3, hV3, w3u, w3w⟩, ef3⟩ := hp
  rw [f2_69, f2_19, f2_71, ← ex3] at w3u
  have f3_61 : U3 61 = xu := (w3w _ (by omega) (by omega)).trans f2_61
  have f3_63 : U3 63 = xl := (w3w _ (by omega) (by omega)).trans f2_63
  have f3_65 : U3 65 = yu := (w3w _ (by omega) (by omega)).trans f2_65
  have f3_67 : U3 67 = yl := (w3w _ (by omega) (by omega)).trans f2_67
  have f3_19 : U3 19 = A.1 := (w3w _ (by omega) (by omega)).trans f2_19
  have f3_21 : U3 21 = A.2.1 := (w3w _ (by omega) (by omega)).trans f2_21
  have f3_23 : U3 23 = A.2.2.1 := (w3w _ (by omega) (by omega)).trans f2_23
  have f3_25 : U3 25 = A.2.2.2.1 := (w3w _ (by omega) (by omega)).trans f2_25
  have f3_27 : U3 27 = A.2.2.2.2 := (w3w _ (by omega) (by omega)).trans f2_27
  have f3_71 : U3 71 = w2 := (w3w _ (by omega) (by omega)).trans f2_71
  have g3 : ∀ j : Nat, (j < 69 ∨ 73 < j) → j ≠ 5 → U3 j = U j := fun j j1 j2 => (w3w j (by omega) j2).trans (g2 j j1 j2)
  refine z_aload_n K d_E_isOnCurve_60 rfl ?_
  refine zx_gE K fd_E_42 rfl d_E_isOnCurve_61 ?_
  refine z_aload_n K d_E_isOnCurve_64 rfl ?_
  refine zx_gE K fd_E_26 rfl d_E_isOnCurve_65 ?_
  refine z_aload_n K d_E_isOnCurve_68 rfl ?_
  refine zx_gE K fd_E_20 rfl d_E_isOnCurve_69 ?_
  refine z_aload_n K d_E_isOnCurve_72 rfl ?_
  refine zx_gE K fd_E_32 rfl d_E_isOnCurve_73 ?_
  obtain ⟨w4, ex4⟩ : ∃ z : Int, z = yl * xl := ⟨_, rfl⟩
  have b4 : w4.natAbs < 10 ^ 38 := by rw [ex4]; have z := t10_mul b67 b63; exact z
  refine z_callV (ci := 4) (As := [.ref (a + 67), .ref (a + 63), .ref (a + 71)]) K (v_R_multiply l G b0 h a S3 hV3 (by rfl) (by rfl) (by rfl) (by rw [f3_67]; exact lt9_of10 (m := 3) b67 (by decide)) (by rw [f3_63]; exact lt9_of10 (m := 3) b63 (by decide)) (by decide) (by rw [f3_67, f3_63, ← ex4]; exact (lt9_of10 b4 (by decide)))) ca_E_104 im_R_multiply se_R_multiply rfl (by decide) (hx_R) rfl rfl (by decide) (Nat.le_of_ble_eq_true rfl) d_E_isOnCurve_76 (fun r h1 hp => ?_)
  obtain ⟨S4, rfl, rfl, hV4, ef4⟩ := hp
  rw [f3_67, f3_63, ← ex4] at hV4
  obtain ⟨U4, w4hU⟩ : ∃ W : Nat → Int, W = nu U3 71 w4 := ⟨_, rfl⟩
  rw [← w4hU] at hV4
  have f4_61 : U4 61 = xu := (by rw [w4hU, nu_ne _ _ (by omega)] : U4 61 = U3 61).trans f3_61
  have f4_63 : U4 63 = xl := (by rw [w4hU, nu_ne _ _ (by omega)] : U4 63 = U3 63).trans f3_63
  have f4_65 : U4 65 = yu := (by rw [w4hU, nu_ne _ _ (by omega)] : U4 65 = U3 65).trans f3_65
  have f4_67 : U4 67 = yl := (by rw [w4hU, nu_ne _ _ (by omega)] : U4 67 = U3 67).trans f3_67
  have f4_19 : U4 19 = A.1 := (by rw [w4hU, nu_ne _ _ (by omega)] : U4 19 = U3 19).trans f3_19
  have f4_21 : U4 21 = A.2.1 := (by rw [w4hU, nu_ne _ _ (by omega)] : U4 21 = U3 21).trans f3_21
  have f4_23 : U4 23 = A.2.2.1 := (by rw [w4hU, nu_ne _ _ (by omega)] : U4 23 = U3 23).trans f3_23
  have f4_25 : U4 25 = A.2.2.2.1 := (by rw [w4hU, nu_ne _ _ (by omega)] : U4 25 = U3 25).trans f3_25
  have f4_27 : U4 27 = A.2.2.2.2 := (by rw [w4hU, nu_ne _ _ (by omega)] : U4 27 = U3 27).trans f3_27
  have f4_69 : U4 69 = w3 := (by rw [w4hU, nu_ne _ _ (by omega)] : U4 69 = U3 69).trans w3u
  have f4_71 : U4 71 = w4 := by rw [w4hU, nu_self]
  have g4 : ∀ j : Nat, (j < 69 ∨ 73 < j) → j ≠ 5 → U4 j = U j := fun j j1 j2 => (by rw [w4hU, nu_ne _ _ (by omega)] : U4 j = U3 j).trans (g3 j j1 j2)
  refine z_aload_n K d_E_isOnCurve_79 rfl ?_
  refine zx_gE K fd_E_42 rfl d_E_isOnCurve_80 ?_
  refine z_aload_n K d_E_isOnCurve_83 rfl ?_
  refine zx_gE K fd_E_38 rfl d_E_isOnCurve_84 ?_
  refine zx_gQ K fd_E_115 rfl d_E_isOnCurve_87 ?_
  refine z_aload_n K d_E_isOnCurve_90 rfl ?_
  refine zx_gE K fd_E_32 rfl d_E_isOnCurve_91 ?_
  refine z_aload_n K d_E_isOnCurve_94 rfl ?_
  refine zx_gE K fd_E_29 rfl d_E_isOnCurve_95 ?_
  have b5p : (A.2.2.1 * w4).natAbs < 10 ^ 43 := by have z := t10_mul c2 b4; exact z
  obtain ⟨w5, ex5⟩ : ∃ z : Int, z = w3 + A.2.2.1 * w4 := ⟨_, rfl⟩
  have b5 : w5.natAbs < 10 ^ 45 := by rw [ex5]; have z := t10_add b3 b5p; exact z
  refine z_callV (ci := 4) (As := [.ref (a + 23), .ref (a + 71), .ref (a + 69)]) K (v_R_addProduct l G b0 h a S4 hV4 (by rfl) (by rfl) (by rfl) (by omega) (by rw [f4_23]; exact lt9_of10 (m := 1) c2 (by decide)) (by rw [f4_71]; exact lt9_of10 (m := 5) b4 (by decide)) (by decide) (by rw [f4_69]; exact (lt9_of10 b3 (by decide))) (by rw [f4_23, f4_71]; exact (lt9_of10 b5p (by decide))) (by rw [f4_69, f4_23, f4_71, ← ex5]; exact (lt9_of10 b5 (by decide)))) ca_E_112 im_R_addProduct se_R_addProduct rfl (by decide) (hx_R) rfl rfl (by decide) (Nat.le_of_ble_eq_true rfl) d_E_isOnCurve_98 (fun r h1 hp => ?_)
  obtain ⟨S5, rfl, rfl, ⟨U5, hV5, w5u, w5w⟩, ef5⟩ := hp
  rw [f4_69, f4_23, f4_71, ← ex5] at w5u
  have f5_61 : U5 61 = xu := (w5w _ (by omega) (by omega)).trans f4_61
  have f5_63 : U5 63 = xl := (w5w _ (by omega) (by omega)).trans f4_63
  have f5_65 : U5 65 = yu := (w5w _ (by omega) (by omega)).trans f4_65
  have f5_67 : U5 67 = yl := (w5w _ (by omega) (by omega)).trans f4_67
  have f5_19 : U5 19 = A.1 := (w5w _ (by omega) (by omega)).trans f4_19
  have f5_21 : U5 21 = A.2.1 := (w5w _ (by omega) (by omega)).trans f4_21
  have f5_23 : U5 23 = A.2.2.1 := (w5w _ (by omega) (by omega)).trans f4_23
  have f5_25 : U5 25 = A.2.2.2.1 := (w5w _ (by omega) (by omega)).trans f4_25
  have f5_27 : U5 27 = A.2.2.2.2 := (w5w _ (by omega) (by omega)).trans f4_27
  have f5_71 : U5 71 = w4 := (w5w _ (by omega) (by omega)).trans f4_71
  have g5 : ∀ j : Nat, (j < 69 ∨ 73 < j) → j ≠ 5 → U5 j = U j := fun j j1 j2 => (w5w j (by omega) j2).trans (g4 j j1 j2)
  refine z_aload_n K d_E_isOnCurve_101 rfl ?_
  refine zx_gE K fd_E_42 rfl d_E_isOnCurve_102 ?_
  refine z_aload_n K d_E_isOnCurve_105 rfl ?_
  refine zx_gE K fd_E_29 rfl d_E_isOnCurve_106 ?_
  refine z_aload_n K d_E_isOnCurve_109 rfl ?_
  refine zx_gE K fd_E_23 rfl d_E_isOnCurve_110 ?_
  refine z_aload_n K d_E_isOnCurve_113 rfl ?_
  refine zx_gE K fd_E_29 rfl d_E_isOnCurve_114 ?_
  obtain ⟨w6, ex6⟩ : ∃ z : Int, z = w5 * yu := ⟨_, rfl⟩
  have b6 : w6.natAbs < 10 ^ 64 := by rw [ex6]; have z := t10_mul b5 b65; exact z
  refine z_callV (ci := 4) (As := [.ref (a + 69), .ref (a + 65), .ref (a + 69)]) K (v_R_multiply l G b0 h a S5 hV5 (by rfl) (by rfl) (by rfl) (by rw [w5u]; exact lt9_of10 (m := 5) b5 (by decide)) (by rw [f5_65]; exact lt9_of10 (m := 3) b65 (by decide)) (by decide) (by rw [w5u, f5_65, ← ex6]; exact (lt9_of10 b6 (by decide)))) ca_E_104 im_R_multiply se_R_multiply rfl (by decide) (hx_R) rfl rfl (by decide) (Nat.le_of_ble_eq_true rfl) d_E_isOnCurve_117 (fun r h1 hp => ?_)
  obtain ⟨S6, rfl, rfl, hV6, ef6⟩ := hp
  rw [w5u, f5_65, ← ex6] at hV6
  obtain ⟨U6, w6hU⟩ : ∃ W : Nat → Int, W = nu U5 69 w6 := ⟨_, rfl⟩
  rw [← w6hU] at hV6
  have f6_61 : U6 61 = xu := (by rw [w6hU, nu_ne _ _ (by omega)] : U6 61 = U5 61).trans f5_61
  have f6_63 : U6 63 = xl := (by rw [w6hU, nu_ne _ _ (by omega)] : U6 63 = U5 63).trans f5_63
  have f6_65 : U6 65 = yu := (by rw [w6hU, nu_ne _ _ (by omega)] : U6 65 = U5 65).trans f5_65
  have f6_67 : U6 67 = yl := (by rw [w6hU, nu_ne _ _ (by omega)] : U6 67 = U5 67).trans f5_67
  have f6_19 : U6 19 = A.1 := (by rw [w6hU, nu_ne _ _ (by omega)] : U6 19 = U5 19).trans f5_19
  have f6_21 : U6 21 = A.2.1 := (by rw [w6hU, nu_ne _ _ (by omega)] : U6 21 = U5 21).trans f5_21
  have f6_23 : U6 23 = A.2.2.1 := (by rw [w6hU, nu_ne _ _ (by omega)] : U6 23 = U5 23).trans f5_23
  have f6_25 : U6 25 = A.2.2.2.1 := (by rw [w6hU, nu_ne _ _ (by omega)] : U6 25 = U5 25).trans f5_25
  have f6_27 : U6 27 = A.2.2.2.2 := (by rw [w6hU, nu_ne _ _ (by omega)] : U6 27 = U5 27).trans f5_27
  have f6_71 : U6 71 = w4 := (by rw [w6hU, nu_ne _ _ (by omega)] : U6 71 = U5 71).trans f5_71
  have f6_69 : U6 69 = w6 := by rw [w6hU, nu_self]
  have g6 : ∀ j : Nat, (j < 69 ∨ 73 < j) → j ≠ 5 → U6 j = U j := fun j j1 j2 => (by rw [w6hU, nu_ne _ _ (by omega)] : U6 j = U5 j).trans (g5 j j1 j2)
  refine z_aload_n K d_E_isOnCurve_120 rfl ?_
  refine zx_gE K fd_E_42 rfl d_E_isOnCurve_121 ?_
  refine z_aload_n K d_E_isOnCurve_124 rfl ?_
  refine zx_gE K fd_E_29 rfl d_E_isOnCurve_125 ?_
  refine z_aload_n K d_E_isOnCurve_128 rfl ?_
  refine zx_gE K fd_E_20 rfl d_E_isOnCurve_129 ?_
  refine z_aload_n K d_E_isOnCurve_132 rfl ?_
  refine zx_gE K fd_E_29 rfl d_E_isOnCurve_133 ?_
  obtain ⟨w7, ex7⟩ : ∃ z : Int, z = w6 * xl := ⟨_, rfl⟩
  have b7 : w7.natAbs < 10 ^ 83 := by rw [ex7]; have z := t10_mul b6 b63; exact z
  refine z_callV (ci := 4) (As := [.ref (a + 69), .ref (a + 63), .ref (a + 69)]) K (v_R_multiply l G b0 h a S6 hV6 (by rfl) (by rfl) (by rfl) (by rw [f6_69]; exact lt9_of10 (m := 8) b6 (by decide)) (by rw [f6_63]; exact lt9_of10 (m := 3) b63 (by decide)) (by decide) (by rw [f6_69, f6_63, ← ex7]; exact (lt9_of10 b7 (by decide)))) ca_E_104 im_R_multiply se_R_multiply rfl (by decide) (hx_R) rfl rfl (by decide) (Nat.le_of_ble_eq_true rfl) d_E_isOnCurve_136 (fun r h1 hp => ?_)
  obtain ⟨S7, rfl, rfl, hV7, ef7⟩ := hp
  rw [f6_69, f6_63, ← ex7] at hV7
  obtain ⟨U7, w7hU⟩ : ∃ W : Nat → Int, W = nu U6 69 w7 := ⟨_, rfl⟩
  rw [← w7hU] at hV7
  have f7_61 : U7 61 = xu := (by rw [w7hU, nu_ne _ _ (by omega)] : U7 61 = U6 61).trans f6_61
  have f7_63 : U7 63 = xl := (by rw [w7hU, nu_ne _ _ (by omega)] : U7 63 = U6 63).trans f6_63
  have f7_65 : U7 65 = yu := (by rw [w7hU, nu_ne _ _ (by omega)] : U7 65 = U6 65).trans f6_65
  have f7_67 : U7 67 = yl := (by rw [w7hU, nu_ne _ _ (by omega)] : U7 67 = U6 67).trans f6_67
  have f7_19 : U7 19 = A.1 := (by rw [w7hU, nu_ne _ _ (by omega)] : U7 19 = U6 19).trans f6_19
  have f7_21 : U7 21 = A.2.1 := (by rw [w7hU, nu_ne _ _ (by omega)] : U7 21 = U6 21).trans f6_21
  have f7_23 : U7 23 = A.2.2.1 := (by rw [w7hU, nu_ne _ _ (by omega)] : U7 23 = U6 23).trans f6_23
  have f7_25 : U7 25 = A.2.2.2.1 := (by rw [w7hU, nu_ne _ _ (by omega)] : U7 25 = U6 25).trans f6_25
  have f7_27 : U7 27 = A.2.2.2.2 := (by rw [w7hU, nu_ne _ _ (by omega)] : U7 27 = U6 27).trans f6_27
  have f7_71 : U7 71 = w4 := (by rw [w7hU, nu_ne _ _ (by omega)] : U7 71 = U6 71).trans f6_71
  have f7_69 : U7 69 = w7 := by rw [w7hU, nu_self]
  have g7 : ∀ j : Nat, (j < 69 ∨ 73 < j) → j ≠ 5 → U7 j = U j := fun j j1 j2 => (by rw [w7hU, nu_ne _ _ (by omega)] : U7 j = U6 j).trans (g6 j j1 j2)
  refine z_aload_n K d_E_isOnCurve_139 rfl ?_
  refine zx_gE K fd_E_42 rfl d_E_isOnCurve_140 ?_
  refine z_aload_n K d_E_isOnCurve_143 rfl ?_
  refine zx_gE K fd_E_29 rfl d_E_isOnCurve_144 ?_
  refine z_aload_n K d_E_isOnCurve_147 rfl ?_
  refine zx_gE K fd_E_20 rfl d_E_isOnCurve_148 ?_
  refine z_aload_n K d_E_isOnCurve_151 rfl ?_
  refine zx_gE K fd_E_29 rfl d_E_isOnCurve_152 ?_
  obtain ⟨w8, ex8⟩ : ∃ z : Int, z = w7 * xl := ⟨_, rfl⟩
  have b8 : w8.natAbs < 10 ^ 102 := by rw [ex8]; have z := t10_mul b7 b63; exact z
  refine z_callV (ci := 4) (As := [.ref (a + 69), .ref (a + 63), .ref (a + 69)]) K (v_R_multiply l G b0 h a S7 hV7 (by rfl) (by rfl) (by rfl) (by rw [f7_69]; exact lt9_of10 (m := 10) b7 (by decide)) (by rw [f7_63]; exact lt9_of10 (m := 3) b63 (by decide)) (by decide) (by rw [f7_69, f7_63, ← ex8]; exact (lt9_of10 b8 (by decide)))) ca_E_104 im_R_multiply se_R_multiply rfl (by decide) (hx_R) rfl rfl (by decide) (Nat.le_of_ble_eq_true rfl) d_E_isOnCurve_155 (fun r h1 hp => ?_)
  obtain ⟨S8, rfl, rfl, hV8, ef8⟩ := hp
  rw [f7_69, f7_63, ← ex8] at hV8
  obtain ⟨U8, w8hU⟩ : ∃ W : Nat → Int, W = nu U7 69 w8 := ⟨_, rfl⟩
  rw [← w8hU] at hV8
  have f8_61 : U8 61 = xu := (by rw [w8hU, nu_ne _ _ (by omega)] : U8 61 = U7 61).trans f7_61
  have f8_63 : U8 63 = xl := (by rw [w8hU, nu_ne _ _ (by omega)] : U8 63 = U7 63).trans f7_63
  have f8_65 : U8 65 = yu := (by rw [w8hU, nu_ne _ _ (by omega)] : U8 65 = U7 65).trans f7_65
  have f8_67 : U8 67 = yl := (by rw [w8hU, nu_ne _ _ (by omega)] : U8 67 = U7 67).trans f7_67
  have f8_19 : U8 19 = A.1 := (by rw [w8hU, nu_ne _ _ (by omega)] : U8 19 = U7 19).trans f7_19
  have f8_21 : U8 21 = A.2.1 := (by rw [w8hU, nu_ne _ _ (by omega)] : U8 21 = U7 21).trans f7_21
  have f8_23 : U8 23 = A.2.2.1 := (by rw [w8hU, nu_ne _ _ (by omega)] : U8 23 = U7 23).trans f7_23
  have f8_25 : U8 25 = A.2.2.2.1 := (by rw [w8hU, nu_ne _ _ (by omega)] : U8 25 = U7 25).trans f7_25
  have f8_27 : U8 27 = A.2.2.2.2 := (by rw [w8hU, nu_ne _ _ (by omega)] : U8 27 = U7 27).trans f7_27
  have f8_71 : U8 71 = w4 := (by rw [w8hU, nu_ne _ _ (by omega)] : U8 71 = U7 71).trans f7_71
  have f8_69 : U8 69 = w8 := by rw [w8hU, nu_self]
  have g8 : ∀ j : Nat, (j < 69 ∨ 73 < j) → j ≠ 5 → U8 j = U j := fun j j1 j2 => (by rw [w8hU, nu_ne _ _ (by omega)] : U8 j = U7 j).trans (g7 j j1 j2)
  refine z_aload_n K d_E_isOnCurve_158 rfl ?_
  refine zx_gE K fd_E_42 rfl d_E_isOnCurve_159 ?_
  refine z_aload_n K d_E_isOnCurve_162 rfl ?_
  refine zx_gE K fd_E_38 rfl d_E_isOnCurve_163 ?_
  refine zx_gQ K fd_E_118 rfl d_E_isOnCurve_166 ?_
  refine z_aload_n K d_E_isOnCurve_169 rfl ?_
  refine zx_gE K fd_E_14 rfl d_E_isOnCurve_170 ?_
  refine z_aload_n K d_E_isOnCurve_173 rfl ?_
  refine zx_gE K fd_E_32 rfl d_E_isOnCurve_174 ?_
  obtain ⟨w9, ex9⟩ : ∃ z : Int, z = A.2.2.2.1 * xu := ⟨_, rfl⟩
  have b9 : w9.natAbs < 10 ^ 24 := by rw [ex9]; have z := t10_mul c3 b61; exact z
  refine z_callV (ci := 4) (As := [.ref (a + 25), .ref (a + 61), .ref (a + 71)]) K (v_R_multiply l G b0 h a S8 hV8 (by rfl) (by rfl) (by rfl) (by rw [f8_25]; exact lt9_of10 (m := 1) c3 (by decide)) (by rw [f8_61]; exact lt9_of10 (m := 3) b61 (by decide)) (by decide) (by rw [f8_25, f8_61, ← ex9]; exact (lt9_of10 b9 (by decide)))) ca_E_104 im_R_multiply se_R_multiply rfl (by decide) (hx_R) rfl rfl (by decide) (Nat.le_of_ble_eq_true rfl) d_E_isOnCurve_177 (fun r h1 hp => ?_)
  obtain ⟨S9, rfl, rfl, hV9, ef9⟩ := hp
  rw [f8_25, f8_61, ← ex9] at hV9
  obtain ⟨U9, w9hU⟩ : ∃ W : Nat → Int, W = nu U8 71 w9 := ⟨_, rfl⟩
  rw [← w9hU] at hV9
  have f9_61 : U9 61 = xu := (by rw [w9hU, nu_ne _ _ (by omega)] : U9 61 = U8 61).trans f8_61
  have f9_63 : U9 63 = xl := (by rw [w9hU, nu_ne _ _ (by omega)] : U9 63 = U8 63).trans f8_63
  have f9_65 : U9 65 = yu := (by rw [w9hU, nu_ne _ _ (by omega)] : U9 65 = U8 65).trans f8_65
  have f9_67 : U9 67 = yl := (by rw [w9hU, nu_ne _ _ (by omega)] : U9 67 = U8 67).trans f8_67
  have f9_19 : U9 19 = A.1 := (by rw [w9hU, nu_ne _ _ (by omega)] : U9 19 = U8 19).trans f8_19
  have f9_21 : U9 21 = A.2.1 := (by rw [w9hU, nu_ne _ _ (by omega)] : U9 21 = U8 21).trans f8_21
  have f9_23 : U9 23 = A.2.2.1 := (by rw [w9hU, nu_ne _ _ (by omega)] : U9 23 = U8 23).trans f8_23
  have f9_25 : U9 25 = A.2.2.2.1 := (by rw [w9hU, nu_ne _ _ (by omega)] : U9 25 = U8 25).trans f8_25
  have f9_27 : U9 27 = A.2.2.2.2 := (by rw [w9hU, nu_ne _ _ (by omega)] : U9 27 = U8 27).trans f8_27
  have f9_69 : U9 69 = w8 := (by rw [w9hU, nu_ne _ _ (by omega)] : U9 69 = U8 69).trans f8_69
  have f9_71 : U9 71 = w9 := by rw [w9hU, nu_self]
  have g9 : ∀ j : Nat, (j < 69 ∨ 73 < j) → j ≠ 5 → U9 j = U j := fun j j1 j2 => (by rw [w9hU, nu_ne _ _ (by omega)] : U9 j = U8 j).trans (g8 j j1 j2)
  refine z_aload_n K d_E_isOnCurve_180 rfl ?_
  refine zx_gE K fd_E_42 rfl d_E_isOnCurve_181 ?_
  refine z_aload_n K d_E_isOnCurve_184 rfl ?_
  refine zx_gE K fd_E_38 rfl d_E_isOnCurve_185 ?_
  refine zx_gQ K fd_E_121 rfl d_E_isOnCurve_188 ?_
  refine z_aload_n K d_E_isOnCurve_191 rfl ?_
  refine zx_gE K fd_E_20 rfl d_E_isOnCurve_192 ?_
  refine z_aload_n K d_E_isOnCurve_195 rfl ?_
  refine zx_gE K fd_E_32 rfl d_E_isOnCurve_196 ?_
  have b10p : (A.2.2.2.2 * xl).natAbs < 10 ^ 24 := by have z := t10_mul c4 b63; exact z
  obtain ⟨w10, ex10⟩ : ∃ z : Int, z = w9 + A.2.2.2.2 * xl := ⟨_, rfl⟩
  have b10 : w10.natAbs < 10 ^ 25 := by rw [ex10]; have z := t10_add b9 b10p; exact z
  refine z_callV (ci := 4) (As := [.ref (a + 27), .ref (a + 63), .ref (a + 71)]) K (v_R_addProduct l G b0 h a S9 hV9 (by rfl) (by rfl) (by rfl) (by omega) (by rw [f9_27]; exact lt9_of10 (m := 1) c4 (by decide)) (by rw [f9_63]; exact lt9_of10 (m := 3) b63 (by decide)) (by decide) (by rw [f9_71]; exact (lt9_of10 b9 (by decide))) (by rw [f9_27, f9_63]; exact (lt9_of10 b10p (by decide))) (by rw [f9_71, f9_27, f9_63, ← ex10]; exact (lt9_of10 b10 (by decide)))) ca_E_112 im_R_addProduct se_R_addProduct rfl (by decide) (hx_R) rfl rfl (by decide) (Nat.le_of_ble_eq_true rfl) d_E_isOnCurve_199 (fun r h1 hp => ?_)
  obtain ⟨S10, rfl, rfl, ⟨U10, hV10, w10u, w10w⟩, ef10⟩ := hp
  rw [f9_71, f9_27, f9_63, ← ex10] at w10u
  have f10_61 : U10 61 = xu := (w10w _ (by omega) (by omega)).trans f9_61
  have f10_63 : U10 63 = xl := (w10w _ (by omega) (by omega)).trans f9_63
  have f10_65 : U10 65 = yu := (w10w _ (by omega) (by omega)).trans f9_65
  have f10_67 : U10 67 = yl := (w10w _ (by omega) (by omega)).trans f9_67
  have f10_19 : U10 19 = A.1 := (w10w _ (by omega) (by omega)).trans f9_19
  have f10_21 : U10 21 = A.2.1 := (w10w _ (by omega) (by omega)).trans f9_21
  have f10_23 : U10 23 = A.2.2.1 := (w10w _ (by omega) (by omega)).trans f9_23
  have f10_25 : U10 25 = A.2.2.2.1 := (w10w _ (by omega) (by omega)).trans f9_25
  have f10_27 : U10 27 = A.2.2.2.2 := (w10w _ (by omega) (by omega)).trans f9_27
  have f10_69 : U10 69 = w8 := (w10w _ (by omega) (by omega)).trans f9_69
  have g10 : ∀ j : Nat, (j < 69 ∨ 73 < j) → j ≠ 5 → U10 j = U j := fun j j1 j2 => (w10w j (by omega) j2).trans (g9 j j1 j2)
  refine z_aload_n K d_E_isOnCurve_202 rfl ?_
  refine zx_gE K fd_E_42 rfl d_E_isOnCurve_203 ?_
  refine z_aload_n K d_E_isOnCurve_206 rfl ?_
  refine zx_gE K fd_E_32 rfl d_E_isOnCurve_207 ?_
  refine z_aload_n K d_E_isOnCurve_210 rfl ?_
  refine zx_gE K fd_E_20 rfl d_E_isOnCurve_211 ?_
  refine z_aload_n K d_E_isOnCurve_214 rfl ?_
  refine zx_gE K fd_E_32 rfl d_E_isOnCurve_215 ?_
  obtain ⟨w11, ex11⟩ : ∃ z : Int, z = w10 * xl := ⟨_, rfl⟩
  have b11 : w11.natAbs < 10 ^ 44 := by rw [ex11]; have z := t10_mul b10 b63; exact z
  refine z_callV (ci := 4) (As := [.ref (a + 71), .ref (a + 63), .ref (a + 71)]) K (v_R_multiply l G b0 h a S10 hV10 (by rfl) (by rfl) (by rfl) (by rw [w10u]; exact lt9_of10 (m := 3) b10 (by decide)) (by rw [f10_63]; exact lt9_of10 (m := 3) b63 (by decide)) (by decide) (by rw [w10u, f10_63, ← ex11]; exact (lt9_of10 b11 (by decide)))) ca_E_104 im_R_multiply se_R_multiply rfl (by decide) (hx_R) rfl rfl (by decide) (Nat.le_of_ble_eq_true rfl) d_E_isOnCurve_218 (fun r h1 hp => ?_)
  obtain ⟨S11, rfl, rfl, hV11, ef11⟩ := hp
  rw [w10u, f10_63, ← ex11] at hV11
  obtain ⟨U11, w11hU⟩ : ∃ W : Nat → Int, W = nu U10 71 w11 := ⟨_, rfl⟩
  rw [← w11hU] at hV11
  have f11_61 : U11 61 = xu := (by rw [w11hU, nu_ne _ _ (by omega)] : U11 61 = U10 61).trans f10_61
  have f11_63 : U11 63 = xl := (by rw [w11hU, nu_ne _ _ (by omega)] : U11 63 = U10 63).trans f10_63
  have f11_65 : U11 65 = yu := (by rw [w11hU, nu_ne _ _ (by omega)] : U11 65 = U10 65).trans f10_65
  have f11_67 : U11 67 = yl := (by rw [w11hU, nu_ne _ _ (by omega)] : U11 67 = U10 67).trans f10_67
  have f11_19 : U11 19 = A.1 := (by rw [w11hU, nu_ne _ _ (by omega)] : U11 19 = U10 19).trans f10_19
  have f11_21 : U11 21 = A.2.1 := (by rw [w11hU, nu_ne _ _ (by omega)] : U11 21 = U10 21).trans f10_21
  have f11_23 : U11 23 = A.2.2.1 := (by rw [w11hU, nu_ne _ _ (by omega)] : U11 23 = U10 23).trans f10_23
  have f11_25 : U11 25 = A.2.2.2.1 := (by rw [w11hU, nu_ne _ _ (by omega)] : U11 25 = U10 25).trans f10_25
  have f11_27 : U11 27 = A.2.2.2.2 := (by rw [w11hU, nu_ne _ _ (by omega)] : U11 27 = U10 27).trans f10_27
  have f11_69 : U11 69 = w8 := (by rw [w11hU, nu_ne _ _ (by omega)] : U11 69 = U10 69).trans f10_69
  have f11_71 : U11 71 = w11 := by rw [w11hU, nu_self]
  have g11 : ∀ j : Nat, (j < 69 ∨ 73 < j) → j ≠ 5 → U11 j = U j := fun j j1 j2 => (by rw [w11hU, nu_ne _ _ (by omega)] : U11 j = U10 j).trans (g10 j j1 j2)
  refine z_aload_n K d_E_isOnCurve_221 rfl ?_
  refine zx_gE K fd_E_42 rfl d_E_isOnCurve_222 ?_
  refine z_aload_n K d_E_isOnCurve_225 rfl ?_
  refine zx_gE K fd_E_14 rfl d_E_isOnCurve_226 ?_
  refine z_aload_n K d_E_isOnCurve_229 rfl ?_
  refine zx_gE K fd_E_14 rfl d_E_isOnCurve_230 ?_
  refine z_aload_n K d_E_isOnCurve_233 rfl ?_
  refine zx_gE K fd_E_35 rfl d_E_isOnCurve_234 ?_
  obtain ⟨w12, ex12⟩ : ∃ z : Int, z = xu * xu := ⟨_, rfl⟩
  have b12 : w12.natAbs < 10 ^ 38 := by rw [ex12]; have z := t10_mul b61 b61; exact z
  refine z_callV (ci := 4) (As := [.ref (a + 61), .ref (a + 61), .ref (a + 73)]) K (v_R_multiply l G b0 h a S11 hV11 (by rfl) (by rfl) (by rfl) (by rw [f11_61]; exact lt9_of10 (m := 3) b61 (by decide)) (by rw [f11_61]; exact lt9_of10 (m := 3) b61 (by decide)) (by decide) (by rw [f11_61, ← ex12]; exact (lt9_of10 b12 (by decide)))) ca_E_104 im_R_multiply se_R_multiply rfl (by decide) (hx_R) rfl rfl (by decide) (Nat.le_of_ble_eq_true rfl) d_E_isOnCurve_237 (fun r h1 hp => ?_)
  obtain ⟨S12, rfl, rfl, hV12, ef12⟩ := hp
  rw [f11_61, ← ex12] at hV12
  obtain ⟨U12, w12hU⟩ : ∃ W : Nat → Int, W = nu U11 73 w12 := ⟨_, rfl⟩
  rw [← w12hU] at hV12
  have f12_61 : U12 61 = xu := (by rw [w12hU, nu_ne _ _ (by omega)] : U12 61 = U11 61).trans f11_61
  have f12_63 : U12 63 = xl := (by rw [w12hU, nu_ne _ _ (by omega)] : U12 63 = U11 63).trans f11_63
  have f12_65 : U12 65 = yu := (by rw [w12hU, nu_ne _ _ (by omega)] : U12 65 = U11 65).trans f11_65
  have f12_67 : U12 67 = yl := (by rw [w12hU, nu_ne _ _ (by omega)] : U12 67 = U11 67).trans f11_67
  have f12_19 : U12 19 = A.1 := (by rw [w12hU, nu_ne _ _ (by omega)] : U12 19 = U11 19).trans f11_19
  have f12_21 : U12 21 = A.2.1 := (by rw [w12hU, nu_ne _ _ (by omega)] : U12 21 = U11 21).trans f11_21
  have f12_23 : U12 23 = A.2.2.1 := (by rw [w12hU, nu_ne _ _ (by omega)] : U12 23 = U11 23).trans f11_23
  have f12_25 : U12 25 = A.2.2.2.1 := (by rw [w12hU, nu_ne _ _ (by omega)] : U12 25 = U11 25).trans f11_25
  have f12_27 : U12 27 = A.2.2.2.2 := (by rw [w12hU, nu_ne _ _ (by omega)] : U12 27 = U11 27).trans f11_27
  have f12_69 : U12 69 = w8 := (by rw [w12hU, nu_ne _ _ (by omega)] : U12 69 = U11 69).trans f11_69
  have f12_71 : U12 71 = w11 := (by rw [w12hU, nu_ne _ _ (by omega)] : U12 71 = U11 71).trans f11_71
  have f12_73 : U12 73 = w12 := by rw [w12hU, nu_self]
  have g12 : ∀ j : Nat, (j < 69 ∨ 73 < j) → j ≠ 5 → U12 j = U j := fun j j1 j2 => (by rw [w12hU, nu_ne _ _ (by omega)] : U12 j = U11 j).trans (g11 j j1 j2)
  refine z_aload_n K d_E_isOnCurve_240 rfl ?_
  refine zx_gE K fd_E_42 rfl d_E_isOnCurve_241 ?_
  refine z_aload_n K d_E_isOnCurve_244 rfl ?_
  refine zx_gE K fd_E_38 rfl d_E_isOnCurve_245 ?_
  refine zx_gQ K fd_E_124 rfl d_E_isOnCurve_248 ?_
  refine z_aload_n K d_E_isOnCurve_251 rfl ?_
  refine zx_gE K fd_E_35 rfl d_E_isOnCurve_252 ?_
  refine z_aload_n K d_E_isOnCurve_255 rfl ?_
  refine zx_gE K fd_E_32 rfl d_E_isOnCurve_256 ?_
  have b13p : (A.2.1 * w12).natAbs < 10 ^ 43 := by have z := t10_mul c1 b12; exact z
  obtain ⟨w13, ex13⟩ : ∃ z : Int, z = w11 + A.2.1 * w12 := ⟨_, rfl⟩
  have b13 : w13.natAbs < 10 ^ 45 := by rw [ex13]; have z := t10_add b11 b13p; exact z
  refine z_callV (ci := 4) (As := [.ref (a + 21), .ref (a + 73), .ref (a + 71)]) K (v_R_addProduct l G b0 h a S12 hV12 (by rfl) (by rfl) (by rfl) (by omega) (by rw [f12_21]; exact lt9_of10 (m := 1) c1 (by decide)) (by rw [f12_73]; exact lt9_of10 (m := 5) b12 (by decide)) (by decide) (by rw [f12_71]; exact (lt9_of10 b11 (by decide))) (by rw [f12_21, f12_73]; exact (lt9_of10 b13p (by decide))) (by rw [f12_71, f12_21, f12_73, ← ex13]; exact (lt9_of10 b13 (by decide)))) ca_E_112 im_R_addProduct se_R_addProduct rfl (by decide) (hx_R) rfl rfl (by decide) (Nat.le_of_ble_eq_true rfl) d_E_isOnCurve_259 (fun r h1 hp => ?_)
  obtain ⟨S13, rfl, rfl, ⟨U13, hV13, w13u, w13w⟩, ef13⟩ := hp
  rw [f12_71, f12_21, f12_73, ← ex13] at w13u
  have f13_61 : U13 61 = xu := (w13w _ (by omega) (by omega)).trans f12_61
  have f13_63 : U13 63 = xl := (w13w _ (by omega) (by omega)).trans f12_63
  have f13_65 : U13 65 = yu := (w13w _ (by omega) (by omega)).trans f12_65
  have f13_67 : U13 67 = yl := (w13w _ (by omega) (by omega)).trans f12_67
  have f13_19 : U13 19 = A.1 := (w13w _ (by omega) (by omega)).trans f12_19
  have f13_21 : U13 21 = A.2.1 := (w13w _ (by omega) (by omega)).trans f12_21
  have f13_23 : U13 23 = A.2.2.1 := (w13w _ (by omega) (by omega)).trans f12_23
  have f13_25 : U13 25 = A.2.2.2.1 := (w13w _ (by omega) (by omega)).trans f12_25
  have f13_27 : U13 27 = A.2.2.2.2 := (w13w _ (by omega) (by omega)).trans f12_27
  have f13_69 : U13 69 = w8 := (w13w _ (by omega) (by omega)).trans f12_69
  have f13_73 : U13 73 = w12 := (w13w _ (by omega) (by omega)).trans f12_73
  have g13 : ∀ j : Nat, (j < 69 ∨ 73 < j) → j ≠ 5 → U13 j = U j := fun j j1 j2 => (w13w j (by omega) j2).trans (g12 j j1 j2)
  refine z_aload_n K d_E_isOnCurve_262 rfl ?_
  refine zx_gE K fd_E_42 rfl d_E_isOnCurve_263 ?_
  refine z_aload_n K d_E_isOnCurve_266 rfl ?_
  refine zx_gE K fd_E_32 rfl d_E_isOnCurve_267 ?_
  refine z_aload_n K d_E_isOnCurve_270 rfl ?_
  refine zx_gE K fd_E_20 rfl d_E_isOnCurve_271 ?_
  refine z_aload_n K d_E_isOnCurve_274 rfl ?_
  refine zx_gE K fd_E_32 rfl d_E_isOnCurve_275 ?_
  obtain ⟨w14, ex14⟩ : ∃ z : Int, z = w13 * xl := ⟨_, rfl⟩
  have b14 : w14.natAbs < 10 ^ 64 := by rw [ex14]; have z := t10_mul b13 b63; exact z
  refine z_callV (ci := 4) (As := [.ref (a + 71), .ref (a + 63), .ref (a + 71)]) K (v_R_multiply l G b0 h a S13 hV13 (by rfl) (by rfl) (by rfl) (by rw [w13u]; exact lt9_of10 (m := 5) b13 (by decide)) (by rw [f13_63]; exact lt9_of10 (m := 3) b63 (by decide)) (by decide) (by rw [w13u, f13_63, ← ex14]; exact (lt9_of10 b14 (by decide)))) ca_E_104 im_R_multiply se_R_multiply rfl (by decide) (hx_R) rfl rfl (by decide) (Nat.le_of_ble_eq_true rfl) d_E_isOnCurve_278 (fun r h1 hp => ?_)
  obtain ⟨S14, rfl, rfl, hV14, ef14⟩ := hp
  rw [w13u, f13_63, ← ex14] at hV14
  obtain ⟨U14, w14hU⟩ : ∃ W : Nat → Int, W = nu U13 71 w14 := ⟨_, rfl⟩
  rw [← w14hU] at hV14
  have f14_61 : U14 61 = xu := (by rw [w14hU, nu_ne _ _ (by omega)] : U14 61 = U13 61).trans f13_61
  have f14_63 : U14 63 = xl := (by rw [w14hU, nu_ne _ _ (by omega)] : U14 63 = U13 63).trans f13_63
  have f14_65 : U14 65 = yu := (by rw [w14hU, nu_ne _ _ (by omega)] : U14 65 = U13 65).trans f13_65
  have f14_67 : U14 67 = yl := (by rw [w14hU, nu_ne _ _ (by omega)] : U14 67 = U13 67).trans f13_67
  have f14_19 : U14 19 = A.1 := (by rw [w14hU, nu_ne _ _ (by omega)] : U14 19 = U13 19).trans f13_19
  have f14_21 : U14 21 = A.2.1 := (by rw [w14hU, nu_ne _ _ (by omega)] : U14 21 = U13 21).trans f13_21
  have f14_23 : U14 23 = A.2.2.1 := (by rw [w14hU, nu_ne _ _ (by omega)] : U14 23 = U13 23).trans f13_23
  have f14_25 : U14 25 = A.2.2.2.1 := (by rw [w14hU, nu_ne _ _ (by omega)] : U14 25 = U13 25).trans f13_25
  have f14_27 : U14 27 = A.2.2.2.2 := (by rw [w14hU, nu_ne _ _ (by omega)] : U14 27 = U13 27).trans f13_27
  have f14_69 : U14 69 = w8 := (by rw [w14hU, nu_ne _ _ (by omega)] : U14 69 = U13 69).trans f13_69
  have f14_73 : U14 73 = w12 := (by rw [w14hU, nu_ne _ _ (by omega)] : U14 73 = U13 73).trans f13_73
  have f14_71 : U14 71 = w14 := by rw [w14hU, nu_self]
  have g14 : ∀ j : Nat, (j < 69 ∨ 73 < j) → j ≠ 5 → U14 j = U j := fun j j1 j2 => (by rw [w14hU, nu_ne _ _ (by omega)] : U14 j = U13 j).trans (g13 j j1 j2)
  refine z_aload_n K d_E_isOnCurve_281 rfl ?_
  refine zx_gE K fd_E_42 rfl d_E_isOnCurve_282 ?_
  refine z_aload_n K d_E_isOnCurve_285 rfl ?_
  refine zx_gE K fd_E_35 rfl d_E_isOnCurve_286 ?_
  refine z_aload_n K d_E_isOnCurve_289 rfl ?_
  refine zx_gE K fd_E_14 rfl d_E_isOnCurve_290 ?_
  refine z_aload_n K d_E_isOnCurve_293 rfl ?_
  refine zx_gE K fd_E_32 rfl d_E_isOnCurve_294 ?_
  have b15p : (w12 * xu).natAbs < 10 ^ 57 := by have z := t10_mul b12 b61; exact z
  obtain ⟨w15, ex15⟩ : ∃ z : Int, z = w14 + w12 * xu := ⟨_, rfl⟩
  have b15 : w15.natAbs < 10 ^ 65 := by rw [ex15]; have z := t10_add b14 b15p; exact z
  refine z_callV (ci := 4) (As := [.ref (a + 73), .ref (a + 61), .ref (a + 71)]) K (v_R_addProduct l G b0 h a S14 hV14 (by rfl) (by rfl) (by rfl) (by omega) (by rw [f14_73]; exact lt9_of10 (m := 5) b12 (by decide)) (by rw [f14_61]; exact lt9_of10 (m := 3) b61 (by decide)) (by decide) (by rw [f14_71]; exact (lt9_of10 b14 (by decide))) (by rw [f14_73, f14_61]; exact (lt9_of10 b15p (by decide))) (by rw [f14_71, f14_73, f14_61, ← ex15]; exact (lt9_of10 b15 (by decide)))) ca_E_112 im_R_addProduct se_R_addProduct rfl (by decide) (hx_R) rfl rfl (by decide) (Nat.le_of_ble_eq_true rfl) d_E_isOnCurve_297 (fun r h1 hp => ?_)
  obtain ⟨S15, rfl, rfl, ⟨U15, hV15, w15u, w15w⟩, ef15⟩ := hp
  rw [f14_71, f14_73, f14_61, ← ex15] at w15u
  have f15_61 : U15 61 = xu := (w15w _ (by omega) (by omega)).trans f14_61
  have f15_63 : U15 63 = xl := (w15w _ (by omega) (by omega)).trans f14_63
  have f15_65 : U15 65 = yu := (w15w _ (by omega) (by omega)).trans f14_65
  have f15_67 : U15 67 = yl := (w15w _ (by omega) (by omega)).trans f14_67
  have f15_19 : U15 19 = A.1 := (w15w _ (by omega) (by omega)).trans f14_19
  have f15_21 : U15 21 = A.2.1 := (w15w _ (by omega) (by omega)).trans f14_21
  have f15_23 : U15 23 = A.2.2.1 := (w15w _ (by omega) (by omega)).trans f14_23
  have f15_25 : U15 25 = A.2.2.2.1 := (w15w _ (by omega) (by omega)).trans f14_25
  have f15_27 : U15 27 = A.2.2.2.2 := (w15w _ (by omega) (by omega)).trans f14_27
  have f15_69 : U15 69 = w8 := (w15w _ (by omega) (by omega)).trans f14_69
  have f15_73 : U15 73 = w12 := (w15w _ (by omega) (by omega)).trans f14_73
  have g15 : ∀ j : Nat, (j < 69 ∨ 73 < j) → j ≠ 5 → U15 j = U j := fun j j1 j2 => (w15w j (by omega) j2).trans (g14 j j1 j2)
  refine z_aload_n K d_E_isOnCurve_300 rfl ?_
  refine zx_gE K fd_E_42 rfl d_E_isOnCurve_301 ?_
  refine z_aload_n K d_E_isOnCurve_304 rfl ?_
  refine zx_gE K fd_E_32 rfl d_E_isOnCurve_305 ?_
  refine z_aload_n K d_E_isOnCurve_308 rfl ?_
  refine zx_gE K fd_E_26 rfl d_E_isOnCurve_309 ?_
  refine z_aload_n K d_E_isOnCurve_312 rfl ?_
  refine zx_gE K fd_E_32 rfl d_E_isOnCurve_313 ?_
  obtain ⟨w16, ex16⟩ : ∃ z : Int, z = w15 * yl := ⟨_, rfl⟩
  have b16 : w16.natAbs < 10 ^ 84 := by rw [ex16]; have z := t10_mul b15 b67; exact z
  refine z_callV (ci := 4) (As := [.ref (a + 71), .ref (a + 67), .ref (a + 71)]) K (v_R_multiply l G b0 h a S15 hV15 (by rfl) (by rfl) (by rfl) (by rw [w15u]; exact lt9_of10 (m := 8) b15 (by decide)) (by rw [f15_67]; exact lt9_of10 (m := 3) b67 (by decide)) (by decide) (by rw [w15u, f15_67, ← ex16]; exact (lt9_of10 b16 (by decide)))) ca_E_104 im_R_multiply se_R_multiply rfl (by decide) (hx_R) rfl rfl (by decide) (Nat.le_of_ble_eq_true rfl) d_E_isOnCurve_316 (fun r h1 hp => ?_)
  obtain ⟨S16, rfl, rfl, hV16, ef16⟩ := hp
  rw [w15u, f15_67, ← ex16] at hV16
  obtain ⟨U16, w16hU⟩ : ∃ W : Nat → Int, W = nu U15 71 w16 := ⟨_, rfl⟩
  rw [← w16hU] at hV16
  have f16_61 : U16 61 = xu := (by rw [w16hU, nu_ne _ _ (by omega)] : U16 61 = U15 61).trans f15_61
  have f16_63 : U16 63 = xl := (by rw [w16hU, nu_ne _ _ (by omega)] : U16 63 = U15 63).trans f15_63
  have f16_65 : U16 65 = yu := (by rw [w16hU, nu_ne _ _ (by omega)] : U16 65 = U15 65).trans f15_65
  have f16_67 : U16 67 = yl := (by rw [w16hU, nu_ne _ _ (by omega)] : U16 67 = U15 67).trans f15_67
  have f16_19 : U16 19 = A.1 := (by rw [w16hU, nu_ne _ _ (by omega)] : U16 19 = U15 19).trans f15_19
  have f16_21 : U16 21 = A.2.1 := (by rw [w16hU, nu_ne _ _ (by omega)] : U16 21 = U15 21).trans f15_21
  have f16_23 : U16 23 = A.2.2.1 := (by rw [w16hU, nu_ne _ _ (by omega)] : U16 23 = U15 23).trans f15_23
  have f16_25 : U16 25 = A.2.2.2.1 := (by rw [w16hU, nu_ne _ _ (by omega)] : U16 25 = U15 25).trans f15_25
  have f16_27 : U16 27 = A.2.2.2.2 := (by rw [w16hU, nu_ne _ _ (by omega)] : U16 27 = U15 27).trans f15_27
  have f16_69 : U16 69 = w8 := (by rw [w16hU, nu_ne _ _ (by omega)] : U16 69 = U15 69).trans f15_69
  have f16_73 : U16 73 = w12 := (by rw [w16hU, nu_ne _ _ (by omega)] : U16 73 = U15 73).trans f15_73
  have f16_71 : U16 71 = w16 := by rw [w16hU, nu_self]
  have g16 : ∀ j : Nat, (j < 69 ∨ 73 < j) → j ≠ 5 → U16 j = U j := fun j j1 j2 => (by rw [w16hU, nu_ne _ _ (by omega)] : U16 j = U15 j).trans (g15 j j1 j2)
  refine z_aload_n K d_E_isOnCurve_319 rfl ?_
  refine zx_gE K fd_E_42 rfl d_E_isOnCurve_320 ?_
  refine z_aload_n K d_E_isOnCurve_323 rfl ?_
  refine zx_gE K fd_E_32 rfl d_E_isOnCurve_324 ?_
  refine z_aload_n K d_E_isOnCurve_327 rfl ?_
  refine zx_gE K fd_E_26 rfl d_E_isOnCurve_328 ?_
  refine z_aload_n K d_E_isOnCurve_331 rfl ?_
  refine zx_gE K fd_E_32 rfl d_E_isOnCurve_332 ?_
  obtain ⟨w17, ex17⟩ : ∃ z : Int, z = w16 * yl := ⟨_, rfl⟩
  have b17 : w17.natAbs < 10 ^ 103 := by rw [ex17]; have z := t10_mul b16 b67; exact z
  refine z_callV (ci := 4) (As := [.ref (a + 71), .ref (a + 67), .ref (a + 71)]) K (v_R_multiply l G b0 h a S16 hV16 (by rfl) (by rfl) (by rfl) (by rw [f16_71]; exact lt9_of10 (m := 10) b16 (by decide)) (by rw [f16_67]; exact lt9_of10 (m := 3) b67 (by decide)) (by decide) (by rw [f16_71, f16_67, ← ex17]; exact (lt9_of10 b17 (by decide)))) ca_E_104 im_R_multiply se_R_multiply rfl (by decide) (hx_R) rfl rfl (by decide) (Nat.le_of_ble_eq_true rfl) d_E_isOnCurve_335 (fun r h1 hp => ?_)
  obtain ⟨S17, rfl, rfl, hV17, ef17⟩ := hp
  rw [f16_71, f16_67, ← ex17] at hV17
  obtain ⟨U17, w17hU⟩ : ∃ W : Nat → Int, W = nu U16 71 w17 := ⟨_, rfl⟩
  rw [← w17hU] at hV17
  have f17_61 : U17 61 = xu := (by rw [w17hU, nu_ne _ _ (by omega)] : U17 61 = U16 61).trans f16_61
  have f17_63 : U17 63 = xl := (by rw [w17hU, nu_ne _ _ (by omega)] : U17 63 = U16 63).trans f16_63
  have f17_65 : U17 65 = yu := (by rw [w17hU, nu_ne _ _ (by omega)] : U17 65 = U16 65).trans f16_65
  have f17_67 : U17 67 = yl := (by rw [w17hU, nu_ne _ _ (by omega)] : U17 67 = U16 67).trans f16_67
  have f17_19 : U17 19 = A.1 := (by rw [w17hU, nu_ne _ _ (by omega)] : U17 19 = U16 19).trans f16_19
  have f17_21 : U17 21 = A.2.1 := (by rw [w17hU, nu_ne _ _ (by omega)] : U17 21 = U16 21).trans f16_21
  have f17_23 : U17 23 = A.2.2.1 := (by rw [w17hU, nu_ne _ _ (by omega)] : U17 23 = U16 23).trans f16_23
  have f17_25 : U17 25 = A.2.2.2.1 := (by rw [w17hU, nu_ne _ _ (by omega)] : U17 25 = U16 25).trans f16_25
  have f17_27 : U17 27 = A.2.2.2.2 := (by rw [w17hU, nu_ne _ _ (by omega)] : U17 27 = U16 27).trans f16_27
  have f17_69 : U17 69 = w8 := (by rw [w17hU, nu_ne _ _ (by omega)] : U17 69 = U16 69).trans f16_69
  have f17_73 : U17 73 = w12 := (by rw [w17hU, nu_ne _ _ (by omega)] : U17 73 = U16 73).trans f16_73
  have f17_71 : U17 71 = w17 := by rw [w17hU, nu_self]
  have g17 : ∀ j : Nat, (j < 69 ∨ 73 < j) → j ≠ 5 → U17 j = U j := fun j j1 j2 => (by rw [w17hU, nu_ne _ _ (by omega)] : U17 j = U16 j).trans (g16 j j1 j2)
  obtain ⟨n69, v69⟩ := hV17 69 rfl
  obtain ⟨n71, v71⟩ := hV17 71 rfl
  rw [f17_69] at v69
  rw [f17_71] at v71
  refine z_aload_n K d_E_isOnCurve_338 rfl ?_
  refine zx_gE K fd_E_29 rfl d_E_isOnCurve_339 ?_
  refine z_aload_n K d_E_isOnCurve_342 rfl ?_
  refine zx_gE K fd_E_32 rfl d_E_isOnCurve_343 ?_
  refine z_callV (ci := 1) (As := [.ref (a + 71)]) K (c_N_isLike l G b0 h a S17 (x := 69) (y := 71) rfl rfl v69 v71) ca_E_127 im_N_isLike se_N_isLike rfl (by decide) (hx_N (by rfl)) rfl rfl (by decide) (Nat.le_of_ble_eq_true rfl) d_E_isOnCurve_346 (fun r h1 hp => ?_)
  obtain ⟨S9, rfl, rfl, b9, rfl, d1, d2⟩ := hp
  refine z_zret K hr hlk d_E_isOnCurve_349 (z01n d1) ⟨_, rfl, ⟨b9, rfl, d1, d2.trans ?_⟩, ⟨_, hV17, g17⟩, (ef17.trans (ef16.trans (ef15.trans (ef14.trans (ef13.trans (ef12.trans (ef11.trans (ef10.trans (ef9.trans (ef8.trans (ef7.trans (ef6.trans (ef5.trans (ef4.trans (ef3.trans (ef2.trans ef1))))))))))))))))⟩
  have e1 : w8 = pLeft A xu xl yu yl := by subst ex17 ex16 ex15 ex14 ex13 ex12 ex11 ex10 ex9 ex8 ex7 ex6 ex5 ex4 ex3 ex2 ex1; unfold pLeft; grind
  have e2 : w17 = pRight A xu xl yu yl := by subst ex17 ex16 ex15 ex14 ex13 ex12 ex11 ex10 ex9 ex8 ex7 ex6 ex5 ex4 ex3 ex2 ex1; unfold pRight; grind
  rw [e1, e2]
  exact ⟨fun w => w.symm, fun w => w.symm⟩
set_option maxHeartbeats 4000000 in
set_option maxRecDepth 100000 in
theorem v_E_takeLowestTerms61 (l : Launch) (G : zG) (b0 : Nat) (h : zH) (a : Nat) (S : xS) {U : Nat → Int} (hV : VX S U) (hpm : pm S.f) {u w : Int} (hu : i64 u) (hw : i64 w) (hw0 : w ≠ 0) : xMet l G b0 y_E_takeLowestTerms b_E_takeLowestTerms 7 none 5 145 h a [.ref (a + 60), .long (kI u), .long (kI w), .ref (a + 61), .ref (a + 63)] S (fun r S' => r = none ∧ (∃ U', VX S' U' ∧ pm S'.f ∧ U' 61 = fUp u w ∧ U' 63 = fLo u w ∧ ∀ j : Nat, j ≠ 61 → j ≠ 63 → j ≠ 69 → j ≠ 71 → j ≠ 8 → j ≠ 12 → j ≠ 14 → j ≠ 16 → U' j = U j) ∧ S'.f.nn = S.f.nn ∧ S'.f.lost = S.f.lost) :=
  z_met (by decide) (Nat.le_of_ble_eq_true rfl) fun p e s m below meth c K hr hlk hnm => by
  have hg : 0 < Int.gcd u w := Int.gcd_pos_of_ne_zero_right u hw0
  obtain ⟨g, hgd⟩ : ∃ g, g = Int.gcd u w := ⟨_, rfl⟩
  rw [← hgd] at hg
  have hdw : (g : Int) ∣ w := by rw [hgd]; exact Int.gcd_dvd_right ..
  have hdu : (g : Int) ∣ u := by rw [hgd]; exact Int.gcd_dvd_left ..
  have gle : g ≤ w.natAbs := by
    have := Int.natAbs_dvd_natAbs.2 hdw
    rw [Int.natAbs_natCast] at this
    exact Nat.le_of_dvd (by omega) this
  have bw : lt9 w 3 := lt9_n (n := 9223372036854775808) (by omega) (by decide)
  have bu : lt9 u 3 := lt9_n (n := 9223372036854775808) (by omega) (by decide)
  have bg : lt9 (g : Int) 3 := lt9_le bw (by rw [Int.natAbs_natCast]; exact gle)
  have lt0 : lt9 0 16 := lt9_n (n := 0) (by decide) (by decide)
  have m1 : u.tmod (g : Int) = 0 := Int.tmod_eq_zero_of_dvd hdu
  have m2 : w.tmod (g : Int) = 0 := Int.tmod_eq_zero_of_dvd hdw
  have bqu : lt9 (u.tdiv (g : Int)) 3 := lt9_le bu (by rw [Int.natAbs_tdiv]; exact Nat.div_le_self _ _)
  have bqw : lt9 (w.tdiv (g : Int)) 3 := lt9_le bw (by rw [Int.natAbs_tdiv]; exact Nat.div_le_self _ _)
  refine z_aload K d_E_takeLowestTerms_0 rfl ?_
  refine z_lload_n K d_E_takeLowestTerms_2 rfl ?_
  refine z_callV (ci := 1) (As := [.long (kI u)]) K (c_N_become_J l G b0 h a S (k := 61) (v := u) rfl hu) ca_E_89 im_N_become_J se_N_become_J rfl (by decide) (hx_N (by rfl)) rfl rfl (by decide) (Nat.le_of_ble_eq_true rfl) d_E_takeLowestTerms_3 (fun r h1 hp => ?_)
  obtain ⟨S1, rfl, rfl, k1, n1, _, w1⟩ := hp
  refine z_aload K d_E_takeLowestTerms_6 rfl ?_
  refine z_lload_n K d_E_takeLowestTerms_8 rfl ?_
  refine z_callV (ci := 1) (As := [.long (kI w)]) K (c_N_become_J l G b0 h a S1 (k := 63) (v := w) rfl hw) ca_E_89 im_N_become_J se_N_become_J rfl (by decide) (hx_N (by rfl)) rfl rfl (by decide) (Nat.le_of_ble_eq_true rfl) d_E_takeLowestTerms_9 (fun r h1 hp => ?_)
  obtain ⟨S2, rfl, rfl, k2, n2, _, w2⟩ := hp
  have hV2 := (hV.up k1 w1).up k2 w2
  obtain ⟨U2, hU2⟩ : ∃ W : Nat → Int, W = nu (nu U 61 u) 63 w := ⟨_, rfl⟩
  rw [← hU2] at hV2
  have f2 : S2.f = S.f := k2.2.trans k1.2
  have u2t : U2 61 = u := by rw [hU2, nu_ne _ _ (by decide), nu_self]
  have u2b : U2 63 = w := by rw [hU2, nu_self]
  have hg2 : Int.gcd (U2 61) (U2 63) = g := by rw [u2t, u2b, hgd]
  refine z_aload_n K d_E_takeLowestTerms_12 rfl ?_
  refine zx_gE K fd_E_46 rfl d_E_takeLowestTerms_13 ?_
  refine z_aload K d_E_takeLowestTerms_16 rfl ?_
  refine z_aload K d_E_takeLowestTerms_18 rfl ?_
  refine z_aload_n K d_E_takeLowestTerms_20 rfl ?_
  refine zx_gE K fd_E_29 rfl d_E_takeLowestTerms_21 ?_
  refine z_callV (ci := 5) (As := [.ref (a + 61), .ref (a + 63), .ref (a + 69)]) K (v_D_common l G b0 h a S2 (x := 61) (y := 63) (o := 69) hV2 (by rw [f2]; exact hpm) rfl rfl rfl (by decide) (by decide) (by decide) (by rw [hg2]; exact lt9_mono bg (by decide))) ca_E_92 im_D_common se_D_common rfl (by decide) (hx_D) rfl rfl (by decide) (Nat.le_of_ble_eq_true rfl) d_E_takeLowestTerms_24 (fun r h1 hp => ?_)
  obtain ⟨S3, rfl, rfl, U3, hV3, pm3, u3, w3⟩ := hp
  rw [hg2] at u3
  have u3t : U3 61 = u := (w3.1 61 (by decide) (by decide) (by decide) (by decide) (by decide)).trans u2t
  have u3b : U3 63 = w := (w3.1 63 (by decide) (by decide) (by decide) (by decide) (by decide)).trans u2b
  refine z_aload_n K d_E_takeLowestTerms_27 rfl ?_
  refine zx_gE K fd_E_42 rfl d_E_takeLowestTerms_28 ?_
  refine z_aload K d_E_takeLowestTerms_31 rfl ?_
  refine z_aload_n K d_E_takeLowestTerms_33 rfl ?_
  refine zx_gE K fd_E_29 rfl d_E_takeLowestTerms_34 ?_
  refine z_aload K d_E_takeLowestTerms_37 rfl ?_
  refine z_aload_n K d_E_takeLowestTerms_39 rfl ?_
  refine zx_gE K fd_E_32 rfl d_E_takeLowestTerms_40 ?_
  refine z_callV (ci := 4) (As := [.ref (a + 61), .ref (a + 69), .ref (a + 61), .ref (a + 71)]) K (v_R_divide l G b0 h a S3 (x := 61) (y := 69) (qq := 61) (rr := 71) hV3 rfl rfl rfl rfl (by decide) (by rw [u3]; omega) (by rw [u3t, u3]; exact lt9_mono bqu (by decide)) (by rw [u3t, u3, m1]; exact lt0)) ca_E_83 im_R_divide se_R_divide rfl (by decide) (hx_R) rfl rfl (by decide) (Nat.le_of_ble_eq_true rfl) d_E_takeLowestTerms_43 (fun r h1 hp => ?_)
  obtain ⟨S4, rfl, rfl, hV4, f4⟩ := hp
  rw [u3t, u3, m1] at hV4
  obtain ⟨U4, hU4⟩ : ∃ W : Nat → Int, W = nu (nu U3 61 (u.tdiv (g : Int))) 71 0 := ⟨_, rfl⟩
  rw [← hU4] at hV4
  have u4b : U4 63 = w := by rw [hU4, nu_ne _ _ (by decide), nu_ne _ _ (by decide), u3b]
  have u4g : U4 69 = g := by rw [hU4, nu_ne _ _ (by decide), nu_ne _ _ (by decide), u3]
  have u4t : U4 61 = u.tdiv (g : Int) := by rw [hU4, nu_ne _ _ (by decide), nu_self]
  refine z_aload_n K d_E_takeLowestTerms_46 rfl ?_
  refine zx_gE K fd_E_42 rfl d_E_takeLowestTerms_47 ?_
  refine z_aload K d_E_takeLowestTerms_50 rfl ?_
  refine z_aload_n K d_E_takeLowestTerms_52 rfl ?_
  refine zx_gE K fd_E_29 rfl d_E_takeLowestTerms_53 ?_
  refine z_aload K d_E_takeLowestTerms_56 rfl ?_
  refine z_aload_n K d_E_takeLowestTerms_58 rfl ?_
  refine zx_gE K fd_E_32 rfl d_E_takeLowestTerms_59 ?_
  refine z_callV (ci := 4) (As := [.ref (a + 63), .ref (a + 69), .ref (a + 63), .ref (a + 71)]) K (v_R_divide l G b0 h a S4 (x := 63) (y := 69) (qq := 63) (rr := 71) hV4 rfl rfl rfl rfl (by decide) (by rw [u4g]; omega) (by rw [u4b, u4g]; exact lt9_mono bqw (by decide)) (by rw [u4b, u4g, m2]; exact lt0)) ca_E_83 im_R_divide se_R_divide rfl (by decide) (hx_R) rfl rfl (by decide) (Nat.le_of_ble_eq_true rfl) d_E_takeLowestTerms_62 (fun r h1 hp => ?_)
  obtain ⟨S5, rfl, rfl, hV5, f5⟩ := hp
  rw [u4b, u4g, m2] at hV5
  obtain ⟨U5, hU5⟩ : ∃ W : Nat → Int, W = nu (nu U4 63 (w.tdiv (g : Int))) 71 0 := ⟨_, rfl⟩
  rw [← hU5] at hV5
  have u5t : U5 61 = u.tdiv (g : Int) := by rw [hU5, nu_ne _ _ (by decide), nu_ne _ _ (by decide), u4t]
  have u5b : U5 63 = w.tdiv (g : Int) := by rw [hU5, nu_ne _ _ (by decide), nu_self]
  have fr5 : ∀ j : Nat, j ≠ 61 → j ≠ 63 → j ≠ 69 → j ≠ 71 → j ≠ 8 → j ≠ 12 → j ≠ 14 → j ≠ 16 → U5 j = U j := fun j a1 a2 a3 a4 a5 a6 a7 a8 => by
    rw [hU5, nu_ne _ _ a4, nu_ne _ _ a2, hU4, nu_ne _ _ a4, nu_ne _ _ a1, w3.1 j a3 a5 a6 a7 a8, hU2, nu_ne _ _ a2, nu_ne _ _ a1]
  have pm5 : pm S5.f := by rw [f5, f4]; exact pm3
  have nn5 : S5.f.nn = S.f.nn := by rw [f5, f4, w3.2.1, f2]
  have lo5 : S5.f.lost = S.f.lost := by rw [f5, f4, w3.2.2, f2]
  obtain ⟨nt, vt⟩ := hV5 61 rfl
  obtain ⟨nb, vb⟩ := hV5 63 rfl
  rw [u5t] at vt
  rw [u5b] at vb
  obtain ⟨q, hq⟩ : ∃ q, w = (g : Int) * q := hdw
  have eq1 : w.tdiv (g : Int) = q := by rw [hq]; exact Int.mul_tdiv_cancel_left _ (by omega)
  have hsg : w.tdiv (g : Int) < 0 ↔ w < 0 := by
    rw [eq1]
    constructor
    · intro z; rw [hq]; exact Int.mul_neg_of_pos_of_neg (by omega) z
    · intro z
      rcases Int.lt_or_le q 0 with y | y
      · exact y
      · have := Int.mul_nonneg (show (0 : Int) ≤ g by omega) y; omega
  have bb := vb.2.2.2.2.1
  refine z_aload K d_E_takeLowestTerms_65 rfl ?_
  refine zx_gN (k := 63) K rfl fd_E_98 rfl d_E_takeLowestTerms_67 ?_
  refine zi_if_eq (tgt := 83) K d_E_takeLowestTerms_70 (by decide) (by have := vb.b01; show i32 (S5.B 63); omega) (fun hc => ?_) (fun hc => ?_)
  · have hc' : S5.B 63 = 0 := hc
    have hn : ¬ w < 0 := fun z => by rw [if_pos (hsg.2 z)] at bb; omega
    refine z_vret K hr hlk d_E_takeLowestTerms_83 ⟨_, rfl, rfl, ⟨U5, hV5, pm5, ?_, ?_, fr5⟩, nn5, lo5⟩
    · rw [u5t]; unfold fUp; rw [if_neg hn, ← hgd]
    · rw [u5b]; unfold fLo; rw [if_neg hn, ← hgd]
  · have hc' : ¬ S5.B 63 = 0 := hc
    have hn : w < 0 := by
      rcases Int.lt_or_le w 0 with z | z
      · exact z
      · rw [if_neg (fun y => by have := hsg.1 y; omega)] at bb; exact absurd bb hc'
    refine z_aload K d_E_takeLowestTerms_73 rfl ?_
    refine z_callV (ci := 1) (As := []) K (c_N_changeSign l G b0 h a S5 (k := 63) rfl vb) ca_E_101 im_N_changeSign se_N_changeSign rfl (by decide) (hx_N (by rfl)) rfl rfl (by decide) (Nat.le_of_ble_eq_true rfl) d_E_takeLowestTerms_75 (fun r h1 hp => ?_)
    obtain ⟨S6, rfl, rfl, k6, k6', w6⟩ := hp
    have vt6 := k6.nr vt (show 61 ≠ 63 by decide)
    refine z_aload K d_E_takeLowestTerms_78 rfl ?_
    refine z_callV (ci := 1) (As := []) K (c_N_changeSign l G b0 h a S6 (k := 61) rfl vt6) ca_E_101 im_N_changeSign se_N_changeSign rfl (by decide) (hx_N (by rfl)) rfl rfl (by decide) (Nat.le_of_ble_eq_true rfl) d_E_takeLowestTerms_80 (fun r h1 hp => ?_)
    obtain ⟨S7, rfl, rfl, k7, k7', w7⟩ := hp
    refine z_vret K hr hlk d_E_takeLowestTerms_83 ⟨_, rfl, rfl, ⟨_, (hV5.up k6 w6).up k7 w7, by rw [k7.2, k6.2]; exact pm5, ?_, ?_, fun j a1 a2 a3 a4 a5 a6 a7 a8 => ?_⟩, by rw [k7.2, k6.2]; exact nn5, by rw [k7.2, k6.2]; exact lo5⟩
    · rw [nu_self]; unfold fUp; rw [if_pos hn, ← hgd]
    · rw [nu_ne _ _ (by decide), nu_self]; unfold fLo; rw [if_pos hn, ← hgd]
    · rw [nu_ne _ _ a1, nu_ne _ _ a2]; exact fr5 j a1 a2 a3 a4 a5 a6 a7 a8
set_option maxHeartbeats 4000000 in
set_option maxRecDepth 100000 in
theorem v_E_takeLowestTerms65 (l : Launch) (G : zG) (b0 : Nat) (h : zH) (a : Nat) (S : xS) {U : Nat → Int} (hV : VX S U) (hpm : pm S.f) {u w : Int} (hu : i64 u) (hw : i64 w) (hw0 : w ≠ 0) : xMet l G b0 y_E_takeLowestTerms b_E_takeLowestTerms 7 none 5 145 h a [.ref (a + 60), .long (kI u), .long (kI w), .ref (a + 65), .ref (a + 67)] S (fun r S' => r = none ∧ (∃ U', VX S' U' ∧ pm S'.f ∧ U' 65 = fUp u w ∧ U' 67 = fLo u w ∧ ∀ j : Nat, j ≠ 65 → j ≠ 67 → j ≠ 69 → j ≠ 71 → j ≠ 8 → j ≠ 12 → j ≠ 14 → j ≠ 16 → U' j = U j) ∧ S'.f.nn = S.f.nn ∧ S'.f.lost = S.f.lost) :=
  z_met (by decide) (Nat.le_of_ble_eq_true rfl) fun p e s m below meth c K hr hlk hnm => by
  have hg : 0 < Int.gcd u w := Int.gcd_pos_of_ne_zero_right u hw0
  obtain ⟨g, hgd⟩ : ∃ g, g = Int.gcd u w := ⟨_, rfl⟩
  rw [← hgd] at hg
  have hdw : (g : Int) ∣ w := by rw [hgd]; exact Int.gcd_dvd_right ..
  have hdu : (g : Int) ∣ u := by rw [hgd]; exact Int.gcd_dvd_left ..
  have gle : g ≤ w.natAbs := by
    have := Int.natAbs_dvd_natAbs.2 hdw
    rw [Int.natAbs_natCast] at this
    exact Nat.le_of_dvd (by omega) this
  have bw : lt9 w 3 := lt9_n (n := 9223372036854775808) (by omega) (by decide)
  have bu : lt9 u 3 := lt9_n (n := 9223372036854775808) (by omega) (by decide)
  have bg : lt9 (g : Int) 3 := lt9_le bw (by rw [Int.natAbs_natCast]; exact gle)
  have lt0 : lt9 0 16 := lt9_n (n := 0) (by decide) (by decide)
  have m1 : u.tmod (g : Int) = 0 := Int.tmod_eq_zero_of_dvd hdu
  have m2 : w.tmod (g : Int) = 0 := Int.tmod_eq_zero_of_dvd hdw
  have bqu : lt9 (u.tdiv (g : Int)) 3 := lt9_le bu (by rw [Int.natAbs_tdiv]; exact Nat.div_le_self _ _)
  have bqw : lt9 (w.tdiv (g : Int)) 3 := lt9_le bw (by rw [Int.natAbs_tdiv]; exact Nat.div_le_self _ _)
  refine z_aload K d_E_takeLowestTerms_0 rfl ?_
  refine z_lload_n K d_E_takeLowestTerms_2 rfl ?_
  refine z_callV (ci := 1) (As := [.long (kI u)]) K (c_N_become_J l G b0 h a S (k := 65) (v := u) rfl hu) ca_E_89 im_N_become_J se_N_become_J rfl (by decide) (hx_N (by rfl)) rfl rfl (by decide) (Nat.le_of_ble_eq_true rfl) d_E_takeLowestTerms_3 (fun r h1 hp => ?_)
  obtain ⟨S1, rfl, rfl, k1, n1, _, w1⟩ := hp
  refine z_aload K d_E_takeLowestTerms_6 rfl ?_
  refine z_lload_n K d_E_takeLowestTerms_8 rfl ?_
  refine z_callV (ci := 1) (As := [.long (kI w)]) K (c_N_become_J l G b0 h a S1 (k := 67) (v := w) rfl hw) ca_E_89 im_N_become_J se_N_become_J rfl (by decide) (hx_N (by rfl)) rfl rfl (by decide) (Nat.le_of_ble_eq_true rfl) d_E_takeLowestTerms_9 (fun r h1 hp => ?_)
  obtain ⟨S2, rfl, rfl, k2, n2, _, w2⟩ := hp
  have hV2 := (hV.up k1 w1).up k2 w2
  obtain ⟨U2, hU2⟩ : ∃ W : Nat → Int, W = nu (nu U 65 u) 67 w := ⟨_, rfl⟩
  rw [← hU2] at hV2
  have f2 : S2.f = S.f := k2.2.trans k1.2
  have u2t : U2 65 = u := by rw [hU2, nu_ne _ _ (by decide), nu_self]
  have u2b : U2 67 = w := by rw [hU2, nu_self]
  have hg2 : Int.gcd (U2 65) (U2 67) = g := by rw [u2t, u2b, hgd]
  refine z_aload_n K d_E_takeLowestTerms_12 rfl ?_
  refine zx_gE K fd_E_46 rfl d_E_takeLowestTerms_13 ?_
  refine z_aload K d_E_takeLowestTerms_16 rfl ?_
  refine z_aload K d_E_takeLowestTerms_18 rfl ?_
  refine z_aload_n K d_E_takeLowestTerms_20 rfl ?_
  refine zx_gE K fd_E_29 rfl d_E_takeLowestTerms_21 ?_
  refine z_callV (ci := 5) (As := [.ref (a + 65), .ref (a + 67), .ref (a + 69)]) K (v_D_common l G b0 h a S2 (x := 65) (y := 67) (o := 69) hV2 (by rw [f2]; exact hpm) rfl rfl rfl (by decide) (by decide) (by decide) (by rw [hg2]; exact lt9_mono bg (by decide))) ca_E_92 im_D_common se_D_common rfl (by decide) (hx_D) rfl rfl (by decide) (Nat.le_of_ble_eq_true rfl) d_E_takeLowestTerms_24 (fun r h1 hp => ?_)
  obtain ⟨S3, rfl, rfl, U3, hV3, pm3, u3, w3⟩ := hp
  rw [hg2] at u3
  have u3t : U3 65 = u := (w3.1 65 (by decide) (by decide) (by decide) (by decide) (by decide)).trans u2t
  have u3b : U3 67 = w := (w3.1 67 (by decide) (by decide) (by decide) (by decide) (by decide)).trans u2b
  refine z_aload_n K d_E_takeLowestTerms_27 rfl ?_
  refine zx_gE K fd_E_42 rfl d_E_takeLowestTerms_28 ?_
  refine z_aload K d_E_takeLowestTerms_31 rfl ?_
  refine z_aload_n K d_E_takeLowestTerms_33 rfl ?_
  refine zx_gE K fd_E_29 rfl d_E_takeLowestTerms_34 ?_
  refine z_aload K d_E_takeLowestTerms_37 rfl ?_
  refine z_aload_n K d_E_takeLowestTerms_39 rfl ?_
  refine zx_gE K fd_E_32 rfl d_E_takeLowestTerms_40 ?_
  refine z_callV (ci := 4) (As := [.ref (a + 65), .ref (a + 69), .ref (a + 65), .ref (a + 71)]) K (v_R_divide l G b0 h a S3 (x := 65) (y := 69) (qq := 65) (rr := 71) hV3 rfl rfl rfl rfl (by decide) (by rw [u3]; omega) (by rw [u3t, u3]; exact lt9_mono bqu (by decide)) (by rw [u3t, u3, m1]; exact lt0)) ca_E_83 im_R_divide se_R_divide rfl (by decide) (hx_R) rfl rfl (by decide) (Nat.le_of_ble_eq_true rfl) d_E_takeLowestTerms_43 (fun r h1 hp => ?_)
  obtain ⟨S4, rfl, rfl, hV4, f4⟩ := hp
  rw [u3t, u3, m1] at hV4
  obtain ⟨U4, hU4⟩ : ∃ W : Nat → Int, W = nu (nu U3 65 (u.tdiv (g : Int))) 71 0 := ⟨_, rfl⟩
  rw [← hU4] at hV4
  have u4b : U4 67 = w := by rw [hU4, nu_ne _ _ (by decide), nu_ne _ _ (by decide), u3b]
  have u4g : U4 69 = g := by rw [hU4, nu_ne _ _ (by decide), nu_ne _ _ (by decide), u3]
  have u4t : U4 65 = u.tdiv (g : Int) := by rw [hU4, nu_ne _ _ (by decide), nu_self]
  refine z_aload_n K d_E_takeLowestTerms_46 rfl ?_
  refine zx_gE K fd_E_42 rfl d_E_takeLowestTerms_47 ?_
  refine z_aload K d_E_takeLowestTerms_50 rfl ?_
  refine z_aload_n K d_E_takeLowestTerms_52 rfl ?_
  refine zx_gE K fd_E_29 rfl d_E_takeLowestTerms_53 ?_
  refine z_aload K d_E_takeLowestTerms_56 rfl ?_
  refine z_aload_n K d_E_takeLowestTerms_58 rfl ?_
  refine zx_gE K fd_E_32 rfl d_E_takeLowestTerms_59 ?_
  refine z_callV (ci := 4) (As := [.ref (a + 67), .ref (a + 69), .ref (a + 67), .ref (a + 71)]) K (v_R_divide l G b0 h a S4 (x := 67) (y := 69) (qq := 67) (rr := 71) hV4 rfl rfl rfl rfl (by decide) (by rw [u4g]; omega) (by rw [u4b, u4g]; exact lt9_mono bqw (by decide)) (by rw [u4b, u4g, m2]; exact lt0)) ca_E_83 im_R_divide se_R_divide rfl (by decide) (hx_R) rfl rfl (by decide) (Nat.le_of_ble_eq_true rfl) d_E_takeLowestTerms_62 (fun r h1 hp => ?_)
  obtain ⟨S5, rfl, rfl, hV5, f5⟩ := hp
  rw [u4b, u4g, m2] at hV5
  obtain ⟨U5, hU5⟩ : ∃ W : Nat → Int, W = nu (nu U4 67 (w.tdiv (g : Int))) 71 0 := ⟨_, rfl⟩
  rw [← hU5] at hV5
  have u5t : U5 65 = u.tdiv (g : Int) := by rw [hU5, nu_ne _ _ (by decide), nu_ne _ _ (by decide), u4t]
  have u5b : U5 67 = w.tdiv (g : Int) := by rw [hU5, nu_ne _ _ (by decide), nu_self]
  have fr5 : ∀ j : Nat, j ≠ 65 → j ≠ 67 → j ≠ 69 → j ≠ 71 → j ≠ 8 → j ≠ 12 → j ≠ 14 → j ≠ 16 → U5 j = U j := fun j a1 a2 a3 a4 a5 a6 a7 a8 => by
    rw [hU5, nu_ne _ _ a4, nu_ne _ _ a2, hU4, nu_ne _ _ a4, nu_ne _ _ a1, w3.1 j a3 a5 a6 a7 a8, hU2, nu_ne _ _ a2, nu_ne _ _ a1]
  have pm5 : pm S5.f := by rw [f5, f4]; exact pm3
  have nn5 : S5.f.nn = S.f.nn := by rw [f5, f4, w3.2.1, f2]
  have lo5 : S5.f.lost = S.f.lost := by rw [f5, f4, w3.2.2, f2]
  obtain ⟨nt, vt⟩ := hV5 65 rfl
  obtain ⟨nb, vb⟩ := hV5 67 rfl
  rw [u5t] at vt
  rw [u5b] at vb
  obtain ⟨q, hq⟩ : ∃ q, w = (g : Int) * q := hdw
  have eq1 : w.tdiv (g : Int) = q := by rw [hq]; exact Int.mul_tdiv_cancel_left _ (by omega)
  have hsg : w.tdiv (g : Int) < 0 ↔ w < 0 := by
    rw [eq1]
    constructor
    · intro z; rw [hq]; exact Int.mul_neg_of_pos_of_neg (by omega) z
    · intro z
      rcases Int.lt_or_le q 0 with y | y
      · exact y
      · have := Int.mul_nonneg (show (0 : Int) ≤ g by omega) y; omega
  have bb := vb.2.2.2.2.1
  refine z_aload K d_E_takeLowestTerms_65 rfl ?_
  refine zx_gN (k := 67) K rfl fd_E_98 rfl d_E_takeLowestTerms_67 ?_
  refine zi_if_eq (tgt := 83) K d_E_takeLowestTerms_70 (by decide) (by have := vb.b01; show i32 (S5.B 67); omega) (fun hc => ?_) (fun hc => ?_)
  · have hc' : S5.B 67 = 0 := hc
    have hn : ¬ w < 0 := fun z => by rw [if_pos (hsg.2 z)] at bb; omega
    refine z_vret K hr hlk d_E_takeLowestTerms_83 ⟨_, rfl, rfl, ⟨U5, hV5, pm5, ?_, ?_, fr5⟩, nn5, lo5⟩
    · rw [u5t]; unfold fUp; rw [if_neg hn, ← hgd]
    · rw [u5b]; unfold fLo; rw [if_neg hn, ← hgd]
  · have hc' : ¬ S5.B 67 = 0 := hc
    have hn : w < 0 := by
      rcases Int.lt_or_le w 0 with z | z
      · exact z
      · rw [if_neg (fun y => by have := hsg.1 y; omega)] at bb; exact absurd bb hc'
    refine z_aload K d_E_takeLowestTerms_73 rfl ?_
    refine z_callV (ci := 1) (As := []) K (c_N_changeSign l G b0 h a S5 (k := 67) rfl vb) ca_E_101 im_N_changeSign se_N_changeSign rfl (by decide) (hx_N (by rfl)) rfl rfl (by decide) (Nat.le_of_ble_eq_true rfl) d_E_takeLowestTerms_75 (fun r h1 hp => ?_)
    obtain ⟨S6, rfl, rfl, k6, k6', w6⟩ := hp
    have vt6 := k6.nr vt (show 65 ≠ 67 by decide)
    refine z_aload K d_E_takeLowestTerms_78 rfl ?_
    refine z_callV (ci := 1) (As := []) K (c_N_changeSign l G b0 h a S6 (k := 65) rfl vt6) ca_E_101 im_N_changeSign se_N_changeSign rfl (by decide) (hx_N (by rfl)) rfl rfl (by decide) (Nat.le_of_ble_eq_true rfl) d_E_takeLowestTerms_80 (fun r h1 hp => ?_)
    obtain ⟨S7, rfl, rfl, k7, k7', w7⟩ := hp
    refine z_vret K hr hlk d_E_takeLowestTerms_83 ⟨_, rfl, rfl, ⟨_, (hV5.up k6 w6).up k7 w7, by rw [k7.2, k6.2]; exact pm5, ?_, ?_, fun j a1 a2 a3 a4 a5 a6 a7 a8 => ?_⟩, by rw [k7.2, k6.2]; exact nn5, by rw [k7.2, k6.2]; exact lo5⟩
    · rw [nu_self]; unfold fUp; rw [if_pos hn, ← hgd]
    · rw [nu_ne _ _ (by decide), nu_self]; unfold fLo; rw [if_pos hn, ← hgd]
    · rw [nu_ne _ _ a1, nu_ne _ _ a2]; exact fr5 j a1 a2 a3 a4 a5 a6 a7 a8
end E1
