section E2
variable {p : Program} {l : Launch} {e : Env} {R : Room} {s : State} {m : MethodId} {args : Array Value} {below : List Frame} {meth : Method} {c : Code} {Q : State → Prop} {b0 kc ks : Nat} {G : zG} {h : zH} {a : Nat} {cd : Int}
set_option maxHeartbeats 4000000 in
set_option maxRecDepth 100000 in
theorem v_E_isSingular (l : Launch) (G : zG) (b0 : Nat) (h : zH) (a : Nat) (S : xS) {U : Nat → Int} (hV : VX S U) {A : ecE} (l1 : A.1.natAbs ≤ 99999) (l2 : A.2.1.natAbs ≤ 99999) (l3 : A.2.2.1.natAbs ≤ 99999) (l4 : A.2.2.2.1.natAbs ≤ 99999) (l6 : A.2.2.2.2.natAbs ≤ 99999) : xMet l G b0 y_E_isSingular b_E_isSingular 11 (some .boolean) 4 122 h a [.ref (a + 60), .long (kI A.1), .long (kI A.2.1), .long (kI A.2.2.1), .long (kI A.2.2.2.1), .long (kI A.2.2.2.2)] S (fun r S' => (∃ b : Int, r = some (.int (jI b)) ∧ (b = 0 ∨ b = 1) ∧ (b = 1 ↔ dD (eb2 A) (eb4 A) (eb6 A) (eb8 A) = 0)) ∧ (∃ U', VX S' U' ∧ ∀ j : Nat, (j < 61 ∨ 73 < j) → j ≠ 5 → U' j = U j) ∧ S'.f = S.f) :=
  z_met (by decide) (Nat.le_of_ble_eq_true rfl) fun p e s m below meth c K hr hlk hnm => by
  have d2 : (eb2 A).natAbs < 10 ^ 11 := Nat.lt_of_le_of_lt (bd_add (bd_mul l1 l1) (bd_mul (show (4 : Int).natAbs ≤ 4 by decide) l2)) (by decide)
  have d4 : (eb4 A).natAbs < 10 ^ 11 := Nat.lt_of_le_of_lt (bd_add (bd_mul l1 l3) (bd_mul (show (2 : Int).natAbs ≤ 2 by decide) l4)) (by decide)
  have d6 : (eb6 A).natAbs < 10 ^ 11 := Nat.lt_of_le_of_lt (bd_add (bd_mul l3 l3) (bd_mul (show (4 : Int).natAbs ≤ 4 by decide) l6)) (by decide)
  have d8 : (eb8 A).natAbs < 10 ^ 16 := Nat.lt_of_le_of_lt (bd_sub (bd_add (bd_add (bd_sub (bd_mul (bd_mul l1 l1) l6) (bd_mul (bd_mul l1 l3) l4)) (bd_mul (bd_mul (show (4 : Int).natAbs ≤ 4 by decide) l2) l6)) (bd_mul (bd_mul l2 l3) l3)) (bd_mul l4 l4)) (by decide)
  refine z_aload_n K d_E_isSingular_0 rfl ?_
  refine zx_gE K fd_E_14 rfl d_E_isSingular_1 ?_
  refine z_lload_n K d_E_isSingular_4 rfl ?_
  refine z_lload_n K d_E_isSingular_5 rfl ?_
  refine z_callS (As := [.long (kI A.1), .long (kI A.2.1)]) K (c_Q_b2 l G b0 h a S) ca_E_131 sm_Q_b2 rfl rfl (by decide) (Nat.le_of_ble_eq_true rfl) d_E_isSingular_6 (fun r h1 hp => ?_)
  obtain ⟨Z, rfl, rfl, rfl⟩ := hp
  refine z_callV (ci := 1) (As := [.long (kI (eb2 A))]) K (c_N_become_J l G b0 h a S (k := 61) (v := (eb2 A)) (by rfl) (by omega)) ca_E_89 im_N_become_J se_N_become_J rfl (by decide) (hx_N (by rfl)) rfl rfl (by decide) (Nat.le_of_ble_eq_true rfl) d_E_isSingular_9 (fun r h1 hp => ?_)
  obtain ⟨S1, rfl, rfl, w1k, w1n, _, w1v⟩ := hp
  have hV1 := hV.up w1k w1v
  obtain ⟨U1, w1hU⟩ : ∃ W : Nat → Int, W = nu U 61 (eb2 A) := ⟨_, rfl⟩
  rw [← w1hU] at hV1
  have f1_61 : U1 61 = (eb2 A) := by rw [w1hU, nu_self]
  have g1 : ∀ j : Nat, (j < 61 ∨ 73 < j) → j ≠ 5 → U1 j = U j := fun j j1 j2 => (by rw [w1hU, nu_ne _ _ (by omega)] : U1 j = U j).trans ((fun j _ _ => rfl) j j1 j2)
  refine z_aload_n K d_E_isSingular_12 rfl ?_
  refine zx_gE K fd_E_20 rfl d_E_isSingular_13 ?_
  refine z_lload_n K d_E_isSingular_16 rfl ?_
  refine z_lload K d_E_isSingular_17 rfl ?_
  refine z_lload K d_E_isSingular_19 rfl ?_
  refine z_callS (As := [.long (kI A.1), .long (kI A.2.2.1), .long (kI A.2.2.2.1)]) K (c_Q_b4 l G b0 h a S1) ca_E_135 sm_Q_b4 rfl rfl (by decide) (Nat.le_of_ble_eq_true rfl) d_E_isSingular_21 (fun r h1 hp => ?_)
  obtain ⟨Z, rfl, rfl, rfl⟩ := hp
  refine z_callV (ci := 1) (As := [.long (kI (eb4 A))]) K (c_N_become_J l G b0 h a S1 (k := 63) (v := (eb4 A)) (by rfl) (by omega)) ca_E_89 im_N_become_J se_N_become_J rfl (by decide) (hx_N (by rfl)) rfl rfl (by decide) (Nat.le_of_ble_eq_true rfl) d_E_isSingular_24 (fun r h1 hp => ?_)
  obtain ⟨S2, rfl, rfl, w2k, w2n, _, w2v⟩ := hp
  have hV2 := hV1.up w2k w2v
  obtain ⟨U2, w2hU⟩ : ∃ W : Nat → Int, W = nu U1 63 (eb4 A) := ⟨_, rfl⟩
  rw [← w2hU] at hV2
  have f2_61 : U2 61 = (eb2 A) := (by rw [w2hU, nu_ne _ _ (by omega)] : U2 61 = U1 61).trans f1_61
  have f2_63 : U2 63 = (eb4 A) := by rw [w2hU, nu_self]
  have g2 : ∀ j : Nat, (j < 61 ∨ 73 < j) → j ≠ 5 → U2 j = U j := fun j j1 j2 => (by rw [w2hU, nu_ne _ _ (by omega)] : U2 j = U1 j).trans (g1 j j1 j2)
  refine z_aload_n K d_E_isSingular_27 rfl ?_
  refine zx_gE K fd_E_23 rfl d_E_isSingular_28 ?_
  refine z_lload K d_E_isSingular_31 rfl ?_
  refine z_lload K d_E_isSingular_33 rfl ?_
  refine z_callS (As := [.long (kI A.2.2.1), .long (kI A.2.2.2.2)]) K (c_Q_b6 l G b0 h a S2) ca_E_139 sm_Q_b6 rfl rfl (by decide) (Nat.le_of_ble_eq_true rfl) d_E_isSingular_35 (fun r h1 hp => ?_)
  obtain ⟨Z, rfl, rfl, rfl⟩ := hp
  refine z_callV (ci := 1) (As := [.long (kI (eb6 A))]) K (c_N_become_J l G b0 h a S2 (k := 65) (v := (eb6 A)) (by rfl) (by omega)) ca_E_89 im_N_become_J se_N_become_J rfl (by decide) (hx_N (by rfl)) rfl rfl (by decide) (Nat.le_of_ble_eq_true rfl) d_E_isSingular_38 (fun r h1 hp => ?_)
  obtain ⟨S3, rfl, rfl, w3k, w3n, _, w3v⟩ := hp
  have hV3 := hV2.up w3k w3v
  obtain ⟨U3, w3hU⟩ : ∃ W : Nat → Int, W = nu U2 65 (eb6 A) := ⟨_, rfl⟩
  rw [← w3hU] at hV3
  have f3_61 : U3 61 = (eb2 A) := (by rw [w3hU, nu_ne _ _ (by omega)] : U3 61 = U2 61).trans f2_61
  have f3_63 : U3 63 = (eb4 A) := (by rw [w3hU, nu_ne _ _ (by omega)] : U3 63 = U2 63).trans f2_63
  have f3_65 : U3 65 = (eb6 A) := by rw [w3hU, nu_self]
  have g3 : ∀ j : Nat, (j < 61 ∨ 73 < j) → j ≠ 5 → U3 j = U j := fun j j1 j2 => (by rw [w3hU, nu_ne _ _ (by omega)] : U3 j = U2 j).trans (g2 j j1 j2)
  refine z_aload_n K d_E_isSingular_41 rfl ?_
  refine zx_gE K fd_E_26 rfl d_E_isSingular_42 ?_
  refine z_lload_n K d_E_isSingular_45 rfl ?_
  refine z_lload_n K d_E_isSingular_46 rfl ?_
  refine z_lload K d_E_isSingular_47 rfl ?_
  refine z_lload K d_E_isSingular_49 rfl ?_
  refine z_lload K d_E_isSingular_51 rfl ?_
  refine z_callS (As := [.long (kI A.1), .long (kI A.2.1), .long (kI A.2.2.1), .long (kI A.2.2.2.1), .long (kI A.2.2.2.2)]) K (c_Q_b8 l G b0 h a S3) ca_E_142 sm_Q_b8 rfl rfl (by decide) (Nat.le_of_ble_eq_true rfl) d_E_isSingular_53 (fun r h1 hp => ?_)
  obtain ⟨Z, rfl, rfl, rfl⟩ := hp
  refine z_callV (ci := 1) (As := [.long (kI (eb8 A))]) K (c_N_become_J l G b0 h a S3 (k := 67) (v := (eb8 A)) (by rfl) (by omega)) ca_E_89 im_N_become_J se_N_become_J rfl (by decide) (hx_N (by rfl)) rfl rfl (by decide) (Nat.le_of_ble_eq_true rfl) d_E_isSingular_56 (fun r h1 hp => ?_)
  obtain ⟨S4, rfl, rfl, w4k, w4n, _, w4v⟩ := hp
  have hV4 := hV3.up w4k w4v
  obtain ⟨U4, w4hU⟩ : ∃ W : Nat → Int, W = nu U3 67 (eb8 A) := ⟨_, rfl⟩
  rw [← w4hU] at hV4
  have f4_61 : U4 61 = (eb2 A) := (by rw [w4hU, nu_ne _ _ (by omega)] : U4 61 = U3 61).trans f3_61
  have f4_63 : U4 63 = (eb4 A) := (by rw [w4hU, nu_ne _ _ (by omega)] : U4 63 = U3 63).trans f3_63
  have f4_65 : U4 65 = (eb6 A) := (by rw [w4hU, nu_ne _ _ (by omega)] : U4 65 = U3 65).trans f3_65
  have f4_67 : U4 67 = (eb8 A) := by rw [w4hU, nu_self]
  have g4 : ∀ j : Nat, (j < 61 ∨ 73 < j) → j ≠ 5 → U4 j = U j := fun j j1 j2 => (by rw [w4hU, nu_ne _ _ (by omega)] : U4 j = U3 j).trans (g3 j j1 j2)
  refine z_aload_n K d_E_isSingular_59 rfl ?_
  refine zx_gE K fd_E_42 rfl d_E_isSingular_60 ?_
  refine z_aload_n K d_E_isSingular_63 rfl ?_
  refine zx_gE K fd_E_20 rfl d_E_isSingular_64 ?_
  refine z_aload_n K d_E_isSingular_67 rfl ?_
  refine zx_gE K fd_E_23 rfl d_E_isSingular_68 ?_
  refine z_aload_n K d_E_isSingular_71 rfl ?_
  refine zx_gE K fd_E_29 rfl d_E_isSingular_72 ?_
  obtain ⟨w5, ex5⟩ : ∃ z : Int, z = (eb4 A) * (eb6 A) := ⟨_, rfl⟩
  have b5 : w5.natAbs < 10 ^ 22 := by rw [ex5]; have z := t10_mul d4 d6; exact z
  refine z_callV (ci := 4) (As := [.ref (a + 63), .ref (a + 65), .ref (a + 69)]) K (v_R_multiply l G b0 h a S4 hV4 (by rfl) (by rfl) (by rfl) (by rw [f4_63]; exact lt9_of10 (m := 2) d4 (by decide)) (by rw [f4_65]; exact lt9_of10 (m := 2) d6 (by decide)) (by decide) (by rw [f4_63, f4_65, ← ex5]; exact (lt9_of10 b5 (by decide)))) ca_E_104 im_R_multiply se_R_multiply rfl (by decide) (hx_R) rfl rfl (by decide) (Nat.le_of_ble_eq_true rfl) d_E_isSingular_75 (fun r h1 hp => ?_)
  obtain ⟨S5, rfl, rfl, hV5, ef5⟩ := hp
  rw [f4_63, f4_65, ← ex5] at hV5
  obtain ⟨U5, w5hU⟩ : ∃ W : Nat → Int, W = nu U4 69 w5 := ⟨_, rfl⟩
  rw [← w5hU] at hV5
  have f5_61 : U5 61 = (eb2 A) := (by rw [w5hU, nu_ne _ _ (by omega)] : U5 61 = U4 61).trans f4_61
  have f5_63 : U5 63 = (eb4 A) := (by rw [w5hU, nu_ne _ _ (by omega)] : U5 63 = U4 63).trans f4_63
  have f5_65 : U5 65 = (eb6 A) := (by rw [w5hU, nu_ne _ _ (by omega)] : U5 65 = U4 65).trans f4_65
  have f5_67 : U5 67 = (eb8 A) := (by rw [w5hU, nu_ne _ _ (by omega)] : U5 67 = U4 67).trans f4_67
  have f5_69 : U5 69 = w5 := by rw [w5hU, nu_self]
  have g5 : ∀ j : Nat, (j < 61 ∨ 73 < j) → j ≠ 5 → U5 j = U j := fun j j1 j2 => (by rw [w5hU, nu_ne _ _ (by omega)] : U5 j = U4 j).trans (g4 j j1 j2)
  refine z_aload_n K d_E_isSingular_78 rfl ?_
  refine zx_gE K fd_E_32 rfl d_E_isSingular_79 ?_
  refine z_ldc2 (v := kI 9) K d_E_isSingular_82 kc_E_146 ?_
  refine z_callV (ci := 1) (As := [.long (kI 9)]) K (c_N_become_J l G b0 h a S5 (k := 71) (v := 9) (by rfl) (by omega)) ca_E_89 im_N_become_J se_N_become_J rfl (by decide) (hx_N (by rfl)) rfl rfl (by decide) (Nat.le_of_ble_eq_true rfl) d_E_isSingular_85 (fun r h1 hp => ?_)
  obtain ⟨S6, rfl, rfl, w6k, w6n, _, w6v⟩ := hp
  have hV6 := hV5.up w6k w6v
  obtain ⟨U6, w6hU⟩ : ∃ W : Nat → Int, W = nu U5 71 9 := ⟨_, rfl⟩
  rw [← w6hU] at hV6
  have f6_61 : U6 61 = (eb2 A) := (by rw [w6hU, nu_ne _ _ (by omega)] : U6 61 = U5 61).trans f5_61
  have f6_63 : U6 63 = (eb4 A) := (by rw [w6hU, nu_ne _ _ (by omega)] : U6 63 = U5 63).trans f5_63
  have f6_65 : U6 65 = (eb6 A) := (by rw [w6hU, nu_ne _ _ (by omega)] : U6 65 = U5 65).trans f5_65
  have f6_67 : U6 67 = (eb8 A) := (by rw [w6hU, nu_ne _ _ (by omega)] : U6 67 = U5 67).trans f5_67
  have f6_69 : U6 69 = w5 := (by rw [w6hU, nu_ne _ _ (by omega)] : U6 69 = U5 69).trans f5_69
  have f6_71 : U6 71 = 9 := by rw [w6hU, nu_self]
  have g6 : ∀ j : Nat, (j < 61 ∨ 73 < j) → j ≠ 5 → U6 j = U j := fun j j1 j2 => (by rw [w6hU, nu_ne _ _ (by omega)] : U6 j = U5 j).trans (g5 j j1 j2)
  refine z_aload_n K d_E_isSingular_88 rfl ?_
  refine zx_gE K fd_E_42 rfl d_E_isSingular_89 ?_
  refine z_aload_n K d_E_isSingular_92 rfl ?_
  refine zx_gE K fd_E_29 rfl d_E_isSingular_93 ?_
  refine z_aload_n K d_E_isSingular_96 rfl ?_
  refine zx_gE K fd_E_32 rfl d_E_isSingular_97 ?_
  refine z_aload_n K d_E_isSingular_100 rfl ?_
  refine zx_gE K fd_E_29 rfl d_E_isSingular_101 ?_
  obtain ⟨w7, ex7⟩ : ∃ z : Int, z = w5 * 9 := ⟨_, rfl⟩
  have b7 : w7.natAbs < 10 ^ 23 := by rw [ex7]; have z := t10_mul b5 (show (9 : Int).natAbs < 10 ^ 1 by decide); exact z
  refine z_callV (ci := 4) (As := [.ref (a + 69), .ref (a + 71), .ref (a + 69)]) K (v_R_multiply l G b0 h a S6 hV6 (by rfl) (by rfl) (by rfl) (by rw [f6_69]; exact lt9_of10 (m := 3) b5 (by decide)) (by rw [f6_71]; exact lt9_of10 (m := 1) (show (9 : Int).natAbs < 10 ^ 1 by decide) (by decide)) (by decide) (by rw [f6_69, f6_71, ← ex7]; exact (lt9_of10 b7 (by decide)))) ca_E_104 im_R_multiply se_R_multiply rfl (by decide) (hx_R) rfl rfl (by decide) (Nat.le_of_ble_eq_true rfl) d_E_isSingular_104 (fun r h1 hp => ?_)
  obtain ⟨S7, rfl, rfl, hV7, ef7⟩ := hp
  rw [f6_69, f6_71, ← ex7] at hV7
  obtain ⟨U7, w7hU⟩ : ∃ W : Nat → Int, W = nu U6 69 w7 := ⟨_, rfl⟩
  rw [← w7hU] at hV7
  have f7_61 : U7 61 = (eb2 A) := (by rw [w7hU, nu_ne _ _ (by omega)] : U7 61 = U6 61).trans f6_61
  have f7_63 : U7 63 = (eb4 A) := (by rw [w7hU, nu_ne _ _ (by omega)] : U7 63 = U6 63).trans f6_63
  have f7_65 : U7 65 = (eb6 A) := (by rw [w7hU, nu_ne _ _ (by omega)] : U7 65 = U6 65).trans f6_65
  have f7_67 : U7 67 = (eb8 A) := (by rw [w7hU, nu_ne _ _ (by omega)] : U7 67 = U6 67).trans f6_67
  have f7_71 : U7 71 = 9 := (by rw [w7hU, nu_ne _ _ (by omega)] : U7 71 = U6 71).trans f6_71
  have f7_69 : U7 69 = w7 := by rw [w7hU, nu_self]
  have g7 : ∀ j : Nat, (j < 61 ∨ 73 < j) → j ≠ 5 → U7 j = U j := fun j j1 j2 => (by rw [w7hU, nu_ne _ _ (by omega)] : U7 j = U6 j).trans (g6 j j1 j2)
  refine z_aload_n K d_E_isSingular_107 rfl ?_
  refine zx_gE K fd_E_42 rfl d_E_isSingular_108 ?_
  refine z_aload_n K d_E_isSingular_111 rfl ?_
  refine zx_gE K fd_E_14 rfl d_E_isSingular_112 ?_
  refine z_aload_n K d_E_isSingular_115 rfl ?_
  refine zx_gE K fd_E_26 rfl d_E_isSingular_116 ?_
  refine z_aload_n K d_E_isSingular_119 rfl ?_
  refine zx_gE K fd_E_29 rfl d_E_isSingular_120 ?_
  have b8p : ((eb2 A) * (eb8 A)).natAbs < 10 ^ 27 := by have z := t10_mul d2 d8; exact z
  obtain ⟨w8, ex8⟩ : ∃ z : Int, z = w7 - (eb2 A) * (eb8 A) := ⟨_, rfl⟩
  have b8 : w8.natAbs < 10 ^ 28 := by rw [ex8]; have z := t10_sub b7 b8p; exact z
  refine z_callV (ci := 4) (As := [.ref (a + 61), .ref (a + 67), .ref (a + 69)]) K (v_R_subtractProduct l G b0 h a S7 hV7 (by rfl) (by rfl) (by rfl) (by omega) (by rw [f7_61]; exact lt9_of10 (m := 2) d2 (by decide)) (by rw [f7_67]; exact lt9_of10 (m := 2) d8 (by decide)) (by decide) (by rw [f7_69]; exact (lt9_of10 b7 (by decide))) (by rw [f7_61, f7_67]; exact (lt9_of10 b8p (by decide))) (by rw [f7_69, f7_61, f7_67, ← ex8]; exact (lt9_of10 b8 (by decide)))) ca_E_148 im_R_subtractProduct se_R_subtractProduct rfl (by decide) (hx_R) rfl rfl (by decide) (Nat.le_of_ble_eq_true rfl) d_E_isSingular_123 (fun r h1 hp => ?_)
  obtain ⟨S8, rfl, rfl, ⟨U8, hV8, w8u, w8w⟩, ef8⟩ := hp
  rw [f7_69, f7_61, f7_67, ← ex8] at w8u
  have f8_61 : U8 61 = (eb2 A) := (w8w _ (by omega) (by omega)).trans f7_61
  have f8_63 : U8 63 = (eb4 A) := (w8w _ (by omega) (by omega)).trans f7_63
  have f8_65 : U8 65 = (eb6 A) := (w8w _ (by omega) (by omega)).trans f7_65
  have f8_67 : U8 67 = (eb8 A) := (w8w _ (by omega) (by omega)).trans f7_67
  have f8_71 : U8 71 = 9 := (w8w _ (by omega) (by omega)).trans f7_71
  have g8 : ∀ j : Nat, (j < 61 ∨ 73 < j) → j ≠ 5 → U8 j = U j := fun j j1 j2 => (w8w j (by omega) j2).trans (g7 j j1 j2)
  refine z_aload_n K d_E_isSingular_126 rfl ?_
  refine zx_gE K fd_E_42 rfl d_E_isSingular_127 ?_
  refine z_aload_n K d_E_isSingular_130 rfl ?_
  refine zx_gE K fd_E_29 rfl d_E_isSingular_131 ?_
  refine z_aload_n K d_E_isSingular_134 rfl ?_
  refine zx_gE K fd_E_14 rfl d_E_isSingular_135 ?_
  refine z_aload_n K d_E_isSingular_138 rfl ?_
  refine zx_gE K fd_E_29 rfl d_E_isSingular_139 ?_
  obtain ⟨w9, ex9⟩ : ∃ z : Int, z = w8 * (eb2 A) := ⟨_, rfl⟩
  have b9 : w9.natAbs < 10 ^ 39 := by rw [ex9]; have z := t10_mul b8 d2; exact z
  refine z_callV (ci := 4) (As := [.ref (a + 69), .ref (a + 61), .ref (a + 69)]) K (v_R_multiply l G b0 h a S8 hV8 (by rfl) (by rfl) (by rfl) (by rw [w8u]; exact lt9_of10 (m := 4) b8 (by decide)) (by rw [f8_61]; exact lt9_of10 (m := 2) d2 (by decide)) (by decide) (by rw [w8u, f8_61, ← ex9]; exact (lt9_of10 b9 (by decide)))) ca_E_104 im_R_multiply se_R_multiply rfl (by decide) (hx_R) rfl rfl (by decide) (Nat.le_of_ble_eq_true rfl) d_E_isSingular_142 (fun r h1 hp => ?_)
  obtain ⟨S9, rfl, rfl, hV9, ef9⟩ := hp
  rw [w8u, f8_61, ← ex9] at hV9
  obtain ⟨U9, w9hU⟩ : ∃ W : Nat → Int, W = nu U8 69 w9 := ⟨_, rfl⟩
  rw [← w9hU] at hV9
  have f9_61 : U9 61 = (eb2 A) := (by rw [w9hU, nu_ne _ _ (by omega)] : U9 61 = U8 61).trans f8_61
  have f9_63 : U9 63 = (eb4 A) := (by rw [w9hU, nu_ne _ _ (by omega)] : U9 63 = U8 63).trans f8_63
  have f9_65 : U9 65 = (eb6 A) := (by rw [w9hU, nu_ne _ _ (by omega)] : U9 65 = U8 65).trans f8_65
  have f9_67 : U9 67 = (eb8 A) := (by rw [w9hU, nu_ne _ _ (by omega)] : U9 67 = U8 67).trans f8_67
  have f9_71 : U9 71 = 9 := (by rw [w9hU, nu_ne _ _ (by omega)] : U9 71 = U8 71).trans f8_71
  have f9_69 : U9 69 = w9 := by rw [w9hU, nu_self]
  have g9 : ∀ j : Nat, (j < 61 ∨ 73 < j) → j ≠ 5 → U9 j = U j := fun j j1 j2 => (by rw [w9hU, nu_ne _ _ (by omega)] : U9 j = U8 j).trans (g8 j j1 j2)
  refine z_aload_n K d_E_isSingular_145 rfl ?_
  refine zx_gE K fd_E_42 rfl d_E_isSingular_146 ?_
  refine z_aload_n K d_E_isSingular_149 rfl ?_
  refine zx_gE K fd_E_20 rfl d_E_isSingular_150 ?_
  refine z_aload_n K d_E_isSingular_153 rfl ?_
  refine zx_gE K fd_E_20 rfl d_E_isSingular_154 ?_
  refine z_aload_n K d_E_isSingular_157 rfl ?_
  refine zx_gE K fd_E_32 rfl d_E_isSingular_158 ?_
  obtain ⟨w10, ex10⟩ : ∃ z : Int, z = (eb4 A) * (eb4 A) := ⟨_, rfl⟩
  have b10 : w10.natAbs < 10 ^ 22 := by rw [ex10]; have z := t10_mul d4 d4; exact z
  refine z_callV (ci := 4) (As := [.ref (a + 63), .ref (a + 63), .ref (a + 71)]) K (v_R_multiply l G b0 h a S9 hV9 (by rfl) (by rfl) (by rfl) (by rw [f9_63]; exact lt9_of10 (m := 2) d4 (by decide)) (by rw [f9_63]; exact lt9_of10 (m := 2) d4 (by decide)) (by decide) (by rw [f9_63, ← ex10]; exact (lt9_of10 b10 (by decide)))) ca_E_104 im_R_multiply se_R_multiply rfl (by decide) (hx_R) rfl rfl (by decide) (Nat.le_of_ble_eq_true rfl) d_E_isSingular_161 (fun r h1 hp => ?_)
  obtain ⟨S10, rfl, rfl, hV10, ef10⟩ := hp
  rw [f9_63, ← ex10] at hV10
  obtain ⟨U10, w10hU⟩ : ∃ W : Nat → Int, W = nu U9 71 w10 := ⟨_, rfl⟩
  rw [← w10hU] at hV10
  have f10_61 : U10 61 = (eb2 A) := (by rw [w10hU, nu_ne _ _ (by omega)] : U10 61 = U9 61).trans f9_61
  have f10_63 : U10 63 = (eb4 A) := (by rw [w10hU, nu_ne _ _ (by omega)] : U10 63 = U9 63).trans f9_63
  have f10_65 : U10 65 = (eb6 A) := (by rw [w10hU, nu_ne _ _ (by omega)] : U10 65 = U9 65).trans f9_65
  have f10_67 : U10 67 = (eb8 A) := (by rw [w10hU, nu_ne _ _ (by omega)] : U10 67 = U9 67).trans f9_67
  have f10_69 : U10 69 = w9 := (by rw [w10hU, nu_ne _ _ (by omega)] : U10 69 = U9 69).trans f9_69
  have f10_71 : U10 71 = w10 := by rw [w10hU, nu_self]
  have g10 : ∀ j : Nat, (j < 61 ∨ 73 < j) → j ≠ 5 → U10 j = U j := fun j j1 j2 => (by rw [w10hU, nu_ne _ _ (by omega)] : U10 j = U9 j).trans (g9 j j1 j2)
  refine z_aload_n K d_E_isSingular_164 rfl ?_
  refine zx_gE K fd_E_42 rfl d_E_isSingular_165 ?_
  refine z_aload_n K d_E_isSingular_168 rfl ?_
  refine zx_gE K fd_E_32 rfl d_E_isSingular_169 ?_
  refine z_aload_n K d_E_isSingular_172 rfl ?_
  refine zx_gE K fd_E_20 rfl d_E_isSingular_173 ?_
  refine z_aload_n K d_E_isSingular_176 rfl ?_
  refine zx_gE K fd_E_32 rfl d_E_isSingular_177 ?_
  obtain ⟨w11, ex11⟩ : ∃ z : Int, z = w10 * (eb4 A) := ⟨_, rfl⟩
  have b11 : w11.natAbs < 10 ^ 33 := by rw [ex11]; have z := t10_mul b10 d4; exact z
  refine z_callV (ci := 4) (As := [.ref (a + 71), .ref (a + 63), .ref (a + 71)]) K (v_R_multiply l G b0 h a S10 hV10 (by rfl) (by rfl) (by rfl) (by rw [f10_71]; exact lt9_of10 (m := 3) b10 (by decide)) (by rw [f10_63]; exact lt9_of10 (m := 2) d4 (by decide)) (by decide) (by rw [f10_71, f10_63, ← ex11]; exact (lt9_of10 b11 (by decide)))) ca_E_104 im_R_multiply se_R_multiply rfl (by decide) (hx_R) rfl rfl (by decide) (Nat.le_of_ble_eq_true rfl) d_E_isSingular_180 (fun r h1 hp => ?_)
  obtain ⟨S11, rfl, rfl, hV11, ef11⟩ := hp
  rw [f10_71, f10_63, ← ex11] at hV11
  obtain ⟨U11, w11hU⟩ : ∃ W : Nat → Int, W = nu U10 71 w11 := ⟨_, rfl⟩
  rw [← w11hU] at hV11
  have f11_61 : U11 61 = (eb2 A) := (by rw [w11hU, nu_ne _ _ (by omega)] : U11 61 = U10 61).trans f10_61
  have f11_63 : U11 63 = (eb4 A) := (by rw [w11hU, nu_ne _ _ (by omega)] : U11 63 = U10 63).trans f10_63
  have f11_65 : U11 65 = (eb6 A) := (by rw [w11hU, nu_ne _ _ (by omega)] : U11 65 = U10 65).trans f10_65
  have f11_67 : U11 67 = (eb8 A) := (by rw [w11hU, nu_ne _ _ (by omega)] : U11 67 = U10 67).trans f10_67
  have f11_69 : U11 69 = w9 := (by rw [w11hU, nu_ne _ _ (by omega)] : U11 69 = U10 69).trans f10_69
  have f11_71 : U11 71 = w11 := by rw [w11hU, nu_self]
  have g11 : ∀ j : Nat, (j < 61 ∨ 73 < j) → j ≠ 5 → U11 j = U j := fun j j1 j2 => (by rw [w11hU, nu_ne _ _ (by omega)] : U11 j = U10 j).trans (g10 j j1 j2)
  refine z_aload_n K d_E_isSingular_183 rfl ?_
  refine zx_gE K fd_E_35 rfl d_E_isSingular_184 ?_
  refine z_ldc2 (v := kI 8) K d_E_isSingular_187 kc_E_151 ?_
  refine z_callV (ci := 1) (As := [.long (kI 8)]) K (c_N_become_J l G b0 h a S11 (k := 73) (v := 8) (by rfl) (by omega)) ca_E_89 im_N_become_J se_N_become_J rfl (by decide) (hx_N (by rfl)) rfl rfl (by decide) (Nat.le_of_ble_eq_true rfl) d_E_isSingular_190 (fun r h1 hp => ?_)
  obtain ⟨S12, rfl, rfl, w12k, w12n, _, w12v⟩ := hp
  have hV12 := hV11.up w12k w12v
  obtain ⟨U12, w12hU⟩ : ∃ W : Nat → Int, W = nu U11 73 8 := ⟨_, rfl⟩
  rw [← w12hU] at hV12
  have f12_61 : U12 61 = (eb2 A) := (by rw [w12hU, nu_ne _ _ (by omega)] : U12 61 = U11 61).trans f11_61
  have f12_63 : U12 63 = (eb4 A) := (by rw [w12hU, nu_ne _ _ (by omega)] : U12 63 = U11 63).trans f11_63
  have f12_65 : U12 65 = (eb6 A) := (by rw [w12hU, nu_ne _ _ (by omega)] : U12 65 = U11 65).trans f11_65
  have f12_67 : U12 67 = (eb8 A) := (by rw [w12hU, nu_ne _ _ (by omega)] : U12 67 = U11 67).trans f11_67
  have f12_69 : U12 69 = w9 := (by rw [w12hU, nu_ne _ _ (by omega)] : U12 69 = U11 69).trans f11_69
  have f12_71 : U12 71 = w11 := (by rw [w12hU, nu_ne _ _ (by omega)] : U12 71 = U11 71).trans f11_71
  have f12_73 : U12 73 = 8 := by rw [w12hU, nu_self]
  have g12 : ∀ j : Nat, (j < 61 ∨ 73 < j) → j ≠ 5 → U12 j = U j := fun j j1 j2 => (by rw [w12hU, nu_ne _ _ (by omega)] : U12 j = U11 j).trans (g11 j j1 j2)
  refine z_aload_n K d_E_isSingular_193 rfl ?_
  refine zx_gE K fd_E_42 rfl d_E_isSingular_194 ?_
  refine z_aload_n K d_E_isSingular_197 rfl ?_
  refine zx_gE K fd_E_32 rfl d_E_isSingular_198 ?_
  refine z_aload_n K d_E_isSingular_201 rfl ?_
  refine zx_gE K fd_E_35 rfl d_E_isSingular_202 ?_
  refine z_aload_n K d_E_isSingular_205 rfl ?_
  refine zx_gE K fd_E_29 rfl d_E_isSingular_206 ?_
  have b13p : (w11 * 8).natAbs < 10 ^ 34 := by have z := t10_mul b11 (show (8 : Int).natAbs < 10 ^ 1 by decide); exact z
  obtain ⟨w13, ex13⟩ : ∃ z : Int, z = w9 - w11 * 8 := ⟨_, rfl⟩
  have b13 : w13.natAbs < 10 ^ 40 := by rw [ex13]; have z := t10_sub b9 b13p; exact z
  refine z_callV (ci := 4) (As := [.ref (a + 71), .ref (a + 73), .ref (a + 69)]) K (v_R_subtractProduct l G b0 h a S12 hV12 (by rfl) (by rfl) (by rfl) (by omega) (by rw [f12_71]; exact lt9_of10 (m := 4) b11 (by decide)) (by rw [f12_73]; exact lt9_of10 (m := 1) (show (8 : Int).natAbs < 10 ^ 1 by decide) (by decide)) (by decide) (by rw [f12_69]; exact (lt9_of10 b9 (by decide))) (by rw [f12_71, f12_73]; exact (lt9_of10 b13p (by decide))) (by rw [f12_69, f12_71, f12_73, ← ex13]; exact (lt9_of10 b13 (by decide)))) ca_E_148 im_R_subtractProduct se_R_subtractProduct rfl (by decide) (hx_R) rfl rfl (by decide) (Nat.le_of_ble_eq_true rfl) d_E_isSingular_209 (fun r h1 hp => ?_)
  obtain ⟨S13, rfl, rfl, ⟨U13, hV13, w13u, w13w⟩, ef13⟩ := hp
  rw [f12_69, f12_71, f12_73, ← ex13] at w13u
  have f13_61 : U13 61 = (eb2 A) := (w13w _ (by omega) (by omega)).trans f12_61
  have f13_63 : U13 63 = (eb4 A) := (w13w _ (by omega) (by omega)).trans f12_63
  have f13_65 : U13 65 = (eb6 A) := (w13w _ (by omega) (by omega)).trans f12_65
  have f13_67 : U13 67 = (eb8 A) := (w13w _ (by omega) (by omega)).trans f12_67
  have f13_71 : U13 71 = w11 := (w13w _ (by omega) (by omega)).trans f12_71
  have f13_73 : U13 73 = 8 := (w13w _ (by omega) (by omega)).trans f12_73
  have g13 : ∀ j : Nat, (j < 61 ∨ 73 < j) → j ≠ 5 → U13 j = U j := fun j j1 j2 => (w13w j (by omega) j2).trans (g12 j j1 j2)
  refine z_aload_n K d_E_isSingular_212 rfl ?_
  refine zx_gE K fd_E_42 rfl d_E_isSingular_213 ?_
  refine z_aload_n K d_E_isSingular_216 rfl ?_
  refine zx_gE K fd_E_23 rfl d_E_isSingular_217 ?_
  refine z_aload_n K d_E_isSingular_220 rfl ?_
  refine zx_gE K fd_E_23 rfl d_E_isSingular_221 ?_
  refine z_aload_n K d_E_isSingular_224 rfl ?_
  refine zx_gE K fd_E_32 rfl d_E_isSingular_225 ?_
  obtain ⟨w14, ex14⟩ : ∃ z : Int, z = (eb6 A) * (eb6 A) := ⟨_, rfl⟩
  have b14 : w14.natAbs < 10 ^ 22 := by rw [ex14]; have z := t10_mul d6 d6; exact z
  refine z_callV (ci := 4) (As := [.ref (a + 65), .ref (a + 65), .ref (a + 71)]) K (v_R_multiply l G b0 h a S13 hV13 (by rfl) (by rfl) (by rfl) (by rw [f13_65]; exact lt9_of10 (m := 2) d6 (by decide)) (by rw [f13_65]; exact lt9_of10 (m := 2) d6 (by decide)) (by decide) (by rw [f13_65, ← ex14]; exact (lt9_of10 b14 (by decide)))) ca_E_104 im_R_multiply se_R_multiply rfl (by decide) (hx_R) rfl rfl (by decide) (Nat.le_of_ble_eq_true rfl) d_E_isSingular_228 (fun r h1 hp => ?_)
  obtain ⟨S14, rfl, rfl, hV14, ef14⟩ := hp
  rw [f13_65, ← ex14] at hV14
  obtain ⟨U14, w14hU⟩ : ∃ W : Nat → Int, W = nu U13 71 w14 := ⟨_, rfl⟩
  rw [← w14hU] at hV14
  have f14_61 : U14 61 = (eb2 A) := (by rw [w14hU, nu_ne _ _ (by omega)] : U14 61 = U13 61).trans f13_61
  have f14_63 : U14 63 = (eb4 A) := (by rw [w14hU, nu_ne _ _ (by omega)] : U14 63 = U13 63).trans f13_63
  have f14_65 : U14 65 = (eb6 A) := (by rw [w14hU, nu_ne _ _ (by omega)] : U14 65 = U13 65).trans f13_65
  have f14_67 : U14 67 = (eb8 A) := (by rw [w14hU, nu_ne _ _ (by omega)] : U14 67 = U13 67).trans f13_67
  have f14_73 : U14 73 = 8 := (by rw [w14hU, nu_ne _ _ (by omega)] : U14 73 = U13 73).trans f13_73
  have f14_69 : U14 69 = w13 := (by rw [w14hU, nu_ne _ _ (by omega)] : U14 69 = U13 69).trans w13u
  have f14_71 : U14 71 = w14 := by rw [w14hU, nu_self]
  have g14 : ∀ j : Nat, (j < 61 ∨ 73 < j) → j ≠ 5 → U14 j = U j := fun j j1 j2 => (by rw [w14hU, nu_ne _ _ (by omega)] : U14 j = U13 j).trans (g13 j j1 j2)
  refine z_aload_n K d_E_isSingular_231 rfl ?_
  refine zx_gE K fd_E_35 rfl d_E_isSingular_232 ?_
  refine z_ldc2 (v := kI 27) K d_E_isSingular_235 kc_E_153 ?_
  refine z_callV (ci := 1) (As := [.long (kI 27)]) K (c_N_become_J l G b0 h a S14 (k := 73) (v := 27) (by rfl) (by omega)) ca_E_89 im_N_become_J se_N_become_J rfl (by decide) (hx_N (by rfl)) rfl rfl (by decide) (Nat.le_of_ble_eq_true rfl) d_E_isSingular_238 (fun r h1 hp => ?_)
  obtain ⟨S15, rfl, rfl, w15k, w15n, _, w15v⟩ := hp
  have hV15 := hV14.up w15k w15v
  obtain ⟨U15, w15hU⟩ : ∃ W : Nat → Int, W = nu U14 73 27 := ⟨_, rfl⟩
  rw [← w15hU] at hV15
  have f15_61 : U15 61 = (eb2 A) := (by rw [w15hU, nu_ne _ _ (by omega)] : U15 61 = U14 61).trans f14_61
  have f15_63 : U15 63 = (eb4 A) := (by rw [w15hU, nu_ne _ _ (by omega)] : U15 63 = U14 63).trans f14_63
  have f15_65 : U15 65 = (eb6 A) := (by rw [w15hU, nu_ne _ _ (by omega)] : U15 65 = U14 65).trans f14_65
  have f15_67 : U15 67 = (eb8 A) := (by rw [w15hU, nu_ne _ _ (by omega)] : U15 67 = U14 67).trans f14_67
  have f15_69 : U15 69 = w13 := (by rw [w15hU, nu_ne _ _ (by omega)] : U15 69 = U14 69).trans f14_69
  have f15_71 : U15 71 = w14 := (by rw [w15hU, nu_ne _ _ (by omega)] : U15 71 = U14 71).trans f14_71
  have f15_73 : U15 73 = 27 := by rw [w15hU, nu_self]
  have g15 : ∀ j : Nat, (j < 61 ∨ 73 < j) → j ≠ 5 → U15 j = U j := fun j j1 j2 => (by rw [w15hU, nu_ne _ _ (by omega)] : U15 j = U14 j).trans (g14 j j1 j2)
  refine z_aload_n K d_E_isSingular_241 rfl ?_
  refine zx_gE K fd_E_42 rfl d_E_isSingular_242 ?_
  refine z_aload_n K d_E_isSingular_245 rfl ?_
  refine zx_gE K fd_E_32 rfl d_E_isSingular_246 ?_
  refine z_aload_n K d_E_isSingular_249 rfl ?_
  refine zx_gE K fd_E_35 rfl d_E_isSingular_250 ?_
  refine z_aload_n K d_E_isSingular_253 rfl ?_
  refine zx_gE K fd_E_29 rfl d_E_isSingular_254 ?_
  have b16p : (w14 * 27).natAbs < 10 ^ 24 := by have z := t10_mul b14 (show (27 : Int).natAbs < 10 ^ 2 by decide); exact z
  obtain ⟨w16, ex16⟩ : ∃ z : Int, z = w13 - w14 * 27 := ⟨_, rfl⟩
  have b16 : w16.natAbs < 10 ^ 41 := by rw [ex16]; have z := t10_sub b13 b16p; exact z
  refine z_callV (ci := 4) (As := [.ref (a + 71), .ref (a + 73), .ref (a + 69)]) K (v_R_subtractProduct l G b0 h a S15 hV15 (by rfl) (by rfl) (by rfl) (by omega) (by rw [f15_71]; exact lt9_of10 (m := 3) b14 (by decide)) (by rw [f15_73]; exact lt9_of10 (m := 1) (show (27 : Int).natAbs < 10 ^ 2 by decide) (by decide)) (by decide) (by rw [f15_69]; exact (lt9_of10 b13 (by decide))) (by rw [f15_71, f15_73]; exact (lt9_of10 b16p (by decide))) (by rw [f15_69, f15_71, f15_73, ← ex16]; exact (lt9_of10 b16 (by decide)))) ca_E_148 im_R_subtractProduct se_R_subtractProduct rfl (by decide) (hx_R) rfl rfl (by decide) (Nat.le_of_ble_eq_true rfl) d_E_isSingular_257 (fun r h1 hp => ?_)
  obtain ⟨S16, rfl, rfl, ⟨U16, hV16, w16u, w16w⟩, ef16⟩ := hp
  rw [f15_69, f15_71, f15_73, ← ex16] at w16u
  have f16_61 : U16 61 = (eb2 A) := (w16w _ (by omega) (by omega)).trans f15_61
  have f16_63 : U16 63 = (eb4 A) := (w16w _ (by omega) (by omega)).trans f15_63
  have f16_65 : U16 65 = (eb6 A) := (w16w _ (by omega) (by omega)).trans f15_65
  have f16_67 : U16 67 = (eb8 A) := (w16w _ (by omega) (by omega)).trans f15_67
  have f16_71 : U16 71 = w14 := (w16w _ (by omega) (by omega)).trans f15_71
  have f16_73 : U16 73 = 27 := (w16w _ (by omega) (by omega)).trans f15_73
  have g16 : ∀ j : Nat, (j < 61 ∨ 73 < j) → j ≠ 5 → U16 j = U j := fun j j1 j2 => (w16w j (by omega) j2).trans (g15 j j1 j2)
  obtain ⟨n69, v69⟩ := hV16 69 rfl
  rw [w16u] at v69
  refine z_aload_n K d_E_isSingular_260 rfl ?_
  refine zx_gE K fd_E_29 rfl d_E_isSingular_261 ?_
  refine z_callV (ci := 1) (As := []) K (c_N_isZero l G b0 h a S16 (k := 69) rfl v69) ca_E_155 im_N_isZero se_N_isZero rfl (by decide) (hx_N (by rfl)) rfl rfl (by decide) (Nat.le_of_ble_eq_true rfl) d_E_isSingular_264 (fun r h1 hp => ?_)
  obtain ⟨S99, rfl, rfl, b9, rfl, z1, z2⟩ := hp
  refine z_zret K hr hlk d_E_isSingular_267 (z01n z1) ⟨_, rfl, ⟨b9, rfl, z1, z2.trans ?_⟩, ⟨_, hV16, g16⟩, (ef16.trans (w15k.2.trans (ef14.trans (ef13.trans (w12k.2.trans (ef11.trans (ef10.trans (ef9.trans (ef8.trans (ef7.trans (w6k.2.trans (ef5.trans (w4k.2.trans (w3k.2.trans (w2k.2.trans w1k.2)))))))))))))))⟩
  have e1 : w16 = dD (eb2 A) (eb4 A) (eb6 A) (eb8 A) := by
    generalize eb2 A = q2 at *
    generalize eb4 A = q4 at *
    generalize eb6 A = q6 at *
    generalize eb8 A = q8 at *
    subst ex16 ex14 ex13 ex11 ex10 ex9 ex8 ex7 ex5; unfold dD; grind
  rw [e1]
set_option maxHeartbeats 4000000 in
set_option maxRecDepth 100000 in
theorem v_E_read (l : Launch) (G : zG) (b0 : Nat) (h : zH) (a : Nat) (S : xS) {U : Nat → Int} (hV : VX S U) (hpm : pm S.f) {A : ecE} (eq : EQ U A) (hA : ecOk A) {oo : Nat} (ho : isP oo = true) {u1 w1 u2 w2 : Int} (i1 : i64 u1) (i2 : i64 w1) (i3 : i64 u2) (i4 : i64 w2) (n1 : w1 ≠ 0) (n2 : w2 ≠ 0) : xMet l G b0 y_E_read b_E_read 10 (some .boolean) 6 171 h a [.ref (a + 60), .long (kI u1), .long (kI w1), .long (kI u2), .long (kI w2), .ref (a + oo)] S (fun r S' => ∃ b : Int, r = some (.int (jI b)) ∧ ∃ U', VX S' U' ∧ pm S'.f ∧ (∀ j : Nat, (j < 61 ∨ 73 < j) → j ≠ 5 → j ≠ 8 → j ≠ 12 → j ≠ 14 → j ≠ 16 → j ≠ oo + 1 → j ≠ oo + 3 → j ≠ oo + 5 → j ≠ oo + 7 → j ≠ oo + 9 → U' j = U j) ∧ (∀ j : Nat, j ≠ oo → S'.f.nn j = S.f.nn j) ∧ ((b = 0 ∧ ¬ pRight A (fUp u1 w1) (fLo u1 w1) (fUp u2 w2) (fLo u2 w2) = pLeft A (fUp u1 w1) (fLo u1 w1) (fUp u2 w2) (fLo u2 w2) ∧ S'.f.nn oo = S.f.nn oo ∧ (∀ i : Nat, i < 10 → U' (oo + i) = U (oo + i))) ∨ (b = 1 ∧ pRight A (fUp u1 w1) (fLo u1 w1) (fUp u2 w2) (fLo u2 w2) = pLeft A (fUp u1 w1) (fLo u1 w1) (fUp u2 w2) (fLo u2 w2) ∧ PT S' U' oo (some (fUp u1 w1, fUp u2 w2, (fLo u2 w2).tdiv (fLo u1 w1)))))) :=
  z_met (by decide) (Nat.le_of_ble_eq_true rfl) fun p e s m below meth c K hr hlk hnm => by
  have hN_oo := (isP_lt ho).2.2.2
  have hR_oo := nR_P ho
  have o75 := isP_75 ho
  obtain ⟨_, q1, _, b1, b2⟩ := fr_low (a := u1) n1
  obtain ⟨_, q2, _, b3, b4⟩ := fr_low (a := u2) n2
  have t1 : (fUp u1 w1).natAbs < 10 ^ 19 := Nat.lt_of_le_of_lt (show _ ≤ 9223372036854775808 by omega) (by decide)
  have t2 : (fLo u1 w1).natAbs < 10 ^ 19 := Nat.lt_of_le_of_lt (show _ ≤ 9223372036854775808 by omega) (by decide)
  have t3 : (fUp u2 w2).natAbs < 10 ^ 19 := Nat.lt_of_le_of_lt (show _ ≤ 9223372036854775808 by omega) (by decide)
  have t4 : (fLo u2 w2).natAbs < 10 ^ 19 := Nat.lt_of_le_of_lt (show _ ≤ 9223372036854775808 by omega) (by decide)
  have c1 : lt9 (fUp u1 w1) 30 := lt9_of10 t1 (by decide)
  have c2 : lt9 (fLo u1 w1) 30 := lt9_of10 t2 (by decide)
  have c3 : lt9 (fUp u2 w2) 30 := lt9_of10 t3 (by decide)
  have c4 : lt9 (fLo u2 w2) 30 := lt9_of10 t4 (by decide)
  refine z_aload_n K d_E_read_0 rfl ?_
  refine z_lload_n K d_E_read_1 rfl ?_
  refine z_lload_n K d_E_read_2 rfl ?_
  refine z_aload_n K d_E_read_3 rfl ?_
  refine zx_gE K fd_E_14 rfl d_E_read_4 ?_
  refine z_aload_n K d_E_read_7 rfl ?_
  refine zx_gE K fd_E_20 rfl d_E_read_8 ?_
  refine z_callV (ci := 6) (As := [.long (kI u1), .long (kI w1), .ref (a + 61), .ref (a + 63)]) K (v_E_takeLowestTerms61 l G b0 h a S hV hpm i1 i2 n1) ca_E_50 im_E_takeLowestTerms se_E_takeLowestTerms rfl (by decide) (hx_E) rfl rfl (by decide) (Nat.le_of_ble_eq_true rfl) d_E_read_11 (fun r h1 hp => ?_)
  obtain ⟨S1, rfl, rfl, ⟨U1, hV1, pm1, x1, x2, fr1⟩, nn1, lo1⟩ := hp
  refine z_aload_n K d_E_read_14 rfl ?_
  refine z_lload K d_E_read_15 rfl ?_
  refine z_lload K d_E_read_17 rfl ?_
  refine z_aload_n K d_E_read_19 rfl ?_
  refine zx_gE K fd_E_23 rfl d_E_read_20 ?_
  refine z_aload_n K d_E_read_23 rfl ?_
  refine zx_gE K fd_E_26 rfl d_E_read_24 ?_
  refine z_callV (ci := 6) (As := [.long (kI u2), .long (kI w2), .ref (a + 65), .ref (a + 67)]) K (v_E_takeLowestTerms65 l G b0 h a S1 hV1 pm1 i3 i4 n2) ca_E_50 im_E_takeLowestTerms se_E_takeLowestTerms rfl (by decide) (hx_E) rfl rfl (by decide) (Nat.le_of_ble_eq_true rfl) d_E_read_27 (fun r h1 hp => ?_)
  obtain ⟨S2, rfl, rfl, ⟨U2, hV2, pm2, y1, y2, fr2⟩, nn2, lo2⟩ := hp
  have e61 : U2 61 = fUp u1 w1 := (fr2 61 (by decide) (by decide) (by decide) (by decide) (by decide) (by decide) (by decide) (by decide)).trans x1
  have e63 : U2 63 = fLo u1 w1 := (fr2 63 (by decide) (by decide) (by decide) (by decide) (by decide) (by decide) (by decide) (by decide)).trans x2
  have fr2' : ∀ j : Nat, (j < 61 ∨ 73 < j) → j ≠ 8 → j ≠ 12 → j ≠ 14 → j ≠ 16 → U2 j = U j := fun j a1 a3 a4 a5 a6 => (fr2 j (by omega) (by omega) (by omega) (by omega) a3 a4 a5 a6).trans (fr1 j (by omega) (by omega) (by omega) (by omega) a3 a4 a5 a6)
  have eq2 : EQ U2 A := eq.fr (fun j j1 j2 => fr2' j (by omega) (by omega) (by omega) (by omega) (by omega))
  refine z_aload_n K d_E_read_30 rfl ?_
  refine z_callV (ci := 6) (As := []) K (v_E_isOnCurve l G b0 h a S2 hV2 eq2 hA e61 e63 y1 y2 t1 t2 t3 t4) ca_E_54 im_E_isOnCurve se_E_isOnCurve rfl (by decide) (hx_E) rfl rfl (by decide) (Nat.le_of_ble_eq_true rfl) d_E_read_31 (fun r h1 hp => ?_)
  obtain ⟨S3, rfl, ⟨b, rfl, d1, d2⟩, ⟨U3, hV3, fr3⟩, f3⟩ := hp
  have fr3' : ∀ j : Nat, (j < 61 ∨ 73 < j) → j ≠ 5 → j ≠ 8 → j ≠ 12 → j ≠ 14 → j ≠ 16 → U3 j = U j := fun j a1 a2 a3 a4 a5 a6 => (fr3 j (by omega) a2).trans (fr2' j a1 a3 a4 a5 a6)
  have nn3 : S3.f.nn = S.f.nn := by rw [f3]; exact nn2.trans nn1
  have pm3 : pm S3.f := by rw [f3]; exact pm2
  refine zi_if_ne (tgt := 39) K d_E_read_34 (by decide) (by omega) (fun hc => ?_) (fun hc => ?_)
  rotate_left
  · refine z_iconst (v := jI 0) K d_E_read_37 rfl ?_
    exact z_zret K hr hlk d_E_read_38 rfl ⟨_, rfl, 0, rfl, U3, hV3, pm3, fun j a1 a2 a3 a4 a5 a6 _ _ _ _ _ => fr3' j a1 a2 a3 a4 a5 a6, fun j _ => by rw [nn3], Or.inl ⟨rfl, fun w => by have := d2.2 w; omega, by rw [nn3], fun i hi => fr3' _ (by omega) (by omega) (by omega) (by omega) (by omega) (by omega)⟩⟩
  have hcur := d2.1 (by omega)
  obtain ⟨z, z0, z2, z3, z4, _⟩ := point_on (A := A) n1 n2 (by omega) (by omega) (by omega) hcur
  have v61 : U3 61 = fUp u1 w1 := (fr3 61 (by decide) (by decide)).trans e61
  have v63 : U3 63 = fLo u1 w1 := (fr3 63 (by decide) (by decide)).trans e63
  have v65 : U3 65 = fUp u2 w2 := (fr3 65 (by decide) (by decide)).trans y1
  have v67 : U3 67 = fLo u2 w2 := (fr3 67 (by decide) (by decide)).trans y2
  refine z_aload K d_E_read_39 rfl ?_
  refine z_iconst (v := jI 0) K d_E_read_41 rfl ?_
  refine zx_pNn (v := 0) K ho fd_E_58 (Or.inl rfl) d_E_read_42 ?_
  obtain ⟨S4, hS4⟩ : ∃ Z : xS, Z = S3.sf (S3.f.snn (nu S3.f.nn oo 0)) := ⟨_, rfl⟩
  rw [← hS4]
  have hV4 : VX S4 U3 := by rw [hS4]; exact hV3
  have f4 : S4.f = S3.f.snn (nu S3.f.nn oo 0) := by rw [hS4]
  obtain ⟨n61, w61⟩ := hV4 61 rfl
  obtain ⟨n63, w63⟩ := hV4 63 rfl
  obtain ⟨n65, w65⟩ := hV4 65 rfl
  obtain ⟨n67, w67⟩ := hV4 67 rfl
  rw [v61] at w61
  rw [v63] at w63
  rw [v65] at w65
  rw [v67] at w67
  refine z_aload K d_E_read_45 rfl ?_
  refine zx_gP K (by first | assumption | rfl) fd_E_64 rfl d_E_read_47 ?_
  refine z_aload_n K d_E_read_50 rfl ?_
  refine zx_gE K fd_E_14 rfl d_E_read_51 ?_
  refine z_callV (ci := 1) (As := [.ref (a + 61)]) K (c_N_become_N l G b0 h a S4 (k := oo + 1) (j := 61) hN_oo.1 rfl w61 (by rw [hR_oo 1 (by decide)]; exact c1)) ca_E_67 im_N_become_N se_N_become_N rfl (by decide) (hx_N hN_oo.1) rfl rfl (by decide) (Nat.le_of_ble_eq_true rfl) d_E_read_54 (fun r h1 hp => ?_)
  obtain ⟨S5, rfl, rfl, k1, k1'⟩ := hp
  have w65 := k1.nr w65 (show 65 ≠ oo + 1 by omega)
  have w63 := k1.nr w63 (show 63 ≠ oo + 1 by omega)
  have w67 := k1.nr w67 (show 67 ≠ oo + 1 by omega)
  refine z_aload K d_E_read_57 rfl ?_
  refine zx_gP K (by first | assumption | rfl) fd_E_71 rfl d_E_read_59 ?_
  refine z_aload_n K d_E_read_62 rfl ?_
  refine zx_gE K fd_E_23 rfl d_E_read_63 ?_
  refine z_callV (ci := 1) (As := [.ref (a + 65)]) K (c_N_become_N l G b0 h a S5 (k := oo + 3) (j := 65) hN_oo.2.1 rfl w65 (by rw [hR_oo 3 (by decide)]; exact c3)) ca_E_67 im_N_become_N se_N_become_N rfl (by decide) (hx_N hN_oo.2.1) rfl rfl (by decide) (Nat.le_of_ble_eq_true rfl) d_E_read_66 (fun r h1 hp => ?_)
  obtain ⟨S6, rfl, rfl, k3, k3'⟩ := hp
  have w63 := k3.nr w63 (show 63 ≠ oo + 3 by omega)
  have w67 := k3.nr w67 (show 67 ≠ oo + 3 by omega)
  refine z_aload K d_E_read_69 rfl ?_
  refine zx_gP K (by first | assumption | rfl) fd_E_74 rfl d_E_read_71 ?_
  refine z_aload_n K d_E_read_74 rfl ?_
  refine zx_gE K fd_E_20 rfl d_E_read_75 ?_
  refine z_callV (ci := 1) (As := [.ref (a + 63)]) K (c_N_become_N l G b0 h a S6 (k := oo + 7) (j := 63) hN_oo.2.2.2.1 rfl w63 (by rw [hR_oo 7 (by decide)]; exact c2)) ca_E_67 im_N_become_N se_N_become_N rfl (by decide) (hx_N hN_oo.2.2.2.1) rfl rfl (by decide) (Nat.le_of_ble_eq_true rfl) d_E_read_78 (fun r h1 hp => ?_)
  obtain ⟨S7, rfl, rfl, k7, k7'⟩ := hp
  have w67 := k7.nr w67 (show 67 ≠ oo + 7 by omega)
  refine z_aload K d_E_read_81 rfl ?_
  refine zx_gP K (by first | assumption | rfl) fd_E_77 rfl d_E_read_83 ?_
  refine z_aload_n K d_E_read_86 rfl ?_
  refine zx_gE K fd_E_26 rfl d_E_read_87 ?_
  refine z_callV (ci := 1) (As := [.ref (a + 67)]) K (c_N_become_N l G b0 h a S7 (k := oo + 9) (j := 67) hN_oo.2.2.2.2 rfl w67 (by rw [hR_oo 9 (by decide)]; exact c4)) ca_E_67 im_N_become_N se_N_become_N rfl (by decide) (hx_N hN_oo.2.2.2.2) rfl rfl (by decide) (Nat.le_of_ble_eq_true rfl) d_E_read_90 (fun r h1 hp => ?_)
  obtain ⟨S8, rfl, rfl, k9, k9'⟩ := hp
  have hV8 := (((hV4.up k1 k1').up k3 k3').up k7 k7').up k9 k9'
  obtain ⟨U8, hU8⟩ : ∃ W : Nat → Int, W = nu (nu (nu (nu U3 (oo + 1) (fUp u1 w1)) (oo + 3) (fUp u2 w2)) (oo + 7) (fLo u1 w1)) (oo + 9) (fLo u2 w2) := ⟨_, rfl⟩
  rw [← hU8] at hV8
  have uo8 : ∀ j : Nat, j ≠ oo + 1 → j ≠ oo + 3 → j ≠ oo + 7 → j ≠ oo + 9 → U8 j = U3 j := fun j a1 a2 a3 a4 => by rw [hU8, nu_ne _ _ a4, nu_ne _ _ a3, nu_ne _ _ a2, nu_ne _ _ a1]
  have r67 : U8 67 = fLo u2 w2 := (uo8 67 (by omega) (by omega) (by omega) (by omega)).trans v67
  have r63 : U8 63 = fLo u1 w1 := (uo8 63 (by omega) (by omega) (by omega) (by omega)).trans v63
  have ez : (U8 67).tdiv (U8 63) = z := by rw [r67, r63, z4]
  have em : (U8 67).tmod (U8 63) = 0 := by rw [r67, r63, z2, z3]; exact Int.mul_tmod_right ..
  have bz : lt9 z 30 := lt9_le c2 (by rw [z2, Int.natAbs_mul]; exact Nat.le_mul_of_pos_left _ (by omega))
  refine z_aload_n K d_E_read_93 rfl ?_
  refine zx_gE K fd_E_42 rfl d_E_read_94 ?_
  refine z_aload_n K d_E_read_97 rfl ?_
  refine zx_gE K fd_E_26 rfl d_E_read_98 ?_
  refine z_aload_n K d_E_read_101 rfl ?_
  refine zx_gE K fd_E_20 rfl d_E_read_102 ?_
  refine z_aload K d_E_read_105 rfl ?_
  refine zx_gP K (by first | assumption | rfl) fd_E_80 rfl d_E_read_107 ?_
  refine z_aload_n K d_E_read_110 rfl ?_
  refine zx_gE K fd_E_29 rfl d_E_read_111 ?_
  refine z_callV (ci := 4) (As := [.ref (a + 67), .ref (a + 63), .ref (a + (oo + 5)), .ref (a + 69)]) K (v_R_divide l G b0 h a S8 (x := 67) (y := 63) (qq := oo + 5) (rr := 69) hV8 rfl rfl hN_oo.2.2.1 rfl (by omega) (by rw [r63]; omega) (by rw [ez, hR_oo 5 (by decide)]; exact bz) (by rw [em]; exact lt9_n (n := 0) (by decide) (by decide))) ca_E_83 im_R_divide se_R_divide rfl (by decide) (hx_R) rfl rfl (by decide) (Nat.le_of_ble_eq_true rfl) d_E_read_114 (fun r h1 hp => ?_)
  obtain ⟨S9, rfl, rfl, hV9, f9⟩ := hp
  rw [ez, em] at hV9
  have f9' : S9.f = S3.f.snn (nu S3.f.nn oo 0) := f9.trans (k9.2.trans (k7.2.trans (k3.2.trans (k1.2.trans f4))))
  refine z_iconst (v := jI 1) K d_E_read_117 rfl ?_
  refine z_zret K hr hlk d_E_read_118 rfl ⟨_, rfl, 1, rfl, _, hV9, by rw [f9']; exact pm3, fun j a1 a2 a3 a4 a5 a6 a7 a8 a9 a10 a11 => ?_, fun j hj => ?_, Or.inr ⟨rfl, hcur, ?_⟩⟩
  · rw [nu_ne _ _ (by omega), nu_ne _ _ a9, uo8 j a7 a8 a10 a11]; exact fr3' j a1 a2 a3 a4 a5 a6
  · rw [f9']; show nu S3.f.nn oo 0 j = _; rw [nu_ne _ _ hj, nn3]
  · rw [z4]
    refine ⟨by rw [f9']; show nu S3.f.nn oo 0 oo = 0; rw [nu_self], ?_, ?_, ?_, ?_, ?_⟩
    · rw [nu_ne _ _ (by omega), nu_ne _ _ (by omega), hU8, nu_ne _ _ (by omega), nu_ne _ _ (by omega), nu_ne _ _ (by omega), nu_self]
    · rw [nu_ne _ _ (by omega), nu_ne _ _ (by omega), hU8, nu_ne _ _ (by omega), nu_ne _ _ (by omega), nu_self]
    · rw [nu_ne _ _ (by omega), nu_self]
    · rw [nu_ne _ _ (by omega), nu_ne _ _ (by omega), hU8, nu_ne _ _ (by omega), nu_self, z2]
    · rw [nu_ne _ _ (by omega), nu_ne _ _ (by omega), hU8, nu_self, z3]
end E2
