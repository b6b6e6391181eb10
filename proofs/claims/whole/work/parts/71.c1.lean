section C1
variable {p : Program} {l : Launch} {e : Env} {R : Room} {s : State} {m : MethodId} {args : Array Value} {below : List Frame} {meth : Method} {c : Code} {Q : State → Prop} {b0 kc ks : Nat} {G : zG} {h : zH} {a : Nat} {cd : Int}
set_option maxHeartbeats 4000000 in
set_option maxRecDepth 100000 in
theorem v_C_measureGap (l : Launch) (G : zG) (b0 : Nat) (h : zH) (a : Nat) (S : xS) {U : Nat → Int} (hV : VX S U) {x1 y1 z1 : Int} {po : Nat} (hp : isP po = true) (pv : PV U po x1 y1 z1) (pb : PB x1 y1 z1) {x2 y2 z2 : Int} {qo : Nat} (hq : isP qo = true) (qv : PV U qo x2 y2 z2) (qb : PB x2 y2 z2) : xMet l G b0 y_C_measureGap b_C_measureGap 3 none 4 114 h a [.ref (a + 39), .ref (a + po), .ref (a + qo)] S (fun r S' => r = none ∧ (∃ U', VX S' U' ∧ (U' 48 = x1 * (z2 * z2) ∧ U' 50 = x2 * (z1 * z1) ∧ U' 42 = cD x1 z1 x2 z2) ∧ ∀ j : Nat, (j < 40 ∨ 58 < j) → j ≠ 5 → U' j = U j) ∧ S'.f = S.f) :=
  z_met (by decide) (Nat.le_of_ble_eq_true rfl) fun p e s m below meth c K hr hlk hnm => by
  have hN_po := (isP_lt hp).2.2.2
  have hR_po := nR_P hp
  have po75 := isP_75 hp
  have hN_qo := (isP_lt hq).2.2.2
  have hR_qo := nR_P hq
  have qo75 := isP_75 hq
  refine z_aload_n K d_C_measureGap_0 rfl ?_
  refine zx_gC K fd_C_51 rfl d_C_measureGap_1 ?_
  refine z_aload_n K d_C_measureGap_4 rfl ?_
  refine zx_gP K (by first | assumption | rfl) fd_C_65 rfl d_C_measureGap_5 ?_
  refine z_aload_n K d_C_measureGap_8 rfl ?_
  refine zx_gP K (by first | assumption | rfl) fd_C_141 rfl d_C_measureGap_9 ?_
  refine z_aload_n K d_C_measureGap_12 rfl ?_
  refine zx_gC K fd_C_29 rfl d_C_measureGap_13 ?_
  obtain ⟨w1, ex1⟩ : ∃ z : Int, z = x1 * (z2 * z2) := ⟨_, rfl⟩
  have b1 : lt9 w1 36 := by rw [ex1]; have z := lt9_mul pb.1 qb.2.2.2.1; exact z
  refine z_callV (ci := 4) (As := [.ref (a + (po + 1)), .ref (a + (qo + 7)), .ref (a + 48)]) K (v_R_multiply l G b0 h a S hV hN_po.1 hN_qo.2.2.2.1 (by rfl) (by rw [pv.1]; exact pb.1) (by rw [qv.2.2.2.1]; exact qb.2.2.2.1) (by decide) (by rw [pv.1, qv.2.2.2.1, ← ex1]; exact lt9_mono b1 (by decide))) ca_C_71 im_R_multiply se_R_multiply rfl (by decide) (hx_R) rfl rfl (by decide) (Nat.le_of_ble_eq_true rfl) d_C_measureGap_16 (fun r h1 hp => ?_)
  obtain ⟨S1, rfl, rfl, hV1, ef1⟩ := hp
  rw [pv.1, qv.2.2.2.1, ← ex1] at hV1
  obtain ⟨U1, w1hU⟩ : ∃ W : Nat → Int, W = nu U 48 w1 := ⟨_, rfl⟩
  rw [← w1hU] at hV1
  have f1_po_1 : U1 (po + 1) = x1 := (by rw [w1hU, nu_ne _ _ (by omega)] : U1 (po + 1) = U (po + 1)).trans pv.1
  have f1_po_3 : U1 (po + 3) = y1 := (by rw [w1hU, nu_ne _ _ (by omega)] : U1 (po + 3) = U (po + 3)).trans pv.2.1
  have f1_po_5 : U1 (po + 5) = z1 := (by rw [w1hU, nu_ne _ _ (by omega)] : U1 (po + 5) = U (po + 5)).trans pv.2.2.1
  have f1_po_7 : U1 (po + 7) = (z1 * z1) := (by rw [w1hU, nu_ne _ _ (by omega)] : U1 (po + 7) = U (po + 7)).trans pv.2.2.2.1
  have f1_po_9 : U1 (po + 9) = (z1 * z1 * z1) := (by rw [w1hU, nu_ne _ _ (by omega)] : U1 (po + 9) = U (po + 9)).trans pv.2.2.2.2
  have f1_qo_1 : U1 (qo + 1) = x2 := (by rw [w1hU, nu_ne _ _ (by omega)] : U1 (qo + 1) = U (qo + 1)).trans qv.1
  have f1_qo_3 : U1 (qo + 3) = y2 := (by rw [w1hU, nu_ne _ _ (by omega)] : U1 (qo + 3) = U (qo + 3)).trans qv.2.1
  have f1_qo_5 : U1 (qo + 5) = z2 := (by rw [w1hU, nu_ne _ _ (by omega)] : U1 (qo + 5) = U (qo + 5)).trans qv.2.2.1
  have f1_qo_7 : U1 (qo + 7) = (z2 * z2) := (by rw [w1hU, nu_ne _ _ (by omega)] : U1 (qo + 7) = U (qo + 7)).trans qv.2.2.2.1
  have f1_qo_9 : U1 (qo + 9) = (z2 * z2 * z2) := (by rw [w1hU, nu_ne _ _ (by omega)] : U1 (qo + 9) = U (qo + 9)).trans qv.2.2.2.2
  have f1_48 : U1 48 = w1 := by rw [w1hU, nu_self]
  have g1 : ∀ j : Nat, (j < 40 ∨ 58 < j) → j ≠ 5 → U1 j = U j := fun j j1 j2 => (by rw [w1hU, nu_ne _ _ (by omega)] : U1 j = U j).trans ((fun j _ _ => rfl) j j1 j2)
  refine z_aload_n K d_C_measureGap_19 rfl ?_
  refine zx_gC K fd_C_51 rfl d_C_measureGap_20 ?_
  refine z_aload_n K d_C_measureGap_23 rfl ?_
  refine zx_gP K (by first | assumption | rfl) fd_C_65 rfl d_C_measureGap_24 ?_
  refine z_aload_n K d_C_measureGap_27 rfl ?_
  refine zx_gP K (by first | assumption | rfl) fd_C_141 rfl d_C_measureGap_28 ?_
  refine z_aload_n K d_C_measureGap_31 rfl ?_
  refine zx_gC K fd_C_32 rfl d_C_measureGap_32 ?_
  obtain ⟨w2, ex2⟩ : ∃ z : Int, z = x2 * (z1 * z1) := ⟨_, rfl⟩
  have b2 : lt9 w2 36 := by rw [ex2]; have z := lt9_mul qb.1 pb.2.2.2.1; exact z
  refine z_callV (ci := 4) (As := [.ref (a + (qo + 1)), .ref (a + (po + 7)), .ref (a + 50)]) K (v_R_multiply l G b0 h a S1 hV1 hN_qo.1 hN_po.2.2.2.1 (by rfl) (by rw [f1_qo_1]; exact qb.1) (by rw [f1_po_7]; exact pb.2.2.2.1) (by decide) (by rw [f1_qo_1, f1_po_7, ← ex2]; exact lt9_mono b2 (by decide))) ca_C_71 im_R_multiply se_R_multiply rfl (by decide) (hx_R) rfl rfl (by decide) (Nat.le_of_ble_eq_true rfl) d_C_measureGap_35 (fun r h1 hp => ?_)
  obtain ⟨S2, rfl, rfl, hV2, ef2⟩ := hp
  rw [f1_qo_1, f1_po_7, ← ex2] at hV2
  obtain ⟨U2, w2hU⟩ : ∃ W : Nat → Int, W = nu U1 50 w2 := ⟨_, rfl⟩
  rw [← w2hU] at hV2
  have f2_po_1 : U2 (po + 1) = x1 := (by rw [w2hU, nu_ne _ _ (by omega)] : U2 (po + 1) = U1 (po + 1)).trans f1_po_1
  have f2_po_3 : U2 (po + 3) = y1 := (by rw [w2hU, nu_ne _ _ (by omega)] : U2 (po + 3) = U1 (po + 3)).trans f1_po_3
  have f2_po_5 : U2 (po + 5) = z1 := (by rw [w2hU, nu_ne _ _ (by omega)] : U2 (po + 5) = U1 (po + 5)).trans f1_po_5
  have f2_po_7 : U2 (po + 7) = (z1 * z1) := (by rw [w2hU, nu_ne _ _ (by omega)] : U2 (po + 7) = U1 (po + 7)).trans f1_po_7
  have f2_po_9 : U2 (po + 9) = (z1 * z1 * z1) := (by rw [w2hU, nu_ne _ _ (by omega)] : U2 (po + 9) = U1 (po + 9)).trans f1_po_9
  have f2_qo_1 : U2 (qo + 1) = x2 := (by rw [w2hU, nu_ne _ _ (by omega)] : U2 (qo + 1) = U1 (qo + 1)).trans f1_qo_1
  have f2_qo_3 : U2 (qo + 3) = y2 := (by rw [w2hU, nu_ne _ _ (by omega)] : U2 (qo + 3) = U1 (qo + 3)).trans f1_qo_3
  have f2_qo_5 : U2 (qo + 5) = z2 := (by rw [w2hU, nu_ne _ _ (by omega)] : U2 (qo + 5) = U1 (qo + 5)).trans f1_qo_5
  have f2_qo_7 : U2 (qo + 7) = (z2 * z2) := (by rw [w2hU, nu_ne _ _ (by omega)] : U2 (qo + 7) = U1 (qo + 7)).trans f1_qo_7
  have f2_qo_9 : U2 (qo + 9) = (z2 * z2 * z2) := (by rw [w2hU, nu_ne _ _ (by omega)] : U2 (qo + 9) = U1 (qo + 9)).trans f1_qo_9
  have f2_48 : U2 48 = w1 := (by rw [w2hU, nu_ne _ _ (by omega)] : U2 48 = U1 48).trans f1_48
  have f2_50 : U2 50 = w2 := by rw [w2hU, nu_self]
  have g2 : ∀ j : Nat, (j < 40 ∨ 58 < j) → j ≠ 5 → U2 j = U j := fun j j1 j2 => (by rw [w2hU, nu_ne _ _ (by omega)] : U2 j = U1 j).trans (g1 j j1 j2)
  refine z_aload_n K d_C_measureGap_38 rfl ?_
  refine zx_gC K fd_C_51 rfl d_C_measureGap_39 ?_
  refine z_aload_n K d_C_measureGap_42 rfl ?_
  refine zx_gC K fd_C_32 rfl d_C_measureGap_43 ?_
  refine z_aload_n K d_C_measureGap_46 rfl ?_
  refine zx_gC K fd_C_29 rfl d_C_measureGap_47 ?_
  refine z_aload_n K d_C_measureGap_50 rfl ?_
  refine zx_gC K fd_C_20 rfl d_C_measureGap_51 ?_
  obtain ⟨w3, ex3⟩ : ∃ z : Int, z = w2 - w1 := ⟨_, rfl⟩
  have b3 : lt9 w3 37 := by rw [ex3]; have z := lt9_sub b2 b1; exact z
  refine z_callV (ci := 4) (As := [.ref (a + 50), .ref (a + 48), .ref (a + 42)]) K (v_R_subtract l G b0 h a S2 hV2 (by rfl) (by rfl) (by rfl) (by rw [f2_50]; exact lt9_mono b2 (by decide)) (by rw [f2_48]; exact lt9_mono b1 (by decide)) (by rw [f2_50, f2_48, ← ex3]; exact lt9_mono b3 (by decide))) ca_C_144 im_R_subtract se_R_subtract rfl (by decide) (hx_R) rfl rfl (by decide) (Nat.le_of_ble_eq_true rfl) d_C_measureGap_54 (fun r h1 hp => ?_)
  obtain ⟨S3, rfl, rfl, hV3, ef3⟩ := hp
  rw [f2_50, f2_48, ← ex3] at hV3
  obtain ⟨U3, w3hU⟩ : ∃ W : Nat → Int, W = nu U2 42 w3 := ⟨_, rfl⟩
  rw [← w3hU] at hV3
  have f3_po_1 : U3 (po + 1) = x1 := (by rw [w3hU, nu_ne _ _ (by omega)] : U3 (po + 1) = U2 (po + 1)).trans f2_po_1
  have f3_po_3 : U3 (po + 3) = y1 := (by rw [w3hU, nu_ne _ _ (by omega)] : U3 (po + 3) = U2 (po + 3)).trans f2_po_3
  have f3_po_5 : U3 (po + 5) = z1 := (by rw [w3hU, nu_ne _ _ (by omega)] : U3 (po + 5) = U2 (po + 5)).trans f2_po_5
  have f3_po_7 : U3 (po + 7) = (z1 * z1) := (by rw [w3hU, nu_ne _ _ (by omega)] : U3 (po + 7) = U2 (po + 7)).trans f2_po_7
  have f3_po_9 : U3 (po + 9) = (z1 * z1 * z1) := (by rw [w3hU, nu_ne _ _ (by omega)] : U3 (po + 9) = U2 (po + 9)).trans f2_po_9
  have f3_qo_1 : U3 (qo + 1) = x2 := (by rw [w3hU, nu_ne _ _ (by omega)] : U3 (qo + 1) = U2 (qo + 1)).trans f2_qo_1
  have f3_qo_3 : U3 (qo + 3) = y2 := (by rw [w3hU, nu_ne _ _ (by omega)] : U3 (qo + 3) = U2 (qo + 3)).trans f2_qo_3
  have f3_qo_5 : U3 (qo + 5) = z2 := (by rw [w3hU, nu_ne _ _ (by omega)] : U3 (qo + 5) = U2 (qo + 5)).trans f2_qo_5
  have f3_qo_7 : U3 (qo + 7) = (z2 * z2) := (by rw [w3hU, nu_ne _ _ (by omega)] : U3 (qo + 7) = U2 (qo + 7)).trans f2_qo_7
  have f3_qo_9 : U3 (qo + 9) = (z2 * z2 * z2) := (by rw [w3hU, nu_ne _ _ (by omega)] : U3 (qo + 9) = U2 (qo + 9)).trans f2_qo_9
  have f3_48 : U3 48 = w1 := (by rw [w3hU, nu_ne _ _ (by omega)] : U3 48 = U2 48).trans f2_48
  have f3_50 : U3 50 = w2 := (by rw [w3hU, nu_ne _ _ (by omega)] : U3 50 = U2 50).trans f2_50
  have f3_42 : U3 42 = w3 := by rw [w3hU, nu_self]
  have g3 : ∀ j : Nat, (j < 40 ∨ 58 < j) → j ≠ 5 → U3 j = U j := fun j j1 j2 => (by rw [w3hU, nu_ne _ _ (by omega)] : U3 j = U2 j).trans (g2 j j1 j2)
  exact z_vret K hr hlk d_C_measureGap_57 ⟨_, rfl, rfl, ⟨_, hV3, ⟨f3_48.trans (by rw [ex1]), f3_50.trans (by rw [ex2]), f3_42.trans (by rw [ex3, ex1, ex2]; unfold cD; rfl)⟩, g3⟩, (ef3.trans (ef2.trans ef1))⟩
set_option maxHeartbeats 4000000 in
set_option maxRecDepth 100000 in
theorem v_C_gatherHeights (l : Launch) (G : zG) (b0 : Nat) (h : zH) (a : Nat) (S : xS) {U : Nat → Int} (hV : VX S U) {x1 y1 z1 : Int} {po : Nat} (hp : isP po = true) (pv : PV U po x1 y1 z1) (pb : PB x1 y1 z1) {x2 y2 z2 : Int} {qo : Nat} (hq : isP qo = true) (qv : PV U qo x2 y2 z2) (qb : PB x2 y2 z2) {A : ecE} (eq : EQ U A) (hA : ecOk A) : xMet l G b0 y_C_gatherHeights b_C_gatherHeights 3 none 4 122 h a [.ref (a + 39), .ref (a + po), .ref (a + qo)] S (fun r S' => r = none ∧ (∃ U', VX S' U' ∧ (U' 44 = cN y1 z1 y2 z2 ∧ U' 56 = kTwist A x1 y1 z1 x2 y2 z2 ∧ lt9 (U' 56) 60) ∧ ∀ j : Nat, (j = 48 ∨ j = 50 ∨ j = 42 ∨ j < 40 ∨ 58 < j) → j ≠ 5 → U' j = U j) ∧ S'.f = S.f) :=
  z_met (by decide) (Nat.le_of_ble_eq_true rfl) fun p e s m below meth c K hr hlk hnm => by
  have hN_po := (isP_lt hp).2.2.2
  have hR_po := nR_P hp
  have po75 := isP_75 hp
  have hN_qo := (isP_lt hq).2.2.2
  have hR_qo := nR_P hq
  have qo75 := isP_75 hq
  have bq := hA.bq
  refine z_aload_n K d_C_gatherHeights_0 rfl ?_
  refine zx_gC K fd_C_51 rfl d_C_gatherHeights_1 ?_
  refine z_aload_n K d_C_gatherHeights_4 rfl ?_
  refine zx_gP K (by first | assumption | rfl) fd_C_82 rfl d_C_gatherHeights_5 ?_
  refine z_aload_n K d_C_gatherHeights_8 rfl ?_
  refine zx_gP K (by first | assumption | rfl) fd_C_91 rfl d_C_gatherHeights_9 ?_
  refine z_aload_n K d_C_gatherHeights_12 rfl ?_
  refine zx_gC K fd_C_35 rfl d_C_gatherHeights_13 ?_
  obtain ⟨w1, ex1⟩ : ∃ z : Int, z = y1 * (z2 * z2 * z2) := ⟨_, rfl⟩
  have b1 : lt9 w1 55 := by rw [ex1]; have z := lt9_mul pb.2.1 qb.2.2.2.2; exact z
  refine z_callV (ci := 4) (As := [.ref (a + (po + 3)), .ref (a + (qo + 9)), .ref (a + 52)]) K (v_R_multiply l G b0 h a S hV hN_po.2.1 hN_qo.2.2.2.2 (by rfl) (by rw [pv.2.1]; exact pb.2.1) (by rw [qv.2.2.2.2]; exact qb.2.2.2.2) (by decide) (by rw [pv.2.1, qv.2.2.2.2, ← ex1]; exact lt9_mono b1 (by decide))) ca_C_71 im_R_multiply se_R_multiply rfl (by decide) (hx_R) rfl rfl (by decide) (Nat.le_of_ble_eq_true rfl) d_C_gatherHeights_16 (fun r h1 hp => ?_)
  obtain ⟨S1, rfl, rfl, hV1, ef1⟩ := hp
  rw [pv.2.1, qv.2.2.2.2, ← ex1] at hV1
  obtain ⟨U1, w1hU⟩ : ∃ W : Nat → Int, W = nu U 52 w1 := ⟨_, rfl⟩
  rw [← w1hU] at hV1
  have f1_po_1 : U1 (po + 1) = x1 := (by rw [w1hU, nu_ne _ _ (by omega)] : U1 (po + 1) = U (po + 1)).trans pv.1
  have f1_po_3 : U1 (po + 3) = y1 := (by rw [w1hU, nu_ne _ _ (by omega)] : U1 (po + 3) = U (po + 3)).trans pv.2.1
  have f1_po_5 : U1 (po + 5) = z1 := (by rw [w1hU, nu_ne _ _ (by omega)] : U1 (po + 5) = U (po + 5)).trans pv.2.2.1
  have f1_po_7 : U1 (po + 7) = (z1 * z1) := (by rw [w1hU, nu_ne _ _ (by omega)] : U1 (po + 7) = U (po + 7)).trans pv.2.2.2.1
  have f1_po_9 : U1 (po + 9) = (z1 * z1 * z1) := (by rw [w1hU, nu_ne _ _ (by omega)] : U1 (po + 9) = U (po + 9)).trans pv.2.2.2.2
  have f1_qo_1 : U1 (qo + 1) = x2 := (by rw [w1hU, nu_ne _ _ (by omega)] : U1 (qo + 1) = U (qo + 1)).trans qv.1
  have f1_qo_3 : U1 (qo + 3) = y2 := (by rw [w1hU, nu_ne _ _ (by omega)] : U1 (qo + 3) = U (qo + 3)).trans qv.2.1
  have f1_qo_5 : U1 (qo + 5) = z2 := (by rw [w1hU, nu_ne _ _ (by omega)] : U1 (qo + 5) = U (qo + 5)).trans qv.2.2.1
  have f1_qo_7 : U1 (qo + 7) = (z2 * z2) := (by rw [w1hU, nu_ne _ _ (by omega)] : U1 (qo + 7) = U (qo + 7)).trans qv.2.2.2.1
  have f1_qo_9 : U1 (qo + 9) = (z2 * z2 * z2) := (by rw [w1hU, nu_ne _ _ (by omega)] : U1 (qo + 9) = U (qo + 9)).trans qv.2.2.2.2
  have f1_19 : U1 19 = A.1 := (by rw [w1hU, nu_ne _ _ (by omega)] : U1 19 = U 19).trans eq.1
  have f1_23 : U1 23 = A.2.2.1 := (by rw [w1hU, nu_ne _ _ (by omega)] : U1 23 = U 23).trans eq.2.2.1
  have f1_52 : U1 52 = w1 := by rw [w1hU, nu_self]
  have g1 : ∀ j : Nat, (j = 48 ∨ j = 50 ∨ j = 42 ∨ j < 40 ∨ 58 < j) → j ≠ 5 → U1 j = U j := fun j j1 j2 => (by rw [w1hU, nu_ne _ _ (by omega)] : U1 j = U j).trans ((fun j _ _ => rfl) j j1 j2)
  refine z_aload_n K d_C_gatherHeights_19 rfl ?_
  refine zx_gC K fd_C_51 rfl d_C_gatherHeights_20 ?_
  refine z_aload_n K d_C_gatherHeights_23 rfl ?_
  refine zx_gP K (by first | assumption | rfl) fd_C_82 rfl d_C_gatherHeights_24 ?_
  refine z_aload_n K d_C_gatherHeights_27 rfl ?_
  refine zx_gP K (by first | assumption | rfl) fd_C_91 rfl d_C_gatherHeights_28 ?_
  refine z_aload_n K d_C_gatherHeights_31 rfl ?_
  refine zx_gC K fd_C_38 rfl d_C_gatherHeights_32 ?_
  obtain ⟨w2, ex2⟩ : ∃ z : Int, z = y2 * (z1 * z1 * z1) := ⟨_, rfl⟩
  have b2 : lt9 w2 55 := by rw [ex2]; have z := lt9_mul qb.2.1 pb.2.2.2.2; exact z
  refine z_callV (ci := 4) (As := [.ref (a + (qo + 3)), .ref (a + (po + 9)), .ref (a + 54)]) K (v_R_multiply l G b0 h a S1 hV1 hN_qo.2.1 hN_po.2.2.2.2 (by rfl) (by rw [f1_qo_3]; exact qb.2.1) (by rw [f1_po_9]; exact pb.2.2.2.2) (by decide) (by rw [f1_qo_3, f1_po_9, ← ex2]; exact lt9_mono b2 (by decide))) ca_C_71 im_R_multiply se_R_multiply rfl (by decide) (hx_R) rfl rfl (by decide) (Nat.le_of_ble_eq_true rfl) d_C_gatherHeights_35 (fun r h1 hp => ?_)
  obtain ⟨S2, rfl, rfl, hV2, ef2⟩ := hp
  rw [f1_qo_3, f1_po_9, ← ex2] at hV2
  obtain ⟨U2, w2hU⟩ : ∃ W : Nat → Int, W = nu U1 54 w2 := ⟨_, rfl⟩
  rw [← w2hU] at hV2
  have f2_po_1 : U2 (po + 1) = x1 := (by rw [w2hU, nu_ne _ _ (by omega)] : U2 (po + 1) = U1 (po + 1)).trans f1_po_1
  have f2_po_3 : U2 (po + 3) = y1 := (by rw [w2hU, nu_ne _ _ (by omega)] : U2 (po + 3) = U1 (po + 3)).trans f1_po_3
  have f2_po_5 : U2 (po + 5) = z1 := (by rw [w2hU, nu_ne _ _ (by omega)] : U2 (po + 5) = U1 (po + 5)).trans f1_po_5
  have f2_po_7 : U2 (po + 7) = (z1 * z1) := (by rw [w2hU, nu_ne _ _ (by omega)] : U2 (po + 7) = U1 (po + 7)).trans f1_po_7
  have f2_po_9 : U2 (po + 9) = (z1 * z1 * z1) := (by rw [w2hU, nu_ne _ _ (by omega)] : U2 (po + 9) = U1 (po + 9)).trans f1_po_9
  have f2_qo_1 : U2 (qo + 1) = x2 := (by rw [w2hU, nu_ne _ _ (by omega)] : U2 (qo + 1) = U1 (qo + 1)).trans f1_qo_1
  have f2_qo_3 : U2 (qo + 3) = y2 := (by rw [w2hU, nu_ne _ _ (by omega)] : U2 (qo + 3) = U1 (qo + 3)).trans f1_qo_3
  have f2_qo_5 : U2 (qo + 5) = z2 := (by rw [w2hU, nu_ne _ _ (by omega)] : U2 (qo + 5) = U1 (qo + 5)).trans f1_qo_5
  have f2_qo_7 : U2 (qo + 7) = (z2 * z2) := (by rw [w2hU, nu_ne _ _ (by omega)] : U2 (qo + 7) = U1 (qo + 7)).trans f1_qo_7
  have f2_qo_9 : U2 (qo + 9) = (z2 * z2 * z2) := (by rw [w2hU, nu_ne _ _ (by omega)] : U2 (qo + 9) = U1 (qo + 9)).trans f1_qo_9
  have f2_19 : U2 19 = A.1 := (by rw [w2hU, nu_ne _ _ (by omega)] : U2 19 = U1 19).trans f1_19
  have f2_23 : U2 23 = A.2.2.1 := (by rw [w2hU, nu_ne _ _ (by omega)] : U2 23 = U1 23).trans f1_23
  have f2_52 : U2 52 = w1 := (by rw [w2hU, nu_ne _ _ (by omega)] : U2 52 = U1 52).trans f1_52
  have f2_54 : U2 54 = w2 := by rw [w2hU, nu_self]
  have g2 : ∀ j : Nat, (j = 48 ∨ j = 50 ∨ j = 42 ∨ j < 40 ∨ 58 < j) → j ≠ 5 → U2 j = U j := fun j j1 j2 => (by rw [w2hU, nu_ne _ _ (by omega)] : U2 j = U1 j).trans (g1 j j1 j2)
  refine z_aload_n K d_C_gatherHeights_38 rfl ?_
  refine zx_gC K fd_C_51 rfl d_C_gatherHeights_39 ?_
  refine z_aload_n K d_C_gatherHeights_42 rfl ?_
  refine zx_gC K fd_C_38 rfl d_C_gatherHeights_43 ?_
  refine z_aload_n K d_C_gatherHeights_46 rfl ?_
  refine zx_gC K fd_C_35 rfl d_C_gatherHeights_47 ?_
  refine z_aload_n K d_C_gatherHeights_50 rfl ?_
  refine zx_gC K fd_C_23 rfl d_C_gatherHeights_51 ?_
  obtain ⟨w3, ex3⟩ : ∃ z : Int, z = w2 - w1 := ⟨_, rfl⟩
  have b3 : lt9 w3 56 := by rw [ex3]; have z := lt9_sub b2 b1; exact z
  refine z_callV (ci := 4) (As := [.ref (a + 54), .ref (a + 52), .ref (a + 44)]) K (v_R_subtract l G b0 h a S2 hV2 (by rfl) (by rfl) (by rfl) (by rw [f2_54]; exact lt9_mono b2 (by decide)) (by rw [f2_52]; exact lt9_mono b1 (by decide)) (by rw [f2_54, f2_52, ← ex3]; exact lt9_mono b3 (by decide))) ca_C_144 im_R_subtract se_R_subtract rfl (by decide) (hx_R) rfl rfl (by decide) (Nat.le_of_ble_eq_true rfl) d_C_gatherHeights_54 (fun r h1 hp => ?_)
  obtain ⟨S3, rfl, rfl, hV3, ef3⟩ := hp
  rw [f2_54, f2_52, ← ex3] at hV3
  obtain ⟨U3, w3hU⟩ : ∃ W : Nat → Int, W = nu U2 44 w3 := ⟨_, rfl⟩
  rw [← w3hU] at hV3
  have f3_po_1 : U3 (po + 1) = x1 := (by rw [w3hU, nu_ne _ _ (by omega)] : U3 (po + 1) = U2 (po + 1)).trans f2_po_1
  have f3_po_3 : U3 (po + 3) = y1 := (by rw [w3hU, nu_ne _ _ (by omega)] : U3 (po + 3) = U2 (po + 3)).trans f2_po_3
  have f3_po_5 : U3 (po + 5) = z1 := (by rw [w3hU, nu_ne _ _ (by omega)] : U3 (po + 5) = U2 (po + 5)).trans f2_po_5
  have f3_po_7 : U3 (po + 7) = (z1 * z1) := (by rw [w3hU, nu_ne _ _ (by omega)] : U3 (po + 7) = U2 (po + 7)).trans f2_po_7
  have f3_po_9 : U3 (po + 9) = (z1 * z1 * z1) := (by rw [w3hU, nu_ne _ _ (by omega)] : U3 (po + 9) = U2 (po + 9)).trans f2_po_9
  have f3_qo_1 : U3 (qo + 1) = x2 := (by rw [w3hU, nu_ne _ _ (by omega)] : U3 (qo + 1) = U2 (qo + 1)).trans f2_qo_1
  have f3_qo_3 : U3 (qo + 3) = y2 := (by rw [w3hU, nu_ne _ _ (by omega)] : U3 (qo + 3) = U2 (qo + 3)).trans f2_qo_3
  have f3_qo_5 : U3 (qo + 5) = z2 := (by rw [w3hU, nu_ne _ _ (by omega)] : U3 (qo + 5) = U2 (qo + 5)).trans f2_qo_5
  have f3_qo_7 : U3 (qo + 7) = (z2 * z2) := (by rw [w3hU, nu_ne _ _ (by omega)] : U3 (qo + 7) = U2 (qo + 7)).trans f2_qo_7
  have f3_qo_9 : U3 (qo + 9) = (z2 * z2 * z2) := (by rw [w3hU, nu_ne _ _ (by omega)] : U3 (qo + 9) = U2 (qo + 9)).trans f2_qo_9
  have f3_19 : U3 19 = A.1 := (by rw [w3hU, nu_ne _ _ (by omega)] : U3 19 = U2 19).trans f2_19
  have f3_23 : U3 23 = A.2.2.1 := (by rw [w3hU, nu_ne _ _ (by omega)] : U3 23 = U2 23).trans f2_23
  have f3_52 : U3 52 = w1 := (by rw [w3hU, nu_ne _ _ (by omega)] : U3 52 = U2 52).trans f2_52
  have f3_54 : U3 54 = w2 := (by rw [w3hU, nu_ne _ _ (by omega)] : U3 54 = U2 54).trans f2_54
  have f3_44 : U3 44 = w3 := by rw [w3hU, nu_self]
  have g3 : ∀ j : Nat, (j = 48 ∨ j = 50 ∨ j = 42 ∨ j < 40 ∨ 58 < j) → j ≠ 5 → U3 j = U j := fun j j1 j2 => (by rw [w3hU, nu_ne _ _ (by omega)] : U3 j = U2 j).trans (g2 j j1 j2)
  refine z_aload_n K d_C_gatherHeights_57 rfl ?_
  refine zx_gC K fd_C_51 rfl d_C_gatherHeights_58 ?_
  refine z_aload_n K d_C_gatherHeights_61 rfl ?_
  refine zx_gC K fd_C_35 rfl d_C_gatherHeights_62 ?_
  refine z_aload_n K d_C_gatherHeights_65 rfl ?_
  refine zx_gC K fd_C_38 rfl d_C_gatherHeights_66 ?_
  refine z_aload_n K d_C_gatherHeights_69 rfl ?_
  refine zx_gC K fd_C_35 rfl d_C_gatherHeights_70 ?_
  obtain ⟨w4, ex4⟩ : ∃ z : Int, z = w1 + w2 := ⟨_, rfl⟩
  have b4 : lt9 w4 56 := by rw [ex4]; have z := lt9_add b1 b2; exact z
  refine z_callV (ci := 4) (As := [.ref (a + 52), .ref (a + 54), .ref (a + 52)]) K (v_R_add l G b0 h a S3 hV3 (by rfl) (by rfl) (by rfl) (by rw [f3_52]; exact lt9_mono b1 (by decide)) (by rw [f3_54]; exact lt9_mono b2 (by decide)) (by rw [f3_52, f3_54, ← ex4]; exact lt9_mono b4 (by decide))) ca_C_147 im_R_add se_R_add rfl (by decide) (hx_R) rfl rfl (by decide) (Nat.le_of_ble_eq_true rfl) d_C_gatherHeights_73 (fun r h1 hp => ?_)
  obtain ⟨S4, rfl, rfl, hV4, ef4⟩ := hp
  rw [f3_52, f3_54, ← ex4] at hV4
  obtain ⟨U4, w4hU⟩ : ∃ W : Nat → Int, W = nu U3 52 w4 := ⟨_, rfl⟩
  rw [← w4hU] at hV4
  have f4_po_1 : U4 (po + 1) = x1 := (by rw [w4hU, nu_ne _ _ (by omega)] : U4 (po + 1) = U3 (po + 1)).trans f3_po_1
  have f4_po_3 : U4 (po + 3) = y1 := (by rw [w4hU, nu_ne _ _ (by omega)] : U4 (po + 3) = U3 (po + 3)).trans f3_po_3
  have f4_po_5 : U4 (po + 5) = z1 := (by rw [w4hU, nu_ne _ _ (by omega)] : U4 (po + 5) = U3 (po + 5)).trans f3_po_5
  have f4_po_7 : U4 (po + 7) = (z1 * z1) := (by rw [w4hU, nu_ne _ _ (by omega)] : U4 (po + 7) = U3 (po + 7)).trans f3_po_7
  have f4_po_9 : U4 (po + 9) = (z1 * z1 * z1) := (by rw [w4hU, nu_ne _ _ (by omega)] : U4 (po + 9) = U3 (po + 9)).trans f3_po_9
  have f4_qo_1 : U4 (qo + 1) = x2 := (by rw [w4hU, nu_ne _ _ (by omega)] : U4 (qo + 1) = U3 (qo + 1)).trans f3_qo_1
  have f4_qo_3 : U4 (qo + 3) = y2 := (by rw [w4hU, nu_ne _ _ (by omega)] : U4 (qo + 3) = U3 (qo + 3)).trans f3_qo_3
  have f4_qo_5 : U4 (qo + 5) = z2 := (by rw [w4hU, nu_ne _ _ (by omega)] : U4 (qo + 5) = U3 (qo + 5)).trans f3_qo_5
  have f4_qo_7 : U4 (qo + 7) = (z2 * z2) := (by rw [w4hU, nu_ne _ _ (by omega)] : U4 (qo + 7) = U3 (qo + 7)).trans f3_qo_7
  have f4_qo_9 : U4 (qo + 9) = (z2 * z2 * z2) := (by rw [w4hU, nu_ne _ _ (by omega)] : U4 (qo + 9) = U3 (qo + 9)).trans f3_qo_9
  have f4_19 : U4 19 = A.1 := (by rw [w4hU, nu_ne _ _ (by omega)] : U4 19 = U3 19).trans f3_19
  have f4_23 : U4 23 = A.2.2.1 := (by rw [w4hU, nu_ne _ _ (by omega)] : U4 23 = U3 23).trans f3_23
  have f4_54 : U4 54 = w2 := (by rw [w4hU, nu_ne _ _ (by omega)] : U4 54 = U3 54).trans f3_54
  have f4_44 : U4 44 = w3 := (by rw [w4hU, nu_ne _ _ (by omega)] : U4 44 = U3 44).trans f3_44
  have f4_52 : U4 52 = w4 := by rw [w4hU, nu_self]
  have g4 : ∀ j : Nat, (j = 48 ∨ j = 50 ∨ j = 42 ∨ j < 40 ∨ 58 < j) → j ≠ 5 → U4 j = U j := fun j j1 j2 => (by rw [w4hU, nu_ne _ _ (by omega)] : U4 j = U3 j).trans (g3 j j1 j2)
  refine z_aload_n K d_C_gatherHeights_76 rfl ?_
  refine zx_gC K fd_C_51 rfl d_C_gatherHeights_77 ?_
  refine z_aload_n K d_C_gatherHeights_80 rfl ?_
  refine zx_gC K fd_C_47 rfl d_C_gatherHeights_81 ?_
  refine zx_gQ K fd_C_88 rfl d_C_gatherHeights_84 ?_
  refine z_aload_n K d_C_gatherHeights_87 rfl ?_
  refine zx_gC K fd_C_35 rfl d_C_gatherHeights_88 ?_
  refine z_aload_n K d_C_gatherHeights_91 rfl ?_
  refine zx_gC K fd_C_41 rfl d_C_gatherHeights_92 ?_
  obtain ⟨w5, ex5⟩ : ∃ z : Int, z = A.2.2.1 * w4 := ⟨_, rfl⟩
  have b5 : lt9 w5 57 := by rw [ex5]; have z := lt9_mul bq.2.2.1 b4; exact z
  refine z_callV (ci := 4) (As := [.ref (a + 23), .ref (a + 52), .ref (a + 56)]) K (v_R_multiply l G b0 h a S4 hV4 (by rfl) (by rfl) (by rfl) (by rw [f4_23]; exact bq.2.2.1) (by rw [f4_52]; exact b4) (by decide) (by rw [f4_23, f4_52, ← ex5]; exact lt9_mono b5 (by decide))) ca_C_71 im_R_multiply se_R_multiply rfl (by decide) (hx_R) rfl rfl (by decide) (Nat.le_of_ble_eq_true rfl) d_C_gatherHeights_95 (fun r h1 hp => ?_)
  obtain ⟨S5, rfl, rfl, hV5, ef5⟩ := hp
  rw [f4_23, f4_52, ← ex5] at hV5
  obtain ⟨U5, w5hU⟩ : ∃ W : Nat → Int, W = nu U4 56 w5 := ⟨_, rfl⟩
  rw [← w5hU] at hV5
  have f5_po_1 : U5 (po + 1) = x1 := (by rw [w5hU, nu_ne _ _ (by omega)] : U5 (po + 1) = U4 (po + 1)).trans f4_po_1
  have f5_po_3 : U5 (po + 3) = y1 := (by rw [w5hU, nu_ne _ _ (by omega)] : U5 (po + 3) = U4 (po + 3)).trans f4_po_3
  have f5_po_5 : U5 (po + 5) = z1 := (by rw [w5hU, nu_ne _ _ (by omega)] : U5 (po + 5) = U4 (po + 5)).trans f4_po_5
  have f5_po_7 : U5 (po + 7) = (z1 * z1) := (by rw [w5hU, nu_ne _ _ (by omega)] : U5 (po + 7) = U4 (po + 7)).trans f4_po_7
  have f5_po_9 : U5 (po + 9) = (z1 * z1 * z1) := (by rw [w5hU, nu_ne _ _ (by omega)] : U5 (po + 9) = U4 (po + 9)).trans f4_po_9
  have f5_qo_1 : U5 (qo + 1) = x2 := (by rw [w5hU, nu_ne _ _ (by omega)] : U5 (qo + 1) = U4 (qo + 1)).trans f4_qo_1
  have f5_qo_3 : U5 (qo + 3) = y2 := (by rw [w5hU, nu_ne _ _ (by omega)] : U5 (qo + 3) = U4 (qo + 3)).trans f4_qo_3
  have f5_qo_5 : U5 (qo + 5) = z2 := (by rw [w5hU, nu_ne _ _ (by omega)] : U5 (qo + 5) = U4 (qo + 5)).trans f4_qo_5
  have f5_qo_7 : U5 (qo + 7) = (z2 * z2) := (by rw [w5hU, nu_ne _ _ (by omega)] : U5 (qo + 7) = U4 (qo + 7)).trans f4_qo_7
  have f5_qo_9 : U5 (qo + 9) = (z2 * z2 * z2) := (by rw [w5hU, nu_ne _ _ (by omega)] : U5 (qo + 9) = U4 (qo + 9)).trans f4_qo_9
  have f5_19 : U5 19 = A.1 := (by rw [w5hU, nu_ne _ _ (by omega)] : U5 19 = U4 19).trans f4_19
  have f5_23 : U5 23 = A.2.2.1 := (by rw [w5hU, nu_ne _ _ (by omega)] : U5 23 = U4 23).trans f4_23
  have f5_54 : U5 54 = w2 := (by rw [w5hU, nu_ne _ _ (by omega)] : U5 54 = U4 54).trans f4_54
  have f5_44 : U5 44 = w3 := (by rw [w5hU, nu_ne _ _ (by omega)] : U5 44 = U4 44).trans f4_44
  have f5_52 : U5 52 = w4 := (by rw [w5hU, nu_ne _ _ (by omega)] : U5 52 = U4 52).trans f4_52
  have f5_56 : U5 56 = w5 := by rw [w5hU, nu_self]
  have g5 : ∀ j : Nat, (j = 48 ∨ j = 50 ∨ j = 42 ∨ j < 40 ∨ 58 < j) → j ≠ 5 → U5 j = U j := fun j j1 j2 => (by rw [w5hU, nu_ne _ _ (by omega)] : U5 j = U4 j).trans (g4 j j1 j2)
  refine z_aload_n K d_C_gatherHeights_98 rfl ?_
  refine zx_gC K fd_C_51 rfl d_C_gatherHeights_99 ?_
  refine z_aload_n K d_C_gatherHeights_102 rfl ?_
  refine zx_gP K (by first | assumption | rfl) fd_C_82 rfl d_C_gatherHeights_103 ?_
  refine z_aload_n K d_C_gatherHeights_106 rfl ?_
  refine zx_gP K (by first | assumption | rfl) fd_C_82 rfl d_C_gatherHeights_107 ?_
  refine z_aload_n K d_C_gatherHeights_110 rfl ?_
  refine zx_gC K fd_C_35 rfl d_C_gatherHeights_111 ?_
  obtain ⟨w6, ex6⟩ : ∃ z : Int, z = y1 * y2 := ⟨_, rfl⟩
  have b6 : lt9 w6 56 := by rw [ex6]; have z := lt9_mul pb.2.1 qb.2.1; exact z
  refine z_callV (ci := 4) (As := [.ref (a + (po + 3)), .ref (a + (qo + 3)), .ref (a + 52)]) K (v_R_multiply l G b0 h a S5 hV5 hN_po.2.1 hN_qo.2.1 (by rfl) (by rw [f5_po_3]; exact pb.2.1) (by rw [f5_qo_3]; exact qb.2.1) (by decide) (by rw [f5_po_3, f5_qo_3, ← ex6]; exact lt9_mono b6 (by decide))) ca_C_71 im_R_multiply se_R_multiply rfl (by decide) (hx_R) rfl rfl (by decide) (Nat.le_of_ble_eq_true rfl) d_C_gatherHeights_114 (fun r h1 hp => ?_)
  obtain ⟨S6, rfl, rfl, hV6, ef6⟩ := hp
  rw [f5_po_3, f5_qo_3, ← ex6] at hV6
  obtain ⟨U6, w6hU⟩ : ∃ W : Nat → Int, W = nu U5 52 w6 := ⟨_, rfl⟩
  rw [← w6hU] at hV6
  have f6_po_1 : U6 (po + 1) = x1 := (by rw [w6hU, nu_ne _ _ (by omega)] : U6 (po + 1) = U5 (po + 1)).trans f5_po_1
  have f6_po_3 : U6 (po + 3) = y1 := (by rw [w6hU, nu_ne _ _ (by omega)] : U6 (po + 3) = U5 (po + 3)).trans f5_po_3
  have f6_po_5 : U6 (po + 5) = z1 := (by rw [w6hU, nu_ne _ _ (by omega)] : U6 (po + 5) = U5 (po + 5)).trans f5_po_5
  have f6_po_7 : U6 (po + 7) = (z1 * z1) := (by rw [w6hU, nu_ne _ _ (by omega)] : U6 (po + 7) = U5 (po + 7)).trans f5_po_7
  have f6_po_9 : U6 (po + 9) = (z1 * z1 * z1) := (by rw [w6hU, nu_ne _ _ (by omega)] : U6 (po + 9) = U5 (po + 9)).trans f5_po_9
  have f6_qo_1 : U6 (qo + 1) = x2 := (by rw [w6hU, nu_ne _ _ (by omega)] : U6 (qo + 1) = U5 (qo + 1)).trans f5_qo_1
  have f6_qo_3 : U6 (qo + 3) = y2 := (by rw [w6hU, nu_ne _ _ (by omega)] : U6 (qo + 3) = U5 (qo + 3)).trans f5_qo_3
  have f6_qo_5 : U6 (qo + 5) = z2 := (by rw [w6hU, nu_ne _ _ (by omega)] : U6 (qo + 5) = U5 (qo + 5)).trans f5_qo_5
  have f6_qo_7 : U6 (qo + 7) = (z2 * z2) := (by rw [w6hU, nu_ne _ _ (by omega)] : U6 (qo + 7) = U5 (qo + 7)).trans f5_qo_7
  have f6_qo_9 : U6 (qo + 9) = (z2 * z2 * z2) := (by rw [w6hU, nu_ne _ _ (by omega)] : U6 (qo + 9) = U5 (qo + 9)).trans f5_qo_9
  have f6_19 : U6 19 = A.1 := (by rw [w6hU, nu_ne _ _ (by omega)] : U6 19 = U5 19).trans f5_19
  have f6_23 : U6 23 = A.2.2.1 := (by rw [w6hU, nu_ne _ _ (by omega)] : U6 23 = U5 23).trans f5_23
  have f6_54 : U6 54 = w2 := (by rw [w6hU, nu_ne _ _ (by omega)] : U6 54 = U5 54).trans f5_54
  have f6_44 : U6 44 = w3 := (by rw [w6hU, nu_ne _ _ (by omega)] : U6 44 = U5 44).trans f5_44
  have f6_56 : U6 56 = w5 := (by rw [w6hU, nu_ne _ _ (by omega)] : U6 56 = U5 56).trans f5_56
  have f6_52 : U6 52 = w6 := by rw [w6hU, nu_self]
  have g6 : ∀ j : Nat, (j = 48 ∨ j = 50 ∨ j = 42 ∨ j < 40 ∨ 58 < j) → j ≠ 5 → U6 j = U j := fun j j1 j2 => (by rw [w6hU, nu_ne _ _ (by omega)] : U6 j = U5 j).trans (g5 j j1 j2)
  refine z_aload_n K d_C_gatherHeights_117 rfl ?_
  refine zx_gC K fd_C_51 rfl d_C_gatherHeights_118 ?_
  refine z_aload_n K d_C_gatherHeights_121 rfl ?_
  refine zx_gC K fd_C_41 rfl d_C_gatherHeights_122 ?_
  refine z_aload_n K d_C_gatherHeights_125 rfl ?_
  refine zx_gC K fd_C_35 rfl d_C_gatherHeights_126 ?_
  refine z_aload_n K d_C_gatherHeights_129 rfl ?_
  refine zx_gC K fd_C_41 rfl d_C_gatherHeights_130 ?_
  obtain ⟨w7, ex7⟩ : ∃ z : Int, z = w5 + w6 := ⟨_, rfl⟩
  have b7 : lt9 w7 58 := by rw [ex7]; have z := lt9_add b5 b6; exact z
  refine z_callV (ci := 4) (As := [.ref (a + 56), .ref (a + 52), .ref (a + 56)]) K (v_R_add l G b0 h a S6 hV6 (by rfl) (by rfl) (by rfl) (by rw [f6_56]; exact lt9_mono b5 (by decide)) (by rw [f6_52]; exact lt9_mono b6 (by decide)) (by rw [f6_56, f6_52, ← ex7]; exact lt9_mono b7 (by decide))) ca_C_147 im_R_add se_R_add rfl (by decide) (hx_R) rfl rfl (by decide) (Nat.le_of_ble_eq_true rfl) d_C_gatherHeights_133 (fun r h1 hp => ?_)
  obtain ⟨S7, rfl, rfl, hV7, ef7⟩ := hp
  rw [f6_56, f6_52, ← ex7] at hV7
  obtain ⟨U7, w7hU⟩ : ∃ W : Nat → Int, W = nu U6 56 w7 := ⟨_, rfl⟩
  rw [← w7hU] at hV7
  have f7_po_1 : U7 (po + 1) = x1 := (by rw [w7hU, nu_ne _ _ (by omega)] : U7 (po + 1) = U6 (po + 1)).trans f6_po_1
  have f7_po_3 : U7 (po + 3) = y1 := (by rw [w7hU, nu_ne _ _ (by omega)] : U7 (po + 3) = U6 (po + 3)).trans f6_po_3
  have f7_po_5 : U7 (po + 5) = z1 := (by rw [w7hU, nu_ne _ _ (by omega)] : U7 (po + 5) = U6 (po + 5)).trans f6_po_5
  have f7_po_7 : U7 (po + 7) = (z1 * z1) := (by rw [w7hU, nu_ne _ _ (by omega)] : U7 (po + 7) = U6 (po + 7)).trans f6_po_7
  have f7_po_9 : U7 (po + 9) = (z1 * z1 * z1) := (by rw [w7hU, nu_ne _ _ (by omega)] : U7 (po + 9) = U6 (po + 9)).trans f6_po_9
  have f7_qo_1 : U7 (qo + 1) = x2 := (by rw [w7hU, nu_ne _ _ (by omega)] : U7 (qo + 1) = U6 (qo + 1)).trans f6_qo_1
  have f7_qo_3 : U7 (qo + 3) = y2 := (by rw [w7hU, nu_ne _ _ (by omega)] : U7 (qo + 3) = U6 (qo + 3)).trans f6_qo_3
  have f7_qo_5 : U7 (qo + 5) = z2 := (by rw [w7hU, nu_ne _ _ (by omega)] : U7 (qo + 5) = U6 (qo + 5)).trans f6_qo_5
  have f7_qo_7 : U7 (qo + 7) = (z2 * z2) := (by rw [w7hU, nu_ne _ _ (by omega)] : U7 (qo + 7) = U6 (qo + 7)).trans f6_qo_7
  have f7_qo_9 : U7 (qo + 9) = (z2 * z2 * z2) := (by rw [w7hU, nu_ne _ _ (by omega)] : U7 (qo + 9) = U6 (qo + 9)).trans f6_qo_9
  have f7_19 : U7 19 = A.1 := (by rw [w7hU, nu_ne _ _ (by omega)] : U7 19 = U6 19).trans f6_19
  have f7_23 : U7 23 = A.2.2.1 := (by rw [w7hU, nu_ne _ _ (by omega)] : U7 23 = U6 23).trans f6_23
  have f7_54 : U7 54 = w2 := (by rw [w7hU, nu_ne _ _ (by omega)] : U7 54 = U6 54).trans f6_54
  have f7_44 : U7 44 = w3 := (by rw [w7hU, nu_ne _ _ (by omega)] : U7 44 = U6 44).trans f6_44
  have f7_52 : U7 52 = w6 := (by rw [w7hU, nu_ne _ _ (by omega)] : U7 52 = U6 52).trans f6_52
  have f7_56 : U7 56 = w7 := by rw [w7hU, nu_self]
  have g7 : ∀ j : Nat, (j = 48 ∨ j = 50 ∨ j = 42 ∨ j < 40 ∨ 58 < j) → j ≠ 5 → U7 j = U j := fun j j1 j2 => (by rw [w7hU, nu_ne _ _ (by omega)] : U7 j = U6 j).trans (g6 j j1 j2)
  refine z_aload_n K d_C_gatherHeights_136 rfl ?_
  refine zx_gC K fd_C_51 rfl d_C_gatherHeights_137 ?_
  refine z_aload_n K d_C_gatherHeights_140 rfl ?_
  refine zx_gC K fd_C_41 rfl d_C_gatherHeights_141 ?_
  refine z_aload_n K d_C_gatherHeights_144 rfl ?_
  refine zx_gC K fd_C_35 rfl d_C_gatherHeights_145 ?_
  refine z_aload_n K d_C_gatherHeights_148 rfl ?_
  refine zx_gC K fd_C_41 rfl d_C_gatherHeights_149 ?_
  obtain ⟨w8, ex8⟩ : ∃ z : Int, z = w7 + w6 := ⟨_, rfl⟩
  have b8 : lt9 w8 59 := by rw [ex8]; have z := lt9_add b7 b6; exact z
  refine z_callV (ci := 4) (As := [.ref (a + 56), .ref (a + 52), .ref (a + 56)]) K (v_R_add l G b0 h a S7 hV7 (by rfl) (by rfl) (by rfl) (by rw [f7_56]; exact lt9_mono b7 (by decide)) (by rw [f7_52]; exact lt9_mono b6 (by decide)) (by rw [f7_56, f7_52, ← ex8]; exact lt9_mono b8 (by decide))) ca_C_147 im_R_add se_R_add rfl (by decide) (hx_R) rfl rfl (by decide) (Nat.le_of_ble_eq_true rfl) d_C_gatherHeights_152 (fun r h1 hp => ?_)
  obtain ⟨S8, rfl, rfl, hV8, ef8⟩ := hp
  rw [f7_56, f7_52, ← ex8] at hV8
  obtain ⟨U8, w8hU⟩ : ∃ W : Nat → Int, W = nu U7 56 w8 := ⟨_, rfl⟩
  rw [← w8hU] at hV8
  have f8_po_1 : U8 (po + 1) = x1 := (by rw [w8hU, nu_ne _ _ (by omega)] : U8 (po + 1) = U7 (po + 1)).trans f7_po_1
  have f8_po_3 : U8 (po + 3) = y1 := (by rw [w8hU, nu_ne _ _ (by omega)] : U8 (po + 3) = U7 (po + 3)).trans f7_po_3
  have f8_po_5 : U8 (po + 5) = z1 := (by rw [w8hU, nu_ne _ _ (by omega)] : U8 (po + 5) = U7 (po + 5)).trans f7_po_5
  have f8_po_7 : U8 (po + 7) = (z1 * z1) := (by rw [w8hU, nu_ne _ _ (by omega)] : U8 (po + 7) = U7 (po + 7)).trans f7_po_7
  have f8_po_9 : U8 (po + 9) = (z1 * z1 * z1) := (by rw [w8hU, nu_ne _ _ (by omega)] : U8 (po + 9) = U7 (po + 9)).trans f7_po_9
  have f8_qo_1 : U8 (qo + 1) = x2 := (by rw [w8hU, nu_ne _ _ (by omega)] : U8 (qo + 1) = U7 (qo + 1)).trans f7_qo_1
  have f8_qo_3 : U8 (qo + 3) = y2 := (by rw [w8hU, nu_ne _ _ (by omega)] : U8 (qo + 3) = U7 (qo + 3)).trans f7_qo_3
  have f8_qo_5 : U8 (qo + 5) = z2 := (by rw [w8hU, nu_ne _ _ (by omega)] : U8 (qo + 5) = U7 (qo + 5)).trans f7_qo_5
  have f8_qo_7 : U8 (qo + 7) = (z2 * z2) := (by rw [w8hU, nu_ne _ _ (by omega)] : U8 (qo + 7) = U7 (qo + 7)).trans f7_qo_7
  have f8_qo_9 : U8 (qo + 9) = (z2 * z2 * z2) := (by rw [w8hU, nu_ne _ _ (by omega)] : U8 (qo + 9) = U7 (qo + 9)).trans f7_qo_9
  have f8_19 : U8 19 = A.1 := (by rw [w8hU, nu_ne _ _ (by omega)] : U8 19 = U7 19).trans f7_19
  have f8_23 : U8 23 = A.2.2.1 := (by rw [w8hU, nu_ne _ _ (by omega)] : U8 23 = U7 23).trans f7_23
  have f8_54 : U8 54 = w2 := (by rw [w8hU, nu_ne _ _ (by omega)] : U8 54 = U7 54).trans f7_54
  have f8_44 : U8 44 = w3 := (by rw [w8hU, nu_ne _ _ (by omega)] : U8 44 = U7 44).trans f7_44
  have f8_52 : U8 52 = w6 := (by rw [w8hU, nu_ne _ _ (by omega)] : U8 52 = U7 52).trans f7_52
  have f8_56 : U8 56 = w8 := by rw [w8hU, nu_self]
  have g8 : ∀ j : Nat, (j = 48 ∨ j = 50 ∨ j = 42 ∨ j < 40 ∨ 58 < j) → j ≠ 5 → U8 j = U j := fun j j1 j2 => (by rw [w8hU, nu_ne _ _ (by omega)] : U8 j = U7 j).trans (g7 j j1 j2)
  refine z_aload_n K d_C_gatherHeights_155 rfl ?_
  refine zx_gC K fd_C_47 rfl d_C_gatherHeights_156 ?_
  refine zx_gQ K fd_C_77 rfl d_C_gatherHeights_159 ?_
  obtain ⟨n19, v19⟩ := hV8 19 rfl
  rw [f8_19] at v19
  refine z_callV (ci := 1) (As := []) K (c_N_isZero l G b0 h a S8 (k := 19) rfl v19) ca_C_108 im_N_isZero se_N_isZero rfl (by decide) (hx_N (by rfl)) rfl rfl (by decide) (Nat.le_of_ble_eq_true rfl) d_C_gatherHeights_162 (fun r h1 hp => ?_)
  obtain ⟨S9, rfl, rfl, b, rfl, c1, c2⟩ := hp
  refine zi_if_eq (tgt := 169) K d_C_gatherHeights_165 (by decide) (by omega) (fun hc => ?_) (fun hc => ?_)
  · refine z_aload_n K d_C_gatherHeights_169 rfl ?_
    refine zx_gC K fd_C_51 rfl d_C_gatherHeights_170 ?_
    refine z_aload_n K d_C_gatherHeights_173 rfl ?_
    refine zx_gP K (by first | assumption | rfl) fd_C_65 rfl d_C_gatherHeights_174 ?_
    refine z_aload_n K d_C_gatherHeights_177 rfl ?_
    refine zx_gP K (by first | assumption | rfl) fd_C_82 rfl d_C_gatherHeights_178 ?_
    refine z_aload_n K d_C_gatherHeights_181 rfl ?_
    refine zx_gC K fd_C_35 rfl d_C_gatherHeights_182 ?_
    obtain ⟨mw1, mex1⟩ : ∃ z : Int, z = x1 * y2 := ⟨_, rfl⟩
    have mb1 : lt9 mw1 46 := by rw [mex1]; have z := lt9_mul pb.1 qb.2.1; exact z
    refine z_callV (ci := 4) (As := [.ref (a + (po + 1)), .ref (a + (qo + 3)), .ref (a + 52)]) K (v_R_multiply l G b0 h a S8 hV8 hN_po.1 hN_qo.2.1 (by rfl) (by rw [f8_po_1]; exact pb.1) (by rw [f8_qo_3]; exact qb.2.1) (by decide) (by rw [f8_po_1, f8_qo_3, ← mex1]; exact lt9_mono mb1 (by decide))) ca_C_71 im_R_multiply se_R_multiply rfl (by decide) (hx_R) rfl rfl (by decide) (Nat.le_of_ble_eq_true rfl) d_C_gatherHeights_185 (fun r h1 hp => ?_)
    obtain ⟨mS1, rfl, rfl, mhV1, mef1⟩ := hp
    rw [f8_po_1, f8_qo_3, ← mex1] at mhV1
    obtain ⟨mU1, mw1hU⟩ : ∃ W : Nat → Int, W = nu U8 52 mw1 := ⟨_, rfl⟩
    rw [← mw1hU] at mhV1
    have mf1_po_1 : mU1 (po + 1) = x1 := (by rw [mw1hU, nu_ne _ _ (by omega)] : mU1 (po + 1) = U8 (po + 1)).trans f8_po_1
    have mf1_po_3 : mU1 (po + 3) = y1 := (by rw [mw1hU, nu_ne _ _ (by omega)] : mU1 (po + 3) = U8 (po + 3)).trans f8_po_3
    have mf1_po_5 : mU1 (po + 5) = z1 := (by rw [mw1hU, nu_ne _ _ (by omega)] : mU1 (po + 5) = U8 (po + 5)).trans f8_po_5
    have mf1_po_7 : mU1 (po + 7) = (z1 * z1) := (by rw [mw1hU, nu_ne _ _ (by omega)] : mU1 (po + 7) = U8 (po + 7)).trans f8_po_7
    have mf1_po_9 : mU1 (po + 9) = (z1 * z1 * z1) := (by rw [mw1hU, nu_ne _ _ (by omega)] : mU1 (po + 9) = U8 (po + 9)).trans f8_po_9
    have mf1_qo_1 : mU1 (qo + 1) = x2 := (by rw [mw1hU, nu_ne _ _ (by omega)] : mU1 (qo + 1) = U8 (qo + 1)).trans f8_qo_1
    have mf1_qo_3 : mU1 (qo + 3) = y2 := (by rw [mw1hU, nu_ne _ _ (by omega)] : mU1 (qo + 3) = U8 (qo + 3)).trans f8_qo_3
    have mf1_qo_5 : mU1 (qo + 5) = z2 := (by rw [mw1hU, nu_ne _ _ (by omega)] : mU1 (qo + 5) = U8 (qo + 5)).trans f8_qo_5
    have mf1_qo_7 : mU1 (qo + 7) = (z2 * z2) := (by rw [mw1hU, nu_ne _ _ (by omega)] : mU1 (qo + 7) = U8 (qo + 7)).trans f8_qo_7
    have mf1_qo_9 : mU1 (qo + 9) = (z2 * z2 * z2) := (by rw [mw1hU, nu_ne _ _ (by omega)] : mU1 (qo + 9) = U8 (qo + 9)).trans f8_qo_9
    have mf1_19 : mU1 19 = A.1 := (by rw [mw1hU, nu_ne _ _ (by omega)] : mU1 19 = U8 19).trans f8_19
    have mf1_23 : mU1 23 = A.2.2.1 := (by rw [mw1hU, nu_ne _ _ (by omega)] : mU1 23 = U8 23).trans f8_23
    have mf1_54 : mU1 54 = w2 := (by rw [mw1hU, nu_ne _ _ (by omega)] : mU1 54 = U8 54).trans f8_54
    have mf1_44 : mU1 44 = w3 := (by rw [mw1hU, nu_ne _ _ (by omega)] : mU1 44 = U8 44).trans f8_44
    have mf1_56 : mU1 56 = w8 := (by rw [mw1hU, nu_ne _ _ (by omega)] : mU1 56 = U8 56).trans f8_56
    have mf1_52 : mU1 52 = mw1 := by rw [mw1hU, nu_self]
    have mg1 : ∀ j : Nat, (j = 48 ∨ j = 50 ∨ j = 42 ∨ j < 40 ∨ 58 < j) → j ≠ 5 → mU1 j = U j := fun j j1 j2 => (by rw [mw1hU, nu_ne _ _ (by omega)] : mU1 j = U8 j).trans (g8 j j1 j2)
    refine z_aload_n K d_C_gatherHeights_188 rfl ?_
    refine zx_gC K fd_C_51 rfl d_C_gatherHeights_189 ?_
    refine z_aload_n K d_C_gatherHeights_192 rfl ?_
    refine zx_gC K fd_C_35 rfl d_C_gatherHeights_193 ?_
    refine z_aload_n K d_C_gatherHeights_196 rfl ?_
    refine zx_gP K (by first | assumption | rfl) fd_C_68 rfl d_C_gatherHeights_197 ?_
    refine z_aload_n K d_C_gatherHeights_200 rfl ?_
    refine zx_gC K fd_C_35 rfl d_C_gatherHeights_201 ?_
    obtain ⟨mw2, mex2⟩ : ∃ z : Int, z = mw1 * z1 := ⟨_, rfl⟩
    have mb2 : lt9 mw2 55 := by rw [mex2]; have z := lt9_mul mb1 pb.2.2.1; exact z
    refine z_callV (ci := 4) (As := [.ref (a + 52), .ref (a + (po + 5)), .ref (a + 52)]) K (v_R_multiply l G b0 h a mS1 mhV1 (by rfl) hN_po.2.2.1 (by rfl) (by rw [mf1_52]; exact mb1) (by rw [mf1_po_5]; exact pb.2.2.1) (by decide) (by rw [mf1_52, mf1_po_5, ← mex2]; exact lt9_mono mb2 (by decide))) ca_C_71 im_R_multiply se_R_multiply rfl (by decide) (hx_R) rfl rfl (by decide) (Nat.le_of_ble_eq_true rfl) d_C_gatherHeights_204 (fun r h1 hp => ?_)
    obtain ⟨mS2, rfl, rfl, mhV2, mef2⟩ := hp
    rw [mf1_52, mf1_po_5, ← mex2] at mhV2
    obtain ⟨mU2, mw2hU⟩ : ∃ W : Nat → Int, W = nu mU1 52 mw2 := ⟨_, rfl⟩
    rw [← mw2hU] at mhV2
    have mf2_po_1 : mU2 (po + 1) = x1 := (by rw [mw2hU, nu_ne _ _ (by omega)] : mU2 (po + 1) = mU1 (po + 1)).trans mf1_po_1
    have mf2_po_3 : mU2 (po + 3) = y1 := (by rw [mw2hU, nu_ne _ _ (by omega)] : mU2 (po + 3) = mU1 (po + 3)).trans mf1_po_3
    have mf2_po_5 : mU2 (po + 5) = z1 := (by rw [mw2hU, nu_ne _ _ (by omega)] : mU2 (po + 5) = mU1 (po + 5)).trans mf1_po_5
    have mf2_po_7 : mU2 (po + 7) = (z1 * z1) := (by rw [mw2hU, nu_ne _ _ (by omega)] : mU2 (po + 7) = mU1 (po + 7)).trans mf1_po_7
    have mf2_po_9 : mU2 (po + 9) = (z1 * z1 * z1) := (by rw [mw2hU, nu_ne _ _ (by omega)] : mU2 (po + 9) = mU1 (po + 9)).trans mf1_po_9
    have mf2_qo_1 : mU2 (qo + 1) = x2 := (by rw [mw2hU, nu_ne _ _ (by omega)] : mU2 (qo + 1) = mU1 (qo + 1)).trans mf1_qo_1
    have mf2_qo_3 : mU2 (qo + 3) = y2 := (by rw [mw2hU, nu_ne _ _ (by omega)] : mU2 (qo + 3) = mU1 (qo + 3)).trans mf1_qo_3
    have mf2_qo_5 : mU2 (qo + 5) = z2 := (by rw [mw2hU, nu_ne _ _ (by omega)] : mU2 (qo + 5) = mU1 (qo + 5)).trans mf1_qo_5
    have mf2_qo_7 : mU2 (qo + 7) = (z2 * z2) := (by rw [mw2hU, nu_ne _ _ (by omega)] : mU2 (qo + 7) = mU1 (qo + 7)).trans mf1_qo_7
    have mf2_qo_9 : mU2 (qo + 9) = (z2 * z2 * z2) := (by rw [mw2hU, nu_ne _ _ (by omega)] : mU2 (qo + 9) = mU1 (qo + 9)).trans mf1_qo_9
    have mf2_19 : mU2 19 = A.1 := (by rw [mw2hU, nu_ne _ _ (by omega)] : mU2 19 = mU1 19).trans mf1_19
    have mf2_23 : mU2 23 = A.2.2.1 := (by rw [mw2hU, nu_ne _ _ (by omega)] : mU2 23 = mU1 23).trans mf1_23
    have mf2_54 : mU2 54 = w2 := (by rw [mw2hU, nu_ne _ _ (by omega)] : mU2 54 = mU1 54).trans mf1_54
    have mf2_44 : mU2 44 = w3 := (by rw [mw2hU, nu_ne _ _ (by omega)] : mU2 44 = mU1 44).trans mf1_44
    have mf2_56 : mU2 56 = w8 := (by rw [mw2hU, nu_ne _ _ (by omega)] : mU2 56 = mU1 56).trans mf1_56
    have mf2_52 : mU2 52 = mw2 := by rw [mw2hU, nu_self]
    have mg2 : ∀ j : Nat, (j = 48 ∨ j = 50 ∨ j = 42 ∨ j < 40 ∨ 58 < j) → j ≠ 5 → mU2 j = U j := fun j j1 j2 => (by rw [mw2hU, nu_ne _ _ (by omega)] : mU2 j = mU1 j).trans (mg1 j j1 j2)
    refine z_aload_n K d_C_gatherHeights_207 rfl ?_
    refine zx_gC K fd_C_51 rfl d_C_gatherHeights_208 ?_
    refine z_aload_n K d_C_gatherHeights_211 rfl ?_
    refine zx_gP K (by first | assumption | rfl) fd_C_65 rfl d_C_gatherHeights_212 ?_
    refine z_aload_n K d_C_gatherHeights_215 rfl ?_
    refine zx_gP K (by first | assumption | rfl) fd_C_82 rfl d_C_gatherHeights_216 ?_
    refine z_aload_n K d_C_gatherHeights_219 rfl ?_
    refine zx_gC K fd_C_38 rfl d_C_gatherHeights_220 ?_
    obtain ⟨mw3, mex3⟩ : ∃ z : Int, z = x2 * y1 := ⟨_, rfl⟩
    have mb3 : lt9 mw3 46 := by rw [mex3]; have z := lt9_mul qb.1 pb.2.1; exact z
    refine z_callV (ci := 4) (As := [.ref (a + (qo + 1)), .ref (a + (po + 3)), .ref (a + 54)]) K (v_R_multiply l G b0 h a mS2 mhV2 hN_qo.1 hN_po.2.1 (by rfl) (by rw [mf2_qo_1]; exact qb.1) (by rw [mf2_po_3]; exact pb.2.1) (by decide) (by rw [mf2_qo_1, mf2_po_3, ← mex3]; exact lt9_mono mb3 (by decide))) ca_C_71 im_R_multiply se_R_multiply rfl (by decide) (hx_R) rfl rfl (by decide) (Nat.le_of_ble_eq_true rfl) d_C_gatherHeights_223 (fun r h1 hp => ?_)
    obtain ⟨mS3, rfl, rfl, mhV3, mef3⟩ := hp
    rw [mf2_qo_1, mf2_po_3, ← mex3] at mhV3
    obtain ⟨mU3, mw3hU⟩ : ∃ W : Nat → Int, W = nu mU2 54 mw3 := ⟨_, rfl⟩
    rw [← mw3hU] at mhV3
    have mf3_po_1 : mU3 (po + 1) = x1 := (by rw [mw3hU, nu_ne _ _ (by omega)] : mU3 (po + 1) = mU2 (po + 1)).trans mf2_po_1
    have mf3_po_3 : mU3 (po + 3) = y1 := (by rw [mw3hU, nu_ne _ _ (by omega)] : mU3 (po + 3) = mU2 (po + 3)).trans mf2_po_3
    have mf3_po_5 : mU3 (po + 5) = z1 := (by rw [mw3hU, nu_ne _ _ (by omega)] : mU3 (po + 5) = mU2 (po + 5)).trans mf2_po_5
    have mf3_po_7 : mU3 (po + 7) = (z1 * z1) := (by rw [mw3hU, nu_ne _ _ (by omega)] : mU3 (po + 7) = mU2 (po + 7)).trans mf2_po_7
    have mf3_po_9 : mU3 (po + 9) = (z1 * z1 * z1) := (by rw [mw3hU, nu_ne _ _ (by omega)] : mU3 (po + 9) = mU2 (po + 9)).trans mf2_po_9
    have mf3_qo_1 : mU3 (qo + 1) = x2 := (by rw [mw3hU, nu_ne _ _ (by omega)] : mU3 (qo + 1) = mU2 (qo + 1)).trans mf2_qo_1
    have mf3_qo_3 : mU3 (qo + 3) = y2 := (by rw [mw3hU, nu_ne _ _ (by omega)] : mU3 (qo + 3) = mU2 (qo + 3)).trans mf2_qo_3
    have mf3_qo_5 : mU3 (qo + 5) = z2 := (by rw [mw3hU, nu_ne _ _ (by omega)] : mU3 (qo + 5) = mU2 (qo + 5)).trans mf2_qo_5
    have mf3_qo_7 : mU3 (qo + 7) = (z2 * z2) := (by rw [mw3hU, nu_ne _ _ (by omega)] : mU3 (qo + 7) = mU2 (qo + 7)).trans mf2_qo_7
    have mf3_qo_9 : mU3 (qo + 9) = (z2 * z2 * z2) := (by rw [mw3hU, nu_ne _ _ (by omega)] : mU3 (qo + 9) = mU2 (qo + 9)).trans mf2_qo_9
    have mf3_19 : mU3 19 = A.1 := (by rw [mw3hU, nu_ne _ _ (by omega)] : mU3 19 = mU2 19).trans mf2_19
    have mf3_23 : mU3 23 = A.2.2.1 := (by rw [mw3hU, nu_ne _ _ (by omega)] : mU3 23 = mU2 23).trans mf2_23
    have mf3_44 : mU3 44 = w3 := (by rw [mw3hU, nu_ne _ _ (by omega)] : mU3 44 = mU2 44).trans mf2_44
    have mf3_56 : mU3 56 = w8 := (by rw [mw3hU, nu_ne _ _ (by omega)] : mU3 56 = mU2 56).trans mf2_56
    have mf3_52 : mU3 52 = mw2 := (by rw [mw3hU, nu_ne _ _ (by omega)] : mU3 52 = mU2 52).trans mf2_52
    have mf3_54 : mU3 54 = mw3 := by rw [mw3hU, nu_self]
    have mg3 : ∀ j : Nat, (j = 48 ∨ j = 50 ∨ j = 42 ∨ j < 40 ∨ 58 < j) → j ≠ 5 → mU3 j = U j := fun j j1 j2 => (by rw [mw3hU, nu_ne _ _ (by omega)] : mU3 j = mU2 j).trans (mg2 j j1 j2)
    refine z_aload_n K d_C_gatherHeights_226 rfl ?_
    refine zx_gC K fd_C_51 rfl d_C_gatherHeights_227 ?_
    refine z_aload_n K d_C_gatherHeights_230 rfl ?_
    refine zx_gC K fd_C_38 rfl d_C_gatherHeights_231 ?_
    refine z_aload_n K d_C_gatherHeights_234 rfl ?_
    refine zx_gP K (by first | assumption | rfl) fd_C_68 rfl d_C_gatherHeights_235 ?_
    refine z_aload_n K d_C_gatherHeights_238 rfl ?_
    refine zx_gC K fd_C_38 rfl d_C_gatherHeights_239 ?_
    obtain ⟨mw4, mex4⟩ : ∃ z : Int, z = mw3 * z2 := ⟨_, rfl⟩
    have mb4 : lt9 mw4 55 := by rw [mex4]; have z := lt9_mul mb3 qb.2.2.1; exact z
    refine z_callV (ci := 4) (As := [.ref (a + 54), .ref (a + (qo + 5)), .ref (a + 54)]) K (v_R_multiply l G b0 h a mS3 mhV3 (by rfl) hN_qo.2.2.1 (by rfl) (by rw [mf3_54]; exact mb3) (by rw [mf3_qo_5]; exact qb.2.2.1) (by decide) (by rw [mf3_54, mf3_qo_5, ← mex4]; exact lt9_mono mb4 (by decide))) ca_C_71 im_R_multiply se_R_multiply rfl (by decide) (hx_R) rfl rfl (by decide) (Nat.le_of_ble_eq_true rfl) d_C_gatherHeights_242 (fun r h1 hp => ?_)
    obtain ⟨mS4, rfl, rfl, mhV4, mef4⟩ := hp
    rw [mf3_54, mf3_qo_5, ← mex4] at mhV4
    obtain ⟨mU4, mw4hU⟩ : ∃ W : Nat → Int, W = nu mU3 54 mw4 := ⟨_, rfl⟩
    rw [← mw4hU] at mhV4
    have mf4_po_1 : mU4 (po + 1) = x1 := (by rw [mw4hU, nu_ne _ _ (by omega)] : mU4 (po + 1) = mU3 (po + 1)).trans mf3_po_1
    have mf4_po_3 : mU4 (po + 3) = y1 := (by rw [mw4hU, nu_ne _ _ (by omega)] : mU4 (po + 3) = mU3 (po + 3)).trans mf3_po_3
    have mf4_po_5 : mU4 (po + 5) = z1 := (by rw [mw4hU, nu_ne _ _ (by omega)] : mU4 (po + 5) = mU3 (po + 5)).trans mf3_po_5
    have mf4_po_7 : mU4 (po + 7) = (z1 * z1) := (by rw [mw4hU, nu_ne _ _ (by omega)] : mU4 (po + 7) = mU3 (po + 7)).trans mf3_po_7
    have mf4_po_9 : mU4 (po + 9) = (z1 * z1 * z1) := (by rw [mw4hU, nu_ne _ _ (by omega)] : mU4 (po + 9) = mU3 (po + 9)).trans mf3_po_9
    have mf4_qo_1 : mU4 (qo + 1) = x2 := (by rw [mw4hU, nu_ne _ _ (by omega)] : mU4 (qo + 1) = mU3 (qo + 1)).trans mf3_qo_1
    have mf4_qo_3 : mU4 (qo + 3) = y2 := (by rw [mw4hU, nu_ne _ _ (by omega)] : mU4 (qo + 3) = mU3 (qo + 3)).trans mf3_qo_3
    have mf4_qo_5 : mU4 (qo + 5) = z2 := (by rw [mw4hU, nu_ne _ _ (by omega)] : mU4 (qo + 5) = mU3 (qo + 5)).trans mf3_qo_5
    have mf4_qo_7 : mU4 (qo + 7) = (z2 * z2) := (by rw [mw4hU, nu_ne _ _ (by omega)] : mU4 (qo + 7) = mU3 (qo + 7)).trans mf3_qo_7
    have mf4_qo_9 : mU4 (qo + 9) = (z2 * z2 * z2) := (by rw [mw4hU, nu_ne _ _ (by omega)] : mU4 (qo + 9) = mU3 (qo + 9)).trans mf3_qo_9
    have mf4_19 : mU4 19 = A.1 := (by rw [mw4hU, nu_ne _ _ (by omega)] : mU4 19 = mU3 19).trans mf3_19
    have mf4_23 : mU4 23 = A.2.2.1 := (by rw [mw4hU, nu_ne _ _ (by omega)] : mU4 23 = mU3 23).trans mf3_23
    have mf4_44 : mU4 44 = w3 := (by rw [mw4hU, nu_ne _ _ (by omega)] : mU4 44 = mU3 44).trans mf3_44
    have mf4_56 : mU4 56 = w8 := (by rw [mw4hU, nu_ne _ _ (by omega)] : mU4 56 = mU3 56).trans mf3_56
    have mf4_52 : mU4 52 = mw2 := (by rw [mw4hU, nu_ne _ _ (by omega)] : mU4 52 = mU3 52).trans mf3_52
    have mf4_54 : mU4 54 = mw4 := by rw [mw4hU, nu_self]
    have mg4 : ∀ j : Nat, (j = 48 ∨ j = 50 ∨ j = 42 ∨ j < 40 ∨ 58 < j) → j ≠ 5 → mU4 j = U j := fun j j1 j2 => (by rw [mw4hU, nu_ne _ _ (by omega)] : mU4 j = mU3 j).trans (mg3 j j1 j2)
    refine z_aload_n K d_C_gatherHeights_245 rfl ?_
    refine zx_gC K fd_C_51 rfl d_C_gatherHeights_246 ?_
    refine z_aload_n K d_C_gatherHeights_249 rfl ?_
    refine zx_gC K fd_C_35 rfl d_C_gatherHeights_250 ?_
    refine z_aload_n K d_C_gatherHeights_253 rfl ?_
    refine zx_gC K fd_C_38 rfl d_C_gatherHeights_254 ?_
    refine z_aload_n K d_C_gatherHeights_257 rfl ?_
    refine zx_gC K fd_C_35 rfl d_C_gatherHeights_258 ?_
    obtain ⟨mw5, mex5⟩ : ∃ z : Int, z = mw2 + mw4 := ⟨_, rfl⟩
    have mb5 : lt9 mw5 56 := by rw [mex5]; have z := lt9_add mb2 mb4; exact z
    refine z_callV (ci := 4) (As := [.ref (a + 52), .ref (a + 54), .ref (a + 52)]) K (v_R_add l G b0 h a mS4 mhV4 (by rfl) (by rfl) (by rfl) (by rw [mf4_52]; exact lt9_mono mb2 (by decide)) (by rw [mf4_54]; exact lt9_mono mb4 (by decide)) (by rw [mf4_52, mf4_54, ← mex5]; exact lt9_mono mb5 (by decide))) ca_C_147 im_R_add se_R_add rfl (by decide) (hx_R) rfl rfl (by decide) (Nat.le_of_ble_eq_true rfl) d_C_gatherHeights_261 (fun r h1 hp => ?_)
    obtain ⟨mS5, rfl, rfl, mhV5, mef5⟩ := hp
    rw [mf4_52, mf4_54, ← mex5] at mhV5
    obtain ⟨mU5, mw5hU⟩ : ∃ W : Nat → Int, W = nu mU4 52 mw5 := ⟨_, rfl⟩
    rw [← mw5hU] at mhV5
    have mf5_po_1 : mU5 (po + 1) = x1 := (by rw [mw5hU, nu_ne _ _ (by omega)] : mU5 (po + 1) = mU4 (po + 1)).trans mf4_po_1
    have mf5_po_3 : mU5 (po + 3) = y1 := (by rw [mw5hU, nu_ne _ _ (by omega)] : mU5 (po + 3) = mU4 (po + 3)).trans mf4_po_3
    have mf5_po_5 : mU5 (po + 5) = z1 := (by rw [mw5hU, nu_ne _ _ (by omega)] : mU5 (po + 5) = mU4 (po + 5)).trans mf4_po_5
    have mf5_po_7 : mU5 (po + 7) = (z1 * z1) := (by rw [mw5hU, nu_ne _ _ (by omega)] : mU5 (po + 7) = mU4 (po + 7)).trans mf4_po_7
    have mf5_po_9 : mU5 (po + 9) = (z1 * z1 * z1) := (by rw [mw5hU, nu_ne _ _ (by omega)] : mU5 (po + 9) = mU4 (po + 9)).trans mf4_po_9
    have mf5_qo_1 : mU5 (qo + 1) = x2 := (by rw [mw5hU, nu_ne _ _ (by omega)] : mU5 (qo + 1) = mU4 (qo + 1)).trans mf4_qo_1
    have mf5_qo_3 : mU5 (qo + 3) = y2 := (by rw [mw5hU, nu_ne _ _ (by omega)] : mU5 (qo + 3) = mU4 (qo + 3)).trans mf4_qo_3
    have mf5_qo_5 : mU5 (qo + 5) = z2 := (by rw [mw5hU, nu_ne _ _ (by omega)] : mU5 (qo + 5) = mU4 (qo + 5)).trans mf4_qo_5
    have mf5_qo_7 : mU5 (qo + 7) = (z2 * z2) := (by rw [mw5hU, nu_ne _ _ (by omega)] : mU5 (qo + 7) = mU4 (qo + 7)).trans mf4_qo_7
    have mf5_qo_9 : mU5 (qo + 9) = (z2 * z2 * z2) := (by rw [mw5hU, nu_ne _ _ (by omega)] : mU5 (qo + 9) = mU4 (qo + 9)).trans mf4_qo_9
    have mf5_19 : mU5 19 = A.1 := (by rw [mw5hU, nu_ne _ _ (by omega)] : mU5 19 = mU4 19).trans mf4_19
    have mf5_23 : mU5 23 = A.2.2.1 := (by rw [mw5hU, nu_ne _ _ (by omega)] : mU5 23 = mU4 23).trans mf4_23
    have mf5_44 : mU5 44 = w3 := (by rw [mw5hU, nu_ne _ _ (by omega)] : mU5 44 = mU4 44).trans mf4_44
    have mf5_56 : mU5 56 = w8 := (by rw [mw5hU, nu_ne _ _ (by omega)] : mU5 56 = mU4 56).trans mf4_56
    have mf5_54 : mU5 54 = mw4 := (by rw [mw5hU, nu_ne _ _ (by omega)] : mU5 54 = mU4 54).trans mf4_54
    have mf5_52 : mU5 52 = mw5 := by rw [mw5hU, nu_self]
    have mg5 : ∀ j : Nat, (j = 48 ∨ j = 50 ∨ j = 42 ∨ j < 40 ∨ 58 < j) → j ≠ 5 → mU5 j = U j := fun j j1 j2 => (by rw [mw5hU, nu_ne _ _ (by omega)] : mU5 j = mU4 j).trans (mg4 j j1 j2)
    refine z_aload_n K d_C_gatherHeights_264 rfl ?_
    refine zx_gC K fd_C_51 rfl d_C_gatherHeights_265 ?_
    refine z_aload_n K d_C_gatherHeights_268 rfl ?_
    refine zx_gC K fd_C_47 rfl d_C_gatherHeights_269 ?_
    refine zx_gQ K fd_C_77 rfl d_C_gatherHeights_272 ?_
    refine z_aload_n K d_C_gatherHeights_275 rfl ?_
    refine zx_gC K fd_C_35 rfl d_C_gatherHeights_276 ?_
    refine z_aload_n K d_C_gatherHeights_279 rfl ?_
    refine zx_gC K fd_C_41 rfl d_C_gatherHeights_280 ?_
    have mb6p : lt9 (A.1 * mw5) 57 := by have z := lt9_mul bq.1 mb5; exact z
    obtain ⟨mw6, mex6⟩ : ∃ z : Int, z = w8 + A.1 * mw5 := ⟨_, rfl⟩
    have mb6 : lt9 mw6 60 := by rw [mex6]; have z := lt9_add b8 mb6p; exact z
    refine z_callV (ci := 4) (As := [.ref (a + 19), .ref (a + 52), .ref (a + 56)]) K (v_R_addProduct l G b0 h a mS5 mhV5 (by rfl) (by rfl) (by rfl) (by omega) (by rw [mf5_19]; exact bq.1) (by rw [mf5_52]; exact mb5) (by decide) (by rw [mf5_56]; exact lt9_mono b8 (by decide)) (by rw [mf5_19, mf5_52]; exact lt9_mono mb6p (by decide)) (by rw [mf5_56, mf5_19, mf5_52, ← mex6]; exact lt9_mono mb6 (by decide))) ca_C_85 im_R_addProduct se_R_addProduct rfl (by decide) (hx_R) rfl rfl (by decide) (Nat.le_of_ble_eq_true rfl) d_C_gatherHeights_283 (fun r h1 hp => ?_)
    obtain ⟨mS6, rfl, rfl, ⟨mU6, mhV6, mw6u, mw6w⟩, mef6⟩ := hp
    rw [mf5_56, mf5_19, mf5_52, ← mex6] at mw6u
    have mf6_po_1 : mU6 (po + 1) = x1 := (mw6w _ (by omega) (by omega)).trans mf5_po_1
    have mf6_po_3 : mU6 (po + 3) = y1 := (mw6w _ (by omega) (by omega)).trans mf5_po_3
    have mf6_po_5 : mU6 (po + 5) = z1 := (mw6w _ (by omega) (by omega)).trans mf5_po_5
    have mf6_po_7 : mU6 (po + 7) = (z1 * z1) := (mw6w _ (by omega) (by omega)).trans mf5_po_7
    have mf6_po_9 : mU6 (po + 9) = (z1 * z1 * z1) := (mw6w _ (by omega) (by omega)).trans mf5_po_9
    have mf6_qo_1 : mU6 (qo + 1) = x2 := (mw6w _ (by omega) (by omega)).trans mf5_qo_1
    have mf6_qo_3 : mU6 (qo + 3) = y2 := (mw6w _ (by omega) (by omega)).trans mf5_qo_3
    have mf6_qo_5 : mU6 (qo + 5) = z2 := (mw6w _ (by omega) (by omega)).trans mf5_qo_5
    have mf6_qo_7 : mU6 (qo + 7) = (z2 * z2) := (mw6w _ (by omega) (by omega)).trans mf5_qo_7
    have mf6_qo_9 : mU6 (qo + 9) = (z2 * z2 * z2) := (mw6w _ (by omega) (by omega)).trans mf5_qo_9
    have mf6_19 : mU6 19 = A.1 := (mw6w _ (by omega) (by omega)).trans mf5_19
    have mf6_23 : mU6 23 = A.2.2.1 := (mw6w _ (by omega) (by omega)).trans mf5_23
    have mf6_44 : mU6 44 = w3 := (mw6w _ (by omega) (by omega)).trans mf5_44
    have mf6_54 : mU6 54 = mw4 := (mw6w _ (by omega) (by omega)).trans mf5_54
    have mf6_52 : mU6 52 = mw5 := (mw6w _ (by omega) (by omega)).trans mf5_52
    have mg6 : ∀ j : Nat, (j = 48 ∨ j = 50 ∨ j = 42 ∨ j < 40 ∨ 58 < j) → j ≠ 5 → mU6 j = U j := fun j j1 j2 => (mw6w j (by omega) j2).trans (mg5 j j1 j2)
    refine z_vret K hr hlk d_C_gatherHeights_286 ⟨_, rfl, rfl, ⟨_, mhV6, ⟨mf6_44.trans ?_, mw6u.trans ?_, ?_⟩, mg6⟩, (mef6.trans (mef5.trans (mef4.trans (mef3.trans (mef2.trans (mef1.trans (ef8.trans (ef7.trans (ef6.trans (ef5.trans (ef4.trans (ef3.trans (ef2.trans ef1)))))))))))))⟩
    · subst mex6 mex5 mex4 mex3 mex2 mex1 ex8 ex7 ex6 ex5 ex4 ex3 ex2 ex1; unfold cN; rfl
    · subst mex6 mex5 mex4 mex3 mex2 mex1 ex8 ex7 ex6 ex5 ex4 ex3 ex2 ex1; unfold kTwist; grind
    · rw [mw6u]; exact lt9_mono mb6 (by decide)
  · have ha : A.1 = 0 := c2.1 (by omega)
    refine z_vret K hr hlk d_C_gatherHeights_168 ⟨_, rfl, rfl, ⟨_, hV8, ⟨f8_44.trans ?_, f8_56.trans ?_, ?_⟩, g8⟩, (ef8.trans (ef7.trans (ef6.trans (ef5.trans (ef4.trans (ef3.trans (ef2.trans ef1)))))))⟩
    · subst ex8 ex7 ex6 ex5 ex4 ex3 ex2 ex1; unfold cN; rfl
    · subst ex8 ex7 ex6 ex5 ex4 ex3 ex2 ex1; unfold kTwist; rw [ha]; grind
    · rw [f8_56]; exact lt9_mono b8 (by decide)
set_option maxHeartbeats 4000000 in
set_option maxRecDepth 100000 in
theorem v_C_drawChord (l : Launch) (G : zG) (b0 : Nat) (h : zH) (a : Nat) (S : xS) {U : Nat → Int} (hV : VX S U) {x1 y1 z1 : Int} {po : Nat} (hp : isP po = true) (pv : PV U po x1 y1 z1) (pb : PB x1 y1 z1) {x2 y2 z2 : Int} {qo : Nat} (hq : isP qo = true) (qv : PV U qo x2 y2 z2) (qb : PB x2 y2 z2) {A : ecE} (eq : EQ U A) (hA : ecOk A) {L1 R1 T1 : Int} (hL : U 48 = L1) (hR1 : U 50 = R1) (hT : U 56 = T1) (eL : L1 = x1 * (z2 * z2)) (eR : R1 = x2 * (z1 * z1)) (eT : T1 = kTwist A x1 y1 z1 x2 y2 z2) (bL : lt9 L1 36) (bR : lt9 R1 36) (bT : lt9 T1 60) : xMet l G b0 y_C_drawChord b_C_drawChord 3 none 4 122 h a [.ref (a + 39), .ref (a + po), .ref (a + qo)] S (fun r S' => r = none ∧ (∃ U', VX S' U' ∧ (U' 40 = kTop A x1 y1 z1 x2 y2 z2 ∧ lt9 (U' 40) 79) ∧ ∀ j : Nat, (j = 42 ∨ j = 44 ∨ j < 40 ∨ 58 < j) → j ≠ 5 → U' j = U j) ∧ S'.f = S.f) :=
  z_met (by decide) (Nat.le_of_ble_eq_true rfl) fun p e s m below meth c K hr hlk hnm => by
  have hN_po := (isP_lt hp).2.2.2
  have hR_po := nR_P hp
  have po75 := isP_75 hp
  have hN_qo := (isP_lt hq).2.2.2
  have hR_qo := nR_P hq
  have qo75 := isP_75 hq
  have bq := hA.bq
  refine z_aload_n K d_C_drawChord_0 rfl ?_
  refine zx_gC K fd_C_51 rfl d_C_drawChord_1 ?_
  refine z_aload_n K d_C_drawChord_4 rfl ?_
  refine zx_gP K (by first | assumption | rfl) fd_C_68 rfl d_C_drawChord_5 ?_
  refine z_aload_n K d_C_drawChord_8 rfl ?_
  refine zx_gP K (by first | assumption | rfl) fd_C_68 rfl d_C_drawChord_9 ?_
  refine z_aload_n K d_C_drawChord_12 rfl ?_
  refine zx_gC K fd_C_35 rfl d_C_drawChord_13 ?_
  obtain ⟨w1, ex1⟩ : ∃ z : Int, z = z1 * z2 := ⟨_, rfl⟩
  have b1 : lt9 w1 18 := by rw [ex1]; have z := lt9_mul pb.2.2.1 qb.2.2.1; exact z
  refine z_callV (ci := 4) (As := [.ref (a + (po + 5)), .ref (a + (qo + 5)), .ref (a + 52)]) K (v_R_multiply l G b0 h a S hV hN_po.2.2.1 hN_qo.2.2.1 (by rfl) (by rw [pv.2.2.1]; exact pb.2.2.1) (by rw [qv.2.2.1]; exact qb.2.2.1) (by decide) (by rw [pv.2.2.1, qv.2.2.1, ← ex1]; exact lt9_mono b1 (by decide))) ca_C_71 im_R_multiply se_R_multiply rfl (by decide) (hx_R) rfl rfl (by decide) (Nat.le_of_ble_eq_true rfl) d_C_drawChord_16 (fun r h1 hp => ?_)
  obtain ⟨S1, rfl, rfl, hV1, ef1⟩ := hp
  rw [pv.2.2.1, qv.2.2.1, ← ex1] at hV1
  obtain ⟨U1, w1hU⟩ : ∃ W : Nat → Int, W = nu U 52 w1 := ⟨_, rfl⟩
  rw [← w1hU] at hV1
  have f1_po_1 : U1 (po + 1) = x1 := (by rw [w1hU, nu_ne _ _ (by omega)] : U1 (po + 1) = U (po + 1)).trans pv.1
  have f1_po_3 : U1 (po + 3) = y1 := (by rw [w1hU, nu_ne _ _ (by omega)] : U1 (po + 3) = U (po + 3)).trans pv.2.1
  have f1_po_5 : U1 (po + 5) = z1 := (by rw [w1hU, nu_ne _ _ (by omega)] : U1 (po + 5) = U (po + 5)).trans pv.2.2.1
  have f1_po_7 : U1 (po + 7) = (z1 * z1) := (by rw [w1hU, nu_ne _ _ (by omega)] : U1 (po + 7) = U (po + 7)).trans pv.2.2.2.1
  have f1_po_9 : U1 (po + 9) = (z1 * z1 * z1) := (by rw [w1hU, nu_ne _ _ (by omega)] : U1 (po + 9) = U (po + 9)).trans pv.2.2.2.2
  have f1_qo_1 : U1 (qo + 1) = x2 := (by rw [w1hU, nu_ne _ _ (by omega)] : U1 (qo + 1) = U (qo + 1)).trans qv.1
  have f1_qo_3 : U1 (qo + 3) = y2 := (by rw [w1hU, nu_ne _ _ (by omega)] : U1 (qo + 3) = U (qo + 3)).trans qv.2.1
  have f1_qo_5 : U1 (qo + 5) = z2 := (by rw [w1hU, nu_ne _ _ (by omega)] : U1 (qo + 5) = U (qo + 5)).trans qv.2.2.1
  have f1_qo_7 : U1 (qo + 7) = (z2 * z2) := (by rw [w1hU, nu_ne _ _ (by omega)] : U1 (qo + 7) = U (qo + 7)).trans qv.2.2.2.1
  have f1_qo_9 : U1 (qo + 9) = (z2 * z2 * z2) := (by rw [w1hU, nu_ne _ _ (by omega)] : U1 (qo + 9) = U (qo + 9)).trans qv.2.2.2.2
  have f1_25 : U1 25 = A.2.2.2.1 := (by rw [w1hU, nu_ne _ _ (by omega)] : U1 25 = U 25).trans eq.2.2.2.1
  have f1_29 : U1 29 = (2 * A.2.1) := (by rw [w1hU, nu_ne _ _ (by omega)] : U1 29 = U 29).trans eq.2.2.2.2.2.1
  have f1_31 : U1 31 = (2 * A.2.2.2.2) := (by rw [w1hU, nu_ne _ _ (by omega)] : U1 31 = U 31).trans eq.2.2.2.2.2.2.1
  have f1_48 : U1 48 = L1 := (by rw [w1hU, nu_ne _ _ (by omega)] : U1 48 = U 48).trans hL
  have f1_50 : U1 50 = R1 := (by rw [w1hU, nu_ne _ _ (by omega)] : U1 50 = U 50).trans hR1
  have f1_56 : U1 56 = T1 := (by rw [w1hU, nu_ne _ _ (by omega)] : U1 56 = U 56).trans hT
  have f1_52 : U1 52 = w1 := by rw [w1hU, nu_self]
  have g1 : ∀ j : Nat, (j = 42 ∨ j = 44 ∨ j < 40 ∨ 58 < j) → j ≠ 5 → U1 j = U j := fun j j1 j2 => (by rw [w1hU, nu_ne _ _ (by omega)] : U1 j = U j).trans ((fun j _ _ => rfl) j j1 j2)
  refine z_aload_n K d_C_drawChord_19 rfl ?_
  refine zx_gC K fd_C_51 rfl d_C_drawChord_20 ?_
  refine z_aload_n K d_C_drawChord_23 rfl ?_
  refine zx_gC K fd_C_41 rfl d_C_drawChord_24 ?_
  refine z_aload_n K d_C_drawChord_27 rfl ?_
  refine zx_gC K fd_C_35 rfl d_C_drawChord_28 ?_
  refine z_aload_n K d_C_drawChord_31 rfl ?_
  refine zx_gC K fd_C_41 rfl d_C_drawChord_32 ?_
  obtain ⟨w2, ex2⟩ : ∃ z : Int, z = T1 * w1 := ⟨_, rfl⟩
  have b2 : lt9 w2 78 := by rw [ex2]; have z := lt9_mul bT b1; exact z
  refine z_callV (ci := 4) (As := [.ref (a + 56), .ref (a + 52), .ref (a + 56)]) K (v_R_multiply l G b0 h a S1 hV1 (by rfl) (by rfl) (by rfl) (by rw [f1_56]; exact bT) (by rw [f1_52]; exact b1) (by decide) (by rw [f1_56, f1_52, ← ex2]; exact lt9_mono b2 (by decide))) ca_C_71 im_R_multiply se_R_multiply rfl (by decide) (hx_R) rfl rfl (by decide) (Nat.le_of_ble_eq_true rfl) d_C_drawChord_35 (fun r h1 hp => ?_)
  obtain ⟨S2, rfl, rfl, hV2, ef2⟩ := hp
  rw [f1_56, f1_52, ← ex2] at hV2
  obtain ⟨U2, w2hU⟩ : ∃ W : Nat → Int, W = nu U1 56 w2 := ⟨_, rfl⟩
  rw [← w2hU] at hV2
  have f2_po_1 : U2 (po + 1) = x1 := (by rw [w2hU, nu_ne _ _ (by omega)] : U2 (po + 1) = U1 (po + 1)).trans f1_po_1
  have f2_po_3 : U2 (po + 3) = y1 := (by rw [w2hU, nu_ne _ _ (by omega)] : U2 (po + 3) = U1 (po + 3)).trans f1_po_3
  have f2_po_5 : U2 (po + 5) = z1 := (by rw [w2hU, nu_ne _ _ (by omega)] : U2 (po + 5) = U1 (po + 5)).trans f1_po_5
  have f2_po_7 : U2 (po + 7) = (z1 * z1) := (by rw [w2hU, nu_ne _ _ (by omega)] : U2 (po + 7) = U1 (po + 7)).trans f1_po_7
  have f2_po_9 : U2 (po + 9) = (z1 * z1 * z1) := (by rw [w2hU, nu_ne _ _ (by omega)] : U2 (po + 9) = U1 (po + 9)).trans f1_po_9
  have f2_qo_1 : U2 (qo + 1) = x2 := (by rw [w2hU, nu_ne _ _ (by omega)] : U2 (qo + 1) = U1 (qo + 1)).trans f1_qo_1
  have f2_qo_3 : U2 (qo + 3) = y2 := (by rw [w2hU, nu_ne _ _ (by omega)] : U2 (qo + 3) = U1 (qo + 3)).trans f1_qo_3
  have f2_qo_5 : U2 (qo + 5) = z2 := (by rw [w2hU, nu_ne _ _ (by omega)] : U2 (qo + 5) = U1 (qo + 5)).trans f1_qo_5
  have f2_qo_7 : U2 (qo + 7) = (z2 * z2) := (by rw [w2hU, nu_ne _ _ (by omega)] : U2 (qo + 7) = U1 (qo + 7)).trans f1_qo_7
  have f2_qo_9 : U2 (qo + 9) = (z2 * z2 * z2) := (by rw [w2hU, nu_ne _ _ (by omega)] : U2 (qo + 9) = U1 (qo + 9)).trans f1_qo_9
  have f2_25 : U2 25 = A.2.2.2.1 := (by rw [w2hU, nu_ne _ _ (by omega)] : U2 25 = U1 25).trans f1_25
  have f2_29 : U2 29 = (2 * A.2.1) := (by rw [w2hU, nu_ne _ _ (by omega)] : U2 29 = U1 29).trans f1_29
  have f2_31 : U2 31 = (2 * A.2.2.2.2) := (by rw [w2hU, nu_ne _ _ (by omega)] : U2 31 = U1 31).trans f1_31
  have f2_48 : U2 48 = L1 := (by rw [w2hU, nu_ne _ _ (by omega)] : U2 48 = U1 48).trans f1_48
  have f2_50 : U2 50 = R1 := (by rw [w2hU, nu_ne _ _ (by omega)] : U2 50 = U1 50).trans f1_50
  have f2_52 : U2 52 = w1 := (by rw [w2hU, nu_ne _ _ (by omega)] : U2 52 = U1 52).trans f1_52
  have f2_56 : U2 56 = w2 := by rw [w2hU, nu_self]
  have g2 : ∀ j : Nat, (j = 42 ∨ j = 44 ∨ j < 40 ∨ 58 < j) → j ≠ 5 → U2 j = U j := fun j j1 j2 => (by rw [w2hU, nu_ne _ _ (by omega)] : U2 j = U1 j).trans (g1 j j1 j2)
  refine z_aload_n K d_C_drawChord_38 rfl ?_
  refine zx_gC K fd_C_51 rfl d_C_drawChord_39 ?_
  refine z_aload_n K d_C_drawChord_42 rfl ?_
  refine zx_gC K fd_C_35 rfl d_C_drawChord_43 ?_
  refine z_aload_n K d_C_drawChord_46 rfl ?_
  refine zx_gC K fd_C_35 rfl d_C_drawChord_47 ?_
  refine z_aload_n K d_C_drawChord_50 rfl ?_
  refine zx_gC K fd_C_35 rfl d_C_drawChord_51 ?_
  obtain ⟨w3, ex3⟩ : ∃ z : Int, z = w1 * w1 := ⟨_, rfl⟩
  have b3 : lt9 w3 36 := by rw [ex3]; have z := lt9_mul b1 b1; exact z
  refine z_callV (ci := 4) (As := [.ref (a + 52), .ref (a + 52), .ref (a + 52)]) K (v_R_multiply l G b0 h a S2 hV2 (by rfl) (by rfl) (by rfl) (by rw [f2_52]; exact b1) (by rw [f2_52]; exact b1) (by decide) (by rw [f2_52, ← ex3]; exact lt9_mono b3 (by decide))) ca_C_71 im_R_multiply se_R_multiply rfl (by decide) (hx_R) rfl rfl (by decide) (Nat.le_of_ble_eq_true rfl) d_C_drawChord_54 (fun r h1 hp => ?_)
  obtain ⟨S3, rfl, rfl, hV3, ef3⟩ := hp
  rw [f2_52, ← ex3] at hV3
  obtain ⟨U3, w3hU⟩ : ∃ W : Nat → Int, W = nu U2 52 w3 := ⟨_, rfl⟩
  rw [← w3hU] at hV3
  have f3_po_1 : U3 (po + 1) = x1 := (by rw [w3hU, nu_ne _ _ (by omega)] : U3 (po + 1) = U2 (po + 1)).trans f2_po_1
  have f3_po_3 : U3 (po + 3) = y1 := (by rw [w3hU, nu_ne _ _ (by omega)] : U3 (po + 3) = U2 (po + 3)).trans f2_po_3
  have f3_po_5 : U3 (po + 5) = z1 := (by rw [w3hU, nu_ne _ _ (by omega)] : U3 (po + 5) = U2 (po + 5)).trans f2_po_5
  have f3_po_7 : U3 (po + 7) = (z1 * z1) := (by rw [w3hU, nu_ne _ _ (by omega)] : U3 (po + 7) = U2 (po + 7)).trans f2_po_7
  have f3_po_9 : U3 (po + 9) = (z1 * z1 * z1) := (by rw [w3hU, nu_ne _ _ (by omega)] : U3 (po + 9) = U2 (po + 9)).trans f2_po_9
  have f3_qo_1 : U3 (qo + 1) = x2 := (by rw [w3hU, nu_ne _ _ (by omega)] : U3 (qo + 1) = U2 (qo + 1)).trans f2_qo_1
  have f3_qo_3 : U3 (qo + 3) = y2 := (by rw [w3hU, nu_ne _ _ (by omega)] : U3 (qo + 3) = U2 (qo + 3)).trans f2_qo_3
  have f3_qo_5 : U3 (qo + 5) = z2 := (by rw [w3hU, nu_ne _ _ (by omega)] : U3 (qo + 5) = U2 (qo + 5)).trans f2_qo_5
  have f3_qo_7 : U3 (qo + 7) = (z2 * z2) := (by rw [w3hU, nu_ne _ _ (by omega)] : U3 (qo + 7) = U2 (qo + 7)).trans f2_qo_7
  have f3_qo_9 : U3 (qo + 9) = (z2 * z2 * z2) := (by rw [w3hU, nu_ne _ _ (by omega)] : U3 (qo + 9) = U2 (qo + 9)).trans f2_qo_9
  have f3_25 : U3 25 = A.2.2.2.1 := (by rw [w3hU, nu_ne _ _ (by omega)] : U3 25 = U2 25).trans f2_25
  have f3_29 : U3 29 = (2 * A.2.1) := (by rw [w3hU, nu_ne _ _ (by omega)] : U3 29 = U2 29).trans f2_29
  have f3_31 : U3 31 = (2 * A.2.2.2.2) := (by rw [w3hU, nu_ne _ _ (by omega)] : U3 31 = U2 31).trans f2_31
  have f3_48 : U3 48 = L1 := (by rw [w3hU, nu_ne _ _ (by omega)] : U3 48 = U2 48).trans f2_48
  have f3_50 : U3 50 = R1 := (by rw [w3hU, nu_ne _ _ (by omega)] : U3 50 = U2 50).trans f2_50
  have f3_56 : U3 56 = w2 := (by rw [w3hU, nu_ne _ _ (by omega)] : U3 56 = U2 56).trans f2_56
  have f3_52 : U3 52 = w3 := by rw [w3hU, nu_self]
  have g3 : ∀ j : Nat, (j = 42 ∨ j = 44 ∨ j < 40 ∨ 58 < j) → j ≠ 5 → U3 j = U j := fun j j1 j2 => (by rw [w3hU, nu_ne _ _ (by omega)] : U3 j = U2 j).trans (g2 j j1 j2)
  refine z_aload_n K d_C_drawChord_57 rfl ?_
  refine zx_gC K fd_C_51 rfl d_C_drawChord_58 ?_
  refine z_aload_n K d_C_drawChord_61 rfl ?_
  refine zx_gC K fd_C_29 rfl d_C_drawChord_62 ?_
  refine z_aload_n K d_C_drawChord_65 rfl ?_
  refine zx_gC K fd_C_32 rfl d_C_drawChord_66 ?_
  refine z_aload_n K d_C_drawChord_69 rfl ?_
  refine zx_gC K fd_C_29 rfl d_C_drawChord_70 ?_
  obtain ⟨w4, ex4⟩ : ∃ z : Int, z = L1 + R1 := ⟨_, rfl⟩
  have b4 : lt9 w4 37 := by rw [ex4]; have z := lt9_add bL bR; exact z
  refine z_callV (ci := 4) (As := [.ref (a + 48), .ref (a + 50), .ref (a + 48)]) K (v_R_add l G b0 h a S3 hV3 (by rfl) (by rfl) (by rfl) (by rw [f3_48]; exact lt9_mono bL (by decide)) (by rw [f3_50]; exact lt9_mono bR (by decide)) (by rw [f3_48, f3_50, ← ex4]; exact lt9_mono b4 (by decide))) ca_C_147 im_R_add se_R_add rfl (by decide) (hx_R) rfl rfl (by decide) (Nat.le_of_ble_eq_true rfl) d_C_drawChord_73 (fun r h1 hp => ?_)
  obtain ⟨S4, rfl, rfl, hV4, ef4⟩ := hp
  rw [f3_48, f3_50, ← ex4] at hV4
  obtain ⟨U4, w4hU⟩ : ∃ W : Nat → Int, W = nu U3 48 w4 := ⟨_, rfl⟩
  rw [← w4hU] at hV4
  have f4_po_1 : U4 (po + 1) = x1 := (by rw [w4hU, nu_ne _ _ (by omega)] : U4 (po + 1) = U3 (po + 1)).trans f3_po_1
  have f4_po_3 : U4 (po + 3) = y1 := (by rw [w4hU, nu_ne _ _ (by omega)] : U4 (po + 3) = U3 (po + 3)).trans f3_po_3
  have f4_po_5 : U4 (po + 5) = z1 := (by rw [w4hU, nu_ne _ _ (by omega)] : U4 (po + 5) = U3 (po + 5)).trans f3_po_5
  have f4_po_7 : U4 (po + 7) = (z1 * z1) := (by rw [w4hU, nu_ne _ _ (by omega)] : U4 (po + 7) = U3 (po + 7)).trans f3_po_7
  have f4_po_9 : U4 (po + 9) = (z1 * z1 * z1) := (by rw [w4hU, nu_ne _ _ (by omega)] : U4 (po + 9) = U3 (po + 9)).trans f3_po_9
  have f4_qo_1 : U4 (qo + 1) = x2 := (by rw [w4hU, nu_ne _ _ (by omega)] : U4 (qo + 1) = U3 (qo + 1)).trans f3_qo_1
  have f4_qo_3 : U4 (qo + 3) = y2 := (by rw [w4hU, nu_ne _ _ (by omega)] : U4 (qo + 3) = U3 (qo + 3)).trans f3_qo_3
  have f4_qo_5 : U4 (qo + 5) = z2 := (by rw [w4hU, nu_ne _ _ (by omega)] : U4 (qo + 5) = U3 (qo + 5)).trans f3_qo_5
  have f4_qo_7 : U4 (qo + 7) = (z2 * z2) := (by rw [w4hU, nu_ne _ _ (by omega)] : U4 (qo + 7) = U3 (qo + 7)).trans f3_qo_7
  have f4_qo_9 : U4 (qo + 9) = (z2 * z2 * z2) := (by rw [w4hU, nu_ne _ _ (by omega)] : U4 (qo + 9) = U3 (qo + 9)).trans f3_qo_9
  have f4_25 : U4 25 = A.2.2.2.1 := (by rw [w4hU, nu_ne _ _ (by omega)] : U4 25 = U3 25).trans f3_25
  have f4_29 : U4 29 = (2 * A.2.1) := (by rw [w4hU, nu_ne _ _ (by omega)] : U4 29 = U3 29).trans f3_29
  have f4_31 : U4 31 = (2 * A.2.2.2.2) := (by rw [w4hU, nu_ne _ _ (by omega)] : U4 31 = U3 31).trans f3_31
  have f4_50 : U4 50 = R1 := (by rw [w4hU, nu_ne _ _ (by omega)] : U4 50 = U3 50).trans f3_50
  have f4_56 : U4 56 = w2 := (by rw [w4hU, nu_ne _ _ (by omega)] : U4 56 = U3 56).trans f3_56
  have f4_52 : U4 52 = w3 := (by rw [w4hU, nu_ne _ _ (by omega)] : U4 52 = U3 52).trans f3_52
  have f4_48 : U4 48 = w4 := by rw [w4hU, nu_self]
  have g4 : ∀ j : Nat, (j = 42 ∨ j = 44 ∨ j < 40 ∨ 58 < j) → j ≠ 5 → U4 j = U j := fun j j1 j2 => (by rw [w4hU, nu_ne _ _ (by omega)] : U4 j = U3 j).trans (g3 j j1 j2)
  refine z_aload_n K d_C_drawChord_76 rfl ?_
  refine zx_gC K fd_C_51 rfl d_C_drawChord_77 ?_
  refine z_aload_n K d_C_drawChord_80 rfl ?_
  refine zx_gP K (by first | assumption | rfl) fd_C_65 rfl d_C_drawChord_81 ?_
  refine z_aload_n K d_C_drawChord_84 rfl ?_
  refine zx_gP K (by first | assumption | rfl) fd_C_65 rfl d_C_drawChord_85 ?_
  refine z_aload_n K d_C_drawChord_88 rfl ?_
  refine zx_gC K fd_C_38 rfl d_C_drawChord_89 ?_
  obtain ⟨w5, ex5⟩ : ∃ z : Int, z = x1 * x2 := ⟨_, rfl⟩
  have b5 : lt9 w5 36 := by rw [ex5]; have z := lt9_mul pb.1 qb.1; exact z
  refine z_callV (ci := 4) (As := [.ref (a + (po + 1)), .ref (a + (qo + 1)), .ref (a + 54)]) K (v_R_multiply l G b0 h a S4 hV4 hN_po.1 hN_qo.1 (by rfl) (by rw [f4_po_1]; exact pb.1) (by rw [f4_qo_1]; exact qb.1) (by decide) (by rw [f4_po_1, f4_qo_1, ← ex5]; exact lt9_mono b5 (by decide))) ca_C_71 im_R_multiply se_R_multiply rfl (by decide) (hx_R) rfl rfl (by decide) (Nat.le_of_ble_eq_true rfl) d_C_drawChord_92 (fun r h1 hp => ?_)
  obtain ⟨S5, rfl, rfl, hV5, ef5⟩ := hp
  rw [f4_po_1, f4_qo_1, ← ex5] at hV5
  obtain ⟨U5, w5hU⟩ : ∃ W : Nat → Int, W = nu U4 54 w5 := ⟨_, rfl⟩
  rw [← w5hU] at hV5
  have f5_po_1 : U5 (po + 1) = x1 := (by rw [w5hU, nu_ne _ _ (by omega)] : U5 (po + 1) = U4 (po + 1)).trans f4_po_1
  have f5_po_3 : U5 (po + 3) = y1 := (by rw [w5hU, nu_ne _ _ (by omega)] : U5 (po + 3) = U4 (po + 3)).trans f4_po_3
  have f5_po_5 : U5 (po + 5) = z1 := (by rw [w5hU, nu_ne _ _ (by omega)] : U5 (po + 5) = U4 (po + 5)).trans f4_po_5
  have f5_po_7 : U5 (po + 7) = (z1 * z1) := (by rw [w5hU, nu_ne _ _ (by omega)] : U5 (po + 7) = U4 (po + 7)).trans f4_po_7
  have f5_po_9 : U5 (po + 9) = (z1 * z1 * z1) := (by rw [w5hU, nu_ne _ _ (by omega)] : U5 (po + 9) = U4 (po + 9)).trans f4_po_9
  have f5_qo_1 : U5 (qo + 1) = x2 := (by rw [w5hU, nu_ne _ _ (by omega)] : U5 (qo + 1) = U4 (qo + 1)).trans f4_qo_1
  have f5_qo_3 : U5 (qo + 3) = y2 := (by rw [w5hU, nu_ne _ _ (by omega)] : U5 (qo + 3) = U4 (qo + 3)).trans f4_qo_3
  have f5_qo_5 : U5 (qo + 5) = z2 := (by rw [w5hU, nu_ne _ _ (by omega)] : U5 (qo + 5) = U4 (qo + 5)).trans f4_qo_5
  have f5_qo_7 : U5 (qo + 7) = (z2 * z2) := (by rw [w5hU, nu_ne _ _ (by omega)] : U5 (qo + 7) = U4 (qo + 7)).trans f4_qo_7
  have f5_qo_9 : U5 (qo + 9) = (z2 * z2 * z2) := (by rw [w5hU, nu_ne _ _ (by omega)] : U5 (qo + 9) = U4 (qo + 9)).trans f4_qo_9
  have f5_25 : U5 25 = A.2.2.2.1 := (by rw [w5hU, nu_ne _ _ (by omega)] : U5 25 = U4 25).trans f4_25
  have f5_29 : U5 29 = (2 * A.2.1) := (by rw [w5hU, nu_ne _ _ (by omega)] : U5 29 = U4 29).trans f4_29
  have f5_31 : U5 31 = (2 * A.2.2.2.2) := (by rw [w5hU, nu_ne _ _ (by omega)] : U5 31 = U4 31).trans f4_31
  have f5_50 : U5 50 = R1 := (by rw [w5hU, nu_ne _ _ (by omega)] : U5 50 = U4 50).trans f4_50
  have f5_56 : U5 56 = w2 := (by rw [w5hU, nu_ne _ _ (by omega)] : U5 56 = U4 56).trans f4_56
  have f5_52 : U5 52 = w3 := (by rw [w5hU, nu_ne _ _ (by omega)] : U5 52 = U4 52).trans f4_52
  have f5_48 : U5 48 = w4 := (by rw [w5hU, nu_ne _ _ (by omega)] : U5 48 = U4 48).trans f4_48
  have f5_54 : U5 54 = w5 := by rw [w5hU, nu_self]
  have g5 : ∀ j : Nat, (j = 42 ∨ j = 44 ∨ j < 40 ∨ 58 < j) → j ≠ 5 → U5 j = U j := fun j j1 j2 => (by rw [w5hU, nu_ne _ _ (by omega)] : U5 j = U4 j).trans (g4 j j1 j2)
  refine z_aload_n K d_C_drawChord_95 rfl ?_
  refine zx_gC K fd_C_51 rfl d_C_drawChord_96 ?_
  refine z_aload_n K d_C_drawChord_99 rfl ?_
  refine zx_gC K fd_C_47 rfl d_C_drawChord_100 ?_
  refine zx_gQ K fd_C_150 rfl d_C_drawChord_103 ?_
  refine z_aload_n K d_C_drawChord_106 rfl ?_
  refine zx_gC K fd_C_38 rfl d_C_drawChord_107 ?_
  refine z_aload_n K d_C_drawChord_110 rfl ?_
  refine zx_gC K fd_C_32 rfl d_C_drawChord_111 ?_
  obtain ⟨w6, ex6⟩ : ∃ z : Int, z = (2 * A.2.1) * w5 := ⟨_, rfl⟩
  have b6 : lt9 w6 37 := by rw [ex6]; have z := lt9_mul bq.2.2.2.2.2.1 b5; exact z
  refine z_callV (ci := 4) (As := [.ref (a + 29), .ref (a + 54), .ref (a + 50)]) K (v_R_multiply l G b0 h a S5 hV5 (by rfl) (by rfl) (by rfl) (by rw [f5_29]; exact bq.2.2.2.2.2.1) (by rw [f5_54]; exact b5) (by decide) (by rw [f5_29, f5_54, ← ex6]; exact lt9_mono b6 (by decide))) ca_C_71 im_R_multiply se_R_multiply rfl (by decide) (hx_R) rfl rfl (by decide) (Nat.le_of_ble_eq_true rfl) d_C_drawChord_114 (fun r h1 hp => ?_)
  obtain ⟨S6, rfl, rfl, hV6, ef6⟩ := hp
  rw [f5_29, f5_54, ← ex6] at hV6
  obtain ⟨U6, w6hU⟩ : ∃ W : Nat → Int, W = nu U5 50 w6 := ⟨_, rfl⟩
  rw [← w6hU] at hV6
  have f6_po_1 : U6 (po + 1) = x1 := (by rw [w6hU, nu_ne _ _ (by omega)] : U6 (po + 1) = U5 (po + 1)).trans f5_po_1
  have f6_po_3 : U6 (po + 3) = y1 := (by rw [w6hU, nu_ne _ _ (by omega)] : U6 (po + 3) = U5 (po + 3)).trans f5_po_3
  have f6_po_5 : U6 (po + 5) = z1 := (by rw [w6hU, nu_ne _ _ (by omega)] : U6 (po + 5) = U5 (po + 5)).trans f5_po_5
  have f6_po_7 : U6 (po + 7) = (z1 * z1) := (by rw [w6hU, nu_ne _ _ (by omega)] : U6 (po + 7) = U5 (po + 7)).trans f5_po_7
  have f6_po_9 : U6 (po + 9) = (z1 * z1 * z1) := (by rw [w6hU, nu_ne _ _ (by omega)] : U6 (po + 9) = U5 (po + 9)).trans f5_po_9
  have f6_qo_1 : U6 (qo + 1) = x2 := (by rw [w6hU, nu_ne _ _ (by omega)] : U6 (qo + 1) = U5 (qo + 1)).trans f5_qo_1
  have f6_qo_3 : U6 (qo + 3) = y2 := (by rw [w6hU, nu_ne _ _ (by omega)] : U6 (qo + 3) = U5 (qo + 3)).trans f5_qo_3
  have f6_qo_5 : U6 (qo + 5) = z2 := (by rw [w6hU, nu_ne _ _ (by omega)] : U6 (qo + 5) = U5 (qo + 5)).trans f5_qo_5
  have f6_qo_7 : U6 (qo + 7) = (z2 * z2) := (by rw [w6hU, nu_ne _ _ (by omega)] : U6 (qo + 7) = U5 (qo + 7)).trans f5_qo_7
  have f6_qo_9 : U6 (qo + 9) = (z2 * z2 * z2) := (by rw [w6hU, nu_ne _ _ (by omega)] : U6 (qo + 9) = U5 (qo + 9)).trans f5_qo_9
  have f6_25 : U6 25 = A.2.2.2.1 := (by rw [w6hU, nu_ne _ _ (by omega)] : U6 25 = U5 25).trans f5_25
  have f6_29 : U6 29 = (2 * A.2.1) := (by rw [w6hU, nu_ne _ _ (by omega)] : U6 29 = U5 29).trans f5_29
  have f6_31 : U6 31 = (2 * A.2.2.2.2) := (by rw [w6hU, nu_ne _ _ (by omega)] : U6 31 = U5 31).trans f5_31
  have f6_56 : U6 56 = w2 := (by rw [w6hU, nu_ne _ _ (by omega)] : U6 56 = U5 56).trans f5_56
  have f6_52 : U6 52 = w3 := (by rw [w6hU, nu_ne _ _ (by omega)] : U6 52 = U5 52).trans f5_52
  have f6_48 : U6 48 = w4 := (by rw [w6hU, nu_ne _ _ (by omega)] : U6 48 = U5 48).trans f5_48
  have f6_54 : U6 54 = w5 := (by rw [w6hU, nu_ne _ _ (by omega)] : U6 54 = U5 54).trans f5_54
  have f6_50 : U6 50 = w6 := by rw [w6hU, nu_self]
  have g6 : ∀ j : Nat, (j = 42 ∨ j = 44 ∨ j < 40 ∨ 58 < j) → j ≠ 5 → U6 j = U j := fun j j1 j2 => (by rw [w6hU, nu_ne _ _ (by omega)] : U6 j = U5 j).trans (g5 j j1 j2)
  refine z_aload_n K d_C_drawChord_117 rfl ?_
  refine zx_gC K fd_C_51 rfl d_C_drawChord_118 ?_
  refine z_aload_n K d_C_drawChord_121 rfl ?_
  refine zx_gC K fd_C_47 rfl d_C_drawChord_122 ?_
  refine zx_gQ K fd_C_153 rfl d_C_drawChord_125 ?_
  refine z_aload_n K d_C_drawChord_128 rfl ?_
  refine zx_gC K fd_C_29 rfl d_C_drawChord_129 ?_
  refine z_aload_n K d_C_drawChord_132 rfl ?_
  refine zx_gC K fd_C_32 rfl d_C_drawChord_133 ?_
  have b7p : lt9 (A.2.2.2.1 * w4) 38 := by have z := lt9_mul bq.2.2.2.1 b4; exact z
  obtain ⟨w7, ex7⟩ : ∃ z : Int, z = w6 + A.2.2.2.1 * w4 := ⟨_, rfl⟩
  have b7 : lt9 w7 39 := by rw [ex7]; have z := lt9_add b6 b7p; exact z
  refine z_callV (ci := 4) (As := [.ref (a + 25), .ref (a + 48), .ref (a + 50)]) K (v_R_addProduct l G b0 h a S6 hV6 (by rfl) (by rfl) (by rfl) (by omega) (by rw [f6_25]; exact bq.2.2.2.1) (by rw [f6_48]; exact b4) (by decide) (by rw [f6_50]; exact lt9_mono b6 (by decide)) (by rw [f6_25, f6_48]; exact lt9_mono b7p (by decide)) (by rw [f6_50, f6_25, f6_48, ← ex7]; exact lt9_mono b7 (by decide))) ca_C_85 im_R_addProduct se_R_addProduct rfl (by decide) (hx_R) rfl rfl (by decide) (Nat.le_of_ble_eq_true rfl) d_C_drawChord_136 (fun r h1 hp => ?_)
  obtain ⟨S7, rfl, rfl, ⟨U7, hV7, w7u, w7w⟩, ef7⟩ := hp
  rw [f6_50, f6_25, f6_48, ← ex7] at w7u
  have f7_po_1 : U7 (po + 1) = x1 := (w7w _ (by omega) (by omega)).trans f6_po_1
  have f7_po_3 : U7 (po + 3) = y1 := (w7w _ (by omega) (by omega)).trans f6_po_3
  have f7_po_5 : U7 (po + 5) = z1 := (w7w _ (by omega) (by omega)).trans f6_po_5
  have f7_po_7 : U7 (po + 7) = (z1 * z1) := (w7w _ (by omega) (by omega)).trans f6_po_7
  have f7_po_9 : U7 (po + 9) = (z1 * z1 * z1) := (w7w _ (by omega) (by omega)).trans f6_po_9
  have f7_qo_1 : U7 (qo + 1) = x2 := (w7w _ (by omega) (by omega)).trans f6_qo_1
  have f7_qo_3 : U7 (qo + 3) = y2 := (w7w _ (by omega) (by omega)).trans f6_qo_3
  have f7_qo_5 : U7 (qo + 5) = z2 := (w7w _ (by omega) (by omega)).trans f6_qo_5
  have f7_qo_7 : U7 (qo + 7) = (z2 * z2) := (w7w _ (by omega) (by omega)).trans f6_qo_7
  have f7_qo_9 : U7 (qo + 9) = (z2 * z2 * z2) := (w7w _ (by omega) (by omega)).trans f6_qo_9
  have f7_25 : U7 25 = A.2.2.2.1 := (w7w _ (by omega) (by omega)).trans f6_25
  have f7_29 : U7 29 = (2 * A.2.1) := (w7w _ (by omega) (by omega)).trans f6_29
  have f7_31 : U7 31 = (2 * A.2.2.2.2) := (w7w _ (by omega) (by omega)).trans f6_31
  have f7_56 : U7 56 = w2 := (w7w _ (by omega) (by omega)).trans f6_56
  have f7_52 : U7 52 = w3 := (w7w _ (by omega) (by omega)).trans f6_52
  have f7_48 : U7 48 = w4 := (w7w _ (by omega) (by omega)).trans f6_48
  have f7_54 : U7 54 = w5 := (w7w _ (by omega) (by omega)).trans f6_54
  have g7 : ∀ j : Nat, (j = 42 ∨ j = 44 ∨ j < 40 ∨ 58 < j) → j ≠ 5 → U7 j = U j := fun j j1 j2 => (w7w j (by omega) j2).trans (g6 j j1 j2)
  refine z_aload_n K d_C_drawChord_139 rfl ?_
  refine zx_gC K fd_C_51 rfl d_C_drawChord_140 ?_
  refine z_aload_n K d_C_drawChord_143 rfl ?_
  refine zx_gC K fd_C_47 rfl d_C_drawChord_144 ?_
  refine zx_gQ K fd_C_156 rfl d_C_drawChord_147 ?_
  refine z_aload_n K d_C_drawChord_150 rfl ?_
  refine zx_gC K fd_C_35 rfl d_C_drawChord_151 ?_
  refine z_aload_n K d_C_drawChord_154 rfl ?_
  refine zx_gC K fd_C_32 rfl d_C_drawChord_155 ?_
  have b8p : lt9 ((2 * A.2.2.2.2) * w3) 37 := by have z := lt9_mul bq.2.2.2.2.2.2.1 b3; exact z
  obtain ⟨w8, ex8⟩ : ∃ z : Int, z = w7 + (2 * A.2.2.2.2) * w3 := ⟨_, rfl⟩
  have b8 : lt9 w8 40 := by rw [ex8]; have z := lt9_add b7 b8p; exact z
  refine z_callV (ci := 4) (As := [.ref (a + 31), .ref (a + 52), .ref (a + 50)]) K (v_R_addProduct l G b0 h a S7 hV7 (by rfl) (by rfl) (by rfl) (by omega) (by rw [f7_31]; exact bq.2.2.2.2.2.2.1) (by rw [f7_52]; exact b3) (by decide) (by rw [w7u]; exact lt9_mono b7 (by decide)) (by rw [f7_31, f7_52]; exact lt9_mono b8p (by decide)) (by rw [w7u, f7_31, f7_52, ← ex8]; exact lt9_mono b8 (by decide))) ca_C_85 im_R_addProduct se_R_addProduct rfl (by decide) (hx_R) rfl rfl (by decide) (Nat.le_of_ble_eq_true rfl) d_C_drawChord_158 (fun r h1 hp => ?_)
  obtain ⟨S8, rfl, rfl, ⟨U8, hV8, w8u, w8w⟩, ef8⟩ := hp
  rw [w7u, f7_31, f7_52, ← ex8] at w8u
  have f8_po_1 : U8 (po + 1) = x1 := (w8w _ (by omega) (by omega)).trans f7_po_1
  have f8_po_3 : U8 (po + 3) = y1 := (w8w _ (by omega) (by omega)).trans f7_po_3
  have f8_po_5 : U8 (po + 5) = z1 := (w8w _ (by omega) (by omega)).trans f7_po_5
  have f8_po_7 : U8 (po + 7) = (z1 * z1) := (w8w _ (by omega) (by omega)).trans f7_po_7
  have f8_po_9 : U8 (po + 9) = (z1 * z1 * z1) := (w8w _ (by omega) (by omega)).trans f7_po_9
  have f8_qo_1 : U8 (qo + 1) = x2 := (w8w _ (by omega) (by omega)).trans f7_qo_1
  have f8_qo_3 : U8 (qo + 3) = y2 := (w8w _ (by omega) (by omega)).trans f7_qo_3
  have f8_qo_5 : U8 (qo + 5) = z2 := (w8w _ (by omega) (by omega)).trans f7_qo_5
  have f8_qo_7 : U8 (qo + 7) = (z2 * z2) := (w8w _ (by omega) (by omega)).trans f7_qo_7
  have f8_qo_9 : U8 (qo + 9) = (z2 * z2 * z2) := (w8w _ (by omega) (by omega)).trans f7_qo_9
  have f8_25 : U8 25 = A.2.2.2.1 := (w8w _ (by omega) (by omega)).trans f7_25
  have f8_29 : U8 29 = (2 * A.2.1) := (w8w _ (by omega) (by omega)).trans f7_29
  have f8_31 : U8 31 = (2 * A.2.2.2.2) := (w8w _ (by omega) (by omega)).trans f7_31
  have f8_56 : U8 56 = w2 := (w8w _ (by omega) (by omega)).trans f7_56
  have f8_52 : U8 52 = w3 := (w8w _ (by omega) (by omega)).trans f7_52
  have f8_48 : U8 48 = w4 := (w8w _ (by omega) (by omega)).trans f7_48
  have f8_54 : U8 54 = w5 := (w8w _ (by omega) (by omega)).trans f7_54
  have g8 : ∀ j : Nat, (j = 42 ∨ j = 44 ∨ j < 40 ∨ 58 < j) → j ≠ 5 → U8 j = U j := fun j j1 j2 => (w8w j (by omega) j2).trans (g7 j j1 j2)
  refine z_aload_n K d_C_drawChord_161 rfl ?_
  refine zx_gC K fd_C_51 rfl d_C_drawChord_162 ?_
  refine z_aload_n K d_C_drawChord_165 rfl ?_
  refine zx_gC K fd_C_38 rfl d_C_drawChord_166 ?_
  refine z_aload_n K d_C_drawChord_169 rfl ?_
  refine zx_gC K fd_C_29 rfl d_C_drawChord_170 ?_
  refine z_aload_n K d_C_drawChord_173 rfl ?_
  refine zx_gC K fd_C_14 rfl d_C_drawChord_174 ?_
  obtain ⟨w9, ex9⟩ : ∃ z : Int, z = w5 * w4 := ⟨_, rfl⟩
  have b9 : lt9 w9 73 := by rw [ex9]; have z := lt9_mul b5 b4; exact z
  refine z_callV (ci := 4) (As := [.ref (a + 54), .ref (a + 48), .ref (a + 40)]) K (v_R_multiply l G b0 h a S8 hV8 (by rfl) (by rfl) (by rfl) (by rw [f8_54]; exact b5) (by rw [f8_48]; exact b4) (by decide) (by rw [f8_54, f8_48, ← ex9]; exact lt9_mono b9 (by decide))) ca_C_71 im_R_multiply se_R_multiply rfl (by decide) (hx_R) rfl rfl (by decide) (Nat.le_of_ble_eq_true rfl) d_C_drawChord_177 (fun r h1 hp => ?_)
  obtain ⟨S9, rfl, rfl, hV9, ef9⟩ := hp
  rw [f8_54, f8_48, ← ex9] at hV9
  obtain ⟨U9, w9hU⟩ : ∃ W : Nat → Int, W = nu U8 40 w9 := ⟨_, rfl⟩
  rw [← w9hU] at hV9
  have f9_po_1 : U9 (po + 1) = x1 := (by rw [w9hU, nu_ne _ _ (by omega)] : U9 (po + 1) = U8 (po + 1)).trans f8_po_1
  have f9_po_3 : U9 (po + 3) = y1 := (by rw [w9hU, nu_ne _ _ (by omega)] : U9 (po + 3) = U8 (po + 3)).trans f8_po_3
  have f9_po_5 : U9 (po + 5) = z1 := (by rw [w9hU, nu_ne _ _ (by omega)] : U9 (po + 5) = U8 (po + 5)).trans f8_po_5
  have f9_po_7 : U9 (po + 7) = (z1 * z1) := (by rw [w9hU, nu_ne _ _ (by omega)] : U9 (po + 7) = U8 (po + 7)).trans f8_po_7
  have f9_po_9 : U9 (po + 9) = (z1 * z1 * z1) := (by rw [w9hU, nu_ne _ _ (by omega)] : U9 (po + 9) = U8 (po + 9)).trans f8_po_9
  have f9_qo_1 : U9 (qo + 1) = x2 := (by rw [w9hU, nu_ne _ _ (by omega)] : U9 (qo + 1) = U8 (qo + 1)).trans f8_qo_1
  have f9_qo_3 : U9 (qo + 3) = y2 := (by rw [w9hU, nu_ne _ _ (by omega)] : U9 (qo + 3) = U8 (qo + 3)).trans f8_qo_3
  have f9_qo_5 : U9 (qo + 5) = z2 := (by rw [w9hU, nu_ne _ _ (by omega)] : U9 (qo + 5) = U8 (qo + 5)).trans f8_qo_5
  have f9_qo_7 : U9 (qo + 7) = (z2 * z2) := (by rw [w9hU, nu_ne _ _ (by omega)] : U9 (qo + 7) = U8 (qo + 7)).trans f8_qo_7
  have f9_qo_9 : U9 (qo + 9) = (z2 * z2 * z2) := (by rw [w9hU, nu_ne _ _ (by omega)] : U9 (qo + 9) = U8 (qo + 9)).trans f8_qo_9
  have f9_25 : U9 25 = A.2.2.2.1 := (by rw [w9hU, nu_ne _ _ (by omega)] : U9 25 = U8 25).trans f8_25
  have f9_29 : U9 29 = (2 * A.2.1) := (by rw [w9hU, nu_ne _ _ (by omega)] : U9 29 = U8 29).trans f8_29
  have f9_31 : U9 31 = (2 * A.2.2.2.2) := (by rw [w9hU, nu_ne _ _ (by omega)] : U9 31 = U8 31).trans f8_31
  have f9_56 : U9 56 = w2 := (by rw [w9hU, nu_ne _ _ (by omega)] : U9 56 = U8 56).trans f8_56
  have f9_52 : U9 52 = w3 := (by rw [w9hU, nu_ne _ _ (by omega)] : U9 52 = U8 52).trans f8_52
  have f9_48 : U9 48 = w4 := (by rw [w9hU, nu_ne _ _ (by omega)] : U9 48 = U8 48).trans f8_48
  have f9_54 : U9 54 = w5 := (by rw [w9hU, nu_ne _ _ (by omega)] : U9 54 = U8 54).trans f8_54
  have f9_50 : U9 50 = w8 := (by rw [w9hU, nu_ne _ _ (by omega)] : U9 50 = U8 50).trans w8u
  have f9_40 : U9 40 = w9 := by rw [w9hU, nu_self]
  have g9 : ∀ j : Nat, (j = 42 ∨ j = 44 ∨ j < 40 ∨ 58 < j) → j ≠ 5 → U9 j = U j := fun j j1 j2 => (by rw [w9hU, nu_ne _ _ (by omega)] : U9 j = U8 j).trans (g8 j j1 j2)
  refine z_aload_n K d_C_drawChord_180 rfl ?_
  refine zx_gC K fd_C_51 rfl d_C_drawChord_181 ?_
  refine z_aload_n K d_C_drawChord_184 rfl ?_
  refine zx_gC K fd_C_32 rfl d_C_drawChord_185 ?_
  refine z_aload_n K d_C_drawChord_188 rfl ?_
  refine zx_gC K fd_C_35 rfl d_C_drawChord_189 ?_
  refine z_aload_n K d_C_drawChord_192 rfl ?_
  refine zx_gC K fd_C_14 rfl d_C_drawChord_193 ?_
  have b10p : lt9 (w8 * w3) 76 := by have z := lt9_mul b8 b3; exact z
  obtain ⟨w10, ex10⟩ : ∃ z : Int, z = w9 + w8 * w3 := ⟨_, rfl⟩
  have b10 : lt9 w10 77 := by rw [ex10]; have z := lt9_add b9 b10p; exact z
  refine z_callV (ci := 4) (As := [.ref (a + 50), .ref (a + 52), .ref (a + 40)]) K (v_R_addProduct l G b0 h a S9 hV9 (by rfl) (by rfl) (by rfl) (by omega) (by rw [f9_50]; exact b8) (by rw [f9_52]; exact b3) (by decide) (by rw [f9_40]; exact lt9_mono b9 (by decide)) (by rw [f9_50, f9_52]; exact lt9_mono b10p (by decide)) (by rw [f9_40, f9_50, f9_52, ← ex10]; exact lt9_mono b10 (by decide))) ca_C_85 im_R_addProduct se_R_addProduct rfl (by decide) (hx_R) rfl rfl (by decide) (Nat.le_of_ble_eq_true rfl) d_C_drawChord_196 (fun r h1 hp => ?_)
  obtain ⟨S10, rfl, rfl, ⟨U10, hV10, w10u, w10w⟩, ef10⟩ := hp
  rw [f9_40, f9_50, f9_52, ← ex10] at w10u
  have f10_po_1 : U10 (po + 1) = x1 := (w10w _ (by omega) (by omega)).trans f9_po_1
  have f10_po_3 : U10 (po + 3) = y1 := (w10w _ (by omega) (by omega)).trans f9_po_3
  have f10_po_5 : U10 (po + 5) = z1 := (w10w _ (by omega) (by omega)).trans f9_po_5
  have f10_po_7 : U10 (po + 7) = (z1 * z1) := (w10w _ (by omega) (by omega)).trans f9_po_7
  have f10_po_9 : U10 (po + 9) = (z1 * z1 * z1) := (w10w _ (by omega) (by omega)).trans f9_po_9
  have f10_qo_1 : U10 (qo + 1) = x2 := (w10w _ (by omega) (by omega)).trans f9_qo_1
  have f10_qo_3 : U10 (qo + 3) = y2 := (w10w _ (by omega) (by omega)).trans f9_qo_3
  have f10_qo_5 : U10 (qo + 5) = z2 := (w10w _ (by omega) (by omega)).trans f9_qo_5
  have f10_qo_7 : U10 (qo + 7) = (z2 * z2) := (w10w _ (by omega) (by omega)).trans f9_qo_7
  have f10_qo_9 : U10 (qo + 9) = (z2 * z2 * z2) := (w10w _ (by omega) (by omega)).trans f9_qo_9
  have f10_25 : U10 25 = A.2.2.2.1 := (w10w _ (by omega) (by omega)).trans f9_25
  have f10_29 : U10 29 = (2 * A.2.1) := (w10w _ (by omega) (by omega)).trans f9_29
  have f10_31 : U10 31 = (2 * A.2.2.2.2) := (w10w _ (by omega) (by omega)).trans f9_31
  have f10_56 : U10 56 = w2 := (w10w _ (by omega) (by omega)).trans f9_56
  have f10_52 : U10 52 = w3 := (w10w _ (by omega) (by omega)).trans f9_52
  have f10_48 : U10 48 = w4 := (w10w _ (by omega) (by omega)).trans f9_48
  have f10_54 : U10 54 = w5 := (w10w _ (by omega) (by omega)).trans f9_54
  have f10_50 : U10 50 = w8 := (w10w _ (by omega) (by omega)).trans f9_50
  have g10 : ∀ j : Nat, (j = 42 ∨ j = 44 ∨ j < 40 ∨ 58 < j) → j ≠ 5 → U10 j = U j := fun j j1 j2 => (w10w j (by omega) j2).trans (g9 j j1 j2)
  refine z_aload_n K d_C_drawChord_199 rfl ?_
  refine zx_gC K fd_C_51 rfl d_C_drawChord_200 ?_
  refine z_aload_n K d_C_drawChord_203 rfl ?_
  refine zx_gC K fd_C_14 rfl d_C_drawChord_204 ?_
  refine z_aload_n K d_C_drawChord_207 rfl ?_
  refine zx_gC K fd_C_41 rfl d_C_drawChord_208 ?_
  refine z_aload_n K d_C_drawChord_211 rfl ?_
  refine zx_gC K fd_C_14 rfl d_C_drawChord_212 ?_
  obtain ⟨w11, ex11⟩ : ∃ z : Int, z = w10 - w2 := ⟨_, rfl⟩
  have b11 : lt9 w11 79 := by rw [ex11]; have z := lt9_sub b10 b2; exact z
  refine z_callV (ci := 4) (As := [.ref (a + 40), .ref (a + 56), .ref (a + 40)]) K (v_R_subtract l G b0 h a S10 hV10 (by rfl) (by rfl) (by rfl) (by rw [w10u]; exact lt9_mono b10 (by decide)) (by rw [f10_56]; exact lt9_mono b2 (by decide)) (by rw [w10u, f10_56, ← ex11]; exact lt9_mono b11 (by decide))) ca_C_144 im_R_subtract se_R_subtract rfl (by decide) (hx_R) rfl rfl (by decide) (Nat.le_of_ble_eq_true rfl) d_C_drawChord_215 (fun r h1 hp => ?_)
  obtain ⟨S11, rfl, rfl, hV11, ef11⟩ := hp
  rw [w10u, f10_56, ← ex11] at hV11
  obtain ⟨U11, w11hU⟩ : ∃ W : Nat → Int, W = nu U10 40 w11 := ⟨_, rfl⟩
  rw [← w11hU] at hV11
  have f11_po_1 : U11 (po + 1) = x1 := (by rw [w11hU, nu_ne _ _ (by omega)] : U11 (po + 1) = U10 (po + 1)).trans f10_po_1
  have f11_po_3 : U11 (po + 3) = y1 := (by rw [w11hU, nu_ne _ _ (by omega)] : U11 (po + 3) = U10 (po + 3)).trans f10_po_3
  have f11_po_5 : U11 (po + 5) = z1 := (by rw [w11hU, nu_ne _ _ (by omega)] : U11 (po + 5) = U10 (po + 5)).trans f10_po_5
  have f11_po_7 : U11 (po + 7) = (z1 * z1) := (by rw [w11hU, nu_ne _ _ (by omega)] : U11 (po + 7) = U10 (po + 7)).trans f10_po_7
  have f11_po_9 : U11 (po + 9) = (z1 * z1 * z1) := (by rw [w11hU, nu_ne _ _ (by omega)] : U11 (po + 9) = U10 (po + 9)).trans f10_po_9
  have f11_qo_1 : U11 (qo + 1) = x2 := (by rw [w11hU, nu_ne _ _ (by omega)] : U11 (qo + 1) = U10 (qo + 1)).trans f10_qo_1
  have f11_qo_3 : U11 (qo + 3) = y2 := (by rw [w11hU, nu_ne _ _ (by omega)] : U11 (qo + 3) = U10 (qo + 3)).trans f10_qo_3
  have f11_qo_5 : U11 (qo + 5) = z2 := (by rw [w11hU, nu_ne _ _ (by omega)] : U11 (qo + 5) = U10 (qo + 5)).trans f10_qo_5
  have f11_qo_7 : U11 (qo + 7) = (z2 * z2) := (by rw [w11hU, nu_ne _ _ (by omega)] : U11 (qo + 7) = U10 (qo + 7)).trans f10_qo_7
  have f11_qo_9 : U11 (qo + 9) = (z2 * z2 * z2) := (by rw [w11hU, nu_ne _ _ (by omega)] : U11 (qo + 9) = U10 (qo + 9)).trans f10_qo_9
  have f11_25 : U11 25 = A.2.2.2.1 := (by rw [w11hU, nu_ne _ _ (by omega)] : U11 25 = U10 25).trans f10_25
  have f11_29 : U11 29 = (2 * A.2.1) := (by rw [w11hU, nu_ne _ _ (by omega)] : U11 29 = U10 29).trans f10_29
  have f11_31 : U11 31 = (2 * A.2.2.2.2) := (by rw [w11hU, nu_ne _ _ (by omega)] : U11 31 = U10 31).trans f10_31
  have f11_56 : U11 56 = w2 := (by rw [w11hU, nu_ne _ _ (by omega)] : U11 56 = U10 56).trans f10_56
  have f11_52 : U11 52 = w3 := (by rw [w11hU, nu_ne _ _ (by omega)] : U11 52 = U10 52).trans f10_52
  have f11_48 : U11 48 = w4 := (by rw [w11hU, nu_ne _ _ (by omega)] : U11 48 = U10 48).trans f10_48
  have f11_54 : U11 54 = w5 := (by rw [w11hU, nu_ne _ _ (by omega)] : U11 54 = U10 54).trans f10_54
  have f11_50 : U11 50 = w8 := (by rw [w11hU, nu_ne _ _ (by omega)] : U11 50 = U10 50).trans f10_50
  have f11_40 : U11 40 = w11 := by rw [w11hU, nu_self]
  have g11 : ∀ j : Nat, (j = 42 ∨ j = 44 ∨ j < 40 ∨ 58 < j) → j ≠ 5 → U11 j = U j := fun j j1 j2 => (by rw [w11hU, nu_ne _ _ (by omega)] : U11 j = U10 j).trans (g10 j j1 j2)
  refine z_vret K hr hlk d_C_drawChord_218 ⟨_, rfl, rfl, ⟨_, hV11, ⟨f11_40.trans ?_, ?_⟩, g11⟩, (ef11.trans (ef10.trans (ef9.trans (ef8.trans (ef7.trans (ef6.trans (ef5.trans (ef4.trans (ef3.trans (ef2.trans ef1))))))))))⟩
  · subst ex11 ex10 ex9 ex8 ex7 ex6 ex5 ex4 ex3 ex2 ex1; rw [eT, eL, eR]; unfold kTop kLeft; grind
  · rw [f11_40]; exact lt9_mono b11 (by decide)
set_option maxHeartbeats 4000000 in
set_option maxRecDepth 100000 in
theorem v_C_drawTangent (l : Launch) (G : zG) (b0 : Nat) (h : zH) (a : Nat) (S : xS) {U : Nat → Int} (hV : VX S U) {x1 y1 z1 : Int} {po : Nat} (hp : isP po = true) (pv : PV U po x1 y1 z1) (pb : PB x1 y1 z1) {A : ecE} (eq : EQ U A) (hA : ecOk A) : xMet l G b0 y_C_drawTangent b_C_drawTangent 2 none 4 122 h a [.ref (a + 39), .ref (a + po)] S (fun r S' => r = none ∧ (∃ U', VX S' U' ∧ (U' 42 = tD A.1 A.2.2.1 x1 y1 z1 * z1 ∧ U' 40 = kTopT A x1 z1 ∧ U' 44 = tN A.1 A.2.1 A.2.2.2.1 x1 y1 z1 * (z1 * z1) ∧ lt9 (U' 42) 40 ∧ lt9 (U' 40) 77 ∧ lt9 (U' 44) 59) ∧ ∀ j : Nat, (j < 40 ∨ 58 < j) → j ≠ 5 → U' j = U j) ∧ S'.f = S.f) :=
  z_met (by decide) (Nat.le_of_ble_eq_true rfl) fun p e s m below meth c K hr hlk hnm => by
  have hN_po := (isP_lt hp).2.2.2
  have hR_po := nR_P hp
  have po75 := isP_75 hp
  have bq := hA.bq
  refine z_aload_n K d_C_drawTangent_0 rfl ?_
  refine zx_gC K fd_C_51 rfl d_C_drawTangent_1 ?_
  refine z_aload_n K d_C_drawTangent_4 rfl ?_
  refine zx_gP K (by first | assumption | rfl) fd_C_65 rfl d_C_drawTangent_5 ?_
  refine z_aload_n K d_C_drawTangent_8 rfl ?_
  refine zx_gP K (by first | assumption | rfl) fd_C_68 rfl d_C_drawTangent_9 ?_
  refine z_aload_n K d_C_drawTangent_12 rfl ?_
  refine zx_gC K fd_C_35 rfl d_C_drawTangent_13 ?_
  obtain ⟨w1, ex1⟩ : ∃ z : Int, z = x1 * z1 := ⟨_, rfl⟩
  have b1 : lt9 w1 27 := by rw [ex1]; have z := lt9_mul pb.1 pb.2.2.1; exact z
  refine z_callV (ci := 4) (As := [.ref (a + (po + 1)), .ref (a + (po + 5)), .ref (a + 52)]) K (v_R_multiply l G b0 h a S hV hN_po.1 hN_po.2.2.1 (by rfl) (by rw [pv.1]; exact pb.1) (by rw [pv.2.2.1]; exact pb.2.2.1) (by decide) (by rw [pv.1, pv.2.2.1, ← ex1]; exact lt9_mono b1 (by decide))) ca_C_71 im_R_multiply se_R_multiply rfl (by decide) (hx_R) rfl rfl (by decide) (Nat.le_of_ble_eq_true rfl) d_C_drawTangent_16 (fun r h1 hp => ?_)
  obtain ⟨S1, rfl, rfl, hV1, ef1⟩ := hp
  rw [pv.1, pv.2.2.1, ← ex1] at hV1
  obtain ⟨U1, w1hU⟩ : ∃ W : Nat → Int, W = nu U 52 w1 := ⟨_, rfl⟩
  rw [← w1hU] at hV1
  have f1_po_1 : U1 (po + 1) = x1 := (by rw [w1hU, nu_ne _ _ (by omega)] : U1 (po + 1) = U (po + 1)).trans pv.1
  have f1_po_3 : U1 (po + 3) = y1 := (by rw [w1hU, nu_ne _ _ (by omega)] : U1 (po + 3) = U (po + 3)).trans pv.2.1
  have f1_po_5 : U1 (po + 5) = z1 := (by rw [w1hU, nu_ne _ _ (by omega)] : U1 (po + 5) = U (po + 5)).trans pv.2.2.1
  have f1_po_7 : U1 (po + 7) = (z1 * z1) := (by rw [w1hU, nu_ne _ _ (by omega)] : U1 (po + 7) = U (po + 7)).trans pv.2.2.2.1
  have f1_po_9 : U1 (po + 9) = (z1 * z1 * z1) := (by rw [w1hU, nu_ne _ _ (by omega)] : U1 (po + 9) = U (po + 9)).trans pv.2.2.2.2
  have f1_19 : U1 19 = A.1 := (by rw [w1hU, nu_ne _ _ (by omega)] : U1 19 = U 19).trans eq.1
  have f1_21 : U1 21 = A.2.1 := (by rw [w1hU, nu_ne _ _ (by omega)] : U1 21 = U 21).trans eq.2.1
  have f1_23 : U1 23 = A.2.2.1 := (by rw [w1hU, nu_ne _ _ (by omega)] : U1 23 = U 23).trans eq.2.2.1
  have f1_25 : U1 25 = A.2.2.2.1 := (by rw [w1hU, nu_ne _ _ (by omega)] : U1 25 = U 25).trans eq.2.2.2.1
  have f1_27 : U1 27 = A.2.2.2.2 := (by rw [w1hU, nu_ne _ _ (by omega)] : U1 27 = U 27).trans eq.2.2.2.2.1
  have f1_29 : U1 29 = (2 * A.2.1) := (by rw [w1hU, nu_ne _ _ (by omega)] : U1 29 = U 29).trans eq.2.2.2.2.2.1
  have f1_31 : U1 31 = (2 * A.2.2.2.2) := (by rw [w1hU, nu_ne _ _ (by omega)] : U1 31 = U 31).trans eq.2.2.2.2.2.2.1
  have f1_33 : U1 33 = eb4 A := (by rw [w1hU, nu_ne _ _ (by omega)] : U1 33 = U 33).trans eq.2.2.2.2.2.2.2.1
  have f1_35 : U1 35 = (2 * eb6 A) := (by rw [w1hU, nu_ne _ _ (by omega)] : U1 35 = U 35).trans eq.2.2.2.2.2.2.2.2.1
  have f1_37 : U1 37 = eb8 A := (by rw [w1hU, nu_ne _ _ (by omega)] : U1 37 = U 37).trans eq.2.2.2.2.2.2.2.2.2
  have f1_52 : U1 52 = w1 := by rw [w1hU, nu_self]
  have g1 : ∀ j : Nat, (j < 40 ∨ 58 < j) → j ≠ 5 → U1 j = U j := fun j j1 j2 => (by rw [w1hU, nu_ne _ _ (by omega)] : U1 j = U j).trans ((fun j _ _ => rfl) j j1 j2)
  refine z_aload_n K d_C_drawTangent_19 rfl ?_
  refine zx_gC K fd_C_51 rfl d_C_drawTangent_20 ?_
  refine z_aload_n K d_C_drawTangent_23 rfl ?_
  refine zx_gP K (by first | assumption | rfl) fd_C_82 rfl d_C_drawTangent_24 ?_
  refine z_aload_n K d_C_drawTangent_27 rfl ?_
  refine zx_gP K (by first | assumption | rfl) fd_C_82 rfl d_C_drawTangent_28 ?_
  refine z_aload_n K d_C_drawTangent_31 rfl ?_
  refine zx_gC K fd_C_20 rfl d_C_drawTangent_32 ?_
  obtain ⟨w2, ex2⟩ : ∃ z : Int, z = y1 + y1 := ⟨_, rfl⟩
  have b2 : lt9 w2 29 := by rw [ex2]; have z := lt9_add pb.2.1 pb.2.1; exact z
  refine z_callV (ci := 4) (As := [.ref (a + (po + 3)), .ref (a + (po + 3)), .ref (a + 42)]) K (v_R_add l G b0 h a S1 hV1 hN_po.2.1 hN_po.2.1 (by rfl) (by rw [f1_po_3]; exact lt9_mono pb.2.1 (by decide)) (by rw [f1_po_3]; exact lt9_mono pb.2.1 (by decide)) (by rw [f1_po_3, ← ex2]; exact lt9_mono b2 (by decide))) ca_C_147 im_R_add se_R_add rfl (by decide) (hx_R) rfl rfl (by decide) (Nat.le_of_ble_eq_true rfl) d_C_drawTangent_35 (fun r h1 hp => ?_)
  obtain ⟨S2, rfl, rfl, hV2, ef2⟩ := hp
  rw [f1_po_3, ← ex2] at hV2
  obtain ⟨U2, w2hU⟩ : ∃ W : Nat → Int, W = nu U1 42 w2 := ⟨_, rfl⟩
  rw [← w2hU] at hV2
  have f2_po_1 : U2 (po + 1) = x1 := (by rw [w2hU, nu_ne _ _ (by omega)] : U2 (po + 1) = U1 (po + 1)).trans f1_po_1
  have f2_po_3 : U2 (po + 3) = y1 := (by rw [w2hU, nu_ne _ _ (by omega)] : U2 (po + 3) = U1 (po + 3)).trans f1_po_3
  have f2_po_5 : U2 (po + 5) = z1 := (by rw [w2hU, nu_ne _ _ (by omega)] : U2 (po + 5) = U1 (po + 5)).trans f1_po_5
  have f2_po_7 : U2 (po + 7) = (z1 * z1) := (by rw [w2hU, nu_ne _ _ (by omega)] : U2 (po + 7) = U1 (po + 7)).trans f1_po_7
  have f2_po_9 : U2 (po + 9) = (z1 * z1 * z1) := (by rw [w2hU, nu_ne _ _ (by omega)] : U2 (po + 9) = U1 (po + 9)).trans f1_po_9
  have f2_19 : U2 19 = A.1 := (by rw [w2hU, nu_ne _ _ (by omega)] : U2 19 = U1 19).trans f1_19
  have f2_21 : U2 21 = A.2.1 := (by rw [w2hU, nu_ne _ _ (by omega)] : U2 21 = U1 21).trans f1_21
  have f2_23 : U2 23 = A.2.2.1 := (by rw [w2hU, nu_ne _ _ (by omega)] : U2 23 = U1 23).trans f1_23
  have f2_25 : U2 25 = A.2.2.2.1 := (by rw [w2hU, nu_ne _ _ (by omega)] : U2 25 = U1 25).trans f1_25
  have f2_27 : U2 27 = A.2.2.2.2 := (by rw [w2hU, nu_ne _ _ (by omega)] : U2 27 = U1 27).trans f1_27
  have f2_29 : U2 29 = (2 * A.2.1) := (by rw [w2hU, nu_ne _ _ (by omega)] : U2 29 = U1 29).trans f1_29
  have f2_31 : U2 31 = (2 * A.2.2.2.2) := (by rw [w2hU, nu_ne _ _ (by omega)] : U2 31 = U1 31).trans f1_31
  have f2_33 : U2 33 = eb4 A := (by rw [w2hU, nu_ne _ _ (by omega)] : U2 33 = U1 33).trans f1_33
  have f2_35 : U2 35 = (2 * eb6 A) := (by rw [w2hU, nu_ne _ _ (by omega)] : U2 35 = U1 35).trans f1_35
  have f2_37 : U2 37 = eb8 A := (by rw [w2hU, nu_ne _ _ (by omega)] : U2 37 = U1 37).trans f1_37
  have f2_52 : U2 52 = w1 := (by rw [w2hU, nu_ne _ _ (by omega)] : U2 52 = U1 52).trans f1_52
  have f2_42 : U2 42 = w2 := by rw [w2hU, nu_self]
  have g2 : ∀ j : Nat, (j < 40 ∨ 58 < j) → j ≠ 5 → U2 j = U j := fun j j1 j2 => (by rw [w2hU, nu_ne _ _ (by omega)] : U2 j = U1 j).trans (g1 j j1 j2)
  refine z_aload_n K d_C_drawTangent_38 rfl ?_
  refine zx_gC K fd_C_51 rfl d_C_drawTangent_39 ?_
  refine z_aload_n K d_C_drawTangent_42 rfl ?_
  refine zx_gC K fd_C_47 rfl d_C_drawTangent_43 ?_
  refine zx_gQ K fd_C_77 rfl d_C_drawTangent_46 ?_
  refine z_aload_n K d_C_drawTangent_49 rfl ?_
  refine zx_gC K fd_C_35 rfl d_C_drawTangent_50 ?_
  refine z_aload_n K d_C_drawTangent_53 rfl ?_
  refine zx_gC K fd_C_20 rfl d_C_drawTangent_54 ?_
  have b3p : lt9 (A.1 * w1) 28 := by have z := lt9_mul bq.1 b1; exact z
  obtain ⟨w3, ex3⟩ : ∃ z : Int, z = w2 + A.1 * w1 := ⟨_, rfl⟩
  have b3 : lt9 w3 30 := by rw [ex3]; have z := lt9_add b2 b3p; exact z
  refine z_callV (ci := 4) (As := [.ref (a + 19), .ref (a + 52), .ref (a + 42)]) K (v_R_addProduct l G b0 h a S2 hV2 (by rfl) (by rfl) (by rfl) (by omega) (by rw [f2_19]; exact bq.1) (by rw [f2_52]; exact b1) (by decide) (by rw [f2_42]; exact lt9_mono b2 (by decide)) (by rw [f2_19, f2_52]; exact lt9_mono b3p (by decide)) (by rw [f2_42, f2_19, f2_52, ← ex3]; exact lt9_mono b3 (by decide))) ca_C_85 im_R_addProduct se_R_addProduct rfl (by decide) (hx_R) rfl rfl (by decide) (Nat.le_of_ble_eq_true rfl) d_C_drawTangent_57 (fun r h1 hp => ?_)
  obtain ⟨S3, rfl, rfl, ⟨U3, hV3, w3u, w3w⟩, ef3⟩ := hp
  rw [f2_42, f2_19, f2_52, ← ex3] at w3u
  have f3_po_1 : U3 (po + 1) = x1 := (w3w _ (by omega) (by omega)).trans f2_po_1
  have f3_po_3 : U3 (po + 3) = y1 := (w3w _ (by omega) (by omega)).trans f2_po_3
  have f3_po_5 : U3 (po + 5) = z1 := (w3w _ (by omega) (by omega)).trans f2_po_5
  have f3_po_7 : U3 (po + 7) = (z1 * z1) := (w3w _ (by omega) (by omega)).trans f2_po_7
  have f3_po_9 : U3 (po + 9) = (z1 * z1 * z1) := (w3w _ (by omega) (by omega)).trans f2_po_9
  have f3_19 : U3 19 = A.1 := (w3w _ (by omega) (by omega)).trans f2_19
  have f3_21 : U3 21 = A.2.1 := (w3w _ (by omega) (by omega)).trans f2_21
  have f3_23 : U3 23 = A.2.2.1 := (w3w _ (by omega) (by omega)).trans f2_23
  have f3_25 : U3 25 = A.2.2.2.1 := (w3w _ (by omega) (by omega)).trans f2_25
  have f3_27 : U3 27 = A.2.2.2.2 := (w3w _ (by omega) (by omega)).trans f2_27
  have f3_29 : U3 29 = (2 * A.2.1) := (w3w _ (by omega) (by omega)).trans f2_29
  have f3_31 : U3 31 = (2 * A.2.2.2.2) := (w3w _ (by omega) (by omega)).trans f2_31
  have f3_33 : U3 33 = eb4 A := (w3w _ (by omega) (by omega)).trans f2_33
  have f3_35 : U3 35 = (2 * eb6 A) := (w3w _ (by omega) (by omega)).trans f2_35
  have f3_37 : U3 37 = eb8 A := (w3w _ (by omega) (by omega)).trans f2_37
  have f3_52 : U3 52 = w1 := (w3w _ (by omega) (by omega)).trans f2_52
  have g3 : ∀ j : Nat, (j < 40 ∨ 58 < j) → j ≠ 5 → U3 j = U j := fun j j1 j2 => (w3w j (by omega) j2).trans (g2 j j1 j2)
  refine z_aload_n K d_C_drawTangent_60 rfl ?_
  refine zx_gC K fd_C_51 rfl d_C_drawTangent_61 ?_
  refine z_aload_n K d_C_drawTangent_64 rfl ?_
  refine zx_gC K fd_C_47 rfl d_C_drawTangent_65 ?_
  refine zx_gQ K fd_C_88 rfl d_C_drawTangent_68 ?_
  refine z_aload_n K d_C_drawTangent_71 rfl ?_
  refine zx_gP K (by first | assumption | rfl) fd_C_91 rfl d_C_drawTangent_72 ?_
  refine z_aload_n K d_C_drawTangent_75 rfl ?_
  refine zx_gC K fd_C_20 rfl d_C_drawTangent_76 ?_
  have b4p : lt9 (A.2.2.1 * (z1 * z1 * z1)) 28 := by have z := lt9_mul bq.2.2.1 pb.2.2.2.2; exact z
  obtain ⟨w4, ex4⟩ : ∃ z : Int, z = w3 + A.2.2.1 * (z1 * z1 * z1) := ⟨_, rfl⟩
  have b4 : lt9 w4 31 := by rw [ex4]; have z := lt9_add b3 b4p; exact z
  refine z_callV (ci := 4) (As := [.ref (a + 23), .ref (a + (po + 9)), .ref (a + 42)]) K (v_R_addProduct l G b0 h a S3 hV3 (by rfl) hN_po.2.2.2.2 (by rfl) (by omega) (by rw [f3_23]; exact bq.2.2.1) (by rw [f3_po_9]; exact pb.2.2.2.2) (by decide) (by rw [w3u]; exact lt9_mono b3 (by decide)) (by rw [f3_23, f3_po_9]; exact lt9_mono b4p (by decide)) (by rw [w3u, f3_23, f3_po_9, ← ex4]; exact lt9_mono b4 (by decide))) ca_C_85 im_R_addProduct se_R_addProduct rfl (by decide) (hx_R) rfl rfl (by decide) (Nat.le_of_ble_eq_true rfl) d_C_drawTangent_79 (fun r h1 hp => ?_)
  obtain ⟨S4, rfl, rfl, ⟨U4, hV4, w4u, w4w⟩, ef4⟩ := hp
  rw [w3u, f3_23, f3_po_9, ← ex4] at w4u
  have f4_po_1 : U4 (po + 1) = x1 := (w4w _ (by omega) (by omega)).trans f3_po_1
  have f4_po_3 : U4 (po + 3) = y1 := (w4w _ (by omega) (by omega)).trans f3_po_3
  have f4_po_5 : U4 (po + 5) = z1 := (w4w _ (by omega) (by omega)).trans f3_po_5
  have f4_po_7 : U4 (po + 7) = (z1 * z1) := (w4w _ (by omega) (by omega)).trans f3_po_7
  have f4_po_9 : U4 (po + 9) = (z1 * z1 * z1) := (w4w _ (by omega) (by omega)).trans f3_po_9
  have f4_19 : U4 19 = A.1 := (w4w _ (by omega) (by omega)).trans f3_19
  have f4_21 : U4 21 = A.2.1 := (w4w _ (by omega) (by omega)).trans f3_21
  have f4_23 : U4 23 = A.2.2.1 := (w4w _ (by omega) (by omega)).trans f3_23
  have f4_25 : U4 25 = A.2.2.2.1 := (w4w _ (by omega) (by omega)).trans f3_25
  have f4_27 : U4 27 = A.2.2.2.2 := (w4w _ (by omega) (by omega)).trans f3_27
  have f4_29 : U4 29 = (2 * A.2.1) := (w4w _ (by omega) (by omega)).trans f3_29
  have f4_31 : U4 31 = (2 * A.2.2.2.2) := (w4w _ (by omega) (by omega)).trans f3_31
  have f4_33 : U4 33 = eb4 A := (w4w _ (by omega) (by omega)).trans f3_33
  have f4_35 : U4 35 = (2 * eb6 A) := (w4w _ (by omega) (by omega)).trans f3_35
  have f4_37 : U4 37 = eb8 A := (w4w _ (by omega) (by omega)).trans f3_37
  have f4_52 : U4 52 = w1 := (w4w _ (by omega) (by omega)).trans f3_52
  have g4 : ∀ j : Nat, (j < 40 ∨ 58 < j) → j ≠ 5 → U4 j = U j := fun j j1 j2 => (w4w j (by omega) j2).trans (g3 j j1 j2)
  refine z_aload_n K d_C_drawTangent_82 rfl ?_
  refine zx_gC K fd_C_51 rfl d_C_drawTangent_83 ?_
  refine z_aload_n K d_C_drawTangent_86 rfl ?_
  refine zx_gC K fd_C_20 rfl d_C_drawTangent_87 ?_
  refine z_aload_n K d_C_drawTangent_90 rfl ?_
  refine zx_gP K (by first | assumption | rfl) fd_C_68 rfl d_C_drawTangent_91 ?_
  refine z_aload_n K d_C_drawTangent_94 rfl ?_
  refine zx_gC K fd_C_20 rfl d_C_drawTangent_95 ?_
  obtain ⟨w5, ex5⟩ : ∃ z : Int, z = w4 * z1 := ⟨_, rfl⟩
  have b5 : lt9 w5 40 := by rw [ex5]; have z := lt9_mul b4 pb.2.2.1; exact z
  refine z_callV (ci := 4) (As := [.ref (a + 42), .ref (a + (po + 5)), .ref (a + 42)]) K (v_R_multiply l G b0 h a S4 hV4 (by rfl) hN_po.2.2.1 (by rfl) (by rw [w4u]; exact b4) (by rw [f4_po_5]; exact pb.2.2.1) (by decide) (by rw [w4u, f4_po_5, ← ex5]; exact lt9_mono b5 (by decide))) ca_C_71 im_R_multiply se_R_multiply rfl (by decide) (hx_R) rfl rfl (by decide) (Nat.le_of_ble_eq_true rfl) d_C_drawTangent_98 (fun r h1 hp => ?_)
  obtain ⟨S5, rfl, rfl, hV5, ef5⟩ := hp
  rw [w4u, f4_po_5, ← ex5] at hV5
  obtain ⟨U5, w5hU⟩ : ∃ W : Nat → Int, W = nu U4 42 w5 := ⟨_, rfl⟩
  rw [← w5hU] at hV5
  have f5_po_1 : U5 (po + 1) = x1 := (by rw [w5hU, nu_ne _ _ (by omega)] : U5 (po + 1) = U4 (po + 1)).trans f4_po_1
  have f5_po_3 : U5 (po + 3) = y1 := (by rw [w5hU, nu_ne _ _ (by omega)] : U5 (po + 3) = U4 (po + 3)).trans f4_po_3
  have f5_po_5 : U5 (po + 5) = z1 := (by rw [w5hU, nu_ne _ _ (by omega)] : U5 (po + 5) = U4 (po + 5)).trans f4_po_5
  have f5_po_7 : U5 (po + 7) = (z1 * z1) := (by rw [w5hU, nu_ne _ _ (by omega)] : U5 (po + 7) = U4 (po + 7)).trans f4_po_7
  have f5_po_9 : U5 (po + 9) = (z1 * z1 * z1) := (by rw [w5hU, nu_ne _ _ (by omega)] : U5 (po + 9) = U4 (po + 9)).trans f4_po_9
  have f5_19 : U5 19 = A.1 := (by rw [w5hU, nu_ne _ _ (by omega)] : U5 19 = U4 19).trans f4_19
  have f5_21 : U5 21 = A.2.1 := (by rw [w5hU, nu_ne _ _ (by omega)] : U5 21 = U4 21).trans f4_21
  have f5_23 : U5 23 = A.2.2.1 := (by rw [w5hU, nu_ne _ _ (by omega)] : U5 23 = U4 23).trans f4_23
  have f5_25 : U5 25 = A.2.2.2.1 := (by rw [w5hU, nu_ne _ _ (by omega)] : U5 25 = U4 25).trans f4_25
  have f5_27 : U5 27 = A.2.2.2.2 := (by rw [w5hU, nu_ne _ _ (by omega)] : U5 27 = U4 27).trans f4_27
  have f5_29 : U5 29 = (2 * A.2.1) := (by rw [w5hU, nu_ne _ _ (by omega)] : U5 29 = U4 29).trans f4_29
  have f5_31 : U5 31 = (2 * A.2.2.2.2) := (by rw [w5hU, nu_ne _ _ (by omega)] : U5 31 = U4 31).trans f4_31
  have f5_33 : U5 33 = eb4 A := (by rw [w5hU, nu_ne _ _ (by omega)] : U5 33 = U4 33).trans f4_33
  have f5_35 : U5 35 = (2 * eb6 A) := (by rw [w5hU, nu_ne _ _ (by omega)] : U5 35 = U4 35).trans f4_35
  have f5_37 : U5 37 = eb8 A := (by rw [w5hU, nu_ne _ _ (by omega)] : U5 37 = U4 37).trans f4_37
  have f5_52 : U5 52 = w1 := (by rw [w5hU, nu_ne _ _ (by omega)] : U5 52 = U4 52).trans f4_52
  have f5_42 : U5 42 = w5 := by rw [w5hU, nu_self]
  have g5 : ∀ j : Nat, (j < 40 ∨ 58 < j) → j ≠ 5 → U5 j = U j := fun j j1 j2 => (by rw [w5hU, nu_ne _ _ (by omega)] : U5 j = U4 j).trans (g4 j j1 j2)
  refine z_aload_n K d_C_drawTangent_101 rfl ?_
  refine zx_gC K fd_C_51 rfl d_C_drawTangent_102 ?_
  refine z_aload_n K d_C_drawTangent_105 rfl ?_
  refine zx_gP K (by first | assumption | rfl) fd_C_65 rfl d_C_drawTangent_106 ?_
  refine z_aload_n K d_C_drawTangent_109 rfl ?_
  refine zx_gP K (by first | assumption | rfl) fd_C_65 rfl d_C_drawTangent_110 ?_
  refine z_aload_n K d_C_drawTangent_113 rfl ?_
  refine zx_gC K fd_C_29 rfl d_C_drawTangent_114 ?_
  obtain ⟨w6, ex6⟩ : ∃ z : Int, z = x1 * x1 := ⟨_, rfl⟩
  have b6 : lt9 w6 36 := by rw [ex6]; have z := lt9_mul pb.1 pb.1; exact z
  refine z_callV (ci := 4) (As := [.ref (a + (po + 1)), .ref (a + (po + 1)), .ref (a + 48)]) K (v_R_multiply l G b0 h a S5 hV5 hN_po.1 hN_po.1 (by rfl) (by rw [f5_po_1]; exact pb.1) (by rw [f5_po_1]; exact pb.1) (by decide) (by rw [f5_po_1, ← ex6]; exact lt9_mono b6 (by decide))) ca_C_71 im_R_multiply se_R_multiply rfl (by decide) (hx_R) rfl rfl (by decide) (Nat.le_of_ble_eq_true rfl) d_C_drawTangent_117 (fun r h1 hp => ?_)
  obtain ⟨S6, rfl, rfl, hV6, ef6⟩ := hp
  rw [f5_po_1, ← ex6] at hV6
  obtain ⟨U6, w6hU⟩ : ∃ W : Nat → Int, W = nu U5 48 w6 := ⟨_, rfl⟩
  rw [← w6hU] at hV6
  have f6_po_1 : U6 (po + 1) = x1 := (by rw [w6hU, nu_ne _ _ (by omega)] : U6 (po + 1) = U5 (po + 1)).trans f5_po_1
  have f6_po_3 : U6 (po + 3) = y1 := (by rw [w6hU, nu_ne _ _ (by omega)] : U6 (po + 3) = U5 (po + 3)).trans f5_po_3
  have f6_po_5 : U6 (po + 5) = z1 := (by rw [w6hU, nu_ne _ _ (by omega)] : U6 (po + 5) = U5 (po + 5)).trans f5_po_5
  have f6_po_7 : U6 (po + 7) = (z1 * z1) := (by rw [w6hU, nu_ne _ _ (by omega)] : U6 (po + 7) = U5 (po + 7)).trans f5_po_7
  have f6_po_9 : U6 (po + 9) = (z1 * z1 * z1) := (by rw [w6hU, nu_ne _ _ (by omega)] : U6 (po + 9) = U5 (po + 9)).trans f5_po_9
  have f6_19 : U6 19 = A.1 := (by rw [w6hU, nu_ne _ _ (by omega)] : U6 19 = U5 19).trans f5_19
  have f6_21 : U6 21 = A.2.1 := (by rw [w6hU, nu_ne _ _ (by omega)] : U6 21 = U5 21).trans f5_21
  have f6_23 : U6 23 = A.2.2.1 := (by rw [w6hU, nu_ne _ _ (by omega)] : U6 23 = U5 23).trans f5_23
  have f6_25 : U6 25 = A.2.2.2.1 := (by rw [w6hU, nu_ne _ _ (by omega)] : U6 25 = U5 25).trans f5_25
  have f6_27 : U6 27 = A.2.2.2.2 := (by rw [w6hU, nu_ne _ _ (by omega)] : U6 27 = U5 27).trans f5_27
  have f6_29 : U6 29 = (2 * A.2.1) := (by rw [w6hU, nu_ne _ _ (by omega)] : U6 29 = U5 29).trans f5_29
  have f6_31 : U6 31 = (2 * A.2.2.2.2) := (by rw [w6hU, nu_ne _ _ (by omega)] : U6 31 = U5 31).trans f5_31
  have f6_33 : U6 33 = eb4 A := (by rw [w6hU, nu_ne _ _ (by omega)] : U6 33 = U5 33).trans f5_33
  have f6_35 : U6 35 = (2 * eb6 A) := (by rw [w6hU, nu_ne _ _ (by omega)] : U6 35 = U5 35).trans f5_35
  have f6_37 : U6 37 = eb8 A := (by rw [w6hU, nu_ne _ _ (by omega)] : U6 37 = U5 37).trans f5_37
  have f6_52 : U6 52 = w1 := (by rw [w6hU, nu_ne _ _ (by omega)] : U6 52 = U5 52).trans f5_52
  have f6_42 : U6 42 = w5 := (by rw [w6hU, nu_ne _ _ (by omega)] : U6 42 = U5 42).trans f5_42
  have f6_48 : U6 48 = w6 := by rw [w6hU, nu_self]
  have g6 : ∀ j : Nat, (j < 40 ∨ 58 < j) → j ≠ 5 → U6 j = U j := fun j j1 j2 => (by rw [w6hU, nu_ne _ _ (by omega)] : U6 j = U5 j).trans (g5 j j1 j2)
  refine z_aload_n K d_C_drawTangent_120 rfl ?_
  refine zx_gC K fd_C_51 rfl d_C_drawTangent_121 ?_
  refine z_aload_n K d_C_drawTangent_124 rfl ?_
  refine zx_gP K (by first | assumption | rfl) fd_C_141 rfl d_C_drawTangent_125 ?_
  refine z_aload_n K d_C_drawTangent_128 rfl ?_
  refine zx_gP K (by first | assumption | rfl) fd_C_141 rfl d_C_drawTangent_129 ?_
  refine z_aload_n K d_C_drawTangent_132 rfl ?_
  refine zx_gC K fd_C_32 rfl d_C_drawTangent_133 ?_
  obtain ⟨w7, ex7⟩ : ∃ z : Int, z = (z1 * z1) * (z1 * z1) := ⟨_, rfl⟩
  have b7 : lt9 w7 36 := by rw [ex7]; have z := lt9_mul pb.2.2.2.1 pb.2.2.2.1; exact z
  refine z_callV (ci := 4) (As := [.ref (a + (po + 7)), .ref (a + (po + 7)), .ref (a + 50)]) K (v_R_multiply l G b0 h a S6 hV6 hN_po.2.2.2.1 hN_po.2.2.2.1 (by rfl) (by rw [f6_po_7]; exact pb.2.2.2.1) (by rw [f6_po_7]; exact pb.2.2.2.1) (by decide) (by rw [f6_po_7, ← ex7]; exact lt9_mono b7 (by decide))) ca_C_71 im_R_multiply se_R_multiply rfl (by decide) (hx_R) rfl rfl (by decide) (Nat.le_of_ble_eq_true rfl) d_C_drawTangent_136 (fun r h1 hp => ?_)
  obtain ⟨S7, rfl, rfl, hV7, ef7⟩ := hp
  rw [f6_po_7, ← ex7] at hV7
  obtain ⟨U7, w7hU⟩ : ∃ W : Nat → Int, W = nu U6 50 w7 := ⟨_, rfl⟩
  rw [← w7hU] at hV7
  have f7_po_1 : U7 (po + 1) = x1 := (by rw [w7hU, nu_ne _ _ (by omega)] : U7 (po + 1) = U6 (po + 1)).trans f6_po_1
  have f7_po_3 : U7 (po + 3) = y1 := (by rw [w7hU, nu_ne _ _ (by omega)] : U7 (po + 3) = U6 (po + 3)).trans f6_po_3
  have f7_po_5 : U7 (po + 5) = z1 := (by rw [w7hU, nu_ne _ _ (by omega)] : U7 (po + 5) = U6 (po + 5)).trans f6_po_5
  have f7_po_7 : U7 (po + 7) = (z1 * z1) := (by rw [w7hU, nu_ne _ _ (by omega)] : U7 (po + 7) = U6 (po + 7)).trans f6_po_7
  have f7_po_9 : U7 (po + 9) = (z1 * z1 * z1) := (by rw [w7hU, nu_ne _ _ (by omega)] : U7 (po + 9) = U6 (po + 9)).trans f6_po_9
  have f7_19 : U7 19 = A.1 := (by rw [w7hU, nu_ne _ _ (by omega)] : U7 19 = U6 19).trans f6_19
  have f7_21 : U7 21 = A.2.1 := (by rw [w7hU, nu_ne _ _ (by omega)] : U7 21 = U6 21).trans f6_21
  have f7_23 : U7 23 = A.2.2.1 := (by rw [w7hU, nu_ne _ _ (by omega)] : U7 23 = U6 23).trans f6_23
  have f7_25 : U7 25 = A.2.2.2.1 := (by rw [w7hU, nu_ne _ _ (by omega)] : U7 25 = U6 25).trans f6_25
  have f7_27 : U7 27 = A.2.2.2.2 := (by rw [w7hU, nu_ne _ _ (by omega)] : U7 27 = U6 27).trans f6_27
  have f7_29 : U7 29 = (2 * A.2.1) := (by rw [w7hU, nu_ne _ _ (by omega)] : U7 29 = U6 29).trans f6_29
  have f7_31 : U7 31 = (2 * A.2.2.2.2) := (by rw [w7hU, nu_ne _ _ (by omega)] : U7 31 = U6 31).trans f6_31
  have f7_33 : U7 33 = eb4 A := (by rw [w7hU, nu_ne _ _ (by omega)] : U7 33 = U6 33).trans f6_33
  have f7_35 : U7 35 = (2 * eb6 A) := (by rw [w7hU, nu_ne _ _ (by omega)] : U7 35 = U6 35).trans f6_35
  have f7_37 : U7 37 = eb8 A := (by rw [w7hU, nu_ne _ _ (by omega)] : U7 37 = U6 37).trans f6_37
  have f7_52 : U7 52 = w1 := (by rw [w7hU, nu_ne _ _ (by omega)] : U7 52 = U6 52).trans f6_52
  have f7_42 : U7 42 = w5 := (by rw [w7hU, nu_ne _ _ (by omega)] : U7 42 = U6 42).trans f6_42
  have f7_48 : U7 48 = w6 := (by rw [w7hU, nu_ne _ _ (by omega)] : U7 48 = U6 48).trans f6_48
  have f7_50 : U7 50 = w7 := by rw [w7hU, nu_self]
  have g7 : ∀ j : Nat, (j < 40 ∨ 58 < j) → j ≠ 5 → U7 j = U j := fun j j1 j2 => (by rw [w7hU, nu_ne _ _ (by omega)] : U7 j = U6 j).trans (g6 j j1 j2)
  refine z_aload_n K d_C_drawTangent_139 rfl ?_
  refine zx_gC K fd_C_51 rfl d_C_drawTangent_140 ?_
  refine z_aload_n K d_C_drawTangent_143 rfl ?_
  refine zx_gC K fd_C_47 rfl d_C_drawTangent_144 ?_
  refine zx_gQ K fd_C_159 rfl d_C_drawTangent_147 ?_
  refine z_aload_n K d_C_drawTangent_150 rfl ?_
  refine zx_gP K (by first | assumption | rfl) fd_C_65 rfl d_C_drawTangent_151 ?_
  refine z_aload_n K d_C_drawTangent_154 rfl ?_
  refine zx_gC K fd_C_35 rfl d_C_drawTangent_155 ?_
  obtain ⟨w8, ex8⟩ : ∃ z : Int, z = (2 * eb6 A) * x1 := ⟨_, rfl⟩
  have b8 : lt9 w8 20 := by rw [ex8]; have z := lt9_mul bq.2.2.2.2.2.2.2.2.1 pb.1; exact z
  refine z_callV (ci := 4) (As := [.ref (a + 35), .ref (a + (po + 1)), .ref (a + 52)]) K (v_R_multiply l G b0 h a S7 hV7 (by rfl) hN_po.1 (by rfl) (by rw [f7_35]; exact bq.2.2.2.2.2.2.2.2.1) (by rw [f7_po_1]; exact pb.1) (by decide) (by rw [f7_35, f7_po_1, ← ex8]; exact lt9_mono b8 (by decide))) ca_C_71 im_R_multiply se_R_multiply rfl (by decide) (hx_R) rfl rfl (by decide) (Nat.le_of_ble_eq_true rfl) d_C_drawTangent_158 (fun r h1 hp => ?_)
  obtain ⟨S8, rfl, rfl, hV8, ef8⟩ := hp
  rw [f7_35, f7_po_1, ← ex8] at hV8
  obtain ⟨U8, w8hU⟩ : ∃ W : Nat → Int, W = nu U7 52 w8 := ⟨_, rfl⟩
  rw [← w8hU] at hV8
  have f8_po_1 : U8 (po + 1) = x1 := (by rw [w8hU, nu_ne _ _ (by omega)] : U8 (po + 1) = U7 (po + 1)).trans f7_po_1
  have f8_po_3 : U8 (po + 3) = y1 := (by rw [w8hU, nu_ne _ _ (by omega)] : U8 (po + 3) = U7 (po + 3)).trans f7_po_3
  have f8_po_5 : U8 (po + 5) = z1 := (by rw [w8hU, nu_ne _ _ (by omega)] : U8 (po + 5) = U7 (po + 5)).trans f7_po_5
  have f8_po_7 : U8 (po + 7) = (z1 * z1) := (by rw [w8hU, nu_ne _ _ (by omega)] : U8 (po + 7) = U7 (po + 7)).trans f7_po_7
  have f8_po_9 : U8 (po + 9) = (z1 * z1 * z1) := (by rw [w8hU, nu_ne _ _ (by omega)] : U8 (po + 9) = U7 (po + 9)).trans f7_po_9
  have f8_19 : U8 19 = A.1 := (by rw [w8hU, nu_ne _ _ (by omega)] : U8 19 = U7 19).trans f7_19
  have f8_21 : U8 21 = A.2.1 := (by rw [w8hU, nu_ne _ _ (by omega)] : U8 21 = U7 21).trans f7_21
  have f8_23 : U8 23 = A.2.2.1 := (by rw [w8hU, nu_ne _ _ (by omega)] : U8 23 = U7 23).trans f7_23
  have f8_25 : U8 25 = A.2.2.2.1 := (by rw [w8hU, nu_ne _ _ (by omega)] : U8 25 = U7 25).trans f7_25
  have f8_27 : U8 27 = A.2.2.2.2 := (by rw [w8hU, nu_ne _ _ (by omega)] : U8 27 = U7 27).trans f7_27
  have f8_29 : U8 29 = (2 * A.2.1) := (by rw [w8hU, nu_ne _ _ (by omega)] : U8 29 = U7 29).trans f7_29
  have f8_31 : U8 31 = (2 * A.2.2.2.2) := (by rw [w8hU, nu_ne _ _ (by omega)] : U8 31 = U7 31).trans f7_31
  have f8_33 : U8 33 = eb4 A := (by rw [w8hU, nu_ne _ _ (by omega)] : U8 33 = U7 33).trans f7_33
  have f8_35 : U8 35 = (2 * eb6 A) := (by rw [w8hU, nu_ne _ _ (by omega)] : U8 35 = U7 35).trans f7_35
  have f8_37 : U8 37 = eb8 A := (by rw [w8hU, nu_ne _ _ (by omega)] : U8 37 = U7 37).trans f7_37
  have f8_42 : U8 42 = w5 := (by rw [w8hU, nu_ne _ _ (by omega)] : U8 42 = U7 42).trans f7_42
  have f8_48 : U8 48 = w6 := (by rw [w8hU, nu_ne _ _ (by omega)] : U8 48 = U7 48).trans f7_48
  have f8_50 : U8 50 = w7 := (by rw [w8hU, nu_ne _ _ (by omega)] : U8 50 = U7 50).trans f7_50
  have f8_52 : U8 52 = w8 := by rw [w8hU, nu_self]
  have g8 : ∀ j : Nat, (j < 40 ∨ 58 < j) → j ≠ 5 → U8 j = U j := fun j j1 j2 => (by rw [w8hU, nu_ne _ _ (by omega)] : U8 j = U7 j).trans (g7 j j1 j2)
  refine z_aload_n K d_C_drawTangent_161 rfl ?_
  refine zx_gC K fd_C_51 rfl d_C_drawTangent_162 ?_
  refine z_aload_n K d_C_drawTangent_165 rfl ?_
  refine zx_gC K fd_C_47 rfl d_C_drawTangent_166 ?_
  refine zx_gQ K fd_C_162 rfl d_C_drawTangent_169 ?_
  refine z_aload_n K d_C_drawTangent_172 rfl ?_
  refine zx_gP K (by first | assumption | rfl) fd_C_141 rfl d_C_drawTangent_173 ?_
  refine z_aload_n K d_C_drawTangent_176 rfl ?_
  refine zx_gC K fd_C_35 rfl d_C_drawTangent_177 ?_
  have b9p : lt9 (eb8 A * (z1 * z1)) 20 := by have z := lt9_mul bq.2.2.2.2.2.2.2.2.2 pb.2.2.2.1; exact z
  obtain ⟨w9, ex9⟩ : ∃ z : Int, z = w8 + eb8 A * (z1 * z1) := ⟨_, rfl⟩
  have b9 : lt9 w9 21 := by rw [ex9]; have z := lt9_add b8 b9p; exact z
  refine z_callV (ci := 4) (As := [.ref (a + 37), .ref (a + (po + 7)), .ref (a + 52)]) K (v_R_addProduct l G b0 h a S8 hV8 (by rfl) hN_po.2.2.2.1 (by rfl) (by omega) (by rw [f8_37]; exact bq.2.2.2.2.2.2.2.2.2) (by rw [f8_po_7]; exact pb.2.2.2.1) (by decide) (by rw [f8_52]; exact lt9_mono b8 (by decide)) (by rw [f8_37, f8_po_7]; exact lt9_mono b9p (by decide)) (by rw [f8_52, f8_37, f8_po_7, ← ex9]; exact lt9_mono b9 (by decide))) ca_C_85 im_R_addProduct se_R_addProduct rfl (by decide) (hx_R) rfl rfl (by decide) (Nat.le_of_ble_eq_true rfl) d_C_drawTangent_180 (fun r h1 hp => ?_)
  obtain ⟨S9, rfl, rfl, ⟨U9, hV9, w9u, w9w⟩, ef9⟩ := hp
  rw [f8_52, f8_37, f8_po_7, ← ex9] at w9u
  have f9_po_1 : U9 (po + 1) = x1 := (w9w _ (by omega) (by omega)).trans f8_po_1
  have f9_po_3 : U9 (po + 3) = y1 := (w9w _ (by omega) (by omega)).trans f8_po_3
  have f9_po_5 : U9 (po + 5) = z1 := (w9w _ (by omega) (by omega)).trans f8_po_5
  have f9_po_7 : U9 (po + 7) = (z1 * z1) := (w9w _ (by omega) (by omega)).trans f8_po_7
  have f9_po_9 : U9 (po + 9) = (z1 * z1 * z1) := (w9w _ (by omega) (by omega)).trans f8_po_9
  have f9_19 : U9 19 = A.1 := (w9w _ (by omega) (by omega)).trans f8_19
  have f9_21 : U9 21 = A.2.1 := (w9w _ (by omega) (by omega)).trans f8_21
  have f9_23 : U9 23 = A.2.2.1 := (w9w _ (by omega) (by omega)).trans f8_23
  have f9_25 : U9 25 = A.2.2.2.1 := (w9w _ (by omega) (by omega)).trans f8_25
  have f9_27 : U9 27 = A.2.2.2.2 := (w9w _ (by omega) (by omega)).trans f8_27
  have f9_29 : U9 29 = (2 * A.2.1) := (w9w _ (by omega) (by omega)).trans f8_29
  have f9_31 : U9 31 = (2 * A.2.2.2.2) := (w9w _ (by omega) (by omega)).trans f8_31
  have f9_33 : U9 33 = eb4 A := (w9w _ (by omega) (by omega)).trans f8_33
  have f9_35 : U9 35 = (2 * eb6 A) := (w9w _ (by omega) (by omega)).trans f8_35
  have f9_37 : U9 37 = eb8 A := (w9w _ (by omega) (by omega)).trans f8_37
  have f9_42 : U9 42 = w5 := (w9w _ (by omega) (by omega)).trans f8_42
  have f9_48 : U9 48 = w6 := (w9w _ (by omega) (by omega)).trans f8_48
  have f9_50 : U9 50 = w7 := (w9w _ (by omega) (by omega)).trans f8_50
  have g9 : ∀ j : Nat, (j < 40 ∨ 58 < j) → j ≠ 5 → U9 j = U j := fun j j1 j2 => (w9w j (by omega) j2).trans (g8 j j1 j2)
  refine z_aload_n K d_C_drawTangent_183 rfl ?_
  refine zx_gC K fd_C_51 rfl d_C_drawTangent_184 ?_
  refine z_aload_n K d_C_drawTangent_187 rfl ?_
  refine zx_gC K fd_C_35 rfl d_C_drawTangent_188 ?_
  refine z_aload_n K d_C_drawTangent_191 rfl ?_
  refine zx_gP K (by first | assumption | rfl) fd_C_141 rfl d_C_drawTangent_192 ?_
  refine z_aload_n K d_C_drawTangent_195 rfl ?_
  refine zx_gC K fd_C_35 rfl d_C_drawTangent_196 ?_
  obtain ⟨w10, ex10⟩ : ∃ z : Int, z = w9 * (z1 * z1) := ⟨_, rfl⟩
  have b10 : lt9 w10 39 := by rw [ex10]; have z := lt9_mul b9 pb.2.2.2.1; exact z
  refine z_callV (ci := 4) (As := [.ref (a + 52), .ref (a + (po + 7)), .ref (a + 52)]) K (v_R_multiply l G b0 h a S9 hV9 (by rfl) hN_po.2.2.2.1 (by rfl) (by rw [w9u]; exact b9) (by rw [f9_po_7]; exact pb.2.2.2.1) (by decide) (by rw [w9u, f9_po_7, ← ex10]; exact lt9_mono b10 (by decide))) ca_C_71 im_R_multiply se_R_multiply rfl (by decide) (hx_R) rfl rfl (by decide) (Nat.le_of_ble_eq_true rfl) d_C_drawTangent_199 (fun r h1 hp => ?_)
  obtain ⟨S10, rfl, rfl, hV10, ef10⟩ := hp
  rw [w9u, f9_po_7, ← ex10] at hV10
  obtain ⟨U10, w10hU⟩ : ∃ W : Nat → Int, W = nu U9 52 w10 := ⟨_, rfl⟩
  rw [← w10hU] at hV10
  have f10_po_1 : U10 (po + 1) = x1 := (by rw [w10hU, nu_ne _ _ (by omega)] : U10 (po + 1) = U9 (po + 1)).trans f9_po_1
  have f10_po_3 : U10 (po + 3) = y1 := (by rw [w10hU, nu_ne _ _ (by omega)] : U10 (po + 3) = U9 (po + 3)).trans f9_po_3
  have f10_po_5 : U10 (po + 5) = z1 := (by rw [w10hU, nu_ne _ _ (by omega)] : U10 (po + 5) = U9 (po + 5)).trans f9_po_5
  have f10_po_7 : U10 (po + 7) = (z1 * z1) := (by rw [w10hU, nu_ne _ _ (by omega)] : U10 (po + 7) = U9 (po + 7)).trans f9_po_7
  have f10_po_9 : U10 (po + 9) = (z1 * z1 * z1) := (by rw [w10hU, nu_ne _ _ (by omega)] : U10 (po + 9) = U9 (po + 9)).trans f9_po_9
  have f10_19 : U10 19 = A.1 := (by rw [w10hU, nu_ne _ _ (by omega)] : U10 19 = U9 19).trans f9_19
  have f10_21 : U10 21 = A.2.1 := (by rw [w10hU, nu_ne _ _ (by omega)] : U10 21 = U9 21).trans f9_21
  have f10_23 : U10 23 = A.2.2.1 := (by rw [w10hU, nu_ne _ _ (by omega)] : U10 23 = U9 23).trans f9_23
  have f10_25 : U10 25 = A.2.2.2.1 := (by rw [w10hU, nu_ne _ _ (by omega)] : U10 25 = U9 25).trans f9_25
  have f10_27 : U10 27 = A.2.2.2.2 := (by rw [w10hU, nu_ne _ _ (by omega)] : U10 27 = U9 27).trans f9_27
  have f10_29 : U10 29 = (2 * A.2.1) := (by rw [w10hU, nu_ne _ _ (by omega)] : U10 29 = U9 29).trans f9_29
  have f10_31 : U10 31 = (2 * A.2.2.2.2) := (by rw [w10hU, nu_ne _ _ (by omega)] : U10 31 = U9 31).trans f9_31
  have f10_33 : U10 33 = eb4 A := (by rw [w10hU, nu_ne _ _ (by omega)] : U10 33 = U9 33).trans f9_33
  have f10_35 : U10 35 = (2 * eb6 A) := (by rw [w10hU, nu_ne _ _ (by omega)] : U10 35 = U9 35).trans f9_35
  have f10_37 : U10 37 = eb8 A := (by rw [w10hU, nu_ne _ _ (by omega)] : U10 37 = U9 37).trans f9_37
  have f10_42 : U10 42 = w5 := (by rw [w10hU, nu_ne _ _ (by omega)] : U10 42 = U9 42).trans f9_42
  have f10_48 : U10 48 = w6 := (by rw [w10hU, nu_ne _ _ (by omega)] : U10 48 = U9 48).trans f9_48
  have f10_50 : U10 50 = w7 := (by rw [w10hU, nu_ne _ _ (by omega)] : U10 50 = U9 50).trans f9_50
  have f10_52 : U10 52 = w10 := by rw [w10hU, nu_self]
  have g10 : ∀ j : Nat, (j < 40 ∨ 58 < j) → j ≠ 5 → U10 j = U j := fun j j1 j2 => (by rw [w10hU, nu_ne _ _ (by omega)] : U10 j = U9 j).trans (g9 j j1 j2)
  refine z_aload_n K d_C_drawTangent_202 rfl ?_
  refine zx_gC K fd_C_51 rfl d_C_drawTangent_203 ?_
  refine z_aload_n K d_C_drawTangent_206 rfl ?_
  refine zx_gC K fd_C_47 rfl d_C_drawTangent_207 ?_
  refine zx_gQ K fd_C_165 rfl d_C_drawTangent_210 ?_
  refine z_aload_n K d_C_drawTangent_213 rfl ?_
  refine zx_gC K fd_C_29 rfl d_C_drawTangent_214 ?_
  refine z_aload_n K d_C_drawTangent_217 rfl ?_
  refine zx_gC K fd_C_35 rfl d_C_drawTangent_218 ?_
  have b11p : lt9 (eb4 A * w6) 38 := by have z := lt9_mul bq.2.2.2.2.2.2.2.1 b6; exact z
  obtain ⟨w11, ex11⟩ : ∃ z : Int, z = w10 + eb4 A * w6 := ⟨_, rfl⟩
  have b11 : lt9 w11 40 := by rw [ex11]; have z := lt9_add b10 b11p; exact z
  refine z_callV (ci := 4) (As := [.ref (a + 33), .ref (a + 48), .ref (a + 52)]) K (v_R_addProduct l G b0 h a S10 hV10 (by rfl) (by rfl) (by rfl) (by omega) (by rw [f10_33]; exact bq.2.2.2.2.2.2.2.1) (by rw [f10_48]; exact b6) (by decide) (by rw [f10_52]; exact lt9_mono b10 (by decide)) (by rw [f10_33, f10_48]; exact lt9_mono b11p (by decide)) (by rw [f10_52, f10_33, f10_48, ← ex11]; exact lt9_mono b11 (by decide))) ca_C_85 im_R_addProduct se_R_addProduct rfl (by decide) (hx_R) rfl rfl (by decide) (Nat.le_of_ble_eq_true rfl) d_C_drawTangent_221 (fun r h1 hp => ?_)
  obtain ⟨S11, rfl, rfl, ⟨U11, hV11, w11u, w11w⟩, ef11⟩ := hp
  rw [f10_52, f10_33, f10_48, ← ex11] at w11u
  have f11_po_1 : U11 (po + 1) = x1 := (w11w _ (by omega) (by omega)).trans f10_po_1
  have f11_po_3 : U11 (po + 3) = y1 := (w11w _ (by omega) (by omega)).trans f10_po_3
  have f11_po_5 : U11 (po + 5) = z1 := (w11w _ (by omega) (by omega)).trans f10_po_5
  have f11_po_7 : U11 (po + 7) = (z1 * z1) := (w11w _ (by omega) (by omega)).trans f10_po_7
  have f11_po_9 : U11 (po + 9) = (z1 * z1 * z1) := (w11w _ (by omega) (by omega)).trans f10_po_9
  have f11_19 : U11 19 = A.1 := (w11w _ (by omega) (by omega)).trans f10_19
  have f11_21 : U11 21 = A.2.1 := (w11w _ (by omega) (by omega)).trans f10_21
  have f11_23 : U11 23 = A.2.2.1 := (w11w _ (by omega) (by omega)).trans f10_23
  have f11_25 : U11 25 = A.2.2.2.1 := (w11w _ (by omega) (by omega)).trans f10_25
  have f11_27 : U11 27 = A.2.2.2.2 := (w11w _ (by omega) (by omega)).trans f10_27
  have f11_29 : U11 29 = (2 * A.2.1) := (w11w _ (by omega) (by omega)).trans f10_29
  have f11_31 : U11 31 = (2 * A.2.2.2.2) := (w11w _ (by omega) (by omega)).trans f10_31
  have f11_33 : U11 33 = eb4 A := (w11w _ (by omega) (by omega)).trans f10_33
  have f11_35 : U11 35 = (2 * eb6 A) := (w11w _ (by omega) (by omega)).trans f10_35
  have f11_37 : U11 37 = eb8 A := (w11w _ (by omega) (by omega)).trans f10_37
  have f11_42 : U11 42 = w5 := (w11w _ (by omega) (by omega)).trans f10_42
  have f11_48 : U11 48 = w6 := (w11w _ (by omega) (by omega)).trans f10_48
  have f11_50 : U11 50 = w7 := (w11w _ (by omega) (by omega)).trans f10_50
  have g11 : ∀ j : Nat, (j < 40 ∨ 58 < j) → j ≠ 5 → U11 j = U j := fun j j1 j2 => (w11w j (by omega) j2).trans (g10 j j1 j2)
  refine z_aload_n K d_C_drawTangent_224 rfl ?_
  refine zx_gC K fd_C_51 rfl d_C_drawTangent_225 ?_
  refine z_aload_n K d_C_drawTangent_228 rfl ?_
  refine zx_gC K fd_C_29 rfl d_C_drawTangent_229 ?_
  refine z_aload_n K d_C_drawTangent_232 rfl ?_
  refine zx_gC K fd_C_29 rfl d_C_drawTangent_233 ?_
  refine z_aload_n K d_C_drawTangent_236 rfl ?_
  refine zx_gC K fd_C_14 rfl d_C_drawTangent_237 ?_
  obtain ⟨w12, ex12⟩ : ∃ z : Int, z = w6 * w6 := ⟨_, rfl⟩
  have b12 : lt9 w12 72 := by rw [ex12]; have z := lt9_mul b6 b6; exact z
  refine z_callV (ci := 4) (As := [.ref (a + 48), .ref (a + 48), .ref (a + 40)]) K (v_R_multiply l G b0 h a S11 hV11 (by rfl) (by rfl) (by rfl) (by rw [f11_48]; exact b6) (by rw [f11_48]; exact b6) (by decide) (by rw [f11_48, ← ex12]; exact lt9_mono b12 (by decide))) ca_C_71 im_R_multiply se_R_multiply rfl (by decide) (hx_R) rfl rfl (by decide) (Nat.le_of_ble_eq_true rfl) d_C_drawTangent_240 (fun r h1 hp => ?_)
  obtain ⟨S12, rfl, rfl, hV12, ef12⟩ := hp
  rw [f11_48, ← ex12] at hV12
  obtain ⟨U12, w12hU⟩ : ∃ W : Nat → Int, W = nu U11 40 w12 := ⟨_, rfl⟩
  rw [← w12hU] at hV12
  have f12_po_1 : U12 (po + 1) = x1 := (by rw [w12hU, nu_ne _ _ (by omega)] : U12 (po + 1) = U11 (po + 1)).trans f11_po_1
  have f12_po_3 : U12 (po + 3) = y1 := (by rw [w12hU, nu_ne _ _ (by omega)] : U12 (po + 3) = U11 (po + 3)).trans f11_po_3
  have f12_po_5 : U12 (po + 5) = z1 := (by rw [w12hU, nu_ne _ _ (by omega)] : U12 (po + 5) = U11 (po + 5)).trans f11_po_5
  have f12_po_7 : U12 (po + 7) = (z1 * z1) := (by rw [w12hU, nu_ne _ _ (by omega)] : U12 (po + 7) = U11 (po + 7)).trans f11_po_7
  have f12_po_9 : U12 (po + 9) = (z1 * z1 * z1) := (by rw [w12hU, nu_ne _ _ (by omega)] : U12 (po + 9) = U11 (po + 9)).trans f11_po_9
  have f12_19 : U12 19 = A.1 := (by rw [w12hU, nu_ne _ _ (by omega)] : U12 19 = U11 19).trans f11_19
  have f12_21 : U12 21 = A.2.1 := (by rw [w12hU, nu_ne _ _ (by omega)] : U12 21 = U11 21).trans f11_21
  have f12_23 : U12 23 = A.2.2.1 := (by rw [w12hU, nu_ne _ _ (by omega)] : U12 23 = U11 23).trans f11_23
  have f12_25 : U12 25 = A.2.2.2.1 := (by rw [w12hU, nu_ne _ _ (by omega)] : U12 25 = U11 25).trans f11_25
  have f12_27 : U12 27 = A.2.2.2.2 := (by rw [w12hU, nu_ne _ _ (by omega)] : U12 27 = U11 27).trans f11_27
  have f12_29 : U12 29 = (2 * A.2.1) := (by rw [w12hU, nu_ne _ _ (by omega)] : U12 29 = U11 29).trans f11_29
  have f12_31 : U12 31 = (2 * A.2.2.2.2) := (by rw [w12hU, nu_ne _ _ (by omega)] : U12 31 = U11 31).trans f11_31
  have f12_33 : U12 33 = eb4 A := (by rw [w12hU, nu_ne _ _ (by omega)] : U12 33 = U11 33).trans f11_33
  have f12_35 : U12 35 = (2 * eb6 A) := (by rw [w12hU, nu_ne _ _ (by omega)] : U12 35 = U11 35).trans f11_35
  have f12_37 : U12 37 = eb8 A := (by rw [w12hU, nu_ne _ _ (by omega)] : U12 37 = U11 37).trans f11_37
  have f12_42 : U12 42 = w5 := (by rw [w12hU, nu_ne _ _ (by omega)] : U12 42 = U11 42).trans f11_42
  have f12_48 : U12 48 = w6 := (by rw [w12hU, nu_ne _ _ (by omega)] : U12 48 = U11 48).trans f11_48
  have f12_50 : U12 50 = w7 := (by rw [w12hU, nu_ne _ _ (by omega)] : U12 50 = U11 50).trans f11_50
  have f12_52 : U12 52 = w11 := (by rw [w12hU, nu_ne _ _ (by omega)] : U12 52 = U11 52).trans w11u
  have f12_40 : U12 40 = w12 := by rw [w12hU, nu_self]
  have g12 : ∀ j : Nat, (j < 40 ∨ 58 < j) → j ≠ 5 → U12 j = U j := fun j j1 j2 => (by rw [w12hU, nu_ne _ _ (by omega)] : U12 j = U11 j).trans (g11 j j1 j2)
  refine z_aload_n K d_C_drawTangent_243 rfl ?_
  refine zx_gC K fd_C_51 rfl d_C_drawTangent_244 ?_
  refine z_aload_n K d_C_drawTangent_247 rfl ?_
  refine zx_gC K fd_C_35 rfl d_C_drawTangent_248 ?_
  refine z_aload_n K d_C_drawTangent_251 rfl ?_
  refine zx_gC K fd_C_32 rfl d_C_drawTangent_252 ?_
  refine z_aload_n K d_C_drawTangent_255 rfl ?_
  refine zx_gC K fd_C_14 rfl d_C_drawTangent_256 ?_
  have b13p : lt9 (w11 * w7) 76 := by have z := lt9_mul b11 b7; exact z
  obtain ⟨w13, ex13⟩ : ∃ z : Int, z = w12 - w11 * w7 := ⟨_, rfl⟩
  have b13 : lt9 w13 77 := by rw [ex13]; have z := lt9_sub b12 b13p; exact z
  refine z_callV (ci := 4) (As := [.ref (a + 52), .ref (a + 50), .ref (a + 40)]) K (v_R_subtractProduct l G b0 h a S12 hV12 (by rfl) (by rfl) (by rfl) (by omega) (by rw [f12_52]; exact b11) (by rw [f12_50]; exact b7) (by decide) (by rw [f12_40]; exact lt9_mono b12 (by decide)) (by rw [f12_52, f12_50]; exact lt9_mono b13p (by decide)) (by rw [f12_40, f12_52, f12_50, ← ex13]; exact lt9_mono b13 (by decide))) ca_C_168 im_R_subtractProduct se_R_subtractProduct rfl (by decide) (hx_R) rfl rfl (by decide) (Nat.le_of_ble_eq_true rfl) d_C_drawTangent_259 (fun r h1 hp => ?_)
  obtain ⟨S13, rfl, rfl, ⟨U13, hV13, w13u, w13w⟩, ef13⟩ := hp
  rw [f12_40, f12_52, f12_50, ← ex13] at w13u
  have f13_po_1 : U13 (po + 1) = x1 := (w13w _ (by omega) (by omega)).trans f12_po_1
  have f13_po_3 : U13 (po + 3) = y1 := (w13w _ (by omega) (by omega)).trans f12_po_3
  have f13_po_5 : U13 (po + 5) = z1 := (w13w _ (by omega) (by omega)).trans f12_po_5
  have f13_po_7 : U13 (po + 7) = (z1 * z1) := (w13w _ (by omega) (by omega)).trans f12_po_7
  have f13_po_9 : U13 (po + 9) = (z1 * z1 * z1) := (w13w _ (by omega) (by omega)).trans f12_po_9
  have f13_19 : U13 19 = A.1 := (w13w _ (by omega) (by omega)).trans f12_19
  have f13_21 : U13 21 = A.2.1 := (w13w _ (by omega) (by omega)).trans f12_21
  have f13_23 : U13 23 = A.2.2.1 := (w13w _ (by omega) (by omega)).trans f12_23
  have f13_25 : U13 25 = A.2.2.2.1 := (w13w _ (by omega) (by omega)).trans f12_25
  have f13_27 : U13 27 = A.2.2.2.2 := (w13w _ (by omega) (by omega)).trans f12_27
  have f13_29 : U13 29 = (2 * A.2.1) := (w13w _ (by omega) (by omega)).trans f12_29
  have f13_31 : U13 31 = (2 * A.2.2.2.2) := (w13w _ (by omega) (by omega)).trans f12_31
  have f13_33 : U13 33 = eb4 A := (w13w _ (by omega) (by omega)).trans f12_33
  have f13_35 : U13 35 = (2 * eb6 A) := (w13w _ (by omega) (by omega)).trans f12_35
  have f13_37 : U13 37 = eb8 A := (w13w _ (by omega) (by omega)).trans f12_37
  have f13_42 : U13 42 = w5 := (w13w _ (by omega) (by omega)).trans f12_42
  have f13_48 : U13 48 = w6 := (w13w _ (by omega) (by omega)).trans f12_48
  have f13_50 : U13 50 = w7 := (w13w _ (by omega) (by omega)).trans f12_50
  have f13_52 : U13 52 = w11 := (w13w _ (by omega) (by omega)).trans f12_52
  have g13 : ∀ j : Nat, (j < 40 ∨ 58 < j) → j ≠ 5 → U13 j = U j := fun j j1 j2 => (w13w j (by omega) j2).trans (g12 j j1 j2)
  refine z_aload_n K d_C_drawTangent_262 rfl ?_
  refine zx_gC K fd_C_51 rfl d_C_drawTangent_263 ?_
  refine z_aload_n K d_C_drawTangent_266 rfl ?_
  refine zx_gC K fd_C_29 rfl d_C_drawTangent_267 ?_
  refine z_aload_n K d_C_drawTangent_270 rfl ?_
  refine zx_gC K fd_C_29 rfl d_C_drawTangent_271 ?_
  refine z_aload_n K d_C_drawTangent_274 rfl ?_
  refine zx_gC K fd_C_23 rfl d_C_drawTangent_275 ?_
  obtain ⟨w14, ex14⟩ : ∃ z : Int, z = w6 + w6 := ⟨_, rfl⟩
  have b14 : lt9 w14 37 := by rw [ex14]; have z := lt9_add b6 b6; exact z
  refine z_callV (ci := 4) (As := [.ref (a + 48), .ref (a + 48), .ref (a + 44)]) K (v_R_add l G b0 h a S13 hV13 (by rfl) (by rfl) (by rfl) (by rw [f13_48]; exact lt9_mono b6 (by decide)) (by rw [f13_48]; exact lt9_mono b6 (by decide)) (by rw [f13_48, ← ex14]; exact lt9_mono b14 (by decide))) ca_C_147 im_R_add se_R_add rfl (by decide) (hx_R) rfl rfl (by decide) (Nat.le_of_ble_eq_true rfl) d_C_drawTangent_278 (fun r h1 hp => ?_)
  obtain ⟨S14, rfl, rfl, hV14, ef14⟩ := hp
  rw [f13_48, ← ex14] at hV14
  obtain ⟨U14, w14hU⟩ : ∃ W : Nat → Int, W = nu U13 44 w14 := ⟨_, rfl⟩
  rw [← w14hU] at hV14
  have f14_po_1 : U14 (po + 1) = x1 := (by rw [w14hU, nu_ne _ _ (by omega)] : U14 (po + 1) = U13 (po + 1)).trans f13_po_1
  have f14_po_3 : U14 (po + 3) = y1 := (by rw [w14hU, nu_ne _ _ (by omega)] : U14 (po + 3) = U13 (po + 3)).trans f13_po_3
  have f14_po_5 : U14 (po + 5) = z1 := (by rw [w14hU, nu_ne _ _ (by omega)] : U14 (po + 5) = U13 (po + 5)).trans f13_po_5
  have f14_po_7 : U14 (po + 7) = (z1 * z1) := (by rw [w14hU, nu_ne _ _ (by omega)] : U14 (po + 7) = U13 (po + 7)).trans f13_po_7
  have f14_po_9 : U14 (po + 9) = (z1 * z1 * z1) := (by rw [w14hU, nu_ne _ _ (by omega)] : U14 (po + 9) = U13 (po + 9)).trans f13_po_9
  have f14_19 : U14 19 = A.1 := (by rw [w14hU, nu_ne _ _ (by omega)] : U14 19 = U13 19).trans f13_19
  have f14_21 : U14 21 = A.2.1 := (by rw [w14hU, nu_ne _ _ (by omega)] : U14 21 = U13 21).trans f13_21
  have f14_23 : U14 23 = A.2.2.1 := (by rw [w14hU, nu_ne _ _ (by omega)] : U14 23 = U13 23).trans f13_23
  have f14_25 : U14 25 = A.2.2.2.1 := (by rw [w14hU, nu_ne _ _ (by omega)] : U14 25 = U13 25).trans f13_25
  have f14_27 : U14 27 = A.2.2.2.2 := (by rw [w14hU, nu_ne _ _ (by omega)] : U14 27 = U13 27).trans f13_27
  have f14_29 : U14 29 = (2 * A.2.1) := (by rw [w14hU, nu_ne _ _ (by omega)] : U14 29 = U13 29).trans f13_29
  have f14_31 : U14 31 = (2 * A.2.2.2.2) := (by rw [w14hU, nu_ne _ _ (by omega)] : U14 31 = U13 31).trans f13_31
  have f14_33 : U14 33 = eb4 A := (by rw [w14hU, nu_ne _ _ (by omega)] : U14 33 = U13 33).trans f13_33
  have f14_35 : U14 35 = (2 * eb6 A) := (by rw [w14hU, nu_ne _ _ (by omega)] : U14 35 = U13 35).trans f13_35
  have f14_37 : U14 37 = eb8 A := (by rw [w14hU, nu_ne _ _ (by omega)] : U14 37 = U13 37).trans f13_37
  have f14_42 : U14 42 = w5 := (by rw [w14hU, nu_ne _ _ (by omega)] : U14 42 = U13 42).trans f13_42
  have f14_48 : U14 48 = w6 := (by rw [w14hU, nu_ne _ _ (by omega)] : U14 48 = U13 48).trans f13_48
  have f14_50 : U14 50 = w7 := (by rw [w14hU, nu_ne _ _ (by omega)] : U14 50 = U13 50).trans f13_50
  have f14_52 : U14 52 = w11 := (by rw [w14hU, nu_ne _ _ (by omega)] : U14 52 = U13 52).trans f13_52
  have f14_40 : U14 40 = w13 := (by rw [w14hU, nu_ne _ _ (by omega)] : U14 40 = U13 40).trans w13u
  have f14_44 : U14 44 = w14 := by rw [w14hU, nu_self]
  have g14 : ∀ j : Nat, (j < 40 ∨ 58 < j) → j ≠ 5 → U14 j = U j := fun j j1 j2 => (by rw [w14hU, nu_ne _ _ (by omega)] : U14 j = U13 j).trans (g13 j j1 j2)
  refine z_aload_n K d_C_drawTangent_281 rfl ?_
  refine zx_gC K fd_C_51 rfl d_C_drawTangent_282 ?_
  refine z_aload_n K d_C_drawTangent_285 rfl ?_
  refine zx_gC K fd_C_23 rfl d_C_drawTangent_286 ?_
  refine z_aload_n K d_C_drawTangent_289 rfl ?_
  refine zx_gC K fd_C_29 rfl d_C_drawTangent_290 ?_
  refine z_aload_n K d_C_drawTangent_293 rfl ?_
  refine zx_gC K fd_C_23 rfl d_C_drawTangent_294 ?_
  obtain ⟨w15, ex15⟩ : ∃ z : Int, z = w14 + w6 := ⟨_, rfl⟩
  have b15 : lt9 w15 38 := by rw [ex15]; have z := lt9_add b14 b6; exact z
  refine z_callV (ci := 4) (As := [.ref (a + 44), .ref (a + 48), .ref (a + 44)]) K (v_R_add l G b0 h a S14 hV14 (by rfl) (by rfl) (by rfl) (by rw [f14_44]; exact lt9_mono b14 (by decide)) (by rw [f14_48]; exact lt9_mono b6 (by decide)) (by rw [f14_44, f14_48, ← ex15]; exact lt9_mono b15 (by decide))) ca_C_147 im_R_add se_R_add rfl (by decide) (hx_R) rfl rfl (by decide) (Nat.le_of_ble_eq_true rfl) d_C_drawTangent_297 (fun r h1 hp => ?_)
  obtain ⟨S15, rfl, rfl, hV15, ef15⟩ := hp
  rw [f14_44, f14_48, ← ex15] at hV15
  obtain ⟨U15, w15hU⟩ : ∃ W : Nat → Int, W = nu U14 44 w15 := ⟨_, rfl⟩
  rw [← w15hU] at hV15
  have f15_po_1 : U15 (po + 1) = x1 := (by rw [w15hU, nu_ne _ _ (by omega)] : U15 (po + 1) = U14 (po + 1)).trans f14_po_1
  have f15_po_3 : U15 (po + 3) = y1 := (by rw [w15hU, nu_ne _ _ (by omega)] : U15 (po + 3) = U14 (po + 3)).trans f14_po_3
  have f15_po_5 : U15 (po + 5) = z1 := (by rw [w15hU, nu_ne _ _ (by omega)] : U15 (po + 5) = U14 (po + 5)).trans f14_po_5
  have f15_po_7 : U15 (po + 7) = (z1 * z1) := (by rw [w15hU, nu_ne _ _ (by omega)] : U15 (po + 7) = U14 (po + 7)).trans f14_po_7
  have f15_po_9 : U15 (po + 9) = (z1 * z1 * z1) := (by rw [w15hU, nu_ne _ _ (by omega)] : U15 (po + 9) = U14 (po + 9)).trans f14_po_9
  have f15_19 : U15 19 = A.1 := (by rw [w15hU, nu_ne _ _ (by omega)] : U15 19 = U14 19).trans f14_19
  have f15_21 : U15 21 = A.2.1 := (by rw [w15hU, nu_ne _ _ (by omega)] : U15 21 = U14 21).trans f14_21
  have f15_23 : U15 23 = A.2.2.1 := (by rw [w15hU, nu_ne _ _ (by omega)] : U15 23 = U14 23).trans f14_23
  have f15_25 : U15 25 = A.2.2.2.1 := (by rw [w15hU, nu_ne _ _ (by omega)] : U15 25 = U14 25).trans f14_25
  have f15_27 : U15 27 = A.2.2.2.2 := (by rw [w15hU, nu_ne _ _ (by omega)] : U15 27 = U14 27).trans f14_27
  have f15_29 : U15 29 = (2 * A.2.1) := (by rw [w15hU, nu_ne _ _ (by omega)] : U15 29 = U14 29).trans f14_29
  have f15_31 : U15 31 = (2 * A.2.2.2.2) := (by rw [w15hU, nu_ne _ _ (by omega)] : U15 31 = U14 31).trans f14_31
  have f15_33 : U15 33 = eb4 A := (by rw [w15hU, nu_ne _ _ (by omega)] : U15 33 = U14 33).trans f14_33
  have f15_35 : U15 35 = (2 * eb6 A) := (by rw [w15hU, nu_ne _ _ (by omega)] : U15 35 = U14 35).trans f14_35
  have f15_37 : U15 37 = eb8 A := (by rw [w15hU, nu_ne _ _ (by omega)] : U15 37 = U14 37).trans f14_37
  have f15_42 : U15 42 = w5 := (by rw [w15hU, nu_ne _ _ (by omega)] : U15 42 = U14 42).trans f14_42
  have f15_48 : U15 48 = w6 := (by rw [w15hU, nu_ne _ _ (by omega)] : U15 48 = U14 48).trans f14_48
  have f15_50 : U15 50 = w7 := (by rw [w15hU, nu_ne _ _ (by omega)] : U15 50 = U14 50).trans f14_50
  have f15_52 : U15 52 = w11 := (by rw [w15hU, nu_ne _ _ (by omega)] : U15 52 = U14 52).trans f14_52
  have f15_40 : U15 40 = w13 := (by rw [w15hU, nu_ne _ _ (by omega)] : U15 40 = U14 40).trans f14_40
  have f15_44 : U15 44 = w15 := by rw [w15hU, nu_self]
  have g15 : ∀ j : Nat, (j < 40 ∨ 58 < j) → j ≠ 5 → U15 j = U j := fun j j1 j2 => (by rw [w15hU, nu_ne _ _ (by omega)] : U15 j = U14 j).trans (g14 j j1 j2)
  refine z_aload_n K d_C_drawTangent_300 rfl ?_
  refine zx_gC K fd_C_51 rfl d_C_drawTangent_301 ?_
  refine z_aload_n K d_C_drawTangent_304 rfl ?_
  refine zx_gP K (by first | assumption | rfl) fd_C_65 rfl d_C_drawTangent_305 ?_
  refine z_aload_n K d_C_drawTangent_308 rfl ?_
  refine zx_gP K (by first | assumption | rfl) fd_C_141 rfl d_C_drawTangent_309 ?_
  refine z_aload_n K d_C_drawTangent_312 rfl ?_
  refine zx_gC K fd_C_35 rfl d_C_drawTangent_313 ?_
  obtain ⟨w16, ex16⟩ : ∃ z : Int, z = x1 * (z1 * z1) := ⟨_, rfl⟩
  have b16 : lt9 w16 36 := by rw [ex16]; have z := lt9_mul pb.1 pb.2.2.2.1; exact z
  refine z_callV (ci := 4) (As := [.ref (a + (po + 1)), .ref (a + (po + 7)), .ref (a + 52)]) K (v_R_multiply l G b0 h a S15 hV15 hN_po.1 hN_po.2.2.2.1 (by rfl) (by rw [f15_po_1]; exact pb.1) (by rw [f15_po_7]; exact pb.2.2.2.1) (by decide) (by rw [f15_po_1, f15_po_7, ← ex16]; exact lt9_mono b16 (by decide))) ca_C_71 im_R_multiply se_R_multiply rfl (by decide) (hx_R) rfl rfl (by decide) (Nat.le_of_ble_eq_true rfl) d_C_drawTangent_316 (fun r h1 hp => ?_)
  obtain ⟨S16, rfl, rfl, hV16, ef16⟩ := hp
  rw [f15_po_1, f15_po_7, ← ex16] at hV16
  obtain ⟨U16, w16hU⟩ : ∃ W : Nat → Int, W = nu U15 52 w16 := ⟨_, rfl⟩
  rw [← w16hU] at hV16
  have f16_po_1 : U16 (po + 1) = x1 := (by rw [w16hU, nu_ne _ _ (by omega)] : U16 (po + 1) = U15 (po + 1)).trans f15_po_1
  have f16_po_3 : U16 (po + 3) = y1 := (by rw [w16hU, nu_ne _ _ (by omega)] : U16 (po + 3) = U15 (po + 3)).trans f15_po_3
  have f16_po_5 : U16 (po + 5) = z1 := (by rw [w16hU, nu_ne _ _ (by omega)] : U16 (po + 5) = U15 (po + 5)).trans f15_po_5
  have f16_po_7 : U16 (po + 7) = (z1 * z1) := (by rw [w16hU, nu_ne _ _ (by omega)] : U16 (po + 7) = U15 (po + 7)).trans f15_po_7
  have f16_po_9 : U16 (po + 9) = (z1 * z1 * z1) := (by rw [w16hU, nu_ne _ _ (by omega)] : U16 (po + 9) = U15 (po + 9)).trans f15_po_9
  have f16_19 : U16 19 = A.1 := (by rw [w16hU, nu_ne _ _ (by omega)] : U16 19 = U15 19).trans f15_19
  have f16_21 : U16 21 = A.2.1 := (by rw [w16hU, nu_ne _ _ (by omega)] : U16 21 = U15 21).trans f15_21
  have f16_23 : U16 23 = A.2.2.1 := (by rw [w16hU, nu_ne _ _ (by omega)] : U16 23 = U15 23).trans f15_23
  have f16_25 : U16 25 = A.2.2.2.1 := (by rw [w16hU, nu_ne _ _ (by omega)] : U16 25 = U15 25).trans f15_25
  have f16_27 : U16 27 = A.2.2.2.2 := (by rw [w16hU, nu_ne _ _ (by omega)] : U16 27 = U15 27).trans f15_27
  have f16_29 : U16 29 = (2 * A.2.1) := (by rw [w16hU, nu_ne _ _ (by omega)] : U16 29 = U15 29).trans f15_29
  have f16_31 : U16 31 = (2 * A.2.2.2.2) := (by rw [w16hU, nu_ne _ _ (by omega)] : U16 31 = U15 31).trans f15_31
  have f16_33 : U16 33 = eb4 A := (by rw [w16hU, nu_ne _ _ (by omega)] : U16 33 = U15 33).trans f15_33
  have f16_35 : U16 35 = (2 * eb6 A) := (by rw [w16hU, nu_ne _ _ (by omega)] : U16 35 = U15 35).trans f15_35
  have f16_37 : U16 37 = eb8 A := (by rw [w16hU, nu_ne _ _ (by omega)] : U16 37 = U15 37).trans f15_37
  have f16_42 : U16 42 = w5 := (by rw [w16hU, nu_ne _ _ (by omega)] : U16 42 = U15 42).trans f15_42
  have f16_48 : U16 48 = w6 := (by rw [w16hU, nu_ne _ _ (by omega)] : U16 48 = U15 48).trans f15_48
  have f16_50 : U16 50 = w7 := (by rw [w16hU, nu_ne _ _ (by omega)] : U16 50 = U15 50).trans f15_50
  have f16_40 : U16 40 = w13 := (by rw [w16hU, nu_ne _ _ (by omega)] : U16 40 = U15 40).trans f15_40
  have f16_44 : U16 44 = w15 := (by rw [w16hU, nu_ne _ _ (by omega)] : U16 44 = U15 44).trans f15_44
  have f16_52 : U16 52 = w16 := by rw [w16hU, nu_self]
  have g16 : ∀ j : Nat, (j < 40 ∨ 58 < j) → j ≠ 5 → U16 j = U j := fun j j1 j2 => (by rw [w16hU, nu_ne _ _ (by omega)] : U16 j = U15 j).trans (g15 j j1 j2)
  refine z_aload_n K d_C_drawTangent_319 rfl ?_
  refine zx_gC K fd_C_51 rfl d_C_drawTangent_320 ?_
  refine z_aload_n K d_C_drawTangent_323 rfl ?_
  refine zx_gC K fd_C_47 rfl d_C_drawTangent_324 ?_
  refine zx_gQ K fd_C_150 rfl d_C_drawTangent_327 ?_
  refine z_aload_n K d_C_drawTangent_330 rfl ?_
  refine zx_gC K fd_C_35 rfl d_C_drawTangent_331 ?_
  refine z_aload_n K d_C_drawTangent_334 rfl ?_
  refine zx_gC K fd_C_23 rfl d_C_drawTangent_335 ?_
  have b17p : lt9 ((2 * A.2.1) * w16) 37 := by have z := lt9_mul bq.2.2.2.2.2.1 b16; exact z
  obtain ⟨w17, ex17⟩ : ∃ z : Int, z = w15 + (2 * A.2.1) * w16 := ⟨_, rfl⟩
  have b17 : lt9 w17 39 := by rw [ex17]; have z := lt9_add b15 b17p; exact z
  refine z_callV (ci := 4) (As := [.ref (a + 29), .ref (a + 52), .ref (a + 44)]) K (v_R_addProduct l G b0 h a S16 hV16 (by rfl) (by rfl) (by rfl) (by omega) (by rw [f16_29]; exact bq.2.2.2.2.2.1) (by rw [f16_52]; exact b16) (by decide) (by rw [f16_44]; exact lt9_mono b15 (by decide)) (by rw [f16_29, f16_52]; exact lt9_mono b17p (by decide)) (by rw [f16_44, f16_29, f16_52, ← ex17]; exact lt9_mono b17 (by decide))) ca_C_85 im_R_addProduct se_R_addProduct rfl (by decide) (hx_R) rfl rfl (by decide) (Nat.le_of_ble_eq_true rfl) d_C_drawTangent_338 (fun r h1 hp => ?_)
  obtain ⟨S17, rfl, rfl, ⟨U17, hV17, w17u, w17w⟩, ef17⟩ := hp
  rw [f16_44, f16_29, f16_52, ← ex17] at w17u
  have f17_po_1 : U17 (po + 1) = x1 := (w17w _ (by omega) (by omega)).trans f16_po_1
  have f17_po_3 : U17 (po + 3) = y1 := (w17w _ (by omega) (by omega)).trans f16_po_3
  have f17_po_5 : U17 (po + 5) = z1 := (w17w _ (by omega) (by omega)).trans f16_po_5
  have f17_po_7 : U17 (po + 7) = (z1 * z1) := (w17w _ (by omega) (by omega)).trans f16_po_7
  have f17_po_9 : U17 (po + 9) = (z1 * z1 * z1) := (w17w _ (by omega) (by omega)).trans f16_po_9
  have f17_19 : U17 19 = A.1 := (w17w _ (by omega) (by omega)).trans f16_19
  have f17_21 : U17 21 = A.2.1 := (w17w _ (by omega) (by omega)).trans f16_21
  have f17_23 : U17 23 = A.2.2.1 := (w17w _ (by omega) (by omega)).trans f16_23
  have f17_25 : U17 25 = A.2.2.2.1 := (w17w _ (by omega) (by omega)).trans f16_25
  have f17_27 : U17 27 = A.2.2.2.2 := (w17w _ (by omega) (by omega)).trans f16_27
  have f17_29 : U17 29 = (2 * A.2.1) := (w17w _ (by omega) (by omega)).trans f16_29
  have f17_31 : U17 31 = (2 * A.2.2.2.2) := (w17w _ (by omega) (by omega)).trans f16_31
  have f17_33 : U17 33 = eb4 A := (w17w _ (by omega) (by omega)).trans f16_33
  have f17_35 : U17 35 = (2 * eb6 A) := (w17w _ (by omega) (by omega)).trans f16_35
  have f17_37 : U17 37 = eb8 A := (w17w _ (by omega) (by omega)).trans f16_37
  have f17_42 : U17 42 = w5 := (w17w _ (by omega) (by omega)).trans f16_42
  have f17_48 : U17 48 = w6 := (w17w _ (by omega) (by omega)).trans f16_48
  have f17_50 : U17 50 = w7 := (w17w _ (by omega) (by omega)).trans f16_50
  have f17_40 : U17 40 = w13 := (w17w _ (by omega) (by omega)).trans f16_40
  have f17_52 : U17 52 = w16 := (w17w _ (by omega) (by omega)).trans f16_52
  have g17 : ∀ j : Nat, (j < 40 ∨ 58 < j) → j ≠ 5 → U17 j = U j := fun j j1 j2 => (w17w j (by omega) j2).trans (g16 j j1 j2)
  refine z_aload_n K d_C_drawTangent_341 rfl ?_
  refine zx_gC K fd_C_51 rfl d_C_drawTangent_342 ?_
  refine z_aload_n K d_C_drawTangent_345 rfl ?_
  refine zx_gC K fd_C_47 rfl d_C_drawTangent_346 ?_
  refine zx_gQ K fd_C_153 rfl d_C_drawTangent_349 ?_
  refine z_aload_n K d_C_drawTangent_352 rfl ?_
  refine zx_gC K fd_C_32 rfl d_C_drawTangent_353 ?_
  refine z_aload_n K d_C_drawTangent_356 rfl ?_
  refine zx_gC K fd_C_23 rfl d_C_drawTangent_357 ?_
  have b18p : lt9 (A.2.2.2.1 * w7) 37 := by have z := lt9_mul bq.2.2.2.1 b7; exact z
  obtain ⟨w18, ex18⟩ : ∃ z : Int, z = w17 + A.2.2.2.1 * w7 := ⟨_, rfl⟩
  have b18 : lt9 w18 40 := by rw [ex18]; have z := lt9_add b17 b18p; exact z
  refine z_callV (ci := 4) (As := [.ref (a + 25), .ref (a + 50), .ref (a + 44)]) K (v_R_addProduct l G b0 h a S17 hV17 (by rfl) (by rfl) (by rfl) (by omega) (by rw [f17_25]; exact bq.2.2.2.1) (by rw [f17_50]; exact b7) (by decide) (by rw [w17u]; exact lt9_mono b17 (by decide)) (by rw [f17_25, f17_50]; exact lt9_mono b18p (by decide)) (by rw [w17u, f17_25, f17_50, ← ex18]; exact lt9_mono b18 (by decide))) ca_C_85 im_R_addProduct se_R_addProduct rfl (by decide) (hx_R) rfl rfl (by decide) (Nat.le_of_ble_eq_true rfl) d_C_drawTangent_360 (fun r h1 hp => ?_)
  obtain ⟨S18, rfl, rfl, ⟨U18, hV18, w18u, w18w⟩, ef18⟩ := hp
  rw [w17u, f17_25, f17_50, ← ex18] at w18u
  have f18_po_1 : U18 (po + 1) = x1 := (w18w _ (by omega) (by omega)).trans f17_po_1
  have f18_po_3 : U18 (po + 3) = y1 := (w18w _ (by omega) (by omega)).trans f17_po_3
  have f18_po_5 : U18 (po + 5) = z1 := (w18w _ (by omega) (by omega)).trans f17_po_5
  have f18_po_7 : U18 (po + 7) = (z1 * z1) := (w18w _ (by omega) (by omega)).trans f17_po_7
  have f18_po_9 : U18 (po + 9) = (z1 * z1 * z1) := (w18w _ (by omega) (by omega)).trans f17_po_9
  have f18_19 : U18 19 = A.1 := (w18w _ (by omega) (by omega)).trans f17_19
  have f18_21 : U18 21 = A.2.1 := (w18w _ (by omega) (by omega)).trans f17_21
  have f18_23 : U18 23 = A.2.2.1 := (w18w _ (by omega) (by omega)).trans f17_23
  have f18_25 : U18 25 = A.2.2.2.1 := (w18w _ (by omega) (by omega)).trans f17_25
  have f18_27 : U18 27 = A.2.2.2.2 := (w18w _ (by omega) (by omega)).trans f17_27
  have f18_29 : U18 29 = (2 * A.2.1) := (w18w _ (by omega) (by omega)).trans f17_29
  have f18_31 : U18 31 = (2 * A.2.2.2.2) := (w18w _ (by omega) (by omega)).trans f17_31
  have f18_33 : U18 33 = eb4 A := (w18w _ (by omega) (by omega)).trans f17_33
  have f18_35 : U18 35 = (2 * eb6 A) := (w18w _ (by omega) (by omega)).trans f17_35
  have f18_37 : U18 37 = eb8 A := (w18w _ (by omega) (by omega)).trans f17_37
  have f18_42 : U18 42 = w5 := (w18w _ (by omega) (by omega)).trans f17_42
  have f18_48 : U18 48 = w6 := (w18w _ (by omega) (by omega)).trans f17_48
  have f18_50 : U18 50 = w7 := (w18w _ (by omega) (by omega)).trans f17_50
  have f18_40 : U18 40 = w13 := (w18w _ (by omega) (by omega)).trans f17_40
  have f18_52 : U18 52 = w16 := (w18w _ (by omega) (by omega)).trans f17_52
  have g18 : ∀ j : Nat, (j < 40 ∨ 58 < j) → j ≠ 5 → U18 j = U j := fun j j1 j2 => (w18w j (by omega) j2).trans (g17 j j1 j2)
  refine z_aload_n K d_C_drawTangent_363 rfl ?_
  refine zx_gC K fd_C_51 rfl d_C_drawTangent_364 ?_
  refine z_aload_n K d_C_drawTangent_367 rfl ?_
  refine zx_gP K (by first | assumption | rfl) fd_C_82 rfl d_C_drawTangent_368 ?_
  refine z_aload_n K d_C_drawTangent_371 rfl ?_
  refine zx_gP K (by first | assumption | rfl) fd_C_68 rfl d_C_drawTangent_372 ?_
  refine z_aload_n K d_C_drawTangent_375 rfl ?_
  refine zx_gC K fd_C_35 rfl d_C_drawTangent_376 ?_
  obtain ⟨w19, ex19⟩ : ∃ z : Int, z = y1 * z1 := ⟨_, rfl⟩
  have b19 : lt9 w19 37 := by rw [ex19]; have z := lt9_mul pb.2.1 pb.2.2.1; exact z
  refine z_callV (ci := 4) (As := [.ref (a + (po + 3)), .ref (a + (po + 5)), .ref (a + 52)]) K (v_R_multiply l G b0 h a S18 hV18 hN_po.2.1 hN_po.2.2.1 (by rfl) (by rw [f18_po_3]; exact pb.2.1) (by rw [f18_po_5]; exact pb.2.2.1) (by decide) (by rw [f18_po_3, f18_po_5, ← ex19]; exact lt9_mono b19 (by decide))) ca_C_71 im_R_multiply se_R_multiply rfl (by decide) (hx_R) rfl rfl (by decide) (Nat.le_of_ble_eq_true rfl) d_C_drawTangent_379 (fun r h1 hp => ?_)
  obtain ⟨S19, rfl, rfl, hV19, ef19⟩ := hp
  rw [f18_po_3, f18_po_5, ← ex19] at hV19
  obtain ⟨U19, w19hU⟩ : ∃ W : Nat → Int, W = nu U18 52 w19 := ⟨_, rfl⟩
  rw [← w19hU] at hV19
  have f19_po_1 : U19 (po + 1) = x1 := (by rw [w19hU, nu_ne _ _ (by omega)] : U19 (po + 1) = U18 (po + 1)).trans f18_po_1
  have f19_po_3 : U19 (po + 3) = y1 := (by rw [w19hU, nu_ne _ _ (by omega)] : U19 (po + 3) = U18 (po + 3)).trans f18_po_3
  have f19_po_5 : U19 (po + 5) = z1 := (by rw [w19hU, nu_ne _ _ (by omega)] : U19 (po + 5) = U18 (po + 5)).trans f18_po_5
  have f19_po_7 : U19 (po + 7) = (z1 * z1) := (by rw [w19hU, nu_ne _ _ (by omega)] : U19 (po + 7) = U18 (po + 7)).trans f18_po_7
  have f19_po_9 : U19 (po + 9) = (z1 * z1 * z1) := (by rw [w19hU, nu_ne _ _ (by omega)] : U19 (po + 9) = U18 (po + 9)).trans f18_po_9
  have f19_19 : U19 19 = A.1 := (by rw [w19hU, nu_ne _ _ (by omega)] : U19 19 = U18 19).trans f18_19
  have f19_21 : U19 21 = A.2.1 := (by rw [w19hU, nu_ne _ _ (by omega)] : U19 21 = U18 21).trans f18_21
  have f19_23 : U19 23 = A.2.2.1 := (by rw [w19hU, nu_ne _ _ (by omega)] : U19 23 = U18 23).trans f18_23
  have f19_25 : U19 25 = A.2.2.2.1 := (by rw [w19hU, nu_ne _ _ (by omega)] : U19 25 = U18 25).trans f18_25
  have f19_27 : U19 27 = A.2.2.2.2 := (by rw [w19hU, nu_ne _ _ (by omega)] : U19 27 = U18 27).trans f18_27
  have f19_29 : U19 29 = (2 * A.2.1) := (by rw [w19hU, nu_ne _ _ (by omega)] : U19 29 = U18 29).trans f18_29
  have f19_31 : U19 31 = (2 * A.2.2.2.2) := (by rw [w19hU, nu_ne _ _ (by omega)] : U19 31 = U18 31).trans f18_31
  have f19_33 : U19 33 = eb4 A := (by rw [w19hU, nu_ne _ _ (by omega)] : U19 33 = U18 33).trans f18_33
  have f19_35 : U19 35 = (2 * eb6 A) := (by rw [w19hU, nu_ne _ _ (by omega)] : U19 35 = U18 35).trans f18_35
  have f19_37 : U19 37 = eb8 A := (by rw [w19hU, nu_ne _ _ (by omega)] : U19 37 = U18 37).trans f18_37
  have f19_42 : U19 42 = w5 := (by rw [w19hU, nu_ne _ _ (by omega)] : U19 42 = U18 42).trans f18_42
  have f19_48 : U19 48 = w6 := (by rw [w19hU, nu_ne _ _ (by omega)] : U19 48 = U18 48).trans f18_48
  have f19_50 : U19 50 = w7 := (by rw [w19hU, nu_ne _ _ (by omega)] : U19 50 = U18 50).trans f18_50
  have f19_40 : U19 40 = w13 := (by rw [w19hU, nu_ne _ _ (by omega)] : U19 40 = U18 40).trans f18_40
  have f19_44 : U19 44 = w18 := (by rw [w19hU, nu_ne _ _ (by omega)] : U19 44 = U18 44).trans w18u
  have f19_52 : U19 52 = w19 := by rw [w19hU, nu_self]
  have g19 : ∀ j : Nat, (j < 40 ∨ 58 < j) → j ≠ 5 → U19 j = U j := fun j j1 j2 => (by rw [w19hU, nu_ne _ _ (by omega)] : U19 j = U18 j).trans (g18 j j1 j2)
  refine z_aload_n K d_C_drawTangent_382 rfl ?_
  refine zx_gC K fd_C_51 rfl d_C_drawTangent_383 ?_
  refine z_aload_n K d_C_drawTangent_386 rfl ?_
  refine zx_gC K fd_C_47 rfl d_C_drawTangent_387 ?_
  refine zx_gQ K fd_C_77 rfl d_C_drawTangent_390 ?_
  refine z_aload_n K d_C_drawTangent_393 rfl ?_
  refine zx_gC K fd_C_35 rfl d_C_drawTangent_394 ?_
  refine z_aload_n K d_C_drawTangent_397 rfl ?_
  refine zx_gC K fd_C_23 rfl d_C_drawTangent_398 ?_
  have b20p : lt9 (A.1 * w19) 38 := by have z := lt9_mul bq.1 b19; exact z
  obtain ⟨w20, ex20⟩ : ∃ z : Int, z = w18 - A.1 * w19 := ⟨_, rfl⟩
  have b20 : lt9 w20 41 := by rw [ex20]; have z := lt9_sub b18 b20p; exact z
  refine z_callV (ci := 4) (As := [.ref (a + 19), .ref (a + 52), .ref (a + 44)]) K (v_R_subtractProduct l G b0 h a S19 hV19 (by rfl) (by rfl) (by rfl) (by omega) (by rw [f19_19]; exact bq.1) (by rw [f19_52]; exact b19) (by decide) (by rw [f19_44]; exact lt9_mono b18 (by decide)) (by rw [f19_19, f19_52]; exact lt9_mono b20p (by decide)) (by rw [f19_44, f19_19, f19_52, ← ex20]; exact lt9_mono b20 (by decide))) ca_C_168 im_R_subtractProduct se_R_subtractProduct rfl (by decide) (hx_R) rfl rfl (by decide) (Nat.le_of_ble_eq_true rfl) d_C_drawTangent_401 (fun r h1 hp => ?_)
  obtain ⟨S20, rfl, rfl, ⟨U20, hV20, w20u, w20w⟩, ef20⟩ := hp
  rw [f19_44, f19_19, f19_52, ← ex20] at w20u
  have f20_po_1 : U20 (po + 1) = x1 := (w20w _ (by omega) (by omega)).trans f19_po_1
  have f20_po_3 : U20 (po + 3) = y1 := (w20w _ (by omega) (by omega)).trans f19_po_3
  have f20_po_5 : U20 (po + 5) = z1 := (w20w _ (by omega) (by omega)).trans f19_po_5
  have f20_po_7 : U20 (po + 7) = (z1 * z1) := (w20w _ (by omega) (by omega)).trans f19_po_7
  have f20_po_9 : U20 (po + 9) = (z1 * z1 * z1) := (w20w _ (by omega) (by omega)).trans f19_po_9
  have f20_19 : U20 19 = A.1 := (w20w _ (by omega) (by omega)).trans f19_19
  have f20_21 : U20 21 = A.2.1 := (w20w _ (by omega) (by omega)).trans f19_21
  have f20_23 : U20 23 = A.2.2.1 := (w20w _ (by omega) (by omega)).trans f19_23
  have f20_25 : U20 25 = A.2.2.2.1 := (w20w _ (by omega) (by omega)).trans f19_25
  have f20_27 : U20 27 = A.2.2.2.2 := (w20w _ (by omega) (by omega)).trans f19_27
  have f20_29 : U20 29 = (2 * A.2.1) := (w20w _ (by omega) (by omega)).trans f19_29
  have f20_31 : U20 31 = (2 * A.2.2.2.2) := (w20w _ (by omega) (by omega)).trans f19_31
  have f20_33 : U20 33 = eb4 A := (w20w _ (by omega) (by omega)).trans f19_33
  have f20_35 : U20 35 = (2 * eb6 A) := (w20w _ (by omega) (by omega)).trans f19_35
  have f20_37 : U20 37 = eb8 A := (w20w _ (by omega) (by omega)).trans f19_37
  have f20_42 : U20 42 = w5 := (w20w _ (by omega) (by omega)).trans f19_42
  have f20_48 : U20 48 = w6 := (w20w _ (by omega) (by omega)).trans f19_48
  have f20_50 : U20 50 = w7 := (w20w _ (by omega) (by omega)).trans f19_50
  have f20_40 : U20 40 = w13 := (w20w _ (by omega) (by omega)).trans f19_40
  have f20_52 : U20 52 = w19 := (w20w _ (by omega) (by omega)).trans f19_52
  have g20 : ∀ j : Nat, (j < 40 ∨ 58 < j) → j ≠ 5 → U20 j = U j := fun j j1 j2 => (w20w j (by omega) j2).trans (g19 j j1 j2)
  refine z_aload_n K d_C_drawTangent_404 rfl ?_
  refine zx_gC K fd_C_51 rfl d_C_drawTangent_405 ?_
  refine z_aload_n K d_C_drawTangent_408 rfl ?_
  refine zx_gC K fd_C_23 rfl d_C_drawTangent_409 ?_
  refine z_aload_n K d_C_drawTangent_412 rfl ?_
  refine zx_gP K (by first | assumption | rfl) fd_C_141 rfl d_C_drawTangent_413 ?_
  refine z_aload_n K d_C_drawTangent_416 rfl ?_
  refine zx_gC K fd_C_23 rfl d_C_drawTangent_417 ?_
  obtain ⟨w21, ex21⟩ : ∃ z : Int, z = w20 * (z1 * z1) := ⟨_, rfl⟩
  have b21 : lt9 w21 59 := by rw [ex21]; have z := lt9_mul b20 pb.2.2.2.1; exact z
  refine z_callV (ci := 4) (As := [.ref (a + 44), .ref (a + (po + 7)), .ref (a + 44)]) K (v_R_multiply l G b0 h a S20 hV20 (by rfl) hN_po.2.2.2.1 (by rfl) (by rw [w20u]; exact b20) (by rw [f20_po_7]; exact pb.2.2.2.1) (by decide) (by rw [w20u, f20_po_7, ← ex21]; exact lt9_mono b21 (by decide))) ca_C_71 im_R_multiply se_R_multiply rfl (by decide) (hx_R) rfl rfl (by decide) (Nat.le_of_ble_eq_true rfl) d_C_drawTangent_420 (fun r h1 hp => ?_)
  obtain ⟨S21, rfl, rfl, hV21, ef21⟩ := hp
  rw [w20u, f20_po_7, ← ex21] at hV21
  obtain ⟨U21, w21hU⟩ : ∃ W : Nat → Int, W = nu U20 44 w21 := ⟨_, rfl⟩
  rw [← w21hU] at hV21
  have f21_po_1 : U21 (po + 1) = x1 := (by rw [w21hU, nu_ne _ _ (by omega)] : U21 (po + 1) = U20 (po + 1)).trans f20_po_1
  have f21_po_3 : U21 (po + 3) = y1 := (by rw [w21hU, nu_ne _ _ (by omega)] : U21 (po + 3) = U20 (po + 3)).trans f20_po_3
  have f21_po_5 : U21 (po + 5) = z1 := (by rw [w21hU, nu_ne _ _ (by omega)] : U21 (po + 5) = U20 (po + 5)).trans f20_po_5
  have f21_po_7 : U21 (po + 7) = (z1 * z1) := (by rw [w21hU, nu_ne _ _ (by omega)] : U21 (po + 7) = U20 (po + 7)).trans f20_po_7
  have f21_po_9 : U21 (po + 9) = (z1 * z1 * z1) := (by rw [w21hU, nu_ne _ _ (by omega)] : U21 (po + 9) = U20 (po + 9)).trans f20_po_9
  have f21_19 : U21 19 = A.1 := (by rw [w21hU, nu_ne _ _ (by omega)] : U21 19 = U20 19).trans f20_19
  have f21_21 : U21 21 = A.2.1 := (by rw [w21hU, nu_ne _ _ (by omega)] : U21 21 = U20 21).trans f20_21
  have f21_23 : U21 23 = A.2.2.1 := (by rw [w21hU, nu_ne _ _ (by omega)] : U21 23 = U20 23).trans f20_23
  have f21_25 : U21 25 = A.2.2.2.1 := (by rw [w21hU, nu_ne _ _ (by omega)] : U21 25 = U20 25).trans f20_25
  have f21_27 : U21 27 = A.2.2.2.2 := (by rw [w21hU, nu_ne _ _ (by omega)] : U21 27 = U20 27).trans f20_27
  have f21_29 : U21 29 = (2 * A.2.1) := (by rw [w21hU, nu_ne _ _ (by omega)] : U21 29 = U20 29).trans f20_29
  have f21_31 : U21 31 = (2 * A.2.2.2.2) := (by rw [w21hU, nu_ne _ _ (by omega)] : U21 31 = U20 31).trans f20_31
  have f21_33 : U21 33 = eb4 A := (by rw [w21hU, nu_ne _ _ (by omega)] : U21 33 = U20 33).trans f20_33
  have f21_35 : U21 35 = (2 * eb6 A) := (by rw [w21hU, nu_ne _ _ (by omega)] : U21 35 = U20 35).trans f20_35
  have f21_37 : U21 37 = eb8 A := (by rw [w21hU, nu_ne _ _ (by omega)] : U21 37 = U20 37).trans f20_37
  have f21_42 : U21 42 = w5 := (by rw [w21hU, nu_ne _ _ (by omega)] : U21 42 = U20 42).trans f20_42
  have f21_48 : U21 48 = w6 := (by rw [w21hU, nu_ne _ _ (by omega)] : U21 48 = U20 48).trans f20_48
  have f21_50 : U21 50 = w7 := (by rw [w21hU, nu_ne _ _ (by omega)] : U21 50 = U20 50).trans f20_50
  have f21_40 : U21 40 = w13 := (by rw [w21hU, nu_ne _ _ (by omega)] : U21 40 = U20 40).trans f20_40
  have f21_52 : U21 52 = w19 := (by rw [w21hU, nu_ne _ _ (by omega)] : U21 52 = U20 52).trans f20_52
  have f21_44 : U21 44 = w21 := by rw [w21hU, nu_self]
  have g21 : ∀ j : Nat, (j < 40 ∨ 58 < j) → j ≠ 5 → U21 j = U j := fun j j1 j2 => (by rw [w21hU, nu_ne _ _ (by omega)] : U21 j = U20 j).trans (g20 j j1 j2)
  refine z_vret K hr hlk d_C_drawTangent_423 ⟨_, rfl, rfl, ⟨_, hV21, ⟨f21_42.trans ?_, f21_40.trans ?_, f21_44.trans ?_, by rw [f21_42]; exact b5, by rw [f21_40]; exact b13, by rw [f21_44]; exact b21⟩, g21⟩, (ef21.trans (ef20.trans (ef19.trans (ef18.trans (ef17.trans (ef16.trans (ef15.trans (ef14.trans (ef13.trans (ef12.trans (ef11.trans (ef10.trans (ef9.trans (ef8.trans (ef7.trans (ef6.trans (ef5.trans (ef4.trans (ef3.trans (ef2.trans ef1))))))))))))))))))))⟩
  · subst ex21 ex20 ex19 ex18 ex17 ex16 ex15 ex14 ex13 ex12 ex11 ex10 ex9 ex8 ex7 ex6 ex5 ex4 ex3 ex2 ex1; unfold tD; grind
  · subst ex21 ex20 ex19 ex18 ex17 ex16 ex15 ex14 ex13 ex12 ex11 ex10 ex9 ex8 ex7 ex6 ex5 ex4 ex3 ex2 ex1; unfold kTopT; grind
  · subst ex21 ex20 ex19 ex18 ex17 ex16 ex15 ex14 ex13 ex12 ex11 ex10 ex9 ex8 ex7 ex6 ex5 ex4 ex3 ex2 ex1; unfold tN; grind
end C1
