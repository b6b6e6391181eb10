section C2
variable {p : Program} {l : Launch} {e : Env} {R : Room} {s : State} {m : MethodId} {args : Array Value} {below : List Frame} {meth : Method} {c : Code} {Q : State → Prop} {b0 kc ks : Nat} {G : zG} {h : zH} {a : Nat} {cd : Int}
set_option maxHeartbeats 4000000 in
set_option maxRecDepth 100000 in
theorem v_C_turnOver (l : Launch) (G : zG) (b0 : Nat) (h : zH) (a : Nat) (S : xS) {U : Nat → Int} (hV : VX S U) {x1 y1 z1 : Int} {po : Nat} (hp : isP po = true) (pv : PV U po x1 y1 z1) (pb : PB x1 y1 z1) {A : ecE} (eq : EQ U A) (hA : ecOk A) (hnn : S.f.nn po = 0) : xMet l G b0 y_C_turnOver b_C_turnOver 2 none 4 122 h a [.ref (a + 39), .ref (a + po)] S (fun r S' => r = none ∧ (∃ U', VX S' U' ∧ U' (po + 3) = -(y1 + A.1 * x1 * z1 + A.2.2.1 * (z1 * z1) * z1) ∧ ∀ j : Nat, ((j < 40 ∨ 58 < j) ∧ j ≠ po + 3) → j ≠ 5 → U' j = U j) ∧ S'.f = S.f) :=
  z_met (by decide) (Nat.le_of_ble_eq_true rfl) fun p e s m below meth c K hr hlk hnm => by
  have hN_po := (isP_lt hp).2.2.2
  have hR_po := nR_P hp
  have po75 := isP_75 hp
  have bq := hA.bq
  refine z_aload_n K d_C_turnOver_0 rfl ?_
  refine zx_gP (v := .int (jI 0)) K hp fd_C_59 (by rw [← hnn]; rfl) d_C_turnOver_1 ?_
  refine zi_if_eq (tgt := 8) K d_C_turnOver_4 (by decide) (by decide) (fun hc => ?_) (fun hc => absurd rfl hc)
  refine z_aload_n K d_C_turnOver_8 rfl ?_
  refine zx_gC K fd_C_51 rfl d_C_turnOver_9 ?_
  refine z_aload_n K d_C_turnOver_12 rfl ?_
  refine zx_gP K (by first | assumption | rfl) fd_C_65 rfl d_C_turnOver_13 ?_
  refine z_aload_n K d_C_turnOver_16 rfl ?_
  refine zx_gP K (by first | assumption | rfl) fd_C_68 rfl d_C_turnOver_17 ?_
  refine z_aload_n K d_C_turnOver_20 rfl ?_
  refine zx_gC K fd_C_35 rfl d_C_turnOver_21 ?_
  obtain ⟨w1, ex1⟩ : ∃ z : Int, z = x1 * z1 := ⟨_, rfl⟩
  have b1 : lt9 w1 27 := by rw [ex1]; have z := lt9_mul pb.1 pb.2.2.1; exact z
  refine z_callV (ci := 4) (As := [.ref (a + (po + 1)), .ref (a + (po + 5)), .ref (a + 52)]) K (v_R_multiply l G b0 h a S hV hN_po.1 hN_po.2.2.1 (by rfl) (by rw [pv.1]; exact pb.1) (by rw [pv.2.2.1]; exact pb.2.2.1) (by decide) (by rw [pv.1, pv.2.2.1, ← ex1]; exact lt9_mono b1 (by decide))) ca_C_71 im_R_multiply se_R_multiply rfl (by decide) (hx_R) rfl rfl (by decide) (Nat.le_of_ble_eq_true rfl) d_C_turnOver_24 (fun r h1 hp => ?_)
  obtain ⟨S1, rfl, rfl, hV1, ef1⟩ := hp
  rw [pv.1, pv.2.2.1, ← ex1] at hV1
  obtain ⟨U1, w1hU⟩ : ∃ W : Nat → Int, W = nu U 52 w1 := ⟨_, rfl⟩
  rw [← w1hU] at hV1
  have f1_po_1 : U1 (po + 1) = x1 := (by rw [w1hU, nu_ne _ _ (by omega)] : U1 (po + 1) = U (po + 1)).trans pv.1
  have f1_po_3 : U1 (po + 3) = y1 := (by rw [w1hU, nu_ne _ _ (by omega)] : U1 (po + 3) = U (po + 3)).trans pv.2.1
  have f1_po_5 : U1 (po + 5) = z1 := (by rw [w1hU, nu_ne _ _ (by omega)] : U1 (po + 5) = U (po + 5)).trans pv.2.2.1
  have f1_po_9 : U1 (po + 9) = (z1 * z1 * z1) := (by rw [w1hU, nu_ne _ _ (by omega)] : U1 (po + 9) = U (po + 9)).trans pv.2.2.2.2
  have f1_19 : U1 19 = A.1 := (by rw [w1hU, nu_ne _ _ (by omega)] : U1 19 = U 19).trans eq.1
  have f1_23 : U1 23 = A.2.2.1 := (by rw [w1hU, nu_ne _ _ (by omega)] : U1 23 = U 23).trans eq.2.2.1
  have f1_52 : U1 52 = w1 := by rw [w1hU, nu_self]
  have g1 : ∀ j : Nat, ((j < 40 ∨ 58 < j) ∧ j ≠ po + 3) → j ≠ 5 → U1 j = U j := fun j j1 j2 => (by rw [w1hU, nu_ne _ _ (by omega)] : U1 j = U j).trans ((fun j _ _ => rfl) j j1 j2)
  refine z_aload_n K d_C_turnOver_27 rfl ?_
  refine zx_gC K fd_C_51 rfl d_C_turnOver_28 ?_
  refine z_aload_n K d_C_turnOver_31 rfl ?_
  refine zx_gC K fd_C_47 rfl d_C_turnOver_32 ?_
  refine zx_gQ K fd_C_77 rfl d_C_turnOver_35 ?_
  refine z_aload_n K d_C_turnOver_38 rfl ?_
  refine zx_gC K fd_C_35 rfl d_C_turnOver_39 ?_
  refine z_aload_n K d_C_turnOver_42 rfl ?_
  refine zx_gP K (by first | assumption | rfl) fd_C_82 rfl d_C_turnOver_43 ?_
  have b2p : lt9 (A.1 * w1) 28 := by have z := lt9_mul bq.1 b1; exact z
  obtain ⟨w2, ex2⟩ : ∃ z : Int, z = y1 + A.1 * w1 := ⟨_, rfl⟩
  have b2 : lt9 w2 29 := by rw [ex2]; have z := lt9_add pb.2.1 b2p; exact z
  refine z_callV (ci := 4) (As := [.ref (a + 19), .ref (a + 52), .ref (a + (po + 3))]) K (v_R_addProduct l G b0 h a S1 hV1 (by rfl) (by rfl) hN_po.2.1 (by omega) (by rw [f1_19]; exact bq.1) (by rw [f1_52]; exact b1) (by decide) (by rw [f1_po_3]; exact lt9_mono pb.2.1 (by rw [hR_po 3 (by decide)]; decide)) (by rw [f1_19, f1_52]; exact lt9_mono b2p (by rw [hR_po 3 (by decide)]; decide)) (by rw [f1_po_3, f1_19, f1_52, ← ex2]; exact lt9_mono b2 (by rw [hR_po 3 (by decide)]; decide))) ca_C_85 im_R_addProduct se_R_addProduct rfl (by decide) (hx_R) rfl rfl (by decide) (Nat.le_of_ble_eq_true rfl) d_C_turnOver_46 (fun r h1 hp => ?_)
  obtain ⟨S2, rfl, rfl, ⟨U2, hV2, w2u, w2w⟩, ef2⟩ := hp
  rw [f1_po_3, f1_19, f1_52, ← ex2] at w2u
  have f2_po_1 : U2 (po + 1) = x1 := (w2w _ (by omega) (by omega)).trans f1_po_1
  have f2_po_5 : U2 (po + 5) = z1 := (w2w _ (by omega) (by omega)).trans f1_po_5
  have f2_po_9 : U2 (po + 9) = (z1 * z1 * z1) := (w2w _ (by omega) (by omega)).trans f1_po_9
  have f2_19 : U2 19 = A.1 := (w2w _ (by omega) (by omega)).trans f1_19
  have f2_23 : U2 23 = A.2.2.1 := (w2w _ (by omega) (by omega)).trans f1_23
  have f2_52 : U2 52 = w1 := (w2w _ (by omega) (by omega)).trans f1_52
  have g2 : ∀ j : Nat, ((j < 40 ∨ 58 < j) ∧ j ≠ po + 3) → j ≠ 5 → U2 j = U j := fun j j1 j2 => (w2w j (by omega) j2).trans (g1 j j1 j2)
  refine z_aload_n K d_C_turnOver_49 rfl ?_
  refine zx_gC K fd_C_51 rfl d_C_turnOver_50 ?_
  refine z_aload_n K d_C_turnOver_53 rfl ?_
  refine zx_gC K fd_C_47 rfl d_C_turnOver_54 ?_
  refine zx_gQ K fd_C_88 rfl d_C_turnOver_57 ?_
  refine z_aload_n K d_C_turnOver_60 rfl ?_
  refine zx_gP K (by first | assumption | rfl) fd_C_91 rfl d_C_turnOver_61 ?_
  refine z_aload_n K d_C_turnOver_64 rfl ?_
  refine zx_gP K (by first | assumption | rfl) fd_C_82 rfl d_C_turnOver_65 ?_
  have b3p : lt9 (A.2.2.1 * (z1 * z1 * z1)) 28 := by have z := lt9_mul bq.2.2.1 pb.2.2.2.2; exact z
  obtain ⟨w3, ex3⟩ : ∃ z : Int, z = w2 + A.2.2.1 * (z1 * z1 * z1) := ⟨_, rfl⟩
  have b3 : lt9 w3 30 := by rw [ex3]; have z := lt9_add b2 b3p; exact z
  refine z_callV (ci := 4) (As := [.ref (a + 23), .ref (a + (po + 9)), .ref (a + (po + 3))]) K (v_R_addProduct l G b0 h a S2 hV2 (by rfl) hN_po.2.2.2.2 hN_po.2.1 (by omega) (by rw [f2_23]; exact bq.2.2.1) (by rw [f2_po_9]; exact pb.2.2.2.2) (by decide) (by rw [w2u]; exact lt9_mono b2 (by rw [hR_po 3 (by decide)]; decide)) (by rw [f2_23, f2_po_9]; exact lt9_mono b3p (by rw [hR_po 3 (by decide)]; decide)) (by rw [w2u, f2_23, f2_po_9, ← ex3]; exact lt9_mono b3 (by rw [hR_po 3 (by decide)]; decide))) ca_C_85 im_R_addProduct se_R_addProduct rfl (by decide) (hx_R) rfl rfl (by decide) (Nat.le_of_ble_eq_true rfl) d_C_turnOver_68 (fun r h1 hp => ?_)
  obtain ⟨S3, rfl, rfl, ⟨U3, hV3, w3u, w3w⟩, ef3⟩ := hp
  rw [w2u, f2_23, f2_po_9, ← ex3] at w3u
  have f3_po_1 : U3 (po + 1) = x1 := (w3w _ (by omega) (by omega)).trans f2_po_1
  have f3_po_5 : U3 (po + 5) = z1 := (w3w _ (by omega) (by omega)).trans f2_po_5
  have f3_po_9 : U3 (po + 9) = (z1 * z1 * z1) := (w3w _ (by omega) (by omega)).trans f2_po_9
  have f3_19 : U3 19 = A.1 := (w3w _ (by omega) (by omega)).trans f2_19
  have f3_23 : U3 23 = A.2.2.1 := (w3w _ (by omega) (by omega)).trans f2_23
  have f3_52 : U3 52 = w1 := (w3w _ (by omega) (by omega)).trans f2_52
  have g3 : ∀ j : Nat, ((j < 40 ∨ 58 < j) ∧ j ≠ po + 3) → j ≠ 5 → U3 j = U j := fun j j1 j2 => (w3w j (by omega) j2).trans (g2 j j1 j2)
  obtain ⟨nb, vb⟩ := hV3 (po + 3) hN_po.2.1
  rw [w3u] at vb
  refine z_aload_n K d_C_turnOver_71 rfl ?_
  refine zx_gP K (by first | assumption | rfl) fd_C_82 rfl d_C_turnOver_72 ?_
  refine z_callV (ci := 1) (As := []) K (c_N_changeSign l G b0 h a S3 (k := po + 3) hN_po.2.1 vb) ca_C_94 im_N_changeSign se_N_changeSign rfl (by decide) (hx_N hN_po.2.1) rfl rfl (by decide) (Nat.le_of_ble_eq_true rfl) d_C_turnOver_75 (fun r h1 hp => ?_)
  obtain ⟨S9, rfl, rfl, k1, k2, k3⟩ := hp
  refine z_vret K hr hlk d_C_turnOver_78 ⟨_, rfl, rfl, ⟨_, hV3.up k1 k3, ?_, fun j j1 j2 => ?_⟩, k1.2.trans (ef3.trans (ef2.trans ef1))⟩
  · rw [nu_self]; subst ex3 ex2 ex1; grind
  · rw [nu_ne _ _ (by omega)]; exact g3 j j1 j2
set_option maxHeartbeats 4000000 in
set_option maxRecDepth 100000 in
theorem v_C_placeY (l : Launch) (G : zG) (b0 : Nat) (h : zH) (a : Nat) (S : xS) {U : Nat → Int} (hV : VX S U) {x1 y1 z1 : Int} {po : Nat} (hp : isP po = true) (pv : PV U po x1 y1 z1) (pb : PB x1 y1 z1) {x2 y2 z2 : Int} {qo : Nat} (hq : isP qo = true) (qv : PV U qo x2 y2 z2) (qb : PB x2 y2 z2) {x3 z3 sl s0 y0 : Int} {oo : Nat} (ho : isP oo = true) (hpo : po ≠ oo) (hqo : qo ≠ oo) (o1 : U (oo + 1) = x3) (o7 : U (oo + 7) = z3 * z3) (o9 : U (oo + 9) = z3 * z3 * z3) (bo1 : lt9 x3 18) (bo7 : lt9 (z3 * z3) 18) (bo9 : lt9 (z3 * z3 * z3) 27) (hsl : U 44 = sl) (hs0 : U 46 = s0) (bsl : lt9 sl 59) (bs0 : lt9 s0 40) (n1 : z1 ≠ 0) (n2 : z2 ≠ 0) (ns : s0 ≠ 0) (by0 : lt9 y0 28) (hy : sl * (x3 * (z1 * z1) - x1 * (z3 * z3)) + y1 * (z3 * z3 * z3) * (z2 * s0) = y0 * (z2 * s0 * (z1 * z1 * z1))) : xMet l G b0 y_C_placeY b_C_placeY 4 none 4 122 h a [.ref (a + 39), .ref (a + po), .ref (a + qo), .ref (a + oo)] S (fun r S' => r = none ∧ (∃ U', VX S' U' ∧ U' (oo + 3) = y0 ∧ ∀ j : Nat, ((j < 40 ∨ 58 < j) ∧ j ≠ oo + 3) → j ≠ 5 → U' j = U j) ∧ S'.f = S.f) :=
  z_met (by decide) (Nat.le_of_ble_eq_true rfl) fun p e s m below meth c K hr hlk hnm => by
  have hN_po := (isP_lt hp).2.2.2
  have hR_po := nR_P hp
  have po75 := isP_75 hp
  have hN_qo := (isP_lt hq).2.2.2
  have hR_qo := nR_P hq
  have qo75 := isP_75 hq
  have hN_oo := (isP_lt ho).2.2.2
  have hR_oo := nR_P ho
  have oo75 := isP_75 ho
  have far1 := isP_far hp ho hpo
  have far2 := isP_far hq ho hqo
  refine z_aload_n K d_C_placeY_0 rfl ?_
  refine zx_gC K fd_C_51 rfl d_C_placeY_1 ?_
  refine z_aload_n K d_C_placeY_4 rfl ?_
  refine zx_gP K (by first | assumption | rfl) fd_C_65 rfl d_C_placeY_5 ?_
  refine z_aload_n K d_C_placeY_8 rfl ?_
  refine zx_gP K (by first | assumption | rfl) fd_C_141 rfl d_C_placeY_9 ?_
  refine z_aload_n K d_C_placeY_12 rfl ?_
  refine zx_gC K fd_C_29 rfl d_C_placeY_13 ?_
  obtain ⟨w1, ex1⟩ : ∃ z : Int, z = x3 * (z1 * z1) := ⟨_, rfl⟩
  have b1 : lt9 w1 36 := by rw [ex1]; have z := lt9_mul bo1 pb.2.2.2.1; exact z
  refine z_callV (ci := 4) (As := [.ref (a + (oo + 1)), .ref (a + (po + 7)), .ref (a + 48)]) K (v_R_multiply l G b0 h a S hV hN_oo.1 hN_po.2.2.2.1 (by rfl) (by rw [o1]; exact bo1) (by rw [pv.2.2.2.1]; exact pb.2.2.2.1) (by decide) (by rw [o1, pv.2.2.2.1, ← ex1]; exact lt9_mono b1 (by decide))) ca_C_71 im_R_multiply se_R_multiply rfl (by decide) (hx_R) rfl rfl (by decide) (Nat.le_of_ble_eq_true rfl) d_C_placeY_16 (fun r h1 hp => ?_)
  obtain ⟨S1, rfl, rfl, hV1, ef1⟩ := hp
  rw [o1, pv.2.2.2.1, ← ex1] at hV1
  obtain ⟨U1, w1hU⟩ : ∃ W : Nat → Int, W = nu U 48 w1 := ⟨_, rfl⟩
  rw [← w1hU] at hV1
  have f1_po_1 : U1 (po + 1) = x1 := (by rw [w1hU, nu_ne _ _ (by omega)] : U1 (po + 1) = U (po + 1)).trans pv.1
  have f1_po_3 : U1 (po + 3) = y1 := (by rw [w1hU, nu_ne _ _ (by omega)] : U1 (po + 3) = U (po + 3)).trans pv.2.1
  have f1_po_7 : U1 (po + 7) = (z1 * z1) := (by rw [w1hU, nu_ne _ _ (by omega)] : U1 (po + 7) = U (po + 7)).trans pv.2.2.2.1
  have f1_po_9 : U1 (po + 9) = (z1 * z1 * z1) := (by rw [w1hU, nu_ne _ _ (by omega)] : U1 (po + 9) = U (po + 9)).trans pv.2.2.2.2
  have f1_qo_5 : U1 (qo + 5) = z2 := (by rw [w1hU, nu_ne _ _ (by omega)] : U1 (qo + 5) = U (qo + 5)).trans qv.2.2.1
  have f1_oo_1 : U1 (oo + 1) = x3 := (by rw [w1hU, nu_ne _ _ (by omega)] : U1 (oo + 1) = U (oo + 1)).trans o1
  have f1_oo_7 : U1 (oo + 7) = (z3 * z3) := (by rw [w1hU, nu_ne _ _ (by omega)] : U1 (oo + 7) = U (oo + 7)).trans o7
  have f1_oo_9 : U1 (oo + 9) = (z3 * z3 * z3) := (by rw [w1hU, nu_ne _ _ (by omega)] : U1 (oo + 9) = U (oo + 9)).trans o9
  have f1_44 : U1 44 = sl := (by rw [w1hU, nu_ne _ _ (by omega)] : U1 44 = U 44).trans hsl
  have f1_46 : U1 46 = s0 := (by rw [w1hU, nu_ne _ _ (by omega)] : U1 46 = U 46).trans hs0
  have f1_48 : U1 48 = w1 := by rw [w1hU, nu_self]
  have g1 : ∀ j : Nat, (j < 40 ∨ 58 < j) → j ≠ 5 → U1 j = U j := fun j j1 j2 => (by rw [w1hU, nu_ne _ _ (by omega)] : U1 j = U j).trans ((fun j _ _ => rfl) j j1 j2)
  refine z_aload_n K d_C_placeY_19 rfl ?_
  refine zx_gC K fd_C_51 rfl d_C_placeY_20 ?_
  refine z_aload_n K d_C_placeY_23 rfl ?_
  refine zx_gP K (by first | assumption | rfl) fd_C_65 rfl d_C_placeY_24 ?_
  refine z_aload_n K d_C_placeY_27 rfl ?_
  refine zx_gP K (by first | assumption | rfl) fd_C_141 rfl d_C_placeY_28 ?_
  refine z_aload_n K d_C_placeY_31 rfl ?_
  refine zx_gC K fd_C_29 rfl d_C_placeY_32 ?_
  have b2p : lt9 (x1 * (z3 * z3)) 36 := by have z := lt9_mul pb.1 bo7; exact z
  obtain ⟨w2, ex2⟩ : ∃ z : Int, z = w1 - x1 * (z3 * z3) := ⟨_, rfl⟩
  have b2 : lt9 w2 37 := by rw [ex2]; have z := lt9_sub b1 b2p; exact z
  refine z_callV (ci := 4) (As := [.ref (a + (po + 1)), .ref (a + (oo + 7)), .ref (a + 48)]) K (v_R_subtractProduct l G b0 h a S1 hV1 hN_po.1 hN_oo.2.2.2.1 (by rfl) (by omega) (by rw [f1_po_1]; exact pb.1) (by rw [f1_oo_7]; exact bo7) (by decide) (by rw [f1_48]; exact lt9_mono b1 (by decide)) (by rw [f1_po_1, f1_oo_7]; exact lt9_mono b2p (by decide)) (by rw [f1_48, f1_po_1, f1_oo_7, ← ex2]; exact lt9_mono b2 (by decide))) ca_C_168 im_R_subtractProduct se_R_subtractProduct rfl (by decide) (hx_R) rfl rfl (by decide) (Nat.le_of_ble_eq_true rfl) d_C_placeY_35 (fun r h1 hp => ?_)
  obtain ⟨S2, rfl, rfl, ⟨U2, hV2, w2u, w2w⟩, ef2⟩ := hp
  rw [f1_48, f1_po_1, f1_oo_7, ← ex2] at w2u
  have f2_po_1 : U2 (po + 1) = x1 := (w2w _ (by omega) (by omega)).trans f1_po_1
  have f2_po_3 : U2 (po + 3) = y1 := (w2w _ (by omega) (by omega)).trans f1_po_3
  have f2_po_7 : U2 (po + 7) = (z1 * z1) := (w2w _ (by omega) (by omega)).trans f1_po_7
  have f2_po_9 : U2 (po + 9) = (z1 * z1 * z1) := (w2w _ (by omega) (by omega)).trans f1_po_9
  have f2_qo_5 : U2 (qo + 5) = z2 := (w2w _ (by omega) (by omega)).trans f1_qo_5
  have f2_oo_1 : U2 (oo + 1) = x3 := (w2w _ (by omega) (by omega)).trans f1_oo_1
  have f2_oo_7 : U2 (oo + 7) = (z3 * z3) := (w2w _ (by omega) (by omega)).trans f1_oo_7
  have f2_oo_9 : U2 (oo + 9) = (z3 * z3 * z3) := (w2w _ (by omega) (by omega)).trans f1_oo_9
  have f2_44 : U2 44 = sl := (w2w _ (by omega) (by omega)).trans f1_44
  have f2_46 : U2 46 = s0 := (w2w _ (by omega) (by omega)).trans f1_46
  have g2 : ∀ j : Nat, (j < 40 ∨ 58 < j) → j ≠ 5 → U2 j = U j := fun j j1 j2 => (w2w j (by omega) j2).trans (g1 j j1 j2)
  refine z_aload_n K d_C_placeY_38 rfl ?_
  refine zx_gC K fd_C_51 rfl d_C_placeY_39 ?_
  refine z_aload_n K d_C_placeY_42 rfl ?_
  refine zx_gC K fd_C_23 rfl d_C_placeY_43 ?_
  refine z_aload_n K d_C_placeY_46 rfl ?_
  refine zx_gC K fd_C_29 rfl d_C_placeY_47 ?_
  refine z_aload_n K d_C_placeY_50 rfl ?_
  refine zx_gC K fd_C_29 rfl d_C_placeY_51 ?_
  obtain ⟨w3, ex3⟩ : ∃ z : Int, z = sl * w2 := ⟨_, rfl⟩
  have b3 : lt9 w3 96 := by rw [ex3]; have z := lt9_mul bsl b2; exact z
  refine z_callV (ci := 4) (As := [.ref (a + 44), .ref (a + 48), .ref (a + 48)]) K (v_R_multiply l G b0 h a S2 hV2 (by rfl) (by rfl) (by rfl) (by rw [f2_44]; exact bsl) (by rw [w2u]; exact b2) (by decide) (by rw [f2_44, w2u, ← ex3]; exact lt9_mono b3 (by decide))) ca_C_71 im_R_multiply se_R_multiply rfl (by decide) (hx_R) rfl rfl (by decide) (Nat.le_of_ble_eq_true rfl) d_C_placeY_54 (fun r h1 hp => ?_)
  obtain ⟨S3, rfl, rfl, hV3, ef3⟩ := hp
  rw [f2_44, w2u, ← ex3] at hV3
  obtain ⟨U3, w3hU⟩ : ∃ W : Nat → Int, W = nu U2 48 w3 := ⟨_, rfl⟩
  rw [← w3hU] at hV3
  have f3_po_1 : U3 (po + 1) = x1 := (by rw [w3hU, nu_ne _ _ (by omega)] : U3 (po + 1) = U2 (po + 1)).trans f2_po_1
  have f3_po_3 : U3 (po + 3) = y1 := (by rw [w3hU, nu_ne _ _ (by omega)] : U3 (po + 3) = U2 (po + 3)).trans f2_po_3
  have f3_po_7 : U3 (po + 7) = (z1 * z1) := (by rw [w3hU, nu_ne _ _ (by omega)] : U3 (po + 7) = U2 (po + 7)).trans f2_po_7
  have f3_po_9 : U3 (po + 9) = (z1 * z1 * z1) := (by rw [w3hU, nu_ne _ _ (by omega)] : U3 (po + 9) = U2 (po + 9)).trans f2_po_9
  have f3_qo_5 : U3 (qo + 5) = z2 := (by rw [w3hU, nu_ne _ _ (by omega)] : U3 (qo + 5) = U2 (qo + 5)).trans f2_qo_5
  have f3_oo_1 : U3 (oo + 1) = x3 := (by rw [w3hU, nu_ne _ _ (by omega)] : U3 (oo + 1) = U2 (oo + 1)).trans f2_oo_1
  have f3_oo_7 : U3 (oo + 7) = (z3 * z3) := (by rw [w3hU, nu_ne _ _ (by omega)] : U3 (oo + 7) = U2 (oo + 7)).trans f2_oo_7
  have f3_oo_9 : U3 (oo + 9) = (z3 * z3 * z3) := (by rw [w3hU, nu_ne _ _ (by omega)] : U3 (oo + 9) = U2 (oo + 9)).trans f2_oo_9
  have f3_44 : U3 44 = sl := (by rw [w3hU, nu_ne _ _ (by omega)] : U3 44 = U2 44).trans f2_44
  have f3_46 : U3 46 = s0 := (by rw [w3hU, nu_ne _ _ (by omega)] : U3 46 = U2 46).trans f2_46
  have f3_48 : U3 48 = w3 := by rw [w3hU, nu_self]
  have g3 : ∀ j : Nat, (j < 40 ∨ 58 < j) → j ≠ 5 → U3 j = U j := fun j j1 j2 => (by rw [w3hU, nu_ne _ _ (by omega)] : U3 j = U2 j).trans (g2 j j1 j2)
  refine z_aload_n K d_C_placeY_57 rfl ?_
  refine zx_gC K fd_C_51 rfl d_C_placeY_58 ?_
  refine z_aload_n K d_C_placeY_61 rfl ?_
  refine zx_gP K (by first | assumption | rfl) fd_C_68 rfl d_C_placeY_62 ?_
  refine z_aload_n K d_C_placeY_65 rfl ?_
  refine zx_gC K fd_C_26 rfl d_C_placeY_66 ?_
  refine z_aload_n K d_C_placeY_69 rfl ?_
  refine zx_gC K fd_C_32 rfl d_C_placeY_70 ?_
  obtain ⟨w4, ex4⟩ : ∃ z : Int, z = z2 * s0 := ⟨_, rfl⟩
  have b4 : lt9 w4 49 := by rw [ex4]; have z := lt9_mul qb.2.2.1 bs0; exact z
  refine z_callV (ci := 4) (As := [.ref (a + (qo + 5)), .ref (a + 46), .ref (a + 50)]) K (v_R_multiply l G b0 h a S3 hV3 hN_qo.2.2.1 (by rfl) (by rfl) (by rw [f3_qo_5]; exact qb.2.2.1) (by rw [f3_46]; exact bs0) (by decide) (by rw [f3_qo_5, f3_46, ← ex4]; exact lt9_mono b4 (by decide))) ca_C_71 im_R_multiply se_R_multiply rfl (by decide) (hx_R) rfl rfl (by decide) (Nat.le_of_ble_eq_true rfl) d_C_placeY_73 (fun r h1 hp => ?_)
  obtain ⟨S4, rfl, rfl, hV4, ef4⟩ := hp
  rw [f3_qo_5, f3_46, ← ex4] at hV4
  obtain ⟨U4, w4hU⟩ : ∃ W : Nat → Int, W = nu U3 50 w4 := ⟨_, rfl⟩
  rw [← w4hU] at hV4
  have f4_po_1 : U4 (po + 1) = x1 := (by rw [w4hU, nu_ne _ _ (by omega)] : U4 (po + 1) = U3 (po + 1)).trans f3_po_1
  have f4_po_3 : U4 (po + 3) = y1 := (by rw [w4hU, nu_ne _ _ (by omega)] : U4 (po + 3) = U3 (po + 3)).trans f3_po_3
  have f4_po_7 : U4 (po + 7) = (z1 * z1) := (by rw [w4hU, nu_ne _ _ (by omega)] : U4 (po + 7) = U3 (po + 7)).trans f3_po_7
  have f4_po_9 : U4 (po + 9) = (z1 * z1 * z1) := (by rw [w4hU, nu_ne _ _ (by omega)] : U4 (po + 9) = U3 (po + 9)).trans f3_po_9
  have f4_qo_5 : U4 (qo + 5) = z2 := (by rw [w4hU, nu_ne _ _ (by omega)] : U4 (qo + 5) = U3 (qo + 5)).trans f3_qo_5
  have f4_oo_1 : U4 (oo + 1) = x3 := (by rw [w4hU, nu_ne _ _ (by omega)] : U4 (oo + 1) = U3 (oo + 1)).trans f3_oo_1
  have f4_oo_7 : U4 (oo + 7) = (z3 * z3) := (by rw [w4hU, nu_ne _ _ (by omega)] : U4 (oo + 7) = U3 (oo + 7)).trans f3_oo_7
  have f4_oo_9 : U4 (oo + 9) = (z3 * z3 * z3) := (by rw [w4hU, nu_ne _ _ (by omega)] : U4 (oo + 9) = U3 (oo + 9)).trans f3_oo_9
  have f4_44 : U4 44 = sl := (by rw [w4hU, nu_ne _ _ (by omega)] : U4 44 = U3 44).trans f3_44
  have f4_46 : U4 46 = s0 := (by rw [w4hU, nu_ne _ _ (by omega)] : U4 46 = U3 46).trans f3_46
  have f4_48 : U4 48 = w3 := (by rw [w4hU, nu_ne _ _ (by omega)] : U4 48 = U3 48).trans f3_48
  have f4_50 : U4 50 = w4 := by rw [w4hU, nu_self]
  have g4 : ∀ j : Nat, (j < 40 ∨ 58 < j) → j ≠ 5 → U4 j = U j := fun j j1 j2 => (by rw [w4hU, nu_ne _ _ (by omega)] : U4 j = U3 j).trans (g3 j j1 j2)
  refine z_aload_n K d_C_placeY_76 rfl ?_
  refine zx_gC K fd_C_51 rfl d_C_placeY_77 ?_
  refine z_aload_n K d_C_placeY_80 rfl ?_
  refine zx_gP K (by first | assumption | rfl) fd_C_82 rfl d_C_placeY_81 ?_
  refine z_aload_n K d_C_placeY_84 rfl ?_
  refine zx_gP K (by first | assumption | rfl) fd_C_91 rfl d_C_placeY_85 ?_
  refine z_aload_n K d_C_placeY_88 rfl ?_
  refine zx_gC K fd_C_35 rfl d_C_placeY_89 ?_
  obtain ⟨w5, ex5⟩ : ∃ z : Int, z = y1 * (z3 * z3 * z3) := ⟨_, rfl⟩
  have b5 : lt9 w5 55 := by rw [ex5]; have z := lt9_mul pb.2.1 bo9; exact z
  refine z_callV (ci := 4) (As := [.ref (a + (po + 3)), .ref (a + (oo + 9)), .ref (a + 52)]) K (v_R_multiply l G b0 h a S4 hV4 hN_po.2.1 hN_oo.2.2.2.2 (by rfl) (by rw [f4_po_3]; exact pb.2.1) (by rw [f4_oo_9]; exact bo9) (by decide) (by rw [f4_po_3, f4_oo_9, ← ex5]; exact lt9_mono b5 (by decide))) ca_C_71 im_R_multiply se_R_multiply rfl (by decide) (hx_R) rfl rfl (by decide) (Nat.le_of_ble_eq_true rfl) d_C_placeY_92 (fun r h1 hp => ?_)
  obtain ⟨S5, rfl, rfl, hV5, ef5⟩ := hp
  rw [f4_po_3, f4_oo_9, ← ex5] at hV5
  obtain ⟨U5, w5hU⟩ : ∃ W : Nat → Int, W = nu U4 52 w5 := ⟨_, rfl⟩
  rw [← w5hU] at hV5
  have f5_po_1 : U5 (po + 1) = x1 := (by rw [w5hU, nu_ne _ _ (by omega)] : U5 (po + 1) = U4 (po + 1)).trans f4_po_1
  have f5_po_3 : U5 (po + 3) = y1 := (by rw [w5hU, nu_ne _ _ (by omega)] : U5 (po + 3) = U4 (po + 3)).trans f4_po_3
  have f5_po_7 : U5 (po + 7) = (z1 * z1) := (by rw [w5hU, nu_ne _ _ (by omega)] : U5 (po + 7) = U4 (po + 7)).trans f4_po_7
  have f5_po_9 : U5 (po + 9) = (z1 * z1 * z1) := (by rw [w5hU, nu_ne _ _ (by omega)] : U5 (po + 9) = U4 (po + 9)).trans f4_po_9
  have f5_qo_5 : U5 (qo + 5) = z2 := (by rw [w5hU, nu_ne _ _ (by omega)] : U5 (qo + 5) = U4 (qo + 5)).trans f4_qo_5
  have f5_oo_1 : U5 (oo + 1) = x3 := (by rw [w5hU, nu_ne _ _ (by omega)] : U5 (oo + 1) = U4 (oo + 1)).trans f4_oo_1
  have f5_oo_7 : U5 (oo + 7) = (z3 * z3) := (by rw [w5hU, nu_ne _ _ (by omega)] : U5 (oo + 7) = U4 (oo + 7)).trans f4_oo_7
  have f5_oo_9 : U5 (oo + 9) = (z3 * z3 * z3) := (by rw [w5hU, nu_ne _ _ (by omega)] : U5 (oo + 9) = U4 (oo + 9)).trans f4_oo_9
  have f5_44 : U5 44 = sl := (by rw [w5hU, nu_ne _ _ (by omega)] : U5 44 = U4 44).trans f4_44
  have f5_46 : U5 46 = s0 := (by rw [w5hU, nu_ne _ _ (by omega)] : U5 46 = U4 46).trans f4_46
  have f5_48 : U5 48 = w3 := (by rw [w5hU, nu_ne _ _ (by omega)] : U5 48 = U4 48).trans f4_48
  have f5_50 : U5 50 = w4 := (by rw [w5hU, nu_ne _ _ (by omega)] : U5 50 = U4 50).trans f4_50
  have f5_52 : U5 52 = w5 := by rw [w5hU, nu_self]
  have g5 : ∀ j : Nat, (j < 40 ∨ 58 < j) → j ≠ 5 → U5 j = U j := fun j j1 j2 => (by rw [w5hU, nu_ne _ _ (by omega)] : U5 j = U4 j).trans (g4 j j1 j2)
  refine z_aload_n K d_C_placeY_95 rfl ?_
  refine zx_gC K fd_C_51 rfl d_C_placeY_96 ?_
  refine z_aload_n K d_C_placeY_99 rfl ?_
  refine zx_gC K fd_C_35 rfl d_C_placeY_100 ?_
  refine z_aload_n K d_C_placeY_103 rfl ?_
  refine zx_gC K fd_C_32 rfl d_C_placeY_104 ?_
  refine z_aload_n K d_C_placeY_107 rfl ?_
  refine zx_gC K fd_C_29 rfl d_C_placeY_108 ?_
  have b6p : lt9 (w5 * w4) 104 := by have z := lt9_mul b5 b4; exact z
  obtain ⟨w6, ex6⟩ : ∃ z : Int, z = w3 + w5 * w4 := ⟨_, rfl⟩
  have b6 : lt9 w6 105 := by rw [ex6]; have z := lt9_add b3 b6p; exact z
  refine z_callV (ci := 4) (As := [.ref (a + 52), .ref (a + 50), .ref (a + 48)]) K (v_R_addProduct l G b0 h a S5 hV5 (by rfl) (by rfl) (by rfl) (by omega) (by rw [f5_52]; exact b5) (by rw [f5_50]; exact b4) (by decide) (by rw [f5_48]; exact lt9_mono b3 (by decide)) (by rw [f5_52, f5_50]; exact lt9_mono b6p (by decide)) (by rw [f5_48, f5_52, f5_50, ← ex6]; exact lt9_mono b6 (by decide))) ca_C_85 im_R_addProduct se_R_addProduct rfl (by decide) (hx_R) rfl rfl (by decide) (Nat.le_of_ble_eq_true rfl) d_C_placeY_111 (fun r h1 hp => ?_)
  obtain ⟨S6, rfl, rfl, ⟨U6, hV6, w6u, w6w⟩, ef6⟩ := hp
  rw [f5_48, f5_52, f5_50, ← ex6] at w6u
  have f6_po_1 : U6 (po + 1) = x1 := (w6w _ (by omega) (by omega)).trans f5_po_1
  have f6_po_3 : U6 (po + 3) = y1 := (w6w _ (by omega) (by omega)).trans f5_po_3
  have f6_po_7 : U6 (po + 7) = (z1 * z1) := (w6w _ (by omega) (by omega)).trans f5_po_7
  have f6_po_9 : U6 (po + 9) = (z1 * z1 * z1) := (w6w _ (by omega) (by omega)).trans f5_po_9
  have f6_qo_5 : U6 (qo + 5) = z2 := (w6w _ (by omega) (by omega)).trans f5_qo_5
  have f6_oo_1 : U6 (oo + 1) = x3 := (w6w _ (by omega) (by omega)).trans f5_oo_1
  have f6_oo_7 : U6 (oo + 7) = (z3 * z3) := (w6w _ (by omega) (by omega)).trans f5_oo_7
  have f6_oo_9 : U6 (oo + 9) = (z3 * z3 * z3) := (w6w _ (by omega) (by omega)).trans f5_oo_9
  have f6_44 : U6 44 = sl := (w6w _ (by omega) (by omega)).trans f5_44
  have f6_46 : U6 46 = s0 := (w6w _ (by omega) (by omega)).trans f5_46
  have f6_50 : U6 50 = w4 := (w6w _ (by omega) (by omega)).trans f5_50
  have f6_52 : U6 52 = w5 := (w6w _ (by omega) (by omega)).trans f5_52
  have g6 : ∀ j : Nat, (j < 40 ∨ 58 < j) → j ≠ 5 → U6 j = U j := fun j j1 j2 => (w6w j (by omega) j2).trans (g5 j j1 j2)
  refine z_aload_n K d_C_placeY_114 rfl ?_
  refine zx_gC K fd_C_51 rfl d_C_placeY_115 ?_
  refine z_aload_n K d_C_placeY_118 rfl ?_
  refine zx_gC K fd_C_32 rfl d_C_placeY_119 ?_
  refine z_aload_n K d_C_placeY_122 rfl ?_
  refine zx_gP K (by first | assumption | rfl) fd_C_91 rfl d_C_placeY_123 ?_
  refine z_aload_n K d_C_placeY_126 rfl ?_
  refine zx_gC K fd_C_32 rfl d_C_placeY_127 ?_
  obtain ⟨w7, ex7⟩ : ∃ z : Int, z = w4 * (z1 * z1 * z1) := ⟨_, rfl⟩
  have b7 : lt9 w7 76 := by rw [ex7]; have z := lt9_mul b4 pb.2.2.2.2; exact z
  refine z_callV (ci := 4) (As := [.ref (a + 50), .ref (a + (po + 9)), .ref (a + 50)]) K (v_R_multiply l G b0 h a S6 hV6 (by rfl) hN_po.2.2.2.2 (by rfl) (by rw [f6_50]; exact b4) (by rw [f6_po_9]; exact pb.2.2.2.2) (by decide) (by rw [f6_50, f6_po_9, ← ex7]; exact lt9_mono b7 (by decide))) ca_C_71 im_R_multiply se_R_multiply rfl (by decide) (hx_R) rfl rfl (by decide) (Nat.le_of_ble_eq_true rfl) d_C_placeY_130 (fun r h1 hp => ?_)
  obtain ⟨S7, rfl, rfl, hV7, ef7⟩ := hp
  rw [f6_50, f6_po_9, ← ex7] at hV7
  obtain ⟨U7, w7hU⟩ : ∃ W : Nat → Int, W = nu U6 50 w7 := ⟨_, rfl⟩
  rw [← w7hU] at hV7
  have f7_po_1 : U7 (po + 1) = x1 := (by rw [w7hU, nu_ne _ _ (by omega)] : U7 (po + 1) = U6 (po + 1)).trans f6_po_1
  have f7_po_3 : U7 (po + 3) = y1 := (by rw [w7hU, nu_ne _ _ (by omega)] : U7 (po + 3) = U6 (po + 3)).trans f6_po_3
  have f7_po_7 : U7 (po + 7) = (z1 * z1) := (by rw [w7hU, nu_ne _ _ (by omega)] : U7 (po + 7) = U6 (po + 7)).trans f6_po_7
  have f7_po_9 : U7 (po + 9) = (z1 * z1 * z1) := (by rw [w7hU, nu_ne _ _ (by omega)] : U7 (po + 9) = U6 (po + 9)).trans f6_po_9
  have f7_qo_5 : U7 (qo + 5) = z2 := (by rw [w7hU, nu_ne _ _ (by omega)] : U7 (qo + 5) = U6 (qo + 5)).trans f6_qo_5
  have f7_oo_1 : U7 (oo + 1) = x3 := (by rw [w7hU, nu_ne _ _ (by omega)] : U7 (oo + 1) = U6 (oo + 1)).trans f6_oo_1
  have f7_oo_7 : U7 (oo + 7) = (z3 * z3) := (by rw [w7hU, nu_ne _ _ (by omega)] : U7 (oo + 7) = U6 (oo + 7)).trans f6_oo_7
  have f7_oo_9 : U7 (oo + 9) = (z3 * z3 * z3) := (by rw [w7hU, nu_ne _ _ (by omega)] : U7 (oo + 9) = U6 (oo + 9)).trans f6_oo_9
  have f7_44 : U7 44 = sl := (by rw [w7hU, nu_ne _ _ (by omega)] : U7 44 = U6 44).trans f6_44
  have f7_46 : U7 46 = s0 := (by rw [w7hU, nu_ne _ _ (by omega)] : U7 46 = U6 46).trans f6_46
  have f7_52 : U7 52 = w5 := (by rw [w7hU, nu_ne _ _ (by omega)] : U7 52 = U6 52).trans f6_52
  have f7_48 : U7 48 = w6 := (by rw [w7hU, nu_ne _ _ (by omega)] : U7 48 = U6 48).trans w6u
  have f7_50 : U7 50 = w7 := by rw [w7hU, nu_self]
  have g7 : ∀ j : Nat, (j < 40 ∨ 58 < j) → j ≠ 5 → U7 j = U j := fun j j1 j2 => (by rw [w7hU, nu_ne _ _ (by omega)] : U7 j = U6 j).trans (g6 j j1 j2)
  have e1 : w6 = y0 * w7 := by
    rw [show y0 * w7 = y0 * (z2 * s0 * (z1 * z1 * z1)) by subst ex7 ex6 ex5 ex4 ex3 ex2 ex1; grind, ← hy]
    subst ex7 ex6 ex5 ex4 ex3 ex2 ex1; grind
  have rn : w7 ≠ 0 := by
    rw [show w7 = z2 * s0 * (z1 * z1 * z1) by subst ex7 ex6 ex5 ex4 ex3 ex2 ex1; grind]
    exact Int.mul_ne_zero (Int.mul_ne_zero n2 ns) (Int.mul_ne_zero (Int.mul_ne_zero n1 n1) n1)
  have e2 : (w6).tdiv w7 = y0 := by rw [e1]; exact Int.mul_tdiv_cancel _ rn
  have e3 : (w6).tmod w7 = 0 := by rw [e1]; exact Int.mul_tmod_left ..
  refine z_aload_n K d_C_placeY_133 rfl ?_
  refine zx_gC K fd_C_51 rfl d_C_placeY_134 ?_
  refine z_aload_n K d_C_placeY_137 rfl ?_
  refine zx_gC K fd_C_29 rfl d_C_placeY_138 ?_
  refine z_aload_n K d_C_placeY_141 rfl ?_
  refine zx_gC K fd_C_32 rfl d_C_placeY_142 ?_
  refine z_aload_n K d_C_placeY_145 rfl ?_
  refine zx_gP K (by first | assumption | rfl) fd_C_82 rfl d_C_placeY_146 ?_
  refine z_aload_n K d_C_placeY_149 rfl ?_
  refine zx_gC K fd_C_44 rfl d_C_placeY_150 ?_
  refine z_callV (ci := 4) (As := [.ref (a + 48), .ref (a + 50), .ref (a + (oo + 3)), .ref (a + 58)]) K (v_R_divide l G b0 h a S7 hV7 (x := 48) (y := 50) (qq := oo + 3) (rr := 58) (by rfl) (by rfl) hN_oo.2.1 (by rfl) (by omega) (by rw [f7_50]; exact rn) (by rw [f7_48, f7_50, e2, hR_oo 3 (by decide)]; exact lt9_mono by0 (by decide)) (by rw [f7_48, f7_50, e3]; exact lt9_n (n := 0) (by decide) (by decide))) ca_C_176 im_R_divide se_R_divide rfl (by decide) (hx_R) rfl rfl (by decide) (Nat.le_of_ble_eq_true rfl) d_C_placeY_153 (fun r h1 hp => ?_)
  obtain ⟨S9, rfl, rfl, hV9, ef9⟩ := hp
  rw [f7_48, f7_50, e2, e3] at hV9
  refine z_vret K hr hlk d_C_placeY_156 ⟨_, rfl, rfl, ⟨_, hV9, ?_, fun j j1 j2 => ?_⟩, ef9.trans (ef7.trans (ef6.trans (ef5.trans (ef4.trans (ef3.trans (ef2.trans ef1))))))⟩
  · rw [nu_ne _ _ (by omega), nu_self]
  · rw [nu_ne _ _ (by omega), nu_ne _ _ (by omega)]; exact g7 j (by omega) j2
end C2
