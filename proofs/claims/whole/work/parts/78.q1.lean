section Q1
variable {p : Program} {l : Launch} {e : Env} {R : Room} {s : State} {m : MethodId} {args : Array Value} {below : List Frame} {meth : Method} {c : Code} {Q : State → Prop} {b0 kc ks : Nat} {G : zG} {h : zH} {a : Nat} {cd : Int}
set_option maxHeartbeats 4000000 in
set_option maxRecDepth 100000 in
theorem c_Q_b2 (l : Launch) (G : zG) (b0 : Nat) (h : zH) (a : Nat) (S : xS) {c1 c2 : Int} : xMet l G b0 y_Q_b2 b_Q_b2 4 (some .long) 0 0 h a [.long (kI c1), .long (kI c2)] S (fun r S' => S = S' ∧ r = some (.long (kI (c1 * c1 + 4 * c2)))) :=
  z_met (by decide) (Nat.le_of_ble_eq_true rfl) fun p e s m below meth c K hr hlk hnm => by
  refine z_lload_n K d_Q_b2_0 rfl ?_
  refine z_lload_n K d_Q_b2_1 rfl ?_
  refine zi_lmul K d_Q_b2_2 ?_
  refine z_ldc2 (v := kI 4) K d_Q_b2_3 kc_Q_63 ?_
  refine z_lload_n K d_Q_b2_6 rfl ?_
  refine zi_lmul K d_Q_b2_7 ?_
  refine zi_ladd K d_Q_b2_8 ?_
  exact z_lret K hr hlk d_Q_b2_9 ⟨_, rfl, rfl, rfl⟩
set_option maxHeartbeats 4000000 in
set_option maxRecDepth 100000 in
theorem c_Q_b4 (l : Launch) (G : zG) (b0 : Nat) (h : zH) (a : Nat) (S : xS) {c1 c3 c4 : Int} : xMet l G b0 y_Q_b4 b_Q_b4 6 (some .long) 0 0 h a [.long (kI c1), .long (kI c3), .long (kI c4)] S (fun r S' => S = S' ∧ r = some (.long (kI (c1 * c3 + 2 * c4)))) :=
  z_met (by decide) (Nat.le_of_ble_eq_true rfl) fun p e s m below meth c K hr hlk hnm => by
  refine z_lload_n K d_Q_b4_0 rfl ?_
  refine z_lload_n K d_Q_b4_1 rfl ?_
  refine zi_lmul K d_Q_b4_2 ?_
  refine z_ldc2 (v := kI 2) K d_Q_b4_3 kc_Q_51 ?_
  refine z_lload K d_Q_b4_6 rfl ?_
  refine zi_lmul K d_Q_b4_8 ?_
  refine zi_ladd K d_Q_b4_9 ?_
  exact z_lret K hr hlk d_Q_b4_10 ⟨_, rfl, rfl, rfl⟩
set_option maxHeartbeats 4000000 in
set_option maxRecDepth 100000 in
theorem c_Q_b6 (l : Launch) (G : zG) (b0 : Nat) (h : zH) (a : Nat) (S : xS) {c3 c6 : Int} : xMet l G b0 y_Q_b6 b_Q_b6 4 (some .long) 0 0 h a [.long (kI c3), .long (kI c6)] S (fun r S' => S = S' ∧ r = some (.long (kI (c3 * c3 + 4 * c6)))) :=
  z_met (by decide) (Nat.le_of_ble_eq_true rfl) fun p e s m below meth c K hr hlk hnm => by
  refine z_lload_n K d_Q_b6_0 rfl ?_
  refine z_lload_n K d_Q_b6_1 rfl ?_
  refine zi_lmul K d_Q_b6_2 ?_
  refine z_ldc2 (v := kI 4) K d_Q_b6_3 kc_Q_63 ?_
  refine z_lload_n K d_Q_b6_6 rfl ?_
  refine zi_lmul K d_Q_b6_7 ?_
  refine zi_ladd K d_Q_b6_8 ?_
  exact z_lret K hr hlk d_Q_b6_9 ⟨_, rfl, rfl, rfl⟩
set_option maxHeartbeats 4000000 in
set_option maxRecDepth 100000 in
theorem c_Q_b8 (l : Launch) (G : zG) (b0 : Nat) (h : zH) (a : Nat) (S : xS) {c1 c2 c3 c4 c6 : Int} : xMet l G b0 y_Q_b8 b_Q_b8 10 (some .long) 0 0 h a [.long (kI c1), .long (kI c2), .long (kI c3), .long (kI c4), .long (kI c6)] S (fun r S' => S = S' ∧ r = some (.long (kI (c1 * c1 * c6 - c1 * c3 * c4 + 4 * c2 * c6 + c2 * c3 * c3 - c4 * c4)))) :=
  z_met (by decide) (Nat.le_of_ble_eq_true rfl) fun p e s m below meth c K hr hlk hnm => by
  refine z_lload_n K d_Q_b8_0 rfl ?_
  refine z_lload_n K d_Q_b8_1 rfl ?_
  refine zi_lmul K d_Q_b8_2 ?_
  refine z_lload K d_Q_b8_3 rfl ?_
  refine zi_lmul K d_Q_b8_5 ?_
  refine z_lload_n K d_Q_b8_6 rfl ?_
  refine z_lload K d_Q_b8_7 rfl ?_
  refine zi_lmul K d_Q_b8_9 ?_
  refine z_lload K d_Q_b8_10 rfl ?_
  refine zi_lmul K d_Q_b8_12 ?_
  refine zi_lsub K d_Q_b8_13 ?_
  refine z_ldc2 (v := kI 4) K d_Q_b8_14 kc_Q_63 ?_
  refine z_lload_n K d_Q_b8_17 rfl ?_
  refine zi_lmul K d_Q_b8_18 ?_
  refine z_lload K d_Q_b8_19 rfl ?_
  refine zi_lmul K d_Q_b8_21 ?_
  refine zi_ladd K d_Q_b8_22 ?_
  refine z_lload_n K d_Q_b8_23 rfl ?_
  refine z_lload K d_Q_b8_24 rfl ?_
  refine zi_lmul K d_Q_b8_26 ?_
  refine z_lload K d_Q_b8_27 rfl ?_
  refine zi_lmul K d_Q_b8_29 ?_
  refine zi_ladd K d_Q_b8_30 ?_
  refine z_lload K d_Q_b8_31 rfl ?_
  refine z_lload K d_Q_b8_33 rfl ?_
  refine zi_lmul K d_Q_b8_35 ?_
  refine zi_lsub K d_Q_b8_36 ?_
  exact z_lret K hr hlk d_Q_b8_37 ⟨_, rfl, rfl, rfl⟩
set_option maxHeartbeats 4000000 in
set_option maxRecDepth 100000 in
theorem v_Q_become (l : Launch) (G : zG) (b0 : Nat) (h : zH) (a : Nat) (S : xS) {U : Nat → Int} {A : ecE} (hV : VX S U) (l1 : A.1.natAbs ≤ 99999) (l2 : A.2.1.natAbs ≤ 99999) (l3 : A.2.2.1.natAbs ≤ 99999) (l4 : A.2.2.2.1.natAbs ≤ 99999) (l6 : A.2.2.2.2.natAbs ≤ 99999) : xMet l G b0 y_Q_become b_Q_become 11 none 1 29 h a [.ref (a + 18), .long (kI A.1), .long (kI A.2.1), .long (kI A.2.2.1), .long (kI A.2.2.2.1), .long (kI A.2.2.2.2)] S (fun r S' => r = none ∧ (∃ U', VX S' U' ∧ EQ U' A ∧ ∀ j : Nat, (j < 19 ∨ 37 < j) → U' j = U j) ∧ S'.f = S.f) :=
  z_met (by decide) (Nat.le_of_ble_eq_true rfl) fun p e s m below meth c K hr hlk hnm => by
  have i4 : (eb4 A).natAbs ≤ 10001000000 := Nat.le_trans (bd_add (bd_mul l1 l3) (bd_mul (show (2 : Int).natAbs ≤ 2 by decide) l4)) (by decide)
  have i6 : (eb6 A).natAbs ≤ 10001000000 := Nat.le_trans (bd_add (bd_mul l3 l3) (bd_mul (show (4 : Int).natAbs ≤ 4 by decide) l6)) (by decide)
  have i8 : (eb8 A).natAbs ≤ 3100000000000000 := Nat.le_trans (bd_sub (bd_add (bd_add (bd_sub (bd_mul (bd_mul l1 l1) l6) (bd_mul (bd_mul l1 l3) l4)) (bd_mul (bd_mul (show (4 : Int).natAbs ≤ 4 by decide) l2) l6)) (bd_mul (bd_mul l2 l3) l3)) (bd_mul l4 l4)) (by decide)
  refine z_aload_n K d_Q_become_0 rfl ?_
  refine zx_gQ K fd_Q_14 rfl d_Q_become_1 ?_
  refine z_lload_n K d_Q_become_4 rfl ?_
  refine z_callV (ci := 1) (As := [.long (kI A.1)]) K (c_N_become_J l G b0 h a S (k := 19) (v := A.1) rfl (by omega)) ca_Q_47 im_N_become_J se_N_become_J rfl (by decide) (hx_N (by rfl)) rfl rfl (by decide) (Nat.le_of_ble_eq_true rfl) d_Q_become_5 (fun r h1 hp => ?_)
  obtain ⟨S1, rfl, rfl, k0, n0, _, w0⟩ := hp
  refine z_aload_n K d_Q_become_8 rfl ?_
  refine zx_gQ K fd_Q_20 rfl d_Q_become_9 ?_
  refine z_lload_n K d_Q_become_12 rfl ?_
  refine z_callV (ci := 1) (As := [.long (kI A.2.1)]) K (c_N_become_J l G b0 h a S1 (k := 21) (v := A.2.1) rfl (by omega)) ca_Q_47 im_N_become_J se_N_become_J rfl (by decide) (hx_N (by rfl)) rfl rfl (by decide) (Nat.le_of_ble_eq_true rfl) d_Q_become_13 (fun r h1 hp => ?_)
  obtain ⟨S2, rfl, rfl, k1, n1, _, w1⟩ := hp
  refine z_aload_n K d_Q_become_16 rfl ?_
  refine zx_gQ K fd_Q_23 rfl d_Q_become_17 ?_
  refine z_lload K d_Q_become_20 rfl ?_
  refine z_callV (ci := 1) (As := [.long (kI A.2.2.1)]) K (c_N_become_J l G b0 h a S2 (k := 23) (v := A.2.2.1) rfl (by omega)) ca_Q_47 im_N_become_J se_N_become_J rfl (by decide) (hx_N (by rfl)) rfl rfl (by decide) (Nat.le_of_ble_eq_true rfl) d_Q_become_22 (fun r h1 hp => ?_)
  obtain ⟨S3, rfl, rfl, k2, n2, _, w2⟩ := hp
  refine z_aload_n K d_Q_become_25 rfl ?_
  refine zx_gQ K fd_Q_26 rfl d_Q_become_26 ?_
  refine z_lload K d_Q_become_29 rfl ?_
  refine z_callV (ci := 1) (As := [.long (kI A.2.2.2.1)]) K (c_N_become_J l G b0 h a S3 (k := 25) (v := A.2.2.2.1) rfl (by omega)) ca_Q_47 im_N_become_J se_N_become_J rfl (by decide) (hx_N (by rfl)) rfl rfl (by decide) (Nat.le_of_ble_eq_true rfl) d_Q_become_31 (fun r h1 hp => ?_)
  obtain ⟨S4, rfl, rfl, k3, n3, _, w3⟩ := hp
  refine z_aload_n K d_Q_become_34 rfl ?_
  refine zx_gQ K fd_Q_29 rfl d_Q_become_35 ?_
  refine z_lload K d_Q_become_38 rfl ?_
  refine z_callV (ci := 1) (As := [.long (kI A.2.2.2.2)]) K (c_N_become_J l G b0 h a S4 (k := 27) (v := A.2.2.2.2) rfl (by omega)) ca_Q_47 im_N_become_J se_N_become_J rfl (by decide) (hx_N (by rfl)) rfl rfl (by decide) (Nat.le_of_ble_eq_true rfl) d_Q_become_40 (fun r h1 hp => ?_)
  obtain ⟨S5, rfl, rfl, k4, n4, _, w4⟩ := hp
  refine z_aload_n K d_Q_become_43 rfl ?_
  refine zx_gQ K fd_Q_32 rfl d_Q_become_44 ?_
  refine z_ldc2 (v := kI 2) K d_Q_become_47 kc_Q_51 ?_
  refine z_lload_n K d_Q_become_50 rfl ?_
  refine zi_lmul K d_Q_become_51 ?_
  refine z_callV (ci := 1) (As := [.long (kI (2 * A.2.1))]) K (c_N_become_J l G b0 h a S5 (k := 29) (v := (2 * A.2.1)) rfl (by omega)) ca_Q_47 im_N_become_J se_N_become_J rfl (by decide) (hx_N (by rfl)) rfl rfl (by decide) (Nat.le_of_ble_eq_true rfl) d_Q_become_52 (fun r h1 hp => ?_)
  obtain ⟨S6, rfl, rfl, k5, n5, _, w5⟩ := hp
  refine z_aload_n K d_Q_become_55 rfl ?_
  refine zx_gQ K fd_Q_35 rfl d_Q_become_56 ?_
  refine z_ldc2 (v := kI 2) K d_Q_become_59 kc_Q_51 ?_
  refine z_lload K d_Q_become_62 rfl ?_
  refine zi_lmul K d_Q_become_64 ?_
  refine z_callV (ci := 1) (As := [.long (kI (2 * A.2.2.2.2))]) K (c_N_become_J l G b0 h a S6 (k := 31) (v := (2 * A.2.2.2.2)) rfl (by omega)) ca_Q_47 im_N_become_J se_N_become_J rfl (by decide) (hx_N (by rfl)) rfl rfl (by decide) (Nat.le_of_ble_eq_true rfl) d_Q_become_65 (fun r h1 hp => ?_)
  obtain ⟨S7, rfl, rfl, k6, n6, _, w6⟩ := hp
  refine z_aload_n K d_Q_become_68 rfl ?_
  refine zx_gQ K fd_Q_38 rfl d_Q_become_69 ?_
  refine z_lload_n K d_Q_become_72 rfl ?_
  refine z_lload K d_Q_become_73 rfl ?_
  refine z_lload K d_Q_become_75 rfl ?_
  refine z_callS (As := [.long (kI A.1), .long (kI A.2.2.1), .long (kI A.2.2.2.1)]) K (c_Q_b4 l G b0 h a S7) ca_Q_53 sm_Q_b4 rfl rfl (by decide) (Nat.le_of_ble_eq_true rfl) d_Q_become_77 (fun r h1 hp => ?_)
  obtain ⟨Z, rfl, rfl, rfl⟩ := hp
  refine z_callV (ci := 1) (As := [.long (kI (eb4 A))]) K (c_N_become_J l G b0 h a S7 (k := 33) (v := (eb4 A)) rfl (by omega)) ca_Q_47 im_N_become_J se_N_become_J rfl (by decide) (hx_N (by rfl)) rfl rfl (by decide) (Nat.le_of_ble_eq_true rfl) d_Q_become_80 (fun r h1 hp => ?_)
  obtain ⟨S8, rfl, rfl, k7, n7, _, w7⟩ := hp
  refine z_aload_n K d_Q_become_83 rfl ?_
  refine zx_gQ K fd_Q_41 rfl d_Q_become_84 ?_
  refine z_ldc2 (v := kI 2) K d_Q_become_87 kc_Q_51 ?_
  refine z_lload K d_Q_become_90 rfl ?_
  refine z_lload K d_Q_become_92 rfl ?_
  refine z_callS (As := [.long (kI A.2.2.1), .long (kI A.2.2.2.2)]) K (c_Q_b6 l G b0 h a S8) ca_Q_56 sm_Q_b6 rfl rfl (by decide) (Nat.le_of_ble_eq_true rfl) d_Q_become_94 (fun r h1 hp => ?_)
  obtain ⟨Z, rfl, rfl, rfl⟩ := hp
  refine zi_lmul K d_Q_become_97 ?_
  refine z_callV (ci := 1) (As := [.long (kI (2 * eb6 A))]) K (c_N_become_J l G b0 h a S8 (k := 35) (v := (2 * eb6 A)) rfl (by omega)) ca_Q_47 im_N_become_J se_N_become_J rfl (by decide) (hx_N (by rfl)) rfl rfl (by decide) (Nat.le_of_ble_eq_true rfl) d_Q_become_98 (fun r h1 hp => ?_)
  obtain ⟨S9, rfl, rfl, k8, n8, _, w8⟩ := hp
  refine z_aload_n K d_Q_become_101 rfl ?_
  refine zx_gQ K fd_Q_44 rfl d_Q_become_102 ?_
  refine z_lload_n K d_Q_become_105 rfl ?_
  refine z_lload_n K d_Q_become_106 rfl ?_
  refine z_lload K d_Q_become_107 rfl ?_
  refine z_lload K d_Q_become_109 rfl ?_
  refine z_lload K d_Q_become_111 rfl ?_
  refine z_callS (As := [.long (kI A.1), .long (kI A.2.1), .long (kI A.2.2.1), .long (kI A.2.2.2.1), .long (kI A.2.2.2.2)]) K (c_Q_b8 l G b0 h a S9) ca_Q_60 sm_Q_b8 rfl rfl (by decide) (Nat.le_of_ble_eq_true rfl) d_Q_become_113 (fun r h1 hp => ?_)
  obtain ⟨Z, rfl, rfl, rfl⟩ := hp
  refine z_callV (ci := 1) (As := [.long (kI (eb8 A))]) K (c_N_become_J l G b0 h a S9 (k := 37) (v := (eb8 A)) rfl (by omega)) ca_Q_47 im_N_become_J se_N_become_J rfl (by decide) (hx_N (by rfl)) rfl rfl (by decide) (Nat.le_of_ble_eq_true rfl) d_Q_become_116 (fun r h1 hp => ?_)
  obtain ⟨S10, rfl, rfl, k9, n9, _, w9⟩ := hp
  have hV9 := (((((((((hV.up k0 w0).up k1 w1).up k2 w2).up k3 w3).up k4 w4).up k5 w5).up k6 w6).up k7 w7).up k8 w8).up k9 w9
  refine z_vret K hr hlk d_Q_become_119 ⟨_, rfl, rfl, ⟨_, hV9, ⟨?_, ?_, ?_, ?_, ?_, ?_, ?_, ?_, ?_, ?_⟩, fun j hj => ?_⟩, k9.2.trans (k8.2.trans (k7.2.trans (k6.2.trans (k5.2.trans (k4.2.trans (k3.2.trans (k2.2.trans (k1.2.trans (k0.2)))))))))⟩
  · rw [nu_ne _ _ (by decide), nu_ne _ _ (by decide), nu_ne _ _ (by decide), nu_ne _ _ (by decide), nu_ne _ _ (by decide), nu_ne _ _ (by decide), nu_ne _ _ (by decide), nu_ne _ _ (by decide), nu_ne _ _ (by decide), nu_self]
  · rw [nu_ne _ _ (by decide), nu_ne _ _ (by decide), nu_ne _ _ (by decide), nu_ne _ _ (by decide), nu_ne _ _ (by decide), nu_ne _ _ (by decide), nu_ne _ _ (by decide), nu_ne _ _ (by decide), nu_self]
  · rw [nu_ne _ _ (by decide), nu_ne _ _ (by decide), nu_ne _ _ (by decide), nu_ne _ _ (by decide), nu_ne _ _ (by decide), nu_ne _ _ (by decide), nu_ne _ _ (by decide), nu_self]
  · rw [nu_ne _ _ (by decide), nu_ne _ _ (by decide), nu_ne _ _ (by decide), nu_ne _ _ (by decide), nu_ne _ _ (by decide), nu_ne _ _ (by decide), nu_self]
  · rw [nu_ne _ _ (by decide), nu_ne _ _ (by decide), nu_ne _ _ (by decide), nu_ne _ _ (by decide), nu_ne _ _ (by decide), nu_self]
  · rw [nu_ne _ _ (by decide), nu_ne _ _ (by decide), nu_ne _ _ (by decide), nu_ne _ _ (by decide), nu_self]
  · rw [nu_ne _ _ (by decide), nu_ne _ _ (by decide), nu_ne _ _ (by decide), nu_self]
  · rw [nu_ne _ _ (by decide), nu_ne _ _ (by decide), nu_self]
  · rw [nu_ne _ _ (by decide), nu_self]
  · rw [nu_self]
  · rw [nu_ne _ _ (by omega), nu_ne _ _ (by omega), nu_ne _ _ (by omega), nu_ne _ _ (by omega), nu_ne _ _ (by omega), nu_ne _ _ (by omega), nu_ne _ _ (by omega), nu_ne _ _ (by omega), nu_ne _ _ (by omega), nu_ne _ _ (by omega)]
end Q1
