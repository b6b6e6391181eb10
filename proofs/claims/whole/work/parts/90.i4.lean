theorem xC_Q {G : zG} {a : Nat} {S : xS} : xCell G a S 18 = .inr (3, oQ a) := rfl
theorem bld.nu {G : zG} {a : Nat} {v : Nat → Int} {g : Nat → va_E} {o k q : Nat} {w : Int} {own : va_E} {h : zH} (hb : bld G a (Sv v) g o k own h) (hq : k ≤ q) : bld G a (Sv (nu v q w)) g o k own h :=
  ⟨hb.1, hb.2.1, fun j j1 j2 => by rw [xC_nu (by omega) (by omega)]; exact hb.2.2.1 j j1 j2, hb.2.2.2⟩
section I4
variable {p : Program} {l : Launch} {e : Env} {R : Room} {s : State} {m : MethodId} {args : Array Value} {below : List Frame} {meth : Method} {c : Code} {Q : State → Prop} {b0 kc ks : Nat} {G : zG} {h : zH} {a : Nat} {cd : Int}
set_option maxHeartbeats 4000000 in
set_option maxRecDepth 100000 in
theorem g_Q_b4 (l : Launch) (G : zG) (b0 : Nat) (h : zH) {c1 c3 c4 : Int} : zMet l G b0 y_Q_b4 b_Q_b4 6 (some .long) 0 0 0 0 [.long (kI c1), .long (kI c3), .long (kI c4)] h (fun r h' => h = h' ∧ r = some (.long (kI (c1 * c3 + 2 * c4)))) :=
  z_met (by decide) (Nat.le_of_ble_eq_true rfl) fun p e s m below meth c K hr hlk hnm => by
  refine z_lload_n K d_Q_b4_0 rfl ?_
  refine z_lload_n K d_Q_b4_1 rfl ?_
  refine zi_lmul K d_Q_b4_2 ?_
  refine z_ldc2 (v := kI 2) K d_Q_b4_3 kc_Q_51 ?_
  refine z_lload K d_Q_b4_6 rfl ?_
  refine zi_lmul K d_Q_b4_8 ?_
  refine zi_ladd K d_Q_b4_9 ?_
  exact z_lret K hr hlk d_Q_b4_10 ⟨rfl, rfl⟩
set_option maxHeartbeats 4000000 in
set_option maxRecDepth 100000 in
theorem g_Q_b6 (l : Launch) (G : zG) (b0 : Nat) (h : zH) {c3 c6 : Int} : zMet l G b0 y_Q_b6 b_Q_b6 4 (some .long) 0 0 0 0 [.long (kI c3), .long (kI c6)] h (fun r h' => h = h' ∧ r = some (.long (kI (c3 * c3 + 4 * c6)))) :=
  z_met (by decide) (Nat.le_of_ble_eq_true rfl) fun p e s m below meth c K hr hlk hnm => by
  refine z_lload_n K d_Q_b6_0 rfl ?_
  refine z_lload_n K d_Q_b6_1 rfl ?_
  refine zi_lmul K d_Q_b6_2 ?_
  refine z_ldc2 (v := kI 4) K d_Q_b6_3 kc_Q_63 ?_
  refine z_lload_n K d_Q_b6_6 rfl ?_
  refine zi_lmul K d_Q_b6_7 ?_
  refine zi_ladd K d_Q_b6_8 ?_
  exact z_lret K hr hlk d_Q_b6_9 ⟨rfl, rfl⟩
set_option maxHeartbeats 4000000 in
set_option maxRecDepth 100000 in
theorem g_Q_b8 (l : Launch) (G : zG) (b0 : Nat) (h : zH) {c1 c2 c3 c4 c6 : Int} : zMet l G b0 y_Q_b8 b_Q_b8 10 (some .long) 0 0 0 0 [.long (kI c1), .long (kI c2), .long (kI c3), .long (kI c4), .long (kI c6)] h (fun r h' => h = h' ∧ r = some (.long (kI (c1 * c1 * c6 - c1 * c3 * c4 + 4 * c2 * c6 + c2 * c3 * c3 - c4 * c4)))) :=
  z_met (by decide) (Nat.le_of_ble_eq_true rfl) fun p e s m below meth c K hr hlk hnm => by
  refine z_lload_n K d_Q_b8_0 rfl ?_
  refine z_lload_n K d_Q_b8_1 rfl ?_
  refine zi_lmul K d_Q_b8_2 ?_
  refine z_lload K d_Q_b8_3 rfl ?_
  refine zi_lmul K d_Q_b8_5 ?_
  refine z_lload_n K d_Q_b8_6 rfl ?_
  refine z_lload K d_Q_b8_7 rfl ?_
  refine zi_lmul K d_Q_b8_9 ?_
  refine z_lload K d_Q_b8_10 rfl ?_
  refine zi_lmul K d_Q_b8_12 ?_
  refine zi_lsub K d_Q_b8_13 ?_
  refine z_ldc2 (v := kI 4) K d_Q_b8_14 kc_Q_63 ?_
  refine z_lload_n K d_Q_b8_17 rfl ?_
  refine zi_lmul K d_Q_b8_18 ?_
  refine z_lload K d_Q_b8_19 rfl ?_
  refine zi_lmul K d_Q_b8_21 ?_
  refine zi_ladd K d_Q_b8_22 ?_
  refine z_lload_n K d_Q_b8_23 rfl ?_
  refine z_lload K d_Q_b8_24 rfl ?_
  refine zi_lmul K d_Q_b8_26 ?_
  refine z_lload K d_Q_b8_27 rfl ?_
  refine zi_lmul K d_Q_b8_29 ?_
  refine zi_ladd K d_Q_b8_30 ?_
  refine z_lload K d_Q_b8_31 rfl ?_
  refine z_lload K d_Q_b8_33 rfl ?_
  refine zi_lmul K d_Q_b8_35 ?_
  refine zi_lsub K d_Q_b8_36 ?_
  exact z_lret K hr hlk d_Q_b8_37 ⟨rfl, rfl⟩
def vQ (v : Nat → Int) : Nat → Int := nu (nu (nu (nu (nu (nu (nu (nu (nu (nu v 19 0) 21 0) 23 0) 25 0) 27 1) 29 0) 31 2) 33 0) 35 8) 37 0
set_option maxHeartbeats 4000000 in
set_option maxRecDepth 100000 in
theorem g_Q_become (l : Launch) (G : zG) (b0 : Nat) (h : zH) (a : Nat) {v : Nat → Int} {g : Nat → va_E} {own : va_E} (hv : ∀ j : Nat, 18 < j → j < 39 → v j = 0) (hb0 : bld G a (Sv v) g 0 39 own h) : zMet l G b0 y_Q_become b_Q_become 11 none 1 29 0 0 [.ref (a + 18), .long (kI 0), .long (kI 0), .long (kI 0), .long (kI 0), .long (kI 1)] h (fun r h' => r = none ∧ bld G a (Sv (vQ v)) g 0 39 own h') :=
  z_met (by decide) (Nat.le_of_ble_eq_true rfl) fun p e s m below meth c K hr hlk hnm => by
  refine z_aload_n K d_Q_become_0 rfl ?_
  refine z_get K fd_Q_14 ((hb0.2.2.1 18 (by decide) (by decide)).trans xC_Q) rfl d_Q_become_1 ?_
  refine z_lload_n K d_Q_become_4 rfl ?_
  refine z_callV (ci := 1) (As := [.long (kI 0)]) K (g_N_become_J l G b0 h a (v := v) (k := 19) (w := 0) rfl (hv _ (by decide) (by decide)) (by decide) (hb0.2.2.1 19 (by decide) (by decide)) (hb0.2.2.1 20 (by decide) (by decide))) ca_Q_47 im_N_become_J se_N_become_J rfl (by decide) ((hb0.2.2.1 19 (by decide) (by decide)).trans (xC_N rfl)) rfl rfl (by decide) (Nat.le_of_ble_eq_true rfl) d_Q_become_5 (fun r h1 hp => ?_)
  obtain ⟨rfl, p1, p2, p3, p4⟩ := hp
  have hb1 := hb0.bec (k := 19) (by decide) (by decide) p1 p2 p3 p4
  refine z_aload_n K d_Q_become_8 rfl ?_
  refine z_get K fd_Q_20 ((hb1.2.2.1 18 (by decide) (by decide)).trans xC_Q) rfl d_Q_become_9 ?_
  refine z_lload_n K d_Q_become_12 rfl ?_
  refine z_callV (ci := 1) (As := [.long (kI 0)]) K (g_N_become_J l G b0 h1 a (v := (nu v 19 0)) (k := 21) (w := 0) rfl (by rw [nu_ne _ _ (by decide)]; exact hv _ (by decide) (by decide)) (by decide) (hb1.2.2.1 21 (by decide) (by decide)) (hb1.2.2.1 22 (by decide) (by decide))) ca_Q_47 im_N_become_J se_N_become_J rfl (by decide) ((hb1.2.2.1 21 (by decide) (by decide)).trans (xC_N rfl)) rfl rfl (by decide) (Nat.le_of_ble_eq_true rfl) d_Q_become_13 (fun r h2 hp => ?_)
  obtain ⟨rfl, p1, p2, p3, p4⟩ := hp
  have hb2 := hb1.bec (k := 21) (by decide) (by decide) p1 p2 p3 p4
  refine z_aload_n K d_Q_become_16 rfl ?_
  refine z_get K fd_Q_23 ((hb2.2.2.1 18 (by decide) (by decide)).trans xC_Q) rfl d_Q_become_17 ?_
  refine z_lload K d_Q_become_20 rfl ?_
  refine z_callV (ci := 1) (As := [.long (kI 0)]) K (g_N_become_J l G b0 h2 a (v := (nu (nu v 19 0) 21 0)) (k := 23) (w := 0) rfl (by rw [nu_ne _ _ (by decide), nu_ne _ _ (by decide)]; exact hv _ (by decide) (by decide)) (by decide) (hb2.2.2.1 23 (by decide) (by decide)) (hb2.2.2.1 24 (by decide) (by decide))) ca_Q_47 im_N_become_J se_N_become_J rfl (by decide) ((hb2.2.2.1 23 (by decide) (by decide)).trans (xC_N rfl)) rfl rfl (by decide) (Nat.le_of_ble_eq_true rfl) d_Q_become_22 (fun r h3 hp => ?_)
  obtain ⟨rfl, p1, p2, p3, p4⟩ := hp
  have hb3 := hb2.bec (k := 23) (by decide) (by decide) p1 p2 p3 p4
  refine z_aload_n K d_Q_become_25 rfl ?_
  refine z_get K fd_Q_26 ((hb3.2.2.1 18 (by decide) (by decide)).trans xC_Q) rfl d_Q_become_26 ?_
  refine z_lload K d_Q_become_29 rfl ?_
  refine z_callV (ci := 1) (As := [.long (kI 0)]) K (g_N_become_J l G b0 h3 a (v := (nu (nu (nu v 19 0) 21 0) 23 0)) (k := 25) (w := 0) rfl (by rw [nu_ne _ _ (by decide), nu_ne _ _ (by decide), nu_ne _ _ (by decide)]; exact hv _ (by decide) (by decide)) (by decide) (hb3.2.2.1 25 (by decide) (by decide)) (hb3.2.2.1 26 (by decide) (by decide))) ca_Q_47 im_N_become_J se_N_become_J rfl (by decide) ((hb3.2.2.1 25 (by decide) (by decide)).trans (xC_N rfl)) rfl rfl (by decide) (Nat.le_of_ble_eq_true rfl) d_Q_become_31 (fun r h4 hp => ?_)
  obtain ⟨rfl, p1, p2, p3, p4⟩ := hp
  have hb4 := hb3.bec (k := 25) (by decide) (by decide) p1 p2 p3 p4
  refine z_aload_n K d_Q_become_34 rfl ?_
  refine z_get K fd_Q_29 ((hb4.2.2.1 18 (by decide) (by decide)).trans xC_Q) rfl d_Q_become_35 ?_
  refine z_lload K d_Q_become_38 rfl ?_
  refine z_callV (ci := 1) (As := [.long (kI 1)]) K (g_N_become_J l G b0 h4 a (v := (nu (nu (nu (nu v 19 0) 21 0) 23 0) 25 0)) (k := 27) (w := 1) rfl (by rw [nu_ne _ _ (by decide), nu_ne _ _ (by decide), nu_ne _ _ (by decide), nu_ne _ _ (by decide)]; exact hv _ (by decide) (by decide)) (by decide) (hb4.2.2.1 27 (by decide) (by decide)) (hb4.2.2.1 28 (by decide) (by decide))) ca_Q_47 im_N_become_J se_N_become_J rfl (by decide) ((hb4.2.2.1 27 (by decide) (by decide)).trans (xC_N rfl)) rfl rfl (by decide) (Nat.le_of_ble_eq_true rfl) d_Q_become_40 (fun r h5 hp => ?_)
  obtain ⟨rfl, p1, p2, p3, p4⟩ := hp
  have hb5 := hb4.bec (k := 27) (by decide) (by decide) p1 p2 p3 p4
  refine z_aload_n K d_Q_become_43 rfl ?_
  refine z_get K fd_Q_32 ((hb5.2.2.1 18 (by decide) (by decide)).trans xC_Q) rfl d_Q_become_44 ?_
  refine z_ldc2 (v := kI 2) K d_Q_become_47 kc_Q_51 ?_
  refine z_lload_n K d_Q_become_50 rfl ?_
  refine zi_lmul K d_Q_become_51 ?_
  rw [show (2 * 0 : Int) = 0 by decide]
  refine z_callV (ci := 1) (As := [.long (kI 0)]) K (g_N_become_J l G b0 h5 a (v := (nu (nu (nu (nu (nu v 19 0) 21 0) 23 0) 25 0) 27 1)) (k := 29) (w := 0) rfl (by rw [nu_ne _ _ (by decide), nu_ne _ _ (by decide), nu_ne _ _ (by decide), nu_ne _ _ (by decide), nu_ne _ _ (by decide)]; exact hv _ (by decide) (by decide)) (by decide) (hb5.2.2.1 29 (by decide) (by decide)) (hb5.2.2.1 30 (by decide) (by decide))) ca_Q_47 im_N_become_J se_N_become_J rfl (by decide) ((hb5.2.2.1 29 (by decide) (by decide)).trans (xC_N rfl)) rfl rfl (by decide) (Nat.le_of_ble_eq_true rfl) d_Q_become_52 (fun r h6 hp => ?_)
  obtain ⟨rfl, p1, p2, p3, p4⟩ := hp
  have hb6 := hb5.bec (k := 29) (by decide) (by decide) p1 p2 p3 p4
  refine z_aload_n K d_Q_become_55 rfl ?_
  refine z_get K fd_Q_35 ((hb6.2.2.1 18 (by decide) (by decide)).trans xC_Q) rfl d_Q_become_56 ?_
  refine z_ldc2 (v := kI 2) K d_Q_become_59 kc_Q_51 ?_
  refine z_lload K d_Q_become_62 rfl ?_
  refine zi_lmul K d_Q_become_64 ?_
  rw [show (2 * 1 : Int) = 2 by decide]
  refine z_callV (ci := 1) (As := [.long (kI 2)]) K (g_N_become_J l G b0 h6 a (v := (nu (nu (nu (nu (nu (nu v 19 0) 21 0) 23 0) 25 0) 27 1) 29 0)) (k := 31) (w := 2) rfl (by rw [nu_ne _ _ (by decide), nu_ne _ _ (by decide), nu_ne _ _ (by decide), nu_ne _ _ (by decide), nu_ne _ _ (by decide), nu_ne _ _ (by decide)]; exact hv _ (by decide) (by decide)) (by decide) (hb6.2.2.1 31 (by decide) (by decide)) (hb6.2.2.1 32 (by decide) (by decide))) ca_Q_47 im_N_become_J se_N_become_J rfl (by decide) ((hb6.2.2.1 31 (by decide) (by decide)).trans (xC_N rfl)) rfl rfl (by decide) (Nat.le_of_ble_eq_true rfl) d_Q_become_65 (fun r h7 hp => ?_)
  obtain ⟨rfl, p1, p2, p3, p4⟩ := hp
  have hb7 := hb6.bec (k := 31) (by decide) (by decide) p1 p2 p3 p4
  refine z_aload_n K d_Q_become_68 rfl ?_
  refine z_get K fd_Q_38 ((hb7.2.2.1 18 (by decide) (by decide)).trans xC_Q) rfl d_Q_become_69 ?_
  refine z_lload_n K d_Q_become_72 rfl ?_
  refine z_lload K d_Q_become_73 rfl ?_
  refine z_lload K d_Q_become_75 rfl ?_
  refine z_callS (As := [.long (kI 0), .long (kI 0), .long (kI 0)]) K (g_Q_b4 l G b0 h7) ca_Q_53 sm_Q_b4 rfl rfl (by decide) (Nat.le_of_ble_eq_true rfl) d_Q_become_77 (fun r hh hp => ?_)
  obtain ⟨rfl, rfl⟩ := hp
  rw [show (0 * 0 + 2 * 0 : Int) = 0 by decide]
  refine z_callV (ci := 1) (As := [.long (kI 0)]) K (g_N_become_J l G b0 h7 a (v := (nu (nu (nu (nu (nu (nu (nu v 19 0) 21 0) 23 0) 25 0) 27 1) 29 0) 31 2)) (k := 33) (w := 0) rfl (by rw [nu_ne _ _ (by decide), nu_ne _ _ (by decide), nu_ne _ _ (by decide), nu_ne _ _ (by decide), nu_ne _ _ (by decide), nu_ne _ _ (by decide), nu_ne _ _ (by decide)]; exact hv _ (by decide) (by decide)) (by decide) (hb7.2.2.1 33 (by decide) (by decide)) (hb7.2.2.1 34 (by decide) (by decide))) ca_Q_47 im_N_become_J se_N_become_J rfl (by decide) ((hb7.2.2.1 33 (by decide) (by decide)).trans (xC_N rfl)) rfl rfl (by decide) (Nat.le_of_ble_eq_true rfl) d_Q_become_80 (fun r h8 hp => ?_)
  obtain ⟨rfl, p1, p2, p3, p4⟩ := hp
  have hb8 := hb7.bec (k := 33) (by decide) (by decide) p1 p2 p3 p4
  refine z_aload_n K d_Q_become_83 rfl ?_
  refine z_get K fd_Q_41 ((hb8.2.2.1 18 (by decide) (by decide)).trans xC_Q) rfl d_Q_become_84 ?_
  refine z_ldc2 (v := kI 2) K d_Q_become_87 kc_Q_51 ?_
  refine z_lload K d_Q_become_90 rfl ?_
  refine z_lload K d_Q_become_92 rfl ?_
  refine z_callS (As := [.long (kI 0), .long (kI 1)]) K (g_Q_b6 l G b0 h8) ca_Q_56 sm_Q_b6 rfl rfl (by decide) (Nat.le_of_ble_eq_true rfl) d_Q_become_94 (fun r hh hp => ?_)
  obtain ⟨rfl, rfl⟩ := hp
  refine zi_lmul K d_Q_become_97 ?_
  rw [show (2 * (0 * 0 + 4 * 1) : Int) = 8 by decide]
  refine z_callV (ci := 1) (As := [.long (kI 8)]) K (g_N_become_J l G b0 h8 a (v := (nu (nu (nu (nu (nu (nu (nu (nu v 19 0) 21 0) 23 0) 25 0) 27 1) 29 0) 31 2) 33 0)) (k := 35) (w := 8) rfl (by rw [nu_ne _ _ (by decide), nu_ne _ _ (by decide), nu_ne _ _ (by decide), nu_ne _ _ (by decide), nu_ne _ _ (by decide), nu_ne _ _ (by decide), nu_ne _ _ (by decide), nu_ne _ _ (by decide)]; exact hv _ (by decide) (by decide)) (by decide) (hb8.2.2.1 35 (by decide) (by decide)) (hb8.2.2.1 36 (by decide) (by decide))) ca_Q_47 im_N_become_J se_N_become_J rfl (by decide) ((hb8.2.2.1 35 (by decide) (by decide)).trans (xC_N rfl)) rfl rfl (by decide) (Nat.le_of_ble_eq_true rfl) d_Q_become_98 (fun r h9 hp => ?_)
  obtain ⟨rfl, p1, p2, p3, p4⟩ := hp
  have hb9 := hb8.bec (k := 35) (by decide) (by decide) p1 p2 p3 p4
  refine z_aload_n K d_Q_become_101 rfl ?_
  refine z_get K fd_Q_44 ((hb9.2.2.1 18 (by decide) (by decide)).trans xC_Q) rfl d_Q_become_102 ?_
  refine z_lload_n K d_Q_become_105 rfl ?_
  refine z_lload_n K d_Q_become_106 rfl ?_
  refine z_lload K d_Q_become_107 rfl ?_
  refine z_lload K d_Q_become_109 rfl ?_
  refine z_lload K d_Q_become_111 rfl ?_
  refine z_callS (As := [.long (kI 0), .long (kI 0), .long (kI 0), .long (kI 0), .long (kI 1)]) K (g_Q_b8 l G b0 h9) ca_Q_60 sm_Q_b8 rfl rfl (by decide) (Nat.le_of_ble_eq_true rfl) d_Q_become_113 (fun r hh hp => ?_)
  obtain ⟨rfl, rfl⟩ := hp
  rw [show (0 * 0 * 1 - 0 * 0 * 0 + 4 * 0 * 1 + 0 * 0 * 0 - 0 * 0 : Int) = 0 by decide]
  refine z_callV (ci := 1) (As := [.long (kI 0)]) K (g_N_become_J l G b0 h9 a (v := (nu (nu (nu (nu (nu (nu (nu (nu (nu v 19 0) 21 0) 23 0) 25 0) 27 1) 29 0) 31 2) 33 0) 35 8)) (k := 37) (w := 0) rfl (by rw [nu_ne _ _ (by decide), nu_ne _ _ (by decide), nu_ne _ _ (by decide), nu_ne _ _ (by decide), nu_ne _ _ (by decide), nu_ne _ _ (by decide), nu_ne _ _ (by decide), nu_ne _ _ (by decide), nu_ne _ _ (by decide)]; exact hv _ (by decide) (by decide)) (by decide) (hb9.2.2.1 37 (by decide) (by decide)) (hb9.2.2.1 38 (by decide) (by decide))) ca_Q_47 im_N_become_J se_N_become_J rfl (by decide) ((hb9.2.2.1 37 (by decide) (by decide)).trans (xC_N rfl)) rfl rfl (by decide) (Nat.le_of_ble_eq_true rfl) d_Q_become_116 (fun r h10 hp => ?_)
  obtain ⟨rfl, p1, p2, p3, p4⟩ := hp
  have hb10 := hb9.bec (k := 37) (by decide) (by decide) p1 p2 p3 p4
  exact z_vret K hr hlk d_Q_become_119 ⟨rfl, hb10⟩
end I4
