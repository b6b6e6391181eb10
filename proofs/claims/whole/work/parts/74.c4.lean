section C4
variable {p : Program} {l : Launch} {e : Env} {R : Room} {s : State} {m : MethodId} {args : Array Value} {below : List Frame} {meth : Method} {c : Code} {Q : State → Prop} {b0 kc ks : Nat} {G : zG} {h : zH} {a : Nat} {cd : Int}
theorem IsDg.wd {v : Int} {d n : Nat} (h : IsDg v d) (hn : 1 ≤ n) : n < d ↔ 10 ^ n ≤ v.natAbs := h.gt hn
theorem lt9_162 {v : Int} (h : ¬ 10 ^ 162 ≤ v.natAbs) : lt9 v 18 := lt9_of10 (n := 162) (by omega) (by decide)
set_option maxHeartbeats 4000000 in
set_option maxRecDepth 100000 in
theorem v_C_placeX (l : Launch) (G : zG) (b0 : Nat) (h : zH) (a : Nat) (S : xS) {U : Nat → Int} (hV : VX S U) {x3 z3 s0 : Int} {oo : Nat} (ho : isP oo = true) (hz : 0 < z3) (hs : s0 ≠ 0) (eT : U 40 = x3 * (s0 * s0)) (eB : U 42 = z3 * s0) (eS : U 46 = s0) (bT : lt9 (U 40) 79) (bB : lt9 (U 42) 40) : xMet l G b0 y_C_placeX b_C_placeX 2 (some .boolean) 3 100 h a [.ref (a + 39), .ref (a + oo)] S (fun r S' => ∃ b : Int, r = some (.int (jI b)) ∧ ((b = 0 ∧ (10 ^ 162 ≤ x3.natAbs ∨ 10 ^ 162 ≤ (z3 * z3).natAbs) ∧ (∃ U', VX S' U' ∧ ∀ j : Nat, (j < 40 ∨ 58 < j) → j ≠ 5 → U' j = U j) ∧ S'.f = S.f) ∨ (b = 1 ∧ ¬ (10 ^ 162 ≤ x3.natAbs ∨ 10 ^ 162 ≤ (z3 * z3).natAbs) ∧ (∃ U', VX S' U' ∧ U' (oo + 1) = x3 ∧ U' (oo + 5) = z3 ∧ U' (oo + 7) = z3 * z3 ∧ U' (oo + 9) = z3 * z3 * z3 ∧ U' 44 = U 44 ∧ U' 46 = U 46 ∧ ∀ j : Nat, (j < 40 ∨ 58 < j) → j ≠ 5 → j ≠ oo + 1 → j ≠ oo + 5 → j ≠ oo + 7 → j ≠ oo + 9 → U' j = U j) ∧ S'.f = S.f.snn (nu S.f.nn oo 0)))) :=
  z_met (by decide) (Nat.le_of_ble_eq_true rfl) fun p e s m below meth c K hr hlk hnm => by
  have hN_oo := (isP_lt ho).2.2.2
  have hR_oo := nR_P ho
  have oo75 := isP_75 ho
  have bz : lt9 z3 40 := lt9_le bB (by rw [eB, Int.natAbs_mul]; exact Nat.le_mul_of_pos_right _ (by omega))
  have bs : lt9 s0 40 := lt9_le bB (by rw [eB, Int.natAbs_mul]; exact Nat.le_mul_of_pos_left _ (by omega))
  have ss0 : s0 * s0 ≠ 0 := Int.mul_ne_zero hs hs
  have bx : lt9 x3 79 := lt9_le bT (by rw [eT, Int.natAbs_mul]; exact Nat.le_mul_of_pos_right _ (by omega))
  have d1 : (U 42).tdiv (U 46) = z3 := by rw [eB, eS]; exact Int.mul_tdiv_cancel _ hs
  have d2 : (U 42).tmod (U 46) = 0 := by rw [eB, eS]; exact Int.mul_tmod_left ..
  have bzz : lt9 (z3 * z3) 80 := by have z := lt9_mul bz bz; exact z
  have bss : lt9 (s0 * s0) 80 := by have z := lt9_mul bs bs; exact z
  have lt0 : ∀ m, lt9 0 m := fun m => by show (((0 : Int)).natAbs : Int) < BS ^ m; exact BS_pos m
  refine z_aload_n K d_C_placeX_0 rfl ?_
  refine zx_gC K fd_C_51 rfl d_C_placeX_1 ?_
  refine z_aload_n K d_C_placeX_4 rfl ?_
  refine zx_gC K fd_C_20 rfl d_C_placeX_5 ?_
  refine z_aload_n K d_C_placeX_8 rfl ?_
  refine zx_gC K fd_C_26 rfl d_C_placeX_9 ?_
  refine z_aload_n K d_C_placeX_12 rfl ?_
  refine zx_gC K fd_C_35 rfl d_C_placeX_13 ?_
  refine z_aload_n K d_C_placeX_16 rfl ?_
  refine zx_gC K fd_C_44 rfl d_C_placeX_17 ?_
  refine z_callV (ci := 4) (As := [.ref (a + 42), .ref (a + 46), .ref (a + 52), .ref (a + 58)]) K (v_R_divide l G b0 h a S (x := 42) (y := 46) (qq := 52) (rr := 58) hV rfl rfl rfl rfl (by decide) (by rw [eS]; exact hs) (by rw [d1]; exact lt9_mono bz (by decide)) (by rw [d2]; exact lt0 _)) ca_C_176 im_R_divide se_R_divide rfl (by decide) (hx_R) rfl rfl (by decide) (Nat.le_of_ble_eq_true rfl) d_C_placeX_20 (fun r h1 hp => ?_)
  obtain ⟨S1, rfl, rfl, hV1, f1⟩ := hp
  rw [d1, d2] at hV1
  obtain ⟨U1, hU1⟩ : ∃ W : Nat → Int, W = nu (nu U 52 z3) 58 0 := ⟨_, rfl⟩
  rw [← hU1] at hV1
  have u1 : U1 52 = z3 := by rw [hU1, nu_ne _ _ (by decide), nu_self]
  have uo1 : ∀ j : Nat, j ≠ 52 → j ≠ 58 → U1 j = U j := fun j a1 a2 => by rw [hU1, nu_ne _ _ a2, nu_ne _ _ a1]
  refine z_aload_n K d_C_placeX_23 rfl ?_
  refine zx_gC K fd_C_51 rfl d_C_placeX_24 ?_
  refine z_aload_n K d_C_placeX_27 rfl ?_
  refine zx_gC K fd_C_35 rfl d_C_placeX_28 ?_
  refine z_aload_n K d_C_placeX_31 rfl ?_
  refine zx_gC K fd_C_35 rfl d_C_placeX_32 ?_
  refine z_aload_n K d_C_placeX_35 rfl ?_
  refine zx_gC K fd_C_38 rfl d_C_placeX_36 ?_
  refine z_callV (ci := 4) (As := [.ref (a + 52), .ref (a + 52), .ref (a + 54)]) K (v_R_multiply l G b0 h a S1 (x := 52) (y := 52) (o := 54) hV1 rfl rfl rfl (by rw [u1]; exact bz) (by rw [u1]; exact bz) (by decide) (by rw [u1]; exact lt9_mono bzz (by decide))) ca_C_71 im_R_multiply se_R_multiply rfl (by decide) (hx_R) rfl rfl (by decide) (Nat.le_of_ble_eq_true rfl) d_C_placeX_39 (fun r h1 hp => ?_)
  obtain ⟨S2, rfl, rfl, hV2, f2⟩ := hp
  rw [u1] at hV2
  obtain ⟨U2, hU2⟩ : ∃ W : Nat → Int, W = nu U1 54 (z3 * z3) := ⟨_, rfl⟩
  rw [← hU2] at hV2
  have uo2 : ∀ j : Nat, j ≠ 54 → U2 j = U1 j := fun j a1 => by rw [hU2, nu_ne _ _ a1]
  have s2 : U2 46 = s0 := by rw [uo2 46 (by decide), uo1 46 (by decide) (by decide), eS]
  refine z_aload_n K d_C_placeX_42 rfl ?_
  refine zx_gC K fd_C_51 rfl d_C_placeX_43 ?_
  refine z_aload_n K d_C_placeX_46 rfl ?_
  refine zx_gC K fd_C_26 rfl d_C_placeX_47 ?_
  refine z_aload_n K d_C_placeX_50 rfl ?_
  refine zx_gC K fd_C_26 rfl d_C_placeX_51 ?_
  refine z_aload_n K d_C_placeX_54 rfl ?_
  refine zx_gC K fd_C_29 rfl d_C_placeX_55 ?_
  refine z_callV (ci := 4) (As := [.ref (a + 46), .ref (a + 46), .ref (a + 48)]) K (v_R_multiply l G b0 h a S2 (x := 46) (y := 46) (o := 48) hV2 rfl rfl rfl (by rw [s2]; exact bs) (by rw [s2]; exact bs) (by decide) (by rw [s2]; exact lt9_mono bss (by decide))) ca_C_71 im_R_multiply se_R_multiply rfl (by decide) (hx_R) rfl rfl (by decide) (Nat.le_of_ble_eq_true rfl) d_C_placeX_58 (fun r h1 hp => ?_)
  obtain ⟨S3, rfl, rfl, hV3, f3⟩ := hp
  rw [s2] at hV3
  obtain ⟨U3, hU3⟩ : ∃ W : Nat → Int, W = nu U2 48 (s0 * s0) := ⟨_, rfl⟩
  rw [← hU3] at hV3
  have uo3 : ∀ j : Nat, j ≠ 48 → U3 j = U2 j := fun j a1 => by rw [hU3, nu_ne _ _ a1]
  have t3 : U3 40 = x3 * (s0 * s0) := by rw [uo3 40 (by decide), uo2 40 (by decide), uo1 40 (by decide) (by decide), eT]
  have l3 : U3 48 = s0 * s0 := by rw [hU3, nu_self]
  have d3 : (U3 40).tdiv (U3 48) = x3 := by rw [t3, l3]; exact Int.mul_tdiv_cancel _ ss0
  have d4 : (U3 40).tmod (U3 48) = 0 := by rw [t3, l3]; exact Int.mul_tmod_left ..
  refine z_aload_n K d_C_placeX_61 rfl ?_
  refine zx_gC K fd_C_51 rfl d_C_placeX_62 ?_
  refine z_aload_n K d_C_placeX_65 rfl ?_
  refine zx_gC K fd_C_14 rfl d_C_placeX_66 ?_
  refine z_aload_n K d_C_placeX_69 rfl ?_
  refine zx_gC K fd_C_29 rfl d_C_placeX_70 ?_
  refine z_aload_n K d_C_placeX_73 rfl ?_
  refine zx_gC K fd_C_29 rfl d_C_placeX_74 ?_
  refine z_aload_n K d_C_placeX_77 rfl ?_
  refine zx_gC K fd_C_44 rfl d_C_placeX_78 ?_
  refine z_callV (ci := 4) (As := [.ref (a + 40), .ref (a + 48), .ref (a + 48), .ref (a + 58)]) K (v_R_divide l G b0 h a S3 (x := 40) (y := 48) (qq := 48) (rr := 58) hV3 rfl rfl rfl rfl (by decide) (by rw [l3]; exact ss0) (by rw [d3]; exact lt9_mono bx (by decide)) (by rw [d4]; exact lt0 _)) ca_C_176 im_R_divide se_R_divide rfl (by decide) (hx_R) rfl rfl (by decide) (Nat.le_of_ble_eq_true rfl) d_C_placeX_81 (fun r h1 hp => ?_)
  obtain ⟨S4, rfl, rfl, hV4, f4⟩ := hp
  rw [d3, d4] at hV4
  obtain ⟨U4, hU4⟩ : ∃ W : Nat → Int, W = nu (nu U3 48 x3) 58 0 := ⟨_, rfl⟩
  rw [← hU4] at hV4
  have uo4 : ∀ j : Nat, j ≠ 48 → j ≠ 58 → U4 j = U3 j := fun j a1 a2 => by rw [hU4, nu_ne _ _ a2, nu_ne _ _ a1]
  have e48 : U4 48 = x3 := by rw [hU4, nu_ne _ _ (by decide), nu_self]
  have e54 : U4 54 = z3 * z3 := by rw [uo4 54 (by decide) (by decide), uo3 54 (by decide), hU2, nu_self]
  have e52 : U4 52 = z3 := by rw [uo4 52 (by decide) (by decide), uo3 52 (by decide), uo2 52 (by decide), u1]
  have fr4 : ∀ j : Nat, j ≠ 48 → j ≠ 52 → j ≠ 54 → j ≠ 58 → U4 j = U j := fun j a1 a2 a3 a4 => by rw [uo4 j a1 a4, uo3 j a1, uo2 j a3, uo1 j a2 a4]
  have ff : S4.f = S.f := f4.trans (f3.trans (f2.trans f1))
  obtain ⟨n54, v54⟩ := hV4 54 rfl
  obtain ⟨n48, v48⟩ := hV4 48 rfl
  obtain ⟨n52, v52⟩ := hV4 52 rfl
  rw [e54] at v54
  rw [e48] at v48
  rw [e52] at v52
  refine z_aload_n K d_C_placeX_84 rfl ?_
  refine zx_gC K fd_C_38 rfl d_C_placeX_85 ?_
  refine z_callV (ci := 1) (As := []) K (c_N_digitCount l G b0 h a S4 (k := 54) rfl v54) ca_C_190 im_N_digitCount se_N_digitCount rfl (by decide) (hx_N (by rfl)) rfl rfl (by decide) (Nat.le_of_ble_eq_true rfl) d_C_placeX_88 (fun r h1 hp => ?_)
  obtain ⟨S5, rfl, rfl, c1, rfl, c2, c3⟩ := hp
  have w1 := c2.wd (n := 162) (by decide)
  refine z_sipush (v := jI 162) K d_C_placeX_91 rfl ?_
  refine zi_icmp_gt (tgt := 110) K d_C_placeX_94 (by decide) (by omega) (by decide) (fun hc => ?_) (fun hc => ?_)
  · refine z_iconst (v := jI 0) K d_C_placeX_110 rfl ?_
    exact z_zret K hr hlk d_C_placeX_111 rfl ⟨_, rfl, 0, rfl, Or.inl ⟨rfl, Or.inr (w1.1 (by omega)), ⟨U4, hV4, fun j j1 _ => fr4 j (by omega) (by omega) (by omega) (by omega)⟩, ff⟩⟩
  refine z_aload_n K d_C_placeX_97 rfl ?_
  refine zx_gC K fd_C_29 rfl d_C_placeX_98 ?_
  refine z_callV (ci := 1) (As := []) K (c_N_digitCount l G b0 h a S4 (k := 48) rfl v48) ca_C_190 im_N_digitCount se_N_digitCount rfl (by decide) (hx_N (by rfl)) rfl rfl (by decide) (Nat.le_of_ble_eq_true rfl) d_C_placeX_101 (fun r h1 hp => ?_)
  obtain ⟨S5, rfl, rfl, c4, rfl, c5, c6⟩ := hp
  have w2 := c5.wd (n := 162) (by decide)
  refine z_sipush (v := jI 162) K d_C_placeX_104 rfl ?_
  refine zi_icmp_le (tgt := 112) K d_C_placeX_107 (by decide) (by omega) (by decide) (fun hc2 => ?_) (fun hc2 => ?_)
  rotate_left
  · refine z_iconst (v := jI 0) K d_C_placeX_110 rfl ?_
    exact z_zret K hr hlk d_C_placeX_111 rfl ⟨_, rfl, 0, rfl, Or.inl ⟨rfl, Or.inl (w2.1 (by omega)), ⟨U4, hV4, fun j j1 _ => fr4 j (by omega) (by omega) (by omega) (by omega)⟩, ff⟩⟩
  have nw1 : ¬ 10 ^ 162 ≤ (z3 * z3).natAbs := fun q => by have := w1.2 q; omega
  have nw2 : ¬ 10 ^ 162 ≤ x3.natAbs := fun q => by have := w2.2 q; omega
  have bx18 := lt9_162 nw2
  have bzz18 := lt9_162 nw1
  have bz9 : lt9 z3 9 := lt9_of10 (n := 81) (sq_lt (n := 81) (by rw [show 2 * 81 = 162 from rfl]; omega)) (by decide)
  have bz27 : lt9 (z3 * (z3 * z3)) 27 := by have z := lt9_mul bz9 bzz18; exact z
  refine z_aload_n K d_C_placeX_112 rfl ?_
  refine z_iconst (v := jI 0) K d_C_placeX_113 rfl ?_
  refine zx_pNn K ho fd_C_59 (Or.inl rfl) d_C_placeX_114 ?_
  obtain ⟨S5, hS5⟩ : ∃ Z : xS, Z = S4.sf (S4.f.snn (nu S4.f.nn oo 0)) := ⟨_, rfl⟩
  rw [← hS5]
  have hV5 : VX S5 U4 := by rw [hS5]; exact hV4
  have f5 : S5.f = S.f.snn (nu S.f.nn oo 0) := by rw [hS5]; show S4.f.snn (nu S4.f.nn oo 0) = _; rw [ff]
  have v48' : NR S5 48 n48 x3 := by rw [hS5]; exact v48
  have v52' : NR S5 52 n52 z3 := by rw [hS5]; exact v52
  have v54' : NR S5 54 n54 (z3 * z3) := by rw [hS5]; exact v54
  refine z_aload_n K d_C_placeX_117 rfl ?_
  refine zx_gP K (by first | assumption | rfl) fd_C_65 rfl d_C_placeX_118 ?_
  refine z_aload_n K d_C_placeX_121 rfl ?_
  refine zx_gC K fd_C_29 rfl d_C_placeX_122 ?_
  refine z_callV (ci := 1) (As := [.ref (a + 48)]) K (c_N_become_N l G b0 h a S5 (k := oo + 1) (j := 48) hN_oo.1 rfl v48' (by rw [hR_oo 1 (by decide)]; exact lt9_mono bx18 (by decide))) ca_C_194 im_N_become_N se_N_become_N rfl (by decide) (hx_N hN_oo.1) rfl rfl (by decide) (Nat.le_of_ble_eq_true rfl) d_C_placeX_125 (fun r h1 hp => ?_)
  obtain ⟨S6, rfl, rfl, k1, k2⟩ := hp
  have v52b := k1.nr v52' (show 52 ≠ oo + 1 by omega)
  have v54b := k1.nr v54' (show 54 ≠ oo + 1 by omega)
  refine z_aload_n K d_C_placeX_128 rfl ?_
  refine zx_gP K (by first | assumption | rfl) fd_C_68 rfl d_C_placeX_129 ?_
  refine z_aload_n K d_C_placeX_132 rfl ?_
  refine zx_gC K fd_C_35 rfl d_C_placeX_133 ?_
  refine z_callV (ci := 1) (As := [.ref (a + 52)]) K (c_N_become_N l G b0 h a S6 (k := oo + 5) (j := 52) hN_oo.2.2.1 rfl v52b (by rw [hR_oo 5 (by decide)]; exact lt9_mono bz9 (by decide))) ca_C_194 im_N_become_N se_N_become_N rfl (by decide) (hx_N hN_oo.2.2.1) rfl rfl (by decide) (Nat.le_of_ble_eq_true rfl) d_C_placeX_136 (fun r h1 hp => ?_)
  obtain ⟨S7, rfl, rfl, k3, k4⟩ := hp
  have v54c := k3.nr v54b (show 54 ≠ oo + 5 by omega)
  refine z_aload_n K d_C_placeX_139 rfl ?_
  refine zx_gP K (by first | assumption | rfl) fd_C_141 rfl d_C_placeX_140 ?_
  refine z_aload_n K d_C_placeX_143 rfl ?_
  refine zx_gC K fd_C_38 rfl d_C_placeX_144 ?_
  refine z_callV (ci := 1) (As := [.ref (a + 54)]) K (c_N_become_N l G b0 h a S7 (k := oo + 7) (j := 54) hN_oo.2.2.2.1 rfl v54c (by rw [hR_oo 7 (by decide)]; exact lt9_mono bzz18 (by decide))) ca_C_194 im_N_become_N se_N_become_N rfl (by decide) (hx_N hN_oo.2.2.2.1) rfl rfl (by decide) (Nat.le_of_ble_eq_true rfl) d_C_placeX_147 (fun r h1 hp => ?_)
  obtain ⟨S8, rfl, rfl, k5, k6⟩ := hp
  have hV8 := ((hV5.up k1 k2).up k3 k4).up k5 k6
  obtain ⟨U8, hU8⟩ : ∃ W : Nat → Int, W = nu (nu (nu U4 (oo + 1) x3) (oo + 5) z3) (oo + 7) (z3 * z3) := ⟨_, rfl⟩
  rw [← hU8] at hV8
  have uo8 : ∀ j : Nat, j ≠ oo + 1 → j ≠ oo + 5 → j ≠ oo + 7 → U8 j = U4 j := fun j a1 a2 a3 => by rw [hU8, nu_ne _ _ a3, nu_ne _ _ a2, nu_ne _ _ a1]
  have y52 : U8 52 = z3 := by rw [uo8 52 (by omega) (by omega) (by omega), e52]
  have y54 : U8 54 = z3 * z3 := by rw [uo8 54 (by omega) (by omega) (by omega), e54]
  refine z_aload_n K d_C_placeX_150 rfl ?_
  refine zx_gC K fd_C_51 rfl d_C_placeX_151 ?_
  refine z_aload_n K d_C_placeX_154 rfl ?_
  refine zx_gC K fd_C_35 rfl d_C_placeX_155 ?_
  refine z_aload_n K d_C_placeX_158 rfl ?_
  refine zx_gC K fd_C_38 rfl d_C_placeX_159 ?_
  refine z_aload_n K d_C_placeX_162 rfl ?_
  refine zx_gP K (by first | assumption | rfl) fd_C_91 rfl d_C_placeX_163 ?_
  refine z_callV (ci := 4) (As := [.ref (a + 52), .ref (a + 54), .ref (a + (oo + 9))]) K (v_R_multiply l G b0 h a S8 (x := 52) (y := 54) (o := oo + 9) hV8 rfl rfl hN_oo.2.2.2.2 (by rw [y52]; exact bz9) (by rw [y54]; exact bzz18) (by decide) (by rw [y52, y54, hR_oo 9 (by decide)]; exact lt9_mono bz27 (by decide))) ca_C_71 im_R_multiply se_R_multiply rfl (by decide) (hx_R) rfl rfl (by decide) (Nat.le_of_ble_eq_true rfl) d_C_placeX_166 (fun r h1 hp => ?_)
  obtain ⟨S9, rfl, rfl, hV9, f9⟩ := hp
  rw [y52, y54] at hV9
  have f9' : S9.f = S.f.snn (nu S.f.nn oo 0) := f9.trans (k5.2.trans (k3.2.trans (k1.2.trans f5)))
  refine z_iconst (v := jI 1) K d_C_placeX_169 rfl ?_
  refine z_zret K hr hlk d_C_placeX_170 rfl ⟨_, rfl, 1, rfl, Or.inr ⟨rfl, fun q => q.elim nw2 nw1, ⟨_, hV9, ?_, ?_, ?_, ?_, ?_, ?_, fun j j1 j2 j3 j4 j5 j6 => ?_⟩, f9'⟩⟩
  · rw [nu_ne _ _ (by omega), hU8, nu_ne _ _ (by omega), nu_ne _ _ (by omega), nu_self]
  · rw [nu_ne _ _ (by omega), hU8, nu_ne _ _ (by omega), nu_self]
  · rw [nu_ne _ _ (by omega), hU8, nu_self]
  · rw [nu_self]; grind
  · rw [nu_ne _ _ (by omega), uo8 44 (by omega) (by omega) (by omega), fr4 44 (by decide) (by decide) (by decide) (by decide)]
  · rw [nu_ne _ _ (by omega), uo8 46 (by omega) (by omega) (by omega), fr4 46 (by decide) (by decide) (by decide) (by decide)]
  · rw [nu_ne _ _ j6, uo8 j j3 j4 j5, fr4 j (by omega) (by omega) (by omega) (by omega)]
end C4
