theorem opp_y {a1 a3 x y1 y2 z k : Int} (h1 : y1 * y1 + a1 * x * y1 * z + a3 * y1 * (z * z * z) = k) (h2 : y2 * y2 + a1 * x * y2 * z + a3 * y2 * (z * z * z) = k) : (y1 - y2) * (y1 + y2 + a1 * x * z + a3 * (z * z) * z) = 0 := by grind
section C6
variable {p : Program} {l : Launch} {e : Env} {R : Room} {s : State} {m : MethodId} {args : Array Value} {below : List Frame} {meth : Method} {c : Code} {Q : State → Prop} {b0 kc ks : Nat} {G : zG} {h : zH} {a : Nat} {cd : Int}
set_option maxHeartbeats 4000000 in
set_option maxRecDepth 100000 in
/-- join: the sum, within 162 digits -/
theorem v_C_join (l : Launch) (G : zG) (b0 : Nat) (h : zH) (a : Nat) (S : xS) {U : Nat → Int} {A : ecE} (hA : ecOk A) {P Q : ecP} {po qo oo : Nat} (hp : isP po = true) (hq : isP qo = true) (ho : isP oo = true) (hpo : po ≠ oo) (hqo : qo ≠ oo) (hV : VX S U) (hpm : pm S.f) (h10 : U 10 = 2) (eq : EQ U A) (hP : PT S U po P) (hQ : PT S U qo Q) (onP : ecOn A P) (onQ : ecOn A Q) (wP : ¬ wdP 162 P) (wQ : ¬ wdP 162 Q) :
    xMet l G b0 y_C_join b_C_join 4 (some .boolean) 6 165 h a [.ref (a + 39), .ref (a + po), .ref (a + qo), .ref (a + oo)] S (fun r S' => JR A P Q oo S U r S') :=
  z_met (by decide) (Nat.le_of_ble_eq_true rfl) fun p e s m below meth c K hr hlk hnm => by
  have far1 := isP_far hp ho hpo
  have far2 := isP_far hq ho hqo
  have p75 := isP_75 hp
  have q75 := isP_75 hq
  have o75 := isP_75 ho
  have nP := hP.nn
  have nQ := hQ.nn
  have zP := hP.isn
  have zQ1 := hQ.isn
  obtain ⟨jon, jq, jok⟩ := jn_q onP onQ
  -- one of them is O
  have easy : ∀ (T : ecP) (to : Nat), isP to = true → oo ≠ to → PT S U to T → jnA A P Q = T → ¬ wdP 162 T → ∀ lv : List (Nat × Value), zW p l e (zRm 6 165 0 0) s m ([.ref (a + 39), .ref (a + po), .ref (a + qo), .ref (a + oo)] : List Value).toArray below meth c 4 b0 G 0 0 (MQ below (zQ G b0 (fun r h' => ∃ S' : xS, h' = hx G h a S' ∧ JR A P Q oo S U r S')) ([.ref (a + 39), .ref (a + po), .ref (a + qo), .ref (a + oo)] : List Value).toArray s 0 0 (z_A b0)) (hx G h a S) 27 lv [.ref (a + to), .ref (a + oo)] := by
    intro T to hto hne hT hj hw lv
    refine z_callV (ci := 2) (As := [.ref (a + to)]) K (c_P_become l G b0 h a S hV ho hto hne hT) ca_C_97 im_P_become se_P_become rfl (by decide) (hx_P ho) rfl rfl (by decide) (Nat.le_of_ble_eq_true rfl) d_C_join_27 (fun r h1 hp => ?_)
    obtain ⟨S1, rfl, rfl, U1, hV1, t1, fr1, f1⟩ := hp
    refine z_iconst (v := jI 1) K d_C_join_30 rfl ?_
    refine z_zret K hr hlk d_C_join_31 rfl ⟨_, rfl, 1, rfl, U1, hV1, by rw [f1]; exact hpm, ⟨fun j _ _ _ _ _ _ a1 a3 a5 a7 a9 => fr1 j a1 a3 a5 a7 a9, fun j hj1 => ?_⟩, Or.inr ⟨rfl, by rw [hj]; exact hw, by rw [hj]; exact t1⟩⟩
    rw [f1]; show nu S.f.nn oo _ j = _; rw [nu_ne _ _ hj1]
  refine z_aload_n K d_C_join_0 rfl ?_
  refine zx_gP K hp fd_C_59 rfl d_C_join_1 ?_
  refine zi_if_ne (tgt := 14) K d_C_join_4 (by decide) (by show i32 (S.f.nn po); omega) (fun hc => ?_) (fun hc => ?_)
  · have hc' : ¬ S.f.nn po = 0 := hc
    have hn := zP.1 (by omega)
    subst hn
    refine z_aload_n K d_C_join_14 rfl ?_
    refine z_aload_n K d_C_join_15 rfl ?_
    refine zx_gP K hp fd_C_59 rfl d_C_join_16 ?_
    refine zi_if_eq (tgt := 26) K d_C_join_19 (by decide) (by show i32 (S.f.nn po); omega) (fun hd => absurd hd hc) (fun hd => ?_)
    refine z_aload_n K d_C_join_22 rfl ?_
    refine z_goto (tgt := 27) K d_C_join_23 (by decide) ?_
    exact easy Q qo hq (Ne.symm hqo) hQ rfl wQ _
  have hc' : S.f.nn po = 0 := hc
  refine z_aload_n K d_C_join_7 rfl ?_
  refine zx_gP K hq fd_C_59 rfl d_C_join_8 ?_
  refine zi_if_eq (tgt := 32) K d_C_join_11 (by decide) (by show i32 (S.f.nn qo); omega) (fun hc2 => ?_) (fun hc2 => ?_)
  rotate_left
  · have hc2' : ¬ S.f.nn qo = 0 := hc2
    have hn := zQ1.1 (by omega)
    subst hn
    refine z_aload_n K d_C_join_14 rfl ?_
    refine z_aload_n K d_C_join_15 rfl ?_
    refine zx_gP K hp fd_C_59 rfl d_C_join_16 ?_
    refine zi_if_eq (tgt := 26) K d_C_join_19 (by decide) (by show i32 (S.f.nn po); omega) (fun hd => ?_) (fun hd => absurd hc hd)
    refine z_aload_n K d_C_join_26 rfl ?_
    exact easy P po hp (Ne.symm hpo) hP (by cases P <;> rfl) wP _
  have hc2' : S.f.nn qo = 0 := hc2
  match P, Q, hP, hQ, onP, onQ, wP, wQ, jon, jq, jok, easy with
  | none, _, hP, _, _, _, _, _, _, _, _, _ => have : S.f.nn po = 1 := hP; omega
  | some _, none, _, hQ, _, _, _, _, _, _, _, _ => have : S.f.nn qo = 1 := hQ; omega
  | some (x1, y1, z1), some (x2, y2, z2), hP, hQ, onP, onQ, wP, wQ, jon, jq, jok, easy =>
    have pv := hP.2
    have qv := hQ.2
    have pb := pt_pb hA onP wP
    have qb := pt_pb hA onQ wQ
    have n1 : z1 ≠ 0 := by have := onP.1; omega
    have n2 : z2 ≠ 0 := by have := onQ.1; omega
    refine z_aload_n K d_C_join_32 rfl ?_
    refine zx_gC K fd_C_51 rfl d_C_join_33 ?_
    refine z_iconst (v := jI 0) K d_C_join_36 rfl ?_
    refine zx_pLost (v := 0) K fd_C_101 (Or.inl rfl) d_C_join_37 ?_
    obtain ⟨S1, hS1⟩ : ∃ Z : xS, Z = S.sf (S.f.slost 0) := ⟨_, rfl⟩
    rw [← hS1]
    have hV1 : VX S1 U := by rw [hS1]; exact hV
    have pm1 : pm S1.f := by rw [hS1]; exact hpm
    have nn1 : ∀ j : Nat, S1.f.nn j = S.f.nn j := by rw [hS1]; exact fun _ => rfl
    have lo1 : S1.f.lost = 0 := by rw [hS1]
    refine z_aload_n K d_C_join_40 rfl ?_
    refine z_aload_n K d_C_join_41 rfl ?_
    refine z_aload_n K d_C_join_42 rfl ?_
    refine z_callV (ci := 7) (As := [.ref (a + po), .ref (a + qo)]) K (v_C_measureGap l G b0 h a S1 hV1 hp pv pb hq qv qb) ca_C_104 im_C_measureGap se_C_measureGap rfl (by decide) (hx_C) rfl rfl (by decide) (Nat.le_of_ble_eq_true rfl) d_C_join_43 (fun r h1 hp => ?_)
    obtain ⟨S2, rfl, rfl, ⟨U2, hV2, ⟨m1, m2, m3⟩, fr2⟩, f2⟩ := hp
    have pv2 : PV U2 po x1 y1 z1 := pv.fr (fun i hi => fr2 _ (by omega) (by omega))
    have qv2 : PV U2 qo x2 y2 z2 := qv.fr (fun i hi => fr2 _ (by omega) (by omega))
    have eq2 : EQ U2 A := eq.fr (fun j j1 j2 => fr2 j (by omega) (by omega))
    have b48 : lt9 (x1 * (z2 * z2)) 36 := by have z := lt9_mul pb.1 qb.2.2.2.1; exact z
    have b50 : lt9 (x2 * (z1 * z1)) 36 := by have z := lt9_mul qb.1 pb.2.2.2.1; exact z
    have b42 : lt9 (cD x1 z1 x2 z2) 40 := by have z := lt9_sub b50 b48; exact lt9_mono z (by decide)
    obtain ⟨n42, v42⟩ := hV2 42 rfl
    rw [m3] at v42
    -- where there is no sum but O
    have isO : ∀ (S9 : xS) (U9 : Nat → Int), VX S9 U9 → pm S9.f → (∀ j : Nat, (j < 40 ∨ 58 < j) → j ≠ 5 → U9 j = U j) → (∀ j : Nat, S9.f.nn j = S.f.nn j) → S9.f.lost = 0 → U9 42 = 0 → jnA A (some (x1, y1, z1)) (some (x2, y2, z2)) = none → zW p l e (zRm 6 165 0 0) s m ([.ref (a + 39), .ref (a + po), .ref (a + qo), .ref (a + oo)] : List Value).toArray below meth c 4 b0 G 0 0 (MQ below (zQ G b0 (fun r h' => ∃ S' : xS, h' = hx G h a S' ∧ JR A (some (x1, y1, z1)) (some (x2, y2, z2)) oo S U r S')) ([.ref (a + 39), .ref (a + po), .ref (a + qo), .ref (a + oo)] : List Value).toArray s 0 0 (z_A b0)) (hx G h a S9) 84 (lv_args 0 [.ref (a + 39), .ref (a + po), .ref (a + qo), .ref (a + oo)]) [] := by
      intro S9 U9 w1 w2 w3 w4 w5 w6 w7
      obtain ⟨n9, v9⟩ := w1 42 rfl
      rw [w6] at v9
      refine z_aload_n K d_C_join_84 rfl ?_
      refine zx_gC K fd_C_20 rfl d_C_join_85 ?_
      refine z_callV (ci := 1) (As := []) K (c_N_isZero l G b0 h a S9 (k := 42) rfl v9) ca_C_108 im_N_isZero se_N_isZero rfl (by decide) (hx_N (by rfl)) rfl rfl (by decide) (Nat.le_of_ble_eq_true rfl) d_C_join_88 (fun r h1 hp => ?_)
      obtain ⟨S3, rfl, rfl, b, rfl, c1, c2⟩ := hp
      refine zi_if_eq (tgt := 114) K d_C_join_91 (by decide) (by omega) (fun hd => by have := c2.2 rfl; omega) (fun hd => ?_)
      refine z_aload_n K d_C_join_94 rfl ?_
      refine z_callV (ci := 2) (As := []) K (c_P_becomeNone l G b0 h a S9 ho) ca_C_125 im_P_becomeNone se_P_becomeNone rfl (by decide) (hx_P ho) rfl rfl (by decide) (Nat.le_of_ble_eq_true rfl) d_C_join_95 (fun r h1 hp => ?_)
      obtain ⟨S3, rfl, rfl, rfl⟩ := hp
      refine z_aload_n K d_C_join_98 rfl ?_
      refine zx_gC K fd_C_51 rfl d_C_join_99 ?_
      refine zx_gR (v := .int (jI 0)) K fd_C_101 (by rw [← w5]; rfl) d_C_join_102 ?_
      refine zi_if_ne (tgt := 112) K d_C_join_105 (by decide) (by decide) (fun hc => absurd rfl hc) (fun hc => ?_)
      refine z_iconst (v := jI 1) K d_C_join_108 rfl ?_
      refine z_goto (tgt := 113) K d_C_join_109 (by decide) ?_
      refine z_zret K hr hlk d_C_join_113 rfl ⟨_, rfl, 1, rfl, U9, w1, w2, ⟨fun j a1 a2 _ _ _ _ _ _ _ _ _ => w3 j a1 a2, fun j hj => ?_⟩, Or.inr ⟨rfl, by rw [w7]; exact fun q => q, ?_⟩⟩
      · show nu S9.f.nn oo 1 j = _; rw [nu_ne _ _ hj]; exact w4 j
      · rw [w7]; show nu S9.f.nn oo 1 oo = 1; rw [nu_self]
    have nn2 : ∀ j : Nat, S2.f.nn j = S.f.nn j := fun j => by rw [f2]; exact nn1 j
    have lo2 : S2.f.lost = 0 := by rw [f2]; exact lo1
    have pm2 : pm S2.f := by rw [f2]; exact pm1
    refine z_aload_n K d_C_join_46 rfl ?_
    refine zx_gC K fd_C_20 rfl d_C_join_47 ?_
    refine z_callV (ci := 1) (As := []) K (c_N_isZero l G b0 h a S2 (k := 42) rfl v42) ca_C_108 im_N_isZero se_N_isZero rfl (by decide) (hx_N (by rfl)) rfl rfl (by decide) (Nat.le_of_ble_eq_true rfl) d_C_join_50 (fun r h1 hp => ?_)
    obtain ⟨S3, rfl, rfl, b, rfl, c1, c2⟩ := hp
    refine zi_if_ne (tgt := 71) K d_C_join_53 (by decide) (by omega) (fun hd => ?_) (fun hd => ?_)
    · -- one x
      have hD0 : cD x1 z1 x2 z2 = 0 := c2.1 (by omega)
      have hsame : x1 = x2 ∧ z1 = z2 := by
        by_cases w : x1 = x2 ∧ z1 = z2
        · exact w
        · exact absurd hD0 (jok.1 _ _ _ _ _ _ rfl rfl w)
      obtain ⟨ex, ez⟩ := hsame
      subst ex
      subst ez
      have hP2 : PT S2 U2 po (some (x1, y1, z1)) := ⟨by rw [nn2]; exact hP.1, pv2⟩
      have hQ2 : PT S2 U2 qo (some (x1, y2, z1)) := ⟨by rw [nn2]; exact hQ.1, qv2⟩
      refine z_aload_n K d_C_join_71 rfl ?_
      refine z_aload_n K d_C_join_72 rfl ?_
      refine z_callV (ci := 2) (As := [.ref (a + qo)]) K (c_P_isLike l G b0 h a S2 hV2 hp hq hP2 hQ2) ca_C_118 im_P_isLike se_P_isLike rfl (by decide) (hx_P hp) rfl rfl (by decide) (Nat.le_of_ble_eq_true rfl) d_C_join_73 (fun r h1 hp => ?_)
      obtain ⟨S3, rfl, rfl, b9, rfl, c3, c4⟩ := hp
      refine zi_if_eq (tgt := 84) K d_C_join_76 (by decide) (by omega) (fun he => ?_) (fun he => ?_)
      · have hne : y1 ≠ y2 := fun w => by subst w; have := c4.2 rfl; omega
        have hj0 : y1 + y2 + A.1 * x1 * z1 + A.2.2.1 * (z1 * z1) * z1 = 0 := by
          have hmul : (y1 - y2) * (y1 + y2 + A.1 * x1 * z1 + A.2.2.1 * (z1 * z1) * z1) = 0 := opp_y onP.2.2 onQ.2.2
          rcases Int.mul_eq_zero.1 hmul with w | w
          · omega
          · exact w
        exact isO S2 U2 hV2 pm2 (fun j a1 a2 => fr2 j a1 a2) nn2 lo2 (m3.trans hD0) (by simp only [jnA, jn, and_self, if_true, if_pos hj0])
      · have hyy := c4.1 (by omega)
        simp only [Option.some.injEq, Prod.mk.injEq, true_and, and_true] at hyy
        subst hyy
        refine z_aload_n K d_C_join_79 rfl ?_
        refine z_aload_n K d_C_join_80 rfl ?_
        refine z_callV (ci := 7) (As := [.ref (a + po)]) K (v_C_drawTangent l G b0 h a S2 hV2 hp pv2 pb eq2 hA) ca_C_122 im_C_drawTangent se_C_drawTangent rfl (by decide) (hx_C) rfl rfl (by decide) (Nat.le_of_ble_eq_true rfl) d_C_join_81 (fun r h1 hp => ?_)
        obtain ⟨S3, rfl, rfl, ⟨U3, hV3, ⟨d1, d2, d3, d4, d5, d6⟩, fr3⟩, f3⟩ := hp
        have fr3' : ∀ j : Nat, (j < 40 ∨ 58 < j) → j ≠ 5 → U3 j = U j := fun j a1 a2 => (fr3 j a1 a2).trans (fr2 j a1 a2)
        have pm3 : pm S3.f := by rw [f3]; exact pm2
        have nn3 : ∀ j : Nat, S3.f.nn j = S.f.nn j := fun j => by rw [f3]; exact nn2 j
        have lo3 : S3.f.lost = 0 := by rw [f3]; exact lo2
        by_cases ht : tD A.1 A.2.2.1 x1 y1 z1 = 0
        · exact isO S3 U3 hV3 pm3 fr3' nn3 lo3 (by rw [d1, ht, Int.zero_mul]) (by simp only [jnA, jn, and_self, if_true]; rw [if_pos (by unfold tD at ht; exact ht)])
        · have hj : jnA A (some (x1, y1, z1)) (some (x1, y1, z1)) = some (fTouch A.1 A.2.1 A.2.2.1 A.2.2.2.1 x1 y1 z1) := by
            simp only [jnA, jn, and_self, if_true]; rw [if_neg (by unfold tD at ht; exact ht)]
          obtain ⟨⟨x3, y3, z3⟩, hR⟩ : ∃ T, T = fTouch A.1 A.2.1 A.2.2.1 A.2.2.2.1 x1 y1 z1 := ⟨_, rfl⟩
          rw [← hR] at hj
          obtain ⟨s0, s1, s2, s3, s4⟩ := k_touch onP hj
          rw [hj] at jon
          obtain ⟨n9, v9⟩ := hV3 42 rfl
          rw [d1] at v9
          refine z_aload_n K d_C_join_84 rfl ?_
          refine zx_gC K fd_C_20 rfl d_C_join_85 ?_
          refine z_callV (ci := 1) (As := []) K (c_N_isZero l G b0 h a S3 (k := 42) rfl v9) ca_C_108 im_N_isZero se_N_isZero rfl (by decide) (hx_N (by rfl)) rfl rfl (by decide) (Nat.le_of_ble_eq_true rfl) d_C_join_88 (fun r h1 hp => ?_)
          obtain ⟨S4, rfl, rfl, b8, rfl, c5, c6⟩ := hp
          refine zi_if_eq (tgt := 114) K d_C_join_91 (by decide) (by omega) (fun hd => ?_) (fun hd => absurd (c6.1 (by omega)) (Int.mul_ne_zero ht n1))
          refine z_re [0, 1, 2, 3] rfl ?_
          exact t_C_join l G b0 h a p e s m below meth c K hr hlk hA hp hq ho hpo hqo hV3 pm3 ((fr3' 10 (by decide) (by decide)).trans h10) (eq2.fr (fun j j1 j2 => fr3 j (by omega) (by omega))) (pv2.fr (fun i hi => fr3 _ (by omega) (by omega))) pb (qv2.fr (fun i hi => fr3 _ (by omega) (by omega))) qb n1 n1 lo3 hj jon s1 (d2.trans s3) (d1.trans s2) d3 (lt9_mono d5 (by decide)) (by have z := d4; exact lt9_mono z (by decide)) (by have z := d6; rw [d3] at z; exact lt9_mono z (by decide)) s4 ⟨fr3', nn3⟩
    · -- two x
      have hD0 : cD x1 z1 x2 z2 ≠ 0 := fun w => by have := c2.2 w; omega
      have hdiff : ¬ (x1 = x2 ∧ z1 = z2) := fun ⟨w1, w2⟩ => by subst w1; subst w2; exact hD0 (by unfold cD; omega)
      refine z_aload_n K d_C_join_56 rfl ?_
      refine z_aload_n K d_C_join_57 rfl ?_
      refine z_aload_n K d_C_join_58 rfl ?_
      refine z_callV (ci := 7) (As := [.ref (a + po), .ref (a + qo)]) K (v_C_gatherHeights l G b0 h a S2 hV2 hp pv2 pb hq qv2 qb eq2 hA) ca_C_112 im_C_gatherHeights se_C_gatherHeights rfl (by decide) (hx_C) rfl rfl (by decide) (Nat.le_of_ble_eq_true rfl) d_C_join_59 (fun r h1 hp => ?_)
      obtain ⟨S3, rfl, rfl, ⟨U3, hV3, ⟨g1, g2, g3⟩, fr3⟩, f3⟩ := hp
      have pv3 : PV U3 po x1 y1 z1 := pv2.fr (fun i hi => fr3 _ (by omega) (by omega))
      have qv3 : PV U3 qo x2 y2 z2 := qv2.fr (fun i hi => fr3 _ (by omega) (by omega))
      have eq3 : EQ U3 A := eq2.fr (fun j j1 j2 => fr3 j (by omega) (by omega))
      refine z_aload_n K d_C_join_62 rfl ?_
      refine z_aload_n K d_C_join_63 rfl ?_
      refine z_aload_n K d_C_join_64 rfl ?_
      refine z_callV (ci := 7) (As := [.ref (a + po), .ref (a + qo)]) K (v_C_drawChord l G b0 h a S3 hV3 hp pv3 pb hq qv3 qb eq3 hA ((fr3 48 (by decide) (by decide)).trans m1) ((fr3 50 (by decide) (by decide)).trans m2) g2 rfl rfl rfl b48 b50 (by rw [← g2]; exact g3)) ca_C_115 im_C_drawChord se_C_drawChord rfl (by decide) (hx_C) rfl rfl (by decide) (Nat.le_of_ble_eq_true rfl) d_C_join_65 (fun r h1 hp => ?_)
      obtain ⟨S4, rfl, rfl, ⟨U4, hV4, ⟨d2, d5⟩, fr4⟩, f4⟩ := hp
      have d1 : U4 42 = cD x1 z1 x2 z2 := (fr4 42 (by decide) (by decide)).trans ((fr3 42 (by decide) (by decide)).trans m3)
      have d3 : U4 44 = cN y1 z1 y2 z2 := (fr4 44 (by decide) (by decide)).trans g1
      have fr4' : ∀ j : Nat, (j < 40 ∨ 58 < j) → j ≠ 5 → U4 j = U j := fun j a1 a2 => (fr4 j (by omega) a2).trans ((fr3 j (by omega) a2).trans (fr2 j a1 a2))
      have pm4 : pm S4.f := by rw [f4, f3]; exact pm2
      have nn4 : ∀ j : Nat, S4.f.nn j = S.f.nn j := fun j => by rw [f4, f3]; exact nn2 j
      have lo4 : S4.f.lost = 0 := by rw [f4, f3]; exact lo2
      have hj : jnA A (some (x1, y1, z1)) (some (x2, y2, z2)) = some (fChord A.1 A.2.1 A.2.2.1 x1 y1 z1 x2 y2 z2) := by simp only [jnA, jn, if_neg hdiff]
      obtain ⟨⟨x3, y3, z3⟩, hR⟩ : ∃ T, T = fChord A.1 A.2.1 A.2.2.1 x1 y1 z1 x2 y2 z2 := ⟨_, rfl⟩
      rw [← hR] at hj
      obtain ⟨s0, s1, s2, s3, s4⟩ := k_chord onP onQ hdiff hj
      rw [hj] at jon
      have bN : lt9 (cN y1 z1 y2 z2) 59 := by
        have u1 : lt9 (y2 * (z1 * z1 * z1)) 55 := by have z := lt9_mul qb.2.1 pb.2.2.2.2; exact z
        have u2 : lt9 (y1 * (z2 * z2 * z2)) 55 := by have z := lt9_mul pb.2.1 qb.2.2.2.2; exact z
        have z := lt9_sub u1 u2
        exact lt9_mono z (by decide)
      obtain ⟨n9, v9⟩ := hV4 42 rfl
      rw [d1] at v9
      refine z_goto (tgt := 84) K d_C_join_68 (by decide) ?_
      refine z_aload_n K d_C_join_84 rfl ?_
      refine zx_gC K fd_C_20 rfl d_C_join_85 ?_
      refine z_callV (ci := 1) (As := []) K (c_N_isZero l G b0 h a S4 (k := 42) rfl v9) ca_C_108 im_N_isZero se_N_isZero rfl (by decide) (hx_N (by rfl)) rfl rfl (by decide) (Nat.le_of_ble_eq_true rfl) d_C_join_88 (fun r h1 hp => ?_)
      obtain ⟨S5, rfl, rfl, b8, rfl, c5, c6⟩ := hp
      refine zi_if_eq (tgt := 114) K d_C_join_91 (by decide) (by omega) (fun hd => ?_) (fun hd => absurd (c6.1 (by omega)) hD0)
      refine z_re [0, 1, 2, 3] rfl ?_
      exact t_C_join l G b0 h a p e s m below meth c K hr hlk hA hp hq ho hpo hqo hV4 pm4 ((fr4' 10 (by decide) (by decide)).trans h10) (eq3.fr (fun j j1 j2 => fr4 j (by omega) (by omega))) (pv3.fr (fun i hi => fr4 _ (by omega) (by omega))) pb (qv3.fr (fun i hi => fr4 _ (by omega) (by omega))) qb n1 n2 lo4 hj jon s1 (d2.trans s3) (d1.trans s2) d3 (lt9_mono d5 (by decide)) (by rw [d1]; exact b42) bN s4 ⟨fr4', nn4⟩
end C6
