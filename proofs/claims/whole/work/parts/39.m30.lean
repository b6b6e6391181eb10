theorem lt9_fUp {u w : Int} {m : Nat} (h : lt9 u m) : lt9 (fUp u w) m := by
  unfold fUp
  by_cases hb : w < 0
  · rw [if_pos hb]; exact lt9_neg (lt9_tdiv (w := (Int.gcd u w : Int)) h)
  · rw [if_neg hb]; exact lt9_tdiv (w := (Int.gcd u w : Int)) h
theorem lt9_fLo {u w : Int} {m : Nat} (h : lt9 w m) : lt9 (fLo u w) m := by
  unfold fLo
  by_cases hb : w < 0
  · rw [if_pos hb]; exact lt9_neg (lt9_tdiv (w := (Int.gcd u w : Int)) h)
  · rw [if_neg hb]; exact lt9_tdiv (w := (Int.gcd u w : Int)) h
/-- both sides of the equation at xu / xl, yu / yl, times xl xl xl yl yl -/
def pLeft (A : Int × Int × Int × Int × Int) (xu xl yu yl : Int) : Int := yu * yu * (xl * xl * xl) + A.1 * (xu * yu) * (xl * xl * yl) + A.2.2.1 * (yu * yl) * (xl * xl * xl)
def pRight (A : Int × Int × Int × Int × Int) (xu xl yu yl : Int) : Int := yl * yl * (xu * (xu * xu) + A.2.1 * (xu * xu) * xl + A.2.2.2.1 * xu * (xl * xl) + A.2.2.2.2 * (xl * xl * xl))
section M30
variable {p : Program} {l : Launch} {e : Env} {R : Room} {s : State} {m : MethodId} {args : Array Value} {below : List Frame} {meth : Method} {c : Code} {Q : State → Prop} {b0 kc ks : Nat} {G : zG} {h : zH} {a : Nat} {cd : Int}
set_option maxHeartbeats 4000000 in
set_option maxRecDepth 100000 in
/-- point(slot, a, b, c, d) -/
theorem r_M_point (l : Launch) (G : zG) (b0 : Nat) (h : zH) (a : Nat) (T : mT) {pts : Int → Option (Int × Int × Int)} {A : Int × Int × Int × Int × Int} {s0 u1 w1 u2 w2 : Int} (hS : RS T pts A) (cA : capA A) (hs : i32 s0) (hu1 : i64 u1) (hw1 : i64 w1) (hu2 : i64 u2) (hw2 : i64 w2) :
    mMet l G b0 y_M_point b_M_point 10 (some .int) 5 129 h a 0 [.int (jI s0), .long (kI u1), .long (kI w1), .long (kI u2), .long (kI w2)] T (fun o T' => ((0 ≤ s0 ∧ s0 < 8) ∧ w1 ≠ 0 ∧ w2 ≠ 0) ∧ (pRight A (fUp u1 w1) (fLo u1 w1) (fUp u2 w2) (fLo u2 w2) = pLeft A (fUp u1 w1) (fLo u1 w1) (fUp u2 w2) (fLo u2 w2) ∧ o = some (.int (jI 1)) ∧ RS T' (fun i => if i = s0 then some (fUp u1 w1, fUp u2 w2, (fLo u2 w2).tdiv (fLo u1 w1)) else pts i) A ∨ ¬ pRight A (fUp u1 w1) (fLo u1 w1) (fUp u2 w2) (fLo u2 w2) = pLeft A (fUp u1 w1) (fLo u1 w1) (fUp u2 w2) (fLo u2 w2) ∧ o = some (.int (jI 0)) ∧ RS T' pts A) ∨ ¬ ((0 ≤ s0 ∧ s0 < 8) ∧ w1 ≠ 0 ∧ w2 ≠ 0) ∧ o = some (.int (jI (-1))) ∧ T = T') :=
  z_met (by decide) (Nat.le_of_ble_eq_true rfl) fun p e s m below meth c K hr hlk hnm => by
  obtain ⟨V, hV, hp, hA, hN⟩ := hS
  refine z_aload_n K d_M_point_0 rfl ?_
  refine z_iconst (v := jI 0) K d_M_point_1 rfl ?_
  refine zm_code K fd_M_30 d_M_point_2 ?_
  refine z_iload_n K d_M_point_5 rfl ?_
  refine z_callS (As := [.int (jI s0)]) K (c_M_isSlot l G b0 _ hs) ca_M_95 sm_M_isSlot rfl rfl (by decide) (Nat.le_of_ble_eq_true rfl) d_M_point_6 (fun o h1 hp1 => ?_)
  obtain ⟨rfl, rfl⟩ := hp1
  by_cases c0 : 0 ≤ s0 ∧ s0 < 8
  rotate_left
  · rw [if_neg c0]
    refine zi_if_eq (tgt := 26) K d_M_point_9 (by decide) (by decide) (fun _ => ?_) (fun q => absurd rfl q)
    refine z_iconst (v := jI (-1)) K d_M_point_26 rfl ?_
    exact z_iret K hr hlk d_M_point_27 ⟨_, rfl, Or.inr ⟨fun q => c0 q.1, rfl, rfl⟩⟩
  rw [if_pos c0]
  refine zi_if_eq (tgt := 26) K d_M_point_9 (by decide) (by decide) (fun q => absurd q (by decide)) (fun _ => ?_)
  refine z_lload K d_M_point_12 rfl ?_
  refine z_lconst (v := kI 0) K d_M_point_14 rfl ?_
  refine zi_lc_eq (tgt := 26) K d_M_point_15 d_M_point_16 (by decide) hw1 (by decide) (fun hc => ?_) (fun hb1 => ?_)
  · refine z_iconst (v := jI (-1)) K d_M_point_26 rfl ?_
    exact z_iret K hr hlk d_M_point_27 ⟨_, rfl, Or.inr ⟨fun q => q.2.1 hc, rfl, rfl⟩⟩
  refine z_lload K d_M_point_19 rfl ?_
  refine z_lconst (v := kI 0) K d_M_point_21 rfl ?_
  refine zi_lc_ne (tgt := 28) K d_M_point_22 d_M_point_23 (by decide) hw2 (by decide) (fun hb2 => ?_) (fun hc => ?_)
  rotate_left
  · refine z_iconst (v := jI (-1)) K d_M_point_26 rfl ?_
    exact z_iret K hr hlk d_M_point_27 ⟨_, rfl, Or.inr ⟨fun q => q.2.2 hc, rfl, rfl⟩⟩
  have cond : (0 ≤ s0 ∧ s0 < 8) ∧ w1 ≠ 0 ∧ w2 ≠ 0 := ⟨c0, hb1, hb2⟩
  refine z_aload_n K d_M_point_28 rfl ?_
  refine z_bipush (v := jI 30) K d_M_point_29 rfl ?_
  refine z_bipush (v := jI 33) K d_M_point_31 rfl ?_
  refine z_lload_n K d_M_point_33 rfl ?_
  refine z_lload K d_M_point_34 rfl ?_
  refine z_callV (ci := 0) (As := [.int (jI 30), .int (jI 33), .long (kI u1), .long (kI w1)]) K (v_M_fraction l G b0 h a 0 T hV (by decide) (by decide) (by decide) hu1 hw1 hb1) ca_M_98 im_M_fraction se_M_fraction rfl (by decide) hm_0 rfl rfl (by decide) (Nat.le_of_ble_eq_true rfl) d_M_point_36 (fun o h1 hp1 => ?_)
  obtain ⟨Ta, rfl, rfl, ⟨Va, hVa, ka, ka1, ka2⟩, hNa⟩ := hp1
  refine z_aload_n K d_M_point_39 rfl ?_
  refine z_bipush (v := jI 31) K d_M_point_40 rfl ?_
  refine z_bipush (v := jI 34) K d_M_point_42 rfl ?_
  refine z_lload K d_M_point_44 rfl ?_
  refine z_lload K d_M_point_46 rfl ?_
  refine z_callV (ci := 0) (As := [.int (jI 31), .int (jI 34), .long (kI u2), .long (kI w2)]) K (v_M_fraction l G b0 h a 0 Ta hVa (by decide) (by decide) (by decide) hu2 hw2 hb2) ca_M_98 im_M_fraction se_M_fraction rfl (by decide) hm_0 rfl rfl (by decide) (Nat.le_of_ble_eq_true rfl) d_M_point_48 (fun o h1 hp1 => ?_)
  obtain ⟨Tb, rfl, rfl, ⟨Vb, hVb, kb, kb1, kb2⟩, hNb⟩ := hp1
  have g0 : ∀ q : Int, q < 30 → Vb q = V q := fun q hq => (kb q (ne30 hq (by decide)) (ne30 hq (by decide)) (by omega)).trans (ka q (ne30 hq (by decide)) (ne30 hq (by decide)) (by omega))
  have f30 := (kb 30 (by decide) (by decide) (by decide)).trans ka1
  have f33 := (kb 33 (by decide) (by decide) (by decide)).trans ka2
  have x30 : lt9 (fUp u1 w1) 3 := lt9_fUp (lt9_i64 hu1)
  have x33 : lt9 (fLo u1 w1) 3 := lt9_fLo (lt9_i64 hw1)
  have x31 : lt9 (fUp u2 w2) 3 := lt9_fUp (lt9_i64 hu2)
  have x34 : lt9 (fLo u2 w2) 3 := lt9_fLo (lt9_i64 hw2)
  have n33 : fLo u1 w1 ≠ 0 := by have := f_pos (a := u1) hb1; omega
  generalize fUp u1 w1 = xu at f30 x30 ⊢
  generalize fLo u1 w1 = xl at f33 x33 n33 ⊢
  generalize fUp u2 w2 = yu at kb1 x31 ⊢
  generalize fLo u2 w2 = yl at kb2 x34 ⊢
  refine z_aload_n K d_M_point_51 rfl ?_
  refine z_bipush (v := jI 42) K d_M_point_52 rfl ?_
  refine z_bipush (v := jI 33) K d_M_point_54 rfl ?_
  refine z_bipush (v := jI 33) K d_M_point_56 rfl ?_
  refine z_callV (ci := 0) (As := [.int (jI 42), .int (jI 33), .int (jI 33)]) K (w_M_multiply l G b0 h a 0 Tb (v := xl) (w := xl) hVb (by decide) (by decide) (by decide) (by decide) (by decide) f33 f33 x33 x33 (by decide)) ca_M_92 im_M_multiply se_M_multiply rfl (by decide) hm_0 rfl rfl (by decide) (Nat.le_of_ble_eq_true rfl) d_M_point_58 (fun o h1 hp => ?_)
  obtain ⟨T1, rfl, rfl, hV1, hN1⟩ := hp
  obtain ⟨x1, e1⟩ : ∃ z : Int, z = xl * xl := ⟨_, rfl⟩
  rw [← e1] at hV1
  have b1 : lt9 x1 6 := by rw [e1]; have z := lt9_mul x33 x33; exact z
  obtain ⟨V1, eV1⟩ : ∃ W : Int → Int, W = iu Vb 42 x1 := ⟨_, rfl⟩
  rw [← eV1] at hV1
  have f1_30 : V1 30 = xu := (by rw [eV1, iu_ne _ _ (by decide)] : V1 30 = Vb 30).trans f30
  have f1_31 : V1 31 = yu := (by rw [eV1, iu_ne _ _ (by decide)] : V1 31 = Vb 31).trans kb1
  have f1_33 : V1 33 = xl := (by rw [eV1, iu_ne _ _ (by decide)] : V1 33 = Vb 33).trans f33
  have f1_34 : V1 34 = yl := (by rw [eV1, iu_ne _ _ (by decide)] : V1 34 = Vb 34).trans kb2
  have f1_42 : V1 42 = x1 := by rw [eV1, iu_self]
  have g1 : ∀ q : Int, q < 30 → V1 q = V q := fun q hq => (by rw [eV1, iu_ne _ _ (ne30 hq (by decide))] : V1 q = Vb q).trans (g0 q hq)
  refine z_aload_n K d_M_point_61 rfl ?_
  refine z_bipush (v := jI 43) K d_M_point_62 rfl ?_
  refine z_bipush (v := jI 42) K d_M_point_64 rfl ?_
  refine z_bipush (v := jI 33) K d_M_point_66 rfl ?_
  refine z_callV (ci := 0) (As := [.int (jI 43), .int (jI 42), .int (jI 33)]) K (w_M_multiply l G b0 h a 0 T1 (v := x1) (w := xl) hV1 (by decide) (by decide) (by decide) (by decide) (by decide) f1_42 f1_33 b1 x33 (by decide)) ca_M_92 im_M_multiply se_M_multiply rfl (by decide) hm_0 rfl rfl (by decide) (Nat.le_of_ble_eq_true rfl) d_M_point_68 (fun o h1 hp => ?_)
  obtain ⟨T2, rfl, rfl, hV2, hN2⟩ := hp
  obtain ⟨x2, e2⟩ : ∃ z : Int, z = x1 * xl := ⟨_, rfl⟩
  rw [← e2] at hV2
  have b2 : lt9 x2 9 := by rw [e2]; have z := lt9_mul b1 x33; exact z
  obtain ⟨V2, eV2⟩ : ∃ W : Int → Int, W = iu V1 43 x2 := ⟨_, rfl⟩
  rw [← eV2] at hV2
  have f2_30 : V2 30 = xu := (by rw [eV2, iu_ne _ _ (by decide)] : V2 30 = V1 30).trans f1_30
  have f2_31 : V2 31 = yu := (by rw [eV2, iu_ne _ _ (by decide)] : V2 31 = V1 31).trans f1_31
  have f2_33 : V2 33 = xl := (by rw [eV2, iu_ne _ _ (by decide)] : V2 33 = V1 33).trans f1_33
  have f2_34 : V2 34 = yl := (by rw [eV2, iu_ne _ _ (by decide)] : V2 34 = V1 34).trans f1_34
  have f2_42 : V2 42 = x1 := (by rw [eV2, iu_ne _ _ (by decide)] : V2 42 = V1 42).trans f1_42
  have f2_43 : V2 43 = x2 := by rw [eV2, iu_self]
  have g2 : ∀ q : Int, q < 30 → V2 q = V q := fun q hq => (by rw [eV2, iu_ne _ _ (ne30 hq (by decide))] : V2 q = V1 q).trans (g1 q hq)
  refine z_aload_n K d_M_point_71 rfl ?_
  refine z_bipush (v := jI 45) K d_M_point_72 rfl ?_
  refine z_lconst (v := kI 0) K d_M_point_74 rfl ?_
  refine z_callV (ci := 0) (As := [.int (jI 45), .long (kI 0)]) K (v_M_set l G b0 h a 0 T2 (v := 0) hV2 (by decide) (by decide)) ca_M_26 im_M_set se_M_set rfl (by decide) hm_0 rfl rfl (by decide) (Nat.le_of_ble_eq_true rfl) d_M_point_75 (fun o h1 hp => ?_)
  obtain ⟨T3, rfl, rfl, hV3, hN3⟩ := hp
  obtain ⟨V3, eV3⟩ : ∃ W : Int → Int, W = iu V2 45 0 := ⟨_, rfl⟩
  rw [← eV3] at hV3
  have f3_30 : V3 30 = xu := (by rw [eV3, iu_ne _ _ (by decide)] : V3 30 = V2 30).trans f2_30
  have f3_31 : V3 31 = yu := (by rw [eV3, iu_ne _ _ (by decide)] : V3 31 = V2 31).trans f2_31
  have f3_33 : V3 33 = xl := (by rw [eV3, iu_ne _ _ (by decide)] : V3 33 = V2 33).trans f2_33
  have f3_34 : V3 34 = yl := (by rw [eV3, iu_ne _ _ (by decide)] : V3 34 = V2 34).trans f2_34
  have f3_42 : V3 42 = x1 := (by rw [eV3, iu_ne _ _ (by decide)] : V3 42 = V2 42).trans f2_42
  have f3_43 : V3 43 = x2 := (by rw [eV3, iu_ne _ _ (by decide)] : V3 43 = V2 43).trans f2_43
  have f3_45 : V3 45 = 0 := by rw [eV3, iu_self]
  have g3 : ∀ q : Int, q < 30 → V3 q = V q := fun q hq => (by rw [eV3, iu_ne _ _ (ne30 hq (by decide))] : V3 q = V2 q).trans (g2 q hq)
  refine z_aload_n K d_M_point_78 rfl ?_
  refine z_bipush (v := jI 45) K d_M_point_79 rfl ?_
  refine z_bipush (v := jI 31) K d_M_point_81 rfl ?_
  refine z_bipush (v := jI 31) K d_M_point_83 rfl ?_
  refine z_bipush (v := jI 43) K d_M_point_85 rfl ?_
  refine z_callV (ci := 0) (As := [.int (jI 45), .int (jI 31), .int (jI 31), .int (jI 43)]) K (v_M_more l G b0 h a 0 T3 (u := 0) (v := yu) (w := yu) (t := x2) hV3 (by decide) (by decide) (by decide) (by decide) f3_45 f3_31 f3_31 f3_43 (show lt9 0 1 from (by show ((0 : Int).natAbs : Int) < BS ^ 1; decide)) x31 x31 b2 (by decide) (by decide)) ca_M_102 im_M_more se_M_more rfl (by decide) hm_0 rfl rfl (by decide) (Nat.le_of_ble_eq_true rfl) d_M_point_87 (fun o h1 hp => ?_)
  obtain ⟨T4, rfl, rfl, hV4, hN4⟩ := hp
  obtain ⟨x4, e4⟩ : ∃ z : Int, z = 0 + yu * yu * x2 := ⟨_, rfl⟩
  rw [← e4] at hV4
  have b4 : lt9 x4 16 := by rw [e4]; have z := lt9_add (show lt9 0 1 from (by show ((0 : Int).natAbs : Int) < BS ^ 1; decide)) (lt9_mul (lt9_mul x31 x31) b2); exact z
  obtain ⟨V4, eV4⟩ : ∃ W : Int → Int, W = iu (iu (iu V3 47 (yu * yu)) 48 (yu * yu * x2)) 45 x4 := ⟨_, rfl⟩
  rw [← eV4] at hV4
  have f4_30 : V4 30 = xu := (by rw [eV4, iu_ne _ _ (by decide), iu_ne _ _ (by decide), iu_ne _ _ (by decide)] : V4 30 = V3 30).trans f3_30
  have f4_31 : V4 31 = yu := (by rw [eV4, iu_ne _ _ (by decide), iu_ne _ _ (by decide), iu_ne _ _ (by decide)] : V4 31 = V3 31).trans f3_31
  have f4_33 : V4 33 = xl := (by rw [eV4, iu_ne _ _ (by decide), iu_ne _ _ (by decide), iu_ne _ _ (by decide)] : V4 33 = V3 33).trans f3_33
  have f4_34 : V4 34 = yl := (by rw [eV4, iu_ne _ _ (by decide), iu_ne _ _ (by decide), iu_ne _ _ (by decide)] : V4 34 = V3 34).trans f3_34
  have f4_42 : V4 42 = x1 := (by rw [eV4, iu_ne _ _ (by decide), iu_ne _ _ (by decide), iu_ne _ _ (by decide)] : V4 42 = V3 42).trans f3_42
  have f4_43 : V4 43 = x2 := (by rw [eV4, iu_ne _ _ (by decide), iu_ne _ _ (by decide), iu_ne _ _ (by decide)] : V4 43 = V3 43).trans f3_43
  have f4_45 : V4 45 = x4 := by rw [eV4, iu_self]
  have g4 : ∀ q : Int, q < 30 → V4 q = V q := fun q hq => (by rw [eV4, iu_ne _ _ (ne30 hq (by decide)), iu_ne _ _ (ne30 hq (by decide)), iu_ne _ _ (ne30 hq (by decide))] : V4 q = V3 q).trans (g3 q hq)
  refine z_aload_n K d_M_point_90 rfl ?_
  refine z_bipush (v := jI 44) K d_M_point_91 rfl ?_
  refine z_bipush (v := jI 30) K d_M_point_93 rfl ?_
  refine z_bipush (v := jI 31) K d_M_point_95 rfl ?_
  refine z_callV (ci := 0) (As := [.int (jI 44), .int (jI 30), .int (jI 31)]) K (w_M_multiply l G b0 h a 0 T4 (v := xu) (w := yu) hV4 (by decide) (by decide) (by decide) (by decide) (by decide) f4_30 f4_31 x30 x31 (by decide)) ca_M_92 im_M_multiply se_M_multiply rfl (by decide) hm_0 rfl rfl (by decide) (Nat.le_of_ble_eq_true rfl) d_M_point_97 (fun o h1 hp => ?_)
  obtain ⟨T5, rfl, rfl, hV5, hN5⟩ := hp
  obtain ⟨x5, e5⟩ : ∃ z : Int, z = xu * yu := ⟨_, rfl⟩
  rw [← e5] at hV5
  have b5 : lt9 x5 6 := by rw [e5]; have z := lt9_mul x30 x31; exact z
  obtain ⟨V5, eV5⟩ : ∃ W : Int → Int, W = iu V4 44 x5 := ⟨_, rfl⟩
  rw [← eV5] at hV5
  have f5_30 : V5 30 = xu := (by rw [eV5, iu_ne _ _ (by decide)] : V5 30 = V4 30).trans f4_30
  have f5_31 : V5 31 = yu := (by rw [eV5, iu_ne _ _ (by decide)] : V5 31 = V4 31).trans f4_31
  have f5_33 : V5 33 = xl := (by rw [eV5, iu_ne _ _ (by decide)] : V5 33 = V4 33).trans f4_33
  have f5_34 : V5 34 = yl := (by rw [eV5, iu_ne _ _ (by decide)] : V5 34 = V4 34).trans f4_34
  have f5_42 : V5 42 = x1 := (by rw [eV5, iu_ne _ _ (by decide)] : V5 42 = V4 42).trans f4_42
  have f5_43 : V5 43 = x2 := (by rw [eV5, iu_ne _ _ (by decide)] : V5 43 = V4 43).trans f4_43
  have f5_45 : V5 45 = x4 := (by rw [eV5, iu_ne _ _ (by decide)] : V5 45 = V4 45).trans f4_45
  have f5_44 : V5 44 = x5 := by rw [eV5, iu_self]
  have g5 : ∀ q : Int, q < 30 → V5 q = V q := fun q hq => (by rw [eV5, iu_ne _ _ (ne30 hq (by decide))] : V5 q = V4 q).trans (g4 q hq)
  refine z_aload_n K d_M_point_100 rfl ?_
  refine z_bipush (v := jI 49) K d_M_point_101 rfl ?_
  refine z_bipush (v := jI 42) K d_M_point_103 rfl ?_
  refine z_bipush (v := jI 34) K d_M_point_105 rfl ?_
  refine z_callV (ci := 0) (As := [.int (jI 49), .int (jI 42), .int (jI 34)]) K (w_M_multiply l G b0 h a 0 T5 (v := x1) (w := yl) hV5 (by decide) (by decide) (by decide) (by decide) (by decide) f5_42 f5_34 b1 x34 (by decide)) ca_M_92 im_M_multiply se_M_multiply rfl (by decide) hm_0 rfl rfl (by decide) (Nat.le_of_ble_eq_true rfl) d_M_point_107 (fun o h1 hp => ?_)
  obtain ⟨T6, rfl, rfl, hV6, hN6⟩ := hp
  obtain ⟨x6, e6⟩ : ∃ z : Int, z = x1 * yl := ⟨_, rfl⟩
  rw [← e6] at hV6
  have b6 : lt9 x6 9 := by rw [e6]; have z := lt9_mul b1 x34; exact z
  obtain ⟨V6, eV6⟩ : ∃ W : Int → Int, W = iu V5 49 x6 := ⟨_, rfl⟩
  rw [← eV6] at hV6
  have f6_30 : V6 30 = xu := (by rw [eV6, iu_ne _ _ (by decide)] : V6 30 = V5 30).trans f5_30
  have f6_31 : V6 31 = yu := (by rw [eV6, iu_ne _ _ (by decide)] : V6 31 = V5 31).trans f5_31
  have f6_33 : V6 33 = xl := (by rw [eV6, iu_ne _ _ (by decide)] : V6 33 = V5 33).trans f5_33
  have f6_34 : V6 34 = yl := (by rw [eV6, iu_ne _ _ (by decide)] : V6 34 = V5 34).trans f5_34
  have f6_42 : V6 42 = x1 := (by rw [eV6, iu_ne _ _ (by decide)] : V6 42 = V5 42).trans f5_42
  have f6_43 : V6 43 = x2 := (by rw [eV6, iu_ne _ _ (by decide)] : V6 43 = V5 43).trans f5_43
  have f6_45 : V6 45 = x4 := (by rw [eV6, iu_ne _ _ (by decide)] : V6 45 = V5 45).trans f5_45
  have f6_44 : V6 44 = x5 := (by rw [eV6, iu_ne _ _ (by decide)] : V6 44 = V5 44).trans f5_44
  have f6_49 : V6 49 = x6 := by rw [eV6, iu_self]
  have g6 : ∀ q : Int, q < 30 → V6 q = V q := fun q hq => (by rw [eV6, iu_ne _ _ (ne30 hq (by decide))] : V6 q = V5 q).trans (g5 q hq)
  refine z_aload_n K d_M_point_110 rfl ?_
  refine z_bipush (v := jI 45) K d_M_point_111 rfl ?_
  refine z_bipush (v := jI 24) K d_M_point_113 rfl ?_
  refine z_bipush (v := jI 44) K d_M_point_115 rfl ?_
  refine z_bipush (v := jI 49) K d_M_point_117 rfl ?_
  refine z_callV (ci := 0) (As := [.int (jI 45), .int (jI 24), .int (jI 44), .int (jI 49)]) K (v_M_more l G b0 h a 0 T6 (u := x4) (v := A.1) (w := x5) (t := x6) hV6 (by decide) (by decide) (by decide) (by decide) f6_45 ((g6 24 (by decide)).trans hA.1) f6_44 f6_49 b4 cA.1 b5 b6 (by decide) (by decide)) ca_M_102 im_M_more se_M_more rfl (by decide) hm_0 rfl rfl (by decide) (Nat.le_of_ble_eq_true rfl) d_M_point_119 (fun o h1 hp => ?_)
  obtain ⟨T7, rfl, rfl, hV7, hN7⟩ := hp
  obtain ⟨x7, e7⟩ : ∃ z : Int, z = x4 + A.1 * x5 * x6 := ⟨_, rfl⟩
  rw [← e7] at hV7
  have b7 : lt9 x7 17 := by rw [e7]; have z := lt9_add b4 (lt9_mul (lt9_mul cA.1 b5) b6); exact z
  obtain ⟨V7, eV7⟩ : ∃ W : Int → Int, W = iu (iu (iu V6 47 (A.1 * x5)) 48 (A.1 * x5 * x6)) 45 x7 := ⟨_, rfl⟩
  rw [← eV7] at hV7
  have f7_30 : V7 30 = xu := (by rw [eV7, iu_ne _ _ (by decide), iu_ne _ _ (by decide), iu_ne _ _ (by decide)] : V7 30 = V6 30).trans f6_30
  have f7_31 : V7 31 = yu := (by rw [eV7, iu_ne _ _ (by decide), iu_ne _ _ (by decide), iu_ne _ _ (by decide)] : V7 31 = V6 31).trans f6_31
  have f7_33 : V7 33 = xl := (by rw [eV7, iu_ne _ _ (by decide), iu_ne _ _ (by decide), iu_ne _ _ (by decide)] : V7 33 = V6 33).trans f6_33
  have f7_34 : V7 34 = yl := (by rw [eV7, iu_ne _ _ (by decide), iu_ne _ _ (by decide), iu_ne _ _ (by decide)] : V7 34 = V6 34).trans f6_34
  have f7_42 : V7 42 = x1 := (by rw [eV7, iu_ne _ _ (by decide), iu_ne _ _ (by decide), iu_ne _ _ (by decide)] : V7 42 = V6 42).trans f6_42
  have f7_43 : V7 43 = x2 := (by rw [eV7, iu_ne _ _ (by decide), iu_ne _ _ (by decide), iu_ne _ _ (by decide)] : V7 43 = V6 43).trans f6_43
  have f7_44 : V7 44 = x5 := (by rw [eV7, iu_ne _ _ (by decide), iu_ne _ _ (by decide), iu_ne _ _ (by decide)] : V7 44 = V6 44).trans f6_44
  have f7_49 : V7 49 = x6 := (by rw [eV7, iu_ne _ _ (by decide), iu_ne _ _ (by decide), iu_ne _ _ (by decide)] : V7 49 = V6 49).trans f6_49
  have f7_45 : V7 45 = x7 := by rw [eV7, iu_self]
  have g7 : ∀ q : Int, q < 30 → V7 q = V q := fun q hq => (by rw [eV7, iu_ne _ _ (ne30 hq (by decide)), iu_ne _ _ (ne30 hq (by decide)), iu_ne _ _ (ne30 hq (by decide))] : V7 q = V6 q).trans (g6 q hq)
  refine z_aload_n K d_M_point_122 rfl ?_
  refine z_bipush (v := jI 44) K d_M_point_123 rfl ?_
  refine z_bipush (v := jI 31) K d_M_point_125 rfl ?_
  refine z_bipush (v := jI 34) K d_M_point_127 rfl ?_
  refine z_callV (ci := 0) (As := [.int (jI 44), .int (jI 31), .int (jI 34)]) K (w_M_multiply l G b0 h a 0 T7 (v := yu) (w := yl) hV7 (by decide) (by decide) (by decide) (by decide) (by decide) f7_31 f7_34 x31 x34 (by decide)) ca_M_92 im_M_multiply se_M_multiply rfl (by decide) hm_0 rfl rfl (by decide) (Nat.le_of_ble_eq_true rfl) d_M_point_129 (fun o h1 hp => ?_)
  obtain ⟨T8, rfl, rfl, hV8, hN8⟩ := hp
  obtain ⟨x8, e8⟩ : ∃ z : Int, z = yu * yl := ⟨_, rfl⟩
  rw [← e8] at hV8
  have b8 : lt9 x8 6 := by rw [e8]; have z := lt9_mul x31 x34; exact z
  obtain ⟨V8, eV8⟩ : ∃ W : Int → Int, W = iu V7 44 x8 := ⟨_, rfl⟩
  rw [← eV8] at hV8
  have f8_30 : V8 30 = xu := (by rw [eV8, iu_ne _ _ (by decide)] : V8 30 = V7 30).trans f7_30
  have f8_31 : V8 31 = yu := (by rw [eV8, iu_ne _ _ (by decide)] : V8 31 = V7 31).trans f7_31
  have f8_33 : V8 33 = xl := (by rw [eV8, iu_ne _ _ (by decide)] : V8 33 = V7 33).trans f7_33
  have f8_34 : V8 34 = yl := (by rw [eV8, iu_ne _ _ (by decide)] : V8 34 = V7 34).trans f7_34
  have f8_42 : V8 42 = x1 := (by rw [eV8, iu_ne _ _ (by decide)] : V8 42 = V7 42).trans f7_42
  have f8_43 : V8 43 = x2 := (by rw [eV8, iu_ne _ _ (by decide)] : V8 43 = V7 43).trans f7_43
  have f8_49 : V8 49 = x6 := (by rw [eV8, iu_ne _ _ (by decide)] : V8 49 = V7 49).trans f7_49
  have f8_45 : V8 45 = x7 := (by rw [eV8, iu_ne _ _ (by decide)] : V8 45 = V7 45).trans f7_45
  have f8_44 : V8 44 = x8 := by rw [eV8, iu_self]
  have g8 : ∀ q : Int, q < 30 → V8 q = V q := fun q hq => (by rw [eV8, iu_ne _ _ (ne30 hq (by decide))] : V8 q = V7 q).trans (g7 q hq)
  refine z_aload_n K d_M_point_132 rfl ?_
  refine z_bipush (v := jI 45) K d_M_point_133 rfl ?_
  refine z_bipush (v := jI 26) K d_M_point_135 rfl ?_
  refine z_bipush (v := jI 44) K d_M_point_137 rfl ?_
  refine z_bipush (v := jI 43) K d_M_point_139 rfl ?_
  refine z_callV (ci := 0) (As := [.int (jI 45), .int (jI 26), .int (jI 44), .int (jI 43)]) K (v_M_more l G b0 h a 0 T8 (u := x7) (v := A.2.2.1) (w := x8) (t := x2) hV8 (by decide) (by decide) (by decide) (by decide) f8_45 ((g8 26 (by decide)).trans hA.2.2.1) f8_44 f8_43 b7 cA.2.2.1 b8 b2 (by decide) (by decide)) ca_M_102 im_M_more se_M_more rfl (by decide) hm_0 rfl rfl (by decide) (Nat.le_of_ble_eq_true rfl) d_M_point_141 (fun o h1 hp => ?_)
  obtain ⟨T9, rfl, rfl, hV9, hN9⟩ := hp
  obtain ⟨x9, e9⟩ : ∃ z : Int, z = x7 + A.2.2.1 * x8 * x2 := ⟨_, rfl⟩
  rw [← e9] at hV9
  have b9 : lt9 x9 18 := by rw [e9]; have z := lt9_add b7 (lt9_mul (lt9_mul cA.2.2.1 b8) b2); exact z
  obtain ⟨V9, eV9⟩ : ∃ W : Int → Int, W = iu (iu (iu V8 47 (A.2.2.1 * x8)) 48 (A.2.2.1 * x8 * x2)) 45 x9 := ⟨_, rfl⟩
  rw [← eV9] at hV9
  have f9_30 : V9 30 = xu := (by rw [eV9, iu_ne _ _ (by decide), iu_ne _ _ (by decide), iu_ne _ _ (by decide)] : V9 30 = V8 30).trans f8_30
  have f9_31 : V9 31 = yu := (by rw [eV9, iu_ne _ _ (by decide), iu_ne _ _ (by decide), iu_ne _ _ (by decide)] : V9 31 = V8 31).trans f8_31
  have f9_33 : V9 33 = xl := (by rw [eV9, iu_ne _ _ (by decide), iu_ne _ _ (by decide), iu_ne _ _ (by decide)] : V9 33 = V8 33).trans f8_33
  have f9_34 : V9 34 = yl := (by rw [eV9, iu_ne _ _ (by decide), iu_ne _ _ (by decide), iu_ne _ _ (by decide)] : V9 34 = V8 34).trans f8_34
  have f9_42 : V9 42 = x1 := (by rw [eV9, iu_ne _ _ (by decide), iu_ne _ _ (by decide), iu_ne _ _ (by decide)] : V9 42 = V8 42).trans f8_42
  have f9_43 : V9 43 = x2 := (by rw [eV9, iu_ne _ _ (by decide), iu_ne _ _ (by decide), iu_ne _ _ (by decide)] : V9 43 = V8 43).trans f8_43
  have f9_49 : V9 49 = x6 := (by rw [eV9, iu_ne _ _ (by decide), iu_ne _ _ (by decide), iu_ne _ _ (by decide)] : V9 49 = V8 49).trans f8_49
  have f9_44 : V9 44 = x8 := (by rw [eV9, iu_ne _ _ (by decide), iu_ne _ _ (by decide), iu_ne _ _ (by decide)] : V9 44 = V8 44).trans f8_44
  have f9_45 : V9 45 = x9 := by rw [eV9, iu_self]
  have g9 : ∀ q : Int, q < 30 → V9 q = V q := fun q hq => (by rw [eV9, iu_ne _ _ (ne30 hq (by decide)), iu_ne _ _ (ne30 hq (by decide)), iu_ne _ _ (ne30 hq (by decide))] : V9 q = V8 q).trans (g8 q hq)
  refine z_aload_n K d_M_point_144 rfl ?_
  refine z_bipush (v := jI 46) K d_M_point_145 rfl ?_
  refine z_lconst (v := kI 0) K d_M_point_147 rfl ?_
  refine z_callV (ci := 0) (As := [.int (jI 46), .long (kI 0)]) K (v_M_set l G b0 h a 0 T9 (v := 0) hV9 (by decide) (by decide)) ca_M_26 im_M_set se_M_set rfl (by decide) hm_0 rfl rfl (by decide) (Nat.le_of_ble_eq_true rfl) d_M_point_148 (fun o h1 hp => ?_)
  obtain ⟨T10, rfl, rfl, hV10, hN10⟩ := hp
  obtain ⟨V10, eV10⟩ : ∃ W : Int → Int, W = iu V9 46 0 := ⟨_, rfl⟩
  rw [← eV10] at hV10
  have f10_30 : V10 30 = xu := (by rw [eV10, iu_ne _ _ (by decide)] : V10 30 = V9 30).trans f9_30
  have f10_31 : V10 31 = yu := (by rw [eV10, iu_ne _ _ (by decide)] : V10 31 = V9 31).trans f9_31
  have f10_33 : V10 33 = xl := (by rw [eV10, iu_ne _ _ (by decide)] : V10 33 = V9 33).trans f9_33
  have f10_34 : V10 34 = yl := (by rw [eV10, iu_ne _ _ (by decide)] : V10 34 = V9 34).trans f9_34
  have f10_42 : V10 42 = x1 := (by rw [eV10, iu_ne _ _ (by decide)] : V10 42 = V9 42).trans f9_42
  have f10_43 : V10 43 = x2 := (by rw [eV10, iu_ne _ _ (by decide)] : V10 43 = V9 43).trans f9_43
  have f10_49 : V10 49 = x6 := (by rw [eV10, iu_ne _ _ (by decide)] : V10 49 = V9 49).trans f9_49
  have f10_44 : V10 44 = x8 := (by rw [eV10, iu_ne _ _ (by decide)] : V10 44 = V9 44).trans f9_44
  have f10_45 : V10 45 = x9 := (by rw [eV10, iu_ne _ _ (by decide)] : V10 45 = V9 45).trans f9_45
  have f10_46 : V10 46 = 0 := by rw [eV10, iu_self]
  have g10 : ∀ q : Int, q < 30 → V10 q = V q := fun q hq => (by rw [eV10, iu_ne _ _ (ne30 hq (by decide))] : V10 q = V9 q).trans (g9 q hq)
  refine z_aload_n K d_M_point_151 rfl ?_
  refine z_bipush (v := jI 44) K d_M_point_152 rfl ?_
  refine z_bipush (v := jI 30) K d_M_point_154 rfl ?_
  refine z_bipush (v := jI 30) K d_M_point_156 rfl ?_
  refine z_callV (ci := 0) (As := [.int (jI 44), .int (jI 30), .int (jI 30)]) K (w_M_multiply l G b0 h a 0 T10 (v := xu) (w := xu) hV10 (by decide) (by decide) (by decide) (by decide) (by decide) f10_30 f10_30 x30 x30 (by decide)) ca_M_92 im_M_multiply se_M_multiply rfl (by decide) hm_0 rfl rfl (by decide) (Nat.le_of_ble_eq_true rfl) d_M_point_158 (fun o h1 hp => ?_)
  obtain ⟨T11, rfl, rfl, hV11, hN11⟩ := hp
  obtain ⟨x11, e11⟩ : ∃ z : Int, z = xu * xu := ⟨_, rfl⟩
  rw [← e11] at hV11
  have b11 : lt9 x11 6 := by rw [e11]; have z := lt9_mul x30 x30; exact z
  obtain ⟨V11, eV11⟩ : ∃ W : Int → Int, W = iu V10 44 x11 := ⟨_, rfl⟩
  rw [← eV11] at hV11
  have f11_30 : V11 30 = xu := (by rw [eV11, iu_ne _ _ (by decide)] : V11 30 = V10 30).trans f10_30
  have f11_31 : V11 31 = yu := (by rw [eV11, iu_ne _ _ (by decide)] : V11 31 = V10 31).trans f10_31
  have f11_33 : V11 33 = xl := (by rw [eV11, iu_ne _ _ (by decide)] : V11 33 = V10 33).trans f10_33
  have f11_34 : V11 34 = yl := (by rw [eV11, iu_ne _ _ (by decide)] : V11 34 = V10 34).trans f10_34
  have f11_42 : V11 42 = x1 := (by rw [eV11, iu_ne _ _ (by decide)] : V11 42 = V10 42).trans f10_42
  have f11_43 : V11 43 = x2 := (by rw [eV11, iu_ne _ _ (by decide)] : V11 43 = V10 43).trans f10_43
  have f11_49 : V11 49 = x6 := (by rw [eV11, iu_ne _ _ (by decide)] : V11 49 = V10 49).trans f10_49
  have f11_45 : V11 45 = x9 := (by rw [eV11, iu_ne _ _ (by decide)] : V11 45 = V10 45).trans f10_45
  have f11_46 : V11 46 = 0 := (by rw [eV11, iu_ne _ _ (by decide)] : V11 46 = V10 46).trans f10_46
  have f11_44 : V11 44 = x11 := by rw [eV11, iu_self]
  have g11 : ∀ q : Int, q < 30 → V11 q = V q := fun q hq => (by rw [eV11, iu_ne _ _ (ne30 hq (by decide))] : V11 q = V10 q).trans (g10 q hq)
  refine z_aload_n K d_M_point_161 rfl ?_
  refine z_bipush (v := jI 49) K d_M_point_162 rfl ?_
  refine z_lconst (v := kI 1) K d_M_point_164 rfl ?_
  refine z_callV (ci := 0) (As := [.int (jI 49), .long (kI 1)]) K (v_M_set l G b0 h a 0 T11 (v := 1) hV11 (by decide) (by decide)) ca_M_26 im_M_set se_M_set rfl (by decide) hm_0 rfl rfl (by decide) (Nat.le_of_ble_eq_true rfl) d_M_point_165 (fun o h1 hp => ?_)
  obtain ⟨T12, rfl, rfl, hV12, hN12⟩ := hp
  obtain ⟨V12, eV12⟩ : ∃ W : Int → Int, W = iu V11 49 1 := ⟨_, rfl⟩
  rw [← eV12] at hV12
  have f12_30 : V12 30 = xu := (by rw [eV12, iu_ne _ _ (by decide)] : V12 30 = V11 30).trans f11_30
  have f12_31 : V12 31 = yu := (by rw [eV12, iu_ne _ _ (by decide)] : V12 31 = V11 31).trans f11_31
  have f12_33 : V12 33 = xl := (by rw [eV12, iu_ne _ _ (by decide)] : V12 33 = V11 33).trans f11_33
  have f12_34 : V12 34 = yl := (by rw [eV12, iu_ne _ _ (by decide)] : V12 34 = V11 34).trans f11_34
  have f12_42 : V12 42 = x1 := (by rw [eV12, iu_ne _ _ (by decide)] : V12 42 = V11 42).trans f11_42
  have f12_43 : V12 43 = x2 := (by rw [eV12, iu_ne _ _ (by decide)] : V12 43 = V11 43).trans f11_43
  have f12_45 : V12 45 = x9 := (by rw [eV12, iu_ne _ _ (by decide)] : V12 45 = V11 45).trans f11_45
  have f12_46 : V12 46 = 0 := (by rw [eV12, iu_ne _ _ (by decide)] : V12 46 = V11 46).trans f11_46
  have f12_44 : V12 44 = x11 := (by rw [eV12, iu_ne _ _ (by decide)] : V12 44 = V11 44).trans f11_44
  have f12_49 : V12 49 = 1 := by rw [eV12, iu_self]
  have g12 : ∀ q : Int, q < 30 → V12 q = V q := fun q hq => (by rw [eV12, iu_ne _ _ (ne30 hq (by decide))] : V12 q = V11 q).trans (g11 q hq)
  refine z_aload_n K d_M_point_168 rfl ?_
  refine z_bipush (v := jI 46) K d_M_point_169 rfl ?_
  refine z_bipush (v := jI 30) K d_M_point_171 rfl ?_
  refine z_bipush (v := jI 44) K d_M_point_173 rfl ?_
  refine z_bipush (v := jI 49) K d_M_point_175 rfl ?_
  refine z_callV (ci := 0) (As := [.int (jI 46), .int (jI 30), .int (jI 44), .int (jI 49)]) K (v_M_more l G b0 h a 0 T12 (u := 0) (v := xu) (w := x11) (t := 1) hV12 (by decide) (by decide) (by decide) (by decide) f12_46 f12_30 f12_44 f12_49 (show lt9 0 1 from (by show ((0 : Int).natAbs : Int) < BS ^ 1; decide)) x30 b11 (show lt9 1 1 from (by show ((1 : Int).natAbs : Int) < BS ^ 1; decide)) (by decide) (by decide)) ca_M_102 im_M_more se_M_more rfl (by decide) hm_0 rfl rfl (by decide) (Nat.le_of_ble_eq_true rfl) d_M_point_177 (fun o h1 hp => ?_)
  obtain ⟨T13, rfl, rfl, hV13, hN13⟩ := hp
  obtain ⟨x13, e13⟩ : ∃ z : Int, z = 0 + xu * x11 * 1 := ⟨_, rfl⟩
  rw [← e13] at hV13
  have b13 : lt9 x13 11 := by rw [e13]; have z := lt9_add (show lt9 0 1 from (by show ((0 : Int).natAbs : Int) < BS ^ 1; decide)) (lt9_mul (lt9_mul x30 b11) (show lt9 1 1 from (by show ((1 : Int).natAbs : Int) < BS ^ 1; decide))); exact z
  obtain ⟨V13, eV13⟩ : ∃ W : Int → Int, W = iu (iu (iu V12 47 (xu * x11)) 48 (xu * x11 * 1)) 46 x13 := ⟨_, rfl⟩
  rw [← eV13] at hV13
  have f13_30 : V13 30 = xu := (by rw [eV13, iu_ne _ _ (by decide), iu_ne _ _ (by decide), iu_ne _ _ (by decide)] : V13 30 = V12 30).trans f12_30
  have f13_31 : V13 31 = yu := (by rw [eV13, iu_ne _ _ (by decide), iu_ne _ _ (by decide), iu_ne _ _ (by decide)] : V13 31 = V12 31).trans f12_31
  have f13_33 : V13 33 = xl := (by rw [eV13, iu_ne _ _ (by decide), iu_ne _ _ (by decide), iu_ne _ _ (by decide)] : V13 33 = V12 33).trans f12_33
  have f13_34 : V13 34 = yl := (by rw [eV13, iu_ne _ _ (by decide), iu_ne _ _ (by decide), iu_ne _ _ (by decide)] : V13 34 = V12 34).trans f12_34
  have f13_42 : V13 42 = x1 := (by rw [eV13, iu_ne _ _ (by decide), iu_ne _ _ (by decide), iu_ne _ _ (by decide)] : V13 42 = V12 42).trans f12_42
  have f13_43 : V13 43 = x2 := (by rw [eV13, iu_ne _ _ (by decide), iu_ne _ _ (by decide), iu_ne _ _ (by decide)] : V13 43 = V12 43).trans f12_43
  have f13_45 : V13 45 = x9 := (by rw [eV13, iu_ne _ _ (by decide), iu_ne _ _ (by decide), iu_ne _ _ (by decide)] : V13 45 = V12 45).trans f12_45
  have f13_44 : V13 44 = x11 := (by rw [eV13, iu_ne _ _ (by decide), iu_ne _ _ (by decide), iu_ne _ _ (by decide)] : V13 44 = V12 44).trans f12_44
  have f13_49 : V13 49 = 1 := (by rw [eV13, iu_ne _ _ (by decide), iu_ne _ _ (by decide), iu_ne _ _ (by decide)] : V13 49 = V12 49).trans f12_49
  have f13_46 : V13 46 = x13 := by rw [eV13, iu_self]
  have g13 : ∀ q : Int, q < 30 → V13 q = V q := fun q hq => (by rw [eV13, iu_ne _ _ (ne30 hq (by decide)), iu_ne _ _ (ne30 hq (by decide)), iu_ne _ _ (ne30 hq (by decide))] : V13 q = V12 q).trans (g12 q hq)
  refine z_aload_n K d_M_point_180 rfl ?_
  refine z_bipush (v := jI 46) K d_M_point_181 rfl ?_
  refine z_bipush (v := jI 25) K d_M_point_183 rfl ?_
  refine z_bipush (v := jI 44) K d_M_point_185 rfl ?_
  refine z_bipush (v := jI 33) K d_M_point_187 rfl ?_
  refine z_callV (ci := 0) (As := [.int (jI 46), .int (jI 25), .int (jI 44), .int (jI 33)]) K (v_M_more l G b0 h a 0 T13 (u := x13) (v := A.2.1) (w := x11) (t := xl) hV13 (by decide) (by decide) (by decide) (by decide) f13_46 ((g13 25 (by decide)).trans hA.2.1) f13_44 f13_33 b13 cA.2.1 b11 x33 (by decide) (by decide)) ca_M_102 im_M_more se_M_more rfl (by decide) hm_0 rfl rfl (by decide) (Nat.le_of_ble_eq_true rfl) d_M_point_189 (fun o h1 hp => ?_)
  obtain ⟨T14, rfl, rfl, hV14, hN14⟩ := hp
  obtain ⟨x14, e14⟩ : ∃ z : Int, z = x13 + A.2.1 * x11 * xl := ⟨_, rfl⟩
  rw [← e14] at hV14
  have b14 : lt9 x14 12 := by rw [e14]; have z := lt9_add b13 (lt9_mul (lt9_mul cA.2.1 b11) x33); exact z
  obtain ⟨V14, eV14⟩ : ∃ W : Int → Int, W = iu (iu (iu V13 47 (A.2.1 * x11)) 48 (A.2.1 * x11 * xl)) 46 x14 := ⟨_, rfl⟩
  rw [← eV14] at hV14
  have f14_30 : V14 30 = xu := (by rw [eV14, iu_ne _ _ (by decide), iu_ne _ _ (by decide), iu_ne _ _ (by decide)] : V14 30 = V13 30).trans f13_30
  have f14_31 : V14 31 = yu := (by rw [eV14, iu_ne _ _ (by decide), iu_ne _ _ (by decide), iu_ne _ _ (by decide)] : V14 31 = V13 31).trans f13_31
  have f14_33 : V14 33 = xl := (by rw [eV14, iu_ne _ _ (by decide), iu_ne _ _ (by decide), iu_ne _ _ (by decide)] : V14 33 = V13 33).trans f13_33
  have f14_34 : V14 34 = yl := (by rw [eV14, iu_ne _ _ (by decide), iu_ne _ _ (by decide), iu_ne _ _ (by decide)] : V14 34 = V13 34).trans f13_34
  have f14_42 : V14 42 = x1 := (by rw [eV14, iu_ne _ _ (by decide), iu_ne _ _ (by decide), iu_ne _ _ (by decide)] : V14 42 = V13 42).trans f13_42
  have f14_43 : V14 43 = x2 := (by rw [eV14, iu_ne _ _ (by decide), iu_ne _ _ (by decide), iu_ne _ _ (by decide)] : V14 43 = V13 43).trans f13_43
  have f14_45 : V14 45 = x9 := (by rw [eV14, iu_ne _ _ (by decide), iu_ne _ _ (by decide), iu_ne _ _ (by decide)] : V14 45 = V13 45).trans f13_45
  have f14_44 : V14 44 = x11 := (by rw [eV14, iu_ne _ _ (by decide), iu_ne _ _ (by decide), iu_ne _ _ (by decide)] : V14 44 = V13 44).trans f13_44
  have f14_49 : V14 49 = 1 := (by rw [eV14, iu_ne _ _ (by decide), iu_ne _ _ (by decide), iu_ne _ _ (by decide)] : V14 49 = V13 49).trans f13_49
  have f14_46 : V14 46 = x14 := by rw [eV14, iu_self]
  have g14 : ∀ q : Int, q < 30 → V14 q = V q := fun q hq => (by rw [eV14, iu_ne _ _ (ne30 hq (by decide)), iu_ne _ _ (ne30 hq (by decide)), iu_ne _ _ (ne30 hq (by decide))] : V14 q = V13 q).trans (g13 q hq)
  refine z_aload_n K d_M_point_192 rfl ?_
  refine z_bipush (v := jI 46) K d_M_point_193 rfl ?_
  refine z_bipush (v := jI 27) K d_M_point_195 rfl ?_
  refine z_bipush (v := jI 30) K d_M_point_197 rfl ?_
  refine z_bipush (v := jI 42) K d_M_point_199 rfl ?_
  refine z_callV (ci := 0) (As := [.int (jI 46), .int (jI 27), .int (jI 30), .int (jI 42)]) K (v_M_more l G b0 h a 0 T14 (u := x14) (v := A.2.2.2.1) (w := xu) (t := x1) hV14 (by decide) (by decide) (by decide) (by decide) f14_46 ((g14 27 (by decide)).trans hA.2.2.2.1) f14_30 f14_42 b14 cA.2.2.2.1 x30 b1 (by decide) (by decide)) ca_M_102 im_M_more se_M_more rfl (by decide) hm_0 rfl rfl (by decide) (Nat.le_of_ble_eq_true rfl) d_M_point_201 (fun o h1 hp => ?_)
  obtain ⟨T15, rfl, rfl, hV15, hN15⟩ := hp
  obtain ⟨x15, e15⟩ : ∃ z : Int, z = x14 + A.2.2.2.1 * xu * x1 := ⟨_, rfl⟩
  rw [← e15] at hV15
  have b15 : lt9 x15 13 := by rw [e15]; have z := lt9_add b14 (lt9_mul (lt9_mul cA.2.2.2.1 x30) b1); exact z
  obtain ⟨V15, eV15⟩ : ∃ W : Int → Int, W = iu (iu (iu V14 47 (A.2.2.2.1 * xu)) 48 (A.2.2.2.1 * xu * x1)) 46 x15 := ⟨_, rfl⟩
  rw [← eV15] at hV15
  have f15_30 : V15 30 = xu := (by rw [eV15, iu_ne _ _ (by decide), iu_ne _ _ (by decide), iu_ne _ _ (by decide)] : V15 30 = V14 30).trans f14_30
  have f15_31 : V15 31 = yu := (by rw [eV15, iu_ne _ _ (by decide), iu_ne _ _ (by decide), iu_ne _ _ (by decide)] : V15 31 = V14 31).trans f14_31
  have f15_33 : V15 33 = xl := (by rw [eV15, iu_ne _ _ (by decide), iu_ne _ _ (by decide), iu_ne _ _ (by decide)] : V15 33 = V14 33).trans f14_33
  have f15_34 : V15 34 = yl := (by rw [eV15, iu_ne _ _ (by decide), iu_ne _ _ (by decide), iu_ne _ _ (by decide)] : V15 34 = V14 34).trans f14_34
  have f15_42 : V15 42 = x1 := (by rw [eV15, iu_ne _ _ (by decide), iu_ne _ _ (by decide), iu_ne _ _ (by decide)] : V15 42 = V14 42).trans f14_42
  have f15_43 : V15 43 = x2 := (by rw [eV15, iu_ne _ _ (by decide), iu_ne _ _ (by decide), iu_ne _ _ (by decide)] : V15 43 = V14 43).trans f14_43
  have f15_45 : V15 45 = x9 := (by rw [eV15, iu_ne _ _ (by decide), iu_ne _ _ (by decide), iu_ne _ _ (by decide)] : V15 45 = V14 45).trans f14_45
  have f15_44 : V15 44 = x11 := (by rw [eV15, iu_ne _ _ (by decide), iu_ne _ _ (by decide), iu_ne _ _ (by decide)] : V15 44 = V14 44).trans f14_44
  have f15_49 : V15 49 = 1 := (by rw [eV15, iu_ne _ _ (by decide), iu_ne _ _ (by decide), iu_ne _ _ (by decide)] : V15 49 = V14 49).trans f14_49
  have f15_46 : V15 46 = x15 := by rw [eV15, iu_self]
  have g15 : ∀ q : Int, q < 30 → V15 q = V q := fun q hq => (by rw [eV15, iu_ne _ _ (ne30 hq (by decide)), iu_ne _ _ (ne30 hq (by decide)), iu_ne _ _ (ne30 hq (by decide))] : V15 q = V14 q).trans (g14 q hq)
  refine z_aload_n K d_M_point_204 rfl ?_
  refine z_bipush (v := jI 46) K d_M_point_205 rfl ?_
  refine z_bipush (v := jI 28) K d_M_point_207 rfl ?_
  refine z_bipush (v := jI 43) K d_M_point_209 rfl ?_
  refine z_bipush (v := jI 49) K d_M_point_211 rfl ?_
  refine z_callV (ci := 0) (As := [.int (jI 46), .int (jI 28), .int (jI 43), .int (jI 49)]) K (v_M_more l G b0 h a 0 T15 (u := x15) (v := A.2.2.2.2) (w := x2) (t := 1) hV15 (by decide) (by decide) (by decide) (by decide) f15_46 ((g15 28 (by decide)).trans hA.2.2.2.2) f15_43 f15_49 b15 cA.2.2.2.2 b2 (show lt9 1 1 from (by show ((1 : Int).natAbs : Int) < BS ^ 1; decide)) (by decide) (by decide)) ca_M_102 im_M_more se_M_more rfl (by decide) hm_0 rfl rfl (by decide) (Nat.le_of_ble_eq_true rfl) d_M_point_213 (fun o h1 hp => ?_)
  obtain ⟨T16, rfl, rfl, hV16, hN16⟩ := hp
  obtain ⟨x16, e16⟩ : ∃ z : Int, z = x15 + A.2.2.2.2 * x2 * 1 := ⟨_, rfl⟩
  rw [← e16] at hV16
  have b16 : lt9 x16 14 := by rw [e16]; have z := lt9_add b15 (lt9_mul (lt9_mul cA.2.2.2.2 b2) (show lt9 1 1 from (by show ((1 : Int).natAbs : Int) < BS ^ 1; decide))); exact z
  obtain ⟨V16, eV16⟩ : ∃ W : Int → Int, W = iu (iu (iu V15 47 (A.2.2.2.2 * x2)) 48 (A.2.2.2.2 * x2 * 1)) 46 x16 := ⟨_, rfl⟩
  rw [← eV16] at hV16
  have f16_30 : V16 30 = xu := (by rw [eV16, iu_ne _ _ (by decide), iu_ne _ _ (by decide), iu_ne _ _ (by decide)] : V16 30 = V15 30).trans f15_30
  have f16_31 : V16 31 = yu := (by rw [eV16, iu_ne _ _ (by decide), iu_ne _ _ (by decide), iu_ne _ _ (by decide)] : V16 31 = V15 31).trans f15_31
  have f16_33 : V16 33 = xl := (by rw [eV16, iu_ne _ _ (by decide), iu_ne _ _ (by decide), iu_ne _ _ (by decide)] : V16 33 = V15 33).trans f15_33
  have f16_34 : V16 34 = yl := (by rw [eV16, iu_ne _ _ (by decide), iu_ne _ _ (by decide), iu_ne _ _ (by decide)] : V16 34 = V15 34).trans f15_34
  have f16_42 : V16 42 = x1 := (by rw [eV16, iu_ne _ _ (by decide), iu_ne _ _ (by decide), iu_ne _ _ (by decide)] : V16 42 = V15 42).trans f15_42
  have f16_43 : V16 43 = x2 := (by rw [eV16, iu_ne _ _ (by decide), iu_ne _ _ (by decide), iu_ne _ _ (by decide)] : V16 43 = V15 43).trans f15_43
  have f16_45 : V16 45 = x9 := (by rw [eV16, iu_ne _ _ (by decide), iu_ne _ _ (by decide), iu_ne _ _ (by decide)] : V16 45 = V15 45).trans f15_45
  have f16_44 : V16 44 = x11 := (by rw [eV16, iu_ne _ _ (by decide), iu_ne _ _ (by decide), iu_ne _ _ (by decide)] : V16 44 = V15 44).trans f15_44
  have f16_49 : V16 49 = 1 := (by rw [eV16, iu_ne _ _ (by decide), iu_ne _ _ (by decide), iu_ne _ _ (by decide)] : V16 49 = V15 49).trans f15_49
  have f16_46 : V16 46 = x16 := by rw [eV16, iu_self]
  have g16 : ∀ q : Int, q < 30 → V16 q = V q := fun q hq => (by rw [eV16, iu_ne _ _ (ne30 hq (by decide)), iu_ne _ _ (ne30 hq (by decide)), iu_ne _ _ (ne30 hq (by decide))] : V16 q = V15 q).trans (g15 q hq)
  refine z_aload_n K d_M_point_216 rfl ?_
  refine z_bipush (v := jI 44) K d_M_point_217 rfl ?_
  refine z_bipush (v := jI 34) K d_M_point_219 rfl ?_
  refine z_bipush (v := jI 34) K d_M_point_221 rfl ?_
  refine z_callV (ci := 0) (As := [.int (jI 44), .int (jI 34), .int (jI 34)]) K (w_M_multiply l G b0 h a 0 T16 (v := yl) (w := yl) hV16 (by decide) (by decide) (by decide) (by decide) (by decide) f16_34 f16_34 x34 x34 (by decide)) ca_M_92 im_M_multiply se_M_multiply rfl (by decide) hm_0 rfl rfl (by decide) (Nat.le_of_ble_eq_true rfl) d_M_point_223 (fun o h1 hp => ?_)
  obtain ⟨T17, rfl, rfl, hV17, hN17⟩ := hp
  obtain ⟨x17, e17⟩ : ∃ z : Int, z = yl * yl := ⟨_, rfl⟩
  rw [← e17] at hV17
  have b17 : lt9 x17 6 := by rw [e17]; have z := lt9_mul x34 x34; exact z
  obtain ⟨V17, eV17⟩ : ∃ W : Int → Int, W = iu V16 44 x17 := ⟨_, rfl⟩
  rw [← eV17] at hV17
  have f17_30 : V17 30 = xu := (by rw [eV17, iu_ne _ _ (by decide)] : V17 30 = V16 30).trans f16_30
  have f17_31 : V17 31 = yu := (by rw [eV17, iu_ne _ _ (by decide)] : V17 31 = V16 31).trans f16_31
  have f17_33 : V17 33 = xl := (by rw [eV17, iu_ne _ _ (by decide)] : V17 33 = V16 33).trans f16_33
  have f17_34 : V17 34 = yl := (by rw [eV17, iu_ne _ _ (by decide)] : V17 34 = V16 34).trans f16_34
  have f17_42 : V17 42 = x1 := (by rw [eV17, iu_ne _ _ (by decide)] : V17 42 = V16 42).trans f16_42
  have f17_43 : V17 43 = x2 := (by rw [eV17, iu_ne _ _ (by decide)] : V17 43 = V16 43).trans f16_43
  have f17_45 : V17 45 = x9 := (by rw [eV17, iu_ne _ _ (by decide)] : V17 45 = V16 45).trans f16_45
  have f17_49 : V17 49 = 1 := (by rw [eV17, iu_ne _ _ (by decide)] : V17 49 = V16 49).trans f16_49
  have f17_46 : V17 46 = x16 := (by rw [eV17, iu_ne _ _ (by decide)] : V17 46 = V16 46).trans f16_46
  have f17_44 : V17 44 = x17 := by rw [eV17, iu_self]
  have g17 : ∀ q : Int, q < 30 → V17 q = V q := fun q hq => (by rw [eV17, iu_ne _ _ (ne30 hq (by decide))] : V17 q = V16 q).trans (g16 q hq)
  refine z_aload_n K d_M_point_226 rfl ?_
  refine z_bipush (v := jI 49) K d_M_point_227 rfl ?_
  refine z_bipush (v := jI 44) K d_M_point_229 rfl ?_
  refine z_bipush (v := jI 46) K d_M_point_231 rfl ?_
  refine z_callV (ci := 0) (As := [.int (jI 49), .int (jI 44), .int (jI 46)]) K (w_M_multiply l G b0 h a 0 T17 (v := x17) (w := x16) hV17 (by decide) (by decide) (by decide) (by decide) (by decide) f17_44 f17_46 b17 b16 (by decide)) ca_M_92 im_M_multiply se_M_multiply rfl (by decide) hm_0 rfl rfl (by decide) (Nat.le_of_ble_eq_true rfl) d_M_point_233 (fun o h1 hp => ?_)
  obtain ⟨T18, rfl, rfl, hV18, hN18⟩ := hp
  obtain ⟨x18, e18⟩ : ∃ z : Int, z = x17 * x16 := ⟨_, rfl⟩
  rw [← e18] at hV18
  have b18 : lt9 x18 20 := by rw [e18]; have z := lt9_mul b17 b16; exact z
  obtain ⟨V18, eV18⟩ : ∃ W : Int → Int, W = iu V17 49 x18 := ⟨_, rfl⟩
  rw [← eV18] at hV18
  have f18_30 : V18 30 = xu := (by rw [eV18, iu_ne _ _ (by decide)] : V18 30 = V17 30).trans f17_30
  have f18_31 : V18 31 = yu := (by rw [eV18, iu_ne _ _ (by decide)] : V18 31 = V17 31).trans f17_31
  have f18_33 : V18 33 = xl := (by rw [eV18, iu_ne _ _ (by decide)] : V18 33 = V17 33).trans f17_33
  have f18_34 : V18 34 = yl := (by rw [eV18, iu_ne _ _ (by decide)] : V18 34 = V17 34).trans f17_34
  have f18_42 : V18 42 = x1 := (by rw [eV18, iu_ne _ _ (by decide)] : V18 42 = V17 42).trans f17_42
  have f18_43 : V18 43 = x2 := (by rw [eV18, iu_ne _ _ (by decide)] : V18 43 = V17 43).trans f17_43
  have f18_45 : V18 45 = x9 := (by rw [eV18, iu_ne _ _ (by decide)] : V18 45 = V17 45).trans f17_45
  have f18_46 : V18 46 = x16 := (by rw [eV18, iu_ne _ _ (by decide)] : V18 46 = V17 46).trans f17_46
  have f18_44 : V18 44 = x17 := (by rw [eV18, iu_ne _ _ (by decide)] : V18 44 = V17 44).trans f17_44
  have f18_49 : V18 49 = x18 := by rw [eV18, iu_self]
  have g18 : ∀ q : Int, q < 30 → V18 q = V q := fun q hq => (by rw [eV18, iu_ne _ _ (ne30 hq (by decide))] : V18 q = V17 q).trans (g17 q hq)
  have s49 : x18 = pRight A xu xl yu yl := by
    simp only [e18, e17, e16, e15, e14, e13, e11, e1, e2, pRight, Int.zero_add, Int.mul_one]
  have s45 : x9 = pLeft A xu xl yu yl := by
    simp only [e9, e7, e4, e2, e1, e5, e6, e8, pLeft, Int.zero_add, Int.mul_one]
  have hNN : T18.2.2.2 = T.2.2.2 := (hN18.trans (hN17.trans (hN16.trans (hN15.trans (hN14.trans (hN13.trans (hN12.trans (hN11.trans (hN10.trans (hN9.trans (hN8.trans (hN7.trans (hN6.trans (hN5.trans (hN4.trans (hN3.trans (hN2.trans (hN1.trans hNb)))))))))))))))))).trans hNa
  refine z_aload_n K d_M_point_236 rfl ?_
  refine z_bipush (v := jI 49) K d_M_point_237 rfl ?_
  refine z_bipush (v := jI 45) K d_M_point_239 rfl ?_
  refine z_callV (ci := 0) (As := [.int (jI 49), .int (jI 45)]) K (v_M_isSame l G b0 h a 0 T18 hV18 (by decide) (by decide)) ca_M_105 im_M_isSame se_M_isSame rfl (by decide) hm_0 rfl rfl (by decide) (Nat.le_of_ble_eq_true rfl) d_M_point_241 (fun o h1 hp1 => ?_)
  obtain ⟨T9, rfl, rfl, rfl⟩ := hp1
  rw [f18_49, f18_45, s49, s45]
  by_cases hon : pRight A xu xl yu yl = pLeft A xu xl yu yl
  rotate_left
  · rw [if_neg hon]
    refine zi_if_ne (tgt := 249) K d_M_point_244 (by decide) (by decide) (fun q => absurd rfl q) (fun _ => ?_)
    refine z_iconst (v := jI 0) K d_M_point_247 rfl ?_
    exact z_iret K hr hlk d_M_point_248 ⟨_, rfl, Or.inl ⟨cond, Or.inr ⟨hon, rfl, RS.keep hp hA hN hV18 (fun q hq => g18 q hq) (fun q _ _ => by rw [hNN]) (fun q h0 h1 => by rw [hNN]; exact hN q h0 h1)⟩⟩⟩
  rw [if_pos hon]
  refine zi_if_ne (tgt := 249) K d_M_point_244 (by decide) (by decide) (fun _ => ?_) (fun q => absurd q (by decide))
  refine z_aload_n K d_M_point_249 rfl ?_
  refine zm_get K fd_M_19 rfl d_M_point_250 ?_
  refine z_bipush (v := jI 30) K d_M_point_253 rfl ?_
  refine z_iconst (v := jI 0) K d_M_point_255 rfl ?_
  refine zm_nst K (by decide) (Or.inl rfl) d_M_point_256 ?_
  refine z_aload_n K d_M_point_257 rfl ?_
  refine z_bipush (v := jI 32) K d_M_point_258 rfl ?_
  refine z_bipush (v := jI 34) K d_M_point_260 rfl ?_
  refine z_bipush (v := jI 33) K d_M_point_262 rfl ?_
  have hVz : RV (T18.1, T18.2.1, T18.2.2.1, iu T18.2.2.2 30 0) V18 := fun r h0 h1 => hV18 r h0 h1
  refine z_callV (ci := 0) (As := [.int (jI 32), .int (jI 34), .int (jI 33)]) K (w_M_share l G b0 h a 0 _ (v := yl) (w := xl) hVz (by decide) (by decide) (by decide) f18_34 f18_33 n33 x34 (by decide)) ca_M_109 im_M_share se_M_share rfl (by decide) hm_0 rfl rfl (by decide) (Nat.le_of_ble_eq_true rfl) d_M_point_264 (fun o h1 hp1 => ?_)
  obtain ⟨Tc, rfl, rfl, ⟨gc1, gc2, hVc⟩, hNc⟩ := hp1
  dsimp only at hNc
  rw [hNN] at hNc
  have hP : PtAt (iu (iu (iu V18 53 gc1) 54 gc2) 32 (yl.tdiv xl)) Tc.2.2.2 30 (some (xu, yu, yl.tdiv xl)) := by
    refine ⟨by rw [hNc, iu_self], ?_, ?_, ?_⟩
    · rw [iu_ne _ _ (by decide), iu_ne _ _ (by decide), iu_ne _ _ (by decide)]; exact f18_30
    · show iu _ _ _ 31 = _
      rw [iu_ne _ _ (by decide), iu_ne _ _ (by decide), iu_ne _ _ (by decide)]; exact f18_31
    · exact iu_self _ _ _
  have gc : ∀ q : Int, q < 30 → iu (iu (iu V18 53 gc1) 54 gc2) 32 (yl.tdiv xl) q = V q := fun q hq => by
    rw [iu_ne _ _ (ne30 hq (by decide)), iu_ne _ _ (ne30 hq (by decide)), iu_ne _ _ (ne30 hq (by decide))]; exact g18 q hq
  generalize iu (iu (iu V18 53 gc1) 54 gc2) 32 (yl.tdiv xl) = Vc at hVc hP gc
  refine z_aload_n K d_M_point_267 rfl ?_
  refine z_bipush (v := jI 30) K d_M_point_268 rfl ?_
  refine z_iconst (v := jI 3) K d_M_point_270 rfl ?_
  refine z_iload_n K d_M_point_271 rfl ?_
  refine zi_imul K d_M_point_272 ?_
  refine z_callV (ci := 0) (As := [.int (jI 30), .int (jI (3 * s0))]) K (v_M_move l G b0 h a 0 Tc (f := 30) (t := 3 * s0) hVc (by decide) (by omega) (by omega) hP.bit) ca_M_112 im_M_move se_M_move rfl (by decide) hm_0 rfl rfl (by decide) (Nat.le_of_ble_eq_true rfl) d_M_point_273 (fun o h1 hp1 => ?_)
  obtain ⟨Td, rfl, rfl, ⟨Vd, hVd, kd1, kd2⟩, hNd⟩ := hp1
  refine z_iconst (v := jI 1) K d_M_point_276 rfl ?_
  have hP2 : PtAt Vd Td.2.2.2 (3 * s0) (some (xu, yu, yl.tdiv xl)) := hP.mv kd1 (by rw [hNd, iu_self])
  refine z_iret K hr hlk d_M_point_277 ⟨_, rfl, Or.inl ⟨cond, Or.inl ⟨hon, rfl, Vd, hVd, fun i h0 h1 => ?_, ?_, fun q h0 h1 => ?_⟩⟩⟩
  · dsimp only
    by_cases hi : i = s0
    · subst hi; rw [if_pos rfl]; exact hP2
    · rw [if_neg hi]
      exact (hp i h0 h1).keep ((kd2 _ (by omega)).trans (gc _ (by omega))) ((kd2 _ (by omega)).trans (gc _ (by omega))) ((kd2 _ (by omega)).trans (gc _ (by omega))) (by rw [hNd, iu_ne _ _ (by omega), hNc, iu_ne _ _ (by omega)])
  · exact ⟨((kd2 24 (by omega)).trans (gc 24 (by decide))).trans hA.1, ((kd2 25 (by omega)).trans (gc 25 (by decide))).trans hA.2.1, ((kd2 26 (by omega)).trans (gc 26 (by decide))).trans hA.2.2.1, ((kd2 27 (by omega)).trans (gc 27 (by decide))).trans hA.2.2.2.1, ((kd2 28 (by omega)).trans (gc 28 (by decide))).trans hA.2.2.2.2⟩
  · rw [hNd]
    by_cases hq : q = 3 * s0
    · rw [hq, iu_self]; exact hP.bit
    · rw [iu_ne _ _ hq, hNc]
      by_cases hq2 : q = 30
      · rw [hq2, iu_self]; exact Or.inl rfl
      · rw [iu_ne _ _ hq2]; exact hN q h0 h1
end M30
