section M22
variable {p : Program} {l : Launch} {e : Env} {R : Room} {s : State} {m : MethodId} {args : Array Value} {below : List Frame} {meth : Method} {c : Code} {Q : State → Prop} {b0 kc ks : Nat} {G : zG} {h : zH} {a : Nat} {cd : Int}
set_option maxHeartbeats 4000000 in
set_option maxRecDepth 100000 in
/-- turn(r): the point at r becomes its opposite -/
theorem v_M_turn (l : Launch) (G : zG) (b0 : Nat) (h : zH) (a : Nat) (cd : Int) (T : mT) {V : Int → Int} {r A1 A2 A3 A4 A6 : Int} (P : Option (Int × Int × Int)) (hV : RV T V) (hr0 : 30 ≤ r ∧ r < 42) (cA1 : V 24 = A1) (cA3 : V 26 = A3) (bA1 : lt9 A1 1) (bA3 : lt9 A3 1) (hP : PtAt V T.2.2.2 r P) (cP : capJ P) :
    mMet l G b0 y_M_turn b_M_turn 2 none 4 102 h a cd [.int (jI r)] T (fun o T' => o = none ∧ (∃ V' : Int → Int, RV T' V' ∧ (∀ q : Int, q < 45 → q ≠ r + 1 → V' q = V q) ∧ PtAt V' T'.2.2.2 r (ngP A1 A3 P)) ∧ T'.2.2.2 = T.2.2.2) :=
  z_met (by decide) (Nat.le_of_ble_eq_true rfl) fun p e s m below meth c K hr hlk hnm => by
  match P, hP, cP with
  | none, hP, _ =>
    have hP1 : T.2.2.2 r = 1 := hP
    refine z_aload_n K d_M_turn_0 rfl ?_
    refine zm_get K fd_M_19 rfl d_M_turn_1 ?_
    refine z_iload_n K d_M_turn_4 rfl ?_
    refine zm_nld K (by omega) d_M_turn_5 ?_
    rw [hP1]
    refine zi_if_eq (tgt := 10) K d_M_turn_6 (by decide) (by decide) (fun hc => absurd hc (by decide)) (fun _ => ?_)
    exact z_vret K hr hlk d_M_turn_9 ⟨_, rfl, rfl, ⟨V, hV, fun _ _ _ => rfl, hP1⟩, rfl⟩
  | some (x, y, z), hP, cP =>
    obtain ⟨hP1, fx, fy, fz⟩ := hP
    obtain ⟨bx, by1, bz, nz⟩ := cP
    refine z_aload_n K d_M_turn_0 rfl ?_
    refine zm_get K fd_M_19 rfl d_M_turn_1 ?_
    refine z_iload_n K d_M_turn_4 rfl ?_
    refine zm_nld K (by omega) d_M_turn_5 ?_
    rw [hP1]
    refine zi_if_eq (tgt := 10) K d_M_turn_6 (by decide) (by decide) (fun _ => ?_) (fun hc => absurd rfl hc)
    refine z_aload_n K d_M_turn_10 rfl ?_
    refine z_bipush (v := jI 49) K d_M_turn_11 rfl ?_
    refine z_iload_n K d_M_turn_13 rfl ?_
    refine z_iconst (v := jI 2) K d_M_turn_14 rfl ?_
    refine zi_iadd K d_M_turn_15 ?_
    refine z_iload_n K d_M_turn_16 rfl ?_
    refine z_iconst (v := jI 2) K d_M_turn_17 rfl ?_
    refine zi_iadd K d_M_turn_18 ?_
    refine z_callV (ci := 0) (As := [.int (jI 49), .int (jI (r + 2)), .int (jI (r + 2))]) K (w_M_multiply l G b0 h a cd T (v := z) (w := z) hV (by decide) (by omega) (by omega) (by omega) (by omega) fz fz bz bz (by decide)) ca_M_92 im_M_multiply se_M_multiply rfl (by decide) hm_0 rfl rfl (by decide) (Nat.le_of_ble_eq_true rfl) d_M_turn_19 (fun o h1 hp => ?_)
    obtain ⟨T1, rfl, rfl, hV1, hN1⟩ := hp
    have g1 : ∀ q : Int, q < 49 → iu V 49 (z * z) q = V q := fun q hq => by rw [iu_ne _ _ (by omega)]
    refine z_aload_n K d_M_turn_22 rfl ?_
    refine z_iload_n K d_M_turn_23 rfl ?_
    refine z_iconst (v := jI 1) K d_M_turn_24 rfl ?_
    refine zi_iadd K d_M_turn_25 ?_
    refine z_bipush (v := jI 24) K d_M_turn_26 rfl ?_
    refine z_iload_n K d_M_turn_28 rfl ?_
    refine z_iload_n K d_M_turn_29 rfl ?_
    refine z_iconst (v := jI 2) K d_M_turn_30 rfl ?_
    refine zi_iadd K d_M_turn_31 ?_
    refine z_callV (ci := 0) (As := [.int (jI (r + 1)), .int (jI 24), .int (jI r), .int (jI (r + 2))]) K (v_M_more l G b0 h a cd T1 (u := y) (v := A1) (w := x) (t := z) hV1 (by omega) (by decide) (by omega) (by omega) ((g1 _ (by omega)).trans fy) ((g1 24 (by decide)).trans cA1) ((g1 r (by omega)).trans fx) ((g1 _ (by omega)).trans fz) by1 bA1 bx bz (by decide) (by decide)) ca_M_102 im_M_more se_M_more rfl (by decide) hm_0 rfl rfl (by decide) (Nat.le_of_ble_eq_true rfl) d_M_turn_32 (fun o h1 hp => ?_)
    obtain ⟨T2, rfl, rfl, hV2, hN2⟩ := hp
    obtain ⟨V2, eV2⟩ : ∃ W : Int → Int, W = iu (iu (iu (iu V 49 (z * z)) 47 (A1 * x)) 48 (A1 * x * z)) (r + 1) (y + A1 * x * z) := ⟨_, rfl⟩
    rw [← eV2] at hV2
    have g2 : ∀ q : Int, q < 45 → q ≠ r + 1 → V2 q = V q := fun q hq h2 => by rw [eV2, iu_ne _ _ h2, iu_ne _ _ (by omega), iu_ne _ _ (by omega), iu_ne _ _ (by omega)]
    have f49 : V2 49 = z * z := by rw [eV2, iu_ne _ _ (by omega), iu_ne _ _ (by decide), iu_ne _ _ (by decide), iu_self]
    have fy2 : V2 (r + 1) = y + A1 * x * z := by rw [eV2, iu_self]
    refine z_aload_n K d_M_turn_35 rfl ?_
    refine z_iload_n K d_M_turn_36 rfl ?_
    refine z_iconst (v := jI 1) K d_M_turn_37 rfl ?_
    refine zi_iadd K d_M_turn_38 ?_
    refine z_bipush (v := jI 26) K d_M_turn_39 rfl ?_
    refine z_bipush (v := jI 49) K d_M_turn_41 rfl ?_
    refine z_iload_n K d_M_turn_43 rfl ?_
    refine z_iconst (v := jI 2) K d_M_turn_44 rfl ?_
    refine zi_iadd K d_M_turn_45 ?_
    refine z_callV (ci := 0) (As := [.int (jI (r + 1)), .int (jI 26), .int (jI 49), .int (jI (r + 2))]) K (v_M_more l G b0 h a cd T2 (u := y + A1 * x * z) (v := A3) (w := z * z) (t := z) hV2 (by omega) (by decide) (by decide) (by omega) fy2 ((g2 26 (by decide) (by omega)).trans cA3) f49 ((g2 _ (by omega) (by omega)).trans fz) (lt9_add by1 (lt9_mul (lt9_mul bA1 bx) bz)) bA3 (lt9_mul bz bz) bz (by decide) (by decide)) ca_M_102 im_M_more se_M_more rfl (by decide) hm_0 rfl rfl (by decide) (Nat.le_of_ble_eq_true rfl) d_M_turn_46 (fun o h1 hp => ?_)
    obtain ⟨T3, rfl, rfl, hV3, hN3⟩ := hp
    obtain ⟨yy, eyy⟩ : ∃ w : Int, w = y + A1 * x * z + A3 * (z * z) * z := ⟨_, rfl⟩
    rw [← eyy] at hV3
    obtain ⟨V3, eV3⟩ : ∃ W : Int → Int, W = iu (iu (iu V2 47 (A3 * (z * z))) 48 (A3 * (z * z) * z)) (r + 1) yy := ⟨_, rfl⟩
    rw [← eV3] at hV3
    have g3 : ∀ q : Int, q < 45 → q ≠ r + 1 → V3 q = V q := fun q hq h2 => by rw [eV3, iu_ne _ _ h2, iu_ne _ _ (by omega), iu_ne _ _ (by omega)]; exact g2 q hq h2
    have fy3 : V3 (r + 1) = yy := by rw [eV3, iu_self]
    obtain ⟨n1, k1⟩ := hV3 (r + 1) (by omega) (by omega)
    rw [fy3] at k1
    have s2 := sgn3 yy
    refine z_aload_n K d_M_turn_49 rfl ?_
    refine zm_get K fd_M_16 rfl d_M_turn_50 ?_
    refine z_iload_n K d_M_turn_53 rfl ?_
    refine z_iconst (v := jI 1) K d_M_turn_54 rfl ?_
    refine zi_iadd K d_M_turn_55 ?_
    refine z_aload_n K d_M_turn_56 rfl ?_
    refine zm_get K fd_M_16 rfl d_M_turn_57 ?_
    refine z_iload_n K d_M_turn_60 rfl ?_
    refine z_iconst (v := jI 1) K d_M_turn_61 rfl ?_
    refine zi_iadd K d_M_turn_62 ?_
    refine zm_sld K (by omega) d_M_turn_63 ?_
    rw [k1.2.2.2.2.1]
    refine zi_ineg K d_M_turn_64 ?_
    refine zm_sst K (by omega) d_M_turn_65 ?_
    have hV7 := RV.sign (r := r + 1) (sv := -yy.sign) hV3 ⟨by omega, by omega⟩ (by
      rw [fy3]
      by_cases q : yy = 0
      · right; rw [q]; rfl
      · left; exact q) (by
      rw [fy3]
      rcases s2 with q | q | q
      · left; rw [q]; rfl
      · right; right; exact ⟨by rw [q]; rfl, Int.sign_eq_zero_iff_zero.mp q⟩
      · right; left; rw [q])
    rw [fy3, Int.neg_mul, Int.sign_mul_natAbs] at hV7
    have hN : T3.2.2.2 = T.2.2.2 := hN3.trans (hN2.trans hN1)
    refine z_vret K hr hlk d_M_turn_66 ⟨_, rfl, rfl, ⟨_, hV7, fun q hq h2 => by rw [iu_ne _ _ h2]; exact g3 q hq h2, ?_⟩, hN⟩
    simp only [ngP]
    rw [← eyy]
    refine ⟨by rw [hN]; exact hP1, ?_, iu_self _ _ _, ?_⟩
    · rw [iu_ne _ _ (by omega), g3 _ (by omega) (by omega)]; exact fx
    · rw [iu_ne _ _ (by omega), g3 _ (by omega) (by omega)]; exact fz
end M22
