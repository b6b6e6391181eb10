/-- the opposite point -/
def ngP (A1 A3 : Int) : Option (Int × Int × Int) → Option (Int × Int × Int)
  | none => none
  | some (x, y, z) => some (x, -(y + A1 * x * z + A3 * (z * z) * z), z)
def tlP : Option (Int × Int × Int) → Prop
  | none => False
  | some (x, y, z) => 10 ^ 120 ≤ x.natAbs ∨ 10 ^ 120 ≤ y.natAbs ∨ 10 ^ 120 ≤ (z * z * z).natAbs
/-- what a sum must be so that its digits can be counted -/
def capZ : Option (Int × Int × Int) → Prop
  | none => True
  | some (_, _, z) => lt9 z 100
theorem capJ.z {P : Option (Int × Int × Int)} (h : capJ P) : capZ P := by
  match P, h with
  | none, _ => trivial
  | some (x, y, z), h => exact lt9_mono h.2.2.1 (by decide)
def farP : Option (Int × Int × Int) → Prop
  | none => False
  | some (x, _, z) => 10 ^ 340 ≤ x.natAbs ∨ 10 ^ 340 ≤ (z * z).natAbs
theorem RV.dig {T : mT} {V : Int → Int} (l : Launch) (G : zG) (b0 : Nat) (h : zH) (a : Nat) (cd : Int) {r v : Int} (hV : RV T V) (hr0 : 0 ≤ r ∧ r < 56) (hv : V r = v) : mMet l G b0 y_M_digitsOf b_M_digitsOf 4 (some .int) 0 0 h a cd [.int (jI r)] T (fun o T' => T = T' ∧ ∃ d : Nat, o = some (.int (jI d)) ∧ IsDg v d ∧ d < 10000) := by
  obtain ⟨n, hn⟩ := hV r hr0.1 hr0.2
  rw [hv] at hn
  exact c_M_digitsOf l G b0 h a cd T hr0 hn
section M21
variable {p : Program} {l : Launch} {e : Env} {R : Room} {s : State} {m : MethodId} {args : Array Value} {below : List Frame} {meth : Method} {c : Code} {Q : State → Prop} {b0 kc ks : Nat} {G : zG} {h : zH} {a : Nat} {cd : Int}
set_option maxHeartbeats 4000000 in
set_option maxRecDepth 100000 in
/-- isTooLong(r) -/
theorem v_M_isTooLong (l : Launch) (G : zG) (b0 : Nat) (h : zH) (a : Nat) (cd : Int) (T : mT) {V : Int → Int} {r : Int} (P : Option (Int × Int × Int)) (hV : RV T V) (hr0 : 0 ≤ r ∧ r < 42) (hP : PtAt V T.2.2.2 r P) (cP : capZ P) :
    mMet l G b0 y_M_isTooLong b_M_isTooLong 2 (some .boolean) 2 55 h a cd [.int (jI r)] T (fun o T' => (∃ b : Int, o = some (.int (jI b)) ∧ (b = 0 ∨ b = 1) ∧ (b = 1 ↔ tlP P)) ∧ (∃ V' : Int → Int, RV T' V' ∧ ∀ q : Int, q < 44 → V' q = V q) ∧ T'.2.2.2 = T.2.2.2) :=
  z_met (by decide) (Nat.le_of_ble_eq_true rfl) fun p e s m below meth c K hr hlk hnm => by
  match P, hP, cP with
  | none, hP, _ =>
    have hP1 : T.2.2.2 r = 1 := hP
    refine z_aload_n K d_M_isTooLong_0 rfl ?_
    refine zm_get K fd_M_19 rfl d_M_isTooLong_1 ?_
    refine z_iload_n K d_M_isTooLong_4 rfl ?_
    refine zm_nld K (by omega) d_M_isTooLong_5 ?_
    rw [hP1]
    refine zi_if_eq (tgt := 11) K d_M_isTooLong_6 (by decide) (by decide) (fun hc => absurd hc (by decide)) (fun _ => ?_)
    refine z_iconst (v := jI 0) K d_M_isTooLong_9 rfl ?_
    exact z_zret K hr hlk d_M_isTooLong_10 rfl ⟨_, rfl, ⟨0, rfl, Or.inl rfl, by simp [tlP]⟩, ⟨V, hV, fun _ _ => rfl⟩, rfl⟩
  | some (x, y, z), hP, cP =>
    obtain ⟨hP1, fx, fy, fz⟩ := hP
    have bz : lt9 z 100 := cP
    refine z_aload_n K d_M_isTooLong_0 rfl ?_
    refine zm_get K fd_M_19 rfl d_M_isTooLong_1 ?_
    refine z_iload_n K d_M_isTooLong_4 rfl ?_
    refine zm_nld K (by omega) d_M_isTooLong_5 ?_
    rw [hP1]
    refine zi_if_eq (tgt := 11) K d_M_isTooLong_6 (by decide) (by decide) (fun _ => ?_) (fun hc => absurd rfl hc)
    refine z_aload_n K d_M_isTooLong_11 rfl ?_
    refine z_bipush (v := jI 49) K d_M_isTooLong_12 rfl ?_
    refine z_iload_n K d_M_isTooLong_14 rfl ?_
    refine z_iconst (v := jI 2) K d_M_isTooLong_15 rfl ?_
    refine zi_iadd K d_M_isTooLong_16 ?_
    refine z_iload_n K d_M_isTooLong_17 rfl ?_
    refine z_iconst (v := jI 2) K d_M_isTooLong_18 rfl ?_
    refine zi_iadd K d_M_isTooLong_19 ?_
    refine z_callV (ci := 0) (As := [.int (jI 49), .int (jI (r + 2)), .int (jI (r + 2))]) K (w_M_multiply l G b0 h a cd T (v := z) (w := z) hV (by decide) (by omega) (by omega) (by omega) (by omega) fz fz bz bz (by decide)) ca_M_92 im_M_multiply se_M_multiply rfl (by decide) hm_0 rfl rfl (by decide) (Nat.le_of_ble_eq_true rfl) d_M_isTooLong_20 (fun o h1 hp => ?_)
    obtain ⟨T1, rfl, rfl, hV1, hN1⟩ := hp
    refine z_aload_n K d_M_isTooLong_23 rfl ?_
    refine z_bipush (v := jI 44) K d_M_isTooLong_24 rfl ?_
    refine z_bipush (v := jI 49) K d_M_isTooLong_26 rfl ?_
    refine z_iload_n K d_M_isTooLong_28 rfl ?_
    refine z_iconst (v := jI 2) K d_M_isTooLong_29 rfl ?_
    refine zi_iadd K d_M_isTooLong_30 ?_
    refine z_callV (ci := 0) (As := [.int (jI 44), .int (jI 49), .int (jI (r + 2))]) K (w_M_multiply l G b0 h a cd T1 (v := z * z) (w := z) hV1 (by decide) (by decide) (by omega) (by decide) (by omega) (iu_self _ _ _) ((iu_ne _ _ (by omega)).trans fz) (lt9_mul bz bz) bz (by decide)) ca_M_92 im_M_multiply se_M_multiply rfl (by decide) hm_0 rfl rfl (by decide) (Nat.le_of_ble_eq_true rfl) d_M_isTooLong_31 (fun o h1 hp => ?_)
    obtain ⟨T2, rfl, rfl, hV2, hN2⟩ := hp
    have gq : ∀ q : Int, q < 44 → iu (iu V 49 (z * z)) 44 (z * z * z) q = V q := fun q hq => by rw [iu_ne _ _ (by omega), iu_ne _ _ (by omega)]
    refine z_aload_n K d_M_isTooLong_34 rfl ?_
    refine z_iload_n K d_M_isTooLong_35 rfl ?_
    refine z_callV (ci := 0) (As := [.int (jI r)]) K (RV.dig l G b0 h a cd hV2 (by omega) ((gq r (by omega)).trans fx)) ca_M_130 im_M_digitsOf se_M_digitsOf rfl (by decide) hm_0 rfl rfl (by decide) (Nat.le_of_ble_eq_true rfl) d_M_isTooLong_36 (fun o h1 hp => ?_)
    obtain ⟨T3, rfl, rfl, d1, rfl, hd1, hl1⟩ := hp
    refine z_bipush (v := jI 120) K d_M_isTooLong_39 rfl ?_
    refine zi_icmp_gt (tgt := 67) K d_M_isTooLong_41 (by decide) (by omega) (by omega) (fun hc => ?_) (fun hc => ?_)
    · refine z_iconst (v := jI 1) K d_M_isTooLong_67 rfl ?_
      refine z_goto (tgt := 72) K d_M_isTooLong_68 (by decide) ?_
      exact z_zret K hr hlk d_M_isTooLong_72 rfl ⟨_, rfl, ⟨1, rfl, Or.inr rfl, by simp only [tlP, true_iff]; exact Or.inl ((hd1.gt (by decide)).mp (by omega))⟩, ⟨_, hV2, gq⟩, hN2.trans hN1⟩
    · refine z_aload_n K d_M_isTooLong_44 rfl ?_
      refine z_iload_n K d_M_isTooLong_45 rfl ?_
      refine z_iconst (v := jI 1) K d_M_isTooLong_46 rfl ?_
      refine zi_iadd K d_M_isTooLong_47 ?_
      refine z_callV (ci := 0) (As := [.int (jI (r + 1))]) K (RV.dig l G b0 h a cd hV2 (by omega) ((gq (r + 1) (by omega)).trans fy)) ca_M_130 im_M_digitsOf se_M_digitsOf rfl (by decide) hm_0 rfl rfl (by decide) (Nat.le_of_ble_eq_true rfl) d_M_isTooLong_48 (fun o h1 hp => ?_)
      obtain ⟨T3, rfl, rfl, d2, rfl, hd2, hl2⟩ := hp
      refine z_bipush (v := jI 120) K d_M_isTooLong_51 rfl ?_
      refine zi_icmp_gt (tgt := 67) K d_M_isTooLong_53 (by decide) (by omega) (by omega) (fun hc2 => ?_) (fun hc2 => ?_)
      · refine z_iconst (v := jI 1) K d_M_isTooLong_67 rfl ?_
        refine z_goto (tgt := 72) K d_M_isTooLong_68 (by decide) ?_
        exact z_zret K hr hlk d_M_isTooLong_72 rfl ⟨_, rfl, ⟨1, rfl, Or.inr rfl, by simp only [tlP, true_iff]; exact Or.inr (Or.inl ((hd2.gt (by decide)).mp (by omega)))⟩, ⟨_, hV2, gq⟩, hN2.trans hN1⟩
      · refine z_aload_n K d_M_isTooLong_56 rfl ?_
        refine z_bipush (v := jI 44) K d_M_isTooLong_57 rfl ?_
        refine z_callV (ci := 0) (As := [.int (jI 44)]) K (RV.dig l G b0 h a cd hV2 (by decide) (iu_self _ _ _)) ca_M_130 im_M_digitsOf se_M_digitsOf rfl (by decide) hm_0 rfl rfl (by decide) (Nat.le_of_ble_eq_true rfl) d_M_isTooLong_59 (fun o h1 hp => ?_)
        obtain ⟨T3, rfl, rfl, d3, rfl, hd3, hl3⟩ := hp
        refine z_bipush (v := jI 120) K d_M_isTooLong_62 rfl ?_
        refine zi_icmp_le (tgt := 71) K d_M_isTooLong_64 (by decide) (by omega) (by omega) (fun hc3 => ?_) (fun hc3 => ?_)
        · refine z_iconst (v := jI 0) K d_M_isTooLong_71 rfl ?_
          refine z_zret K hr hlk d_M_isTooLong_72 rfl ⟨_, rfl, ⟨0, rfl, Or.inl rfl, ?_⟩, ⟨_, hV2, gq⟩, hN2.trans hN1⟩
          simp only [tlP]
          constructor
          · intro q; omega
          · intro q
            rcases q with q | q | q
            · have := (hd1.gt (k := 120) (by decide)).mpr q; omega
            · have := (hd2.gt (k := 120) (by decide)).mpr q; omega
            · have := (hd3.gt (k := 120) (by decide)).mpr q; omega
        · refine z_iconst (v := jI 1) K d_M_isTooLong_67 rfl ?_
          refine z_goto (tgt := 72) K d_M_isTooLong_68 (by decide) ?_
          exact z_zret K hr hlk d_M_isTooLong_72 rfl ⟨_, rfl, ⟨1, rfl, Or.inr rfl, by simp only [tlP, true_iff]; exact Or.inr (Or.inr ((hd3.gt (by decide)).mp (by omega)))⟩, ⟨_, hV2, gq⟩, hN2.trans hN1⟩
set_option maxHeartbeats 4000000 in
set_option maxRecDepth 100000 in
/-- isFar(): whether x at 36 has more than 340 digits -/
theorem v_M_isFar (l : Launch) (G : zG) (b0 : Nat) (h : zH) (a : Nat) (cd : Int) (T : mT) {V : Int → Int} (P : Option (Int × Int × Int)) (hV : RV T V) (hP : PtAt V T.2.2.2 36 P) (bP : ∀ x y z : Int, P = some (x, y, z) → lt9 z 200) :
    mMet l G b0 y_M_isFar b_M_isFar 1 (some .boolean) 2 55 h a cd [] T (fun o T' => (∃ b : Int, o = some (.int (jI b)) ∧ (b = 0 ∨ b = 1) ∧ (b = 1 ↔ farP P)) ∧ (∃ V' : Int → Int, RV T' V' ∧ ∀ q : Int, q < 49 → V' q = V q) ∧ T'.2.2.2 = T.2.2.2) :=
  z_met (by decide) (Nat.le_of_ble_eq_true rfl) fun p e s m below meth c K hr hlk hnm => by
  match P, hP, bP with
  | none, hP, _ =>
    have hP1 : T.2.2.2 36 = 1 := hP
    refine z_aload_n K d_M_isFar_0 rfl ?_
    refine zm_get K fd_M_19 rfl d_M_isFar_1 ?_
    refine z_bipush (v := jI 36) K d_M_isFar_4 rfl ?_
    refine zm_nld K (by omega) d_M_isFar_6 ?_
    rw [hP1]
    refine zi_if_eq (tgt := 12) K d_M_isFar_7 (by decide) (by decide) (fun hc => absurd hc (by decide)) (fun _ => ?_)
    refine z_iconst (v := jI 0) K d_M_isFar_10 rfl ?_
    exact z_zret K hr hlk d_M_isFar_11 rfl ⟨_, rfl, ⟨0, rfl, Or.inl rfl, by simp [farP]⟩, ⟨V, hV, fun _ _ => rfl⟩, rfl⟩
  | some (x, y, z), hP, bP =>
    obtain ⟨hP1, fx, fy, fz⟩ := hP
    have fz : V 38 = z := fz
    have bz := bP x y z rfl
    refine z_aload_n K d_M_isFar_0 rfl ?_
    refine zm_get K fd_M_19 rfl d_M_isFar_1 ?_
    refine z_bipush (v := jI 36) K d_M_isFar_4 rfl ?_
    refine zm_nld K (by omega) d_M_isFar_6 ?_
    rw [hP1]
    refine zi_if_eq (tgt := 12) K d_M_isFar_7 (by decide) (by decide) (fun _ => ?_) (fun hc => absurd rfl hc)
    refine z_aload_n K d_M_isFar_12 rfl ?_
    refine z_bipush (v := jI 49) K d_M_isFar_13 rfl ?_
    refine z_bipush (v := jI 38) K d_M_isFar_15 rfl ?_
    refine z_bipush (v := jI 38) K d_M_isFar_17 rfl ?_
    refine z_callV (ci := 0) (As := [.int (jI 49), .int (jI 38), .int (jI 38)]) K (w_M_multiply l G b0 h a cd T (v := z) (w := z) hV (by decide) (by decide) (by decide) (by decide) (by decide) fz fz bz bz (by decide)) ca_M_92 im_M_multiply se_M_multiply rfl (by decide) hm_0 rfl rfl (by decide) (Nat.le_of_ble_eq_true rfl) d_M_isFar_19 (fun o h1 hp => ?_)
    obtain ⟨T1, rfl, rfl, hV1, hN1⟩ := hp
    have gq : ∀ q : Int, q < 49 → iu V 49 (z * z) q = V q := fun q hq => by rw [iu_ne _ _ (by omega)]
    refine z_aload_n K d_M_isFar_22 rfl ?_
    refine z_bipush (v := jI 36) K d_M_isFar_23 rfl ?_
    refine z_callV (ci := 0) (As := [.int (jI 36)]) K (RV.dig l G b0 h a cd hV1 (by decide) ((gq 36 (by decide)).trans fx)) ca_M_130 im_M_digitsOf se_M_digitsOf rfl (by decide) hm_0 rfl rfl (by decide) (Nat.le_of_ble_eq_true rfl) d_M_isFar_25 (fun o h1 hp => ?_)
    obtain ⟨T3, rfl, rfl, d1, rfl, hd1, hl1⟩ := hp
    refine z_sipush (v := jI 340) K d_M_isFar_28 rfl ?_
    refine zi_icmp_gt (tgt := 46) K d_M_isFar_31 (by decide) (by omega) (by omega) (fun hc => ?_) (fun hc => ?_)
    · refine z_iconst (v := jI 1) K d_M_isFar_46 rfl ?_
      refine z_goto (tgt := 51) K d_M_isFar_47 (by decide) ?_
      exact z_zret K hr hlk d_M_isFar_51 rfl ⟨_, rfl, ⟨1, rfl, Or.inr rfl, by simp only [farP, true_iff]; exact Or.inl ((hd1.gt (by decide)).mp (by omega))⟩, ⟨_, hV1, gq⟩, hN1⟩
    · refine z_aload_n K d_M_isFar_34 rfl ?_
      refine z_bipush (v := jI 49) K d_M_isFar_35 rfl ?_
      refine z_callV (ci := 0) (As := [.int (jI 49)]) K (RV.dig l G b0 h a cd hV1 (by decide) (iu_self _ _ _)) ca_M_130 im_M_digitsOf se_M_digitsOf rfl (by decide) hm_0 rfl rfl (by decide) (Nat.le_of_ble_eq_true rfl) d_M_isFar_37 (fun o h1 hp => ?_)
      obtain ⟨T3, rfl, rfl, d2, rfl, hd2, hl2⟩ := hp
      refine z_sipush (v := jI 340) K d_M_isFar_40 rfl ?_
      refine zi_icmp_le (tgt := 50) K d_M_isFar_43 (by decide) (by omega) (by omega) (fun hc2 => ?_) (fun hc2 => ?_)
      · refine z_iconst (v := jI 0) K d_M_isFar_50 rfl ?_
        refine z_zret K hr hlk d_M_isFar_51 rfl ⟨_, rfl, ⟨0, rfl, Or.inl rfl, ?_⟩, ⟨_, hV1, gq⟩, hN1⟩
        simp only [farP]
        constructor
        · intro q; omega
        · intro q
          rcases q with q | q
          · have := (hd1.gt (k := 340) (by decide)).mpr q; omega
          · have := (hd2.gt (k := 340) (by decide)).mpr q; omega
      · refine z_iconst (v := jI 1) K d_M_isFar_46 rfl ?_
        refine z_goto (tgt := 51) K d_M_isFar_47 (by decide) ?_
        exact z_zret K hr hlk d_M_isFar_51 rfl ⟨_, rfl, ⟨1, rfl, Or.inr rfl, by simp only [farP, true_iff]; exact Or.inr ((hd2.gt (by decide)).mp (by omega))⟩, ⟨_, hV1, gq⟩, hN1⟩
set_option maxHeartbeats 4000000 in
set_option maxRecDepth 100000 in
/-- settle(to): the point at 36 goes into a slot if it isn't too long -/
theorem v_M_settle (l : Launch) (G : zG) (b0 : Nat) (h : zH) (a : Nat) (cd : Int) (T : mT) {V : Int → Int} {t : Int} (P : Option (Int × Int × Int)) (hV : RV T V) (ht : 0 ≤ t ∧ t < 8) (hP : PtAt V T.2.2.2 36 P) (cP : capZ P) :
    mMet l G b0 y_M_settle b_M_settle 2 (some .int) 3 76 h a cd [.int (jI t)] T (fun o T' => (∃ b : Int, o = some (.int (jI b)) ∧ ((b = 0 ∧ tlP P ∧ (∃ V' : Int → Int, RV T' V' ∧ ∀ q : Int, q < 44 → V' q = V q) ∧ T'.2.2.2 = T.2.2.2) ∨ (b = 1 ∧ ¬ tlP P ∧ (∃ V' : Int → Int, RV T' V' ∧ (∀ q : Int, q < 44 → q < 3 * t ∨ 3 * t + 3 ≤ q → V' q = V q) ∧ PtAt V' T'.2.2.2 (3 * t) P) ∧ ∀ q : Int, q ≠ 3 * t → T'.2.2.2 q = T.2.2.2 q)))) :=
  z_met (by decide) (Nat.le_of_ble_eq_true rfl) fun p e s m below meth c K hr hlk hnm => by
  refine z_aload_n K d_M_settle_0 rfl ?_
  refine z_bipush (v := jI 36) K d_M_settle_1 rfl ?_
  refine z_callV (ci := 0) (As := [.int (jI 36)]) K (v_M_isTooLong l G b0 h a cd T P hV (by decide) hP cP) ca_M_134 im_M_isTooLong se_M_isTooLong rfl (by decide) hm_0 rfl rfl (by decide) (Nat.le_of_ble_eq_true rfl) d_M_settle_3 (fun o h1 hp => ?_)
  obtain ⟨T1, rfl, ⟨b, rfl, hb, hb2⟩, ⟨V1, q1, q2⟩, q3⟩ := hp
  refine zi_if_eq (tgt := 11) K d_M_settle_6 (by decide) (by omega) (fun hc => ?_) (fun hc => ?_)
  · have hnt : ¬ tlP P := fun z => by have := hb2.mpr z; omega
    have hP1 : PtAt V1 T1.2.2.2 36 P := by
      rw [q3]
      cases P with
      | none => exact hP
      | some p =>
        obtain ⟨x, y, z⟩ := p
        exact ⟨hP.1, (q2 36 (by decide)).trans hP.2.1, (q2 37 (by decide)).trans hP.2.2.1, (q2 38 (by decide)).trans hP.2.2.2⟩
    refine z_aload_n K d_M_settle_11 rfl ?_
    refine z_bipush (v := jI 36) K d_M_settle_12 rfl ?_
    refine z_iconst (v := jI 3) K d_M_settle_14 rfl ?_
    refine z_iload_n K d_M_settle_15 rfl ?_
    refine zi_imul K d_M_settle_16 ?_
    refine z_callV (ci := 0) (As := [.int (jI 36), .int (jI (3 * t))]) K (v_M_move l G b0 h a cd T1 q1 (by decide) (by omega) (by omega) hP1.bit) ca_M_112 im_M_move se_M_move rfl (by decide) hm_0 rfl rfl (by decide) (Nat.le_of_ble_eq_true rfl) d_M_settle_17 (fun o h1 hp => ?_)
    obtain ⟨T2, rfl, rfl, ⟨V2, r1, r2, r3⟩, r4⟩ := hp
    refine z_iconst (v := jI 1) K d_M_settle_20 rfl ?_
    refine z_iret K hr hlk d_M_settle_21 ⟨_, rfl, 1, rfl, Or.inr ⟨rfl, hnt, ⟨V2, r1, fun q hq h2 => (r3 q h2).trans (q2 q hq), hP1.mv r2 (by rw [r4, iu_self])⟩, fun q hq => by rw [r4, iu_ne _ _ hq, q3]⟩⟩
  · refine z_iconst (v := jI 0) K d_M_settle_9 rfl ?_
    exact z_iret K hr hlk d_M_settle_10 ⟨_, rfl, 0, rfl, Or.inl ⟨rfl, hb2.mp (by omega), ⟨V1, q1, q2⟩, q3⟩⟩
end M21
