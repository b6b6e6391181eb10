section M13
variable {p : Program} {l : Launch} {e : Env} {R : Room} {s : State} {m : MethodId} {args : Array Value} {below : List Frame} {meth : Method} {c : Code} {Q : State → Prop} {b0 kc ks : Nat} {G : zG} {h : zH} {a : Nat} {cd : Int}
set_option maxHeartbeats 4000000 in
set_option maxRecDepth 100000 in
theorem c_M_isSlot (l : Launch) (G : zG) (b0 : Nat) (h : zH) {s0 : Int} (hs : i32 s0) : zMet l G b0 y_M_isSlot b_M_isSlot 1 (some .boolean) 0 0 0 0 [.int (jI s0)] h (fun o h' => h = h' ∧ o = some (.int (jI (if 0 ≤ s0 ∧ s0 < 8 then 1 else 0)))) :=
  z_met (by decide) (Nat.le_of_ble_eq_true rfl) fun p e s m below meth c K hr hlk hnm => by
  refine z_iload_n K d_M_isSlot_0 rfl ?_
  refine zi_if_lt (tgt := 14) K d_M_isSlot_1 (by decide) hs (fun hc => ?_) (fun hc => ?_)
  · refine z_iconst (v := jI 0) K d_M_isSlot_14 rfl ?_
    exact z_zret K hr hlk d_M_isSlot_15 rfl ⟨rfl, by rw [if_neg (by omega)]⟩
  · refine z_iload_n K d_M_isSlot_4 rfl ?_
    refine z_bipush (v := jI 8) K d_M_isSlot_5 rfl ?_
    refine zi_icmp_ge (tgt := 14) K d_M_isSlot_7 (by decide) hs (by omega) (fun hc2 => ?_) (fun hc2 => ?_)
    · refine z_iconst (v := jI 0) K d_M_isSlot_14 rfl ?_
      exact z_zret K hr hlk d_M_isSlot_15 rfl ⟨rfl, by rw [if_neg (by omega)]⟩
    · refine z_iconst (v := jI 1) K d_M_isSlot_10 rfl ?_
      refine z_goto (tgt := 15) K d_M_isSlot_11 (by decide) ?_
      exact z_zret K hr hlk d_M_isSlot_15 rfl ⟨rfl, by rw [if_pos (by omega)]⟩
set_option maxHeartbeats 4000000 in
set_option maxRecDepth 100000 in
theorem c_M_isIn (l : Launch) (G : zG) (b0 : Nat) (h : zH) {s0 : Int} (hs : i32 s0) : zMet l G b0 y_M_isIn b_M_isIn 1 (some .boolean) 0 0 0 0 [.int (jI s0)] h (fun o h' => h = h' ∧ o = some (.int (jI (if -99999 ≤ s0 ∧ s0 ≤ 99999 then 1 else 0)))) :=
  z_met (by decide) (Nat.le_of_ble_eq_true rfl) fun p e s m below meth c K hr hlk hnm => by
  refine z_iload_n K d_M_isIn_0 rfl ?_
  refine z_ldc (v := jI (-99999)) K d_M_isIn_1 (by rw [show jI (-99999) = -99999 by decide]; exact kc_M_90) ?_
  refine zi_icmp_lt (tgt := 16) K d_M_isIn_3 (by decide) hs (by omega) (fun hc => ?_) (fun hc => ?_)
  · refine z_iconst (v := jI 0) K d_M_isIn_16 rfl ?_
    exact z_zret K hr hlk d_M_isIn_17 rfl ⟨rfl, by rw [if_neg (by omega)]⟩
  · refine z_iload_n K d_M_isIn_6 rfl ?_
    refine z_ldc (v := jI 99999) K d_M_isIn_7 kc_M_91 ?_
    refine zi_icmp_gt (tgt := 16) K d_M_isIn_9 (by decide) hs (by omega) (fun hc2 => ?_) (fun hc2 => ?_)
    · refine z_iconst (v := jI 0) K d_M_isIn_16 rfl ?_
      exact z_zret K hr hlk d_M_isIn_17 rfl ⟨rfl, by rw [if_neg (by omega)]⟩
    · refine z_iconst (v := jI 1) K d_M_isIn_12 rfl ?_
      refine z_goto (tgt := 17) K d_M_isIn_13 (by decide) ?_
      exact z_zret K hr hlk d_M_isIn_17 rfl ⟨rfl, by rw [if_pos (by omega)]⟩
theorem w_M_multiply (l : Launch) (G : zG) (b0 : Nat) (h : zH) (a : Nat) (cd : Int) (T : mT) {V : Int → Int} {r x y v w : Int} {m n : Nat} (hV : RV T V) (hr0 : 0 ≤ r ∧ r < 56) (hx0 : 0 ≤ x ∧ x < 56) (hy0 : 0 ≤ y ∧ y < 56) (hrx : r ≠ x) (hry : r ≠ y) (hx : V x = v) (hy : V y = w) (hb1 : lt9 v m) (hb2 : lt9 w n) (hmn : m + n ≤ 459) : mMet l G b0 y_M_multiply b_M_multiply 13 none 1 23 h a cd [.int (jI r), .int (jI x), .int (jI y)] T (fun o T' => o = none ∧ RV T' (iu V r (v * w)) ∧ T'.2.2.2 = T.2.2.2) := by
  subst hx; subst hy
  exact v_M_multiply l G b0 h a cd T hV hr0 hx0 hy0 hrx hry hb1 hb2 hmn
theorem w_M_add (l : Launch) (G : zG) (b0 : Nat) (h : zH) (a : Nat) (cd : Int) (T : mT) {V : Int → Int} {r x y v w sg : Int} {m n : Nat} (hV : RV T V) (hr0 : 0 ≤ r ∧ r < 56) (hx0 : 0 ≤ x ∧ x < 56) (hy0 : 0 ≤ y ∧ y < 56) (hs : sg = 1 ∨ sg = -1) (hx : V x = v) (hy : V y = w) (hb1 : lt9 v m) (hb2 : lt9 w n) (hm1 : m ≤ 458) (hn1 : n ≤ 458) : mMet l G b0 y_M_add b_M_add 7 none 2 52 h a cd [.int (jI r), .int (jI x), .int (jI y), .int (jI sg)] T (fun o T' => o = none ∧ RV T' (iu V r (v + sg * w)) ∧ T'.2.2.2 = T.2.2.2) := by
  subst hx; subst hy
  exact v_M_add l G b0 h a cd T hV hr0 hx0 hy0 hs (lt9_mono hb1 hm1) (lt9_mono hb2 hn1)
theorem w_M_copy (l : Launch) (G : zG) (b0 : Nat) (h : zH) (a : Nat) (cd : Int) (T : mT) {V : Int → Int} {f t v : Int} (hV : RV T V) (hf : 0 ≤ f ∧ f < 56) (ht : 0 ≤ t ∧ t < 56) (hx : V f = v) : mMet l G b0 y_M_copy b_M_copy 4 none 0 0 h a cd [.int (jI f), .int (jI t)] T (fun o T' => o = none ∧ RV T' (iu V t v) ∧ T'.2.2.2 = T.2.2.2) := by
  subst hx
  exact v_M_copy l G b0 h a cd T hV hf ht
theorem w_M_share (l : Launch) (G : zG) (b0 : Nat) (h : zH) (a : Nat) (cd : Int) (T : mT) {V : Int → Int} {r x y v w : Int} {m : Nat} (hV : RV T V) (hr0 : 0 ≤ r ∧ r < 53) (hx0 : 0 ≤ x ∧ x < 53) (hy0 : 0 ≤ y ∧ y < 53) (hx : V x = v) (hy : V y = w) (hw : w ≠ 0) (hb : lt9 v m) (hm1 : m ≤ 457) : mMet l G b0 y_M_share b_M_share 5 none 3 79 h a cd [.int (jI r), .int (jI x), .int (jI y)] T (fun o T' => o = none ∧ (∃ g1 g2 : Int, RV T' (iu (iu (iu V 53 g1) 54 g2) r (v.tdiv w))) ∧ T'.2.2.2 = T.2.2.2) := by
  subst hx; subst hy
  exact v_M_share l G b0 h a cd T hV hr0 hx0 hy0 hw (lt9_mono hb hm1)
theorem w_M_common (l : Launch) (G : zG) (b0 : Nat) (h : zH) (a : Nat) (cd : Int) (T : mT) {V : Int → Int} {x y v w : Int} {m n : Nat} (hV : RV T V) (hx0 : 0 ≤ x ∧ x < 51) (hy0 : 0 ≤ y ∧ y < 51) (hx : V x = v) (hy : V y = w) (hnz : v ≠ 0 ∨ w ≠ 0) (hb1 : lt9 v m) (hb2 : lt9 w n) (hm1 : m ≤ 457) (hn1 : n ≤ 457) : mMet l G b0 y_M_common b_M_common 4 none 3 79 h a cd [.int (jI x), .int (jI y)] T (fun o T' => o = none ∧ (∃ g : Int, RV T' (iu (iu V 52 g) 51 (Int.gcd v w))) ∧ T'.2.2.2 = T.2.2.2) := by
  subst hx; subst hy
  exact v_M_common l G b0 h a cd T hV hx0 hy0 hnz (lt9_mono hb1 hm1) (lt9_mono hb2 hn1)
set_option maxHeartbeats 4000000 in
set_option maxRecDepth 100000 in
/-- more(r, x, y, z): V: r := r + x y z; 47 and 48 are used up -/
theorem v_M_more (l : Launch) (G : zG) (b0 : Nat) (h : zH) (a : Nat) (cd : Int) (T : mT) {V : Int → Int} {r x y z u v w t : Int} {m1 m2 m3 m4 : Nat} (hV : RV T V) (hr0 : 0 ≤ r ∧ r < 56 ∧ r ≠ 47 ∧ r ≠ 48) (hx0 : 0 ≤ x ∧ x < 56 ∧ x ≠ 47) (hy0 : 0 ≤ y ∧ y < 56 ∧ y ≠ 47) (hz0 : 0 ≤ z ∧ z < 56 ∧ z ≠ 47 ∧ z ≠ 48) (hr1 : V r = u) (hx1 : V x = v) (hy1 : V y = w) (hz1 : V z = t) (hb1 : lt9 u m1) (hb2 : lt9 v m2) (hb3 : lt9 w m3) (hb4 : lt9 t m4) (hm1 : m1 ≤ 458) (hm2 : m2 + m3 + m4 ≤ 458) :
    mMet l G b0 y_M_more b_M_more 5 none 3 78 h a cd [.int (jI r), .int (jI x), .int (jI y), .int (jI z)] T (fun o T' => o = none ∧ RV T' (iu (iu (iu V 47 (v * w)) 48 (v * w * t)) r (u + v * w * t)) ∧ T'.2.2.2 = T.2.2.2) :=
  z_met (by decide) (Nat.le_of_ble_eq_true rfl) fun p e s m below meth c K hr hlk hnm => by
  refine z_aload_n K d_M_more_0 rfl ?_
  refine z_bipush (v := jI 47) K d_M_more_1 rfl ?_
  refine z_iload_n K d_M_more_3 rfl ?_
  refine z_iload_n K d_M_more_4 rfl ?_
  refine z_callV (ci := 0) (As := [.int (jI 47), .int (jI x), .int (jI y)]) K (w_M_multiply l G b0 h a cd T hV (by omega) (by omega) (by omega) (by omega) (by omega) hx1 hy1 hb2 hb3 (by omega)) ca_M_92 im_M_multiply se_M_multiply rfl (by decide) hm_0 rfl rfl (by decide) (Nat.le_of_ble_eq_true rfl) d_M_more_5 (fun o h1 hp => ?_)
  obtain ⟨T1, rfl, rfl, hV1, hN1⟩ := hp
  refine z_aload_n K d_M_more_8 rfl ?_
  refine z_bipush (v := jI 48) K d_M_more_9 rfl ?_
  refine z_bipush (v := jI 47) K d_M_more_11 rfl ?_
  refine z_iload K d_M_more_13 rfl ?_
  refine z_callV (ci := 0) (As := [.int (jI 48), .int (jI 47), .int (jI z)]) K (w_M_multiply l G b0 h a cd T1 hV1 (by omega) (by omega) (by omega) (by omega) (by omega) (iu_self _ _ _) ((iu_ne _ _ (by omega)).trans hz1) (lt9_mul hb2 hb3) hb4 (by omega)) ca_M_92 im_M_multiply se_M_multiply rfl (by decide) hm_0 rfl rfl (by decide) (Nat.le_of_ble_eq_true rfl) d_M_more_15 (fun o h1 hp => ?_)
  obtain ⟨T2, rfl, rfl, hV2, hN2⟩ := hp
  refine z_aload_n K d_M_more_18 rfl ?_
  refine z_iload_n K d_M_more_19 rfl ?_
  refine z_iload_n K d_M_more_20 rfl ?_
  refine z_bipush (v := jI 48) K d_M_more_21 rfl ?_
  refine z_iconst (v := jI 1) K d_M_more_23 rfl ?_
  refine z_callV (ci := 0) (As := [.int (jI r), .int (jI r), .int (jI 48), .int (jI 1)]) K (w_M_add l G b0 h a cd T2 hV2 (by omega) (by omega) (by omega) (Or.inl rfl) ((iu_ne _ _ (by omega)).trans ((iu_ne _ _ (by omega)).trans hr1)) (iu_self _ _ _) hb1 (lt9_mul (lt9_mul hb2 hb3) hb4) hm1 hm2) ca_M_83 im_M_add se_M_add rfl (by decide) hm_0 rfl rfl (by decide) (Nat.le_of_ble_eq_true rfl) d_M_more_24 (fun o h1 hp => ?_)
  obtain ⟨T3, rfl, rfl, hV3, hN3⟩ := hp
  rw [Int.one_mul] at hV3
  exact z_vret K hr hlk d_M_more_27 ⟨_, rfl, rfl, hV3, hN3.trans (hN2.trans hN1)⟩
set_option maxHeartbeats 4000000 in
set_option maxRecDepth 100000 in
/-- product(r, a, b, c, d): V: r := a b c d; 47, 48 and 49 are used up -/
theorem v_M_product (l : Launch) (G : zG) (b0 : Nat) (h : zH) (a : Nat) (cd : Int) (T : mT) {V : Int → Int} {r u1 u2 u3 u4 : Int} (hV : RV T V) (hr0 : 0 ≤ r ∧ r < 56 ∧ r ≠ 47 ∧ r ≠ 48) (h1 : i64 u1) (h2 : i64 u2) (h3 : i64 u3) (h4 : i64 u4) :
    mMet l G b0 y_M_product b_M_product 10 none 2 55 h a cd [.int (jI r), .long (kI u1), .long (kI u2), .long (kI u3), .long (kI u4)] T (fun o T' => o = none ∧ (∃ g1 g2 g3 : Int, RV T' (iu (iu (iu (iu V 47 g1) 48 g2) 49 g3) r (u1 * u2 * u3 * u4))) ∧ T'.2.2.2 = T.2.2.2) :=
  z_met (by decide) (Nat.le_of_ble_eq_true rfl) fun p e s m below meth c K hr hlk hnm => by
  have big : ∀ u : Int, i64 u → lt9 u 3 := fun u hu => by
    show (u.natAbs : Int) < BS ^ 3
    have : BS ^ 3 = 1000000000000000000000000000 := by decide
    omega
  refine z_aload_n K d_M_product_0 rfl ?_
  refine z_bipush (v := jI 47) K d_M_product_1 rfl ?_
  refine z_lload_n K d_M_product_3 rfl ?_
  refine z_callV (ci := 0) (As := [.int (jI 47), .long (kI u1)]) K (v_M_set l G b0 h a cd T hV ⟨by omega, by omega⟩ h1) ca_M_26 im_M_set se_M_set rfl (by decide) hm_0 rfl rfl (by decide) (Nat.le_of_ble_eq_true rfl) d_M_product_4 (fun o h1 hp => ?_)
  obtain ⟨T1, rfl, rfl, hV1, hN1⟩ := hp
  refine z_aload_n K d_M_product_7 rfl ?_
  refine z_bipush (v := jI 48) K d_M_product_8 rfl ?_
  refine z_lload K d_M_product_10 rfl ?_
  refine z_callV (ci := 0) (As := [.int (jI 48), .long (kI u2)]) K (v_M_set l G b0 h a cd T1 hV1 ⟨by omega, by omega⟩ h2) ca_M_26 im_M_set se_M_set rfl (by decide) hm_0 rfl rfl (by decide) (Nat.le_of_ble_eq_true rfl) d_M_product_12 (fun o h1 hp => ?_)
  obtain ⟨T2, rfl, rfl, hV2, hN2⟩ := hp
  refine z_aload_n K d_M_product_15 rfl ?_
  refine z_bipush (v := jI 49) K d_M_product_16 rfl ?_
  refine z_bipush (v := jI 47) K d_M_product_18 rfl ?_
  refine z_bipush (v := jI 48) K d_M_product_20 rfl ?_
  refine z_callV (ci := 0) (As := [.int (jI 49), .int (jI 47), .int (jI 48)]) K (w_M_multiply l G b0 h a cd T2 hV2 (v := u1) (w := u2) (by omega) (by omega) (by omega) (by omega) (by omega) (by simp [iu]) (by simp [iu]) (big _ h1) (big _ h2) (by omega)) ca_M_92 im_M_multiply se_M_multiply rfl (by decide) hm_0 rfl rfl (by decide) (Nat.le_of_ble_eq_true rfl) d_M_product_22 (fun o h1 hp => ?_)
  obtain ⟨T3, rfl, rfl, hV3, hN3⟩ := hp
  refine z_aload_n K d_M_product_25 rfl ?_
  refine z_bipush (v := jI 47) K d_M_product_26 rfl ?_
  refine z_lload K d_M_product_28 rfl ?_
  refine z_callV (ci := 0) (As := [.int (jI 47), .long (kI u3)]) K (v_M_set l G b0 h a cd T3 hV3 ⟨by omega, by omega⟩ h3) ca_M_26 im_M_set se_M_set rfl (by decide) hm_0 rfl rfl (by decide) (Nat.le_of_ble_eq_true rfl) d_M_product_30 (fun o h1 hp => ?_)
  obtain ⟨T4, rfl, rfl, hV4, hN4⟩ := hp
  refine z_aload_n K d_M_product_33 rfl ?_
  refine z_bipush (v := jI 48) K d_M_product_34 rfl ?_
  refine z_bipush (v := jI 49) K d_M_product_36 rfl ?_
  refine z_bipush (v := jI 47) K d_M_product_38 rfl ?_
  refine z_callV (ci := 0) (As := [.int (jI 48), .int (jI 49), .int (jI 47)]) K (w_M_multiply l G b0 h a cd T4 hV4 (v := u1 * u2) (w := u3) (by omega) (by omega) (by omega) (by omega) (by omega) (by simp [iu]) (by simp [iu]) (lt9_mul (big _ h1) (big _ h2)) (big _ h3) (by omega)) ca_M_92 im_M_multiply se_M_multiply rfl (by decide) hm_0 rfl rfl (by decide) (Nat.le_of_ble_eq_true rfl) d_M_product_40 (fun o h1 hp => ?_)
  obtain ⟨T5, rfl, rfl, hV5, hN5⟩ := hp
  refine z_aload_n K d_M_product_43 rfl ?_
  refine z_bipush (v := jI 47) K d_M_product_44 rfl ?_
  refine z_lload K d_M_product_46 rfl ?_
  refine z_callV (ci := 0) (As := [.int (jI 47), .long (kI u4)]) K (v_M_set l G b0 h a cd T5 hV5 ⟨by omega, by omega⟩ h4) ca_M_26 im_M_set se_M_set rfl (by decide) hm_0 rfl rfl (by decide) (Nat.le_of_ble_eq_true rfl) d_M_product_48 (fun o h1 hp => ?_)
  obtain ⟨T6, rfl, rfl, hV6, hN6⟩ := hp
  refine z_aload_n K d_M_product_51 rfl ?_
  refine z_iload_n K d_M_product_52 rfl ?_
  refine z_bipush (v := jI 48) K d_M_product_53 rfl ?_
  refine z_bipush (v := jI 47) K d_M_product_55 rfl ?_
  refine z_callV (ci := 0) (As := [.int (jI r), .int (jI 48), .int (jI 47)]) K (w_M_multiply l G b0 h a cd T6 hV6 (v := u1 * u2 * u3) (w := u4) (by omega) (by omega) (by omega) (by omega) (by omega) (by simp [iu]) (by simp [iu]) (lt9_mul (lt9_mul (big _ h1) (big _ h2)) (big _ h3)) (big _ h4) (by omega)) ca_M_92 im_M_multiply se_M_multiply rfl (by decide) hm_0 rfl rfl (by decide) (Nat.le_of_ble_eq_true rfl) d_M_product_57 (fun o h1 hp => ?_)
  obtain ⟨T7, rfl, rfl, hV7, hN7⟩ := hp
  refine z_vret K hr hlk d_M_product_60 ⟨_, rfl, rfl, ⟨u4, u1 * u2 * u3, u1 * u2, hV7.cong (fun q _ _ => ?_)⟩, hN7.trans (hN6.trans (hN5.trans (hN4.trans (hN3.trans (hN2.trans hN1)))))⟩
  simp only [iu]
  by_cases a0 : q = r
  · simp [a0]
  · by_cases a1 : q = 47
    · simp [a0, a1]
    · by_cases a2 : q = 48
      · simp [a0, a2]
      · by_cases a3 : q = 49
        · simp [a0, a3]
        · simp [a0, a1, a2, a3]
end M13
