theorem lt9_gcd {v w : Int} {m n : Nat} (hnz : v ≠ 0 ∨ w ≠ 0) (h : lt9 v m) (h' : lt9 w n) : lt9 ((Int.gcd v w : Nat) : Int) (max m n) := by
  show (((Int.gcd v w : Nat) : Int).natAbs : Int) < _
  rw [Int.natAbs_natCast]
  by_cases hv : v = 0
  · have hw : w ≠ 0 := by omega
    have := Int.gcd_le_natAbs_right v hw
    have := lt9_u (lt9_mono h' (Nat.le_max_right m n))
    omega
  · have := Int.gcd_le_natAbs_left w hv
    have := lt9_u (lt9_mono h (Nat.le_max_left m n))
    omega
theorem lt9_tdiv {v w : Int} {m : Nat} (h : lt9 v m) : lt9 (v.tdiv w) m := by
  show ((v.tdiv w).natAbs : Int) < _
  have h1 : (v.tdiv w).natAbs ≤ v.natAbs := by rw [Int.natAbs_tdiv]; exact Nat.div_le_self _ _
  have h2 : (v.natAbs : Int) < BS ^ m := h
  omega
theorem lt9_i64 {u : Int} (hu : i64 u) : lt9 u 3 := by
  show (u.natAbs : Int) < BS ^ 3
  have : BS ^ 3 = 1000000000000000000000000000 := by decide
  omega
theorem lt9_neg {v : Int} {m : Nat} (h : lt9 v m) : lt9 (-v) m := by
  show ((-v).natAbs : Int) < _
  rw [Int.natAbs_neg]; exact h
/-- a fraction in lowest terms, the lower part above 0 -/
def fUp (a b : Int) : Int := if b < 0 then -(a.tdiv (Int.gcd a b)) else a.tdiv (Int.gcd a b)
def fLo (a b : Int) : Int := if b < 0 then -(b.tdiv (Int.gcd a b)) else b.tdiv (Int.gcd a b)
theorem td_exact {a g : Int} (h : g ∣ a) : a.tdiv g * g = a := Int.tdiv_mul_cancel h
theorem gcd_pos2 {a b : Int} (hb : b ≠ 0) : 0 < ((Int.gcd a b : Nat) : Int) := by
  have := Int.gcd_pos_of_ne_zero_right a hb
  omega
theorem f_up (a b : Int) : (if b < 0 then -1 else 1) * a = fUp a b * (Int.gcd a b) := by
  have := td_exact (Int.gcd_dvd_left (a := a) (b := b))
  unfold fUp
  by_cases hb : b < 0
  · rw [if_pos hb, if_pos hb, Int.neg_mul (a.tdiv _), this]; omega
  · rw [if_neg hb, if_neg hb, this]; omega
theorem f_lo (a b : Int) : (if b < 0 then -1 else 1) * b = fLo a b * (Int.gcd a b) := by
  have := td_exact (Int.gcd_dvd_right (a := a) (b := b))
  unfold fLo
  by_cases hb : b < 0
  · rw [if_pos hb, if_pos hb, Int.neg_mul (b.tdiv _), this]; omega
  · rw [if_neg hb, if_neg hb, this]; omega
theorem f_pos {a b : Int} (hb : b ≠ 0) : 0 < fLo a b := by
  have h1 := f_lo a b
  have h2 := gcd_pos2 (a := a) hb
  have h3 : 0 < fLo a b * (Int.gcd a b) := by rw [← h1]; split <;> omega
  rcases Int.lt_trichotomy (fLo a b) 0 with q | q | q
  · have := Int.mul_neg_of_neg_of_pos q h2; omega
  · rw [q] at h3; omega
  · exact q
section M14
variable {p : Program} {l : Launch} {e : Env} {R : Room} {s : State} {m : MethodId} {args : Array Value} {below : List Frame} {meth : Method} {c : Code} {Q : State → Prop} {b0 kc ks : Nat} {G : zG} {h : zH} {a : Nat} {cd : Int}
set_option maxHeartbeats 4000000 in
set_option maxRecDepth 100000 in
/-- fraction(up, low, a, b): the fraction a / b in lowest terms -/
theorem v_M_fraction (l : Launch) (G : zG) (b0 : Nat) (h : zH) (a : Nat) (cd : Int) (T : mT) {V : Int → Int} {up lo u w : Int} (hV : RV T V) (hup : 0 ≤ up ∧ up < 45) (hlo : 0 ≤ lo ∧ lo < 45) (hne : up ≠ lo) (hu : i64 u) (hw : i64 w) (hw0 : w ≠ 0) :
    mMet l G b0 y_M_fraction b_M_fraction 7 none 4 103 h a cd [.int (jI up), .int (jI lo), .long (kI u), .long (kI w)] T (fun o T' => o = none ∧ (∃ V' : Int → Int, RV T' V' ∧ (∀ q : Int, q ≠ up → q ≠ lo → q < 45 ∨ q = 47 ∨ q = 48 ∨ q = 49 ∨ q = 50 → V' q = V q) ∧ V' up = fUp u w ∧ V' lo = fLo u w) ∧ T'.2.2.2 = T.2.2.2) :=
  z_met (by decide) (Nat.le_of_ble_eq_true rfl) fun p e s m below meth c K hr hlk hnm => by
  have g0 := gcd_pos2 (a := u) hw0
  refine z_aload_n K d_M_fraction_0 rfl ?_
  refine z_bipush (v := jI 45) K d_M_fraction_1 rfl ?_
  refine z_lload_n K d_M_fraction_3 rfl ?_
  refine z_callV (ci := 0) (As := [.int (jI 45), .long (kI u)]) K (v_M_set l G b0 h a cd T hV (by decide) hu) ca_M_26 im_M_set se_M_set rfl (by decide) hm_0 rfl rfl (by decide) (Nat.le_of_ble_eq_true rfl) d_M_fraction_4 (fun o h1 hp => ?_)
  obtain ⟨T1, rfl, rfl, hV1, hN1⟩ := hp
  refine z_aload_n K d_M_fraction_7 rfl ?_
  refine z_bipush (v := jI 46) K d_M_fraction_8 rfl ?_
  refine z_lload K d_M_fraction_10 rfl ?_
  refine z_callV (ci := 0) (As := [.int (jI 46), .long (kI w)]) K (v_M_set l G b0 h a cd T1 hV1 (by decide) hw) ca_M_26 im_M_set se_M_set rfl (by decide) hm_0 rfl rfl (by decide) (Nat.le_of_ble_eq_true rfl) d_M_fraction_12 (fun o h1 hp => ?_)
  obtain ⟨T2, rfl, rfl, hV2, hN2⟩ := hp
  refine z_aload_n K d_M_fraction_15 rfl ?_
  refine z_bipush (v := jI 45) K d_M_fraction_16 rfl ?_
  refine z_bipush (v := jI 46) K d_M_fraction_18 rfl ?_
  refine z_callV (ci := 0) (As := [.int (jI 45), .int (jI 46)]) K (w_M_common l G b0 h a cd T2 (v := u) (w := w) hV2 (by decide) (by decide) (by simp [iu]) (by simp [iu]) (Or.inr hw0) (lt9_i64 hu) (lt9_i64 hw) (by decide) (by decide)) ca_M_115 im_M_common se_M_common rfl (by decide) hm_0 rfl rfl (by decide) (Nat.le_of_ble_eq_true rfl) d_M_fraction_20 (fun o h1 hp => ?_)
  obtain ⟨T3, rfl, rfl, ⟨g3, hV3⟩, hN3⟩ := hp
  refine z_aload_n K d_M_fraction_23 rfl ?_
  refine z_iload_n K d_M_fraction_24 rfl ?_
  refine z_bipush (v := jI 45) K d_M_fraction_25 rfl ?_
  refine z_bipush (v := jI 51) K d_M_fraction_27 rfl ?_
  refine z_callV (ci := 0) (As := [.int (jI up), .int (jI 45), .int (jI 51)]) K (w_M_share l G b0 h a cd T3 (v := u) (w := Int.gcd u w) hV3 (by omega) (by decide) (by decide) (by simp [iu]) (by simp [iu]) (by omega) (lt9_i64 hu) (by decide)) ca_M_109 im_M_share se_M_share rfl (by decide) hm_0 rfl rfl (by decide) (Nat.le_of_ble_eq_true rfl) d_M_fraction_29 (fun o h1 hp => ?_)
  obtain ⟨T4, rfl, rfl, ⟨g4, g5, hV4⟩, hN4⟩ := hp
  refine z_aload_n K d_M_fraction_32 rfl ?_
  refine z_iload_n K d_M_fraction_33 rfl ?_
  refine z_bipush (v := jI 46) K d_M_fraction_34 rfl ?_
  refine z_bipush (v := jI 51) K d_M_fraction_36 rfl ?_
  refine z_callV (ci := 0) (As := [.int (jI lo), .int (jI 46), .int (jI 51)]) K (w_M_share l G b0 h a cd T4 (v := w) (w := Int.gcd u w) hV4 (by omega) (by decide) (by decide) (by rw [iu_ne _ _ (by omega)]; simp [iu]) (by rw [iu_ne _ _ (by omega)]; simp [iu]) (by omega) (lt9_i64 hw) (by decide)) ca_M_109 im_M_share se_M_share rfl (by decide) hm_0 rfl rfl (by decide) (Nat.le_of_ble_eq_true rfl) d_M_fraction_38 (fun o h1 hp => ?_)
  obtain ⟨T5, rfl, rfl, ⟨g6, g7, hV5⟩, hN5⟩ := hp
  have hN : T5.2.2.2 = T.2.2.2 := hN5.trans (hN4.trans (hN3.trans (hN2.trans hN1)))
  obtain ⟨W, hW⟩ : ∃ W : Int → Int, W = iu (iu (iu (iu (iu (iu (iu (iu (iu (iu V 45 u) 46 w) 52 g3) 51 (Int.gcd u w)) 53 g4) 54 g5) up (u.tdiv (Int.gcd u w))) 53 g6) 54 g7) lo (w.tdiv (Int.gcd u w)) := ⟨_, rfl⟩
  rw [← hW] at hV5
  have w1 : W lo = w.tdiv (Int.gcd u w) := by rw [hW, iu_self]
  have w2 : W up = u.tdiv (Int.gcd u w) := by rw [hW, iu_ne _ _ hne, iu_ne _ _ (by omega), iu_ne _ _ (by omega), iu_self]
  have w3 : ∀ q : Int, q ≠ up → q ≠ lo → q < 45 ∨ q = 47 ∨ q = 48 ∨ q = 49 ∨ q = 50 → W q = V q := fun q q1 q2 q3 => by
    rw [hW, iu_ne _ _ q2, iu_ne _ _ (by omega), iu_ne _ _ (by omega), iu_ne _ _ q1, iu_ne _ _ (by omega), iu_ne _ _ (by omega), iu_ne _ _ (by omega), iu_ne _ _ (by omega), iu_ne _ _ (by omega), iu_ne _ _ (by omega)]
  obtain ⟨n1, k1⟩ := hV5 lo hlo.1 (by omega)
  obtain ⟨n2, k2⟩ := hV5 up hup.1 (by omega)
  rw [w1] at k1
  rw [w2] at k2
  have s1 := sgn3 (w.tdiv (Int.gcd u w))
  have hlo2 := td_exact (Int.gcd_dvd_right (a := u) (b := w))
  refine z_aload_n K d_M_fraction_41 rfl ?_
  refine zm_get K fd_M_16 rfl d_M_fraction_42 ?_
  refine z_iload_n K d_M_fraction_45 rfl ?_
  refine zm_sld K (by omega) d_M_fraction_46 ?_
  rw [k1.2.2.2.2.1]
  refine zi_if_ge (tgt := 70) K d_M_fraction_47 (by decide) (by omega) (fun hc => ?_) (fun hc => ?_)
  · have hwp : ¬ w < 0 := fun z => by
      have h1 : (w.tdiv (Int.gcd u w)) * (Int.gcd u w) < 0 := by omega
      have h2 : w.tdiv (Int.gcd u w) < 0 := by
        rcases Int.lt_trichotomy (w.tdiv (Int.gcd u w)) 0 with q | q | q
        · exact q
        · rw [q] at h1; omega
        · have := Int.mul_pos q g0; omega
      rw [Int.sign_eq_neg_one_of_neg h2] at hc
      omega
    exact z_vret K hr hlk d_M_fraction_70 ⟨_, rfl, rfl, ⟨W, hV5, w3, by rw [w2]; unfold fUp; rw [if_neg hwp], by rw [w1]; unfold fLo; rw [if_neg hwp]⟩, hN⟩
  · have hneg : w.tdiv (Int.gcd u w) < 0 := Int.neg_of_sign_eq_neg_one (by omega)
    have hwn : w < 0 := by
      have : (w.tdiv (Int.gcd u w)) * (Int.gcd u w) < 0 := Int.mul_neg_of_neg_of_pos hneg g0
      omega
    refine z_aload_n K d_M_fraction_50 rfl ?_
    refine zm_get K fd_M_16 rfl d_M_fraction_51 ?_
    refine z_iload_n K d_M_fraction_54 rfl ?_
    refine z_iconst (v := jI 1) K d_M_fraction_55 rfl ?_
    refine zm_sst K (by omega) d_M_fraction_56 ?_
    have hV6 := RV.sign (r := lo) (sv := 1) hV5 ⟨hlo.1, by omega⟩ (Or.inl (by rw [w1]; omega)) (Or.inl rfl)
    refine z_aload_n K d_M_fraction_57 rfl ?_
    refine zm_get K fd_M_16 rfl d_M_fraction_58 ?_
    refine z_iload_n K d_M_fraction_61 rfl ?_
    refine z_aload_n K d_M_fraction_62 rfl ?_
    refine zm_get K fd_M_16 rfl d_M_fraction_63 ?_
    refine z_iload_n K d_M_fraction_66 rfl ?_
    refine zm_sld K (by omega) d_M_fraction_67 ?_
    dsimp only
    rw [iu_ne _ _ hne, k2.2.2.2.2.1]
    refine zi_ineg K d_M_fraction_68 ?_
    refine zm_sst K (by omega) d_M_fraction_69 ?_
    dsimp only
    have s2 := sgn3 (u.tdiv (Int.gcd u w))
    have e6 : iu W lo (1 * ((W lo).natAbs : Int)) up = u.tdiv (Int.gcd u w) := by rw [iu_ne _ _ hne, w2]
    have hV7 := RV.sign (r := up) (sv := -(u.tdiv (Int.gcd u w)).sign) hV6 ⟨hup.1, by omega⟩ (by
      rw [e6]
      by_cases z : u.tdiv (Int.gcd u w) = 0
      · right; rw [z]; rfl
      · left; exact z) (by
      rw [e6]
      rcases s2 with q | q | q
      · left; rw [q]; rfl
      · right; right; exact ⟨by rw [q]; rfl, Int.sign_eq_zero_iff_zero.mp q⟩
      · right; left; rw [q])
    rw [e6] at hV7
    refine z_vret K hr hlk d_M_fraction_70 ⟨_, rfl, rfl, ⟨_, hV7, fun q q1 q2 q3 => ?_, ?_, ?_⟩, hN⟩
    · rw [iu_ne _ _ q1, iu_ne _ _ q2]; exact w3 q q1 q2 q3
    · rw [iu_self, Int.neg_mul, Int.sign_mul_natAbs]; unfold fUp; rw [if_pos hwn]
    · rw [iu_ne _ _ (fun z => hne z.symm), iu_self, w1]; unfold fLo; rw [if_pos hwn]; omega
end M14
