/-! all registers at once: V tells what each holds -/
def RV (T : mT) (V : Int → Int) : Prop := ∀ r : Int, 0 ≤ r → r < 56 → ∃ n : Nat, Rg T r n (V r)
/-- so many cells are enough for it -/
def lt9 (v : Int) (m : Nat) : Prop := (v.natAbs : Int) < BS ^ m
theorem lt9_u {v : Int} {m : Nat} (h : lt9 v m) : (v.natAbs : Int) < BS ^ m := h
theorem lt9_mono {v : Int} {m n : Nat} (h : lt9 v m) (hm : m ≤ n) : lt9 v n := Int.lt_of_lt_of_le h (BS_mono hm)
theorem lt9_mul {v w : Int} {m n : Nat} (h : lt9 v m) (h' : lt9 w n) : lt9 (v * w) (m + n) := by
  show ((v * w).natAbs : Int) < _
  rw [Int.natAbs_mul, Int.pow_add]
  have h1 := BS_pos m
  have h2 := BS_pos n
  have h3 : (v.natAbs : Int) * (w.natAbs : Int) ≤ (v.natAbs : Int) * BS ^ n := Int.mul_le_mul_of_nonneg_left (Int.le_of_lt h') (by omega)
  have h4 : (v.natAbs : Int) * BS ^ n < BS ^ m * BS ^ n := Int.mul_lt_mul_of_pos_right h h2
  rw [Int.natCast_mul]
  omega
theorem lt9_add {v w : Int} {m n : Nat} (h : lt9 v m) (h' : lt9 w n) : lt9 (v + w) (max m n + 1) := by
  have h1 := lt9_u (lt9_mono h (Nat.le_max_left m n))
  have h2 := lt9_u (lt9_mono h' (Nat.le_max_right m n))
  have h3 : ((v + w).natAbs : Int) ≤ v.natAbs + w.natAbs := by omega
  show ((v + w).natAbs : Int) < _
  rw [Int.pow_succ]
  have := BS_pos (max m n)
  show _ < BS ^ (max m n) * 1000000000
  omega
theorem lt9_sub {v w : Int} {m n : Nat} (h : lt9 v m) (h' : lt9 w n) : lt9 (v - w) (max m n + 1) := by
  have := lt9_add (w := -w) h (by show ((-w).natAbs : Int) < _; rw [Int.natAbs_neg]; exact h')
  rwa [← Int.sub_eq_add_neg] at this
theorem RV.up {T T' : mT} {V : Int → Int} {r v : Int} {n : Nat} (h : RV T V) (hr : Rg T' r n v) (hf : Fr [r] T T') : RV T' (iu V r v) := fun q h0 h1 => by
  by_cases hq : q = r
  · subst hq; rw [iu_self]; exact ⟨n, hr⟩
  · obtain ⟨m, hm⟩ := h q h0 h1
    rw [iu_ne _ _ hq]
    exact ⟨m, hm.fr hf (by simp [hq])⟩
theorem RV.lt {T : mT} {V : Int → Int} {r : Int} {n m : Nat} (hr : Rg T r n (V r)) (hl : lt9 (V r) m) : n ≤ m := hr.le (by exact hl)
theorem zMet_imp {l : Launch} {G : zG} {b0 maxL d lw mc ms : Nat} {y : MethodName} {code : ByteArray} {ret : Option FieldType} {as : List Value} {h : zH} {post post' : Option Value → zH → Prop} (hM : zMet l G b0 y code maxL ret d lw mc ms as h post) (hi : ∀ r h', post r h' → post' r h') : zMet l G b0 y code maxL ret d lw mc ms as h post' := fun p e h1 h2 h3 s m args below h4 h5 h6 h7 => by
  obtain ⟨n, o, a1, a2, a3, ⟨⟨⟨r, h', e1, e2, e3⟩, e4⟩, e5⟩⟩ := hM p e h1 h2 h3 s m args below h4 h5 h6 h7
  exact ⟨n, o, a1, a2, a3, ⟨⟨⟨r, h', e1, hi r h' e2, e3⟩, e4⟩, e5⟩⟩
theorem td_nat (a b : Nat) : (a : Int).tdiv b = (a : Int).sign * (b : Int).sign * ((a : Int) / (b : Int)) := by
  rw [Int.tdiv_eq_ediv_of_nonneg (by omega)]
  by_cases ha : a = 0
  · subst ha; simp
  · by_cases hb : b = 0
    · subst hb; simp
    · rw [Int.sign_eq_one_of_pos (show (0 : Int) < a by omega), Int.sign_eq_one_of_pos (show (0 : Int) < b by omega)]; omega
theorem td_abs (x y : Int) : x.tdiv y = x.sign * y.sign * ((x.natAbs : Int) / (y.natAbs : Int)) := by
  obtain ⟨a, rfl | rfl⟩ := Int.eq_nat_or_neg x <;> obtain ⟨b, rfl | rfl⟩ := Int.eq_nat_or_neg y
  · exact td_nat a b
  · rw [Int.tdiv_neg, td_nat, Int.sign_neg, Int.natAbs_neg]; simp only [Int.natAbs_natCast]; grind
  · rw [Int.neg_tdiv, td_nat, Int.sign_neg, Int.natAbs_neg]; simp only [Int.natAbs_natCast]; grind
  · rw [Int.neg_tdiv, Int.tdiv_neg, td_nat, Int.sign_neg, Int.sign_neg, Int.natAbs_neg, Int.natAbs_neg]; simp only [Int.natAbs_natCast]; grind
theorem gcd_tm (x y : Int) : Int.gcd (x.tmod y) y = Int.gcd x y := by
  have h := Int.tmod_add_mul_tdiv x y
  have h2 := Int.gcd_add_mul_left_left y (x.tmod y) (x.tdiv y)
  rw [h] at h2
  exact h2.symm
section M12
variable {p : Program} {l : Launch} {e : Env} {R : Room} {s : State} {m : MethodId} {args : Array Value} {below : List Frame} {meth : Method} {c : Code} {Q : State → Prop} {b0 kc ks : Nat} {G : zG} {h : zH} {a : Nat} {cd : Int}
theorem v_M_set (l : Launch) (G : zG) (b0 : Nat) (h : zH) (a : Nat) (cd : Int) (T : mT) {V : Int → Int} {r v : Int} (hV : RV T V) (hr0 : 0 ≤ r ∧ r < 56) (hv : i64 v) : mMet l G b0 y_M_set b_M_set 6 none 0 0 h a cd [.int (jI r), .long (kI v)] T (fun o T' => o = none ∧ RV T' (iu V r v) ∧ T'.2.2.2 = T.2.2.2) := by
  have hc := c_M_set l G b0 h a cd T hr0 hv
  refine zMet_imp hc (fun o h' hp => ?_)
  obtain ⟨T1, e, rfl, ⟨n, _, h1⟩, h2⟩ := hp
  exact ⟨T1, e, rfl, hV.up h1 h2, h2.1⟩
theorem v_M_copy (l : Launch) (G : zG) (b0 : Nat) (h : zH) (a : Nat) (cd : Int) (T : mT) {V : Int → Int} {f t : Int} (hV : RV T V) (hf : 0 ≤ f ∧ f < 56) (ht : 0 ≤ t ∧ t < 56) : mMet l G b0 y_M_copy b_M_copy 4 none 0 0 h a cd [.int (jI f), .int (jI t)] T (fun o T' => o = none ∧ RV T' (iu V t (V f)) ∧ T'.2.2.2 = T.2.2.2) := by
  obtain ⟨n, hn⟩ := hV f hf.1 hf.2
  refine zMet_imp (c_M_copy l G b0 h a cd T hf ht hn) (fun o h' hp => ?_)
  obtain ⟨T1, e, rfl, h1, h2⟩ := hp
  exact ⟨T1, e, rfl, hV.up h1 h2, h2.1⟩
theorem v_M_isSame (l : Launch) (G : zG) (b0 : Nat) (h : zH) (a : Nat) (cd : Int) (T : mT) {V : Int → Int} {x y : Int} (hV : RV T V) (hx0 : 0 ≤ x ∧ x < 56) (hy0 : 0 ≤ y ∧ y < 56) : mMet l G b0 y_M_isSame b_M_isSame 3 (some .boolean) 1 23 h a cd [.int (jI x), .int (jI y)] T (fun o T' => T = T' ∧ o = some (.int (jI (if V x = V y then 1 else 0)))) := by
  obtain ⟨n, hn⟩ := hV x hx0.1 hx0.2
  obtain ⟨m, hm1⟩ := hV y hy0.1 hy0.2
  exact c_M_isSame l G b0 h a cd T hx0 hy0 hn hm1
/-- V: r := x + sg y -/
theorem v_M_add (l : Launch) (G : zG) (b0 : Nat) (h : zH) (a : Nat) (cd : Int) (T : mT) {V : Int → Int} {r x y sg : Int} (hV : RV T V) (hr0 : 0 ≤ r ∧ r < 56) (hx0 : 0 ≤ x ∧ x < 56) (hy0 : 0 ≤ y ∧ y < 56) (hs : sg = 1 ∨ sg = -1) (hb1 : lt9 (V x) 458) (hb2 : lt9 (V y) 458) : mMet l G b0 y_M_add b_M_add 7 none 2 52 h a cd [.int (jI r), .int (jI x), .int (jI y), .int (jI sg)] T (fun o T' => o = none ∧ RV T' (iu V r (V x + sg * V y)) ∧ T'.2.2.2 = T.2.2.2) := by
  obtain ⟨n, hn⟩ := hV x hx0.1 hx0.2
  obtain ⟨m, hm1⟩ := hV y hy0.1 hy0.2
  refine zMet_imp (c_M_add l G b0 h a cd T hr0 hx0 hy0 hn hm1 hs (RV.lt hn hb1) (RV.lt hm1 hb2)) (fun o h' hp => ?_)
  obtain ⟨T1, e, rfl, ⟨N, _, h1⟩, h2⟩ := hp
  exact ⟨T1, e, rfl, hV.up h1 h2, h2.1⟩
/-- V: r := x y -/
theorem v_M_multiply (l : Launch) (G : zG) (b0 : Nat) (h : zH) (a : Nat) (cd : Int) (T : mT) {V : Int → Int} {r x y : Int} {m n : Nat} (hV : RV T V) (hr0 : 0 ≤ r ∧ r < 56) (hx0 : 0 ≤ x ∧ x < 56) (hy0 : 0 ≤ y ∧ y < 56) (hrx : r ≠ x) (hry : r ≠ y) (hb1 : lt9 (V x) m) (hb2 : lt9 (V y) n) (hmn : m + n ≤ 459) : mMet l G b0 y_M_multiply b_M_multiply 13 none 1 23 h a cd [.int (jI r), .int (jI x), .int (jI y)] T (fun o T' => o = none ∧ RV T' (iu V r (V x * V y)) ∧ T'.2.2.2 = T.2.2.2) := by
  obtain ⟨n1, hn⟩ := hV x hx0.1 hx0.2
  obtain ⟨n2, hm1⟩ := hV y hy0.1 hy0.2
  refine zMet_imp (c_M_multiply l G b0 h a cd T hr0 hx0 hy0 hrx hry hn hm1 (by have := RV.lt hn hb1; have := RV.lt hm1 hb2; omega)) (fun o h' hp => ?_)
  obtain ⟨T1, e, rfl, ⟨N, _, h1⟩, h2⟩ := hp
  exact ⟨T1, e, rfl, hV.up h1 h2, h2.1⟩
/-- V: x := x rem y, q := |x| / |y| where q is a register -/
theorem v_M_divide (l : Launch) (G : zG) (b0 : Nat) (h : zH) (a : Nat) (cd : Int) (T : mT) {V : Int → Int} {q x y : Int} (hV : RV T V) (hq : q = -1 ∨ (0 ≤ q ∧ q < 56 ∧ q ≠ x ∧ q ≠ y)) (hx0 : 0 ≤ x ∧ x < 56) (hy0 : 0 ≤ y ∧ y < 56) (hxy : x ≠ y) (hw : V y ≠ 0) (hb : lt9 (V x) 457) : mMet l G b0 y_M_divide b_M_divide 10 none 2 50 h a cd [.int (jI q), .int (jI x), .int (jI y)] T (fun o T' => o = none ∧ RV T' (iu (iu V x ((V x).tmod (V y))) q (((V x).natAbs : Int) / ((V y).natAbs : Int))) ∧ T'.2.2.2 = T.2.2.2) := by
  obtain ⟨n1, hn⟩ := hV x hx0.1 hx0.2
  obtain ⟨n2, hm1⟩ := hV y hy0.1 hy0.2
  refine zMet_imp (c_M_divide l G b0 h a cd T hq hx0 hy0 hxy hn hm1 hw (RV.lt hn hb)) (fun o h' hp => ?_)
  obtain ⟨T1, e, rfl, h1, ⟨N2, h2⟩, ⟨N3, h3⟩, h4⟩ := hp
  refine ⟨T1, e, rfl, fun r r0 r1 => ?_, h4.1⟩
  by_cases e1 : r = q
  · subst e1; rw [iu_self]; exact h1 r0
  · rw [iu_ne _ _ e1]
    by_cases e2 : r = x
    · subst e2; rw [iu_self]; exact ⟨N2, h2⟩
    · rw [iu_ne _ _ e2]
      by_cases e3 : r = y
      · subst e3; exact ⟨N3, h3⟩
      · obtain ⟨m, hm2⟩ := hV r r0 r1
        exact ⟨m, hm2.fr h4 (by simp [e1, e2, e3])⟩
/-- signs[r] := s, where r holds something else than 0 -/
theorem RV.sign {T : mT} {V : Int → Int} {r sv : Int} (hV : RV T V) (hr : 0 ≤ r ∧ r < 56) (hv : V r ≠ 0 ∨ sv = 0) (hs : sv = 1 ∨ sv = -1 ∨ sv = 0 ∧ V r = 0) : RV (T.1, T.2.1, iu T.2.2.1 r sv, T.2.2.2) (iu V r (sv * (V r).natAbs)) := fun q h0 h1 => by
  by_cases hq : q = r
  · subst hq
    rw [iu_self]
    obtain ⟨n, k1, k2, k3, k4, k5, k6⟩ := hV q h0 h1
    refine ⟨n, k1, k2, k3, k4, ?_, ?_⟩
    · show iu T.2.2.1 q sv q = _
      rw [iu_self, Int.sign_mul]
      rcases hs with rfl | rfl | ⟨rfl, z⟩
      · rw [Int.sign_eq_one_of_pos (show (0 : Int) < ((V q).natAbs : Int) by omega)]; rfl
      · rw [Int.sign_eq_one_of_pos (show (0 : Int) < ((V q).natAbs : Int) by omega)]; rfl
      · simp
    · rw [← k6, Int.natAbs_mul]
      rcases hs with rfl | rfl | ⟨rfl, z⟩
      · simp
      · simp
      · rw [z]; simp
  · obtain ⟨n, k⟩ := hV q h0 h1
    rw [iu_ne _ _ hq]
    exact ⟨n, k.fr (rs := [r]) (Fr.of2 (r := r) (zv := 0) _ (by simp) (Or.inr rfl) (Or.inl rfl) (fun z _ => rfl)) (by simp [hq])⟩
set_option maxHeartbeats 4000000 in
set_option maxRecDepth 100000 in
/-- share(r, x, y): V: r := x / y, cut towards 0; the registers 53 and 54 are used up -/
theorem v_M_share (l : Launch) (G : zG) (b0 : Nat) (h : zH) (a : Nat) (cd : Int) (T : mT) {V : Int → Int} {r x y : Int} (hV : RV T V) (hr0 : 0 ≤ r ∧ r < 53) (hx0 : 0 ≤ x ∧ x < 53) (hy0 : 0 ≤ y ∧ y < 53) (hw : V y ≠ 0) (hb : lt9 (V x) 457) : mMet l G b0 y_M_share b_M_share 5 none 3 79 h a cd [.int (jI r), .int (jI x), .int (jI y)] T (fun o T' => o = none ∧ (∃ g1 g2 : Int, RV T' (iu (iu (iu V 53 g1) 54 g2) r ((V x).tdiv (V y)))) ∧ T'.2.2.2 = T.2.2.2) :=
  z_met (by decide) (Nat.le_of_ble_eq_true rfl) fun p e s m below meth c K hr hlk hnm => by
  obtain ⟨n1, hn⟩ := hV x hx0.1 (by omega)
  obtain ⟨n2, hm1⟩ := hV y hy0.1 (by omega)
  have s1 := sgn3 (V x)
  have s2 := sgn3 (V y)
  refine z_aload_n K d_M_share_0 rfl ?_
  refine zm_get K fd_M_16 rfl d_M_share_1 ?_
  refine z_iload_n K d_M_share_4 rfl ?_
  refine zm_sld K (by omega) d_M_share_5 ?_
  refine z_aload_n K d_M_share_6 rfl ?_
  refine zm_get K fd_M_16 rfl d_M_share_7 ?_
  refine z_iload_n K d_M_share_10 rfl ?_
  refine zm_sld K (by omega) d_M_share_11 ?_
  refine zi_imul K d_M_share_12 ?_
  rw [hn.2.2.2.2.1, hm1.2.2.2.2.1]
  refine z_istore K d_M_share_13 (by decide) ?_
  refine z_aload_n K d_M_share_15 rfl ?_
  refine z_iload_n K d_M_share_16 rfl ?_
  refine z_bipush (v := jI 53) K d_M_share_17 rfl ?_
  refine z_callV (ci := 0) (As := [.int (jI x), .int (jI 53)]) K (v_M_copy l G b0 h a cd T hV ⟨hx0.1, by omega⟩ ⟨by omega, by omega⟩) ca_M_40 im_M_copy se_M_copy rfl (by decide) hm_0 rfl rfl (by decide) (Nat.le_of_ble_eq_true rfl) d_M_share_19 (fun o h1 hp => ?_)
  obtain ⟨T1, rfl, rfl, hV1, hN1⟩ := hp
  refine z_aload_n K d_M_share_22 rfl ?_
  refine z_iload_n K d_M_share_23 rfl ?_
  refine z_bipush (v := jI 54) K d_M_share_24 rfl ?_
  refine z_callV (ci := 0) (As := [.int (jI y), .int (jI 54)]) K (v_M_copy l G b0 h a cd T1 hV1 ⟨hy0.1, by omega⟩ ⟨by omega, by omega⟩) ca_M_40 im_M_copy se_M_copy rfl (by decide) hm_0 rfl rfl (by decide) (Nat.le_of_ble_eq_true rfl) d_M_share_26 (fun o h1 hp => ?_)
  obtain ⟨T2, rfl, rfl, hV2, hN2⟩ := hp
  rw [iu_ne _ _ (show y ≠ 53 by omega)] at hV2
  have e1 : iu (iu V 53 (V x)) 54 (V y) 53 = V x := by rw [iu_ne _ _ (by decide), iu_self]
  have e2 : iu (iu V 53 (V x)) 54 (V y) 54 = V y := iu_self _ _ _
  refine z_aload_n K d_M_share_29 rfl ?_
  refine z_iload_n K d_M_share_30 rfl ?_
  refine z_bipush (v := jI 53) K d_M_share_31 rfl ?_
  refine z_bipush (v := jI 54) K d_M_share_33 rfl ?_
  refine z_callV (ci := 0) (As := [.int (jI r), .int (jI 53), .int (jI 54)]) K (v_M_divide l G b0 h a cd T2 hV2 (Or.inr ⟨hr0.1, by omega, by omega, by omega⟩) ⟨by omega, by omega⟩ ⟨by omega, by omega⟩ (by decide) (by rw [e2]; exact hw) (by rw [e1]; exact hb)) ca_M_66 im_M_divide se_M_divide rfl (by decide) hm_0 rfl rfl (by decide) (Nat.le_of_ble_eq_true rfl) d_M_share_35 (fun o h1 hp => ?_)
  obtain ⟨T3, rfl, rfl, hV3, hN3⟩ := hp
  rw [e1, e2] at hV3
  have hsw : iu (iu (iu (iu V 53 (V x)) 54 (V y)) 53 ((V x).tmod (V y))) r (((V x).natAbs : Int) / ((V y).natAbs : Int)) = iu (iu (iu V 53 ((V x).tmod (V y))) 54 (V y)) r (((V x).natAbs : Int) / ((V y).natAbs : Int)) := by
    congr 1
    funext z
    simp only [iu]
    by_cases a1 : z = 53
    · rw [if_pos a1, if_neg (by omega), if_pos a1]
    · rw [if_neg a1, if_neg a1, if_neg a1]
  rw [hsw] at hV3
  obtain ⟨n3, hn3⟩ := hV3 r hr0.1 (by omega)
  rw [iu_self] at hn3
  have hq0 : 0 ≤ ((V x).natAbs : Int) / ((V y).natAbs : Int) := Int.ediv_nonneg (by omega) (by omega)
  have htd := td_abs (V x) (V y)
  refine z_aload_n K d_M_share_38 rfl ?_
  refine zm_get K fd_M_16 rfl d_M_share_39 ?_
  refine z_iload_n K d_M_share_42 rfl ?_
  refine z_aload_n K d_M_share_43 rfl ?_
  refine zm_get K fd_M_16 rfl d_M_share_44 ?_
  refine z_iload_n K d_M_share_47 rfl ?_
  refine zm_sld K (by omega) d_M_share_48 ?_
  have s3 := sgn3 (((V x).natAbs : Int) / ((V y).natAbs : Int))
  rw [hn3.2.2.2.2.1]
  refine zi_if_ne (tgt := 56) K d_M_share_49 (by decide) (by omega) (fun hc => ?_) (fun hc => ?_)
  · refine z_iload K d_M_share_56 rfl ?_
    refine zm_sst K (by omega) d_M_share_58 ?_
    have hqn : ((V x).natAbs : Int) / ((V y).natAbs : Int) ≠ 0 := fun z => hc (by rw [z]; rfl)
    have hxn : V x ≠ 0 := fun z => hqn (by rw [z]; simp)
    have sx : (V x).sign ≠ 0 := fun z => hxn (Int.sign_eq_zero_iff_zero.mp z)
    have sy : (V y).sign ≠ 0 := fun z => hw (Int.sign_eq_zero_iff_zero.mp z)
    have hsv : (V x).sign * (V y).sign = 1 ∨ (V x).sign * (V y).sign = -1 := by
      rcases s1 with s1 | s1 | s1 <;> rcases s2 with s2 | s2 | s2 <;> rw [s1, s2] <;> simp_all
    have := RV.sign (r := r) (sv := (V x).sign * (V y).sign) hV3 ⟨hr0.1, by omega⟩ (Or.inl (by rw [iu_self]; exact hqn)) (by omega)
    rw [iu_self, iu_iu] at this
    refine z_vret K hr hlk d_M_share_59 ⟨_, rfl, rfl, ⟨(V x).tmod (V y), V y, ?_⟩, ?_⟩
    · rw [htd]
      have e5 : (((((V x).natAbs : Int) / ((V y).natAbs : Int)).natAbs : Nat) : Int) = ((V x).natAbs : Int) / ((V y).natAbs : Int) := by omega
      rw [e5] at this
      exact this
    · exact hN3.trans (hN2.trans hN1)
  · have hq2 : ((V x).natAbs : Int) / ((V y).natAbs : Int) = 0 := Int.sign_eq_zero_iff_zero.mp hc
    refine z_iconst (v := jI 0) K d_M_share_52 rfl ?_
    refine z_goto (tgt := 58) K d_M_share_53 (by decide) ?_
    refine zm_sst K (by omega) d_M_share_58 ?_
    have := RV.sign (r := r) (sv := 0) hV3 ⟨hr0.1, by omega⟩ (Or.inr rfl) (Or.inr (Or.inr ⟨rfl, by rw [iu_self]; exact hq2⟩))
    rw [iu_self, iu_iu, Int.zero_mul] at this
    refine z_vret K hr hlk d_M_share_59 ⟨_, rfl, rfl, ⟨(V x).tmod (V y), V y, ?_⟩, ?_⟩
    · rw [htd, hq2, Int.mul_zero]
      exact this
    · exact hN3.trans (hN2.trans hN1)
theorem RV.cong {T : mT} {V W : Int → Int} (h : RV T V) (e : ∀ r : Int, 0 ≤ r → r < 56 → V r = W r) : RV T W := fun r h0 h1 => by rw [← e r h0 h1]; exact h r h0 h1
set_option maxHeartbeats 4000000 in
set_option maxRecDepth 100000 in
theorem lp_M_common (K : zC p s m args c b_M_common R_M 4 b0 G) (hRm : 3 ≤ R.frames ∧ 79 ≤ R.locals ∧ kc ≤ R.cells ∧ ks ≤ R.slots) {V : Int → Int} {x0 y0 : Int} {N : Int → Int} (hx : ∀ (T' : mT) (g1 g2 : Int), RV T' (iu (iu V 51 g1) 52 g2) → T'.2.2.2 = N → ∀ tn : Int, (tn = 0 ∧ g2 = 0 ∧ (g1.natAbs : Int) = Int.gcd x0 y0 ∨ tn = 1 ∧ g1 = 0 ∧ (g2.natAbs : Int) = Int.gcd x0 y0) → zW p l e R s m args below meth c 4 b0 G kc ks Q (hm G h a cd T') 75 [(0, .ref a), (3, .int (jI tn))] []) :
    ∀ (j : Nat) (T : mT) (g1 g2 tn : Int), RV T (iu (iu V 51 g1) 52 g2) → T.2.2.2 = N → (tn = 0 ∧ g2.natAbs < j ∨ tn = 1 ∧ g1.natAbs < j) → Int.gcd g1 g2 = Int.gcd x0 y0 → lt9 g1 457 → lt9 g2 457 →
      zW p l e R s m args below meth c 4 b0 G kc ks Q (hm G h a cd T) 16 [(0, .ref a), (3, .int (jI tn))] [] := by
  intro j
  induction j with
  | zero => intro T g1 g2 tn hV hN ht; omega
  | succ j ih =>
    intro T g1 g2 tn hV hN ht hg hb1 hb2
    have e1 : iu (iu V 51 g1) 52 g2 51 = g1 := by rw [iu_ne _ _ (by decide), iu_self]
    have e2 : iu (iu V 51 g1) 52 g2 52 = g2 := iu_self _ _ _
    obtain ⟨n1, k1⟩ := hV 51 (by omega) (by omega)
    obtain ⟨n2, k2⟩ := hV 52 (by omega) (by omega)
    rw [e1] at k1
    rw [e2] at k2
    have s1 := sgn3 g1
    have s2 := sgn3 g2
    rcases ht with ⟨rfl, ht⟩ | ⟨rfl, ht⟩
    · refine z_aload_n K d_M_common_16 rfl ?_
      refine zm_get K fd_M_16 rfl d_M_common_17 ?_
      refine z_iload_n K d_M_common_20 rfl ?_
      refine zi_if_eq (tgt := 29) K d_M_common_21 (by decide) (by omega) (fun _ => ?_) (fun hc => absurd rfl hc)
      refine z_bipush (v := jI 52) K d_M_common_29 rfl ?_
      refine zm_sld K (by omega) d_M_common_31 ?_
      rw [k2.2.2.2.2.1]
      refine zi_if_eq (tgt := 75) K d_M_common_32 (by decide) (by omega) (fun hc => ?_) (fun hc => ?_)
      · have hz : g2 = 0 := Int.sign_eq_zero_iff_zero.mp hc
        subst hz
        refine hx T g1 0 hV hN 0 (Or.inl ⟨rfl, rfl, ?_⟩)
        rw [← hg, Int.gcd_zero_right]
      · have hz : g2 ≠ 0 := fun z => hc (by rw [z]; rfl)
        refine z_aload_n K d_M_common_35 rfl ?_
        refine z_iconst (v := jI (-1)) K d_M_common_36 rfl ?_
        refine z_iload_n K d_M_common_37 rfl ?_
        refine zi_if_eq (tgt := 46) K d_M_common_38 (by decide) (by omega) (fun _ => ?_) (fun hc => absurd rfl hc)
        refine z_bipush (v := jI 51) K d_M_common_46 rfl ?_
        refine z_iload_n K d_M_common_48 rfl ?_
        refine zi_if_eq (tgt := 57) K d_M_common_49 (by decide) (by omega) (fun _ => ?_) (fun hc => absurd rfl hc)
        refine z_bipush (v := jI 52) K d_M_common_57 rfl ?_
        refine z_callV (ci := 0) (As := [.int (jI (-1)), .int (jI 51), .int (jI 52)]) K (v_M_divide l G b0 h a cd T hV (Or.inl rfl) ⟨by omega, by omega⟩ ⟨by omega, by omega⟩ (by decide) (by rw [e2]; exact hz) (by rw [e1]; exact hb1)) ca_M_66 im_M_divide se_M_divide rfl (by decide) hm_0 rfl rfl (by omega) (Nat.le_of_ble_eq_true rfl) d_M_common_59 (fun o h1 hp => ?_)
        obtain ⟨T1, rfl, rfl, hV1, hN1⟩ := hp
        rw [e1, e2] at hV1
        refine z_iload_n K d_M_common_62 rfl ?_
        refine zi_if_ne (tgt := 70) K d_M_common_63 (by decide) (by omega) (fun hc => absurd rfl hc) (fun _ => ?_)
        refine z_iconst (v := jI 1) K d_M_common_66 rfl ?_
        refine z_goto (tgt := 71) K d_M_common_67 (by decide) ?_
        refine z_istore_n K d_M_common_71 (by decide) ?_
        refine z_goto (tgt := 16) K d_M_common_72 (by decide) ?_
        refine z_re [0, 3] rfl ?_
        have hmm := tm_nat g1 g2
        have hlt : (g1.tmod g2).natAbs < g2.natAbs := by rw [Int.natAbs_tmod]; exact Nat.mod_lt _ (by omega)
        refine ih T1 (g1.tmod g2) g2 1 (hV1.cong (fun r h0 h1 => ?_)) (hN1.trans hN) (Or.inr ⟨rfl, by omega⟩) ?_ ?_ hb2
        · simp only [iu]
          rw [if_neg (show r ≠ -1 by omega)]
          by_cases a1 : r = 51
          · rw [if_pos a1, if_neg (by omega), if_pos a1]
          · simp [a1]
        · rw [← hg, gcd_tm]
        · show ((g1.tmod g2).natAbs : Int) < _
          have : (g2.natAbs : Int) < BS ^ 457 := hb2
          omega
    · refine z_aload_n K d_M_common_16 rfl ?_
      refine zm_get K fd_M_16 rfl d_M_common_17 ?_
      refine z_iload_n K d_M_common_20 rfl ?_
      refine zi_if_eq (tgt := 29) K d_M_common_21 (by decide) (by omega) (fun hc => absurd hc (by decide)) (fun _ => ?_)
      refine z_bipush (v := jI 51) K d_M_common_24 rfl ?_
      refine z_goto (tgt := 31) K d_M_common_26 (by decide) ?_
      refine zm_sld K (by omega) d_M_common_31 ?_
      rw [k1.2.2.2.2.1]
      refine zi_if_eq (tgt := 75) K d_M_common_32 (by decide) (by omega) (fun hc => ?_) (fun hc => ?_)
      · have hz : g1 = 0 := Int.sign_eq_zero_iff_zero.mp hc
        subst hz
        refine hx T 0 g2 hV hN 1 (Or.inr ⟨rfl, rfl, ?_⟩)
        rw [← hg, Int.gcd_zero_left]
      · have hz : g1 ≠ 0 := fun z => hc (by rw [z]; rfl)
        refine z_aload_n K d_M_common_35 rfl ?_
        refine z_iconst (v := jI (-1)) K d_M_common_36 rfl ?_
        refine z_iload_n K d_M_common_37 rfl ?_
        refine zi_if_eq (tgt := 46) K d_M_common_38 (by decide) (by omega) (fun hc => absurd hc (by decide)) (fun _ => ?_)
        refine z_bipush (v := jI 52) K d_M_common_41 rfl ?_
        refine z_goto (tgt := 48) K d_M_common_43 (by decide) ?_
        refine z_iload_n K d_M_common_48 rfl ?_
        refine zi_if_eq (tgt := 57) K d_M_common_49 (by decide) (by omega) (fun hc => absurd hc (by decide)) (fun _ => ?_)
        refine z_bipush (v := jI 51) K d_M_common_52 rfl ?_
        refine z_goto (tgt := 59) K d_M_common_54 (by decide) ?_
        refine z_callV (ci := 0) (As := [.int (jI (-1)), .int (jI 52), .int (jI 51)]) K (v_M_divide l G b0 h a cd T hV (Or.inl rfl) ⟨by omega, by omega⟩ ⟨by omega, by omega⟩ (by decide) (by rw [e1]; exact hz) (by rw [e2]; exact hb2)) ca_M_66 im_M_divide se_M_divide rfl (by decide) hm_0 rfl rfl (by omega) (Nat.le_of_ble_eq_true rfl) d_M_common_59 (fun o h1 hp => ?_)
        obtain ⟨T1, rfl, rfl, hV1, hN1⟩ := hp
        rw [e1, e2] at hV1
        refine z_iload_n K d_M_common_62 rfl ?_
        refine zi_if_ne (tgt := 70) K d_M_common_63 (by decide) (by omega) (fun _ => ?_) (fun hc => absurd hc (by decide))
        refine z_iconst (v := jI 0) K d_M_common_70 rfl ?_
        refine z_istore_n K d_M_common_71 (by decide) ?_
        refine z_goto (tgt := 16) K d_M_common_72 (by decide) ?_
        refine z_re [0, 3] rfl ?_
        have hlt : (g2.tmod g1).natAbs < g1.natAbs := by rw [Int.natAbs_tmod]; exact Nat.mod_lt _ (by omega)
        refine ih T1 g1 (g2.tmod g1) 0 (hV1.cong (fun r h0 h1 => ?_)) (hN1.trans hN) (Or.inl ⟨rfl, by omega⟩) ?_ hb1 ?_
        · simp only [iu]
          rw [if_neg (show r ≠ -1 by omega)]
          by_cases a1 : r = 52
          · rw [if_pos a1, if_pos a1]
          · rw [if_neg a1, if_neg a1, if_neg a1]
        · rw [← hg, Int.gcd_comm g1, gcd_tm, Int.gcd_comm]
        · show ((g2.tmod g1).natAbs : Int) < _
          have : (g1.natAbs : Int) < BS ^ 457 := hb1
          omega
set_option maxHeartbeats 4000000 in
set_option maxRecDepth 100000 in
/-- common(x, y): V: 51 := the greatest common divisor; 52 is used up -/
theorem v_M_common (l : Launch) (G : zG) (b0 : Nat) (h : zH) (a : Nat) (cd : Int) (T : mT) {V : Int → Int} {x y : Int} (hV : RV T V) (hx0 : 0 ≤ x ∧ x < 51) (hy0 : 0 ≤ y ∧ y < 51) (hnz : V x ≠ 0 ∨ V y ≠ 0) (hb1 : lt9 (V x) 457) (hb2 : lt9 (V y) 457) : mMet l G b0 y_M_common b_M_common 4 none 3 79 h a cd [.int (jI x), .int (jI y)] T (fun o T' => o = none ∧ (∃ g : Int, RV T' (iu (iu V 52 g) 51 (Int.gcd (V x) (V y)))) ∧ T'.2.2.2 = T.2.2.2) :=
  z_met (by decide) (Nat.le_of_ble_eq_true rfl) fun p e s m below meth c K hr hlk hnm => by
  refine z_aload_n K d_M_common_0 rfl ?_
  refine z_iload_n K d_M_common_1 rfl ?_
  refine z_bipush (v := jI 51) K d_M_common_2 rfl ?_
  refine z_callV (ci := 0) (As := [.int (jI x), .int (jI 51)]) K (v_M_copy l G b0 h a cd T hV ⟨hx0.1, by omega⟩ ⟨by omega, by omega⟩) ca_M_40 im_M_copy se_M_copy rfl (by decide) hm_0 rfl rfl (by decide) (Nat.le_of_ble_eq_true rfl) d_M_common_4 (fun o h1 hp => ?_)
  obtain ⟨T1, rfl, rfl, hV1, hN1⟩ := hp
  refine z_aload_n K d_M_common_7 rfl ?_
  refine z_iload_n K d_M_common_8 rfl ?_
  refine z_bipush (v := jI 52) K d_M_common_9 rfl ?_
  refine z_callV (ci := 0) (As := [.int (jI y), .int (jI 52)]) K (v_M_copy l G b0 h a cd T1 hV1 ⟨hy0.1, by omega⟩ ⟨by omega, by omega⟩) ca_M_40 im_M_copy se_M_copy rfl (by decide) hm_0 rfl rfl (by decide) (Nat.le_of_ble_eq_true rfl) d_M_common_11 (fun o h1 hp => ?_)
  obtain ⟨T2, rfl, rfl, hV2, hN2⟩ := hp
  rw [iu_ne _ _ (show y ≠ 51 by omega)] at hV2
  refine z_iconst (v := jI 0) K d_M_common_14 rfl ?_
  refine z_istore_n K d_M_common_15 (by decide) ?_
  refine z_re [0, 3] rfl ?_
  have gpos : 0 < Int.gcd (V x) (V y) := by
    rcases Nat.eq_zero_or_pos (Int.gcd (V x) (V y)) with z | z
    · rw [Int.gcd_eq_zero_iff] at z
      omega
    · exact z
  refine lp_M_common K ⟨Nat.le_refl _, Nat.le_refl _, Nat.le_refl _, Nat.le_refl _⟩ (V := V) (x0 := V x) (y0 := V y) (N := T.2.2.2) (fun T' g1 g2 hV3 hN3 tn ht => ?_) ((V y).natAbs + 1) T2 (V x) (V y) 0 hV2 (hN2.trans hN1) (Or.inl ⟨rfl, by omega⟩) rfl hb1 hb2
  have e1 : iu (iu V 51 g1) 52 g2 51 = g1 := by rw [iu_ne _ _ (by decide), iu_self]
  have e2 : iu (iu V 51 g1) 52 g2 52 = g2 := iu_self _ _ _
  refine z_iload_n K d_M_common_75 rfl ?_
  rcases ht with ⟨rfl, rfl, hg⟩ | ⟨rfl, rfl, hg⟩
  · refine zi_if_eq (tgt := 87) K d_M_common_76 (by decide) (by omega) (fun _ => ?_) (fun hc => absurd rfl hc)
    refine z_aload_n K d_M_common_87 rfl ?_
    refine zm_get K fd_M_16 rfl d_M_common_88 ?_
    refine z_bipush (v := jI 51) K d_M_common_91 rfl ?_
    refine z_iconst (v := jI 1) K d_M_common_93 rfl ?_
    refine zm_sst K (by omega) d_M_common_94 ?_
    have := RV.sign (r := 51) (sv := 1) hV3 ⟨by omega, by omega⟩ (Or.inl (by rw [e1]; omega)) (Or.inl rfl)
    rw [e1] at this
    refine z_vret K hr hlk d_M_common_95 ⟨_, rfl, rfl, ⟨0, this.cong (fun r h0 h1 => ?_)⟩, hN3⟩
    simp only [iu]
    by_cases a1 : r = 51
    · rw [if_pos a1, if_pos a1]; omega
    · simp [a1]
  · refine zi_if_eq (tgt := 87) K d_M_common_76 (by decide) (by omega) (fun hc => absurd hc (by decide)) (fun _ => ?_)
    refine z_aload_n K d_M_common_79 rfl ?_
    refine z_bipush (v := jI 52) K d_M_common_80 rfl ?_
    refine z_bipush (v := jI 51) K d_M_common_82 rfl ?_
    refine z_callV (ci := 0) (As := [.int (jI 52), .int (jI 51)]) K (v_M_copy l G b0 h a cd T' hV3 ⟨by omega, by omega⟩ ⟨by omega, by omega⟩) ca_M_40 im_M_copy se_M_copy rfl (by decide) hm_0 rfl rfl (by decide) (Nat.le_of_ble_eq_true rfl) d_M_common_84 (fun o h1 hp => ?_)
    obtain ⟨T4, rfl, rfl, hV4, hN4⟩ := hp
    rw [e2] at hV4
    refine z_aload_n K d_M_common_87 rfl ?_
    refine zm_get K fd_M_16 rfl d_M_common_88 ?_
    refine z_bipush (v := jI 51) K d_M_common_91 rfl ?_
    refine z_iconst (v := jI 1) K d_M_common_93 rfl ?_
    refine zm_sst K (by omega) d_M_common_94 ?_
    have := RV.sign (r := 51) (sv := 1) hV4 ⟨by omega, by omega⟩ (Or.inl (by rw [iu_self]; omega)) (Or.inl rfl)
    rw [iu_self] at this
    refine z_vret K hr hlk d_M_common_95 ⟨_, rfl, rfl, ⟨g2, this.cong (fun r h0 h1 => ?_)⟩, hN4.trans hN3⟩
    simp only [iu]
    by_cases a1 : r = 51
    · rw [if_pos a1, if_pos a1]; omega
    · simp [a1]
end M12
