theorem lead_div {low P X T T' two l3 : Int} (hP : 0 < P) (hl : 0 ≤ low ∧ low < P) (hX : X = l3 + 1000000000 * two) (hT : 0 < T) (hTT : T * T' = 1000000000) : (low + P * X) / (T * P) = two * T' + l3 / T := by
  have e1 : (low + P * X) / P = X := by
    rw [Int.add_mul_ediv_left _ _ (by omega), Int.ediv_eq_zero_of_lt hl.1 hl.2, Int.zero_add]
  have e2 : (low + P * X) / (T * P) = (low + P * X) / P / T := by
    rw [Int.mul_comm T P, Int.ediv_ediv, if_neg (by omega), Int.sub_zero]
  rw [e2, e1, hX, ← hTT, show l3 + T * T' * two = l3 + T * (T' * two) by grind, Int.add_mul_ediv_left _ _ (by omega)]
  grind
section D2
variable {p : Program} {l : Launch} {e : Env} {R : Room} {s : State} {m : MethodId} {args : Array Value} {below : List Frame} {meth : Method} {c : Code} {Q : State → Prop} {b0 kc ks : Nat} {G : zG} {h : zH} {a : Nat} {cd : Int}
set_option maxHeartbeats 4000000 in
set_option maxRecDepth 100000 in
theorem c_D_leading (l : Launch) (G : zG) (b0 : Nat) (h : zH) (a : Nat) (S : xS) {k n c0 t : Nat} {v : Int} (hk : isN k = true) (hv : NR S k n v) (hnc : n ≤ c0 + 3) (hc : c0 + 3 ≤ 112) (ht : 1 ≤ t ∧ t ≤ 9) (hb : (v.natAbs : Int) < ((10 ^ t : Nat) : Int) * BS ^ (c0 + 2)) : xMet l G b0 y_D_leading b_D_leading 6 (some .long) 1 21 h a [.ref (a + k), .int (jI ((c0 + 3 : Nat) : Int)), .int (jI t)] S (fun r S' => S = S' ∧ ∃ u : Int, r = some (.long (kI u)) ∧ u = (v.natAbs : Int) / (((10 ^ t : Nat) : Int) * BS ^ c0) ∧ 0 ≤ u ∧ u < 1000000000000000000) :=
  z_met (by decide) (Nat.le_of_ble_eq_true rfl) fun p e s m below meth c K hr hlk hnm => by
  obtain ⟨tb, hZ⟩ := K.pw
  have w1 := hv.lbd ((c0 + 2 : Nat) : Int)
  have w2 := hv.lbd ((c0 + 1 : Nat) : Int)
  have w3 := hv.lbd (c0 : Int)
  have hTT : 10 ^ t * 10 ^ (9 - t) = 1000000000 := by rw [← Nat.pow_add, show t + (9 - t) = 9 by omega]
  have hT1 : 10 ^ t ≤ 10 ^ 9 := ten_mono (by omega)
  have hT2 : 10 ^ (9 - t) ≤ 10 ^ 9 := ten_mono (by omega)
  have hT3 : 0 < 10 ^ t := Nat.pow_pos (by decide)
  have hT4 : 0 < 10 ^ (9 - t) := Nat.pow_pos (by decide)
  obtain ⟨T, hT⟩ : ∃ T : Nat, 10 ^ t = T := ⟨_, rfl⟩
  obtain ⟨T', hT'⟩ : ∃ T' : Nat, 10 ^ (9 - t) = T' := ⟨_, rfl⟩
  rw [hT, hT'] at hTT
  rw [hT] at hT1 hT3 hb
  rw [hT'] at hT2 hT4
  have hTTi : (T : Int) * (T' : Int) = 1000000000 := by rw [← Int.natCast_mul, hTT]; rfl
  have hval := hv.lbv hnc
  have hpt := (kd_parts2 (lb S k n) 0 0 c0).1
  rw [hval] at hpt
  have hlow := dv_bd (f := lb S k n) (b := 0) (n := c0) (fun i _ => hv.lbd _)
  rw [show (0 : Int) + ((c0 : Int) + 2) = ((c0 + 2 : Nat) : Int) by omega, show (0 : Int) + ((c0 : Int) + 1) = ((c0 + 1 : Nat) : Int) by omega, Int.zero_add] at hpt
  obtain ⟨l1, h1⟩ : ∃ z, z = lb S k n ((c0 + 2 : Nat) : Int) := ⟨_, rfl⟩
  obtain ⟨l2, h2⟩ : ∃ z, z = lb S k n ((c0 + 1 : Nat) : Int) := ⟨_, rfl⟩
  obtain ⟨l3, h3⟩ : ∃ z, z = lb S k n (c0 : Int) := ⟨_, rfl⟩
  rw [← h1] at w1 hpt
  rw [← h2] at w2 hpt
  rw [← h3] at w3 hpt
  have hl1 : l1 < T := by
    have e : BS ^ (c0 + 2) = BS ^ c0 * 1000000000000000000 := by rw [Int.pow_add]; rfl
    have a1 : l1 * (BS ^ c0 * 1000000000000000000) ≤ (v.natAbs : Int) := by
      rw [hpt]
      have a2 : BS ^ c0 * (l3 + 1000000000 * (l1 * 1000000000 + l2)) = l1 * (BS ^ c0 * 1000000000000000000) + BS ^ c0 * (l3 + 1000000000 * l2) := by grind
      have a3 := Int.mul_nonneg (Int.le_of_lt (BS_pos c0)) (show 0 ≤ l3 + 1000000000 * l2 by omega)
      omega
    rw [e] at hb
    exact Int.lt_of_mul_lt_mul_right (Int.lt_of_le_of_lt a1 hb) (by have := BS_pos c0; omega)
  obtain ⟨two, h22⟩ : ∃ z, z = l1 * 1000000000 + l2 := ⟨_, rfl⟩
  rw [← h22] at hpt
  have hres : (v.natAbs : Int) / ((T : Int) * BS ^ c0) = two * T' + l3 / T := by
    rw [hpt]
    exact lead_div (BS_pos c0) hlow rfl (by omega) hTTi
  have h2T : two * T' + l3 / T < 1000000000000000000 ∧ 0 ≤ two * T' ∧ two * T' < 1000000000000000000 := by
    have a1 : two + 1 ≤ T * 1000000000 := by omega
    have a2 : (two + 1) * T' ≤ T * 1000000000 * T' := Int.mul_le_mul_of_nonneg_right a1 (by omega)
    have a3 : (T : Int) * 1000000000 * T' = 1000000000 * (T * T') := by grind
    have a4 : (two + 1) * T' = two * T' + T' := by grind
    have a5 : l3 / T < T' := Int.ediv_lt_of_lt_mul (by omega) (by rw [Int.mul_comm, hTTi]; omega)
    have a6 := Int.mul_nonneg (show 0 ≤ two by omega) (show (0 : Int) ≤ T' by omega)
    rw [hTTi] at a3
    omega
  have h3T : 0 ≤ l3 / (T : Int) ∧ l3 / (T : Int) ≤ l3 := ⟨Int.ediv_nonneg (by omega) (by omega), Int.ediv_le_self _ (by omega)⟩
  refine z_gets K hZ gs_D d_D_leading_0 ?_
  refine z_iload_n K d_D_leading_3 rfl ?_
  refine z_tald K hZ (by omega) d_D_leading_4 ?_
  rw [Int.toNat_natCast, hT]
  refine z_istore_n K d_D_leading_5 (by decide) ?_
  refine z_aload_n K d_D_leading_6 rfl ?_
  refine z_iload_n K d_D_leading_7 rfl ?_
  refine z_iconst (v := jI 1) K d_D_leading_8 rfl ?_
  refine zi_isub K d_D_leading_9 ?_
  rw [show ((c0 + 3 : Nat) : Int) - 1 = ((c0 + 2 : Nat) : Int) by omega]
  refine z_callV (ci := 1) (As := [.int (jI ((c0 + 2 : Nat) : Int))]) K (c_N_limb l G b0 h a S (n := n) hk hv.1 hv.2.1 (by omega)) ca_D_85 im_N_limb se_N_limb rfl (by decide) (hx_N hk) rfl rfl (by decide) (Nat.le_of_ble_eq_true rfl) d_D_leading_10 (fun r h1 hp => ?_)
  obtain ⟨S1, rfl, rfl, rfl⟩ := hp
  rw [← h1]
  refine zi_i2l K d_D_leading_13 (by omega) ?_
  refine z_ldc2 (v := kI 1000000000) K d_D_leading_14 kc_D_121 ?_
  refine zi_lmul K d_D_leading_17 ?_
  refine z_aload_n K d_D_leading_18 rfl ?_
  refine z_iload_n K d_D_leading_19 rfl ?_
  refine z_iconst (v := jI 2) K d_D_leading_20 rfl ?_
  refine zi_isub K d_D_leading_21 ?_
  rw [show ((c0 + 3 : Nat) : Int) - 2 = ((c0 + 1 : Nat) : Int) by omega]
  refine z_callV (ci := 1) (As := [.int (jI ((c0 + 1 : Nat) : Int))]) K (c_N_limb l G b0 h a S (n := n) hk hv.1 hv.2.1 (by omega)) ca_D_85 im_N_limb se_N_limb rfl (by decide) (hx_N hk) rfl rfl (by decide) (Nat.le_of_ble_eq_true rfl) d_D_leading_22 (fun r h1 hp => ?_)
  obtain ⟨S1, rfl, rfl, rfl⟩ := hp
  rw [← h2]
  refine zi_i2l K d_D_leading_25 (by omega) ?_
  refine zi_ladd K d_D_leading_26 ?_
  rw [← h22]
  refine z_lstore K d_D_leading_27 (by decide) ?_
  refine z_lload K d_D_leading_29 rfl ?_
  refine z_gets K hZ gs_D d_D_leading_31 ?_
  refine z_bipush (v := jI 9) K d_D_leading_34 rfl ?_
  refine z_iload_n K d_D_leading_36 rfl ?_
  refine zi_isub K d_D_leading_37 ?_
  refine z_tald K hZ (by omega) d_D_leading_38 ?_
  rw [show ((9 : Int) - (t : Int)).toNat = 9 - t by omega, hT']
  refine zi_i2l K d_D_leading_39 (by omega) ?_
  refine zi_lmul K d_D_leading_40 ?_
  refine z_aload_n K d_D_leading_41 rfl ?_
  refine z_iload_n K d_D_leading_42 rfl ?_
  refine z_iconst (v := jI 3) K d_D_leading_43 rfl ?_
  refine zi_isub K d_D_leading_44 ?_
  rw [show ((c0 + 3 : Nat) : Int) - 3 = (c0 : Int) by omega]
  refine z_callV (ci := 1) (As := [.int (jI (c0 : Int))]) K (c_N_limb l G b0 h a S (n := n) hk hv.1 hv.2.1 (by omega)) ca_D_85 im_N_limb se_N_limb rfl (by decide) (hx_N hk) rfl rfl (by decide) (Nat.le_of_ble_eq_true rfl) d_D_leading_45 (fun r h1 hp => ?_)
  obtain ⟨S1, rfl, rfl, rfl⟩ := hp
  rw [← h3]
  refine z_iload_n K d_D_leading_48 rfl ?_
  refine zi_idiv K d_D_leading_49 (by omega) (by omega) (by omega) ?_
  rw [tdiv_pos (by omega)]
  refine zi_i2l K d_D_leading_50 (by omega) ?_
  refine zi_ladd K d_D_leading_51 ?_
  exact z_lret K hr hlk d_D_leading_52 ⟨_, rfl, rfl, _, rfl, hres.symm, by omega, by omega⟩
end D2
