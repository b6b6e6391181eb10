section ZMATH
variable {p : Program} {l : Launch} {e : Env} {R : Room} {s : State} {m : MethodId} {args : Array Value} {below : List Frame} {meth : Method} {c : Code} {Q : State → Prop} {b0 kc ks : Nat} {G : zG} {h : zH} {a : Nat} {cd : Int}
set_option maxHeartbeats 4000000 in
set_option maxRecDepth 100000 in
theorem c_max (l : Launch) (G : zG) (b0 : Nat) (h : zH) {x y : Int} (hx : i32 x) (hy : i32 y) : zMet l G b0 y_max b_max 2 (some .int) 0 0 0 0 [.int (jI x), .int (jI y)] h (fun o h' => h = h' ∧ o = some (.int (jI (max x y)))) :=
  z_metF pf_max (Nat.le_of_ble_eq_true rfl) fun p e s m below meth c K hr hlk hnm => by
  refine z_iload_n K d_max_0 rfl ?_
  refine z_iload_n K d_max_1 rfl ?_
  refine zi_icmp_lt (tgt := 9) K d_max_2 (by decide) hx hy (fun hc => ?_) (fun hc => ?_)
  · refine z_iload_n K d_max_9 rfl ?_
    exact z_iret K hr hlk d_max_10 ⟨rfl, by rw [show max x y = y by omega]⟩
  · refine z_iload_n K d_max_5 rfl ?_
    refine z_goto (tgt := 10) K d_max_6 (by decide) ?_
    exact z_iret K hr hlk d_max_10 ⟨rfl, by rw [show max x y = x by omega]⟩
set_option maxHeartbeats 4000000 in
set_option maxRecDepth 100000 in
theorem c_min (l : Launch) (G : zG) (b0 : Nat) (h : zH) {x y : Int} (hx : i32 x) (hy : i32 y) : zMet l G b0 y_min b_min 2 (some .int) 0 0 0 0 [.int (jI x), .int (jI y)] h (fun o h' => h = h' ∧ o = some (.int (jI (min x y)))) :=
  z_metF pf_min (Nat.le_of_ble_eq_true rfl) fun p e s m below meth c K hr hlk hnm => by
  refine z_iload_n K d_min_0 rfl ?_
  refine z_iload_n K d_min_1 rfl ?_
  refine zi_icmp_gt (tgt := 9) K d_min_2 (by decide) hx hy (fun hc => ?_) (fun hc => ?_)
  · refine z_iload_n K d_min_9 rfl ?_
    exact z_iret K hr hlk d_min_10 ⟨rfl, by rw [show min x y = y by omega]⟩
  · refine z_iload_n K d_min_5 rfl ?_
    refine z_goto (tgt := 10) K d_min_6 (by decide) ?_
    exact z_iret K hr hlk d_min_10 ⟨rfl, by rw [show min x y = x by omega]⟩
theorem kxor_neg {x y : Int} (hx : i64 x) (hy : 0 < y ∧ i64 y) : kI x ^^^ kI y < 0 ↔ x < 0 := by
  have h1 : (kI x ^^^ kI y < 0) ↔ (kI x).toBitVec.msb ≠ (kI y).toBitVec.msb := by
    rw [Int64.lt_iff_toBitVec_slt]
    simp [BitVec.slt_zero_iff_msb_cond]
  have h2 : (kI x).toBitVec.msb = decide (x < 0) := by
    rw [BitVec.msb_eq_toInt]
    have : (kI x).toBitVec.toInt = x := kI_toInt hx
    rw [this]
  have h3 : (kI y).toBitVec.msb = decide (y < 0) := by
    rw [BitVec.msb_eq_toInt]
    have : (kI y).toBitVec.toInt = y := kI_toInt hy.2
    rw [this]
  rw [h1, h2, h3]
  have : ¬ y < 0 := by omega
  simp [this]
set_option maxHeartbeats 4000000 in
set_option maxRecDepth 100000 in
theorem c_fdiv (l : Launch) (G : zG) (b0 : Nat) (h : zH) {x y : Int} (hx : i64 x) (hy0 : 0 < y) (hy : i64 y) : zMet l G b0 y_fdiv b_fdiv 6 (some .long) 0 0 0 0 [.long (kI x), .long (kI y)] h (fun o h' => h = h' ∧ o = some (.long (kI (x / y)))) :=
  z_metF pf_fdiv (Nat.le_of_ble_eq_true rfl) fun p e s m below meth c K hr hlk hnm => by
  refine z_lload_n K d_fdiv_0 rfl ?_
  refine z_lload_n K d_fdiv_1 rfl ?_
  refine zi_ldiv K d_fdiv_2 hx hy hy0 ?_
  refine z_lstore K d_fdiv_3 (by decide) ?_
  refine z_lload_n K d_fdiv_5 rfl ?_
  refine z_lload_n K d_fdiv_6 rfl ?_
  refine z_lxor K d_fdiv_7 ?_
  refine z_lconst (v := kI 0) K d_fdiv_8 rfl ?_
  obtain ⟨z, hz, hz2⟩ := kI_of (kI x ^^^ kI y)
  have hneg := kxor_neg hx ⟨hy0, hy⟩
  rw [hz2] at hneg ⊢
  have hneg2 : z < 0 ↔ x < 0 := by
    rw [← hneg]
    have := Int64.lt_iff_toInt_lt (x := kI z) (y := 0)
    rw [this, kI_toInt hz]; rfl
  refine zi_lc_ge (tgt := 27) K d_fdiv_9 d_fdiv_10 (by decide) hz (by decide) (fun hc => ?_) (fun hc => ?_)
  · refine z_lload K d_fdiv_27 rfl ?_
    exact z_lret K hr hlk d_fdiv_29 ⟨rfl, by rw [Int.tdiv_eq_ediv_of_nonneg (by omega)]⟩
  · have hxn : x < 0 := by omega
    have hd := Int.mul_tdiv_add_tmod x y
    have eq1 : x.tdiv y = -((-x) / y) := by
      have := Int.neg_tdiv (-x) y
      rw [Int.neg_neg, Int.tdiv_eq_ediv_of_nonneg (a := -x) (by omega)] at this
      exact this
    have ht1 : x.tmod y ≤ 0 ∧ -y < x.tmod y := by
      have h1 := Int.neg_tmod (-x) y
      rw [Int.neg_neg, Int.tmod_eq_emod_of_nonneg (a := -x) (by omega)] at h1
      have h2 := Int.emod_nonneg (-x) (show y ≠ 0 by omega)
      have h3 := Int.emod_lt_of_pos (-x) hy0
      omega
    have hq0 : x.tdiv y ≤ 0 := by
      have : 0 ≤ (-x) / y := Int.ediv_nonneg (by omega) (by omega)
      omega
    have hqq : x.tdiv y * y = y * x.tdiv y := Int.mul_comm _ _
    refine z_lload K d_fdiv_13 rfl ?_
    refine z_lload_n K d_fdiv_15 rfl ?_
    refine zi_lmul K d_fdiv_16 ?_
    refine z_lload_n K d_fdiv_17 rfl ?_
    refine zi_lc_eq (tgt := 27) K d_fdiv_18 d_fdiv_19 (by decide) (by omega) hx (fun hc2 => ?_) (fun hc2 => ?_)
    · refine z_lload K d_fdiv_27 rfl ?_
      refine z_lret K hr hlk d_fdiv_29 ⟨rfl, ?_⟩
      have : x.tdiv y = x / y := by
        apply Eq.symm
        apply Int.ediv_eq_of_eq_mul_right (by omega)
        omega
      rw [this]
    · refine z_lload K d_fdiv_22 rfl ?_
      refine z_lconst (v := kI 1) K d_fdiv_24 rfl ?_
      refine zi_lsub K d_fdiv_25 ?_
      refine z_lret K hr hlk d_fdiv_26 ⟨rfl, ?_⟩
      have : x.tdiv y - 1 = x / y := by
        have h1 := Int.mul_ediv_add_emod x y
        have h2 := Int.emod_nonneg x (show y ≠ 0 by omega)
        have h3 := Int.emod_lt_of_pos x hy0
        have h4 : y * (x.tdiv y - 1) = y * x.tdiv y - y := by rw [Int.mul_sub, Int.mul_one]
        generalize x / y = q at *
        generalize x.tdiv y = r at *
        have h5 : y * (q - (r - 1)) < y * 1 := by rw [Int.mul_sub, h4]; omega
        have h6 : y * (-1) < y * (q - (r - 1)) := by rw [Int.mul_sub, h4]; omega
        have h7 := Int.lt_of_mul_lt_mul_left h5 (by omega)
        have h8 := Int.lt_of_mul_lt_mul_left h6 (by omega)
        omega
      rw [this]
end ZMATH
