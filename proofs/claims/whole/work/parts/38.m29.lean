/-- the curve's numbers -/
abbrev mb2 (c1 c2 : Int) : Int := c1 * c1 + 4 * c2
abbrev mb4 (c1 c3 c4 : Int) : Int := c1 * c3 + 2 * c4
abbrev mb6 (c3 c6 : Int) : Int := c3 * c3 + 4 * c6
abbrev mb8 (c1 c2 c3 c4 c6 : Int) : Int := c1 * c1 * c6 - c1 * c3 * c4 + 4 * c2 * c6 + c2 * c3 * c3 - c4 * c4
def discOf (b2 b4 b6 b8 : Int) : Int := b2 * b4 * b6 * 9 - b2 * b2 * b8 - b4 * b4 * b4 * 8 - b6 * b6 * 27
def disc (A : Int × Int × Int × Int × Int) : Int := discOf (mb2 A.1 A.2.1) (mb4 A.1 A.2.2.1 A.2.2.2.1) (mb6 A.2.2.1 A.2.2.2.2) (mb8 A.1 A.2.1 A.2.2.1 A.2.2.2.1 A.2.2.2.2)
def isIn5 (v : Int) : Prop := -99999 ≤ v ∧ v ≤ 99999
theorem mulb {x y a b : Int} (hx : -a ≤ x ∧ x ≤ a) (hy : -b ≤ y ∧ y ≤ b) (hb : 0 ≤ b) : -(a * b) ≤ x * y ∧ x * y ≤ a * b := by
  have h1 : x.natAbs ≤ a.toNat := by omega
  have h2 : y.natAbs ≤ b.toNat := by omega
  have h3 := Nat.mul_le_mul h1 h2
  rw [← Int.natAbs_mul] at h3
  have h4 : ((a.toNat * b.toNat : Nat) : Int) = a * b := by
    rw [Int.natCast_mul, Int.toNat_of_nonneg (by omega), Int.toNat_of_nonneg hb]
  omega
theorem mb2_b {c1 c2 : Int} (h1 : isIn5 c1) (h2 : isIn5 c2) : -10000400000 ≤ mb2 c1 c2 ∧ mb2 c1 c2 ≤ 10000400000 := by
  have := mulb h1 h1 (by decide)
  obtain ⟨_, _⟩ := h2
  show -10000400000 ≤ c1 * c1 + 4 * c2 ∧ c1 * c1 + 4 * c2 ≤ 10000400000
  omega
theorem mb4_b {c1 c3 c4 : Int} (h1 : isIn5 c1) (h3 : isIn5 c3) (h4 : isIn5 c4) : -10000400000 ≤ mb4 c1 c3 c4 ∧ mb4 c1 c3 c4 ≤ 10000400000 := by
  have := mulb h1 h3 (by decide)
  obtain ⟨_, _⟩ := h4
  show -10000400000 ≤ c1 * c3 + 2 * c4 ∧ c1 * c3 + 2 * c4 ≤ 10000400000
  omega
theorem mb8_b {c1 c2 c3 c4 c6 : Int} (h1 : isIn5 c1) (h2 : isIn5 c2) (h3 : isIn5 c3) (h4 : isIn5 c4) (h6 : isIn5 c6) : -3000100000000000 ≤ mb8 c1 c2 c3 c4 c6 ∧ mb8 c1 c2 c3 c4 c6 ≤ 3000100000000000 := by
  have q1 := mulb (mulb h1 h1 (by decide)) h6 (by decide)
  have q2 := mulb (mulb h1 h3 (by decide)) h4 (by decide)
  have q3 := mulb (x := 4 * c2) (a := 399996) (y := c6) (by obtain ⟨_, _⟩ := h2; omega) h6 (by decide)
  have q4 := mulb (mulb h2 h3 (by decide)) h3 (by decide)
  have q5 := mulb h4 h4 (by decide)
  show -3000100000000000 ≤ c1 * c1 * c6 - c1 * c3 * c4 + 4 * c2 * c6 + c2 * c3 * c3 - c4 * c4 ∧ c1 * c1 * c6 - c1 * c3 * c4 + 4 * c2 * c6 + c2 * c3 * c3 - c4 * c4 ≤ 3000100000000000
  omega
theorem lt9_n1 {v : Int} {m : Nat} (h : lt9 v m) : lt9 (-1 * v) m := by
  rw [Int.neg_one_mul]; exact lt9_neg h
section M29
variable {p : Program} {l : Launch} {e : Env} {R : Room} {s : State} {m : MethodId} {args : Array Value} {below : List Frame} {meth : Method} {c : Code} {Q : State → Prop} {b0 kc ks : Nat} {G : zG} {h : zH} {a : Nat} {cd : Int}
set_option maxHeartbeats 4000000 in
set_option maxRecDepth 100000 in
theorem r_M_curve (l : Launch) (G : zG) (b0 : Nat) (h : zH) (a : Nat) (T : mT) {pts : Int → Option (Int × Int × Int)} {A : Int × Int × Int × Int × Int} {c1 c2 c3 c4 c6 : Int} (hS : RS T pts A) (i1 : i32 c1) (i2 : i32 c2) (i3 : i32 c3) (i4 : i32 c4) (i6 : i32 c6) :
    mMet l G b0 y_M_curve b_M_curve 14 (some .int) 3 84 h a 0 [.int (jI c1), .int (jI c2), .int (jI c3), .int (jI c4), .int (jI c6)] T (fun o T' => (isIn5 c1 ∧ isIn5 c2 ∧ isIn5 c3 ∧ isIn5 c4 ∧ isIn5 c6) ∧ (disc (c1, c2, c3, c4, c6) ≠ 0 ∧ o = some (.int (jI 0)) ∧ RS T' (fun _ => none) (c1, c2, c3, c4, c6) ∨ disc (c1, c2, c3, c4, c6) = 0 ∧ o = some (.int (jI 5)) ∧ RS T' pts A) ∨ ¬ (isIn5 c1 ∧ isIn5 c2 ∧ isIn5 c3 ∧ isIn5 c4 ∧ isIn5 c6) ∧ o = some (.int (jI (-1))) ∧ T = T') :=
  z_met (by decide) (Nat.le_of_ble_eq_true rfl) fun p e s m below meth c K hr hlk hnm => by
  obtain ⟨V, hV, hp, hA, hN0⟩ := hS
  have bad : ¬ (isIn5 c1 ∧ isIn5 c2 ∧ isIn5 c3 ∧ isIn5 c4 ∧ isIn5 c6) → zW p l e (zRm 3 84 0 0) s m ([.ref a, .int (jI c1), .int (jI c2), .int (jI c3), .int (jI c4), .int (jI c6)] : List Value).toArray below meth c 14 b0 G 0 0 (MQ below (zQ G b0 (fun o h' => ∃ T' : mT, h' = hm G h a 0 T' ∧ ((isIn5 c1 ∧ isIn5 c2 ∧ isIn5 c3 ∧ isIn5 c4 ∧ isIn5 c6) ∧ (disc (c1, c2, c3, c4, c6) ≠ 0 ∧ o = some (.int (jI 0)) ∧ RS T' (fun _ => none) (c1, c2, c3, c4, c6) ∨ disc (c1, c2, c3, c4, c6) = 0 ∧ o = some (.int (jI 5)) ∧ RS T' pts A) ∨ ¬ (isIn5 c1 ∧ isIn5 c2 ∧ isIn5 c3 ∧ isIn5 c4 ∧ isIn5 c6) ∧ o = some (.int (jI (-1))) ∧ T = T'))) ([.ref a, .int (jI c1), .int (jI c2), .int (jI c3), .int (jI c4), .int (jI c6)] : List Value).toArray s 0 0 (z_A b0)) (hm G h a 0 T) 42 [(0, .ref a)] [] := fun hb => by
    refine z_iconst (v := jI (-1)) K d_M_curve_42 rfl ?_
    exact z_iret K hr hlk d_M_curve_43 ⟨_, rfl, Or.inr ⟨hb, rfl, rfl⟩⟩
  refine z_aload_n K d_M_curve_0 rfl ?_
  refine z_iconst (v := jI 0) K d_M_curve_1 rfl ?_
  refine zm_code K fd_M_30 d_M_curve_2 ?_
  refine z_iload_n K d_M_curve_5 rfl ?_
  refine z_callS (As := [.int (jI c1)]) K (c_M_isIn l G b0 _ i1) ca_M_69 sm_M_isIn rfl rfl (by decide) (Nat.le_of_ble_eq_true rfl) d_M_curve_6 (fun o h1 hp1 => ?_)
  obtain ⟨rfl, rfl⟩ := hp1
  by_cases g1 : -99999 ≤ c1 ∧ c1 ≤ 99999
  rotate_left
  · rw [if_neg g1]
    exact zi_if_eq (tgt := 42) K d_M_curve_9 (by decide) (by decide) (fun _ => z_re [0] rfl (bad (fun q => g1 q.1))) (fun q => absurd rfl q)
  rw [if_pos g1]
  refine zi_if_eq (tgt := 42) K d_M_curve_9 (by decide) (by decide) (fun q => absurd q (by decide)) (fun _ => ?_)
  refine z_iload_n K d_M_curve_12 rfl ?_
  refine z_callS (As := [.int (jI c2)]) K (c_M_isIn l G b0 _ i2) ca_M_69 sm_M_isIn rfl rfl (by decide) (Nat.le_of_ble_eq_true rfl) d_M_curve_13 (fun o h1 hp1 => ?_)
  obtain ⟨rfl, rfl⟩ := hp1
  by_cases g2 : -99999 ≤ c2 ∧ c2 ≤ 99999
  rotate_left
  · rw [if_neg g2]
    exact zi_if_eq (tgt := 42) K d_M_curve_16 (by decide) (by decide) (fun _ => z_re [0] rfl (bad (fun q => g2 q.2.1))) (fun q => absurd rfl q)
  rw [if_pos g2]
  refine zi_if_eq (tgt := 42) K d_M_curve_16 (by decide) (by decide) (fun q => absurd q (by decide)) (fun _ => ?_)
  refine z_iload_n K d_M_curve_19 rfl ?_
  refine z_callS (As := [.int (jI c3)]) K (c_M_isIn l G b0 _ i3) ca_M_69 sm_M_isIn rfl rfl (by decide) (Nat.le_of_ble_eq_true rfl) d_M_curve_20 (fun o h1 hp1 => ?_)
  obtain ⟨rfl, rfl⟩ := hp1
  by_cases g3 : -99999 ≤ c3 ∧ c3 ≤ 99999
  rotate_left
  · rw [if_neg g3]
    exact zi_if_eq (tgt := 42) K d_M_curve_23 (by decide) (by decide) (fun _ => z_re [0] rfl (bad (fun q => g3 q.2.2.1))) (fun q => absurd rfl q)
  rw [if_pos g3]
  refine zi_if_eq (tgt := 42) K d_M_curve_23 (by decide) (by decide) (fun q => absurd q (by decide)) (fun _ => ?_)
  refine z_iload K d_M_curve_26 rfl ?_
  refine z_callS (As := [.int (jI c4)]) K (c_M_isIn l G b0 _ i4) ca_M_69 sm_M_isIn rfl rfl (by decide) (Nat.le_of_ble_eq_true rfl) d_M_curve_28 (fun o h1 hp1 => ?_)
  obtain ⟨rfl, rfl⟩ := hp1
  by_cases g4 : -99999 ≤ c4 ∧ c4 ≤ 99999
  rotate_left
  · rw [if_neg g4]
    exact zi_if_eq (tgt := 42) K d_M_curve_31 (by decide) (by decide) (fun _ => z_re [0] rfl (bad (fun q => g4 q.2.2.2.1))) (fun q => absurd rfl q)
  rw [if_pos g4]
  refine zi_if_eq (tgt := 42) K d_M_curve_31 (by decide) (by decide) (fun q => absurd q (by decide)) (fun _ => ?_)
  refine z_iload K d_M_curve_34 rfl ?_
  refine z_callS (As := [.int (jI c6)]) K (c_M_isIn l G b0 _ i6) ca_M_69 sm_M_isIn rfl rfl (by decide) (Nat.le_of_ble_eq_true rfl) d_M_curve_36 (fun o h1 hp1 => ?_)
  obtain ⟨rfl, rfl⟩ := hp1
  by_cases g6 : -99999 ≤ c6 ∧ c6 ≤ 99999
  rotate_left
  · rw [if_neg g6]
    exact zi_if_ne (tgt := 44) K d_M_curve_39 (by decide) (by decide) (fun q => absurd rfl q) (fun _ => z_re [0] rfl (bad (fun q => g6 q.2.2.2.2)))
  rw [if_pos g6]
  refine zi_if_ne (tgt := 44) K d_M_curve_39 (by decide) (by decide) (fun _ => ?_) (fun q => absurd q (by decide))
  have good : isIn5 c1 ∧ isIn5 c2 ∧ isIn5 c3 ∧ isIn5 c4 ∧ isIn5 c6 := ⟨g1, g2, g3, g4, g6⟩
  have q2 := mb2_b g1 g2
  have q4 := mb4_b g1 g3 g4
  have q6 : -10000400000 ≤ mb6 c3 c6 ∧ mb6 c3 c6 ≤ 10000400000 := mb2_b g3 g6
  have q8 := mb8_b g1 g2 g3 g4 g6
  have e2 : mb2 c1 c2 = c1 * c1 + 4 * c2 := rfl
  have e4 : mb4 c1 c3 c4 = c1 * c3 + 2 * c4 := rfl
  have e6 : mb6 c3 c6 = c3 * c3 + 4 * c6 := rfl
  have e8 : mb8 c1 c2 c3 c4 c6 = c1 * c1 * c6 - c1 * c3 * c4 + 4 * c2 * c6 + c2 * c3 * c3 - c4 * c4 := rfl
  have hdisc : disc (c1, c2, c3, c4, c6) = discOf (mb2 c1 c2) (mb4 c1 c3 c4) (mb6 c3 c6) (mb8 c1 c2 c3 c4 c6) := rfl
  refine z_iload_n K d_M_curve_44 rfl ?_
  refine zi_i2l K d_M_curve_45 (by omega) ?_
  refine z_iload_n K d_M_curve_46 rfl ?_
  refine zi_i2l K d_M_curve_47 (by omega) ?_
  refine zi_lmul K d_M_curve_48 ?_
  refine z_ldc2 (v := kI 4) K d_M_curve_49 kc_M_73 ?_
  refine z_iload_n K d_M_curve_52 rfl ?_
  refine zi_i2l K d_M_curve_53 (by omega) ?_
  refine zi_lmul K d_M_curve_54 ?_
  refine zi_ladd K d_M_curve_55 ?_
  refine z_lstore K d_M_curve_56 (by decide) ?_
  refine z_iload_n K d_M_curve_58 rfl ?_
  refine zi_i2l K d_M_curve_59 (by omega) ?_
  refine z_iload_n K d_M_curve_60 rfl ?_
  refine zi_i2l K d_M_curve_61 (by omega) ?_
  refine zi_lmul K d_M_curve_62 ?_
  refine z_ldc2 (v := kI 2) K d_M_curve_63 kc_M_75 ?_
  refine z_iload K d_M_curve_66 rfl ?_
  refine zi_i2l K d_M_curve_68 (by omega) ?_
  refine zi_lmul K d_M_curve_69 ?_
  refine zi_ladd K d_M_curve_70 ?_
  refine z_lstore K d_M_curve_71 (by decide) ?_
  refine z_iload_n K d_M_curve_73 rfl ?_
  refine zi_i2l K d_M_curve_74 (by omega) ?_
  refine z_iload_n K d_M_curve_75 rfl ?_
  refine zi_i2l K d_M_curve_76 (by omega) ?_
  refine zi_lmul K d_M_curve_77 ?_
  refine z_ldc2 (v := kI 4) K d_M_curve_78 kc_M_73 ?_
  refine z_iload K d_M_curve_81 rfl ?_
  refine zi_i2l K d_M_curve_83 (by omega) ?_
  refine zi_lmul K d_M_curve_84 ?_
  refine zi_ladd K d_M_curve_85 ?_
  refine z_lstore K d_M_curve_86 (by decide) ?_
  refine z_iload_n K d_M_curve_88 rfl ?_
  refine zi_i2l K d_M_curve_89 (by omega) ?_
  refine z_iload_n K d_M_curve_90 rfl ?_
  refine zi_i2l K d_M_curve_91 (by omega) ?_
  refine zi_lmul K d_M_curve_92 ?_
  refine z_iload K d_M_curve_93 rfl ?_
  refine zi_i2l K d_M_curve_95 (by omega) ?_
  refine zi_lmul K d_M_curve_96 ?_
  refine z_iload_n K d_M_curve_97 rfl ?_
  refine zi_i2l K d_M_curve_98 (by omega) ?_
  refine z_iload_n K d_M_curve_99 rfl ?_
  refine zi_i2l K d_M_curve_100 (by omega) ?_
  refine zi_lmul K d_M_curve_101 ?_
  refine z_iload K d_M_curve_102 rfl ?_
  refine zi_i2l K d_M_curve_104 (by omega) ?_
  refine zi_lmul K d_M_curve_105 ?_
  refine zi_lsub K d_M_curve_106 ?_
  refine z_ldc2 (v := kI 4) K d_M_curve_107 kc_M_73 ?_
  refine z_iload_n K d_M_curve_110 rfl ?_
  refine zi_i2l K d_M_curve_111 (by omega) ?_
  refine zi_lmul K d_M_curve_112 ?_
  refine z_iload K d_M_curve_113 rfl ?_
  refine zi_i2l K d_M_curve_115 (by omega) ?_
  refine zi_lmul K d_M_curve_116 ?_
  refine zi_ladd K d_M_curve_117 ?_
  refine z_iload_n K d_M_curve_118 rfl ?_
  refine zi_i2l K d_M_curve_119 (by omega) ?_
  refine z_iload_n K d_M_curve_120 rfl ?_
  refine zi_i2l K d_M_curve_121 (by omega) ?_
  refine zi_lmul K d_M_curve_122 ?_
  refine z_iload_n K d_M_curve_123 rfl ?_
  refine zi_i2l K d_M_curve_124 (by omega) ?_
  refine zi_lmul K d_M_curve_125 ?_
  refine zi_ladd K d_M_curve_126 ?_
  refine z_iload K d_M_curve_127 rfl ?_
  refine zi_i2l K d_M_curve_129 (by omega) ?_
  refine z_iload K d_M_curve_130 rfl ?_
  refine zi_i2l K d_M_curve_132 (by omega) ?_
  refine zi_lmul K d_M_curve_133 ?_
  refine zi_lsub K d_M_curve_134 ?_
  refine z_lstore K d_M_curve_135 (by decide) ?_
  rw [← e2, ← e4, ← e6, ← e8]
  generalize mb2 c1 c2 = b2 at q2 hdisc ⊢
  generalize mb4 c1 c3 c4 = b4 at q4 hdisc ⊢
  generalize mb6 c3 c6 = b6 at q6 hdisc ⊢
  generalize mb8 c1 c2 c3 c4 c6 = b8 at q8 hdisc ⊢
  clear e2 e4 e6 e8 bad
  have w2 : i64 b2 := by omega
  have w4 : i64 b4 := by omega
  have w6 : i64 b6 := by omega
  have w8 : i64 b8 := by omega
  refine z_aload_n K d_M_curve_137 rfl ?_
  refine z_bipush (v := jI 45) K d_M_curve_138 rfl ?_
  refine z_lload K d_M_curve_140 rfl ?_
  refine z_lload K d_M_curve_142 rfl ?_
  refine z_lload K d_M_curve_144 rfl ?_
  refine z_ldc2 (v := kI 9) K d_M_curve_146 kc_M_77 ?_
  refine z_callV (ci := 0) (As := [.int (jI 45), .long (kI b2), .long (kI b4), .long (kI b6), .long (kI 9)]) K (v_M_product l G b0 h a 0 T hV (by decide) w2 w4 w6 (by decide)) ca_M_79 im_M_product se_M_product rfl (by decide) hm_0 rfl rfl (by decide) (Nat.le_of_ble_eq_true rfl) d_M_curve_149 (fun o h1 hp1 => ?_)
  obtain ⟨T1, rfl, rfl, ⟨x1, y1, z1, hV1⟩, hN1⟩ := hp1
  refine z_aload_n K d_M_curve_152 rfl ?_
  refine z_bipush (v := jI 46) K d_M_curve_153 rfl ?_
  refine z_lload K d_M_curve_155 rfl ?_
  refine z_lload K d_M_curve_157 rfl ?_
  refine z_lload K d_M_curve_159 rfl ?_
  refine z_lconst (v := kI 1) K d_M_curve_161 rfl ?_
  refine z_callV (ci := 0) (As := [.int (jI 46), .long (kI b2), .long (kI b2), .long (kI b8), .long (kI 1)]) K (v_M_product l G b0 h a 0 T1 hV1 (by decide) w2 w2 w8 (by decide)) ca_M_79 im_M_product se_M_product rfl (by decide) hm_0 rfl rfl (by decide) (Nat.le_of_ble_eq_true rfl) d_M_curve_162 (fun o h1 hp1 => ?_)
  obtain ⟨T2, rfl, rfl, ⟨x2, y2, z2, hV2⟩, hN2⟩ := hp1
  refine z_aload_n K d_M_curve_165 rfl ?_
  refine z_bipush (v := jI 45) K d_M_curve_166 rfl ?_
  refine z_bipush (v := jI 45) K d_M_curve_168 rfl ?_
  refine z_bipush (v := jI 46) K d_M_curve_170 rfl ?_
  refine z_iconst (v := jI (-1)) K d_M_curve_172 rfl ?_
  refine z_callV (ci := 0) (As := [.int (jI 45), .int (jI 45), .int (jI 46), .int (jI (-1))]) K (w_M_add l G b0 h a 0 T2 (v := b2 * b4 * b6 * 9) (w := b2 * b2 * b8 * 1) hV2 (by decide) (by decide) (by decide) (Or.inr rfl) (by simp [iu]) (by simp [iu]) (lt9_mul (lt9_mul (lt9_mul (lt9_i64 w2) (lt9_i64 w4)) (lt9_i64 w6)) (lt9_i64 (u := 9) (by decide))) (lt9_mul (lt9_mul (lt9_mul (lt9_i64 w2) (lt9_i64 w2)) (lt9_i64 w8)) (lt9_i64 (u := 1) (by decide))) (by decide) (by decide)) ca_M_83 im_M_add se_M_add rfl (by decide) hm_0 rfl rfl (by decide) (Nat.le_of_ble_eq_true rfl) d_M_curve_173 (fun o h1 hp1 => ?_)
  obtain ⟨T3, rfl, rfl, hV3, hN3⟩ := hp1
  refine z_aload_n K d_M_curve_176 rfl ?_
  refine z_bipush (v := jI 46) K d_M_curve_177 rfl ?_
  refine z_lload K d_M_curve_179 rfl ?_
  refine z_lload K d_M_curve_181 rfl ?_
  refine z_lload K d_M_curve_183 rfl ?_
  refine z_ldc2 (v := kI 8) K d_M_curve_185 kc_M_86 ?_
  refine z_callV (ci := 0) (As := [.int (jI 46), .long (kI b4), .long (kI b4), .long (kI b4), .long (kI 8)]) K (v_M_product l G b0 h a 0 T3 hV3 (by decide) w4 w4 w4 (by decide)) ca_M_79 im_M_product se_M_product rfl (by decide) hm_0 rfl rfl (by decide) (Nat.le_of_ble_eq_true rfl) d_M_curve_188 (fun o h1 hp1 => ?_)
  obtain ⟨T4, rfl, rfl, ⟨x4, y4, z4, hV4⟩, hN4⟩ := hp1
  refine z_aload_n K d_M_curve_191 rfl ?_
  refine z_bipush (v := jI 45) K d_M_curve_192 rfl ?_
  refine z_bipush (v := jI 45) K d_M_curve_194 rfl ?_
  refine z_bipush (v := jI 46) K d_M_curve_196 rfl ?_
  refine z_iconst (v := jI (-1)) K d_M_curve_198 rfl ?_
  refine z_callV (ci := 0) (As := [.int (jI 45), .int (jI 45), .int (jI 46), .int (jI (-1))]) K (w_M_add l G b0 h a 0 T4 (v := b2 * b4 * b6 * 9 + -1 * (b2 * b2 * b8 * 1)) (w := b4 * b4 * b4 * 8) hV4 (by decide) (by decide) (by decide) (Or.inr rfl) (by simp [iu]) (by simp [iu]) (lt9_add (lt9_mul (lt9_mul (lt9_mul (lt9_i64 w2) (lt9_i64 w4)) (lt9_i64 w6)) (lt9_i64 (u := 9) (by decide))) (lt9_n1 (lt9_mul (lt9_mul (lt9_mul (lt9_i64 w2) (lt9_i64 w2)) (lt9_i64 w8)) (lt9_i64 (u := 1) (by decide))))) (lt9_mul (lt9_mul (lt9_mul (lt9_i64 w4) (lt9_i64 w4)) (lt9_i64 w4)) (lt9_i64 (u := 8) (by decide))) (by decide) (by decide)) ca_M_83 im_M_add se_M_add rfl (by decide) hm_0 rfl rfl (by decide) (Nat.le_of_ble_eq_true rfl) d_M_curve_199 (fun o h1 hp1 => ?_)
  obtain ⟨T5, rfl, rfl, hV5, hN5⟩ := hp1
  refine z_aload_n K d_M_curve_202 rfl ?_
  refine z_bipush (v := jI 46) K d_M_curve_203 rfl ?_
  refine z_lload K d_M_curve_205 rfl ?_
  refine z_lload K d_M_curve_207 rfl ?_
  refine z_ldc2 (v := kI 27) K d_M_curve_209 kc_M_88 ?_
  refine z_lconst (v := kI 1) K d_M_curve_212 rfl ?_
  refine z_callV (ci := 0) (As := [.int (jI 46), .long (kI b6), .long (kI b6), .long (kI 27), .long (kI 1)]) K (v_M_product l G b0 h a 0 T5 hV5 (by decide) w6 w6 (by decide) (by decide)) ca_M_79 im_M_product se_M_product rfl (by decide) hm_0 rfl rfl (by decide) (Nat.le_of_ble_eq_true rfl) d_M_curve_213 (fun o h1 hp1 => ?_)
  obtain ⟨T6, rfl, rfl, ⟨x6, y6, z6, hV6⟩, hN6⟩ := hp1
  refine z_aload_n K d_M_curve_216 rfl ?_
  refine z_bipush (v := jI 45) K d_M_curve_217 rfl ?_
  refine z_bipush (v := jI 45) K d_M_curve_219 rfl ?_
  refine z_bipush (v := jI 46) K d_M_curve_221 rfl ?_
  refine z_iconst (v := jI (-1)) K d_M_curve_223 rfl ?_
  refine z_callV (ci := 0) (As := [.int (jI 45), .int (jI 45), .int (jI 46), .int (jI (-1))]) K (w_M_add l G b0 h a 0 T6 (v := b2 * b4 * b6 * 9 + -1 * (b2 * b2 * b8 * 1) + -1 * (b4 * b4 * b4 * 8)) (w := b6 * b6 * 27 * 1) hV6 (by decide) (by decide) (by decide) (Or.inr rfl) (by simp [iu]) (by simp [iu]) (lt9_add (lt9_add (lt9_mul (lt9_mul (lt9_mul (lt9_i64 w2) (lt9_i64 w4)) (lt9_i64 w6)) (lt9_i64 (u := 9) (by decide))) (lt9_n1 (lt9_mul (lt9_mul (lt9_mul (lt9_i64 w2) (lt9_i64 w2)) (lt9_i64 w8)) (lt9_i64 (u := 1) (by decide))))) (lt9_n1 (lt9_mul (lt9_mul (lt9_mul (lt9_i64 w4) (lt9_i64 w4)) (lt9_i64 w4)) (lt9_i64 (u := 8) (by decide))))) (lt9_mul (lt9_mul (lt9_mul (lt9_i64 w6) (lt9_i64 w6)) (lt9_i64 (u := 27) (by decide))) (lt9_i64 (u := 1) (by decide))) (by decide) (by decide)) ca_M_83 im_M_add se_M_add rfl (by decide) hm_0 rfl rfl (by decide) (Nat.le_of_ble_eq_true rfl) d_M_curve_224 (fun o h1 hp1 => ?_)
  obtain ⟨T7, rfl, rfl, hV7, hN7⟩ := hp1
  have hN : T7.2.2.2 = T.2.2.2 := hN7.trans (hN6.trans (hN5.trans (hN4.trans (hN3.trans (hN2.trans hN1)))))
  have hd : disc (c1, c2, c3, c4, c6) = b2 * b4 * b6 * 9 + -1 * (b2 * b2 * b8 * 1) + -1 * (b4 * b4 * b4 * 8) + -1 * (b6 * b6 * 27 * 1) := by rw [hdisc]; unfold discOf; omega
  rw [← hd] at hV7
  obtain ⟨V7, hV7e⟩ : ∃ W : Int → Int, W = iu (iu (iu (iu (iu (iu (iu (iu (iu (iu (iu (iu (iu (iu (iu (iu (iu (iu (iu V 47 x1) 48 y1) 49 z1) 45 (b2 * b4 * b6 * 9)) 47 x2) 48 y2) 49 z2) 46 (b2 * b2 * b8 * 1)) 45 (b2 * b4 * b6 * 9 + -1 * (b2 * b2 * b8 * 1))) 47 x4) 48 y4) 49 z4) 46 (b4 * b4 * b4 * 8)) 45 (b2 * b4 * b6 * 9 + -1 * (b2 * b2 * b8 * 1) + -1 * (b4 * b4 * b4 * 8))) 47 x6) 48 y6) 49 z6) 46 (b6 * b6 * 27 * 1)) 45 (disc (c1, c2, c3, c4, c6)) := ⟨_, rfl⟩
  rw [← hV7e] at hV7
  have k45 : V7 45 = disc (c1, c2, c3, c4, c6) := by rw [hV7e, iu_self]
  have kq : ∀ q : Int, q < 45 → V7 q = V q := fun q hq => by
    rw [hV7e]
    repeat rw [iu_ne _ _ (by omega)]
  clear hV7e
  obtain ⟨n1, k1⟩ := hV7 45 (by decide) (by decide)
  rw [k45] at k1
  refine z_aload_n K d_M_curve_227 rfl ?_
  refine zm_get K fd_M_16 rfl d_M_curve_228 ?_
  refine z_bipush (v := jI 45) K d_M_curve_231 rfl ?_
  refine zm_sld K (by omega) d_M_curve_233 ?_
  rw [k1.2.2.2.2.1]
  refine zi_if_ne (tgt := 239) K d_M_curve_234 (by decide) (by rcases sgn3 (disc (c1, c2, c3, c4, c6)) with z | z | z <;> rw [z] <;> decide) (fun hz => ?_) (fun hz => ?_)
  · have hnz : disc (c1, c2, c3, c4, c6) ≠ 0 := fun z => hz (by rw [z]; rfl)
    refine z_aload_n K d_M_curve_239 rfl ?_
    refine z_bipush (v := jI 24) K d_M_curve_240 rfl ?_
    refine z_iload_n K d_M_curve_242 rfl ?_
    refine zi_i2l K d_M_curve_243 (by omega) ?_
    refine z_callV (ci := 0) (As := [.int (jI 24), .long (kI c1)]) K (v_M_set l G b0 h a 0 T7 hV7 (by decide) ⟨by omega, by omega⟩) ca_M_26 im_M_set se_M_set rfl (by decide) hm_0 rfl rfl (by decide) (Nat.le_of_ble_eq_true rfl) d_M_curve_244 (fun o h1 hp1 => ?_)
    obtain ⟨S0, rfl, rfl, hS0, hM0⟩ := hp1
    refine z_aload_n K d_M_curve_247 rfl ?_
    refine z_bipush (v := jI 25) K d_M_curve_248 rfl ?_
    refine z_iload_n K d_M_curve_250 rfl ?_
    refine zi_i2l K d_M_curve_251 (by omega) ?_
    refine z_callV (ci := 0) (As := [.int (jI 25), .long (kI c2)]) K (v_M_set l G b0 h a 0 S0 hS0 (by decide) ⟨by omega, by omega⟩) ca_M_26 im_M_set se_M_set rfl (by decide) hm_0 rfl rfl (by decide) (Nat.le_of_ble_eq_true rfl) d_M_curve_252 (fun o h1 hp1 => ?_)
    obtain ⟨S1, rfl, rfl, hS1, hM1⟩ := hp1
    refine z_aload_n K d_M_curve_255 rfl ?_
    refine z_bipush (v := jI 26) K d_M_curve_256 rfl ?_
    refine z_iload_n K d_M_curve_258 rfl ?_
    refine zi_i2l K d_M_curve_259 (by omega) ?_
    refine z_callV (ci := 0) (As := [.int (jI 26), .long (kI c3)]) K (v_M_set l G b0 h a 0 S1 hS1 (by decide) ⟨by omega, by omega⟩) ca_M_26 im_M_set se_M_set rfl (by decide) hm_0 rfl rfl (by decide) (Nat.le_of_ble_eq_true rfl) d_M_curve_260 (fun o h1 hp1 => ?_)
    obtain ⟨S2, rfl, rfl, hS2, hM2⟩ := hp1
    refine z_aload_n K d_M_curve_263 rfl ?_
    refine z_bipush (v := jI 27) K d_M_curve_264 rfl ?_
    refine z_iload K d_M_curve_266 rfl ?_
    refine zi_i2l K d_M_curve_268 (by omega) ?_
    refine z_callV (ci := 0) (As := [.int (jI 27), .long (kI c4)]) K (v_M_set l G b0 h a 0 S2 hS2 (by decide) ⟨by omega, by omega⟩) ca_M_26 im_M_set se_M_set rfl (by decide) hm_0 rfl rfl (by decide) (Nat.le_of_ble_eq_true rfl) d_M_curve_269 (fun o h1 hp1 => ?_)
    obtain ⟨S3, rfl, rfl, hS3, hM3⟩ := hp1
    refine z_aload_n K d_M_curve_272 rfl ?_
    refine z_bipush (v := jI 28) K d_M_curve_273 rfl ?_
    refine z_iload K d_M_curve_275 rfl ?_
    refine zi_i2l K d_M_curve_277 (by omega) ?_
    refine z_callV (ci := 0) (As := [.int (jI 28), .long (kI c6)]) K (v_M_set l G b0 h a 0 S3 hS3 (by decide) ⟨by omega, by omega⟩) ca_M_26 im_M_set se_M_set rfl (by decide) hm_0 rfl rfl (by decide) (Nat.le_of_ble_eq_true rfl) d_M_curve_278 (fun o h1 hp1 => ?_)
    obtain ⟨S4, rfl, rfl, hS4, hM4⟩ := hp1
    refine z_aload_n K d_M_curve_281 rfl ?_
    refine z_callV (ci := 0) (As := []) K (c_M_forget l G b0 h a 0 S4) ca_M_23 im_M_forget se_M_forget rfl (by decide) hm_0 rfl rfl (by decide) (Nat.le_of_ble_eq_true rfl) d_M_curve_282 (fun o h1 hp1 => ?_)
    obtain ⟨S5, rfl, rfl, N, rfl, hN9⟩ := hp1
    have hM : S4.2.2.2 = T.2.2.2 := hM4.trans (hM3.trans (hM2.trans (hM1.trans (hM0.trans hN))))
    rw [hM] at hN9
    refine z_iconst (v := jI 0) K d_M_curve_285 rfl ?_
    refine z_iret K hr hlk d_M_curve_286 ⟨_, rfl, Or.inl ⟨good, Or.inl ⟨hnz, rfl, _, fun r h0 h1 => hS4 r h0 h1, fun i h0 h1 => ?_, ?_, fun q h0 h1 => ?_⟩⟩⟩
    · show N (3 * i) = 1
      rw [hN9, if_pos (by omega)]
    · simp [iu]
    · show N q = 0 ∨ N q = 1
      rw [hN9]
      by_cases z : 0 ≤ q ∧ q < 24 ∧ q % 3 = 0
      · rw [if_pos z]; exact Or.inr rfl
      · rw [if_neg z]; exact hN0 q h0 h1
  · have hz0 : disc (c1, c2, c3, c4, c6) = 0 := Int.sign_eq_zero_iff_zero.mp hz
    refine z_iconst (v := jI 5) K d_M_curve_237 rfl ?_
    exact z_iret K hr hlk d_M_curve_238 ⟨_, rfl, Or.inl ⟨good, Or.inr ⟨hz0, rfl, RS.keep hp hA hN0 hV7 (fun q hq => kq q (by omega)) (fun q _ _ => by rw [hN]) (fun q h0 h1 => by rw [hN]; exact hN0 q h0 h1)⟩⟩⟩
end M29
