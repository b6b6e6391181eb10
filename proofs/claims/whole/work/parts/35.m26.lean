theorem RW.rs {T : mT} {V V0 N0 : Int → Int} {A : Int × Int × Int × Int × Int} {pts : Int → Option (Int × Int × Int)} (h : RW T V V0 N0) (hA : V0 24 = A.1 ∧ V0 25 = A.2.1 ∧ V0 26 = A.2.2.1 ∧ V0 27 = A.2.2.2.1 ∧ V0 28 = A.2.2.2.2) (hp : ∀ i : Int, 0 ≤ i → i < 8 → PtAt V0 N0 (3 * i) (pts i)) : RS T pts A :=
  ⟨V, h.1, fun i h5 h6 => (hp i h5 h6).keep (h.2.1 _ (by omega)) (h.2.1 _ (by omega)) (h.2.1 _ (by omega)) (h.2.2.1 _ (by omega)), ⟨(h.2.1 24 (by decide)).trans hA.1, (h.2.1 25 (by decide)).trans hA.2.1, (h.2.1 26 (by decide)).trans hA.2.2.1, (h.2.1 27 (by decide)).trans hA.2.2.2.1, (h.2.1 28 (by decide)).trans hA.2.2.2.2⟩, h.2.2.2⟩
/-- what order answers: k turns left, the n-th multiple R -/
def OrdR (A : Int × Int × Int × Int × Int) (P : Option (Int × Int × Int)) : Nat → Int → Option (Int × Int × Int) → Int → Prop
  | 0, _, _, res => res = 0
  | k + 1, n, R, res => (R = none ∧ res = n) ∨ ∃ x y z : Int, R = some (x, y, z) ∧ ((2 < z.natAbs ∧ res = 0) ∨ (¬ 2 < z.natAbs ∧ OrdR A P k (n + 1) (jnA A R P) res))
/-- and what its points must be -/
def okO (A : Int × Int × Int × Int × Int) (P : Option (Int × Int × Int)) : Nat → Option (Int × Int × Int) → Prop
  | 0, _ => True
  | k + 1, R => ∀ x y z : Int, R = some (x, y, z) → z ≠ 0 ∧ (¬ 2 < z.natAbs → capJ R ∧ okJ A R P ∧ okO A P k (jnA A R P))
section M26
variable {p : Program} {l : Launch} {e : Env} {R : Room} {s : State} {m : MethodId} {args : Array Value} {below : List Frame} {meth : Method} {c : Code} {Q : State → Prop} {b0 kc ks : Nat} {G : zG} {h : zH} {a : Nat} {cd : Int}
set_option maxHeartbeats 4000000 in
set_option maxRecDepth 100000 in
/-- less(p, q, to) -/
theorem r_M_less (l : Launch) (G : zG) (b0 : Nat) (h : zH) (a : Nat) (T : mT) {pts : Int → Option (Int × Int × Int)} {A : Int × Int × Int × Int × Int} {s0 s1 s2 : Int} (hS : RS T pts A) (cA : capA A) (hcap : ∀ i : Int, capJ (pts i)) (hs0 : i32 s0) (hs1 : i32 s1) (hs2 : i32 s2) (ok : (0 ≤ s0 ∧ s0 < 8) → (0 ≤ s1 ∧ s1 < 8) → okJ A (pts s0) (ngP A.1 A.2.2.1 (pts s1)) ∧ capZ (jnA A (pts s0) (ngP A.1 A.2.2.1 (pts s1))) ∧ capJ (ngP A.1 A.2.2.1 (pts s1))) :
    mMet l G b0 y_M_less b_M_less 4 (some .int) 7 163 h a 0 [.int (jI s0), .int (jI s1), .int (jI s2)] T (fun o T' => (¬ ((0 ≤ s0 ∧ s0 < 8) ∧ (0 ≤ s1 ∧ s1 < 8) ∧ (0 ≤ s2 ∧ s2 < 8)) ∧ o = some (.int (jI (-1))) ∧ RS T' pts A) ∨ (((0 ≤ s0 ∧ s0 < 8) ∧ (0 ≤ s1 ∧ s1 < 8) ∧ (0 ≤ s2 ∧ s2 < 8)) ∧ ((o = some (.int (jI 0)) ∧ tlP (jnA A (pts s0) (ngP A.1 A.2.2.1 (pts s1))) ∧ RS T' pts A) ∨ (o = some (.int (jI 1)) ∧ ¬ tlP (jnA A (pts s0) (ngP A.1 A.2.2.1 (pts s1))) ∧ RS T' (fun i => if i = s2 then jnA A (pts s0) (ngP A.1 A.2.2.1 (pts s1)) else pts i) A)))) :=
  z_met (by decide) (Nat.le_of_ble_eq_true rfl) fun p e s m below meth c K hr hlk hnm => by
  have hS0 := hS
  obtain ⟨V, hV, hp, hA, hN⟩ := hS
  have no : ∀ hc : ¬ ((0 ≤ s0 ∧ s0 < 8) ∧ (0 ≤ s1 ∧ s1 < 8) ∧ (0 ≤ s2 ∧ s2 < 8)), zW p l e (zRm 7 163 0 0) s m ([.ref a, .int (jI s0), .int (jI s1), .int (jI s2)] : List Value).toArray below meth c 4 b0 G 0 0 (MQ below (zQ G b0 (fun r_1 h' => ∃ T' : mT, h' = hm G h a 0 T' ∧ ((¬ ((0 ≤ s0 ∧ s0 < 8) ∧ (0 ≤ s1 ∧ s1 < 8) ∧ (0 ≤ s2 ∧ s2 < 8)) ∧ r_1 = some (.int (jI (-1))) ∧ RS T' pts A) ∨ (((0 ≤ s0 ∧ s0 < 8) ∧ (0 ≤ s1 ∧ s1 < 8) ∧ (0 ≤ s2 ∧ s2 < 8)) ∧ ((r_1 = some (.int (jI 0)) ∧ tlP (jnA A (pts s0) (ngP A.1 A.2.2.1 (pts s1))) ∧ RS T' pts A) ∨ (r_1 = some (.int (jI 1)) ∧ ¬ tlP (jnA A (pts s0) (ngP A.1 A.2.2.1 (pts s1))) ∧ RS T' (fun i => if i = s2 then jnA A (pts s0) (ngP A.1 A.2.2.1 (pts s1)) else pts i) A)))))) ([.ref a, .int (jI s0), .int (jI s1), .int (jI s2)] : List Value).toArray s 0 0 (z_A b0)) (hm G h a 0 T) 26 [(0, .ref a), (1, .int (jI s0)), (2, .int (jI s1)), (3, .int (jI s2))] [] := fun hc => by
    refine z_iconst (v := jI (-1)) K d_M_less_26 rfl ?_
    exact z_iret K hr hlk d_M_less_27 ⟨_, rfl, Or.inl ⟨hc, rfl, hS0⟩⟩
  refine z_aload_n K d_M_less_0 rfl ?_
  refine z_iconst (v := jI 0) K d_M_less_1 rfl ?_
  refine zm_code K fd_M_30 d_M_less_2 ?_
  refine z_iload_n K d_M_less_5 rfl ?_
  refine z_callS (As := [.int (jI s0)]) K (c_M_isSlot l G b0 (hm G h a 0 T) hs0) ca_M_95 sm_M_isSlot rfl rfl (by decide) (Nat.le_of_ble_eq_true rfl) d_M_less_6 (fun o h1 hp1 => ?_)
  obtain ⟨rfl, rfl⟩ := hp1
  by_cases c0 : 0 ≤ s0 ∧ s0 < 8
  · rw [if_pos c0]
    refine zi_if_eq (tgt := 26) K d_M_less_9 (by decide) (by decide) (fun q => absurd q (by decide)) (fun _ => ?_)
    refine z_iload_n K d_M_less_12 rfl ?_
    refine z_callS (As := [.int (jI s1)]) K (c_M_isSlot l G b0 (hm G h a 0 T) hs1) ca_M_95 sm_M_isSlot rfl rfl (by decide) (Nat.le_of_ble_eq_true rfl) d_M_less_13 (fun o h1 hp1 => ?_)
    obtain ⟨rfl, rfl⟩ := hp1
    by_cases c1 : 0 ≤ s1 ∧ s1 < 8
    · rw [if_pos c1]
      refine zi_if_eq (tgt := 26) K d_M_less_16 (by decide) (by decide) (fun q => absurd q (by decide)) (fun _ => ?_)
      refine z_iload_n K d_M_less_19 rfl ?_
      refine z_callS (As := [.int (jI s2)]) K (c_M_isSlot l G b0 (hm G h a 0 T) hs2) ca_M_95 sm_M_isSlot rfl rfl (by decide) (Nat.le_of_ble_eq_true rfl) d_M_less_20 (fun o h1 hp1 => ?_)
      obtain ⟨rfl, rfl⟩ := hp1
      by_cases c2 : 0 ≤ s2 ∧ s2 < 8
      · rw [if_pos c2]
        refine zi_if_ne (tgt := 28) K d_M_less_23 (by decide) (by decide) (fun _ => ?_) (fun q => absurd q (by decide))
        obtain ⟨ok1, ok2, ok3⟩ := ok c0 c1
        have hW : RW T V V T.2.2.2 := ⟨hV, fun _ _ => rfl, fun _ _ => rfl, hN⟩
        refine z_aload_n K d_M_less_28 rfl ?_
        refine z_iconst (v := jI 3) K d_M_less_29 rfl ?_
        refine z_iload_n K d_M_less_30 rfl ?_
        refine zi_imul K d_M_less_31 ?_
        refine z_bipush (v := jI 30) K d_M_less_32 rfl ?_
        refine z_callV (ci := 0) (As := [.int (jI (3 * s0)), .int (jI 30)]) K (x_M_move l G b0 h a 0 T (pts s0) hW (by omega) (by decide) (by omega) (hp s0 c0.1 c0.2)) ca_M_112 im_M_move se_M_move rfl (by decide) hm_0 rfl rfl (by decide) (Nat.le_of_ble_eq_true rfl) d_M_less_34 (fun o h1 hp1 => ?_)
        obtain ⟨T1, rfl, rfl, V1, hW1, hP1, g1, n1⟩ := hp1
        refine z_aload_n K d_M_less_37 rfl ?_
        refine z_iconst (v := jI 3) K d_M_less_38 rfl ?_
        refine z_iload_n K d_M_less_39 rfl ?_
        refine zi_imul K d_M_less_40 ?_
        refine z_bipush (v := jI 33) K d_M_less_41 rfl ?_
        refine z_callV (ci := 0) (As := [.int (jI (3 * s1)), .int (jI 33)]) K (x_M_move l G b0 h a 0 T1 (pts s1) hW1 (by omega) (by decide) (by omega) ((hp s1 c1.1 c1.2).keep (g1 _ (by omega)) (g1 _ (by omega)) (g1 _ (by omega)) (n1 _ (by omega)))) ca_M_112 im_M_move se_M_move rfl (by decide) hm_0 rfl rfl (by decide) (Nat.le_of_ble_eq_true rfl) d_M_less_43 (fun o h1 hp1 => ?_)
        obtain ⟨T2, rfl, rfl, V2, hW2, hQ2, g2, n2⟩ := hp1
        refine z_aload_n K d_M_less_46 rfl ?_
        refine z_bipush (v := jI 33) K d_M_less_47 rfl ?_
        refine z_callV (ci := 0) (As := [.int (jI 33)]) K (v_M_turn (A2 := 0) (A4 := 0) (A6 := 0) l G b0 h a 0 T2 (pts s1) hW2.1 (by decide) ((hW2.2.1 24 (by decide)).trans hA.1) ((hW2.2.1 26 (by decide)).trans hA.2.2.1) cA.1 cA.2.2.1 hQ2 (hcap s1)) ca_M_143 im_M_turn se_M_turn rfl (by decide) hm_0 rfl rfl (by decide) (Nat.le_of_ble_eq_true rfl) d_M_less_49 (fun o h1 hp1 => ?_)
        obtain ⟨T5, rfl, rfl, ⟨V5, q1, q2, q3⟩, q4⟩ := hp1
        have hW5 : RW T5 V5 V T.2.2.2 := ⟨q1, fun q hq => (q2 q (by omega) (by omega)).trans (hW2.2.1 q hq), fun q hq => by rw [q4]; exact hW2.2.2.1 q hq, fun q h0 h1 => by rw [q4]; exact hW2.2.2.2 q h0 h1⟩
        have hP5 : PtAt V5 T5.2.2.2 30 (pts s0) := (hP1.keep (g2 _ (by decide)) (g2 _ (by decide)) (g2 _ (by decide)) (n2 _ (by decide))).keep (q2 _ (by decide) (by decide)) (q2 _ (by decide) (by decide)) (q2 _ (by decide) (by decide)) (by rw [q4])
        refine z_aload_n K d_M_less_52 rfl ?_
        refine z_callV (ci := 0) (As := []) K (x_M_join l G b0 h a 0 T5 (pts s0) (ngP A.1 A.2.2.1 (pts s1)) hW5 hA cA hP5 q3 (hcap s0) ok3 ok1) ca_M_137 im_M_join se_M_join rfl (by decide) hm_0 rfl rfl (by decide) (Nat.le_of_ble_eq_true rfl) d_M_less_53 (fun o h1 hp1 => ?_)
        obtain ⟨T3, rfl, rfl, V3, hW3, hR3⟩ := hp1
        refine z_aload_n K d_M_less_56 rfl ?_
        refine z_iload_n K d_M_less_57 rfl ?_
        refine z_callV (ci := 0) (As := [.int (jI s2)]) K (x_M_settle l G b0 h a 0 T3 (pts := pts) (jnA A (pts s0) (ngP A.1 A.2.2.1 (pts s1))) hW3 hA hp c2 hR3 ok2) ca_M_140 im_M_settle se_M_settle rfl (by decide) hm_0 rfl rfl (by decide) (Nat.le_of_ble_eq_true rfl) d_M_less_58 (fun o h1 hp1 => ?_)
        obtain ⟨T4, rfl, ⟨rfl, k1, k2⟩ | ⟨rfl, k1, k2⟩⟩ := hp1
        · exact z_iret K hr hlk d_M_less_61 ⟨_, rfl, Or.inr ⟨⟨c0, c1, c2⟩, Or.inl ⟨rfl, k1, k2⟩⟩⟩
        · exact z_iret K hr hlk d_M_less_61 ⟨_, rfl, Or.inr ⟨⟨c0, c1, c2⟩, Or.inr ⟨rfl, k1, k2⟩⟩⟩
      · rw [if_neg c2]
        refine zi_if_ne (tgt := 28) K d_M_less_23 (by decide) (by decide) (fun q => absurd rfl q) (fun _ => ?_)
        exact no (fun z => c2 z.2.2)
    · rw [if_neg c1]
      refine zi_if_eq (tgt := 26) K d_M_less_16 (by decide) (by decide) (fun _ => ?_) (fun q => absurd rfl q)
      exact no (fun z => c1 z.2.1)
  · rw [if_neg c0]
    refine zi_if_eq (tgt := 26) K d_M_less_9 (by decide) (by decide) (fun _ => ?_) (fun q => absurd rfl q)
    exact no (fun z => c0 z.1)
set_option maxHeartbeats 4000000 in
set_option maxRecDepth 100000 in
/-- order(slot) -/
theorem r_M_order (l : Launch) (G : zG) (b0 : Nat) (h : zH) (a : Nat) (T : mT) {pts : Int → Option (Int × Int × Int)} {A : Int × Int × Int × Int × Int} {s0 : Int} (hS : RS T pts A) (cA : capA A) (hcap : ∀ i : Int, capJ (pts i)) (hs0 : i32 s0) (ok : (0 ≤ s0 ∧ s0 < 8) → okO A (pts s0) 12 (pts s0)) :
    mMet l G b0 y_M_order b_M_order 3 (some .int) 7 163 h a 0 [.int (jI s0)] T (fun o T' => ∃ res : Int, o = some (.int (jI res)) ∧ RS T' pts A ∧ ((¬ (0 ≤ s0 ∧ s0 < 8) ∧ res = -1) ∨ ((0 ≤ s0 ∧ s0 < 8) ∧ OrdR A (pts s0) 12 1 (pts s0) res))) :=
  z_met (by decide) (Nat.le_of_ble_eq_true rfl) fun p e s m below meth c K hr hlk hnm => by
  have hS0 := hS
  obtain ⟨V0, hV, hp, hA, hN⟩ := hS
  refine z_aload_n K d_M_order_0 rfl ?_
  refine z_iconst (v := jI 0) K d_M_order_1 rfl ?_
  refine zm_code K fd_M_30 d_M_order_2 ?_
  refine z_iload_n K d_M_order_5 rfl ?_
  refine z_callS (As := [.int (jI s0)]) K (c_M_isSlot l G b0 (hm G h a 0 T) hs0) ca_M_95 sm_M_isSlot rfl rfl (by decide) (Nat.le_of_ble_eq_true rfl) d_M_order_6 (fun o h1 hp1 => ?_)
  obtain ⟨rfl, rfl⟩ := hp1
  by_cases c0 : 0 ≤ s0 ∧ s0 < 8
  · rw [if_pos c0]
    refine zi_if_ne (tgt := 14) K d_M_order_9 (by decide) (by decide) (fun _ => ?_) (fun q => absurd q (by decide))
    have hW : RW T V0 V0 T.2.2.2 := ⟨hV, fun _ _ => rfl, fun _ _ => rfl, hN⟩
    have loop : ∀ (k : Nat) (n : Int) (R0 : Option (Int × Int × Int)) (T1 : mT) (V1 : Int → Int), n + k = 13 → 1 ≤ n → RW T1 V1 V0 T.2.2.2 → PtAt V1 T1.2.2.2 36 R0 → okO A (pts s0) k R0 → (∀ res : Int, OrdR A (pts s0) k n R0 res → OrdR A (pts s0) 12 1 (pts s0) res) → zW p l e (zRm 7 163 0 0) s m ([.ref a, .int (jI s0)] : List Value).toArray below meth c 3 b0 G 0 0 (MQ below (zQ G b0 (fun r_1 h' => ∃ T' : mT, h' = hm G h a 0 T' ∧ ∃ res : Int, r_1 = some (.int (jI res)) ∧ RS T' pts A ∧ ((¬ (0 ≤ s0 ∧ s0 < 8) ∧ res = -1) ∨ ((0 ≤ s0 ∧ s0 < 8) ∧ OrdR A (pts s0) 12 1 (pts s0) res)))) ([.ref a, .int (jI s0)] : List Value).toArray s 0 0 (z_A b0)) (hm G h a 0 T1) 25 [(0, .ref a), (1, .int (jI s0)), (2, .int (jI n))] [] := by
      intro k
      induction k with
      | zero =>
        intro n R0 T1 V1 hn hn1 hW1 hR hok hsub
        refine z_iload_n K d_M_order_25 rfl ?_
        refine z_bipush (v := jI 12) K d_M_order_26 rfl ?_
        refine zi_icmp_gt (tgt := 95) K d_M_order_28 (by decide) (by omega) (by decide) (fun _ => ?_) (fun q => absurd q (by omega))
        refine z_iconst (v := jI 0) K d_M_order_95 rfl ?_
        exact z_iret K hr hlk d_M_order_96 ⟨_, rfl, 0, rfl, hW1.rs hA hp, Or.inr ⟨c0, hsub 0 rfl⟩⟩
      | succ k ih =>
        intro n R0 T1 V1 hn hn1 hW1 hR hok hsub
        refine z_iload_n K d_M_order_25 rfl ?_
        refine z_bipush (v := jI 12) K d_M_order_26 rfl ?_
        refine zi_icmp_gt (tgt := 95) K d_M_order_28 (by decide) (by omega) (by decide) (fun q => absurd q (by omega)) (fun _ => ?_)
        refine z_aload_n K d_M_order_31 rfl ?_
        refine zm_get K fd_M_19 rfl d_M_order_32 ?_
        refine z_bipush (v := jI 36) K d_M_order_35 rfl ?_
        refine zm_nld K (by omega) d_M_order_37 ?_
        cases R0 with
        | none =>
          have n1 : T1.2.2.2 36 = 1 := hR
          rw [n1]
          refine zi_if_eq (tgt := 43) K d_M_order_38 (by decide) (by decide) (fun q => absurd q (by decide)) (fun _ => ?_)
          refine z_iload_n K d_M_order_41 rfl ?_
          exact z_iret K hr hlk d_M_order_42 ⟨_, rfl, n, rfl, hW1.rs hA hp, Or.inr ⟨c0, hsub n (Or.inl ⟨rfl, rfl⟩)⟩⟩
        | some r0 =>
          obtain ⟨x, y, z⟩ := r0
          obtain ⟨nz, hokR⟩ := hok x y z rfl
          obtain ⟨n1, f1, f2, f3⟩ := hR
          have f3 : V1 38 = z := f3
          obtain ⟨nn, kk⟩ := hW1.1 38 (by decide) (by decide)
          rw [f3] at kk
          have kz := kk.zero
          have knn := kk.2.1
          rw [n1]
          refine zi_if_eq (tgt := 43) K d_M_order_38 (by decide) (by decide) (fun _ => ?_) (fun q => absurd rfl q)
          refine z_aload_n K d_M_order_43 rfl ?_
          refine zm_get K fd_M_13 rfl d_M_order_44 ?_
          refine z_bipush (v := jI 38) K d_M_order_47 rfl ?_
          refine zm_zld K (by omega) d_M_order_49 ?_
          refine z_iconst (v := jI 1) K d_M_order_50 rfl ?_
          rw [kk.1]
          refine zi_icmp_gt (tgt := 66) K d_M_order_51 (by decide) (by omega) (by decide) (fun q => ?_) (fun q => ?_)
          · obtain ⟨t, rfl⟩ : ∃ t, nn = t + 1 := ⟨nn - 1, by omega⟩
            have hge := kk.ge
            have hb := BS_mono (show 1 ≤ t by omega)
            have hb1 : BS ^ 1 = 1000000000 := by decide
            refine z_iconst (v := jI 0) K d_M_order_66 rfl ?_
            exact z_iret K hr hlk d_M_order_67 ⟨_, rfl, 0, rfl, hW1.rs hA hp, Or.inr ⟨c0, hsub 0 (Or.inr ⟨x, y, z, rfl, Or.inl ⟨by omega, rfl⟩⟩)⟩⟩
          · have hnn : nn = 1 := by omega
            subst hnn
            have hval : (z.natAbs : Int) = T1.1 17480 := by
              rw [kk.2.2.2.2.2]
              simp [dv]
            have hg0 := kk.2.2.1 0 (by decide)
            rw [show (460 : Int) * 38 + ((0 : Nat) : Int) = 17480 by decide] at hg0
            refine z_aload_n K d_M_order_54 rfl ?_
            refine zm_get K fd_M_9 rfl d_M_order_55 ?_
            refine z_sipush (v := jI 17480) K d_M_order_58 rfl ?_
            refine zm_cld K (by omega) d_M_order_61 ?_
            refine z_iconst (v := jI 2) K d_M_order_62 rfl ?_
            refine zi_icmp_le (tgt := 68) K d_M_order_63 (by decide) (by omega) (by decide) (fun q2 => ?_) (fun q2 => ?_)
            · have hsm : ¬ 2 < z.natAbs := by omega
              obtain ⟨hcR, ok1, ok2⟩ := hokR hsm
              refine z_aload_n K d_M_order_68 rfl ?_
              refine z_bipush (v := jI 36) K d_M_order_69 rfl ?_
              refine z_bipush (v := jI 30) K d_M_order_71 rfl ?_
              refine z_callV (ci := 0) (As := [.int (jI 36), .int (jI 30)]) K (x_M_move l G b0 h a 0 T1 (some (x, y, z)) hW1 (by decide) (by decide) (by decide) ⟨n1, f1, f2, f3⟩) ca_M_112 im_M_move se_M_move rfl (by decide) hm_0 rfl rfl (by decide) (Nat.le_of_ble_eq_true rfl) d_M_order_73 (fun o h1 hp1 => ?_)
              obtain ⟨T2, rfl, rfl, V2, hW2, hP2, g2, n2⟩ := hp1
              refine z_aload_n K d_M_order_76 rfl ?_
              refine z_iconst (v := jI 3) K d_M_order_77 rfl ?_
              refine z_iload_n K d_M_order_78 rfl ?_
              refine zi_imul K d_M_order_79 ?_
              refine z_bipush (v := jI 33) K d_M_order_80 rfl ?_
              refine z_callV (ci := 0) (As := [.int (jI (3 * s0)), .int (jI 33)]) K (x_M_move l G b0 h a 0 T2 (pts s0) hW2 (by omega) (by decide) (by omega) ((hp s0 c0.1 c0.2).keep (hW2.2.1 _ (by omega)) (hW2.2.1 _ (by omega)) (hW2.2.1 _ (by omega)) (hW2.2.2.1 _ (by omega)))) ca_M_112 im_M_move se_M_move rfl (by decide) hm_0 rfl rfl (by decide) (Nat.le_of_ble_eq_true rfl) d_M_order_82 (fun o h1 hp1 => ?_)
              obtain ⟨T3, rfl, rfl, V3, hW3, hQ3, g3, n3⟩ := hp1
              refine z_aload_n K d_M_order_85 rfl ?_
              refine z_callV (ci := 0) (As := []) K (x_M_join l G b0 h a 0 T3 (some (x, y, z)) (pts s0) hW3 hA cA (hP2.keep (g3 _ (by decide)) (g3 _ (by decide)) (g3 _ (by decide)) (n3 _ (by decide))) hQ3 hcR (hcap s0) ok1) ca_M_137 im_M_join se_M_join rfl (by decide) hm_0 rfl rfl (by decide) (Nat.le_of_ble_eq_true rfl) d_M_order_86 (fun o h1 hp1 => ?_)
              obtain ⟨T4, rfl, rfl, V4, hW4, hR4⟩ := hp1
              refine zi_iinc K d_M_order_89 rfl (by decide) ?_
              refine z_goto (tgt := 25) K d_M_order_92 (by decide) ?_
              refine z_re [0, 1, 2] rfl ?_
              exact ih (n + 1) _ T4 V4 (by omega) (by omega) hW4 hR4 ok2 (fun res hres => hsub res (Or.inr ⟨x, y, z, rfl, Or.inr ⟨hsm, hres⟩⟩))
            · refine z_iconst (v := jI 0) K d_M_order_66 rfl ?_
              exact z_iret K hr hlk d_M_order_67 ⟨_, rfl, 0, rfl, hW1.rs hA hp, Or.inr ⟨c0, hsub 0 (Or.inr ⟨x, y, z, rfl, Or.inl ⟨by omega, rfl⟩⟩)⟩⟩
    refine z_aload_n K d_M_order_14 rfl ?_
    refine z_iconst (v := jI 3) K d_M_order_15 rfl ?_
    refine z_iload_n K d_M_order_16 rfl ?_
    refine zi_imul K d_M_order_17 ?_
    refine z_bipush (v := jI 36) K d_M_order_18 rfl ?_
    refine z_callV (ci := 0) (As := [.int (jI (3 * s0)), .int (jI 36)]) K (x_M_move l G b0 h a 0 T (pts s0) hW (by omega) (by decide) (by omega) (hp s0 c0.1 c0.2)) ca_M_112 im_M_move se_M_move rfl (by decide) hm_0 rfl rfl (by decide) (Nat.le_of_ble_eq_true rfl) d_M_order_20 (fun o h1 hp1 => ?_)
    obtain ⟨T1, rfl, rfl, V1, hW1, hP1, g1, n1⟩ := hp1
    refine z_iconst (v := jI 1) K d_M_order_23 rfl ?_
    refine z_istore_n K d_M_order_24 (by decide) ?_
    exact z_re [0, 1, 2] rfl (loop 12 1 (pts s0) T1 V1 (by decide) (by decide) hW1 hP1 (ok c0) (fun _ hres => hres))
  · rw [if_neg c0]
    refine zi_if_ne (tgt := 14) K d_M_order_9 (by decide) (by decide) (fun q => absurd rfl q) (fun _ => ?_)
    refine z_iconst (v := jI (-1)) K d_M_order_12 rfl ?_
    exact z_iret K hr hlk d_M_order_13 ⟨_, rfl, -1, rfl, hS0, Or.inl ⟨c0, rfl⟩⟩
end M26
