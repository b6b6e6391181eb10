/-- two points whose sum can be reckoned here -/
def okJ (A : Int × Int × Int × Int × Int) (P Q : Option (Int × Int × Int)) : Prop :=
  (∀ x1 y1 z1 x2 y2 z2 : Int, P = some (x1, y1, z1) → Q = some (x2, y2, z2) → ¬ (x1 = x2 ∧ z1 = z2) → cD x1 z1 x2 z2 ≠ 0) ∧ (∀ x1 y1 z1 y2 : Int, P = some (x1, y1, z1) → Q = some (x1, y2, z1) → y1 + y2 + A.1 * x1 * z1 + A.2.2.1 * (z1 * z1) * z1 ≠ 0 → tD A.1 A.2.2.1 x1 y1 z1 ≠ 0)
def capA (A : Int × Int × Int × Int × Int) : Prop := lt9 A.1 1 ∧ lt9 A.2.1 1 ∧ lt9 A.2.2.1 1 ∧ lt9 A.2.2.2.1 1 ∧ lt9 A.2.2.2.2 1
def jnA (A : Int × Int × Int × Int × Int) (P Q : Option (Int × Int × Int)) : Option (Int × Int × Int) := jn A.1 A.2.1 A.2.2.1 A.2.2.2.1 P Q
/-- what holds while a public method works: V0 tells the slots and the curve, N0 which slots hold O -/
def RW (T : mT) (V : Int → Int) (V0 N0 : Int → Int) : Prop := RV T V ∧ (∀ q : Int, q < 30 → V q = V0 q) ∧ (∀ q : Int, q < 30 → T.2.2.2 q = N0 q) ∧ ∀ q : Int, 0 ≤ q → q < 56 → T.2.2.2 q = 0 ∨ T.2.2.2 q = 1
section M25
variable {p : Program} {l : Launch} {e : Env} {R : Room} {s : State} {m : MethodId} {args : Array Value} {below : List Frame} {meth : Method} {c : Code} {Q : State → Prop} {b0 kc ks : Nat} {G : zG} {h : zH} {a : Nat} {cd : Int}
/-- move, from a slot or a place of work to a place of work -/
theorem x_M_move (l : Launch) (G : zG) (b0 : Nat) (h : zH) (a : Nat) (cd : Int) (T : mT) {V V0 N0 : Int → Int} {f t : Int} (P : Option (Int × Int × Int)) (hW : RW T V V0 N0) (hf : 0 ≤ f ∧ f < 54) (ht : 30 ≤ t ∧ t < 54) (hft : f = t ∨ f + 3 ≤ t ∨ t + 3 ≤ f) (hP : PtAt V T.2.2.2 f P) : mMet l G b0 y_M_move b_M_move 4 none 1 23 h a cd [.int (jI f), .int (jI t)] T (fun o T' => o = none ∧ ∃ V' : Int → Int, RW T' V' V0 N0 ∧ PtAt V' T'.2.2.2 t P ∧ (∀ q : Int, q < t ∨ t + 3 ≤ q → V' q = V q) ∧ ∀ q : Int, q ≠ t → T'.2.2.2 q = T.2.2.2 q) := by
  obtain ⟨h1, h2, h3, h4⟩ := hW
  refine zMet_imp (v_M_move l G b0 h a cd T h1 hf (by omega) hft hP.bit) (fun o h' hp => ?_)
  obtain ⟨T1, e, rfl, ⟨V1, q1, q2, q3⟩, q4⟩ := hp
  refine ⟨T1, e, rfl, V1, ⟨q1, fun q hq => (q3 q (by omega)).trans (h2 q hq), fun q hq => by rw [q4, iu_ne _ _ (by omega)]; exact h3 q hq, fun q h5 h6 => ?_⟩, hP.mv q2 (by rw [q4, iu_self]), q3, fun q hq => by rw [q4, iu_ne _ _ hq]⟩
  rw [q4]
  by_cases hq : q = t
  · rw [hq, iu_self]; exact hP.bit
  · rw [iu_ne _ _ hq]; exact h4 q h5 h6
/-- join, at work -/
theorem x_M_join (l : Launch) (G : zG) (b0 : Nat) (h : zH) (a : Nat) (cd : Int) (T : mT) {V V0 N0 : Int → Int} {A : Int × Int × Int × Int × Int} (P Q : Option (Int × Int × Int)) (hW : RW T V V0 N0) (hA : V0 24 = A.1 ∧ V0 25 = A.2.1 ∧ V0 26 = A.2.2.1 ∧ V0 27 = A.2.2.2.1 ∧ V0 28 = A.2.2.2.2) (cA : capA A) (hP : PtAt V T.2.2.2 30 P) (hQ : PtAt V T.2.2.2 33 Q) (cP : capJ P) (cQ : capJ Q) (ok : okJ A P Q) : mMet l G b0 y_M_join b_M_join 1 none 6 143 h a cd [] T (fun o T' => o = none ∧ ∃ V' : Int → Int, RW T' V' V0 N0 ∧ PtAt V' T'.2.2.2 36 (jnA A P Q)) := by
  obtain ⟨h1, h2, h3, h4⟩ := hW
  refine zMet_imp (v_M_join l G b0 h a cd T h1 ((h2 24 (by decide)).trans hA.1) ((h2 25 (by decide)).trans hA.2.1) ((h2 26 (by decide)).trans hA.2.2.1) ((h2 27 (by decide)).trans hA.2.2.2.1) ((h2 28 (by decide)).trans hA.2.2.2.2) cA.1 cA.2.1 cA.2.2.1 cA.2.2.2.1 cA.2.2.2.2 P Q hP hQ cP cQ ok.1 ok.2) (fun o h' hp => ?_)
  obtain ⟨T1, e, rfl, V1, q1, q2, q3, q4⟩ := hp
  refine ⟨T1, e, rfl, V1, ⟨q1, fun q hq => (q2 q hq).trans (h2 q hq), fun q hq => (q4 q (by omega)).trans (h3 q hq), fun q h5 h6 => ?_⟩, q3⟩
  by_cases hq : q = 36
  · rw [hq]; exact q3.bit
  · rw [q4 q hq]; exact h4 q h5 h6
/-- settle, at work: back to the slots -/
theorem x_M_settle (l : Launch) (G : zG) (b0 : Nat) (h : zH) (a : Nat) (cd : Int) (T : mT) {V V0 N0 : Int → Int} {A : Int × Int × Int × Int × Int} {pts : Int → Option (Int × Int × Int)} {t : Int} (P : Option (Int × Int × Int)) (hW : RW T V V0 N0) (hA : V0 24 = A.1 ∧ V0 25 = A.2.1 ∧ V0 26 = A.2.2.1 ∧ V0 27 = A.2.2.2.1 ∧ V0 28 = A.2.2.2.2) (hp : ∀ i : Int, 0 ≤ i → i < 8 → PtAt V0 N0 (3 * i) (pts i)) (ht : 0 ≤ t ∧ t < 8) (hP : PtAt V T.2.2.2 36 P) (cP : capZ P) : mMet l G b0 y_M_settle b_M_settle 2 (some .int) 3 76 h a cd [.int (jI t)] T (fun o T' => (o = some (.int (jI 0)) ∧ tlP P ∧ RS T' pts A) ∨ (o = some (.int (jI 1)) ∧ ¬ tlP P ∧ RS T' (fun i => if i = t then P else pts i) A)) := by
  obtain ⟨h1, h2, h3, h4⟩ := hW
  refine zMet_imp (v_M_settle l G b0 h a cd T P h1 ht hP cP) (fun o h' hp2 => ?_)
  obtain ⟨T1, e, b, rfl, ⟨rfl, k1, ⟨V1, q1, q2⟩, q3⟩ | ⟨rfl, k1, ⟨V1, q1, q2, q3⟩, q4⟩⟩ := hp2
  · refine ⟨T1, e, Or.inl ⟨rfl, k1, V1, q1, fun i h5 h6 => ?_, ?_, fun q h5 h6 => by rw [q3]; exact h4 q h5 h6⟩⟩
    · exact (hp i h5 h6).keep ((q2 _ (by omega)).trans (h2 _ (by omega))) ((q2 _ (by omega)).trans (h2 _ (by omega))) ((q2 _ (by omega)).trans (h2 _ (by omega))) (by rw [q3]; exact h3 _ (by omega))
    · exact ⟨((q2 24 (by decide)).trans (h2 24 (by decide))).trans hA.1, ((q2 25 (by decide)).trans (h2 25 (by decide))).trans hA.2.1, ((q2 26 (by decide)).trans (h2 26 (by decide))).trans hA.2.2.1, ((q2 27 (by decide)).trans (h2 27 (by decide))).trans hA.2.2.2.1, ((q2 28 (by decide)).trans (h2 28 (by decide))).trans hA.2.2.2.2⟩
  · refine ⟨T1, e, Or.inr ⟨rfl, k1, V1, q1, fun i h5 h6 => ?_, ?_, fun q h5 h6 => ?_⟩⟩
    · dsimp only
      by_cases hi : i = t
      · subst hi; rw [if_pos rfl]; exact q3
      · rw [if_neg hi]
        exact (hp i h5 h6).keep ((q2 _ (by omega) (by omega)).trans (h2 _ (by omega))) ((q2 _ (by omega) (by omega)).trans (h2 _ (by omega))) ((q2 _ (by omega) (by omega)).trans (h2 _ (by omega))) ((q4 _ (by omega)).trans (h3 _ (by omega)))
    · exact ⟨((q2 24 (by decide) (by omega)).trans (h2 24 (by decide))).trans hA.1, ((q2 25 (by decide) (by omega)).trans (h2 25 (by decide))).trans hA.2.1, ((q2 26 (by decide) (by omega)).trans (h2 26 (by decide))).trans hA.2.2.1, ((q2 27 (by decide) (by omega)).trans (h2 27 (by decide))).trans hA.2.2.2.1, ((q2 28 (by decide) (by omega)).trans (h2 28 (by decide))).trans hA.2.2.2.2⟩
    · by_cases hq : q = 3 * t
      · rw [hq]; exact q3.bit
      · rw [q4 q hq]; exact h4 q h5 h6
set_option maxHeartbeats 4000000 in
set_option maxRecDepth 100000 in
/-- sum(p, q, to) -/
theorem r_M_sum (l : Launch) (G : zG) (b0 : Nat) (h : zH) (a : Nat) (T : mT) {pts : Int → Option (Int × Int × Int)} {A : Int × Int × Int × Int × Int} {s0 s1 s2 : Int} (hS : RS T pts A) (cA : capA A) (hcap : ∀ i : Int, capJ (pts i)) (hs0 : i32 s0) (hs1 : i32 s1) (hs2 : i32 s2) (ok : (0 ≤ s0 ∧ s0 < 8) → (0 ≤ s1 ∧ s1 < 8) → okJ A (pts s0) (pts s1) ∧ capZ (jnA A (pts s0) (pts s1))) :
    mMet l G b0 y_M_sum b_M_sum 4 (some .int) 7 163 h a 0 [.int (jI s0), .int (jI s1), .int (jI s2)] T (fun o T' => (¬ ((0 ≤ s0 ∧ s0 < 8) ∧ (0 ≤ s1 ∧ s1 < 8) ∧ (0 ≤ s2 ∧ s2 < 8)) ∧ o = some (.int (jI (-1))) ∧ RS T' pts A) ∨ (((0 ≤ s0 ∧ s0 < 8) ∧ (0 ≤ s1 ∧ s1 < 8) ∧ (0 ≤ s2 ∧ s2 < 8)) ∧ ((o = some (.int (jI 0)) ∧ tlP (jnA A (pts s0) (pts s1)) ∧ RS T' pts A) ∨ (o = some (.int (jI 1)) ∧ ¬ tlP (jnA A (pts s0) (pts s1)) ∧ RS T' (fun i => if i = s2 then jnA A (pts s0) (pts s1) else pts i) A)))) :=
  z_met (by decide) (Nat.le_of_ble_eq_true rfl) fun p e s m below meth c K hr hlk hnm => by
  have hS0 := hS
  obtain ⟨V, hV, hp, hA, hN⟩ := hS
  have no : ∀ hc : ¬ ((0 ≤ s0 ∧ s0 < 8) ∧ (0 ≤ s1 ∧ s1 < 8) ∧ (0 ≤ s2 ∧ s2 < 8)), zW p l e (zRm 7 163 0 0) s m ([.ref a, .int (jI s0), .int (jI s1), .int (jI s2)] : List Value).toArray below meth c 4 b0 G 0 0 (MQ below (zQ G b0 (fun r_1 h' => ∃ T' : mT, h' = hm G h a 0 T' ∧ ((¬ ((0 ≤ s0 ∧ s0 < 8) ∧ (0 ≤ s1 ∧ s1 < 8) ∧ (0 ≤ s2 ∧ s2 < 8)) ∧ r_1 = some (.int (jI (-1))) ∧ RS T' pts A) ∨ (((0 ≤ s0 ∧ s0 < 8) ∧ (0 ≤ s1 ∧ s1 < 8) ∧ (0 ≤ s2 ∧ s2 < 8)) ∧ ((r_1 = some (.int (jI 0)) ∧ tlP (jnA A (pts s0) (pts s1)) ∧ RS T' pts A) ∨ (r_1 = some (.int (jI 1)) ∧ ¬ tlP (jnA A (pts s0) (pts s1)) ∧ RS T' (fun i => if i = s2 then jnA A (pts s0) (pts s1) else pts i) A)))))) ([.ref a, .int (jI s0), .int (jI s1), .int (jI s2)] : List Value).toArray s 0 0 (z_A b0)) (hm G h a 0 T) 26 [(0, .ref a), (1, .int (jI s0)), (2, .int (jI s1)), (3, .int (jI s2))] [] := fun hc => by
    refine z_iconst (v := jI (-1)) K d_M_sum_26 rfl ?_
    exact z_iret K hr hlk d_M_sum_27 ⟨_, rfl, Or.inl ⟨hc, rfl, hS0⟩⟩
  refine z_aload_n K d_M_sum_0 rfl ?_
  refine z_iconst (v := jI 0) K d_M_sum_1 rfl ?_
  refine zm_code K fd_M_30 d_M_sum_2 ?_
  refine z_iload_n K d_M_sum_5 rfl ?_
  refine z_callS (As := [.int (jI s0)]) K (c_M_isSlot l G b0 (hm G h a 0 T) hs0) ca_M_95 sm_M_isSlot rfl rfl (by decide) (Nat.le_of_ble_eq_true rfl) d_M_sum_6 (fun o h1 hp1 => ?_)
  obtain ⟨rfl, rfl⟩ := hp1
  by_cases c0 : 0 ≤ s0 ∧ s0 < 8
  · rw [if_pos c0]
    refine zi_if_eq (tgt := 26) K d_M_sum_9 (by decide) (by decide) (fun q => absurd q (by decide)) (fun _ => ?_)
    refine z_iload_n K d_M_sum_12 rfl ?_
    refine z_callS (As := [.int (jI s1)]) K (c_M_isSlot l G b0 (hm G h a 0 T) hs1) ca_M_95 sm_M_isSlot rfl rfl (by decide) (Nat.le_of_ble_eq_true rfl) d_M_sum_13 (fun o h1 hp1 => ?_)
    obtain ⟨rfl, rfl⟩ := hp1
    by_cases c1 : 0 ≤ s1 ∧ s1 < 8
    · rw [if_pos c1]
      refine zi_if_eq (tgt := 26) K d_M_sum_16 (by decide) (by decide) (fun q => absurd q (by decide)) (fun _ => ?_)
      refine z_iload_n K d_M_sum_19 rfl ?_
      refine z_callS (As := [.int (jI s2)]) K (c_M_isSlot l G b0 (hm G h a 0 T) hs2) ca_M_95 sm_M_isSlot rfl rfl (by decide) (Nat.le_of_ble_eq_true rfl) d_M_sum_20 (fun o h1 hp1 => ?_)
      obtain ⟨rfl, rfl⟩ := hp1
      by_cases c2 : 0 ≤ s2 ∧ s2 < 8
      · rw [if_pos c2]
        refine zi_if_ne (tgt := 28) K d_M_sum_23 (by decide) (by decide) (fun _ => ?_) (fun q => absurd q (by decide))
        obtain ⟨ok1, ok2⟩ := ok c0 c1
        have hW : RW T V V T.2.2.2 := ⟨hV, fun _ _ => rfl, fun _ _ => rfl, hN⟩
        refine z_aload_n K d_M_sum_28 rfl ?_
        refine z_iconst (v := jI 3) K d_M_sum_29 rfl ?_
        refine z_iload_n K d_M_sum_30 rfl ?_
        refine zi_imul K d_M_sum_31 ?_
        refine z_bipush (v := jI 30) K d_M_sum_32 rfl ?_
        refine z_callV (ci := 0) (As := [.int (jI (3 * s0)), .int (jI 30)]) K (x_M_move l G b0 h a 0 T (pts s0) hW (by omega) (by decide) (by omega) (hp s0 c0.1 c0.2)) ca_M_112 im_M_move se_M_move rfl (by decide) hm_0 rfl rfl (by decide) (Nat.le_of_ble_eq_true rfl) d_M_sum_34 (fun o h1 hp1 => ?_)
        obtain ⟨T1, rfl, rfl, V1, hW1, hP1, g1, n1⟩ := hp1
        refine z_aload_n K d_M_sum_37 rfl ?_
        refine z_iconst (v := jI 3) K d_M_sum_38 rfl ?_
        refine z_iload_n K d_M_sum_39 rfl ?_
        refine zi_imul K d_M_sum_40 ?_
        refine z_bipush (v := jI 33) K d_M_sum_41 rfl ?_
        refine z_callV (ci := 0) (As := [.int (jI (3 * s1)), .int (jI 33)]) K (x_M_move l G b0 h a 0 T1 (pts s1) hW1 (by omega) (by decide) (by omega) ((hp s1 c1.1 c1.2).keep (g1 _ (by omega)) (g1 _ (by omega)) (g1 _ (by omega)) (n1 _ (by omega)))) ca_M_112 im_M_move se_M_move rfl (by decide) hm_0 rfl rfl (by decide) (Nat.le_of_ble_eq_true rfl) d_M_sum_43 (fun o h1 hp1 => ?_)
        obtain ⟨T2, rfl, rfl, V2, hW2, hQ2, g2, n2⟩ := hp1
        refine z_aload_n K d_M_sum_46 rfl ?_
        refine z_callV (ci := 0) (As := []) K (x_M_join l G b0 h a 0 T2 (pts s0) (pts s1) hW2 hA cA (hP1.keep (g2 _ (by decide)) (g2 _ (by decide)) (g2 _ (by decide)) (n2 _ (by decide))) hQ2 (hcap s0) (hcap s1) ok1) ca_M_137 im_M_join se_M_join rfl (by decide) hm_0 rfl rfl (by decide) (Nat.le_of_ble_eq_true rfl) d_M_sum_47 (fun o h1 hp1 => ?_)
        obtain ⟨T3, rfl, rfl, V3, hW3, hR3⟩ := hp1
        refine z_aload_n K d_M_sum_50 rfl ?_
        refine z_iload_n K d_M_sum_51 rfl ?_
        refine z_callV (ci := 0) (As := [.int (jI s2)]) K (x_M_settle l G b0 h a 0 T3 (pts := pts) (jnA A (pts s0) (pts s1)) hW3 hA hp c2 hR3 ok2) ca_M_140 im_M_settle se_M_settle rfl (by decide) hm_0 rfl rfl (by decide) (Nat.le_of_ble_eq_true rfl) d_M_sum_52 (fun o h1 hp1 => ?_)
        obtain ⟨T4, rfl, ⟨rfl, k1, k2⟩ | ⟨rfl, k1, k2⟩⟩ := hp1
        · exact z_iret K hr hlk d_M_sum_55 ⟨_, rfl, Or.inr ⟨⟨c0, c1, c2⟩, Or.inl ⟨rfl, k1, k2⟩⟩⟩
        · exact z_iret K hr hlk d_M_sum_55 ⟨_, rfl, Or.inr ⟨⟨c0, c1, c2⟩, Or.inr ⟨rfl, k1, k2⟩⟩⟩
      · rw [if_neg c2]
        refine zi_if_ne (tgt := 28) K d_M_sum_23 (by decide) (by decide) (fun q => absurd rfl q) (fun _ => ?_)
        exact no (fun z => c2 z.2.2)
    · rw [if_neg c1]
      refine zi_if_eq (tgt := 26) K d_M_sum_16 (by decide) (by decide) (fun _ => ?_) (fun q => absurd rfl q)
      exact no (fun z => c1 z.2.1)
  · rw [if_neg c0]
    refine zi_if_eq (tgt := 26) K d_M_sum_9 (by decide) (by decide) (fun _ => ?_) (fun q => absurd rfl q)
    exact no (fun z => c0 z.1)
end M25
