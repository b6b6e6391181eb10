/-- THE REFERENCE'S STATE: the points in the slots, and the curve -/
def RS (T : mT) (pts : Int → Option (Int × Int × Int)) (A : Int × Int × Int × Int × Int) : Prop := ∃ V : Int → Int, RV T V ∧ (∀ i : Int, 0 ≤ i → i < 8 → PtAt V T.2.2.2 (3 * i) (pts i)) ∧ (V 24 = A.1 ∧ V 25 = A.2.1 ∧ V 26 = A.2.2.1 ∧ V 27 = A.2.2.2.1 ∧ V 28 = A.2.2.2.2) ∧ ∀ q : Int, 0 ≤ q → q < 56 → T.2.2.2 q = 0 ∨ T.2.2.2 q = 1
theorem PtAt.keep {V V' N N' : Int → Int} {b : Int} {o : Option (Int × Int × Int)} (h : PtAt V N b o) (h1 : V' b = V b) (h2 : V' (b + 1) = V (b + 1)) (h3 : V' (b + 2) = V (b + 2)) (h4 : N' b = N b) : PtAt V' N' b o := by
  cases o with
  | none => exact h4.trans h
  | some p =>
    obtain ⟨x, y, z⟩ := p
    exact ⟨h4.trans h.1, h1.trans h.2.1, h2.trans h.2.2.1, h3.trans h.2.2.2⟩
/-- the number of a point that 'what' names -/
def numP (p : Int × Int × Int) (w : Int) : Int := if w = 0 then p.1 else if w = 1 then p.2.2 * p.2.2 else if w = 2 then p.2.1 else p.2.2 * p.2.2 * p.2.2
section M23
variable {p : Program} {l : Launch} {e : Env} {R : Room} {s : State} {m : MethodId} {args : Array Value} {below : List Frame} {meth : Method} {c : Code} {Q : State → Prop} {b0 kc ks : Nat} {G : zG} {h : zH} {a : Nat} {cd : Int}
set_option maxHeartbeats 4000000 in
set_option maxRecDepth 100000 in
theorem r_M_isNone (l : Launch) (G : zG) (b0 : Nat) (h : zH) (a : Nat) (T : mT) {pts : Int → Option (Int × Int × Int)} {A : Int × Int × Int × Int × Int} {s0 : Int} (hS : RS T pts A) (hs : i32 s0) : mMet l G b0 y_M_isNone b_M_isNone 2 (some .boolean) 1 20 h a 0 [.int (jI s0)] T (fun o T' => T = T' ∧ ∃ b : Int, o = some (.int (jI b)) ∧ (b = 0 ∨ b = 1) ∧ (b = 1 ↔ (0 ≤ s0 ∧ s0 < 8) ∧ pts s0 = none)) :=
  z_met (by decide) (Nat.le_of_ble_eq_true rfl) fun p e s m below meth c K hr hlk hnm => by
  obtain ⟨V, hV, hp, hA, hN⟩ := hS
  refine z_aload_n K d_M_isNone_0 rfl ?_
  refine z_iconst (v := jI 0) K d_M_isNone_1 rfl ?_
  refine zm_code K fd_M_30 d_M_isNone_2 ?_
  refine z_iload_n K d_M_isNone_5 rfl ?_
  refine z_callS (As := [.int (jI s0)]) K (c_M_isSlot l G b0 (hm G h a 0 T) hs) ca_M_95 sm_M_isSlot rfl rfl (by decide) (Nat.le_of_ble_eq_true rfl) d_M_isNone_6 (fun o h1 hp1 => ?_)
  obtain ⟨rfl, rfl⟩ := hp1
  by_cases hc : 0 ≤ s0 ∧ s0 < 8
  · rw [if_pos hc]
    have hpt := hp s0 hc.1 hc.2
    refine zi_if_eq (tgt := 27) K d_M_isNone_9 (by decide) (by decide) (fun q => absurd q (by decide)) (fun _ => ?_)
    refine z_aload_n K d_M_isNone_12 rfl ?_
    refine zm_get K fd_M_19 rfl d_M_isNone_13 ?_
    refine z_iconst (v := jI 3) K d_M_isNone_16 rfl ?_
    refine z_iload_n K d_M_isNone_17 rfl ?_
    refine zi_imul K d_M_isNone_18 ?_
    refine zm_nld K (by omega) d_M_isNone_19 ?_
    rcases hpt.bit with hb | hb
    · rw [hb]
      refine zi_if_eq (tgt := 27) K d_M_isNone_20 (by decide) (by decide) (fun _ => ?_) (fun q => absurd rfl q)
      refine z_iconst (v := jI 0) K d_M_isNone_27 rfl ?_
      refine z_zret K hr hlk d_M_isNone_28 rfl ⟨_, rfl, rfl, 0, rfl, Or.inl rfl, ?_⟩
      constructor
      · intro q; omega
      · intro q
        rw [q.2] at hpt
        have : T.2.2.2 (3 * s0) = 1 := hpt
        omega
    · rw [hb]
      refine zi_if_eq (tgt := 27) K d_M_isNone_20 (by decide) (by decide) (fun q => absurd q (by decide)) (fun _ => ?_)
      refine z_iconst (v := jI 1) K d_M_isNone_23 rfl ?_
      refine z_goto (tgt := 28) K d_M_isNone_24 (by decide) ?_
      refine z_zret K hr hlk d_M_isNone_28 rfl ⟨_, rfl, rfl, 1, rfl, Or.inr rfl, ?_⟩
      constructor
      · intro _
        refine ⟨hc, ?_⟩
        cases hps : pts s0 with
        | none => rfl
        | some p =>
          rw [hps] at hpt
          have : T.2.2.2 (3 * s0) = 0 := hpt.1
          omega
      · intro _; rfl
  · rw [if_neg hc]
    refine zi_if_eq (tgt := 27) K d_M_isNone_9 (by decide) (by decide) (fun _ => ?_) (fun q => absurd rfl q)
    refine z_iconst (v := jI 0) K d_M_isNone_27 rfl ?_
    exact z_zret K hr hlk d_M_isNone_28 rfl ⟨_, rfl, rfl, 0, rfl, Or.inl rfl, ⟨fun q => by omega, fun q => absurd q.1 hc⟩⟩
set_option maxHeartbeats 4000000 in
set_option maxRecDepth 100000 in
theorem r_M_none (l : Launch) (G : zG) (b0 : Nat) (h : zH) (a : Nat) (T : mT) {pts : Int → Option (Int × Int × Int)} {A : Int × Int × Int × Int × Int} {s0 : Int} (hS : RS T pts A) (hs : i32 s0) : mMet l G b0 y_M_none b_M_none 2 (some .boolean) 1 20 h a 0 [.int (jI s0)] T (fun o T' => (0 ≤ s0 ∧ s0 < 8) ∧ o = some (.int (jI 1)) ∧ RS T' (fun i => if i = s0 then none else pts i) A ∨ ¬ (0 ≤ s0 ∧ s0 < 8) ∧ o = some (.int (jI 0)) ∧ T = T') :=
  z_met (by decide) (Nat.le_of_ble_eq_true rfl) fun p e s m below meth c K hr hlk hnm => by
  obtain ⟨V, hV, hp, hA, hN⟩ := hS
  refine z_aload_n K d_M_none_0 rfl ?_
  refine z_iconst (v := jI 0) K d_M_none_1 rfl ?_
  refine zm_code K fd_M_30 d_M_none_2 ?_
  refine z_iload_n K d_M_none_5 rfl ?_
  refine z_callS (As := [.int (jI s0)]) K (c_M_isSlot l G b0 (hm G h a 0 T) hs) ca_M_95 sm_M_isSlot rfl rfl (by decide) (Nat.le_of_ble_eq_true rfl) d_M_none_6 (fun o h1 hp1 => ?_)
  obtain ⟨rfl, rfl⟩ := hp1
  by_cases hc : 0 ≤ s0 ∧ s0 < 8
  · rw [if_pos hc]
    refine zi_if_eq (tgt := 21) K d_M_none_9 (by decide) (by decide) (fun q => absurd q (by decide)) (fun _ => ?_)
    refine z_aload_n K d_M_none_12 rfl ?_
    refine zm_get K fd_M_19 rfl d_M_none_13 ?_
    refine z_iconst (v := jI 3) K d_M_none_16 rfl ?_
    refine z_iload_n K d_M_none_17 rfl ?_
    refine zi_imul K d_M_none_18 ?_
    refine z_iconst (v := jI 1) K d_M_none_19 rfl ?_
    refine zm_nst K (by omega) (Or.inr rfl) d_M_none_20 ?_
    refine z_iload_n K d_M_none_21 rfl ?_
    refine z_callS (As := [.int (jI s0)]) K (c_M_isSlot l G b0 _ hs) ca_M_95 sm_M_isSlot rfl rfl (by decide) (Nat.le_of_ble_eq_true rfl) d_M_none_22 (fun o h1 hp1 => ?_)
    obtain ⟨rfl, rfl⟩ := hp1
    rw [if_pos hc]
    refine z_zret K hr hlk d_M_none_25 rfl ⟨_, rfl, Or.inl ⟨hc, rfl, V, fun r h0 h1 => hV r h0 h1, fun i h0 h1 => ?_, hA, fun q h0 h1 => ?_⟩⟩
    · dsimp only
      by_cases hi : i = s0
      · subst hi
        rw [if_pos rfl]
        exact iu_self _ _ _
      · rw [if_neg hi]
        exact (hp i h0 h1).keep rfl rfl rfl (iu_ne _ _ (by omega))
    · dsimp only
      by_cases hq : q = 3 * s0
      · rw [hq, iu_self]; exact Or.inr rfl
      · rw [iu_ne _ _ hq]; exact hN q h0 h1
  · rw [if_neg hc]
    refine zi_if_eq (tgt := 21) K d_M_none_9 (by decide) (by decide) (fun _ => ?_) (fun q => absurd rfl q)
    refine z_iload_n K d_M_none_21 rfl ?_
    refine z_callS (As := [.int (jI s0)]) K (c_M_isSlot l G b0 _ hs) ca_M_95 sm_M_isSlot rfl rfl (by decide) (Nat.le_of_ble_eq_true rfl) d_M_none_22 (fun o h1 hp1 => ?_)
    obtain ⟨rfl, rfl⟩ := hp1
    rw [if_neg hc]
    exact z_zret K hr hlk d_M_none_25 rfl ⟨_, rfl, Or.inr ⟨hc, rfl, rfl⟩⟩
set_option maxHeartbeats 4000000 in
set_option maxRecDepth 100000 in
/-- same(p, q) -/
theorem r_M_same (l : Launch) (G : zG) (b0 : Nat) (h : zH) (a : Nat) (T : mT) {pts : Int → Option (Int × Int × Int)} {A : Int × Int × Int × Int × Int} {s0 s1 : Int} (hS : RS T pts A) (hs : i32 s0) (hs1 : i32 s1) : mMet l G b0 y_M_same b_M_same 3 (some .boolean) 2 45 h a 0 [.int (jI s0), .int (jI s1)] T (fun o T' => T = T' ∧ ∃ b : Int, o = some (.int (jI b)) ∧ (b = 0 ∨ b = 1) ∧ (b = 1 ↔ (0 ≤ s0 ∧ s0 < 8) ∧ (0 ≤ s1 ∧ s1 < 8) ∧ pts s0 = pts s1)) :=
  z_met (by decide) (Nat.le_of_ble_eq_true rfl) fun p e s m below meth c K hr hlk hnm => by
  obtain ⟨V, hV, hp, hA, hN⟩ := hS
  refine z_aload_n K d_M_same_0 rfl ?_
  refine z_iconst (v := jI 0) K d_M_same_1 rfl ?_
  refine zm_code K fd_M_30 d_M_same_2 ?_
  refine z_iload_n K d_M_same_5 rfl ?_
  refine z_callS (As := [.int (jI s0)]) K (c_M_isSlot l G b0 (hm G h a 0 T) hs) ca_M_95 sm_M_isSlot rfl rfl (by decide) (Nat.le_of_ble_eq_true rfl) d_M_same_6 (fun o h1 hp1 => ?_)
  obtain ⟨rfl, rfl⟩ := hp1
  by_cases hc : 0 ≤ s0 ∧ s0 < 8
  · rw [if_pos hc]
    refine zi_if_eq (tgt := 19) K d_M_same_9 (by decide) (by decide) (fun q => absurd q (by decide)) (fun _ => ?_)
    refine z_iload_n K d_M_same_12 rfl ?_
    refine z_callS (As := [.int (jI s1)]) K (c_M_isSlot l G b0 (hm G h a 0 T) hs1) ca_M_95 sm_M_isSlot rfl rfl (by decide) (Nat.le_of_ble_eq_true rfl) d_M_same_13 (fun o h1 hp1 => ?_)
    obtain ⟨rfl, rfl⟩ := hp1
    by_cases hc1 : 0 ≤ s1 ∧ s1 < 8
    · rw [if_pos hc1]
      refine zi_if_ne (tgt := 21) K d_M_same_16 (by decide) (by decide) (fun _ => ?_) (fun q => absurd q (by decide))
      have hp0 := hp s0 hc.1 hc.2
      have hp2 := hp s1 hc1.1 hc1.2
      have key : ∀ (o1 o2 : Option (Int × Int × Int)), PtAt V T.2.2.2 (3 * s0) o1 → PtAt V T.2.2.2 (3 * s1) o2 → zW p l e (zRm 2 45 0 0) s m ([.ref a, .int (jI s0), .int (jI s1)] : List Value).toArray below meth c 3 b0 G 0 0 (MQ below (zQ G b0 (fun r_1 h' => ∃ T' : mT, h' = hm G h a 0 T' ∧ T = T' ∧ ∃ b : Int, r_1 = some (.int (jI b)) ∧ (b = 0 ∨ b = 1) ∧ (b = 1 ↔ o1 = o2))) ([.ref a, .int (jI s0), .int (jI s1)] : List Value).toArray s 0 0 (z_A b0)) (hm G h a 0 T) 21 [(0, .ref a), (1, .int (jI s0)), (2, .int (jI s1))] [] := fun o1 o2 k1 k2 => by
        refine z_aload_n K d_M_same_21 rfl ?_
        refine zm_get K fd_M_19 rfl d_M_same_22 ?_
        refine z_iconst (v := jI 3) K d_M_same_25 rfl ?_
        refine z_iload_n K d_M_same_26 rfl ?_
        refine zi_imul K d_M_same_27 ?_
        refine zm_nld K (by omega) d_M_same_28 ?_
        match o1, o2, k1, k2 with
        | none, o2, k1, k2 =>
          have n1 : T.2.2.2 (3 * s0) = 1 := k1
          rw [n1]
          refine zi_if_ne (tgt := 43) K d_M_same_29 (by decide) (by decide) (fun _ => ?_) (fun q => absurd q (by decide))
          refine z_aload_n K d_M_same_43 rfl ?_
          refine zm_get K fd_M_19 rfl d_M_same_44 ?_
          refine z_iconst (v := jI 3) K d_M_same_47 rfl ?_
          refine z_iload_n K d_M_same_48 rfl ?_
          refine zi_imul K d_M_same_49 ?_
          refine zm_nld K (by omega) d_M_same_50 ?_
          rw [n1]
          refine zi_if_eq (tgt := 69) K d_M_same_51 (by decide) (by decide) (fun q => absurd q (by decide)) (fun _ => ?_)
          refine z_aload_n K d_M_same_54 rfl ?_
          refine zm_get K fd_M_19 rfl d_M_same_55 ?_
          refine z_iconst (v := jI 3) K d_M_same_58 rfl ?_
          refine z_iload_n K d_M_same_59 rfl ?_
          refine zi_imul K d_M_same_60 ?_
          refine zm_nld K (by omega) d_M_same_61 ?_
          cases o2 with
          | none =>
            have n2 : T.2.2.2 (3 * s1) = 1 := k2
            rw [n2]
            refine zi_if_eq (tgt := 69) K d_M_same_62 (by decide) (by decide) (fun q => absurd q (by decide)) (fun _ => ?_)
            refine z_iconst (v := jI 1) K d_M_same_65 rfl ?_
            refine z_goto (tgt := 70) K d_M_same_66 (by decide) ?_
            exact z_zret K hr hlk d_M_same_70 rfl ⟨_, rfl, rfl, 1, rfl, Or.inr rfl, by simp⟩
          | some q2 =>
            have n2 : T.2.2.2 (3 * s1) = 0 := k2.1
            rw [n2]
            refine zi_if_eq (tgt := 69) K d_M_same_62 (by decide) (by decide) (fun _ => ?_) (fun q => absurd rfl q)
            refine z_iconst (v := jI 0) K d_M_same_69 rfl ?_
            exact z_zret K hr hlk d_M_same_70 rfl ⟨_, rfl, rfl, 0, rfl, Or.inl rfl, by simp⟩
        | some q1, none, k1, k2 =>
          have n1 : T.2.2.2 (3 * s0) = 0 := k1.1
          have n2 : T.2.2.2 (3 * s1) = 1 := k2
          rw [n1]
          refine zi_if_ne (tgt := 43) K d_M_same_29 (by decide) (by decide) (fun q => absurd rfl q) (fun _ => ?_)
          refine z_aload_n K d_M_same_32 rfl ?_
          refine zm_get K fd_M_19 rfl d_M_same_33 ?_
          refine z_iconst (v := jI 3) K d_M_same_36 rfl ?_
          refine z_iload_n K d_M_same_37 rfl ?_
          refine zi_imul K d_M_same_38 ?_
          refine zm_nld K (by omega) d_M_same_39 ?_
          rw [n2]
          refine zi_if_eq (tgt := 71) K d_M_same_40 (by decide) (by decide) (fun q => absurd q (by decide)) (fun _ => ?_)
          refine z_aload_n K d_M_same_43 rfl ?_
          refine zm_get K fd_M_19 rfl d_M_same_44 ?_
          refine z_iconst (v := jI 3) K d_M_same_47 rfl ?_
          refine z_iload_n K d_M_same_48 rfl ?_
          refine zi_imul K d_M_same_49 ?_
          refine zm_nld K (by omega) d_M_same_50 ?_
          rw [n1]
          refine zi_if_eq (tgt := 69) K d_M_same_51 (by decide) (by decide) (fun _ => ?_) (fun q => absurd rfl q)
          refine z_iconst (v := jI 0) K d_M_same_69 rfl ?_
          exact z_zret K hr hlk d_M_same_70 rfl ⟨_, rfl, rfl, 0, rfl, Or.inl rfl, by simp⟩
        | some (x1, y1, z1), some (x2, y2, z2), k1, k2 =>
          obtain ⟨n1, f1, f2, f3⟩ := k1
          obtain ⟨n2, f4, f5, f6⟩ := k2
          rw [n1]
          refine zi_if_ne (tgt := 43) K d_M_same_29 (by decide) (by decide) (fun q => absurd rfl q) (fun _ => ?_)
          refine z_aload_n K d_M_same_32 rfl ?_
          refine zm_get K fd_M_19 rfl d_M_same_33 ?_
          refine z_iconst (v := jI 3) K d_M_same_36 rfl ?_
          refine z_iload_n K d_M_same_37 rfl ?_
          refine zi_imul K d_M_same_38 ?_
          refine zm_nld K (by omega) d_M_same_39 ?_
          rw [n2]
          refine zi_if_eq (tgt := 71) K d_M_same_40 (by decide) (by decide) (fun _ => ?_) (fun q => absurd rfl q)
          have no : ∀ hne : ¬ (some (x1, y1, z1) = some (x2, y2, z2)), zW p l e (zRm 2 45 0 0) s m ([.ref a, .int (jI s0), .int (jI s1)] : List Value).toArray below meth c 3 b0 G 0 0 (MQ below (zQ G b0 (fun r_1 h' => ∃ T' : mT, h' = hm G h a 0 T' ∧ T = T' ∧ ∃ b : Int, r_1 = some (.int (jI b)) ∧ (b = 0 ∨ b = 1) ∧ (b = 1 ↔ some (x1, y1, z1) = some (x2, y2, z2)))) ([.ref a, .int (jI s0), .int (jI s1)] : List Value).toArray s 0 0 (z_A b0)) (hm G h a 0 T) 122 [(0, .ref a), (1, .int (jI s0)), (2, .int (jI s1))] [] := fun hne => by
            refine z_iconst (v := jI 0) K d_M_same_122 rfl ?_
            exact z_zret K hr hlk d_M_same_123 rfl ⟨_, rfl, rfl, 0, rfl, Or.inl rfl, ⟨fun q => by omega, fun q => absurd q hne⟩⟩
          refine z_aload_n K d_M_same_71 rfl ?_
          refine z_iconst (v := jI 3) K d_M_same_72 rfl ?_
          refine z_iload_n K d_M_same_73 rfl ?_
          refine zi_imul K d_M_same_74 ?_
          refine z_iconst (v := jI 3) K d_M_same_75 rfl ?_
          refine z_iload_n K d_M_same_76 rfl ?_
          refine zi_imul K d_M_same_77 ?_
          refine z_callV (ci := 0) (As := [.int (jI (3 * s0)), .int (jI (3 * s1))]) K (v_M_isSame l G b0 h a 0 T hV (by omega) (by omega)) ca_M_105 im_M_isSame se_M_isSame rfl (by decide) hm_0 rfl rfl (by decide) (Nat.le_of_ble_eq_true rfl) d_M_same_78 (fun o h1 hp => ?_)
          obtain ⟨T1, rfl, rfl, rfl⟩ := hp
          rw [f1, f4]
          by_cases h1 : x1 = x2
          · rw [if_pos h1]
            refine zi_if_eq (tgt := 122) K d_M_same_81 (by decide) (by decide) (fun q => absurd q (by decide)) (fun _ => ?_)
            refine z_aload_n K d_M_same_84 rfl ?_
            refine z_iconst (v := jI 3) K d_M_same_85 rfl ?_
            refine z_iload_n K d_M_same_86 rfl ?_
            refine zi_imul K d_M_same_87 ?_
            refine z_iconst (v := jI 1) K d_M_same_88 rfl ?_
            refine zi_iadd K d_M_same_89 ?_
            refine z_iconst (v := jI 3) K d_M_same_90 rfl ?_
            refine z_iload_n K d_M_same_91 rfl ?_
            refine zi_imul K d_M_same_92 ?_
            refine z_iconst (v := jI 1) K d_M_same_93 rfl ?_
            refine zi_iadd K d_M_same_94 ?_
            refine z_callV (ci := 0) (As := [.int (jI (3 * s0 + 1)), .int (jI (3 * s1 + 1))]) K (v_M_isSame l G b0 h a 0 T hV (by omega) (by omega)) ca_M_105 im_M_isSame se_M_isSame rfl (by decide) hm_0 rfl rfl (by decide) (Nat.le_of_ble_eq_true rfl) d_M_same_95 (fun o h1 hp => ?_)
            obtain ⟨T1, rfl, rfl, rfl⟩ := hp
            rw [f2, f5]
            by_cases h2 : y1 = y2
            · rw [if_pos h2]
              refine zi_if_eq (tgt := 122) K d_M_same_98 (by decide) (by decide) (fun q => absurd q (by decide)) (fun _ => ?_)
              refine z_aload_n K d_M_same_101 rfl ?_
              refine z_iconst (v := jI 3) K d_M_same_102 rfl ?_
              refine z_iload_n K d_M_same_103 rfl ?_
              refine zi_imul K d_M_same_104 ?_
              refine z_iconst (v := jI 2) K d_M_same_105 rfl ?_
              refine zi_iadd K d_M_same_106 ?_
              refine z_iconst (v := jI 3) K d_M_same_107 rfl ?_
              refine z_iload_n K d_M_same_108 rfl ?_
              refine zi_imul K d_M_same_109 ?_
              refine z_iconst (v := jI 2) K d_M_same_110 rfl ?_
              refine zi_iadd K d_M_same_111 ?_
              refine z_callV (ci := 0) (As := [.int (jI (3 * s0 + 2)), .int (jI (3 * s1 + 2))]) K (v_M_isSame l G b0 h a 0 T hV (by omega) (by omega)) ca_M_105 im_M_isSame se_M_isSame rfl (by decide) hm_0 rfl rfl (by decide) (Nat.le_of_ble_eq_true rfl) d_M_same_112 (fun o h1 hp => ?_)
              obtain ⟨T1, rfl, rfl, rfl⟩ := hp
              rw [f3, f6]
              by_cases h3 : z1 = z2
              · rw [if_pos h3]
                refine zi_if_eq (tgt := 122) K d_M_same_115 (by decide) (by decide) (fun q => absurd q (by decide)) (fun _ => ?_)
                refine z_iconst (v := jI 1) K d_M_same_118 rfl ?_
                refine z_goto (tgt := 123) K d_M_same_119 (by decide) ?_
                exact z_zret K hr hlk d_M_same_123 rfl ⟨_, rfl, rfl, 1, rfl, Or.inr rfl, by simp [h1, h2, h3]⟩
              · rw [if_neg h3]
                refine zi_if_eq (tgt := 122) K d_M_same_115 (by decide) (by decide) (fun _ => ?_) (fun q => absurd rfl q)
                exact no (by simp [h3])
            · rw [if_neg h2]
              refine zi_if_eq (tgt := 122) K d_M_same_98 (by decide) (by decide) (fun _ => ?_) (fun q => absurd rfl q)
              exact no (by simp [h2])
          · rw [if_neg h1]
            refine zi_if_eq (tgt := 122) K d_M_same_81 (by decide) (by decide) (fun _ => ?_) (fun q => absurd rfl q)
            exact no (by simp [h1])
      have hk := key _ _ hp0 hp2
      simp only [hc, hc1, true_and]
      exact z_re [0, 1, 2] rfl hk
    · rw [if_neg hc1]
      refine zi_if_ne (tgt := 21) K d_M_same_16 (by decide) (by decide) (fun q => absurd rfl q) (fun _ => ?_)
      refine z_iconst (v := jI 0) K d_M_same_19 rfl ?_
      exact z_zret K hr hlk d_M_same_20 rfl ⟨_, rfl, rfl, 0, rfl, Or.inl rfl, ⟨fun q => by omega, fun q => absurd q.2.1 hc1⟩⟩
  · rw [if_neg hc]
    refine zi_if_eq (tgt := 19) K d_M_same_9 (by decide) (by decide) (fun _ => ?_) (fun q => absurd rfl q)
    refine z_iconst (v := jI 0) K d_M_same_19 rfl ?_
    exact z_zret K hr hlk d_M_same_20 rfl ⟨_, rfl, rfl, 0, rfl, Or.inl rfl, ⟨fun q => by omega, fun q => absurd q.1 hc⟩⟩
end M23
