theorem RS.keep {T T' : mT} {V V' : Int → Int} {pts : Int → Option (Int × Int × Int)} {A : Int × Int × Int × Int × Int} (hp : ∀ i : Int, 0 ≤ i → i < 8 → PtAt V T.2.2.2 (3 * i) (pts i)) (hA : V 24 = A.1 ∧ V 25 = A.2.1 ∧ V 26 = A.2.2.1 ∧ V 27 = A.2.2.2.1 ∧ V 28 = A.2.2.2.2) (hN : ∀ q : Int, 0 ≤ q → q < 56 → T.2.2.2 q = 0 ∨ T.2.2.2 q = 1) (h1 : RV T' V') (h2 : ∀ q : Int, q < 30 → V' q = V q) (h3 : ∀ q : Int, 0 ≤ q → q < 24 → T'.2.2.2 q = T.2.2.2 q) (h4 : ∀ q : Int, 0 ≤ q → q < 56 → T'.2.2.2 q = 0 ∨ T'.2.2.2 q = 1) : RS T' pts A :=
  ⟨V', h1, fun i h5 h6 => (hp i h5 h6).keep (h2 _ (by omega)) (h2 _ (by omega)) (h2 _ (by omega)) (h3 _ (by omega) (by omega)), ⟨(h2 24 (by decide)).trans hA.1, (h2 25 (by decide)).trans hA.2.1, (h2 26 (by decide)).trans hA.2.2.1, (h2 27 (by decide)).trans hA.2.2.2.1, (h2 28 (by decide)).trans hA.2.2.2.2⟩, h4⟩
section M24
variable {p : Program} {l : Launch} {e : Env} {R : Room} {s : State} {m : MethodId} {args : Array Value} {below : List Frame} {meth : Method} {c : Code} {Q : State → Prop} {b0 kc ks : Nat} {G : zG} {h : zH} {a : Nat} {cd : Int}
set_option maxHeartbeats 4000000 in
set_option maxRecDepth 100000 in
/-- take(slot, what): the register 45 holds the number that is asked for -/
theorem v_M_take (l : Launch) (G : zG) (b0 : Nat) (h : zH) (a : Nat) (T : mT) {V : Int → Int} {pts : Int → Option (Int × Int × Int)} {s0 w : Int} (hV : RV T V) (hp : ∀ i : Int, 0 ≤ i → i < 8 → PtAt V T.2.2.2 (3 * i) (pts i)) (hcap : ∀ i : Int, capJ (pts i)) (hs : i32 s0) (hw : i32 w) :
    mMet l G b0 y_M_take b_M_take 4 (some .boolean) 2 55 h a 0 [.int (jI s0), .int (jI w)] T (fun o T' => (∃ q : Int × Int × Int, ((0 ≤ s0 ∧ s0 < 8) ∧ pts s0 = some q ∧ 0 ≤ w ∧ w ≤ 3) ∧ o = some (.int (jI 1)) ∧ (∃ V' : Int → Int, RV T' V' ∧ (∀ r : Int, r < 45 → V' r = V r) ∧ V' 45 = numP q w ∧ lt9 (numP q w) 58) ∧ T'.2.2.2 = T.2.2.2) ∨ ¬ ((0 ≤ s0 ∧ s0 < 8) ∧ pts s0 ≠ none ∧ 0 ≤ w ∧ w ≤ 3) ∧ o = some (.int (jI 0)) ∧ T = T') :=
  z_met (by decide) (Nat.le_of_ble_eq_true rfl) fun p e s m below meth c K hr hlk hnm => by
  refine z_aload_n K d_M_take_0 rfl ?_
  refine z_iconst (v := jI 0) K d_M_take_1 rfl ?_
  refine zm_code K fd_M_30 d_M_take_2 ?_
  refine z_iload_n K d_M_take_5 rfl ?_
  refine z_callS (As := [.int (jI s0)]) K (c_M_isSlot l G b0 (hm G h a 0 T) hs) ca_M_95 sm_M_isSlot rfl rfl (by decide) (Nat.le_of_ble_eq_true rfl) d_M_take_6 (fun o h1 hp1 => ?_)
  obtain ⟨rfl, rfl⟩ := hp1
  by_cases hc : 0 ≤ s0 ∧ s0 < 8
  · rw [if_pos hc]
    refine zi_if_eq (tgt := 32) K d_M_take_9 (by decide) (by decide) (fun q => absurd q (by decide)) (fun _ => ?_)
    have hpt := hp s0 hc.1 hc.2
    have hcp := hcap s0
    refine z_aload_n K d_M_take_12 rfl ?_
    refine zm_get K fd_M_19 rfl d_M_take_13 ?_
    refine z_iconst (v := jI 3) K d_M_take_16 rfl ?_
    refine z_iload_n K d_M_take_17 rfl ?_
    refine zi_imul K d_M_take_18 ?_
    refine zm_nld K (by omega) d_M_take_19 ?_
    cases hps : pts s0 with
    | none =>
      rw [hps] at hpt
      have n1 : T.2.2.2 (3 * s0) = 1 := hpt
      rw [n1]
      refine zi_if_ne (tgt := 32) K d_M_take_20 (by decide) (by decide) (fun _ => ?_) (fun q => absurd q (by decide))
      refine z_iconst (v := jI 0) K d_M_take_32 rfl ?_
      exact z_zret K hr hlk d_M_take_33 rfl ⟨_, rfl, Or.inr ⟨fun q => q.2.1 rfl, rfl, rfl⟩⟩
    | some q0 =>
      obtain ⟨x, y, z⟩ := q0
      rw [hps] at hpt hcp
      obtain ⟨n1, f1, f2, f3⟩ := hpt
      obtain ⟨c1, c2, c3, c4⟩ := hcp
      rw [n1]
      refine zi_if_ne (tgt := 32) K d_M_take_20 (by decide) (by decide) (fun q => absurd rfl q) (fun _ => ?_)
      refine z_iload_n K d_M_take_23 rfl ?_
      refine zi_if_lt (tgt := 32) K d_M_take_24 (by decide) hw (fun hc2 => ?_) (fun hc2 => ?_)
      · refine z_iconst (v := jI 0) K d_M_take_32 rfl ?_
        exact z_zret K hr hlk d_M_take_33 rfl ⟨_, rfl, Or.inr ⟨fun q => by omega, rfl, rfl⟩⟩
      · refine z_iload_n K d_M_take_27 rfl ?_
        refine z_iconst (v := jI 3) K d_M_take_28 rfl ?_
        refine zi_icmp_le (tgt := 34) K d_M_take_29 (by decide) hw (by decide) (fun hc3 => ?_) (fun hc3 => ?_)
        · have cond : (0 ≤ s0 ∧ s0 < 8) ∧ some (x, y, z) = some (x, y, z) ∧ 0 ≤ w ∧ w ≤ 3 := ⟨hc, rfl, hc2, hc3⟩
          refine z_iconst (v := jI 3) K d_M_take_34 rfl ?_
          refine z_iload_n K d_M_take_35 rfl ?_
          refine zi_imul K d_M_take_36 ?_
          refine z_istore_n K d_M_take_37 (by decide) ?_
          refine z_iload_n K d_M_take_38 rfl ?_
          refine zi_if_eq (tgt := 47) K d_M_take_39 (by decide) hw (fun hw0 => ?_) (fun hw0 => ?_)
          · subst hw0
            refine z_aload_n K d_M_take_47 rfl ?_
            refine z_iload_n K d_M_take_48 rfl ?_
            refine zi_if_ne (tgt := 56) K d_M_take_49 (by decide) (by decide) (fun q => absurd rfl q) (fun _ => ?_)
            refine z_iload_n K d_M_take_52 rfl ?_
            refine z_goto (tgt := 59) K d_M_take_53 (by decide) ?_
            refine z_bipush (v := jI 45) K d_M_take_59 rfl ?_
            refine z_callV (ci := 0) (As := [.int (jI (3 * s0)), .int (jI 45)]) K (w_M_copy l G b0 h a 0 T hV (by omega) (by decide) f1) ca_M_40 im_M_copy se_M_copy rfl (by decide) hm_0 rfl rfl (by decide) (Nat.le_of_ble_eq_true rfl) d_M_take_61 (fun o h1 hp2 => ?_)
            obtain ⟨T1, rfl, rfl, q1, q2⟩ := hp2
            refine z_iconst (v := jI 1) K d_M_take_64 rfl ?_
            exact z_zret K hr hlk d_M_take_65 rfl ⟨_, rfl, Or.inl ⟨(x, y, z), cond, rfl, ⟨_, q1, fun r hr2 => iu_ne _ _ (by omega), iu_self _ _ _, lt9_mono c1 (by decide)⟩, q2⟩⟩
          · refine z_iload_n K d_M_take_42 rfl ?_
            refine z_iconst (v := jI 2) K d_M_take_43 rfl ?_
            refine zi_icmp_ne (tgt := 66) K d_M_take_44 (by decide) hw (by decide) (fun hw2 => ?_) (fun hw2 => ?_)
            · refine z_aload_n K d_M_take_66 rfl ?_
              refine z_bipush (v := jI 45) K d_M_take_67 rfl ?_
              refine z_iload_n K d_M_take_69 rfl ?_
              refine z_iconst (v := jI 2) K d_M_take_70 rfl ?_
              refine zi_iadd K d_M_take_71 ?_
              refine z_iload_n K d_M_take_72 rfl ?_
              refine z_iconst (v := jI 2) K d_M_take_73 rfl ?_
              refine zi_iadd K d_M_take_74 ?_
              refine z_callV (ci := 0) (As := [.int (jI 45), .int (jI (3 * s0 + 2)), .int (jI (3 * s0 + 2))]) K (w_M_multiply l G b0 h a 0 T (v := z) (w := z) hV (by decide) (by omega) (by omega) (by omega) (by omega) f3 f3 c3 c3 (by decide)) ca_M_92 im_M_multiply se_M_multiply rfl (by decide) hm_0 rfl rfl (by decide) (Nat.le_of_ble_eq_true rfl) d_M_take_75 (fun o h1 hp2 => ?_)
              obtain ⟨T1, rfl, rfl, q1, q2⟩ := hp2
              refine z_iload_n K d_M_take_78 rfl ?_
              refine z_iconst (v := jI 3) K d_M_take_79 rfl ?_
              refine zi_icmp_ne (tgt := 102) K d_M_take_80 (by decide) hw (by decide) (fun hw3 => ?_) (fun hw3 => ?_)
              · have hw1 : w = 1 := by omega
                subst hw1
                refine z_iconst (v := jI 1) K d_M_take_102 rfl ?_
                exact z_zret K hr hlk d_M_take_103 rfl ⟨_, rfl, Or.inl ⟨(x, y, z), cond, rfl, ⟨_, q1, fun r hr2 => iu_ne _ _ (by omega), iu_self _ _ _, lt9_mono (lt9_mul c3 c3) (by decide)⟩, q2⟩⟩
              · subst hw3
                refine z_aload_n K d_M_take_83 rfl ?_
                refine z_bipush (v := jI 46) K d_M_take_84 rfl ?_
                refine z_bipush (v := jI 45) K d_M_take_86 rfl ?_
                refine z_iload_n K d_M_take_88 rfl ?_
                refine z_iconst (v := jI 2) K d_M_take_89 rfl ?_
                refine zi_iadd K d_M_take_90 ?_
                refine z_callV (ci := 0) (As := [.int (jI 46), .int (jI 45), .int (jI (3 * s0 + 2))]) K (w_M_multiply l G b0 h a 0 T1 (v := z * z) (w := z) q1 (by decide) (by decide) (by omega) (by decide) (by omega) (iu_self _ _ _) ((iu_ne _ _ (by omega)).trans f3) (lt9_mul c3 c3) c3 (by decide)) ca_M_92 im_M_multiply se_M_multiply rfl (by decide) hm_0 rfl rfl (by decide) (Nat.le_of_ble_eq_true rfl) d_M_take_91 (fun o h1 hp2 => ?_)
                obtain ⟨T2, rfl, rfl, r1, r2⟩ := hp2
                refine z_aload_n K d_M_take_94 rfl ?_
                refine z_bipush (v := jI 46) K d_M_take_95 rfl ?_
                refine z_bipush (v := jI 45) K d_M_take_97 rfl ?_
                refine z_callV (ci := 0) (As := [.int (jI 46), .int (jI 45)]) K (w_M_copy l G b0 h a 0 T2 r1 (by decide) (by decide) (iu_self _ _ _)) ca_M_40 im_M_copy se_M_copy rfl (by decide) hm_0 rfl rfl (by decide) (Nat.le_of_ble_eq_true rfl) d_M_take_99 (fun o h1 hp2 => ?_)
                obtain ⟨T3, rfl, rfl, s1, s2⟩ := hp2
                refine z_iconst (v := jI 1) K d_M_take_102 rfl ?_
                exact z_zret K hr hlk d_M_take_103 rfl ⟨_, rfl, Or.inl ⟨(x, y, z), cond, rfl, ⟨_, s1, fun r hr2 => by rw [iu_ne _ _ (by omega), iu_ne _ _ (by omega), iu_ne _ _ (by omega)], iu_self _ _ _, lt9_mono (lt9_mul (lt9_mul c3 c3) c3) (by decide)⟩, s2.trans (r2.trans q2)⟩⟩
            · subst hw2
              refine z_aload_n K d_M_take_47 rfl ?_
              refine z_iload_n K d_M_take_48 rfl ?_
              refine zi_if_ne (tgt := 56) K d_M_take_49 (by decide) (by decide) (fun _ => ?_) (fun q => absurd q (by decide))
              refine z_iload_n K d_M_take_56 rfl ?_
              refine z_iconst (v := jI 1) K d_M_take_57 rfl ?_
              refine zi_iadd K d_M_take_58 ?_
              refine z_bipush (v := jI 45) K d_M_take_59 rfl ?_
              refine z_callV (ci := 0) (As := [.int (jI (3 * s0 + 1)), .int (jI 45)]) K (w_M_copy l G b0 h a 0 T hV (by omega) (by decide) f2) ca_M_40 im_M_copy se_M_copy rfl (by decide) hm_0 rfl rfl (by decide) (Nat.le_of_ble_eq_true rfl) d_M_take_61 (fun o h1 hp2 => ?_)
              obtain ⟨T1, rfl, rfl, q1, q2⟩ := hp2
              refine z_iconst (v := jI 1) K d_M_take_64 rfl ?_
              exact z_zret K hr hlk d_M_take_65 rfl ⟨_, rfl, Or.inl ⟨(x, y, z), cond, rfl, ⟨_, q1, fun r hr2 => iu_ne _ _ (by omega), iu_self _ _ _, c2⟩, q2⟩⟩
        · refine z_iconst (v := jI 0) K d_M_take_32 rfl ?_
          exact z_zret K hr hlk d_M_take_33 rfl ⟨_, rfl, Or.inr ⟨fun q => by omega, rfl, rfl⟩⟩
  · rw [if_neg hc]
    refine zi_if_eq (tgt := 32) K d_M_take_9 (by decide) (by decide) (fun _ => ?_) (fun q => absurd rfl q)
    refine z_iconst (v := jI 0) K d_M_take_32 rfl ?_
    exact z_zret K hr hlk d_M_take_33 rfl ⟨_, rfl, Or.inr ⟨fun q => hc q.1, rfl, rfl⟩⟩
set_option maxHeartbeats 4000000 in
set_option maxRecDepth 100000 in
/-- digits(slot, what) -/
theorem r_M_digits (l : Launch) (G : zG) (b0 : Nat) (h : zH) (a : Nat) (T : mT) {pts : Int → Option (Int × Int × Int)} {A : Int × Int × Int × Int × Int} {s0 w : Int} (hS : RS T pts A) (hcap : ∀ i : Int, capJ (pts i)) (hs : i32 s0) (hw : i32 w) :
    mMet l G b0 y_M_digits b_M_digits 3 (some .int) 3 78 h a 0 [.int (jI s0), .int (jI w)] T (fun o T' => RS T' pts A ∧ ((∃ (q : Int × Int × Int) (d : Nat), ((0 ≤ s0 ∧ s0 < 8) ∧ pts s0 = some q ∧ 0 ≤ w ∧ w ≤ 3) ∧ o = some (.int (jI d)) ∧ IsDg (numP q w) d) ∨ ¬ ((0 ≤ s0 ∧ s0 < 8) ∧ pts s0 ≠ none ∧ 0 ≤ w ∧ w ≤ 3) ∧ o = some (.int (jI (-1))))) :=
  z_met (by decide) (Nat.le_of_ble_eq_true rfl) fun p e s m below meth c K hr hlk hnm => by
  have hS0 := hS
  obtain ⟨V, hV, hp, hA, hN⟩ := hS
  refine z_aload_n K d_M_digits_0 rfl ?_
  refine z_iload_n K d_M_digits_1 rfl ?_
  refine z_iload_n K d_M_digits_2 rfl ?_
  refine z_callV (ci := 0) (As := [.int (jI s0), .int (jI w)]) K (v_M_take l G b0 h a T hV hp hcap hs hw) ca_M_153 im_M_take se_M_take rfl (by decide) hm_0 rfl rfl (by decide) (Nat.le_of_ble_eq_true rfl) d_M_digits_3 (fun o h1 hp2 => ?_)
  obtain ⟨T1, rfl, ⟨q, hc, rfl, ⟨V1, q1, q2, q3, q4⟩, q5⟩ | ⟨hc, rfl, rfl⟩⟩ := hp2
  · refine zi_if_eq (tgt := 18) K d_M_digits_6 (by decide) (by decide) (fun z => absurd z (by decide)) (fun _ => ?_)
    refine z_aload_n K d_M_digits_9 rfl ?_
    refine z_bipush (v := jI 45) K d_M_digits_10 rfl ?_
    refine z_callV (ci := 0) (As := [.int (jI 45)]) K (RV.dig l G b0 h a 0 q1 (by decide) q3) ca_M_130 im_M_digitsOf se_M_digitsOf rfl (by decide) hm_0 rfl rfl (by decide) (Nat.le_of_ble_eq_true rfl) d_M_digits_12 (fun o h1 hp2 => ?_)
    obtain ⟨T3, rfl, rfl, d1, rfl, hd1, hl1⟩ := hp2
    refine z_goto (tgt := 19) K d_M_digits_15 (by decide) ?_
    exact z_iret K hr hlk d_M_digits_19 ⟨_, rfl, RS.keep hp hA hN q1 (fun r hr2 => q2 r (by omega)) (fun r _ _ => by rw [q5]) (fun r h0 h1 => by rw [q5]; exact hN r h0 h1), Or.inl ⟨q, d1, hc, rfl, hd1⟩⟩
  · refine zi_if_eq (tgt := 18) K d_M_digits_6 (by decide) (by decide) (fun _ => ?_) (fun z => absurd rfl z)
    refine z_iconst (v := jI (-1)) K d_M_digits_18 rfl ?_
    exact z_iret K hr hlk d_M_digits_19 ⟨_, rfl, hS0, Or.inr ⟨hc, rfl⟩⟩
set_option maxHeartbeats 4000000 in
set_option maxRecDepth 100000 in
/-- sign(slot, what) -/
theorem r_M_sign (l : Launch) (G : zG) (b0 : Nat) (h : zH) (a : Nat) (T : mT) {pts : Int → Option (Int × Int × Int)} {A : Int × Int × Int × Int × Int} {s0 w : Int} (hS : RS T pts A) (hcap : ∀ i : Int, capJ (pts i)) (hs : i32 s0) (hw : i32 w) :
    mMet l G b0 y_M_sign b_M_sign 3 (some .int) 3 78 h a 0 [.int (jI s0), .int (jI w)] T (fun o T' => RS T' pts A ∧ ((∃ q : Int × Int × Int, ((0 ≤ s0 ∧ s0 < 8) ∧ pts s0 = some q ∧ 0 ≤ w ∧ w ≤ 3) ∧ o = some (.int (jI ((numP q w).sign + 1)))) ∨ ¬ ((0 ≤ s0 ∧ s0 < 8) ∧ pts s0 ≠ none ∧ 0 ≤ w ∧ w ≤ 3) ∧ o = some (.int (jI (-1))))) :=
  z_met (by decide) (Nat.le_of_ble_eq_true rfl) fun p e s m below meth c K hr hlk hnm => by
  have hS0 := hS
  obtain ⟨V, hV, hp, hA, hN⟩ := hS
  refine z_aload_n K d_M_sign_0 rfl ?_
  refine z_iload_n K d_M_sign_1 rfl ?_
  refine z_iload_n K d_M_sign_2 rfl ?_
  refine z_callV (ci := 0) (As := [.int (jI s0), .int (jI w)]) K (v_M_take l G b0 h a T hV hp hcap hs hw) ca_M_153 im_M_take se_M_take rfl (by decide) hm_0 rfl rfl (by decide) (Nat.le_of_ble_eq_true rfl) d_M_sign_3 (fun o h1 hp2 => ?_)
  obtain ⟨T1, rfl, ⟨q, hc, rfl, ⟨V1, q1, q2, q3, q4⟩, q5⟩ | ⟨hc, rfl, rfl⟩⟩ := hp2
  · refine zi_if_eq (tgt := 21) K d_M_sign_6 (by decide) (by decide) (fun z => absurd z (by decide)) (fun _ => ?_)
    obtain ⟨n1, k1⟩ := q1 45 (by decide) (by decide)
    rw [q3] at k1
    refine z_aload_n K d_M_sign_9 rfl ?_
    refine zm_get K fd_M_16 rfl d_M_sign_10 ?_
    refine z_bipush (v := jI 45) K d_M_sign_13 rfl ?_
    refine zm_sld K (by omega) d_M_sign_15 ?_
    rw [k1.2.2.2.2.1]
    refine z_iconst (v := jI 1) K d_M_sign_16 rfl ?_
    refine zi_iadd K d_M_sign_17 ?_
    refine z_goto (tgt := 22) K d_M_sign_18 (by decide) ?_
    exact z_iret K hr hlk d_M_sign_22 ⟨_, rfl, RS.keep hp hA hN q1 (fun r hr2 => q2 r (by omega)) (fun r _ _ => by rw [q5]) (fun r h0 h1 => by rw [q5]; exact hN r h0 h1), Or.inl ⟨q, hc, rfl⟩⟩
  · refine zi_if_eq (tgt := 21) K d_M_sign_6 (by decide) (by decide) (fun _ => ?_) (fun z => absurd rfl z)
    refine z_iconst (v := jI (-1)) K d_M_sign_21 rfl ?_
    exact z_iret K hr hlk d_M_sign_22 ⟨_, rfl, hS0, Or.inr ⟨hc, rfl⟩⟩
end M24
