section X2
variable {p : Program} {l : Launch} {e : Env} {R : Room} {s : State} {m : MethodId} {args : Array Value} {below : List Frame} {meth : Method} {c : Code} {Q : State → Prop} {b0 kc ks : Nat} {G : zG} {h : zH} {a : Nat} {cd : Int}
set_option maxHeartbeats 4000000 in
set_option maxRecDepth 100000 in
theorem v_C_turnP (l : Launch) (G : zG) (b0 : Nat) (h : zH) (a : Nat) (S : xS) {U : Nat → Int} {A : ecE} {o : Nat} {P : ecP} (hV : VX S U) (ho : isP o = true) (hP : PT S U o P) (eq : EQ U A) (hA : ecOk A) (onP : ecOn A P) (wP : ¬ wdP 162 P) : xMet l G b0 y_C_turnOver b_C_turnOver 2 none 4 122 h a [.ref (a + 39), .ref (a + o)] S (fun r S' => r = none ∧ (∃ U', VX S' U' ∧ PT S' U' o (ngP A.1 A.2.2.1 P) ∧ ∀ j : Nat, ((j < 40 ∨ 58 < j) ∧ j ≠ o + 3) → j ≠ 5 → U' j = U j) ∧ S'.f = S.f) := by
  have o75 := isP_75 ho
  match P, hP, onP, wP with
  | none, hP, _, _ =>
    refine z_met (by decide) (Nat.le_of_ble_eq_true rfl) (fun p e s m below meth c K hr hlk hnm => ?_)
    refine z_aload_n K d_C_turnOver_0 rfl ?_
    refine zx_gP (v := .int (jI 1)) K ho fd_C_59 (by have e : S.f.nn o = 1 := hP; rw [← e]; rfl) d_C_turnOver_1 ?_
    refine zi_if_eq (tgt := 8) K d_C_turnOver_4 (by decide) (by decide) (fun hc => absurd hc (by decide)) (fun hc => ?_)
    exact z_vret K hr hlk d_C_turnOver_7 ⟨_, rfl, rfl, ⟨U, hV, hP, fun _ _ _ => rfl⟩, rfl⟩
  | some (x, y, z), hP, onP, wP =>
    refine zMet_imp (v_C_turnOver l G b0 h a S hV ho hP.2 (pt_pb hA onP wP) eq hA hP.1) (fun r h' hp => ?_)
    obtain ⟨S1, rfl, rfl, ⟨U1, hV1, u1, fr1⟩, f1⟩ := hp
    exact ⟨_, rfl, rfl, ⟨U1, hV1, ⟨by rw [f1]; exact hP.1, (fr1 _ (by omega) (by omega)).trans hP.2.1, u1, (fr1 _ (by omega) (by omega)).trans hP.2.2.2.1, (fr1 _ (by omega) (by omega)).trans hP.2.2.2.2.1, (fr1 _ (by omega) (by omega)).trans hP.2.2.2.2.2⟩, fr1⟩, f1⟩
theorem slP.w162 {A : ecE} {P : ecP} (h : slP A P) : ¬ wdP 162 P := wd_up (by decide) h.wd
set_option maxHeartbeats 4000000 in
set_option maxRecDepth 100000 in
theorem r_X_sum (l : Launch) (G : zG) (b0 : Nat) (h : zH) (a : Nat) (S : xS) {U : Nat → Int} {A : ecE} {pts : Int → ecP} {s0 s1 s2 : Int} (hX : XS S U A pts) (hs0 : i32 s0) (hs1 : i32 s1) (hs2 : i32 s2) : xMet l G b0 y_X_sum b_X_sum 4 (some .int) 7 188 h a [.ref a, .int (jI s0), .int (jI s1), .int (jI s2)] S (fun r S' => (¬ ((0 ≤ s0 ∧ s0 < 8) ∧ (0 ≤ s1 ∧ s1 < 8) ∧ (0 ≤ s2 ∧ s2 < 8)) ∧ r = some (.int (jI (-1))) ∧ ∃ U', XS S' U' A pts) ∨ (((0 ≤ s0 ∧ s0 < 8) ∧ (0 ≤ s1 ∧ s1 < 8) ∧ (0 ≤ s2 ∧ s2 < 8)) ∧ ((r = some (.int (jI 0)) ∧ tlP (jnA A (pts s0) (pts s1)) ∧ ∃ U', XS S' U' A pts) ∨ (r = some (.int (jI 1)) ∧ ¬ tlP (jnA A (pts s0) (pts s1)) ∧ ∃ U', XS S' U' A (fun i => if i = s2 then jnA A (pts s0) (pts s1) else pts i))))) :=
  z_met (by decide) (Nat.le_of_ble_eq_true rfl) fun p e s m below meth c K hr hlk hnm => by
  refine z_iload_n K d_X_sum_0 rfl ?_
  refine z_callS (As := [.int (jI s0)]) K (c_X_isSlot l G b0 h a S hs0) ca_X_72 sm_X_isSlot rfl rfl (by decide) (Nat.le_of_ble_eq_true rfl) d_X_sum_1 (fun r h1 hp => ?_)
  obtain ⟨Z, rfl, rfl, b, rfl, c1, c2⟩ := hp
  refine zi_if_eq (tgt := 21) K d_X_sum_4 (by decide) (by omega) (fun hc => ?_) (fun hc => ?_)
  · refine z_iconst (v := jI (-1)) K d_X_sum_21 rfl ?_
    exact z_iret K hr hlk d_X_sum_22 ⟨_, rfl, Or.inl ⟨fun w => by have := c2.2 w.1; omega, rfl, U, hX⟩⟩
  have hv0 := c2.1 (by omega)
  refine z_iload_n K d_X_sum_7 rfl ?_
  refine z_callS (As := [.int (jI s1)]) K (c_X_isSlot l G b0 h a S hs1) ca_X_72 sm_X_isSlot rfl rfl (by decide) (Nat.le_of_ble_eq_true rfl) d_X_sum_8 (fun r h1 hp => ?_)
  obtain ⟨Z, rfl, rfl, b', rfl, c3, c4⟩ := hp
  refine zi_if_eq (tgt := 21) K d_X_sum_11 (by decide) (by omega) (fun hc => ?_) (fun hc => ?_)
  · refine z_iconst (v := jI (-1)) K d_X_sum_21 rfl ?_
    exact z_iret K hr hlk d_X_sum_22 ⟨_, rfl, Or.inl ⟨fun w => by have := c4.2 w.2.1; omega, rfl, U, hX⟩⟩
  have hv1 := c4.1 (by omega)
  refine z_iload_n K d_X_sum_14 rfl ?_
  refine z_callS (As := [.int (jI s2)]) K (c_X_isSlot l G b0 h a S hs2) ca_X_72 sm_X_isSlot rfl rfl (by decide) (Nat.le_of_ble_eq_true rfl) d_X_sum_15 (fun r h1 hp => ?_)
  obtain ⟨Z, rfl, rfl, b'', rfl, c5, c6⟩ := hp
  refine zi_if_ne (tgt := 23) K d_X_sum_18 (by decide) (by omega) (fun hc => ?_) (fun hc => ?_)
  rotate_left
  · refine z_iconst (v := jI (-1)) K d_X_sum_21 rfl ?_
    exact z_iret K hr hlk d_X_sum_22 ⟨_, rfl, Or.inl ⟨fun w => by have := c6.2 w.2.2; omega, rfl, U, hX⟩⟩
  have hv2 := c6.1 (by omega)
  have q0 := hX.2.2.2.2.2 s0 hv0.1 hv0.2
  have q1 := hX.2.2.2.2.2 s1 hv1.1 hv1.2
  refine z_aload_n K d_X_sum_23 rfl ?_
  refine zx_gX K fd_X_33 rfl d_X_sum_24 ?_
  refine z_aload_n K d_X_sum_27 rfl ?_
  refine zx_gX K fd_X_57 rfl d_X_sum_28 ?_
  refine z_iload_n K d_X_sum_31 rfl ?_
  refine zx_slot K hv0 d_X_sum_32 ?_
  refine z_aload_n K d_X_sum_33 rfl ?_
  refine zx_gX K fd_X_57 rfl d_X_sum_34 ?_
  refine z_iload_n K d_X_sum_37 rfl ?_
  refine zx_slot K hv1 d_X_sum_38 ?_
  refine z_aload_n K d_X_sum_39 rfl ?_
  refine zx_gX K fd_X_47 rfl d_X_sum_40 ?_
  refine z_callV (ci := 7) (As := [.ref (a + sO s0), .ref (a + sO s1), .ref (a + 75)]) K (v_C_join l G b0 h a S (A := A) (P := pts s0) (Q := pts s1) (po := sO s0) (qo := sO s1) (oo := 75) hX.2.2.2.2.1 (sO_P hv0.1 hv0.2) (sO_P hv1.1 hv1.2) rfl (by unfold sO; omega) (by unfold sO; omega) hX.1 hX.2.1 hX.2.2.1 hX.2.2.2.1 q0.1 q1.1 q0.2.on q1.2.on q0.2.w162 q1.2.w162) ca_X_79 im_C_join se_C_join rfl (by decide) (hx_C) rfl rfl (by decide) (Nat.le_of_ble_eq_true rfl) d_X_sum_43 (fun r h1 hp => ?_)
  obtain ⟨S8, rfl, b8, rfl, U8, hV8, pm8, fr8, hb8⟩ := hp
  have hX8 := hX.jfr (by decide) hV8 pm8 fr8
  rcases hb8 with ⟨rfl, w8⟩ | ⟨rfl, w8, t8⟩
  · refine zi_if_eq (tgt := 61) K d_X_sum_46 (by decide) (by decide) (fun hc => ?_) (fun hc => absurd rfl hc)
    refine z_iconst (v := jI 0) K d_X_sum_61 rfl ?_
    exact z_iret K hr hlk d_X_sum_62 ⟨_, rfl, Or.inr ⟨⟨hv0, hv1, hv2⟩, Or.inl ⟨rfl, (wd_tl (jn_q q0.2.on q1.2.on).1 (wdP_mono (by decide) w8)).1, U8, hX8⟩⟩⟩
  · refine zi_if_eq (tgt := 61) K d_X_sum_46 (by decide) (by decide) (fun hc => absurd hc (by decide)) (fun hc => ?_)
    refine z_aload_n K d_X_sum_49 rfl ?_
    refine z_aload_n K d_X_sum_50 rfl ?_
    refine zx_gX K fd_X_47 rfl d_X_sum_51 ?_
    refine z_iload_n K d_X_sum_54 rfl ?_
    refine z_callV (ci := 8) (As := [.ref (a + 75), .int (jI s2)]) K (c_X_keep l G b0 h a S8 hX8 hv2 t8 (jn_q q0.2.on q1.2.on).1) ca_X_83 im_X_keep se_X_keep rfl (by decide) (hx_X) rfl rfl (by decide) (Nat.le_of_ble_eq_true rfl) d_X_sum_55 (fun r h1 hp => ?_)
    obtain ⟨S9, rfl, hk⟩ := hp
    rcases hk with ⟨k1, rfl, k2⟩ | ⟨k1, rfl, k2⟩
    · refine z_goto (tgt := 62) K d_X_sum_58 (by decide) ?_
      exact z_iret K hr hlk d_X_sum_62 ⟨_, rfl, Or.inr ⟨⟨hv0, hv1, hv2⟩, Or.inl ⟨rfl, k1, k2⟩⟩⟩
    · refine z_goto (tgt := 62) K d_X_sum_58 (by decide) ?_
      exact z_iret K hr hlk d_X_sum_62 ⟨_, rfl, Or.inr ⟨⟨hv0, hv1, hv2⟩, Or.inr ⟨rfl, k1, k2⟩⟩⟩
set_option maxHeartbeats 4000000 in
set_option maxRecDepth 100000 in
theorem r_X_less (l : Launch) (G : zG) (b0 : Nat) (h : zH) (a : Nat) (S : xS) {U : Nat → Int} {A : ecE} {pts : Int → ecP} {s0 s1 s2 : Int} (hX : XS S U A pts) (hs0 : i32 s0) (hs1 : i32 s1) (hs2 : i32 s2) : xMet l G b0 y_X_less b_X_less 4 (some .int) 7 188 h a [.ref a, .int (jI s0), .int (jI s1), .int (jI s2)] S (fun r S' => (¬ ((0 ≤ s0 ∧ s0 < 8) ∧ (0 ≤ s1 ∧ s1 < 8) ∧ (0 ≤ s2 ∧ s2 < 8)) ∧ r = some (.int (jI (-1))) ∧ ∃ U', XS S' U' A pts) ∨ (((0 ≤ s0 ∧ s0 < 8) ∧ (0 ≤ s1 ∧ s1 < 8) ∧ (0 ≤ s2 ∧ s2 < 8)) ∧ ((r = some (.int (jI 0)) ∧ tlP (jnA A (pts s0) (ngP A.1 A.2.2.1 (pts s1))) ∧ ∃ U', XS S' U' A pts) ∨ (r = some (.int (jI 1)) ∧ ¬ tlP (jnA A (pts s0) (ngP A.1 A.2.2.1 (pts s1))) ∧ ∃ U', XS S' U' A (fun i => if i = s2 then jnA A (pts s0) (ngP A.1 A.2.2.1 (pts s1)) else pts i))))) :=
  z_met (by decide) (Nat.le_of_ble_eq_true rfl) fun p e s m below meth c K hr hlk hnm => by
  refine z_iload_n K d_X_less_0 rfl ?_
  refine z_callS (As := [.int (jI s0)]) K (c_X_isSlot l G b0 h a S hs0) ca_X_72 sm_X_isSlot rfl rfl (by decide) (Nat.le_of_ble_eq_true rfl) d_X_less_1 (fun r h1 hp => ?_)
  obtain ⟨Z, rfl, rfl, b, rfl, c1, c2⟩ := hp
  refine zi_if_eq (tgt := 21) K d_X_less_4 (by decide) (by omega) (fun hc => ?_) (fun hc => ?_)
  · refine z_iconst (v := jI (-1)) K d_X_less_21 rfl ?_
    exact z_iret K hr hlk d_X_less_22 ⟨_, rfl, Or.inl ⟨fun w => by have := c2.2 w.1; omega, rfl, U, hX⟩⟩
  have hv0 := c2.1 (by omega)
  refine z_iload_n K d_X_less_7 rfl ?_
  refine z_callS (As := [.int (jI s1)]) K (c_X_isSlot l G b0 h a S hs1) ca_X_72 sm_X_isSlot rfl rfl (by decide) (Nat.le_of_ble_eq_true rfl) d_X_less_8 (fun r h1 hp => ?_)
  obtain ⟨Z, rfl, rfl, b', rfl, c3, c4⟩ := hp
  refine zi_if_eq (tgt := 21) K d_X_less_11 (by decide) (by omega) (fun hc => ?_) (fun hc => ?_)
  · refine z_iconst (v := jI (-1)) K d_X_less_21 rfl ?_
    exact z_iret K hr hlk d_X_less_22 ⟨_, rfl, Or.inl ⟨fun w => by have := c4.2 w.2.1; omega, rfl, U, hX⟩⟩
  have hv1 := c4.1 (by omega)
  refine z_iload_n K d_X_less_14 rfl ?_
  refine z_callS (As := [.int (jI s2)]) K (c_X_isSlot l G b0 h a S hs2) ca_X_72 sm_X_isSlot rfl rfl (by decide) (Nat.le_of_ble_eq_true rfl) d_X_less_15 (fun r h1 hp => ?_)
  obtain ⟨Z, rfl, rfl, b'', rfl, c5, c6⟩ := hp
  refine zi_if_ne (tgt := 23) K d_X_less_18 (by decide) (by omega) (fun hc => ?_) (fun hc => ?_)
  rotate_left
  · refine z_iconst (v := jI (-1)) K d_X_less_21 rfl ?_
    exact z_iret K hr hlk d_X_less_22 ⟨_, rfl, Or.inl ⟨fun w => by have := c6.2 w.2.2; omega, rfl, U, hX⟩⟩
  have hv2 := c6.1 (by omega)
  have q1 := hX.2.2.2.2.2 s1 hv1.1 hv1.2
  have onN := (ng_q q1.2.on).1
  have wN : ¬ wdP 162 (ngP A.1 A.2.2.1 (pts s1)) := fun w => q1.2.w162 (ng_wd.1 w)
  refine z_aload_n K d_X_less_23 rfl ?_
  refine zx_gX K fd_X_54 rfl d_X_less_24 ?_
  refine z_aload_n K d_X_less_27 rfl ?_
  refine zx_gX K fd_X_57 rfl d_X_less_28 ?_
  refine z_iload_n K d_X_less_31 rfl ?_
  refine zx_slot K hv1 d_X_less_32 ?_
  refine z_callV (ci := 2) (As := [.ref (a + sO s1)]) K (c_P_become l G b0 h a S (o := 97) (q := sO s1) hX.1 rfl (sO_P hv1.1 hv1.2) (by unfold sO; omega) q1.1) ca_X_87 im_P_become se_P_become rfl (by decide) (hx_P (by rfl)) rfl rfl (by decide) (Nat.le_of_ble_eq_true rfl) d_X_less_33 (fun r h1 hp => ?_)
  obtain ⟨S1, rfl, rfl, U1, hV1, t1, fr1, f1⟩ := hp
  have hX1 : XS S1 U1 A pts := hX.fr hV1 (by rw [f1]; exact hX.2.1) (fr1 10 (by decide) (by decide) (by decide) (by decide) (by decide)) (fun j j1 => fr1 j (by omega) (by omega) (by omega) (by omega) (by omega)) (fun j j1 => by rw [f1]; exact nu_ne _ _ (by omega))
  refine z_aload_n K d_X_less_36 rfl ?_
  refine zx_gX K fd_X_33 rfl d_X_less_37 ?_
  refine z_aload_n K d_X_less_40 rfl ?_
  refine zx_gX K fd_X_54 rfl d_X_less_41 ?_
  refine z_callV (ci := 7) (As := [.ref (a + 97)]) K (v_C_turnP l G b0 h a S1 (o := 97) hV1 rfl t1 hX1.2.2.2.1 hX1.2.2.2.2.1 q1.2.on q1.2.w162) ca_X_90 im_C_turnOver se_C_turnOver rfl (by decide) (hx_C) rfl rfl (by decide) (Nat.le_of_ble_eq_true rfl) d_X_less_44 (fun r h1 hp => ?_)
  obtain ⟨S2, rfl, rfl, ⟨U2, hV2, t2, fr2⟩, f2⟩ := hp
  have hX2 : XS S2 U2 A pts := hX1.fr hV2 (by rw [f2]; exact hX1.2.1) (fr2 10 (by decide) (by decide)) (fun j j1 => fr2 j (by omega) (by omega)) (fun j j1 => by rw [f2])
  have q0 := hX2.2.2.2.2.2 s0 hv0.1 hv0.2
  refine z_aload_n K d_X_less_47 rfl ?_
  refine zx_gX K fd_X_33 rfl d_X_less_48 ?_
  refine z_aload_n K d_X_less_51 rfl ?_
  refine zx_gX K fd_X_57 rfl d_X_less_52 ?_
  refine z_iload_n K d_X_less_55 rfl ?_
  refine zx_slot K hv0 d_X_less_56 ?_
  refine z_aload_n K d_X_less_57 rfl ?_
  refine zx_gX K fd_X_54 rfl d_X_less_58 ?_
  refine z_aload_n K d_X_less_61 rfl ?_
  refine zx_gX K fd_X_47 rfl d_X_less_62 ?_
  refine z_callV (ci := 7) (As := [.ref (a + sO s0), .ref (a + 97), .ref (a + 75)]) K (v_C_join l G b0 h a S2 (A := A) (P := pts s0) (Q := ngP A.1 A.2.2.1 (pts s1)) (po := sO s0) (qo := 97) (oo := 75) hX2.2.2.2.2.1 (sO_P hv0.1 hv0.2) rfl rfl (by unfold sO; omega) (by decide) hX2.1 hX2.2.1 hX2.2.2.1 hX2.2.2.2.1 q0.1 t2 q0.2.on onN q0.2.w162 wN) ca_X_79 im_C_join se_C_join rfl (by decide) (hx_C) rfl rfl (by decide) (Nat.le_of_ble_eq_true rfl) d_X_less_65 (fun r h1 hp => ?_)
  obtain ⟨S8, rfl, b8, rfl, U8, hV8, pm8, fr8, hb8⟩ := hp
  have hX8 := hX2.jfr (by decide) hV8 pm8 fr8
  rcases hb8 with ⟨rfl, w8⟩ | ⟨rfl, w8, t8⟩
  · refine zi_if_eq (tgt := 83) K d_X_less_68 (by decide) (by decide) (fun hc => ?_) (fun hc => absurd rfl hc)
    refine z_iconst (v := jI 0) K d_X_less_83 rfl ?_
    exact z_iret K hr hlk d_X_less_84 ⟨_, rfl, Or.inr ⟨⟨hv0, hv1, hv2⟩, Or.inl ⟨rfl, (wd_tl (jn_q q0.2.on onN).1 (wdP_mono (by decide) w8)).1, U8, hX8⟩⟩⟩
  · refine zi_if_eq (tgt := 83) K d_X_less_68 (by decide) (by decide) (fun hc => absurd hc (by decide)) (fun hc => ?_)
    refine z_aload_n K d_X_less_71 rfl ?_
    refine z_aload_n K d_X_less_72 rfl ?_
    refine zx_gX K fd_X_47 rfl d_X_less_73 ?_
    refine z_iload_n K d_X_less_76 rfl ?_
    refine z_callV (ci := 8) (As := [.ref (a + 75), .int (jI s2)]) K (c_X_keep l G b0 h a S8 hX8 hv2 t8 (jn_q q0.2.on onN).1) ca_X_83 im_X_keep se_X_keep rfl (by decide) (hx_X) rfl rfl (by decide) (Nat.le_of_ble_eq_true rfl) d_X_less_77 (fun r h1 hp => ?_)
    obtain ⟨S9, rfl, hk⟩ := hp
    rcases hk with ⟨k1, rfl, k2⟩ | ⟨k1, rfl, k2⟩
    · refine z_goto (tgt := 84) K d_X_less_80 (by decide) ?_
      exact z_iret K hr hlk d_X_less_84 ⟨_, rfl, Or.inr ⟨⟨hv0, hv1, hv2⟩, Or.inl ⟨rfl, k1, k2⟩⟩⟩
    · refine z_goto (tgt := 84) K d_X_less_80 (by decide) ?_
      exact z_iret K hr hlk d_X_less_84 ⟨_, rfl, Or.inr ⟨⟨hv0, hv1, hv2⟩, Or.inr ⟨rfl, k1, k2⟩⟩⟩
set_option maxHeartbeats 4000000 in
set_option maxRecDepth 100000 in
theorem r_X_point (l : Launch) (G : zG) (b0 : Nat) (h : zH) (a : Nat) (S : xS) {U : Nat → Int} {A : ecE} {pts : Int → ecP} {s0 u1 w1 u2 w2 : Int} (hX : XS S U A pts) (hs : i32 s0) (hu1 : i64 u1) (hw1 : i64 w1) (hu2 : i64 u2) (hw2 : i64 w2) : xMet l G b0 y_X_point b_X_point 10 (some .int) 7 200 h a [.ref a, .int (jI s0), .long (kI u1), .long (kI w1), .long (kI u2), .long (kI w2)] S (fun r S' => ((0 ≤ s0 ∧ s0 < 8) ∧ w1 ≠ 0 ∧ w2 ≠ 0) ∧ (pRight A (fUp u1 w1) (fLo u1 w1) (fUp u2 w2) (fLo u2 w2) = pLeft A (fUp u1 w1) (fLo u1 w1) (fUp u2 w2) (fLo u2 w2) ∧ r = some (.int (jI 1)) ∧ (∃ U', XS S' U' A (fun i => if i = s0 then some (fUp u1 w1, fUp u2 w2, (fLo u2 w2).tdiv (fLo u1 w1)) else pts i)) ∨ ¬ pRight A (fUp u1 w1) (fLo u1 w1) (fUp u2 w2) (fLo u2 w2) = pLeft A (fUp u1 w1) (fLo u1 w1) (fUp u2 w2) (fLo u2 w2) ∧ r = some (.int (jI 0)) ∧ ∃ U', XS S' U' A pts) ∨ ¬ ((0 ≤ s0 ∧ s0 < 8) ∧ w1 ≠ 0 ∧ w2 ≠ 0) ∧ r = some (.int (jI (-1))) ∧ S = S') :=
  z_met (by decide) (Nat.le_of_ble_eq_true rfl) fun p e s m below meth c K hr hlk hnm => by
  refine z_iload_n K d_X_point_0 rfl ?_
  refine z_callS (As := [.int (jI s0)]) K (c_X_isSlot l G b0 h a S hs) ca_X_72 sm_X_isSlot rfl rfl (by decide) (Nat.le_of_ble_eq_true rfl) d_X_point_1 (fun r h1 hp => ?_)
  obtain ⟨Z, rfl, rfl, b, rfl, c1, c2⟩ := hp
  refine zi_if_eq (tgt := 21) K d_X_point_4 (by decide) (by omega) (fun hc => ?_) (fun hc => ?_)
  · refine z_iconst (v := jI (-1)) K d_X_point_21 rfl ?_
    exact z_iret K hr hlk d_X_point_22 ⟨_, rfl, Or.inr ⟨fun w => by have := c2.2 w.1; omega, rfl, rfl⟩⟩
  have hv := c2.1 (by omega)
  refine z_lload K d_X_point_7 rfl ?_
  refine z_lconst (v := kI 0) K d_X_point_9 rfl ?_
  refine zi_lc_eq (tgt := 21) K d_X_point_10 d_X_point_11 (by decide) hw1 (by decide) (fun hc => ?_) (fun n1 => ?_)
  · refine z_iconst (v := jI (-1)) K d_X_point_21 rfl ?_
    exact z_iret K hr hlk d_X_point_22 ⟨_, rfl, Or.inr ⟨fun w => w.2.1 hc, rfl, rfl⟩⟩
  refine z_lload K d_X_point_14 rfl ?_
  refine z_lconst (v := kI 0) K d_X_point_16 rfl ?_
  refine zi_lc_ne (tgt := 23) K d_X_point_17 d_X_point_18 (by decide) hw2 (by decide) (fun n2 => ?_) (fun hc => ?_)
  rotate_left
  · refine z_iconst (v := jI (-1)) K d_X_point_21 rfl ?_
    exact z_iret K hr hlk d_X_point_22 ⟨_, rfl, Or.inr ⟨fun w => w.2.2 hc, rfl, rfl⟩⟩
  have hP0 := sO_P hv.1 hv.2
  have o109 : 109 ≤ sO s0 := by unfold sO; omega
  refine z_aload_n K d_X_point_23 rfl ?_
  refine zx_gX K fd_X_40 rfl d_X_point_24 ?_
  refine z_lload_n K d_X_point_27 rfl ?_
  refine z_lload K d_X_point_28 rfl ?_
  refine z_lload K d_X_point_30 rfl ?_
  refine z_lload K d_X_point_32 rfl ?_
  refine z_aload_n K d_X_point_34 rfl ?_
  refine zx_gX K fd_X_57 rfl d_X_point_35 ?_
  refine z_iload_n K d_X_point_38 rfl ?_
  refine zx_slot K hv d_X_point_39 ?_
  refine z_callV (ci := 6) (As := [.long (kI u1), .long (kI w1), .long (kI u2), .long (kI w2), .ref (a + sO s0)]) K (v_E_read l G b0 h a S (A := A) (oo := sO s0) hX.1 hX.2.1 hX.2.2.2.1 hX.2.2.2.2.1 hP0 hu1 hw1 hu2 hw2 n1 n2) ca_X_75 im_E_read se_E_read rfl (by decide) (hx_E) rfl rfl (by decide) (Nat.le_of_ble_eq_true rfl) d_X_point_40 (fun r h1 hp => ?_)
  obtain ⟨S1, rfl, b9, rfl, U1, hV1, pm1, fr1, nn1, hb⟩ := hp
  obtain ⟨x1, x2, x3, x4, x5, x6⟩ := hX
  have others : ∀ i : Int, 0 ≤ i → i < 8 → i ≠ s0 → PT S1 U1 (sO i) (pts i) ∧ slP A (pts i) := fun i i0 i8 e => by
    have far := isP_far (sO_P i0 i8) hP0 (sO_ne i0 hv.1 e)
    have i109 : 109 ≤ sO i := by unfold sO; omega
    exact ⟨(x6 i i0 i8).1.fr (nn1 _ (sO_ne i0 hv.1 e)) (fun k hk => fr1 _ (by omega) (by omega) (by omega) (by omega) (by omega) (by omega) (by omega) (by omega) (by omega) (by omega) (by omega)), (x6 i i0 i8).2⟩
  have e10 : U1 10 = 2 := (fr1 10 (by omega) (by omega) (by omega) (by omega) (by omega) (by omega) (by omega) (by omega) (by omega) (by omega) (by omega)).trans x3
  have eq1 : EQ U1 A := x4.fr (fun j j1 j2 => fr1 j (by omega) (by omega) (by omega) (by omega) (by omega) (by omega) (by omega) (by omega) (by omega) (by omega) (by omega))
  rcases hb with ⟨rfl, ng, nn9, u9⟩ | ⟨rfl, ok, t9⟩
  · refine zi_if_eq (tgt := 50) K d_X_point_43 (by decide) (by decide) (fun hc => ?_) (fun hc => absurd rfl hc)
    refine z_iconst (v := jI 0) K d_X_point_50 rfl ?_
    refine z_iret K hr hlk d_X_point_51 ⟨_, rfl, Or.inl ⟨⟨hv, n1, n2⟩, Or.inr ⟨ng, rfl, U1, hV1, pm1, e10, eq1, x5, fun i i0 i8 => ?_⟩⟩⟩
    by_cases e : i = s0
    · subst e; exact ⟨(x6 i i0 i8).1.fr nn9 u9, (x6 i i0 i8).2⟩
    · exact others i i0 i8 e
  · refine zi_if_eq (tgt := 50) K d_X_point_43 (by decide) (by decide) (fun hc => absurd hc (by decide)) (fun hc => ?_)
    refine z_iconst (v := jI 1) K d_X_point_46 rfl ?_
    refine z_goto (tgt := 51) K d_X_point_47 (by decide) ?_
    obtain ⟨z, z0, z2, z3, z4, z5⟩ := point_on (A := A) n1 n2 (by omega) (by omega) (by omega) ok
    refine z_iret K hr hlk d_X_point_51 ⟨_, rfl, Or.inl ⟨⟨hv, n1, n2⟩, Or.inl ⟨ok, rfl, U1, hV1, pm1, e10, eq1, x5, fun i i0 i8 => ?_⟩⟩⟩
    by_cases e : i = s0
    · subst e
      dsimp only
      rw [if_pos rfl]
      exact ⟨t9, by rw [z4]; exact z5⟩
    · dsimp only
      rw [if_neg e]
      exact others i i0 i8 e
end X2
