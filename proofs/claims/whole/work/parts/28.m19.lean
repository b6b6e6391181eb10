theorem PtAt.bit {V N : Int → Int} {b : Int} {o : Option (Int × Int × Int)} (h : PtAt V N b o) : N b = 0 ∨ N b = 1 := by
  cases o with
  | none => exact Or.inr h
  | some p => exact Or.inl h.1
/-- a point that was moved -/
theorem PtAt.mv {V V' N N' : Int → Int} {f t : Int} {o : Option (Int × Int × Int)} (h : PtAt V N f o) (h1 : N f = 0 → V' t = V f ∧ V' (t + 1) = V (f + 1) ∧ V' (t + 2) = V (f + 2)) (h2 : N' t = N f) : PtAt V' N' t o := by
  cases o with
  | none => exact h2.trans h
  | some p =>
    obtain ⟨x, y, z⟩ := p
    obtain ⟨a1, a2, a3, a4⟩ := h
    obtain ⟨b1, b2, b3⟩ := h1 a1
    exact ⟨h2.trans a1, b1.trans a2, b2.trans a3, b3.trans a4⟩
section M19
variable {p : Program} {l : Launch} {e : Env} {R : Room} {s : State} {m : MethodId} {args : Array Value} {below : List Frame} {meth : Method} {c : Code} {Q : State → Prop} {b0 kc ks : Nat} {G : zG} {h : zH} {a : Nat} {cd : Int}
set_option maxHeartbeats 4000000 in
set_option maxRecDepth 100000 in
/-- join(): the point at 36 is the sum of those at 30 and 33 -/
theorem v_M_join (l : Launch) (G : zG) (b0 : Nat) (h : zH) (a : Nat) (cd : Int) (T : mT) {V : Int → Int} {A1 A2 A3 A4 A6 : Int} (hV : RV T V) (cA1 : V 24 = A1) (cA2 : V 25 = A2) (cA3 : V 26 = A3) (cA4 : V 27 = A4) (cA6 : V 28 = A6) (bA1 : lt9 A1 1) (bA2 : lt9 A2 1) (bA3 : lt9 A3 1) (bA4 : lt9 A4 1) (bA6 : lt9 A6 1) (P Q : Option (Int × Int × Int)) (hP : PtAt V T.2.2.2 30 P) (hQ : PtAt V T.2.2.2 33 Q) (cP : capJ P) (cQ : capJ Q)
    (hch : ∀ x1 y1 z1 x2 y2 z2 : Int, P = some (x1, y1, z1) → Q = some (x2, y2, z2) → ¬ (x1 = x2 ∧ z1 = z2) → cD x1 z1 x2 z2 ≠ 0) (hto : ∀ x1 y1 z1 y2 : Int, P = some (x1, y1, z1) → Q = some (x1, y2, z1) → y1 + y2 + A1 * x1 * z1 + A3 * (z1 * z1) * z1 ≠ 0 → tD A1 A3 x1 y1 z1 ≠ 0) :
    mMet l G b0 y_M_join b_M_join 1 none 6 143 h a cd [] T (fun o T' => o = none ∧ ∃ V' : Int → Int, RV T' V' ∧ (∀ q : Int, q < 30 → V' q = V q) ∧ PtAt V' T'.2.2.2 36 (jn A1 A2 A3 A4 P Q) ∧ ∀ q : Int, q ≠ 36 → T'.2.2.2 q = T.2.2.2 q) :=
  z_met (by decide) (Nat.le_of_ble_eq_true rfl) fun p e s m below meth c K hr hlk hnm => by
  have hQb := hQ.bit
  match P, Q, hP, hQ, cP, cQ, hch, hto with
  | none, Q, hP, hQ, _, _, _, _ =>
    have hP1 : T.2.2.2 30 = 1 := hP
    refine z_aload_n K d_M_join_0 rfl ?_
    refine zm_get K fd_M_19 rfl d_M_join_1 ?_
    refine z_bipush (v := jI 30) K d_M_join_4 rfl ?_
    refine zm_nld K (by omega) d_M_join_6 ?_
    rw [hP1]
    refine zi_if_ne (tgt := 20) K d_M_join_7 (by decide) (by decide) (fun _ => ?_) (fun hc => absurd hc (by decide))
    refine z_aload_n K d_M_join_20 rfl ?_
    refine z_aload_n K d_M_join_21 rfl ?_
    refine zm_get K fd_M_19 rfl d_M_join_22 ?_
    refine z_bipush (v := jI 30) K d_M_join_25 rfl ?_
    refine zm_nld K (by omega) d_M_join_27 ?_
    rw [hP1]
    refine zi_if_eq (tgt := 36) K d_M_join_28 (by decide) (by decide) (fun hc => absurd hc (by decide)) (fun _ => ?_)
    refine z_bipush (v := jI 33) K d_M_join_31 rfl ?_
    refine z_goto (tgt := 38) K d_M_join_33 (by decide) ?_
    refine z_bipush (v := jI 36) K d_M_join_38 rfl ?_
    refine z_callV (ci := 0) (As := [.int (jI 33), .int (jI 36)]) K (v_M_move l G b0 h a cd T hV (by decide) (by decide) (by decide) hQb) ca_M_112 im_M_move se_M_move rfl (by decide) hm_0 rfl rfl (by decide) (Nat.le_of_ble_eq_true rfl) d_M_join_40 (fun o h1 hp => ?_)
    obtain ⟨T1, rfl, rfl, ⟨V1, q1, q2, q3⟩, q4⟩ := hp
    refine z_vret K hr hlk d_M_join_43 ⟨_, rfl, rfl, V1, q1, fun q hq => q3 q (by omega), hQ.mv q2 (by rw [q4, iu_self]), fun q hq => by rw [q4, iu_ne _ _ hq]⟩
  | some (x1, y1, z1), none, hP, hQ, _, _, _, _ =>
    have hP1 : T.2.2.2 30 = 0 := hP.1
    have hQ1 : T.2.2.2 33 = 1 := hQ
    refine z_aload_n K d_M_join_0 rfl ?_
    refine zm_get K fd_M_19 rfl d_M_join_1 ?_
    refine z_bipush (v := jI 30) K d_M_join_4 rfl ?_
    refine zm_nld K (by omega) d_M_join_6 ?_
    rw [hP1]
    refine zi_if_ne (tgt := 20) K d_M_join_7 (by decide) (by decide) (fun hc => absurd rfl hc) (fun _ => ?_)
    refine z_aload_n K d_M_join_10 rfl ?_
    refine zm_get K fd_M_19 rfl d_M_join_11 ?_
    refine z_bipush (v := jI 33) K d_M_join_14 rfl ?_
    refine zm_nld K (by omega) d_M_join_16 ?_
    rw [hQ1]
    refine zi_if_eq (tgt := 44) K d_M_join_17 (by decide) (by decide) (fun hc => absurd hc (by decide)) (fun _ => ?_)
    refine z_aload_n K d_M_join_20 rfl ?_
    refine z_aload_n K d_M_join_21 rfl ?_
    refine zm_get K fd_M_19 rfl d_M_join_22 ?_
    refine z_bipush (v := jI 30) K d_M_join_25 rfl ?_
    refine zm_nld K (by omega) d_M_join_27 ?_
    rw [hP1]
    refine zi_if_eq (tgt := 36) K d_M_join_28 (by decide) (by decide) (fun _ => ?_) (fun hc => absurd rfl hc)
    refine z_bipush (v := jI 30) K d_M_join_36 rfl ?_
    refine z_bipush (v := jI 36) K d_M_join_38 rfl ?_
    refine z_callV (ci := 0) (As := [.int (jI 30), .int (jI 36)]) K (v_M_move l G b0 h a cd T hV (by decide) (by decide) (by decide) (Or.inl hP1)) ca_M_112 im_M_move se_M_move rfl (by decide) hm_0 rfl rfl (by decide) (Nat.le_of_ble_eq_true rfl) d_M_join_40 (fun o h1 hp => ?_)
    obtain ⟨T1, rfl, rfl, ⟨V1, q1, q2, q3⟩, q4⟩ := hp
    refine z_vret K hr hlk d_M_join_43 ⟨_, rfl, rfl, V1, q1, fun q hq => q3 q (by omega), PtAt.mv (o := some (x1, y1, z1)) hP q2 (by rw [q4, iu_self]), fun q hq => by rw [q4, iu_ne _ _ hq]⟩
  | some (x1, y1, z1), some (x2, y2, z2), hP, hQ, cP, cQ, hch, hto =>
    obtain ⟨hP1, fx, fy, fz⟩ := hP
    obtain ⟨hQ1, fqx, fqy, fqz⟩ := hQ
    obtain ⟨bx, by1, bz, nz⟩ := cP
    obtain ⟨bqx, bqy, bqz, nqz⟩ := cQ
    have fy : V 31 = y1 := fy
    have fz : V 32 = z1 := fz
    have fqy : V 34 = y2 := fqy
    have fqz : V 35 = z2 := fqz
    refine z_aload_n K d_M_join_0 rfl ?_
    refine zm_get K fd_M_19 rfl d_M_join_1 ?_
    refine z_bipush (v := jI 30) K d_M_join_4 rfl ?_
    refine zm_nld K (by omega) d_M_join_6 ?_
    rw [hP1]
    refine zi_if_ne (tgt := 20) K d_M_join_7 (by decide) (by decide) (fun hc => absurd rfl hc) (fun _ => ?_)
    refine z_aload_n K d_M_join_10 rfl ?_
    refine zm_get K fd_M_19 rfl d_M_join_11 ?_
    refine z_bipush (v := jI 33) K d_M_join_14 rfl ?_
    refine zm_nld K (by omega) d_M_join_16 ?_
    rw [hQ1]
    refine zi_if_eq (tgt := 44) K d_M_join_17 (by decide) (by decide) (fun _ => ?_) (fun hc => absurd rfl hc)
    have chord : ¬ (x1 = x2 ∧ z1 = z2) → zW p l e (zRm 6 143 0 0) s m ([.ref a] : List Value).toArray below meth c 1 b0 G 0 0 (MQ below (zQ G b0 (fun r_1 h' => ∃ T' : mT, h' = hm G h a cd T' ∧ r_1 = none ∧ ∃ V' : Int → Int, RV T' V' ∧ (∀ q : Int, q < 30 → V' q = V q) ∧ PtAt V' T'.2.2.2 36 (jn A1 A2 A3 A4 (some (x1, y1, z1)) (some (x2, y2, z2))) ∧ ∀ q : Int, q ≠ 36 → T'.2.2.2 q = T.2.2.2 q)) ([.ref a] : List Value).toArray s 0 0 (z_A b0)) (hm G h a cd T) 89 [(0, .ref a)] [] := fun hns => by
      have hw0 : z1 * z2 * cD x1 z1 x2 z2 ≠ 0 := Int.mul_ne_zero (Int.mul_ne_zero nz nqz) (hch x1 y1 z1 x2 y2 z2 rfl rfl hns)
      refine t_M_join89 K ⟨Nat.le_refl _, Nat.le_refl _, Nat.le_refl _, Nat.le_refl _⟩ T hV cA1 cA2 cA3 cA4 cA6 bA1 bA2 bA3 bA4 bA6 fx fy fz fqx fqy fqz bx by1 bz bqx bqy bqz hw0 (fun T' V' q1 q2 q3 q4 q5 q6 => ?_)
      refine z_vret K hr hlk d_M_join_242 ⟨_, rfl, rfl, V', q1, q2, ?_, fun q hq => by rw [q6, iu_ne _ _ hq]⟩
      have ej : jn A1 A2 A3 A4 (some (x1, y1, z1)) (some (x2, y2, z2)) = some (fChord A1 A2 A3 x1 y1 z1 x2 y2 z2) := by simp only [jn]; rw [if_neg hns]
      rw [ej]
      exact ⟨by rw [q6, iu_self], q3, q4, q5⟩
    refine z_aload_n K d_M_join_44 rfl ?_
    refine z_bipush (v := jI 30) K d_M_join_45 rfl ?_
    refine z_bipush (v := jI 33) K d_M_join_47 rfl ?_
    refine z_callV (ci := 0) (As := [.int (jI 30), .int (jI 33)]) K (v_M_isSame l G b0 h a cd T hV (by decide) (by decide)) ca_M_105 im_M_isSame se_M_isSame rfl (by decide) hm_0 rfl rfl (by decide) (Nat.le_of_ble_eq_true rfl) d_M_join_49 (fun o h1 hp => ?_)
    obtain ⟨T1, rfl, rfl, rfl⟩ := hp
    rw [fx, fqx]
    by_cases hx12 : x1 = x2
    · rw [if_pos hx12]
      refine zi_if_eq (tgt := 89) K d_M_join_52 (by decide) (by decide) (fun hc => absurd hc (by decide)) (fun _ => ?_)
      refine z_aload_n K d_M_join_55 rfl ?_
      refine z_bipush (v := jI 32) K d_M_join_56 rfl ?_
      refine z_bipush (v := jI 35) K d_M_join_58 rfl ?_
      refine z_callV (ci := 0) (As := [.int (jI 32), .int (jI 35)]) K (v_M_isSame l G b0 h a cd T hV (by decide) (by decide)) ca_M_105 im_M_isSame se_M_isSame rfl (by decide) hm_0 rfl rfl (by decide) (Nat.le_of_ble_eq_true rfl) d_M_join_60 (fun o h1 hp => ?_)
      obtain ⟨T1, rfl, rfl, rfl⟩ := hp
      rw [fz, fqz]
      by_cases hz12 : z1 = z2
      · rw [if_pos hz12]
        subst hx12
        subst hz12
        refine zi_if_eq (tgt := 89) K d_M_join_63 (by decide) (by decide) (fun hc => absurd hc (by decide)) (fun _ => ?_)
        refine z_aload_n K d_M_join_66 rfl ?_
        refine z_callV (ci := 0) (As := []) K (v_M_isOther l G b0 h a cd T hV cA1 cA2 cA3 cA4 cA6 bA1 bA2 bA3 bA4 bA6 fx fy fz fqy bx by1 bz bqy) ca_M_118 im_M_isOther se_M_isOther rfl (by decide) hm_0 rfl rfl (by decide) (Nat.le_of_ble_eq_true rfl) d_M_join_67 (fun o h1 hp => ?_)
        obtain ⟨T1, rfl, rfl, ⟨V1, q1, q2⟩, q3⟩ := hp
        by_cases h0 : y1 + y2 + A1 * x1 * z1 + A3 * (z1 * z1) * z1 = 0
        · rw [if_pos h0]
          refine zi_if_eq (tgt := 84) K d_M_join_70 (by decide) (by decide) (fun hc => absurd hc (by decide)) (fun _ => ?_)
          refine z_aload_n K d_M_join_73 rfl ?_
          refine zm_get K fd_M_19 rfl d_M_join_74 ?_
          refine z_bipush (v := jI 36) K d_M_join_77 rfl ?_
          refine z_iconst (v := jI 1) K d_M_join_79 rfl ?_
          refine zm_nst K (by decide) (Or.inr rfl) d_M_join_80 ?_
          refine z_goto (tgt := 88) K d_M_join_81 (by decide) ?_
          refine z_vret K hr hlk d_M_join_88 ⟨_, rfl, rfl, V1, fun r r0 r1 => q1 r r0 r1, fun q hq => q2 q (by omega), ?_, fun q hq => ?_⟩
          · simp only [jn]
            rw [if_pos ⟨trivial, trivial⟩, if_pos h0]
            exact iu_self _ _ _
          · dsimp only
            rw [iu_ne _ _ hq, q3]
        · rw [if_neg h0]
          refine zi_if_eq (tgt := 84) K d_M_join_70 (by decide) (by decide) (fun _ => ?_) (fun hc => absurd rfl hc)
          refine z_aload_n K d_M_join_84 rfl ?_
          have htd := hto x1 y1 z1 y2 rfl rfl h0
          refine z_callV (ci := 0) (As := []) K (v_M_touch l G b0 h a cd T1 q1 ((q2 24 (by decide)).trans cA1) ((q2 25 (by decide)).trans cA2) ((q2 26 (by decide)).trans cA3) ((q2 27 (by decide)).trans cA4) ((q2 28 (by decide)).trans cA6) bA1 bA2 bA3 bA4 bA6 ((q2 30 (by decide)).trans fx) ((q2 31 (by decide)).trans fy) ((q2 32 (by decide)).trans fz) bx by1 bz (Int.mul_ne_zero nz htd)) ca_M_122 im_M_touch se_M_touch rfl (by decide) hm_0 rfl rfl (by decide) (Nat.le_of_ble_eq_true rfl) d_M_join_85 (fun o h1 hp => ?_)
          obtain ⟨T2, rfl, rfl, ⟨V2, r1, r2, r3, r4, r5⟩, r6⟩ := hp
          refine z_vret K hr hlk d_M_join_88 ⟨_, rfl, rfl, V2, r1, fun q hq => (r2 q hq).trans (q2 q (by omega)), ?_, fun q hq => ?_⟩
          · simp only [jn]
            rw [if_pos ⟨trivial, trivial⟩, if_neg h0]
            exact ⟨by rw [r6, iu_self], r3, r4, r5⟩
          · rw [r6, iu_ne _ _ hq, q3]
      · rw [if_neg hz12]
        refine zi_if_eq (tgt := 89) K d_M_join_63 (by decide) (by decide) (fun _ => ?_) (fun hc => absurd rfl hc)
        exact chord (fun z => hz12 z.2)
    · rw [if_neg hx12]
      refine zi_if_eq (tgt := 89) K d_M_join_52 (by decide) (by decide) (fun _ => ?_) (fun hc => absurd rfl hc)
      exact chord (fun z => hx12 z.1)
end M19
