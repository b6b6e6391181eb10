theorem jI_shrk {n k : Nat} (h : n < 2 ^ 31) (hk : k < 20) : jI n >>> (jI k &&& 31) = jI ((n / 2 ^ k : Nat) : Int) := by
  rw [jI_nI, jI_nI, jI_nI]
  have key : ∀ k : Nat, k < 20 → ((nI k &&& 31).toBitVec.smod 32).toNat = k := by decide
  exact pk_shrN h (nI k &&& 31) k (key k hk)
section X5
variable {p : Program} {l : Launch} {e : Env} {R : Room} {s : State} {m : MethodId} {args : Array Value} {below : List Frame} {meth : Method} {c : Code} {Q : State → Prop} {b0 kc ks : Nat} {G : zG} {h : zH} {a : Nat} {cd : Int}
set_option maxHeartbeats 4000000 in
set_option maxRecDepth 100000 in
theorem lp_X_times (K : zC p s m args c b_X_times R_X 6 b0 G) (hRm : 7 ≤ R.frames ∧ 188 ≤ R.locals) (hkc : kc ≤ R.cells) (hks : ks ≤ R.slots) {A : ecE} {pts : Int → ecP} {t0 : Int} {B : ecP} {lf : Nat} (hlf : lf < 2 ^ 31) (onB : ecOn A B) (wB : ¬ wdP 162 B) (kx0 : ∀ (S : xS) (U : Nat → Int), XS S U A pts → CmR A B lf 20 none none → ∀ pc' : Nat, (pc' = 119 ∨ pc' = 167) → ∀ lv : List (Nat × Value), zW p l e R s m args below meth c 6 b0 G kc ks Q (hx G h a S) pc' lv [.int (jI 0)]) (kx1 : ∀ (Rp : ecP) (S : xS) (U : Nat → Int), XS S U A pts → PT S U 75 Rp → ecOn A Rp → CmR A B lf 20 none (some Rp) → zW p l e R s m args below meth c 6 b0 G kc ks Q (hx G h a S) 174 [(0, .ref a), (3, .int (jI t0))] []) :
    ∀ (j : Nat) (Rp : ecP) (S : xS) (U : Nat → Int), j ≤ 20 → XS S U A pts → PT S U 75 Rp → PT S U 97 B → ecOn A Rp → ¬ wdP 162 Rp → (∀ res : Option ecP, CmR A B lf j Rp res → CmR A B lf 20 none res) → zW p l e R s m args below meth c 6 b0 G kc ks Q (hx G h a S) 79 [(0, .ref a), (3, .int (jI t0)), (4, .int (jI lf)), (5, .int (jI ((j : Int) - 1)))] [] := by
  intro j
  induction j with
  | zero =>
    intro Rp S U hj hX hT hB on wd hs
    refine z_iload K d_X_times_79 rfl ?_
    refine zi_if_lt (tgt := 174) K d_X_times_81 (by decide) (by decide) (fun hc => ?_) (fun hc => absurd hc (by decide))
    exact z_re [0, 3] rfl (kx1 Rp S U hX hT on (hs _ rfl))
  | succ j ih =>
    intro Rp S U hj hX hT hB on wd hs
    have e5 : ((j + 1 : Nat) : Int) - 1 = (j : Int) := by omega
    rw [e5]
    have nxt : ∀ (R2 : ecP) (S : xS) (U : Nat → Int), XS S U A pts → PT S U 75 R2 → PT S U 97 B → ecOn A R2 → ¬ wdP 162 R2 → (∀ res : Option ecP, CmR A B lf j R2 res → CmR A B lf 20 none res) → zW p l e R s m args below meth c 6 b0 G kc ks Q (hx G h a S) 168 [(0, .ref a), (3, .int (jI t0)), (4, .int (jI lf)), (5, .int (jI (j : Int)))] [] := fun R2 S U w1 w2 w3 w4 w5 w6 => by
      refine zi_iinc K d_X_times_168 rfl (by decide) ?_
      refine z_goto (tgt := 79) K d_X_times_171 (by decide) ?_
      refine z_re [0, 3, 4, 5] rfl ?_
      exact ih R2 S U (by omega) w1 w2 w3 w4 w5 w6
    refine z_iload K d_X_times_79 rfl ?_
    refine zi_if_lt (tgt := 174) K d_X_times_81 (by decide) (by omega) (fun hc => absurd hc (by omega)) (fun hc => ?_)
    refine z_aload_n K d_X_times_84 rfl ?_
    refine zx_gX K fd_X_47 rfl d_X_times_85 ?_
    refine z_bipush (v := jI 63) K d_X_times_88 rfl ?_
    refine z_callV (ci := 2) (As := [.int (jI 63)]) K (c_P_isWiderThan l G b0 h a S (o := 75) (n := 63) hX.1 rfl hT (by decide)) ca_X_95 im_P_isWiderThan se_P_isWiderThan rfl (by decide) (hx_P (by rfl)) rfl rfl (rm_ok ⟨hRm.1, hRm.2, hkc, hks⟩ (by decide) (by decide)) (Nat.le_of_ble_eq_true rfl) d_X_times_90 (fun r h1 hp => ?_)
    obtain ⟨Z, rfl, rfl, b1, rfl, c1, c2⟩ := hp
    refine zi_if_ne (tgt := 118) K d_X_times_93 (by decide) (by omega) (fun hw => ?_) (fun hw => ?_)
    · refine z_iconst (v := jI 0) K d_X_times_118 rfl ?_
      exact kx0 S U hX (hs none (Or.inl ⟨c2.1 (by omega), rfl⟩)) 119 (by decide) _
    have n63 : ¬ wdP 63 Rp := fun w => by have := c2.2 w; omega
    obtain ⟨jon, _, _⟩ := jn_q on on
    refine z_aload_n K d_X_times_96 rfl ?_
    refine zx_gX K fd_X_33 rfl d_X_times_97 ?_
    refine z_aload_n K d_X_times_100 rfl ?_
    refine zx_gX K fd_X_47 rfl d_X_times_101 ?_
    refine z_aload_n K d_X_times_104 rfl ?_
    refine zx_gX K fd_X_47 rfl d_X_times_105 ?_
    refine z_aload_n K d_X_times_108 rfl ?_
    refine zx_gX K fd_X_51 rfl d_X_times_109 ?_
    refine z_callV (ci := 7) (As := [.ref (a + 75), .ref (a + 75), .ref (a + 86)]) K (v_C_join l G b0 h a S (A := A) (P := Rp) (Q := Rp) (po := 75) (qo := 75) (oo := 86) hX.2.2.2.2.1 rfl rfl rfl (by decide) (by decide) hX.1 hX.2.1 hX.2.2.1 hX.2.2.2.1 hT hT on on wd wd) ca_X_79 im_C_join se_C_join rfl (by decide) (hx_C) rfl rfl (rm_ok ⟨hRm.1, hRm.2, hkc, hks⟩ (by decide) (by decide)) (Nat.le_of_ble_eq_true rfl) d_X_times_112 (fun r h1 hp => ?_)
    obtain ⟨S8, rfl, b8, rfl, U8, hV8, pm8, fr8, hb8⟩ := hp
    have hX8 := hX.jfr (by decide) hV8 pm8 fr8
    have hB8 : PT S8 U8 97 B := hB.fr (fr8.2 97 (by decide)) (fun i hi => fr8.1 (97 + i) (by omega) (by omega) (by omega) (by omega) (by omega) (by omega) (by omega) (by omega) (by omega) (by omega) (by omega))
    rcases hb8 with ⟨rfl, w8⟩ | ⟨rfl, w8, t8⟩
    · refine zi_if_ne (tgt := 120) K d_X_times_115 (by decide) (by decide) (fun hc => absurd rfl hc) (fun hc => ?_)
      refine z_iconst (v := jI 0) K d_X_times_118 rfl ?_
      exact kx0 S8 U8 hX8 (hs none (Or.inr ⟨n63, Or.inl ⟨w8, rfl⟩⟩)) 119 (by decide) _
    refine zi_if_ne (tgt := 120) K d_X_times_115 (by decide) (by decide) (fun hc => ?_) (fun hc => absurd hc (by decide))
    refine z_iload K d_X_times_120 rfl ?_
    refine z_iload K d_X_times_122 rfl ?_
    refine z_ishr K d_X_times_124 ?_
    rw [jI_shrk hlf (by omega)]
    refine z_iconst (v := jI ((1 : Nat) : Int)) K d_X_times_125 rfl ?_
    refine z_iand K d_X_times_126 ?_
    rw [jI_and, Nat.and_one_is_mod]
    have tb : lf.testBit j = decide (lf / 2 ^ j % 2 = 1) := Nat.testBit_eq_decide_div_mod_eq
    refine zi_if_ne (tgt := 144) K d_X_times_127 (by decide) (by omega) (fun hb => ?_) (fun hb => ?_)
    · have tb1 : lf.testBit j = true := by rw [tb]; exact decide_eq_true (by omega)
      obtain ⟨jon2, _, _⟩ := jn_q jon onB
      refine z_aload_n K d_X_times_144 rfl ?_
      refine zx_gX K fd_X_33 rfl d_X_times_145 ?_
      refine z_aload_n K d_X_times_148 rfl ?_
      refine zx_gX K fd_X_51 rfl d_X_times_149 ?_
      refine z_aload_n K d_X_times_152 rfl ?_
      refine zx_gX K fd_X_54 rfl d_X_times_153 ?_
      refine z_aload_n K d_X_times_156 rfl ?_
      refine zx_gX K fd_X_47 rfl d_X_times_157 ?_
      refine z_callV (ci := 7) (As := [.ref (a + 86), .ref (a + 97), .ref (a + 75)]) K (v_C_join l G b0 h a S8 (A := A) (P := jnA A Rp Rp) (Q := B) (po := 86) (qo := 97) (oo := 75) hX8.2.2.2.2.1 rfl rfl rfl (by decide) (by decide) hX8.1 hX8.2.1 hX8.2.2.1 hX8.2.2.2.1 t8 hB8 jon onB w8 wB) ca_X_79 im_C_join se_C_join rfl (by decide) (hx_C) rfl rfl (rm_ok ⟨hRm.1, hRm.2, hkc, hks⟩ (by decide) (by decide)) (Nat.le_of_ble_eq_true rfl) d_X_times_160 (fun r h1 hp => ?_)
      obtain ⟨S9, rfl, b9, rfl, U9, hV9, pm9, fr9, hb9⟩ := hp
      have hX9 := hX8.jfr (by decide) hV9 pm9 fr9
      have hB9 : PT S9 U9 97 B := hB8.fr (fr9.2 97 (by decide)) (fun i hi => fr9.1 (97 + i) (by omega) (by omega) (by omega) (by omega) (by omega) (by omega) (by omega) (by omega) (by omega) (by omega) (by omega))
      rcases hb9 with ⟨rfl, w9⟩ | ⟨rfl, w9, t9⟩
      · refine zi_if_ne (tgt := 168) K d_X_times_163 (by decide) (by decide) (fun hc => absurd rfl hc) (fun hc => ?_)
        refine z_iconst (v := jI 0) K d_X_times_166 rfl ?_
        exact kx0 S9 U9 hX9 (hs none (Or.inr ⟨n63, Or.inr ⟨w8, Or.inr ⟨tb1, Or.inl ⟨w9, rfl⟩⟩⟩⟩)) 167 (by decide) _
      refine zi_if_ne (tgt := 168) K d_X_times_163 (by decide) (by decide) (fun hc => ?_) (fun hc => absurd hc (by decide))
      exact nxt _ S9 U9 hX9 t9 hB9 jon2 w9 (fun res hr => hs res (Or.inr ⟨n63, Or.inr ⟨w8, Or.inr ⟨tb1, Or.inr ⟨w9, hr⟩⟩⟩⟩))
    · have tb0 : lf.testBit j = false := by rw [tb]; exact decide_eq_false (by omega)
      refine z_aload_n K d_X_times_130 rfl ?_
      refine zx_gX K fd_X_47 rfl d_X_times_131 ?_
      refine z_aload_n K d_X_times_134 rfl ?_
      refine zx_gX K fd_X_51 rfl d_X_times_135 ?_
      refine z_callV (ci := 2) (As := [.ref (a + 86)]) K (c_P_become l G b0 h a S8 (o := 75) (q := 86) hV8 rfl rfl (by decide) t8) ca_X_87 im_P_become se_P_become rfl (by decide) (hx_P (by rfl)) rfl rfl (rm_ok ⟨hRm.1, hRm.2, hkc, hks⟩ (by decide) (by decide)) (Nat.le_of_ble_eq_true rfl) d_X_times_138 (fun r h1 hp => ?_)
      obtain ⟨S9, rfl, rfl, U9, hV9, t9, fr9, f9⟩ := hp
      have hX9 : XS S9 U9 A pts := hX8.fr hV9 (by rw [f9]; exact hX8.2.1) (fr9 10 (by decide) (by decide) (by decide) (by decide) (by decide)) (fun j j1 => fr9 j (by omega) (by omega) (by omega) (by omega) (by omega)) (fun j j1 => by rw [f9]; exact nu_ne _ _ (by omega))
      have hB9 : PT S9 U9 97 B := hB8.fr (by rw [f9]; show nu S8.f.nn 75 (S8.f.nn 86) 97 = S8.f.nn 97; exact nu_ne _ _ (by decide)) (fun i hi => fr9 (97 + i) (by omega) (by omega) (by omega) (by omega) (by omega))
      refine z_goto (tgt := 168) K d_X_times_141 (by decide) ?_
      exact nxt _ S9 U9 hX9 t9 hB9 jon w8 (fun res hr => hs res (Or.inr ⟨n63, Or.inr ⟨w8, Or.inl ⟨tb0, hr⟩⟩⟩))
set_option maxHeartbeats 4000000 in
set_option maxRecDepth 100000 in
theorem r_X_times (l : Launch) (G : zG) (b0 : Nat) (h : zH) (a : Nat) (S : xS) {U : Nat → Int} {A : ecE} {pts : Int → ecP} {s0 k0 t0 : Int} (hX : XS S U A pts) (hs0 : i32 s0) (hk0 : i32 k0) (ht0 : i32 t0) : xMet l G b0 y_X_times b_X_times 6 (some .int) 7 188 h a [.ref a, .int (jI s0), .int (jI k0), .int (jI t0)] S (fun r S' => (¬ ((0 ≤ s0 ∧ s0 < 8) ∧ (0 ≤ t0 ∧ t0 < 8) ∧ (-1000000 ≤ k0 ∧ k0 ≤ 1000000)) ∧ r = some (.int (jI (-1))) ∧ ∃ U', XS S' U' A pts) ∨ (((0 ≤ s0 ∧ s0 < 8) ∧ (0 ≤ t0 ∧ t0 < 8) ∧ (-1000000 ≤ k0 ∧ k0 ≤ 1000000)) ∧ ((CmR A (if k0 < 0 then ngP A.1 A.2.2.1 (pts s0) else pts s0) k0.natAbs 20 none none ∧ r = some (.int (jI 0)) ∧ ∃ U', XS S' U' A pts) ∨ ∃ Rp : ecP, CmR A (if k0 < 0 then ngP A.1 A.2.2.1 (pts s0) else pts s0) k0.natAbs 20 none (some Rp) ∧ ((r = some (.int (jI 0)) ∧ tlP Rp ∧ ∃ U', XS S' U' A pts) ∨ (r = some (.int (jI 1)) ∧ ¬ tlP Rp ∧ ∃ U', XS S' U' A (fun i => if i = t0 then Rp else pts i)))))) :=
  z_met (by decide) (Nat.le_of_ble_eq_true rfl) fun p e s m below meth c K hr hlk hnm => by
  have no : ∀ lv : List (Nat × Value), ¬ ((0 ≤ s0 ∧ s0 < 8) ∧ (0 ≤ t0 ∧ t0 < 8) ∧ (-1000000 ≤ k0 ∧ k0 ≤ 1000000)) → zW p l e (zRm 7 188 0 0) s m ([.ref a, .int (jI s0), .int (jI k0), .int (jI t0)] : List Value).toArray below meth c 6 b0 G 0 0 (MQ below (zQ G b0 (fun r_1 h' => ∃ S' : xS, h' = hx G h a S' ∧ (fun r S' => (¬ ((0 ≤ s0 ∧ s0 < 8) ∧ (0 ≤ t0 ∧ t0 < 8) ∧ (-1000000 ≤ k0 ∧ k0 ≤ 1000000)) ∧ r = some (.int (jI (-1))) ∧ ∃ U', XS S' U' A pts) ∨ (((0 ≤ s0 ∧ s0 < 8) ∧ (0 ≤ t0 ∧ t0 < 8) ∧ (-1000000 ≤ k0 ∧ k0 ≤ 1000000)) ∧ ((CmR A (if k0 < 0 then ngP A.1 A.2.2.1 (pts s0) else pts s0) k0.natAbs 20 none none ∧ r = some (.int (jI 0)) ∧ ∃ U', XS S' U' A pts) ∨ ∃ Rp : ecP, CmR A (if k0 < 0 then ngP A.1 A.2.2.1 (pts s0) else pts s0) k0.natAbs 20 none (some Rp) ∧ ((r = some (.int (jI 0)) ∧ tlP Rp ∧ ∃ U', XS S' U' A pts) ∨ (r = some (.int (jI 1)) ∧ ¬ tlP Rp ∧ ∃ U', XS S' U' A (fun i => if i = t0 then Rp else pts i)))))) r_1 S')) ([.ref a, .int (jI s0), .int (jI k0), .int (jI t0)] : List Value).toArray s 0 0 (z_A b0)) (hx G h a S) 26 lv [] := fun lv nv => by
    refine z_iconst (v := jI (-1)) K d_X_times_26 rfl ?_
    exact z_iret K hr hlk d_X_times_27 ⟨_, rfl, Or.inl ⟨nv, rfl, U, hX⟩⟩
  refine z_iload_n K d_X_times_0 rfl ?_
  refine z_callS (As := [.int (jI s0)]) K (c_X_isSlot l G b0 h a S hs0) ca_X_72 sm_X_isSlot rfl rfl (by decide) (Nat.le_of_ble_eq_true rfl) d_X_times_1 (fun r h1 hp => ?_)
  obtain ⟨Z, rfl, rfl, b, rfl, c1, c2⟩ := hp
  refine zi_if_eq (tgt := 26) K d_X_times_4 (by decide) (by omega) (fun hc => no _ (fun w => by have := c2.2 w.1; omega)) (fun hc => ?_)
  have hv0 := c2.1 (by omega)
  refine z_iload_n K d_X_times_7 rfl ?_
  refine z_callS (As := [.int (jI t0)]) K (c_X_isSlot l G b0 h a S ht0) ca_X_72 sm_X_isSlot rfl rfl (by decide) (Nat.le_of_ble_eq_true rfl) d_X_times_8 (fun r h1 hp => ?_)
  obtain ⟨Z, rfl, rfl, b', rfl, c3, c4⟩ := hp
  refine zi_if_eq (tgt := 26) K d_X_times_11 (by decide) (by omega) (fun hc => no _ (fun w => by have := c4.2 w.2.1; omega)) (fun hc => ?_)
  have hv1 := c4.1 (by omega)
  refine z_iload_n K d_X_times_14 rfl ?_
  refine z_ldc (v := jI (-1000000)) K d_X_times_15 ((show (-1000000 : Int32) = jI (-1000000) by decide) ▸ kc_X_93) ?_
  refine zi_icmp_lt (tgt := 26) K d_X_times_17 (by decide) hk0 (by decide) (fun hc => no _ (fun w => by omega)) (fun hc => ?_)
  refine z_iload_n K d_X_times_20 rfl ?_
  refine z_ldc (v := jI 1000000) K d_X_times_21 kc_X_94 ?_
  refine zi_icmp_le (tgt := 28) K d_X_times_23 (by decide) hk0 (by decide) (fun hc2 => ?_) (fun hc2 => no _ (fun w => by omega))
  have valid : (0 ≤ s0 ∧ s0 < 8) ∧ (0 ≤ t0 ∧ t0 < 8) ∧ (-1000000 ≤ k0 ∧ k0 ≤ 1000000) := ⟨hv0, hv1, by omega, by omega⟩
  have q0 := hX.2.2.2.2.2 s0 hv0.1 hv0.2
  refine z_aload_n K d_X_times_28 rfl ?_
  refine zx_gX K fd_X_54 rfl d_X_times_29 ?_
  refine z_aload_n K d_X_times_32 rfl ?_
  refine zx_gX K fd_X_57 rfl d_X_times_33 ?_
  refine z_iload_n K d_X_times_36 rfl ?_
  refine zx_slot K hv0 d_X_times_37 ?_
  refine z_callV (ci := 2) (As := [.ref (a + sO s0)]) K (c_P_become l G b0 h a S (o := 97) (q := sO s0) hX.1 rfl (sO_P hv0.1 hv0.2) (by unfold sO; omega) q0.1) ca_X_87 im_P_become se_P_become rfl (by decide) (hx_P (by rfl)) rfl rfl (by decide) (Nat.le_of_ble_eq_true rfl) d_X_times_38 (fun r h1 hp => ?_)
  obtain ⟨S1, rfl, rfl, U1, hV1, t1, fr1, f1⟩ := hp
  have hX1 : XS S1 U1 A pts := hX.fr hV1 (by rw [f1]; exact hX.2.1) (fr1 10 (by decide) (by decide) (by decide) (by decide) (by decide)) (fun j j1 => fr1 j (by omega) (by omega) (by omega) (by omega) (by omega)) (fun j j1 => by rw [f1]; exact nu_ne _ _ (by omega))
  have go : ∀ (B : ecP) (S2 : xS) (U2 : Nat → Int), XS S2 U2 A pts → PT S2 U2 97 B → ecOn A B → ¬ wdP 162 B → B = (if k0 < 0 then ngP A.1 A.2.2.1 (pts s0) else pts s0) → zW p l e (zRm 7 188 0 0) s m ([.ref a, .int (jI s0), .int (jI k0), .int (jI t0)] : List Value).toArray below meth c 6 b0 G 0 0 (MQ below (zQ G b0 (fun r_1 h' => ∃ S' : xS, h' = hx G h a S' ∧ (fun r S' => (¬ ((0 ≤ s0 ∧ s0 < 8) ∧ (0 ≤ t0 ∧ t0 < 8) ∧ (-1000000 ≤ k0 ∧ k0 ≤ 1000000)) ∧ r = some (.int (jI (-1))) ∧ ∃ U', XS S' U' A pts) ∨ (((0 ≤ s0 ∧ s0 < 8) ∧ (0 ≤ t0 ∧ t0 < 8) ∧ (-1000000 ≤ k0 ∧ k0 ≤ 1000000)) ∧ ((CmR A (if k0 < 0 then ngP A.1 A.2.2.1 (pts s0) else pts s0) k0.natAbs 20 none none ∧ r = some (.int (jI 0)) ∧ ∃ U', XS S' U' A pts) ∨ ∃ Rp : ecP, CmR A (if k0 < 0 then ngP A.1 A.2.2.1 (pts s0) else pts s0) k0.natAbs 20 none (some Rp) ∧ ((r = some (.int (jI 0)) ∧ tlP Rp ∧ ∃ U', XS S' U' A pts) ∨ (r = some (.int (jI 1)) ∧ ¬ tlP Rp ∧ ∃ U', XS S' U' A (fun i => if i = t0 then Rp else pts i)))))) r_1 S')) ([.ref a, .int (jI s0), .int (jI k0), .int (jI t0)] : List Value).toArray s 0 0 (z_A b0)) (hx G h a S2) 66 [(0, .ref a), (3, .int (jI t0))] [.int (jI (k0.natAbs : Nat))] := fun B S2 U2 hX2 t2 onB wB eB => by
    refine z_istore K d_X_times_66 (by decide) ?_
    refine z_aload_n K d_X_times_68 rfl ?_
    refine zx_gX K fd_X_47 rfl d_X_times_69 ?_
    refine z_callV (ci := 2) (As := []) K (c_P_becomeNone l G b0 h a S2 (o := 75) rfl) ca_X_69 im_P_becomeNone se_P_becomeNone rfl (by decide) (hx_P (by rfl)) rfl rfl (by decide) (Nat.le_of_ble_eq_true rfl) d_X_times_72 (fun r h1 hp => ?_)
    obtain ⟨S3, rfl, rfl, rfl⟩ := hp
    have hX3 : XS (S2.sf (S2.f.snn (nu S2.f.nn 75 1))) U2 A pts := hX2.fr hX2.1 hX2.2.1 rfl (fun _ _ => rfl) (fun j j1 => nu_ne _ _ (by omega))
    have hB3 : PT (S2.sf (S2.f.snn (nu S2.f.nn 75 1))) U2 97 B := t2.fr (show nu S2.f.nn 75 1 97 = S2.f.nn 97 from nu_ne _ _ (by decide)) (fun _ _ => rfl)
    refine z_bipush (v := jI 19) K d_X_times_75 rfl ?_
    refine z_istore K d_X_times_77 (by decide) ?_
    refine z_re [0, 3, 4, 5] rfl ?_
    subst eB
    refine lp_X_times (A := A) (pts := pts) (lf := k0.natAbs) K ⟨Nat.le_of_ble_eq_true rfl, Nat.le_of_ble_eq_true rfl⟩ (Nat.zero_le _) (Nat.zero_le _) (by omega) onB wB (fun S8 U8 hX8 hC pc' hpc lv => ?_) (fun Rp S8 U8 hX8 t8 on8 hC => ?_) 20 none _ U2 (Nat.le_refl _) hX3 (show nu S2.f.nn 75 1 75 = 1 from nu_self _ _ _) hB3 trivial (fun w => w) (fun _ hres => hres)
    · rcases hpc with rfl | rfl
      · exact z_iret K hr hlk d_X_times_119 ⟨_, rfl, Or.inr ⟨valid, Or.inl ⟨hC, rfl, U8, hX8⟩⟩⟩
      · exact z_iret K hr hlk d_X_times_167 ⟨_, rfl, Or.inr ⟨valid, Or.inl ⟨hC, rfl, U8, hX8⟩⟩⟩
    · refine z_aload_n K d_X_times_174 rfl ?_
      refine z_aload_n K d_X_times_175 rfl ?_
      refine zx_gX K fd_X_47 rfl d_X_times_176 ?_
      refine z_iload_n K d_X_times_179 rfl ?_
      refine z_callV (ci := 8) (As := [.ref (a + 75), .int (jI t0)]) K (c_X_keep l G b0 h a S8 hX8 hv1 t8 on8) ca_X_83 im_X_keep se_X_keep rfl (by decide) (hx_X) rfl rfl (by decide) (Nat.le_of_ble_eq_true rfl) d_X_times_180 (fun r h1 hp => ?_)
      obtain ⟨S9, rfl, hk⟩ := hp
      rcases hk with ⟨k1, rfl, k2⟩ | ⟨k1, rfl, k2⟩
      · exact z_iret K hr hlk d_X_times_183 ⟨_, rfl, Or.inr ⟨valid, Or.inr ⟨Rp, hC, Or.inl ⟨rfl, k1, k2⟩⟩⟩⟩
      · exact z_iret K hr hlk d_X_times_183 ⟨_, rfl, Or.inr ⟨valid, Or.inr ⟨Rp, hC, Or.inr ⟨rfl, k1, k2⟩⟩⟩⟩
  refine z_iload_n K d_X_times_41 rfl ?_
  refine zi_if_ge (tgt := 56) K d_X_times_42 (by decide) hk0 (fun hk => ?_) (fun hk => ?_)
  · refine z_iload_n K d_X_times_56 rfl ?_
    refine zi_if_ge (tgt := 65) K d_X_times_57 (by decide) hk0 (fun _ => ?_) (fun w => absurd hk (by omega))
    refine z_iload_n K d_X_times_65 rfl ?_
    have := go (pts s0) S1 U1 hX1 t1 q0.2.on q0.2.w162 (by rw [if_neg (by omega)])
    rw [show ((k0.natAbs : Nat) : Int) = k0 by omega] at this
    exact z_re [0, 3] rfl this
  · refine z_aload_n K d_X_times_45 rfl ?_
    refine zx_gX K fd_X_33 rfl d_X_times_46 ?_
    refine z_aload_n K d_X_times_49 rfl ?_
    refine zx_gX K fd_X_54 rfl d_X_times_50 ?_
    refine z_callV (ci := 7) (As := [.ref (a + 97)]) K (v_C_turnP l G b0 h a S1 (o := 97) hV1 rfl t1 hX1.2.2.2.1 hX1.2.2.2.2.1 q0.2.on q0.2.w162) ca_X_90 im_C_turnOver se_C_turnOver rfl (by decide) (hx_C) rfl rfl (by decide) (Nat.le_of_ble_eq_true rfl) d_X_times_53 (fun r h1 hp => ?_)
    obtain ⟨S2, rfl, rfl, ⟨U2, hV2, t2, fr2⟩, f2⟩ := hp
    have hX2 : XS S2 U2 A pts := hX1.fr hV2 (by rw [f2]; exact hX1.2.1) (fr2 10 (by decide) (by decide)) (fun j j1 => fr2 j (by omega) (by omega)) (fun j j1 => by rw [f2])
    refine z_iload_n K d_X_times_56 rfl ?_
    refine zi_if_ge (tgt := 65) K d_X_times_57 (by decide) hk0 (fun w => absurd w (by omega)) (fun _ => ?_)
    refine z_iload_n K d_X_times_60 rfl ?_
    refine zi_ineg K d_X_times_61 ?_
    refine z_goto (tgt := 66) K d_X_times_62 (by decide) ?_
    have := go (ngP A.1 A.2.2.1 (pts s0)) S2 U2 hX2 t2 (ng_q q0.2.on).1 (fun w => q0.2.w162 (ng_wd.1 w)) (by rw [if_pos (by omega)])
    rw [show ((k0.natAbs : Nat) : Int) = -k0 by omega] at this
    exact z_re [0, 3] rfl this
end X5
