/-- where a point keeps the number w -/
def nO (w : Int) : Nat := if w = 0 then 1 else if w = 1 then 7 else if w = 2 then 3 else 9
theorem nO_N {o : Nat} {w : Int} (ho : isP o = true) : isN (o + nO w) = true := by
  obtain ⟨h1, h2, h3, h4, h5⟩ := (isP_lt ho).2.2.2
  unfold nO
  repeat' split
  all_goals assumption
theorem nO_v {S : xS} {U : Nat → Int} {o : Nat} {q : Int × Int × Int} {w : Int} (h : PT S U o (some q)) : U (o + nO w) = numP q w := by
  obtain ⟨x, y, z⟩ := q
  obtain ⟨_, e1, e3, e5, e7, e9⟩ := h
  unfold nO numP
  repeat' split
  all_goals first | assumption | omega
theorem dg_room {S : xS} {k n d : Nat} {v : Int} (hv : NR S k n v) (hd : IsDg v d) (h0 : v ≠ 0) : d ≤ 9 * n := by
  have n0 : n ≠ 0 := fun w => h0 (hv.zero.1 w)
  obtain ⟨d1, d2, d3⟩ := hd
  rcases d3 with d3 | d3
  · omega
  · have h1 := hv.nn
    rw [BS_ten] at h1
    have h2 : 10 ^ (d - 1) < 10 ^ (9 * n) := by omega
    have := (Nat.pow_lt_pow_iff_right (by decide : 1 < 10)).1 h2
    omega
section X6
variable {p : Program} {l : Launch} {e : Env} {R : Room} {s : State} {m : MethodId} {args : Array Value} {below : List Frame} {meth : Method} {c : Code} {Q : State → Prop} {b0 kc ks : Nat} {G : zG} {h : zH} {a : Nat} {cd : Int}
theorem z_tabIn {cc : ByteArray} {own : String} {nL pc : Nat} {lv : List (Nat × Value)} {st : List Value} {hh : zH} (K : zC p s m args c cc own nL b0 G) {dflt lo hi : Int} {offs : Array Int} {len : Nat} {x : Int} {off : Int} {tgt : Nat} (hd : decode cc pc = .ok (.tableswitch dflt lo hi offs, len)) (hx : i32 x) (h1 : ¬ x < lo) (h2 : ¬ hi < x) (ho : offs[(x - lo).toNat]? = some off) (ht : (pc : Int) + off = (tgt : Int)) (kk : zW p l e R s m args below meth c nL b0 G kc ks Q hh tgt lv st) : zW p l e R s m args below meth c nL b0 G kc ks Q hh pc lv (.int (jI x) :: st) :=
  fun H locs ls h0 h1' h2' h3 h4 => lv_tableIn K.1 K.2.1 hd (by rw [jI_toInt hx]; exact h1) (by rw [jI_toInt hx]; exact h2) (by rw [jI_toInt hx]; exact ho) ht (kk H locs ls h0 h1' h2' h3 h4)
theorem z_tabOut {cc : ByteArray} {own : String} {nL pc : Nat} {lv : List (Nat × Value)} {st : List Value} {hh : zH} (K : zC p s m args c cc own nL b0 G) {dflt lo hi : Int} {offs : Array Int} {len : Nat} {x : Int} {tgt : Nat} (hd : decode cc pc = .ok (.tableswitch dflt lo hi offs, len)) (hx : i32 x) (h1 : x < lo ∨ hi < x) (ht : (pc : Int) + dflt = (tgt : Int)) (kk : zW p l e R s m args below meth c nL b0 G kc ks Q hh tgt lv st) : zW p l e R s m args below meth c nL b0 G kc ks Q hh pc lv (.int (jI x) :: st) :=
  fun H locs ls h0 h1' h2' h3 h4 => lv_tableOut K.1 K.2.1 hd (by rw [jI_toInt hx]; exact h1) ht (kk H locs ls h0 h1' h2' h3 h4)
set_option maxHeartbeats 4000000 in
set_option maxRecDepth 100000 in
theorem c_P_number (l : Launch) (G : zG) (b0 : Nat) (h : zH) (a : Nat) (S : xS) {o : Nat} {w : Int} (ho : isP o = true) (hw : 0 ≤ w ∧ w ≤ 3) : xMet l G b0 y_P_number b_P_number 2 (some (.object "ChordPoints$Num")) 0 0 h a [.ref (a + o), .int (jI w)] S (fun r S' => S = S' ∧ r = some (.ref (a + (o + nO w)))) :=
  z_met (by decide) (Nat.le_of_ble_eq_true rfl) fun p e s m below meth c K hr hlk hnm => by
  refine z_iload_n K d_P_number_0 rfl ?_
  have cs : w = 0 ∨ w = 1 ∨ w = 2 ∨ w = 3 := by omega
  rcases cs with rfl | rfl | rfl | rfl
  · refine z_tabIn (tgt := 28) K d_P_number_1 (by decide) (by decide) (by decide) rfl (by decide) ?_
    refine z_aload_n K d_P_number_28 rfl ?_
    refine zx_gP K ho fd_P_14 rfl d_P_number_29 ?_
    exact z_aret K hr (Or.inl ⟨_, rfl⟩) hlk d_P_number_32 ⟨_, rfl, rfl, rfl⟩
  · refine z_tabIn (tgt := 33) K d_P_number_1 (by decide) (by decide) (by decide) rfl (by decide) ?_
    refine z_aload_n K d_P_number_33 rfl ?_
    refine zx_gP K ho fd_P_26 rfl d_P_number_34 ?_
    exact z_aret K hr (Or.inl ⟨_, rfl⟩) hlk d_P_number_37 ⟨_, rfl, rfl, rfl⟩
  · refine z_tabIn (tgt := 38) K d_P_number_1 (by decide) (by decide) (by decide) rfl (by decide) ?_
    refine z_aload_n K d_P_number_38 rfl ?_
    refine zx_gP K ho fd_P_20 rfl d_P_number_39 ?_
    exact z_aret K hr (Or.inl ⟨_, rfl⟩) hlk d_P_number_42 ⟨_, rfl, rfl, rfl⟩
  · refine z_tabOut (tgt := 43) K d_P_number_1 (by decide) (by decide) (by decide) ?_
    refine z_aload_n K d_P_number_43 rfl ?_
    refine zx_gP K ho fd_P_29 rfl d_P_number_44 ?_
    exact z_aret K hr (Or.inl ⟨_, rfl⟩) hlk d_P_number_47 ⟨_, rfl, rfl, rfl⟩
set_option maxHeartbeats 4000000 in
set_option maxRecDepth 100000 in
theorem c_X_hasNumber (l : Launch) (G : zG) (b0 : Nat) (h : zH) (a : Nat) (S : xS) {U : Nat → Int} {A : ecE} {pts : Int → ecP} {s0 w : Int} (hX : XS S U A pts) (hs : i32 s0) (hw : i32 w) : xMet l G b0 y_X_hasNumber b_X_hasNumber 3 (some .boolean) 1 20 h a [.ref a, .int (jI s0), .int (jI w)] S (fun r S' => S = S' ∧ ∃ b : Int, r = some (.int (jI b)) ∧ (b = 0 ∨ b = 1) ∧ (b = 1 ↔ (0 ≤ s0 ∧ s0 < 8) ∧ pts s0 ≠ none ∧ 0 ≤ w ∧ w ≤ 3)) :=
  z_met (by decide) (Nat.le_of_ble_eq_true rfl) fun p e s m below meth c K hr hlk hnm => by
  have no : ∀ lv : List (Nat × Value), ¬ ((0 ≤ s0 ∧ s0 < 8) ∧ pts s0 ≠ none ∧ 0 ≤ w ∧ w ≤ 3) → zW p l e (zRm 1 20 0 0) s m ([.ref a, .int (jI s0), .int (jI w)] : List Value).toArray below meth c 3 b0 G 0 0 (MQ below (zQ G b0 (fun r h' => ∃ S' : xS, h' = hx G h a S' ∧ S = S' ∧ ∃ b : Int, r = some (.int (jI b)) ∧ (b = 0 ∨ b = 1) ∧ (b = 1 ↔ (0 ≤ s0 ∧ s0 < 8) ∧ pts s0 ≠ none ∧ 0 ≤ w ∧ w ≤ 3))) ([.ref a, .int (jI s0), .int (jI w)] : List Value).toArray s 0 0 (z_A b0)) (hx G h a S) 32 lv [] := fun lv nv => by
    refine z_iconst (v := jI 0) K d_X_hasNumber_32 rfl ?_
    exact z_zret K hr hlk d_X_hasNumber_33 rfl ⟨_, rfl, rfl, 0, rfl, Or.inl rfl, ⟨fun w => by omega, fun w => absurd w nv⟩⟩
  refine z_iload_n K d_X_hasNumber_0 rfl ?_
  refine z_callS (As := [.int (jI s0)]) K (c_X_isSlot l G b0 h a S hs) ca_X_72 sm_X_isSlot rfl rfl (by decide) (Nat.le_of_ble_eq_true rfl) d_X_hasNumber_1 (fun r h1 hp => ?_)
  obtain ⟨Z, rfl, rfl, b, rfl, c1, c2⟩ := hp
  refine zi_if_eq (tgt := 32) K d_X_hasNumber_4 (by decide) (by omega) (fun hc => no _ (fun w => by have := c2.2 w.1; omega)) (fun hc => ?_)
  have hv := c2.1 (by omega)
  have hP := (hX.2.2.2.2.2 s0 hv.1 hv.2).1
  have hn := hP.nn
  have hz := hP.isn
  refine z_iload_n K d_X_hasNumber_7 rfl ?_
  refine zi_if_lt (tgt := 32) K d_X_hasNumber_8 (by decide) hw (fun hc => no _ (fun q => by omega)) (fun hc => ?_)
  refine z_iload_n K d_X_hasNumber_11 rfl ?_
  refine z_iconst (v := jI 3) K d_X_hasNumber_12 rfl ?_
  refine zi_icmp_gt (tgt := 32) K d_X_hasNumber_13 (by decide) hw (by decide) (fun hc => no _ (fun q => by omega)) (fun hc => ?_)
  refine z_aload_n K d_X_hasNumber_16 rfl ?_
  refine zx_gX K fd_X_57 rfl d_X_hasNumber_17 ?_
  refine z_iload_n K d_X_hasNumber_20 rfl ?_
  refine zx_slot K hv d_X_hasNumber_21 ?_
  refine zx_gP K (sO_P hv.1 hv.2) fd_X_98 rfl d_X_hasNumber_22 ?_
  refine zi_if_ne (tgt := 32) K d_X_hasNumber_25 (by decide) (by show i32 (S.f.nn (sO s0)); omega) (fun hc => no _ (fun q => ?_)) (fun hc => ?_)
  · have hc' : ¬ S.f.nn (sO s0) = 0 := hc
    exact q.2.1 (hz.1 (by omega))
  have hc' : S.f.nn (sO s0) = 0 := hc
  refine z_iconst (v := jI 1) K d_X_hasNumber_28 rfl ?_
  refine z_goto (tgt := 33) K d_X_hasNumber_29 (by decide) ?_
  exact z_zret K hr hlk d_X_hasNumber_33 rfl ⟨_, rfl, rfl, 1, rfl, Or.inr rfl, ⟨fun _ => ⟨hv, fun q => by have := hz.2 q; omega, by omega, by omega⟩, fun _ => rfl⟩⟩
set_option maxHeartbeats 4000000 in
set_option maxRecDepth 100000 in
theorem r_X_digits (l : Launch) (G : zG) (b0 : Nat) (h : zH) (a : Nat) (S : xS) {U : Nat → Int} {A : ecE} {pts : Int → ecP} {s0 w : Int} (hX : XS S U A pts) (hs : i32 s0) (hw : i32 w) : xMet l G b0 y_X_digits b_X_digits 3 (some .int) 2 42 h a [.ref a, .int (jI s0), .int (jI w)] S (fun r S' => S = S' ∧ ((∃ (q : Int × Int × Int) (d : Nat), ((0 ≤ s0 ∧ s0 < 8) ∧ pts s0 = some q ∧ 0 ≤ w ∧ w ≤ 3) ∧ r = some (.int (jI d)) ∧ IsDg (numP q w) d) ∨ ¬ ((0 ≤ s0 ∧ s0 < 8) ∧ pts s0 ≠ none ∧ 0 ≤ w ∧ w ≤ 3) ∧ r = some (.int (jI (-1))))) :=
  z_met (by decide) (Nat.le_of_ble_eq_true rfl) fun p e s m below meth c K hr hlk hnm => by
  refine z_aload_n K d_X_digits_0 rfl ?_
  refine z_iload_n K d_X_digits_1 rfl ?_
  refine z_iload_n K d_X_digits_2 rfl ?_
  refine z_callV (ci := 8) (As := [.int (jI s0), .int (jI w)]) K (c_X_hasNumber l G b0 h a S hX hs hw) ca_X_120 im_X_hasNumber se_X_hasNumber rfl (by decide) (hx_X) rfl rfl (by decide) (Nat.le_of_ble_eq_true rfl) d_X_digits_3 (fun r h1 hp => ?_)
  obtain ⟨Z, rfl, rfl, b, rfl, c1, c2⟩ := hp
  refine zi_if_eq (tgt := 25) K d_X_digits_6 (by decide) (by omega) (fun hc => ?_) (fun hc => ?_)
  · refine z_iconst (v := jI (-1)) K d_X_digits_25 rfl ?_
    exact z_iret K hr hlk d_X_digits_26 ⟨_, rfl, rfl, Or.inr ⟨fun w => by have := c2.2 w; omega, rfl⟩⟩
  obtain ⟨hv, hne, w0, w3⟩ := c2.1 (by omega)
  obtain ⟨q, hq⟩ := Option.ne_none_iff_exists'.1 hne
  have hP0 := sO_P hv.1 hv.2
  have hP := (hX.2.2.2.2.2 s0 hv.1 hv.2).1
  rw [hq] at hP
  obtain ⟨n, vn⟩ := hX.1 _ (nO_N (w := w) hP0)
  rw [nO_v hP] at vn
  refine z_aload_n K d_X_digits_9 rfl ?_
  refine zx_gX K fd_X_57 rfl d_X_digits_10 ?_
  refine z_iload_n K d_X_digits_13 rfl ?_
  refine zx_slot K hv d_X_digits_14 ?_
  refine z_iload_n K d_X_digits_15 rfl ?_
  refine z_callV (ci := 2) (As := [.int (jI w)]) K (c_P_number l G b0 h a S hP0 ⟨w0, w3⟩) ca_X_124 im_P_number se_P_number rfl (by decide) (hx_P hP0) rfl rfl (by decide) (Nat.le_of_ble_eq_true rfl) d_X_digits_16 (fun r h1 hp => ?_)
  obtain ⟨Z, rfl, rfl, rfl⟩ := hp
  refine z_callV (ci := 1) (As := []) K (c_N_digitCount l G b0 h a S (nO_N (w := w) hP0) vn) ca_X_128 im_N_digitCount se_N_digitCount rfl (by decide) (hx_N (nO_N (w := w) hP0)) rfl rfl (by decide) (Nat.le_of_ble_eq_true rfl) d_X_digits_19 (fun r h1 hp => ?_)
  obtain ⟨Z, rfl, rfl, d, rfl, d1, d2⟩ := hp
  refine z_goto (tgt := 26) K d_X_digits_22 (by decide) ?_
  exact z_iret K hr hlk d_X_digits_26 ⟨_, rfl, rfl, Or.inl ⟨q, d, ⟨hv, hq, w0, w3⟩, rfl, d1⟩⟩
set_option maxHeartbeats 4000000 in
set_option maxRecDepth 100000 in
theorem r_X_sign (l : Launch) (G : zG) (b0 : Nat) (h : zH) (a : Nat) (S : xS) {U : Nat → Int} {A : ecE} {pts : Int → ecP} {s0 w : Int} (hX : XS S U A pts) (hs : i32 s0) (hw : i32 w) : xMet l G b0 y_X_sign b_X_sign 4 (some .int) 2 42 h a [.ref a, .int (jI s0), .int (jI w)] S (fun r S' => S = S' ∧ ((∃ q : Int × Int × Int, ((0 ≤ s0 ∧ s0 < 8) ∧ pts s0 = some q ∧ 0 ≤ w ∧ w ≤ 3) ∧ r = some (.int (jI ((numP q w).sign + 1)))) ∨ ¬ ((0 ≤ s0 ∧ s0 < 8) ∧ pts s0 ≠ none ∧ 0 ≤ w ∧ w ≤ 3) ∧ r = some (.int (jI (-1))))) :=
  z_met (by decide) (Nat.le_of_ble_eq_true rfl) fun p e s m below meth c K hr hlk hnm => by
  refine z_aload_n K d_X_sign_0 rfl ?_
  refine z_iload_n K d_X_sign_1 rfl ?_
  refine z_iload_n K d_X_sign_2 rfl ?_
  refine z_callV (ci := 8) (As := [.int (jI s0), .int (jI w)]) K (c_X_hasNumber l G b0 h a S hX hs hw) ca_X_120 im_X_hasNumber se_X_hasNumber rfl (by decide) (hx_X) rfl rfl (by decide) (Nat.le_of_ble_eq_true rfl) d_X_sign_3 (fun r h1 hp => ?_)
  obtain ⟨Z, rfl, rfl, b, rfl, c1, c2⟩ := hp
  refine zi_if_ne (tgt := 11) K d_X_sign_6 (by decide) (by omega) (fun hc => ?_) (fun hc => ?_)
  rotate_left
  · refine z_iconst (v := jI (-1)) K d_X_sign_9 rfl ?_
    exact z_iret K hr hlk d_X_sign_10 ⟨_, rfl, rfl, Or.inr ⟨fun w => by have := c2.2 w; omega, rfl⟩⟩
  obtain ⟨hv, hne, w0, w3⟩ := c2.1 (by omega)
  obtain ⟨q, hq⟩ := Option.ne_none_iff_exists'.1 hne
  have hP0 := sO_P hv.1 hv.2
  have hP := (hX.2.2.2.2.2 s0 hv.1 hv.2).1
  rw [hq] at hP
  have hN0 := nO_N (w := w) hP0
  obtain ⟨n, vn⟩ := hX.1 _ hN0
  rw [nO_v hP] at vn
  have hB := vn.2.2.2.2.1
  refine z_aload_n K d_X_sign_11 rfl ?_
  refine zx_gX K fd_X_57 rfl d_X_sign_12 ?_
  refine z_iload_n K d_X_sign_15 rfl ?_
  refine zx_slot K hv d_X_sign_16 ?_
  refine z_iload_n K d_X_sign_17 rfl ?_
  refine z_callV (ci := 2) (As := [.int (jI w)]) K (c_P_number l G b0 h a S hP0 ⟨w0, w3⟩) ca_X_124 im_P_number se_P_number rfl (by decide) (hx_P hP0) rfl rfl (by decide) (Nat.le_of_ble_eq_true rfl) d_X_sign_18 (fun r h1 hp => ?_)
  obtain ⟨Z, rfl, rfl, rfl⟩ := hp
  refine z_astore_n K d_X_sign_21 (by decide) ?_
  refine z_aload_n K d_X_sign_22 rfl ?_
  refine z_callV (ci := 1) (As := []) K (c_N_isZero l G b0 h a S hN0 vn) ca_X_136 im_N_isZero se_N_isZero rfl (by decide) (hx_N hN0) rfl rfl (by decide) (Nat.le_of_ble_eq_true rfl) d_X_sign_23 (fun r h1 hp => ?_)
  obtain ⟨Z, rfl, rfl, b4, rfl, c3, c4⟩ := hp
  refine zi_if_eq (tgt := 31) K d_X_sign_26 (by decide) (by omega) (fun hc2 => ?_) (fun hc2 => ?_)
  rotate_left
  · have v0 := c4.1 (by omega)
    refine z_iconst (v := jI 1) K d_X_sign_29 rfl ?_
    exact z_iret K hr hlk d_X_sign_30 ⟨_, rfl, rfl, Or.inl ⟨q, ⟨hv, hq, w0, w3⟩, by rw [v0]; rfl⟩⟩
  have v0 : numP q w ≠ 0 := fun w => by have := c4.2 w; omega
  refine z_aload_n K d_X_sign_31 rfl ?_
  refine zx_gN K hN0 fd_X_140 rfl d_X_sign_32 ?_
  rw [hB]
  by_cases ng : numP q w < 0
  · rw [if_pos ng]
    refine zi_if_eq (tgt := 42) K d_X_sign_35 (by decide) (by decide) (fun hc3 => absurd hc3 (by decide)) (fun hc3 => ?_)
    refine z_iconst (v := jI 0) K d_X_sign_38 rfl ?_
    refine z_goto (tgt := 43) K d_X_sign_39 (by decide) ?_
    exact z_iret K hr hlk d_X_sign_43 ⟨_, rfl, rfl, Or.inl ⟨q, ⟨hv, hq, w0, w3⟩, by rw [Int.sign_eq_neg_one_of_neg ng]; rfl⟩⟩
  · rw [if_neg ng]
    refine zi_if_eq (tgt := 42) K d_X_sign_35 (by decide) (by decide) (fun hc3 => ?_) (fun hc3 => absurd rfl hc3)
    refine z_iconst (v := jI 2) K d_X_sign_42 rfl ?_
    exact z_iret K hr hlk d_X_sign_43 ⟨_, rfl, rfl, Or.inl ⟨q, ⟨hv, hq, w0, w3⟩, by rw [Int.sign_eq_one_of_pos (by omega)]; rfl⟩⟩
set_option maxHeartbeats 4000000 in
set_option maxRecDepth 100000 in
theorem c_N_digitAbove0 (l : Launch) (G : zG) (b0 : Nat) (h : zH) (a : Nat) (S : xS) {k : Nat} (hk : isN k = true) (hv : NR S k 0 0) : xMet l G b0 y_N_digitAbove b_N_digitAbove 2 (some .int) 1 21 h a [.ref (a + k), .int (jI 0)] S (fun o S' => S = S' ∧ o = some (.int (jI 0))) :=
  z_met (by decide) (Nat.le_of_ble_eq_true rfl) fun p e s m below meth c K hr hlk hnm => by
  obtain ⟨t, hZ⟩ := K.pw
  refine z_iload_n K d_N_digitAbove_0 rfl ?_
  refine zi_if_ge (tgt := 6) K d_N_digitAbove_1 (by decide) (by decide) (fun hc => ?_) (fun hc => absurd hc (by decide))
  refine z_aload_n K d_N_digitAbove_6 rfl ?_
  refine z_iload_n K d_N_digitAbove_7 rfl ?_
  refine z_bipush (v := jI 9) K d_N_digitAbove_8 rfl ?_
  refine zi_idiv K d_N_digitAbove_10 (by decide) (by decide) (by decide) ?_
  refine z_callV (ci := 1) (As := [.int (jI 0)]) K (c_N_limb l G b0 h a S (i := 0) hk hv.1 hv.2.1 (by decide)) ca_N_44 im_N_limb se_N_limb rfl (by decide) (hx_N hk) rfl rfl (by decide) (Nat.le_of_ble_eq_true rfl) d_N_digitAbove_11 (fun o h1 hp => ?_)
  obtain ⟨S1, rfl, rfl, rfl⟩ := hp
  rw [lb, if_neg (by decide)]
  refine z_gets K hZ gs_N d_N_digitAbove_14 ?_
  refine z_iload_n K d_N_digitAbove_17 rfl ?_
  refine z_bipush (v := jI 9) K d_N_digitAbove_18 rfl ?_
  refine zi_irem K d_N_digitAbove_20 (by decide) (by decide) (by decide) ?_
  refine z_tald (j := 0) K hZ (by decide) d_N_digitAbove_21 ?_
  refine zi_idiv (y := 1) K d_N_digitAbove_22 (by decide) (by decide) (by decide) ?_
  refine z_bipush (v := jI 10) K d_N_digitAbove_23 rfl ?_
  refine zi_irem K d_N_digitAbove_25 (by decide) (by decide) (by decide) ?_
  exact z_iret K hr hlk d_N_digitAbove_26 ⟨_, rfl, rfl, rfl⟩
set_option maxHeartbeats 4000000 in
set_option maxRecDepth 100000 in
theorem r_X_digitAt (l : Launch) (G : zG) (b0 : Nat) (h : zH) (a : Nat) (S : xS) {U : Nat → Int} {A : ecE} {pts : Int → ecP} {s0 w i : Int} (hX : XS S U A pts) (hs : i32 s0) (hw : i32 w) (hi : i32 i) : xMet l G b0 y_X_digitAt b_X_digitAt 6 (some .int) 2 42 h a [.ref a, .int (jI s0), .int (jI w), .int (jI i)] S (fun r S' => S = S' ∧ ((∃ (q : Int × Int × Int) (d : Nat), ((0 ≤ s0 ∧ s0 < 8) ∧ pts s0 = some q ∧ 0 ≤ w ∧ w ≤ 3) ∧ IsDg (numP q w) d ∧ (0 ≤ i ∧ i < d ∧ r = some (.int (jI (digN (numP q w).natAbs d i.toNat : Nat))) ∨ ¬ (0 ≤ i ∧ i < d) ∧ r = some (.int (jI (-1))))) ∨ ¬ ((0 ≤ s0 ∧ s0 < 8) ∧ pts s0 ≠ none ∧ 0 ≤ w ∧ w ≤ 3) ∧ r = some (.int (jI (-1))))) :=
  z_met (by decide) (Nat.le_of_ble_eq_true rfl) fun p e s m below meth c K hr hlk hnm => by
  refine z_aload_n K d_X_digitAt_0 rfl ?_
  refine z_iload_n K d_X_digitAt_1 rfl ?_
  refine z_iload_n K d_X_digitAt_2 rfl ?_
  refine z_callV (ci := 8) (As := [.int (jI s0), .int (jI w)]) K (c_X_hasNumber l G b0 h a S hX hs hw) ca_X_120 im_X_hasNumber se_X_hasNumber rfl (by decide) (hx_X) rfl rfl (by decide) (Nat.le_of_ble_eq_true rfl) d_X_digitAt_3 (fun r h1 hp => ?_)
  obtain ⟨Z, rfl, rfl, b, rfl, c1, c2⟩ := hp
  refine zi_if_ne (tgt := 11) K d_X_digitAt_6 (by decide) (by omega) (fun hc => ?_) (fun hc => ?_)
  rotate_left
  · refine z_iconst (v := jI (-1)) K d_X_digitAt_9 rfl ?_
    exact z_iret K hr hlk d_X_digitAt_10 ⟨_, rfl, rfl, Or.inr ⟨fun w => by have := c2.2 w; omega, rfl⟩⟩
  obtain ⟨hv, hne, w0, w3⟩ := c2.1 (by omega)
  obtain ⟨q, hq⟩ := Option.ne_none_iff_exists'.1 hne
  have hP0 := sO_P hv.1 hv.2
  have hP := (hX.2.2.2.2.2 s0 hv.1 hv.2).1
  rw [hq] at hP
  have hN0 := nO_N (w := w) hP0
  obtain ⟨n, vn⟩ := hX.1 _ hN0
  rw [nO_v hP] at vn
  refine z_aload_n K d_X_digitAt_11 rfl ?_
  refine zx_gX K fd_X_57 rfl d_X_digitAt_12 ?_
  refine z_iload_n K d_X_digitAt_15 rfl ?_
  refine zx_slot K hv d_X_digitAt_16 ?_
  refine z_iload_n K d_X_digitAt_17 rfl ?_
  refine z_callV (ci := 2) (As := [.int (jI w)]) K (c_P_number l G b0 h a S hP0 ⟨w0, w3⟩) ca_X_124 im_P_number se_P_number rfl (by decide) (hx_P hP0) rfl rfl (by decide) (Nat.le_of_ble_eq_true rfl) d_X_digitAt_18 (fun r h1 hp => ?_)
  obtain ⟨Z, rfl, rfl, rfl⟩ := hp
  refine z_astore K d_X_digitAt_21 (by decide) ?_
  refine z_aload K d_X_digitAt_23 rfl ?_
  refine z_callV (ci := 1) (As := []) K (c_N_digitCount l G b0 h a S hN0 vn) ca_X_128 im_N_digitCount se_N_digitCount rfl (by decide) (hx_N hN0) rfl rfl (by decide) (Nat.le_of_ble_eq_true rfl) d_X_digitAt_25 (fun r h1 hp => ?_)
  obtain ⟨Z, rfl, rfl, d, rfl, d1, d2⟩ := hp
  have d0 := d1.1
  refine z_istore K d_X_digitAt_28 (by decide) ?_
  refine z_iload_n K d_X_digitAt_30 rfl ?_
  refine zi_if_lt (tgt := 40) K d_X_digitAt_31 (by decide) hi (fun hc2 => ?_) (fun hc2 => ?_)
  · refine z_iconst (v := jI (-1)) K d_X_digitAt_40 rfl ?_
    refine z_goto (tgt := 55) K d_X_digitAt_41 (by decide) ?_
    exact z_iret K hr hlk d_X_digitAt_55 ⟨_, rfl, rfl, Or.inl ⟨q, d, ⟨hv, hq, w0, w3⟩, d1, Or.inr ⟨by omega, rfl⟩⟩⟩
  refine z_iload_n K d_X_digitAt_34 rfl ?_
  refine z_iload K d_X_digitAt_35 rfl ?_
  refine zi_icmp_lt (tgt := 44) K d_X_digitAt_37 (by decide) hi (by omega) (fun hc3 => ?_) (fun hc3 => ?_)
  rotate_left
  · refine z_iconst (v := jI (-1)) K d_X_digitAt_40 rfl ?_
    refine z_goto (tgt := 55) K d_X_digitAt_41 (by decide) ?_
    exact z_iret K hr hlk d_X_digitAt_55 ⟨_, rfl, rfl, Or.inl ⟨q, d, ⟨hv, hq, w0, w3⟩, d1, Or.inr ⟨by omega, rfl⟩⟩⟩
  refine z_aload K d_X_digitAt_44 rfl ?_
  refine z_iload K d_X_digitAt_46 rfl ?_
  refine z_iconst (v := jI 1) K d_X_digitAt_48 rfl ?_
  refine zi_isub K d_X_digitAt_49 ?_
  refine z_iload_n K d_X_digitAt_50 rfl ?_
  refine zi_isub K d_X_digitAt_51 ?_
  rw [show (d : Int) - 1 - i = ((d - 1 - i.toNat : Nat) : Int) by omega]
  by_cases v0 : numP q w = 0
  · have e1 : d = 1 := by
      rcases d1.2.2 with z | z
      · exact z
      · rw [v0] at z
        have := Nat.pow_pos (n := d - 1) (show 0 < 10 by decide)
        simp at z
    have e2 : d - 1 - i.toNat = 0 := by omega
    rw [e2]
    have n0 := vn.zero.2 v0
    rw [n0, v0] at vn
    refine z_callV (ci := 1) (As := [.int (jI 0)]) K (c_N_digitAbove0 l G b0 h a S hN0 vn) ca_X_132 im_N_digitAbove se_N_digitAbove rfl (by decide) (hx_N hN0) rfl rfl (by decide) (Nat.le_of_ble_eq_true rfl) d_X_digitAt_52 (fun r h1 hp => ?_)
    obtain ⟨Z, rfl, rfl, rfl⟩ := hp
    exact z_iret K hr hlk d_X_digitAt_55 ⟨_, rfl, rfl, Or.inl ⟨q, d, ⟨hv, hq, w0, w3⟩, d1, Or.inl ⟨by omega, by omega, by rw [v0]; unfold digN; simp⟩⟩⟩
  · have rm := dg_room vn d1 v0
    refine z_callV (ci := 1) (As := [.int (jI ((d - 1 - i.toNat : Nat) : Int))]) K (c_N_digitAbove l G b0 h a S (fr := d - 1 - i.toNat) hN0 vn (by omega)) ca_X_132 im_N_digitAbove se_N_digitAbove rfl (by decide) (hx_N hN0) rfl rfl (by decide) (Nat.le_of_ble_eq_true rfl) d_X_digitAt_52 (fun r h1 hp => ?_)
    obtain ⟨Z, rfl, rfl, rfl⟩ := hp
    exact z_iret K hr hlk d_X_digitAt_55 ⟨_, rfl, rfl, Or.inl ⟨q, d, ⟨hv, hq, w0, w3⟩, d1, Or.inl ⟨by omega, by omega, rfl⟩⟩⟩
end X6
