/-! the program's slots -/
def sO (i : Int) : Nat := 109 + 11 * i.toNat
theorem sO_P {i : Int} (h0 : 0 ≤ i) (h8 : i < 8) : isP (sO i) = true := by
  have key : ∀ k : Nat, k < 8 → isP (109 + 11 * k) = true := by decide
  exact key i.toNat (by omega)
theorem sO_ne {i j : Int} (h0 : 0 ≤ i) (j0 : 0 ≤ j) (h : i ≠ j) : sO i ≠ sO j := by unfold sO; omega
def XS (S : xS) (U : Nat → Int) (A : ecE) (pts : Int → ecP) : Prop := VX S U ∧ pm S.f ∧ U 10 = 2 ∧ EQ U A ∧ ecOk A ∧ ∀ i : Int, 0 ≤ i → i < 8 → PT S U (sO i) (pts i) ∧ slP A (pts i)
theorem XS.fr {S S' : xS} {U U' : Nat → Int} {A : ecE} {pts : Int → ecP} (h : XS S U A pts) (hV : VX S' U') (hp : pm S'.f) (h10 : U' 10 = U 10) (hu : ∀ j : Nat, (19 ≤ j ∧ j < 38) ∨ 109 ≤ j → U' j = U j) (hn : ∀ j : Nat, 109 ≤ j → S'.f.nn j = S.f.nn j) : XS S' U' A pts :=
  ⟨hV, hp, h10.trans h.2.2.1, h.2.2.2.1.fr (fun j j1 j2 => hu j (by omega)), h.2.2.2.2.1, fun i i0 i8 => ⟨(h.2.2.2.2.2 i i0 i8).1.fr (hn _ (by unfold sO; omega)) (fun k hk => hu _ (by unfold sO; omega)), (h.2.2.2.2.2 i i0 i8).2⟩⟩
theorem XS.jfr {oo : Nat} {S S' : xS} {U U' : Nat → Int} {A : ecE} {pts : Int → ecP} (h : XS S U A pts) (ho : 75 ≤ oo ∧ oo < 98) (hV : VX S' U') (hp : pm S'.f) (hj : jfr oo S S' U U') : XS S' U' A pts :=
  h.fr hV hp (hj.1 10 (by omega) (by omega) (by omega) (by omega) (by omega) (by omega) (by omega) (by omega) (by omega) (by omega) (by omega)) (fun j j1 => hj.1 j (by omega) (by omega) (by omega) (by omega) (by omega) (by omega) (by omega) (by omega) (by omega) (by omega) (by omega)) (fun j j1 => hj.2 j (by omega))
section X1
variable {p : Program} {l : Launch} {e : Env} {R : Room} {s : State} {m : MethodId} {args : Array Value} {below : List Frame} {meth : Method} {c : Code} {Q : State → Prop} {b0 kc ks : Nat} {G : zG} {h : zH} {a : Nat} {cd : Int}
theorem zx_slot {cc : ByteArray} {own : String} {nL pc : Nat} {lv : List (Nat × Value)} {st : List Value} {S : xS} (K : zC p s m args c cc own nL b0 G) {i : Int} (hi : 0 ≤ i ∧ i < 8) (hd : decode cc pc = .ok (.aaload, 1)) (kk : zW p l e R s m args below meth c nL b0 G kc ks Q (hx G h a S) (pc + 1) lv (.ref (a + sO i) :: st)) : zW p l e R s m args below meth c nL b0 G kc ks Q (hx G h a S) pc lv (.int (jI i) :: .ref (a + 108) :: st) := by
  refine z_aald (t0 := 2) K hx_V rfl (jI_in hi.1 hi.2 (by decide)) hd ?_
  rw [jI_clamp hi.1 (by omega), if_pos (by omega)]
  exact kk
set_option maxHeartbeats 4000000 in
set_option maxRecDepth 100000 in
theorem c_X_isSlot (l : Launch) (G : zG) (b0 : Nat) (h : zH) (a : Nat) (S : xS) {i : Int} (hi : i32 i) : xMet l G b0 y_X_isSlot b_X_isSlot 1 (some .boolean) 0 0 h a [.int (jI i)] S (fun r S' => S = S' ∧ ∃ b : Int, r = some (.int (jI b)) ∧ (b = 0 ∨ b = 1) ∧ (b = 1 ↔ 0 ≤ i ∧ i < 8)) :=
  z_met (by decide) (Nat.le_of_ble_eq_true rfl) fun p e s m below meth c K hr hlk hnm => by
  refine z_iload_n K d_X_isSlot_0 rfl ?_
  refine zi_if_lt (tgt := 14) K d_X_isSlot_1 (by decide) hi (fun hc => ?_) (fun hc => ?_)
  · refine z_iconst (v := jI 0) K d_X_isSlot_14 rfl ?_
    exact z_zret K hr hlk d_X_isSlot_15 rfl ⟨_, rfl, rfl, 0, rfl, Or.inl rfl, by omega⟩
  refine z_iload_n K d_X_isSlot_4 rfl ?_
  refine z_bipush (v := jI 8) K d_X_isSlot_5 rfl ?_
  refine zi_icmp_ge (tgt := 14) K d_X_isSlot_7 (by decide) hi (by decide) (fun hc2 => ?_) (fun hc2 => ?_)
  · refine z_iconst (v := jI 0) K d_X_isSlot_14 rfl ?_
    exact z_zret K hr hlk d_X_isSlot_15 rfl ⟨_, rfl, rfl, 0, rfl, Or.inl rfl, by omega⟩
  · refine z_iconst (v := jI 1) K d_X_isSlot_10 rfl ?_
    refine z_goto (tgt := 15) K d_X_isSlot_11 (by decide) ?_
    exact z_zret K hr hlk d_X_isSlot_15 rfl ⟨_, rfl, rfl, 1, rfl, Or.inr rfl, by omega⟩
set_option maxHeartbeats 4000000 in
set_option maxRecDepth 100000 in
theorem r_X_isNone (l : Launch) (G : zG) (b0 : Nat) (h : zH) (a : Nat) (S : xS) {U : Nat → Int} {A : ecE} {pts : Int → ecP} {s0 : Int} (hX : XS S U A pts) (hs : i32 s0) : xMet l G b0 y_X_isNone b_X_isNone 2 (some .boolean) 1 20 h a [.ref a, .int (jI s0)] S (fun r S' => S = S' ∧ ∃ b : Int, r = some (.int (jI b)) ∧ (b = 0 ∨ b = 1) ∧ (b = 1 ↔ (0 ≤ s0 ∧ s0 < 8) ∧ pts s0 = none)) :=
  z_met (by decide) (Nat.le_of_ble_eq_true rfl) fun p e s m below meth c K hr hlk hnm => by
  refine z_iload_n K d_X_isNone_0 rfl ?_
  refine z_callS (As := [.int (jI s0)]) K (c_X_isSlot l G b0 h a S hs) ca_X_72 sm_X_isSlot rfl rfl (by decide) (Nat.le_of_ble_eq_true rfl) d_X_isNone_1 (fun r h1 hp => ?_)
  obtain ⟨S1, rfl, rfl, b, rfl, c1, c2⟩ := hp
  refine zi_if_eq (tgt := 23) K d_X_isNone_4 (by decide) (by omega) (fun hc => ?_) (fun hc => ?_)
  · refine z_iconst (v := jI 0) K d_X_isNone_23 rfl ?_
    exact z_zret K hr hlk d_X_isNone_24 rfl ⟨_, rfl, rfl, 0, rfl, Or.inl rfl, ⟨fun w => by omega, fun w => by have := c2.2 w.1; omega⟩⟩
  have hv := c2.1 (by omega)
  have hP := (hX.2.2.2.2.2 s0 hv.1 hv.2).1
  have hn := hP.nn
  have hz := hP.isn
  refine z_aload_n K d_X_isNone_7 rfl ?_
  refine zx_gX K fd_X_57 rfl d_X_isNone_8 ?_
  refine z_iload_n K d_X_isNone_11 rfl ?_
  refine zx_slot K hv d_X_isNone_12 ?_
  refine zx_gP K (sO_P hv.1 hv.2) fd_X_98 rfl d_X_isNone_13 ?_
  refine zi_if_eq (tgt := 23) K d_X_isNone_16 (by decide) (by show i32 (S.f.nn (sO s0)); omega) (fun hc2 => ?_) (fun hc2 => ?_)
  · have hc2' : S.f.nn (sO s0) = 0 := hc2
    refine z_iconst (v := jI 0) K d_X_isNone_23 rfl ?_
    exact z_zret K hr hlk d_X_isNone_24 rfl ⟨_, rfl, rfl, 0, rfl, Or.inl rfl, ⟨fun w => by omega, fun w => by have := hz.2 w.2; omega⟩⟩
  · have hc2' : ¬ S.f.nn (sO s0) = 0 := hc2
    refine z_iconst (v := jI 1) K d_X_isNone_19 rfl ?_
    refine z_goto (tgt := 24) K d_X_isNone_20 (by decide) ?_
    exact z_zret K hr hlk d_X_isNone_24 rfl ⟨_, rfl, rfl, 1, rfl, Or.inr rfl, ⟨fun _ => ⟨hv, hz.1 (by omega)⟩, fun _ => rfl⟩⟩
theorem XS.none {S : xS} {U : Nat → Int} {A : ecE} {pts : Int → ecP} {s0 : Int} (hX : XS S U A pts) (h0 : 0 ≤ s0) (h8 : s0 < 8) : XS (S.sf (S.f.snn (nu S.f.nn (sO s0) 1))) U A (fun i => if i = s0 then Option.none else pts i) := by
  obtain ⟨x1, x2, x3, x4, x5, x6⟩ := hX
  refine ⟨x1, x2, x3, x4, x5, fun i i0 i8 => ?_⟩
  by_cases e : i = s0
  · subst e
    dsimp only
    rw [if_pos rfl]
    exact ⟨nu_self _ _ _, trivial, fun q => q⟩
  · dsimp only
    rw [if_neg e]
    exact ⟨(x6 i i0 i8).1.fr (nu_ne _ _ (sO_ne i0 h0 e)) (fun _ _ => rfl), (x6 i i0 i8).2⟩
set_option maxHeartbeats 4000000 in
set_option maxRecDepth 100000 in
theorem r_X_none (l : Launch) (G : zG) (b0 : Nat) (h : zH) (a : Nat) (S : xS) {U : Nat → Int} {A : ecE} {pts : Int → ecP} {s0 : Int} (hX : XS S U A pts) (hs : i32 s0) : xMet l G b0 y_X_none b_X_none 2 (some .boolean) 1 20 h a [.ref a, .int (jI s0)] S (fun r S' => (0 ≤ s0 ∧ s0 < 8) ∧ r = some (.int (jI 1)) ∧ XS S' U A (fun i => if i = s0 then Option.none else pts i) ∨ ¬ (0 ≤ s0 ∧ s0 < 8) ∧ r = some (.int (jI 0)) ∧ S = S') :=
  z_met (by decide) (Nat.le_of_ble_eq_true rfl) fun p e s m below meth c K hr hlk hnm => by
  refine z_iload_n K d_X_none_0 rfl ?_
  refine z_callS (As := [.int (jI s0)]) K (c_X_isSlot l G b0 h a S hs) ca_X_72 sm_X_isSlot rfl rfl (by decide) (Nat.le_of_ble_eq_true rfl) d_X_none_1 (fun r h1 hp => ?_)
  obtain ⟨S1, rfl, rfl, b, rfl, c1, c2⟩ := hp
  refine zi_if_ne (tgt := 9) K d_X_none_4 (by decide) (by omega) (fun hc => ?_) (fun hc => ?_)
  rotate_left
  · refine z_iconst (v := jI 0) K d_X_none_7 rfl ?_
    exact z_zret K hr hlk d_X_none_8 rfl ⟨_, rfl, Or.inr ⟨fun w => by have := c2.2 w; omega, rfl, rfl⟩⟩
  have hv := c2.1 (by omega)
  refine z_aload_n K d_X_none_9 rfl ?_
  refine zx_gX K fd_X_57 rfl d_X_none_10 ?_
  refine z_iload_n K d_X_none_13 rfl ?_
  refine zx_slot K hv d_X_none_14 ?_
  refine z_callV (ci := 2) (As := []) K (c_P_becomeNone l G b0 h a S (sO_P hv.1 hv.2)) ca_X_69 im_P_becomeNone se_P_becomeNone rfl (by decide) (hx_P (sO_P hv.1 hv.2)) rfl rfl (by decide) (Nat.le_of_ble_eq_true rfl) d_X_none_15 (fun r h1 hp => ?_)
  obtain ⟨S1, rfl, rfl, rfl⟩ := hp
  refine z_iconst (v := jI 1) K d_X_none_18 rfl ?_
  exact z_zret K hr hlk d_X_none_19 rfl ⟨_, rfl, Or.inl ⟨hv, rfl, hX.none hv.1 hv.2⟩⟩
set_option maxHeartbeats 4000000 in
set_option maxRecDepth 100000 in
theorem r_X_same (l : Launch) (G : zG) (b0 : Nat) (h : zH) (a : Nat) (S : xS) {U : Nat → Int} {A : ecE} {pts : Int → ecP} {s0 s1 : Int} (hX : XS S U A pts) (hs : i32 s0) (hs1 : i32 s1) : xMet l G b0 y_X_same b_X_same 3 (some .boolean) 3 64 h a [.ref a, .int (jI s0), .int (jI s1)] S (fun r S' => S = S' ∧ ∃ b : Int, r = some (.int (jI b)) ∧ (b = 0 ∨ b = 1) ∧ (b = 1 ↔ (0 ≤ s0 ∧ s0 < 8) ∧ (0 ≤ s1 ∧ s1 < 8) ∧ pts s0 = pts s1)) :=
  z_met (by decide) (Nat.le_of_ble_eq_true rfl) fun p e s m below meth c K hr hlk hnm => by
  refine z_iload_n K d_X_same_0 rfl ?_
  refine z_callS (As := [.int (jI s0)]) K (c_X_isSlot l G b0 h a S hs) ca_X_72 sm_X_isSlot rfl rfl (by decide) (Nat.le_of_ble_eq_true rfl) d_X_same_1 (fun r h1 hp => ?_)
  obtain ⟨S1, rfl, rfl, b, rfl, c1, c2⟩ := hp
  refine zi_if_eq (tgt := 36) K d_X_same_4 (by decide) (by omega) (fun hc => ?_) (fun hc => ?_)
  · refine z_iconst (v := jI 0) K d_X_same_36 rfl ?_
    exact z_zret K hr hlk d_X_same_37 rfl ⟨_, rfl, rfl, 0, rfl, Or.inl rfl, ⟨fun w => by omega, fun w => by have := c2.2 w.1; omega⟩⟩
  have hv := c2.1 (by omega)
  refine z_iload_n K d_X_same_7 rfl ?_
  refine z_callS (As := [.int (jI s1)]) K (c_X_isSlot l G b0 h a S hs1) ca_X_72 sm_X_isSlot rfl rfl (by decide) (Nat.le_of_ble_eq_true rfl) d_X_same_8 (fun r h1 hp => ?_)
  obtain ⟨S1, rfl, rfl, b', rfl, c3, c4⟩ := hp
  refine zi_if_eq (tgt := 36) K d_X_same_11 (by decide) (by omega) (fun hc => ?_) (fun hc => ?_)
  · refine z_iconst (v := jI 0) K d_X_same_36 rfl ?_
    exact z_zret K hr hlk d_X_same_37 rfl ⟨_, rfl, rfl, 0, rfl, Or.inl rfl, ⟨fun w => by omega, fun w => by have := c4.2 w.2.1; omega⟩⟩
  have hv1 := c4.1 (by omega)
  refine z_aload_n K d_X_same_14 rfl ?_
  refine zx_gX K fd_X_57 rfl d_X_same_15 ?_
  refine z_iload_n K d_X_same_18 rfl ?_
  refine zx_slot K hv d_X_same_19 ?_
  refine z_aload_n K d_X_same_20 rfl ?_
  refine zx_gX K fd_X_57 rfl d_X_same_21 ?_
  refine z_iload_n K d_X_same_24 rfl ?_
  refine zx_slot K hv1 d_X_same_25 ?_
  refine z_callV (ci := 2) (As := [.ref (a + sO s1)]) K (c_P_isLike l G b0 h a S hX.1 (sO_P hv.1 hv.2) (sO_P hv1.1 hv1.2) (hX.2.2.2.2.2 s0 hv.1 hv.2).1 (hX.2.2.2.2.2 s1 hv1.1 hv1.2).1) ca_X_116 im_P_isLike se_P_isLike rfl (by decide) (hx_P (sO_P hv.1 hv.2)) rfl rfl (by decide) (Nat.le_of_ble_eq_true rfl) d_X_same_26 (fun r h1 hp => ?_)
  obtain ⟨S1, rfl, rfl, b9, rfl, c5, c6⟩ := hp
  refine zi_if_eq (tgt := 36) K d_X_same_29 (by decide) (by omega) (fun hc => ?_) (fun hc => ?_)
  · refine z_iconst (v := jI 0) K d_X_same_36 rfl ?_
    exact z_zret K hr hlk d_X_same_37 rfl ⟨_, rfl, rfl, 0, rfl, Or.inl rfl, ⟨fun w => by omega, fun w => by have := c6.2 w.2.2; omega⟩⟩
  · refine z_iconst (v := jI 1) K d_X_same_32 rfl ?_
    refine z_goto (tgt := 37) K d_X_same_33 (by decide) ?_
    exact z_zret K hr hlk d_X_same_37 rfl ⟨_, rfl, rfl, 1, rfl, Or.inr rfl, ⟨fun _ => ⟨hv, hv1, c6.1 (by omega)⟩, fun _ => rfl⟩⟩
set_option maxHeartbeats 4000000 in
set_option maxRecDepth 100000 in
/-- keep: into a slot, where it isn't too long -/
theorem c_X_keep (l : Launch) (G : zG) (b0 : Nat) (h : zH) (a : Nat) (S : xS) {U : Nat → Int} {A : ecE} {pts : Int → ecP} {t0 : Int} {J : ecP} (hX : XS S U A pts) (ht : 0 ≤ t0 ∧ t0 < 8) (hJ : PT S U 75 J) (onJ : ecOn A J) : xMet l G b0 y_X_keep b_X_keep 3 (some .int) 4 83 h a [.ref a, .ref (a + 75), .int (jI t0)] S (fun r S' => (tlP J ∧ r = some (.int (jI 0)) ∧ ∃ U', XS S' U' A pts) ∨ (¬ tlP J ∧ r = some (.int (jI 1)) ∧ ∃ U', XS S' U' A (fun i => if i = t0 then J else pts i))) :=
  z_met (by decide) (Nat.le_of_ble_eq_true rfl) fun p e s m below meth c K hr hlk hnm => by
  have hP0 := sO_P ht.1 ht.2
  have hne : sO t0 ≠ 75 := by unfold sO; omega
  refine z_aload_n K d_X_keep_0 rfl ?_
  refine z_bipush (v := jI 120) K d_X_keep_1 rfl ?_
  refine z_callV (ci := 2) (As := [.int (jI 120)]) K (c_P_isLongerThan l G b0 h a S (o := 75) (A := A) hX.1 rfl hJ onJ) ca_X_145 im_P_isLongerThan se_P_isLongerThan rfl (by decide) (hx_P (by rfl)) rfl rfl (by decide) (Nat.le_of_ble_eq_true rfl) d_X_keep_3 (fun r h1 hp => ?_)
  obtain ⟨S1, rfl, rfl, b, rfl, c1, c2⟩ := hp
  refine zi_if_eq (tgt := 11) K d_X_keep_6 (by decide) (by omega) (fun hc => ?_) (fun hc => ?_)
  rotate_left
  · refine z_iconst (v := jI 0) K d_X_keep_9 rfl ?_
    exact z_iret K hr hlk d_X_keep_10 ⟨_, rfl, Or.inl ⟨c2.1 (by omega), rfl, U, hX⟩⟩
  have ntl : ¬ tlP J := fun w => by have := c2.2 w; omega
  refine z_aload_n K d_X_keep_11 rfl ?_
  refine zx_gX K fd_X_57 rfl d_X_keep_12 ?_
  refine z_iload_n K d_X_keep_15 rfl ?_
  refine zx_slot K ht d_X_keep_16 ?_
  refine z_aload_n K d_X_keep_17 rfl ?_
  refine z_callV (ci := 2) (As := [.ref (a + 75)]) K (c_P_become l G b0 h a S (o := sO t0) (q := 75) hX.1 hP0 rfl hne hJ) ca_X_87 im_P_become se_P_become rfl (by decide) (hx_P hP0) rfl rfl (by decide) (Nat.le_of_ble_eq_true rfl) d_X_keep_18 (fun r h1 hp => ?_)
  obtain ⟨S1, rfl, rfl, U1, hV1, t1, fr1, f1⟩ := hp
  refine z_iconst (v := jI 1) K d_X_keep_21 rfl ?_
  obtain ⟨x1, x2, x3, x4, x5, x6⟩ := hX
  have o109 : 109 ≤ sO t0 := by unfold sO; omega
  refine z_iret K hr hlk d_X_keep_22 ⟨_, rfl, Or.inr ⟨ntl, rfl, U1, hV1, by rw [f1]; exact x2, (fr1 10 (by omega) (by omega) (by omega) (by omega) (by omega)).trans x3, x4.fr (fun j j1 j2 => fr1 j (by omega) (by omega) (by omega) (by omega) (by omega)), x5, fun i i0 i8 => ?_⟩⟩
  by_cases e : i = t0
  · subst e
    dsimp only
    rw [if_pos rfl]
    exact ⟨t1, onJ, ntl⟩
  · dsimp only
    rw [if_neg e]
    have far := isP_far (sO_P i0 i8) hP0 (sO_ne i0 ht.1 e)
    exact ⟨(x6 i i0 i8).1.fr (by rw [f1]; exact nu_ne _ _ (sO_ne i0 ht.1 e)) (fun k hk => fr1 _ (by omega) (by omega) (by omega) (by omega) (by omega)), (x6 i i0 i8).2⟩
end X1
