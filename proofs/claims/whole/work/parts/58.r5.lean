section R5
variable {p : Program} {l : Launch} {e : Env} {R : Room} {s : State} {m : MethodId} {args : Array Value} {below : List Frame} {meth : Method} {c : Code} {Q : State → Prop} {b0 kc ks : Nat} {G : zG} {h : zH} {a : Nat} {cd : Int}
theorem v_R_multiply (l : Launch) (G : zG) (b0 : Nat) (h : zH) (a : Nat) (S : xS) {U : Nat → Int} {x y o m1 m2 : Nat} (hV : VX S U) (hx0 : isN x = true) (hy0 : isN y = true) (ho0 : isN o = true) (fx : lt9 (U x) m1) (fy : lt9 (U y) m2) (hm : m1 + m2 ≤ 112) (fs : lt9 (U x * U y) (nR o)) : xMet l G b0 y_R_multiply b_R_multiply 15 none 2 65 h a [.ref (a + 1), .ref (a + x), .ref (a + y), .ref (a + o)] S (fun r S' => r = none ∧ VX S' (nu U o (U x * U y)) ∧ S'.f = S.f) := by
  obtain ⟨nx, vx⟩ := hV x hx0
  obtain ⟨ny, vy⟩ := hV y hy0
  refine zMet_imp (c_R_multiply l G b0 h a S hx0 hy0 ho0 vx vy (by have := vx.le fx; have := vy.le fy; omega) fs) (fun o h' hp => ?_)
  obtain ⟨S1, rfl, rfl, k1, n, k2⟩ := hp
  exact ⟨_, rfl, rfl, hV.up k1 k2, k1.2⟩
theorem iN5 : isN 5 = true := rfl
set_option maxHeartbeats 4000000 in
set_option maxRecDepth 100000 in
theorem v_R_addProduct (l : Launch) (G : zG) (b0 : Nat) (h : zH) (a : Nat) (S : xS) {U : Nat → Int} {x y o m1 m2 : Nat} (hV : VX S U) (hx0 : isN x = true) (hy0 : isN y = true) (ho0 : isN o = true) (ho5 : o ≠ 5) (fx : lt9 (U x) m1) (fy : lt9 (U y) m2) (hm : m1 + m2 ≤ 112) (fo : lt9 (U o) (nR o)) (fp : lt9 (U x * U y) (nR o)) (fs : lt9 (U o + U x * U y) (nR o)) : xMet l G b0 y_R_addProduct b_R_addProduct 4 none 3 99 h a [.ref (a + 1), .ref (a + x), .ref (a + y), .ref (a + o)] S (fun r S' => r = none ∧ (∃ U', VX S' U' ∧ U' o = U o + U x * U y ∧ ∀ j : Nat, j ≠ o → j ≠ 5 → U' j = U j) ∧ S'.f = S.f) :=
  z_met (by decide) (Nat.le_of_ble_eq_true rfl) fun p e s m below meth c K hr hlk hnm => by
  refine z_aload_n K d_R_addProduct_0 rfl ?_
  refine z_aload_n K d_R_addProduct_1 rfl ?_
  refine z_aload_n K d_R_addProduct_2 rfl ?_
  refine z_aload_n K d_R_addProduct_3 rfl ?_
  refine zx_gR K fd_R_26 rfl d_R_addProduct_4 ?_
  refine z_callV (ci := 4) (As := [.ref (a + x), .ref (a + y), .ref (a + 5)]) K (v_R_multiply l G b0 h a S hV hx0 hy0 iN5 fx fy hm (lt9_mono fp (nR_le o).2)) ca_R_84 im_R_multiply se_R_multiply rfl (by decide) (hx_R) rfl rfl (by decide) (Nat.le_of_ble_eq_true rfl) d_R_addProduct_7 (fun r h1 hp => ?_)
  obtain ⟨S1, rfl, rfl, hV1, e1⟩ := hp
  obtain ⟨n5, v5⟩ := hV1 5 iN5
  obtain ⟨no, vo⟩ := hV1 o ho0
  rw [nu_self] at v5
  rw [nu_ne _ _ ho5] at vo
  refine z_aload_n K d_R_addProduct_10 rfl ?_
  refine z_aload_n K d_R_addProduct_11 rfl ?_
  refine z_aload_n K d_R_addProduct_12 rfl ?_
  refine zx_gR K fd_R_26 rfl d_R_addProduct_13 ?_
  refine z_aload_n K d_R_addProduct_16 rfl ?_
  refine zx_gR K fd_R_26 rfl d_R_addProduct_17 ?_
  refine zx_gN (k := 5) K iN5 fd_R_30 rfl d_R_addProduct_20 ?_
  refine z_aload_n K d_R_addProduct_23 rfl ?_
  refine z_callV (ci := 4) (As := [.ref (a + o), .ref (a + 5), .int (jI (S1.B 5)), .ref (a + o)]) K (c_R_addSigned l G b0 h a S1 (u := U o + U x * U y) ho0 iN5 ho0 vo v5 v5.b01 (by rw [sgn_eq v5.2.2.2.2.1]) fo fp fs) ca_R_34 im_R_addSigned se_R_addSigned rfl (by decide) (hx_R) rfl rfl (by decide) (Nat.le_of_ble_eq_true rfl) d_R_addProduct_24 (fun r h1 hp => ?_)
  obtain ⟨S2, rfl, rfl, k1, n, k2⟩ := hp
  refine z_vret K hr hlk d_R_addProduct_27 ⟨_, rfl, rfl, ⟨_, hV1.up k1 k2, nu_self _ _ _, fun j h1 h2 => by rw [nu_ne _ _ h1, nu_ne _ _ h2]⟩, k1.2.trans e1⟩
set_option maxHeartbeats 4000000 in
set_option maxRecDepth 100000 in
theorem v_R_subtractProduct (l : Launch) (G : zG) (b0 : Nat) (h : zH) (a : Nat) (S : xS) {U : Nat → Int} {x y o m1 m2 : Nat} (hV : VX S U) (hx0 : isN x = true) (hy0 : isN y = true) (ho0 : isN o = true) (ho5 : o ≠ 5) (fx : lt9 (U x) m1) (fy : lt9 (U y) m2) (hm : m1 + m2 ≤ 112) (fo : lt9 (U o) (nR o)) (fp : lt9 (U x * U y) (nR o)) (fs : lt9 (U o - U x * U y) (nR o)) : xMet l G b0 y_R_subtractProduct b_R_subtractProduct 4 none 3 99 h a [.ref (a + 1), .ref (a + x), .ref (a + y), .ref (a + o)] S (fun r S' => r = none ∧ (∃ U', VX S' U' ∧ U' o = U o - U x * U y ∧ ∀ j : Nat, j ≠ o → j ≠ 5 → U' j = U j) ∧ S'.f = S.f) :=
  z_met (by decide) (Nat.le_of_ble_eq_true rfl) fun p e s m below meth c K hr hlk hnm => by
  refine z_aload_n K d_R_subtractProduct_0 rfl ?_
  refine z_aload_n K d_R_subtractProduct_1 rfl ?_
  refine z_aload_n K d_R_subtractProduct_2 rfl ?_
  refine z_aload_n K d_R_subtractProduct_3 rfl ?_
  refine zx_gR K fd_R_26 rfl d_R_subtractProduct_4 ?_
  refine z_callV (ci := 4) (As := [.ref (a + x), .ref (a + y), .ref (a + 5)]) K (v_R_multiply l G b0 h a S hV hx0 hy0 iN5 fx fy hm (lt9_mono fp (nR_le o).2)) ca_R_84 im_R_multiply se_R_multiply rfl (by decide) (hx_R) rfl rfl (by decide) (Nat.le_of_ble_eq_true rfl) d_R_subtractProduct_7 (fun r h1 hp => ?_)
  obtain ⟨S1, rfl, rfl, hV1, e1⟩ := hp
  obtain ⟨n5, v5⟩ := hV1 5 iN5
  obtain ⟨no, vo⟩ := hV1 o ho0
  rw [nu_self] at v5
  rw [nu_ne _ _ ho5] at vo
  have b1 := v5.2.2.2.2.1
  have b2 := v5.b01
  refine z_aload_n K d_R_subtractProduct_10 rfl ?_
  refine z_aload_n K d_R_subtractProduct_11 rfl ?_
  refine z_aload_n K d_R_subtractProduct_12 rfl ?_
  refine zx_gR K fd_R_26 rfl d_R_subtractProduct_13 ?_
  refine z_aload_n K d_R_subtractProduct_16 rfl ?_
  refine zx_gR K fd_R_26 rfl d_R_subtractProduct_17 ?_
  refine zx_gN (k := 5) K iN5 fd_R_30 rfl d_R_subtractProduct_20 ?_
  have fin : ∀ b : Int, (b = 0 ∨ b = 1) → U o - U x * U y = U o + sgn b ((U x * U y).natAbs : Int) → zW p l e (zRm 3 99 0 0) s m ([.ref (a + 1), .ref (a + x), .ref (a + y), .ref (a + o)] : List Value).toArray below meth c 4 b0 G 0 0 (MQ below (zQ G b0 (fun r h' => ∃ S' : xS, h' = hx G h a S' ∧ (r = none ∧ (∃ U', VX S' U' ∧ U' o = U o - U x * U y ∧ ∀ j : Nat, j ≠ o → j ≠ 5 → U' j = U j) ∧ S'.f = S.f))) ([.ref (a + 1), .ref (a + x), .ref (a + y), .ref (a + o)] : List Value).toArray s 0 0 (z_A b0)) (hx G h a S1) 31 (lv_args 0 [.ref (a + 1), .ref (a + x), .ref (a + y), .ref (a + o)]) [.int (jI b), .ref (a + 5), .ref (a + o), .ref (a + 1)] := by
    intro b hb he
    refine z_aload_n K d_R_subtractProduct_31 rfl ?_
    refine z_callV (ci := 4) (As := [.ref (a + o), .ref (a + 5), .int (jI b), .ref (a + o)]) K (c_R_addSigned l G b0 h a S1 (u := U o - U x * U y) ho0 iN5 ho0 vo v5 hb he fo fp fs) ca_R_34 im_R_addSigned se_R_addSigned rfl (by decide) (hx_R) rfl rfl (by decide) (Nat.le_of_ble_eq_true rfl) d_R_subtractProduct_32 (fun r h1 hp => ?_)
    obtain ⟨S2, rfl, rfl, k1, n, k2⟩ := hp
    exact z_vret K hr hlk d_R_subtractProduct_35 ⟨_, rfl, rfl, ⟨_, hV1.up k1 k2, nu_self _ _ _, fun j h1 h2 => by rw [nu_ne _ _ h1, nu_ne _ _ h2]⟩, k1.2.trans e1⟩
  generalize U x * U y = z at *
  refine zi_if_ne (tgt := 30) K d_R_subtractProduct_23 (by decide) (by omega) (fun hc => ?_) (fun hc => ?_)
  · refine z_iconst (v := jI 0) K d_R_subtractProduct_30 rfl ?_
    exact fin 0 (Or.inl rfl) (by unfold sgn; rw [if_neg (by decide)]; by_cases q : z < 0 <;> simp [q] at b1 <;> omega)
  · refine z_iconst (v := jI 1) K d_R_subtractProduct_26 rfl ?_
    refine z_goto (tgt := 31) K d_R_subtractProduct_27 (by decide) ?_
    exact fin 1 (Or.inr rfl) (by unfold sgn; rw [if_pos rfl]; by_cases q : z < 0 <;> simp [q] at b1 <;> omega)
end R5
