section N2
variable {p : Program} {l : Launch} {e : Env} {R : Room} {s : State} {m : MethodId} {args : Array Value} {below : List Frame} {meth : Method} {c : Code} {Q : State → Prop} {b0 kc ks : Nat} {G : zG} {h : zH} {a : Nat} {cd : Int}
set_option maxHeartbeats 4000000 in
set_option maxRecDepth 100000 in
theorem c_N_become_N (l : Launch) (G : zG) (b0 : Nat) (h : zH) (a : Nat) (S : xS) {k j m0 : Nat} {w : Int} (hk : isN k = true) (hj : isN j = true) (hw : NR S j m0 w) (hm : lt9 w (nR k)) : xMet l G b0 y_N_become_N b_N_become_N 2 none 1 40 h a [.ref (a + k), .ref (a + j)] S (fun o S' => o = none ∧ xK k S S' ∧ NR S' k m0 w) :=
  z_met (by decide) (Nat.le_of_ble_eq_true rfl) fun p e s m below meth c K hr hlk hnm => by
  have hL := hw.1
  have hR := nR_le k
  have hn := hw.2.1
  have hn2 := hw.i31
  have hmk := hw.le hm
  have hb := hw.b01
  refine z_aload_n K d_N_become_N_0 rfl ?_
  refine zx_gN (k := j) K hj fd_N_21 rfl d_N_become_N_1 ?_
  rw [hL]
  refine z_aload_n K d_N_become_N_4 rfl ?_
  refine zx_gN (k := k) K hk fd_N_15 rfl d_N_become_N_5 ?_
  refine zx_alen K hk d_N_become_N_8 ?_
  refine zi_icmp_le (tgt := 17) K d_N_become_N_9 (by decide) (by omega) (by omega) (fun hc => ?_) (fun hc => absurd hc (by omega))
  refine z_aload_n K d_N_become_N_17 rfl ?_
  refine zx_gN (k := j) K hj fd_N_15 rfl d_N_become_N_18 ?_
  refine z_iconst (v := jI 0) K d_N_become_N_21 rfl ?_
  refine z_aload_n K d_N_become_N_22 rfl ?_
  refine zx_gN (k := k) K hk fd_N_15 rfl d_N_become_N_23 ?_
  refine z_iconst (v := jI 0) K d_N_become_N_26 rfl ?_
  refine z_aload_n K d_N_become_N_27 rfl ?_
  refine zx_gN (k := j) K hj fd_N_21 rfl d_N_become_N_28 ?_
  rw [hL]
  refine zi_copy K ca_cpyN (hx_A hj) (hx_A hk) (by omega) (by omega) (by omega) (by omega) (by decide) (by decide) d_N_become_N_31 ?_
  refine z_hp (hx_sC (f := fun i : Int => if i < (m0 : Int) then S.C j i else S.C k i) hk) ?_
  refine z_aload_n K d_N_become_N_34 rfl ?_
  refine z_aload_n K d_N_become_N_35 rfl ?_
  refine zx_gN (k := j) K hj fd_N_21 rfl d_N_become_N_36 ?_
  refine zx_pL (v := S.L j) K hk fd_N_21 d_N_become_N_39 ?_
  refine z_aload_n K d_N_become_N_42 rfl ?_
  refine z_aload_n K d_N_become_N_43 rfl ?_
  refine zx_gN (k := j) K hj fd_N_25 rfl d_N_become_N_44 ?_
  refine zx_pB (v := S.B j) K hk fd_N_25 hb d_N_become_N_47 ?_
  refine z_vret K hr hlk d_N_become_N_50 ⟨_, rfl, rfl, ⟨fun q hq => ⟨nu_ne _ _ hq, nu_ne _ _ hq, nu_ne _ _ hq⟩, rfl⟩, ?_⟩
  refine ⟨(nu_self _ _ _).trans hL, hmk, fun i hi => ?_, fun i hi => ?_, (nu_self _ _ _).trans hw.2.2.2.2.1, ?_⟩
  · show 0 ≤ nu S.C k _ k (0 + i) ∧ nu S.C k _ k (0 + i) < 1000000000
    rw [nu_self, Int.zero_add]
    show 0 ≤ (if (i : Int) < (m0 : Int) then S.C j i else S.C k i) ∧ (if (i : Int) < (m0 : Int) then S.C j i else S.C k i) < 1000000000
    rw [if_pos (by omega)]
    exact hw.limb (by omega) (by omega)
  · show nu S.C k _ k i ≠ 0
    rw [nu_self]
    show (if (i : Int) < (m0 : Int) then S.C j i else S.C k i) ≠ 0
    rw [if_pos (by omega)]
    exact hw.2.2.2.1 i hi
  · rw [hw.2.2.2.2.2]
    refine dv_congr (fun i hi => ?_)
    show S.C j (0 + i) = nu S.C k _ k (0 + i)
    rw [nu_self, Int.zero_add]
    show S.C j i = (if (i : Int) < (m0 : Int) then S.C j i else S.C k i)
    rw [if_pos (by omega)]
set_option maxHeartbeats 4000000 in
set_option maxRecDepth 100000 in
theorem lp_N_compareSize (K : zC p s m args c b_N_compareSize R_N 3 b0 G) {S : xS} {x y n : Nat} (hx0 : isN x = true) (hy0 : isN y = true) (hnx : n ≤ nR x) (hny : n ≤ nR y) (hgx : dg (S.C x) 0 n) (hgy : dg (S.C y) 0 n)
    (k0 : (∀ j : Nat, j < n → S.C x j = S.C y j) → zW p l e R s m args below meth c 3 b0 G kc ks Q (hx G h a S) 81 [(0, .ref (a + x)), (1, .ref (a + y))] []) (k1 : ∀ i : Nat, i < n → (∀ j : Nat, i < j → j < n → S.C x j = S.C y j) → S.C x i ≠ S.C y i → zW p l e R s m args below meth c 3 b0 G kc ks Q (hx G h a S) 54 [(0, .ref (a + x)), (1, .ref (a + y)), (2, .int (jI i))] []) :
    ∀ i : Nat, i ≤ n → (∀ j : Nat, i ≤ j → j < n → S.C x j = S.C y j) → zW p l e R s m args below meth c 3 b0 G kc ks Q (hx G h a S) 35 [(0, .ref (a + x)), (1, .ref (a + y)), (2, .int (jI (i - 1)))] [] := by
  intro i
  have hR := nR_le x
  induction i with
  | zero =>
    intro hi he
    refine z_iload_n K d_N_compareSize_35 rfl ?_
    refine zi_if_lt (tgt := 81) K d_N_compareSize_36 (by decide) (by omega) (fun hc => ?_) (fun hc => absurd hc (by omega))
    exact z_re [0, 1] rfl (k0 (fun j hj => he j (by omega) hj))
  | succ i ih =>
    intro hi he
    have g1 := hgx i (by omega)
    have g2 := hgy i (by omega)
    rw [Int.zero_add] at g1 g2
    rw [show ((i + 1 : Nat) : Int) - 1 = i by omega]
    refine z_iload_n K d_N_compareSize_35 rfl ?_
    refine zi_if_lt (tgt := 81) K d_N_compareSize_36 (by decide) (by omega) (fun hc => absurd hc (by omega)) (fun hc => ?_)
    refine z_aload_n K d_N_compareSize_39 rfl ?_
    refine zx_gN (k := x) K hx0 fd_N_15 rfl d_N_compareSize_40 ?_
    refine z_iload_n K d_N_compareSize_43 rfl ?_
    refine zx_cld K hx0 (by omega) d_N_compareSize_44 ?_
    refine z_aload_n K d_N_compareSize_45 rfl ?_
    refine zx_gN (k := y) K hy0 fd_N_15 rfl d_N_compareSize_46 ?_
    refine z_iload_n K d_N_compareSize_49 rfl ?_
    refine zx_cld K hy0 (by omega) d_N_compareSize_50 ?_
    refine zi_icmp_eq (tgt := 75) K d_N_compareSize_51 (by decide) (by omega) (by omega) (fun hc => ?_) (fun hc => ?_)
    · refine zi_iinc K d_N_compareSize_75 rfl (by decide) ?_
      refine z_goto (tgt := 35) K d_N_compareSize_78 (by decide) ?_
      refine z_re [0, 1, 2] rfl ?_
      refine ih (by omega) (fun j h1 h2 => ?_)
      by_cases hj : j = i
      · rw [hj]; exact hc
      · exact he j (by omega) h2
    · exact k1 i (by omega) (fun j h1 h2 => he j (by omega) h2) hc
set_option maxHeartbeats 4000000 in
set_option maxRecDepth 100000 in
/-- compareSize -/
theorem c_N_compareSize (l : Launch) (G : zG) (b0 : Nat) (h : zH) (a : Nat) (S : xS) {x y n k : Nat} {v w : Int} (hx0 : isN x = true) (hy0 : isN y = true) (hx : NR S x n v) (hy : NR S y k w) : xMet l G b0 y_N_compareSize b_N_compareSize 3 (some .int) 0 0 h a [.ref (a + x), .ref (a + y)] S (fun o S' => S = S' ∧ ∃ z : Int, o = some (.int (jI z)) ∧ i32 z ∧ (z < 0 ↔ v.natAbs < w.natAbs) ∧ (z = 0 ↔ v.natAbs = w.natAbs)) :=
  z_met (by decide) (Nat.le_of_ble_eq_true rfl) fun p e s m below meth c K hr hlk hnm => by
  have hx1 := hx.1
  have hy1 := hy.1
  have hx2 := hx.i31
  have hy2 := hy.i31
  refine z_aload_n K d_N_compareSize_0 rfl ?_
  refine zx_gN (k := x) K hx0 fd_N_21 rfl d_N_compareSize_1 ?_
  refine z_aload_n K d_N_compareSize_4 rfl ?_
  refine zx_gN (k := y) K hy0 fd_N_21 rfl d_N_compareSize_5 ?_
  rw [hx1, hy1]
  refine zi_icmp_eq (tgt := 28) K d_N_compareSize_8 (by decide) (by omega) (by omega) (fun hc => ?_) (fun hc => ?_)
  · have hnk : n = k := by omega
    subst hnk
    refine z_aload_n K d_N_compareSize_28 rfl ?_
    refine zx_gN (k := x) K hx0 fd_N_21 rfl d_N_compareSize_29 ?_
    rw [hx1]
    refine z_iconst (v := jI 1) K d_N_compareSize_32 rfl ?_
    refine zi_isub K d_N_compareSize_33 ?_
    refine z_istore_n K d_N_compareSize_34 (by decide) ?_
    refine z_re [0, 1, 2] rfl ?_
    have e1 := hx.2.2.2.2.2
    have e2 := hy.2.2.2.2.2
    refine lp_N_compareSize K hx0 hy0 hx.2.1 hy.2.1 hx.2.2.1 hy.2.2.1 (fun he => ?_) (fun i hi he hne => ?_) n (Nat.le_refl _) (fun j h1 h2 => absurd h1 (by omega))
    · refine z_iconst (v := jI 0) K d_N_compareSize_81 rfl ?_
      refine z_iret K hr hlk d_N_compareSize_82 ⟨_, rfl, rfl, 0, rfl, ⟨by decide, by decide⟩, ?_⟩
      rw [dv_congr (g := S.C y) (c := 0) (fun j hj => by rw [Int.zero_add]; exact he j hj), ← e2] at e1
      constructor <;> constructor <;> omega
    · have g1 := hx.limb (i := i) (by omega) (by omega)
      have g2 := hy.limb (i := i) (by omega) (by omega)
      have h1 := hx.2.1
      have h2 := hy.2.1
      refine z_aload_n K d_N_compareSize_54 rfl ?_
      refine zx_gN (k := x) K hx0 fd_N_15 rfl d_N_compareSize_55 ?_
      refine z_iload_n K d_N_compareSize_58 rfl ?_
      refine zx_cld K hx0 (by omega) d_N_compareSize_59 ?_
      refine z_aload_n K d_N_compareSize_60 rfl ?_
      refine zx_gN (k := y) K hy0 fd_N_15 rfl d_N_compareSize_61 ?_
      refine z_iload_n K d_N_compareSize_64 rfl ?_
      refine zx_cld K hy0 (by omega) d_N_compareSize_65 ?_
      refine zi_icmp_ge (tgt := 73) K d_N_compareSize_66 (by decide) (by omega) (by omega) (fun hc => ?_) (fun hc => ?_)
      · refine z_iconst (v := jI 1) K d_N_compareSize_73 rfl ?_
        refine z_iret K hr hlk d_N_compareSize_74 ⟨_, rfl, rfl, 1, rfl, ⟨by decide, by decide⟩, ?_⟩
        have := dv_lt (i := i) (by omega) hy.2.2.1 hx.2.2.1 (fun q h1 h2 => by rw [Int.zero_add]; exact (he q (by omega) h2).symm) (by rw [Int.zero_add]; omega)
        constructor <;> constructor <;> omega
      · refine z_iconst (v := jI (-1)) K d_N_compareSize_69 rfl ?_
        refine z_goto (tgt := 74) K d_N_compareSize_70 (by decide) ?_
        refine z_iret K hr hlk d_N_compareSize_74 ⟨_, rfl, rfl, -1, rfl, ⟨by decide, by decide⟩, ?_⟩
        have := dv_lt (i := i) (by omega) hx.2.2.1 hy.2.2.1 (fun q h1 h2 => by rw [Int.zero_add]; exact he q (by omega) h2) (by rw [Int.zero_add]; omega)
        constructor <;> constructor <;> omega
  · refine z_aload_n K d_N_compareSize_11 rfl ?_
    refine zx_gN (k := x) K hx0 fd_N_21 rfl d_N_compareSize_12 ?_
    refine z_aload_n K d_N_compareSize_15 rfl ?_
    refine zx_gN (k := y) K hy0 fd_N_21 rfl d_N_compareSize_16 ?_
    rw [hx1, hy1]
    refine zi_icmp_ge (tgt := 26) K d_N_compareSize_19 (by decide) (by omega) (by omega) (fun hc2 => ?_) (fun hc2 => ?_)
    · refine z_iconst (v := jI 1) K d_N_compareSize_26 rfl ?_
      refine z_iret K hr hlk d_N_compareSize_27 ⟨_, rfl, rfl, 1, rfl, ⟨by decide, by decide⟩, ?_⟩
      obtain ⟨t, rfl⟩ : ∃ t, n = t + 1 := ⟨n - 1, by omega⟩
      have h1 := hx.ge
      have h2 := hy.nn
      have h3 := BS_mono (show k ≤ t by omega)
      constructor <;> constructor <;> omega
    · refine z_iconst (v := jI (-1)) K d_N_compareSize_22 rfl ?_
      refine z_goto (tgt := 27) K d_N_compareSize_23 (by decide) ?_
      refine z_iret K hr hlk d_N_compareSize_27 ⟨_, rfl, rfl, -1, rfl, ⟨by decide, by decide⟩, ?_⟩
      obtain ⟨t, rfl⟩ : ∃ t, k = t + 1 := ⟨k - 1, by omega⟩
      have h1 := hy.ge
      have h2 := hx.nn
      have h3 := BS_mono (show n ≤ t by omega)
      constructor <;> constructor <;> omega
set_option maxHeartbeats 4000000 in
set_option maxRecDepth 100000 in
theorem c_N_isLike (l : Launch) (G : zG) (b0 : Nat) (h : zH) (a : Nat) (S : xS) {x y n k : Nat} {v w : Int} (hx0 : isN x = true) (hy0 : isN y = true) (hx : NR S x n v) (hy : NR S y k w) : xMet l G b0 y_N_isLike b_N_isLike 2 (some .boolean) 1 22 h a [.ref (a + x), .ref (a + y)] S (fun o S' => S = S' ∧ ∃ b : Int, o = some (.int (jI b)) ∧ (b = 0 ∨ b = 1) ∧ (b = 1 ↔ v = w)) :=
  z_met (by decide) (Nat.le_of_ble_eq_true rfl) fun p e s m below meth c K hr hlk hnm => by
  have b1 := hx.2.2.2.2.1
  have b2 := hy.2.2.2.2.1
  have b3 := hx.b01
  have b4 := hy.b01
  refine z_aload_n K d_N_isLike_0 rfl ?_
  refine zx_gN (k := x) K hx0 fd_N_25 rfl d_N_isLike_1 ?_
  refine z_aload_n K d_N_isLike_4 rfl ?_
  refine zx_gN (k := y) K hy0 fd_N_25 rfl d_N_isLike_5 ?_
  refine zi_icmp_ne (tgt := 23) K d_N_isLike_8 (by decide) (by omega) (by omega) (fun hc => ?_) (fun hc => ?_)
  · refine z_iconst (v := jI 0) K d_N_isLike_23 rfl ?_
    refine z_zret K hr hlk d_N_isLike_24 rfl ⟨_, rfl, rfl, 0, rfl, Or.inl rfl, ?_⟩
    constructor
    · intro q; omega
    · intro q; subst q; exact absurd (b1.trans b2.symm) hc
  · have hs : (v < 0 ↔ w < 0) := by
      rw [b1, b2] at hc
      by_cases q : v < 0 <;> by_cases q' : w < 0 <;> simp [q, q'] at hc ⊢
    refine z_aload_n K d_N_isLike_11 rfl ?_
    refine z_aload_n K d_N_isLike_12 rfl ?_
    refine z_callV (ci := 1) (As := [.ref (a + y)]) K (c_N_compareSize l G b0 h a S hx0 hy0 hx hy) ca_N_40 im_N_compareSize se_N_compareSize rfl (by decide) (hx_N hx0) rfl rfl (by decide) (Nat.le_of_ble_eq_true rfl) d_N_isLike_13 (fun o h1 hp => ?_)
    obtain ⟨S1, rfl, rfl, z, rfl, z1, z2, z3⟩ := hp
    refine zi_if_ne (tgt := 23) K d_N_isLike_16 (by decide) z1 (fun hc => ?_) (fun hc => ?_)
    · refine z_iconst (v := jI 0) K d_N_isLike_23 rfl ?_
      exact z_zret K hr hlk d_N_isLike_24 rfl ⟨_, rfl, rfl, 0, rfl, Or.inl rfl, by omega⟩
    · refine z_iconst (v := jI 1) K d_N_isLike_19 rfl ?_
      refine z_goto (tgt := 24) K d_N_isLike_20 (by decide) ?_
      exact z_zret K hr hlk d_N_isLike_24 rfl ⟨_, rfl, rfl, 1, rfl, Or.inr rfl, by omega⟩
end N2
