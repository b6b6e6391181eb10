section X4
variable {p : Program} {l : Launch} {e : Env} {R : Room} {s : State} {m : MethodId} {args : Array Value} {below : List Frame} {meth : Method} {c : Code} {Q : State → Prop} {b0 kc ks : Nat} {G : zG} {h : zH} {a : Nat} {cd : Int}
set_option maxHeartbeats 4000000 in
set_option maxRecDepth 100000 in
theorem lp_X_order (K : zC p s m args c b_X_order R_X 3 b0 G) (hRm : 7 ≤ R.frames ∧ 188 ≤ R.locals) (hkc : kc ≤ R.cells) (hks : ks ≤ R.slots) {A : ecE} {pts : Int → ecP} {s0 : Int} (hv : 0 ≤ s0 ∧ s0 < 8) (kx : ∀ (res : Int) (S : xS) (U : Nat → Int), XS S U A pts → CoR A (pts s0) 11 1 (pts s0) res → (-1 ≤ res ∧ res ≤ 13) → ∀ pc' : Nat, (pc' = 99 ∨ pc' = 111 ∨ pc' = 130) → ∀ lv : List (Nat × Value), zW p l e R s m args below meth c 3 b0 G kc ks Q (hx G h a S) pc' lv [.int (jI res)]) :
    ∀ (k n : Nat) (Rp : ecP) (S : xS) (U : Nat → Int), n + k = 12 → XS S U A pts → PT S U 75 Rp → ecOn A Rp → ¬ wdP 162 Rp → Rp ≠ none → (∀ res : Int, CoR A (pts s0) k n Rp res → CoR A (pts s0) 11 1 (pts s0) res) → zW p l e R s m args below meth c 3 b0 G kc ks Q (hx G h a S) 38 [(0, .ref a), (1, .int (jI s0)), (2, .int (jI ((n + 1 : Nat) : Int)))] [] := by
  intro k
  induction k with
  | zero =>
    intro n Rp S U hn hX hT on wd hne hs
    refine z_iload_n K d_X_order_38 rfl ?_
    refine z_bipush (v := jI 12) K d_X_order_39 rfl ?_
    refine zi_icmp_gt (tgt := 129) K d_X_order_41 (by decide) (by omega) (by decide) (fun hc => ?_) (fun hc => absurd hc (by omega))
    refine z_iconst (v := jI 0) K d_X_order_129 rfl ?_
    exact kx 0 S U hX (hs 0 rfl) (by decide) 130 (by decide) _
  | succ k ih =>
    intro n Rp S U hn hX hT on wd hne hs
    match Rp, hT, on, wd, hne, hs with
    | none, _, _, _, hne, _ => exact absurd rfl hne
    | some (x, y, z), hT, on, wd, hne, hs =>
      obtain ⟨m5, v5⟩ := hX.1 80 rfl
      have e80 : U 80 = z := hT.2.2.2.1
      rw [e80] at v5
      have z0 := on.1
      have m0 : m5 ≠ 0 := fun w => by have := v5.zero.1 w; omega
      have m112 := v5.i31
      have zero : ∀ (hz : 2 < z.natAbs) (lv : List (Nat × Value)), zW p l e R s m args below meth c 3 b0 G kc ks Q (hx G h a S) 98 lv [] := fun hz lv => by
        refine z_iconst (v := jI 0) K d_X_order_98 rfl ?_
        exact kx 0 S U hX (hs 0 ⟨x, y, z, rfl, Or.inl ⟨hz, rfl⟩⟩) (by decide) 99 (by decide) _
      refine z_iload_n K d_X_order_38 rfl ?_
      refine z_bipush (v := jI 12) K d_X_order_39 rfl ?_
      refine zi_icmp_gt (tgt := 129) K d_X_order_41 (by decide) (by omega) (by decide) (fun hc => absurd hc (by omega)) (fun hc => ?_)
      refine z_aload_n K d_X_order_44 rfl ?_
      refine zx_gX K fd_X_47 rfl d_X_order_45 ?_
      refine zx_gP K (by first | assumption | rfl) fd_X_102 rfl d_X_order_48 ?_
      refine zx_gN (k := 80) K rfl fd_X_106 rfl d_X_order_51 ?_
      rw [v5.1]
      refine z_iconst (v := jI 1) K d_X_order_54 rfl ?_
      refine zi_icmp_ne (tgt := 98) K d_X_order_55 (by decide) (by omega) (by decide) (fun hc2 => ?_) (fun hc2 => ?_)
      · refine zero ?_ _
        obtain ⟨t, rfl⟩ : ∃ t, m5 = t + 1 := ⟨m5 - 1, by omega⟩
        have := v5.ge
        have := BS_mono (show 1 ≤ t by omega)
        have hb1 : BS ^ 1 = 1000000000 := by decide
        omega
      have hm1 : m5 = 1 := by omega
      subst hm1
      have hz1 : (z.natAbs : Int) = S.C 80 0 := by
        have := v5.2.2.2.2.2
        rw [this]
        simp [dv]
      have g0 := v5.limb (i := 0) (by decide) (by decide)
      refine z_aload_n K d_X_order_58 rfl ?_
      refine zx_gX K fd_X_47 rfl d_X_order_59 ?_
      refine zx_gP K (by first | assumption | rfl) fd_X_102 rfl d_X_order_62 ?_
      refine zx_gN (k := 80) K rfl fd_X_112 rfl d_X_order_65 ?_
      refine z_iconst (v := jI 0) K d_X_order_68 rfl ?_
      refine zx_cldv (k := 80) (v := (z.natAbs : Int)) K rfl (by decide) hz1.symm d_X_order_69 ?_
      refine z_iconst (v := jI 2) K d_X_order_70 rfl ?_
      refine zi_icmp_gt (tgt := 98) K d_X_order_71 (by decide) (by omega) (by decide) (fun hc3 => zero (by omega) _) (fun hc3 => ?_)
      have hz2 : ¬ 2 < z.natAbs := by omega
      have q0 := hX.2.2.2.2.2 s0 hv.1 hv.2
      obtain ⟨jon, _, _⟩ := jn_q on q0.2.on
      refine z_aload_n K d_X_order_74 rfl ?_
      refine zx_gX K fd_X_33 rfl d_X_order_75 ?_
      refine z_aload_n K d_X_order_78 rfl ?_
      refine zx_gX K fd_X_47 rfl d_X_order_79 ?_
      refine z_aload_n K d_X_order_82 rfl ?_
      refine zx_gX K fd_X_57 rfl d_X_order_83 ?_
      refine z_iload_n K d_X_order_86 rfl ?_
      refine zx_slot K hv d_X_order_87 ?_
      refine z_aload_n K d_X_order_88 rfl ?_
      refine zx_gX K fd_X_51 rfl d_X_order_89 ?_
      refine z_callV (ci := 7) (As := [.ref (a + 75), .ref (a + sO s0), .ref (a + 86)]) K (v_C_join l G b0 h a S (A := A) (P := some (x, y, z)) (Q := pts s0) (po := 75) (qo := sO s0) (oo := 86) hX.2.2.2.2.1 rfl (sO_P hv.1 hv.2) rfl (by decide) (by unfold sO; omega) hX.1 hX.2.1 hX.2.2.1 hX.2.2.2.1 hT q0.1 on q0.2.on wd q0.2.w162) ca_X_79 im_C_join se_C_join rfl (by decide) (hx_C) rfl rfl (rm_ok ⟨hRm.1, hRm.2, hkc, hks⟩ (by decide) (by decide)) (Nat.le_of_ble_eq_true rfl) d_X_order_92 (fun r h1 hp => ?_)
      obtain ⟨S8, rfl, b8, rfl, U8, hV8, pm8, fr8, hb8⟩ := hp
      have hX8 := hX.jfr (by decide) hV8 pm8 fr8
      rcases hb8 with ⟨rfl, w8⟩ | ⟨rfl, w8, t8⟩
      · refine zi_if_ne (tgt := 100) K d_X_order_95 (by decide) (by decide) (fun hc => absurd rfl hc) (fun hc => ?_)
        refine z_iconst (v := jI 0) K d_X_order_98 rfl ?_
        exact kx 0 S8 U8 hX8 (hs 0 ⟨x, y, z, rfl, Or.inr ⟨hz2, Or.inl ⟨w8, rfl⟩⟩⟩) (by decide) 99 (by decide) _
      refine zi_if_ne (tgt := 100) K d_X_order_95 (by decide) (by decide) (fun hc => ?_) (fun hc => absurd hc (by decide))
      have n8 := t8.nn
      have i8 := t8.isn
      refine z_aload_n K d_X_order_100 rfl ?_
      refine zx_gX K fd_X_51 rfl d_X_order_101 ?_
      refine zx_gP (k := 86) K rfl fd_X_98 rfl d_X_order_104 ?_
      refine zi_if_eq (tgt := 112) K d_X_order_107 (by decide) (by show i32 (S8.f.nn 86); omega) (fun hc => ?_) (fun hc => ?_)
      rotate_left
      · have hc' : ¬ S8.f.nn 86 = 0 := hc
        have hJ := i8.1 (by omega)
        refine z_iload_n K d_X_order_110 rfl ?_
        refine kx ((n + 1 : Nat) : Int) S8 U8 hX8 (hs _ ⟨x, y, z, rfl, Or.inr ⟨hz2, Or.inr ⟨w8, Or.inl ⟨hJ, by omega⟩⟩⟩⟩) (by omega) 111 (by decide) _
      have hc' : S8.f.nn 86 = 0 := hc
      have hJn : jnA A (some (x, y, z)) (pts s0) ≠ none := fun w => by have := i8.2 w; omega
      refine z_aload_n K d_X_order_112 rfl ?_
      refine zx_gX K fd_X_47 rfl d_X_order_113 ?_
      refine z_aload_n K d_X_order_116 rfl ?_
      refine zx_gX K fd_X_51 rfl d_X_order_117 ?_
      refine z_callV (ci := 2) (As := [.ref (a + 86)]) K (c_P_become l G b0 h a S8 (o := 75) (q := 86) hV8 rfl rfl (by decide) t8) ca_X_87 im_P_become se_P_become rfl (by decide) (hx_P (by rfl)) rfl rfl (rm_ok ⟨hRm.1, hRm.2, hkc, hks⟩ (by decide) (by decide)) (Nat.le_of_ble_eq_true rfl) d_X_order_120 (fun r h1 hp => ?_)
      obtain ⟨S9, rfl, rfl, U9, hV9, t9, fr9, f9⟩ := hp
      have hX9 : XS S9 U9 A pts := hX8.fr hV9 (by rw [f9]; exact hX8.2.1) (fr9 10 (by decide) (by decide) (by decide) (by decide) (by decide)) (fun j j1 => fr9 j (by omega) (by omega) (by omega) (by omega) (by omega)) (fun j j1 => by rw [f9]; exact nu_ne _ _ (by omega))
      refine zi_iinc K d_X_order_123 rfl (by decide) ?_
      refine z_goto (tgt := 38) K d_X_order_126 (by decide) ?_
      refine z_re [0, 1, 2] rfl ?_
      exact ih (n + 1) _ S9 U9 (by omega) hX9 t9 jon w8 hJn (fun res hr => hs res ⟨x, y, z, rfl, Or.inr ⟨hz2, Or.inr ⟨w8, Or.inr ⟨hJn, by simpa using hr⟩⟩⟩⟩)
set_option maxHeartbeats 4000000 in
set_option maxRecDepth 100000 in
theorem r_X_order (l : Launch) (G : zG) (b0 : Nat) (h : zH) (a : Nat) (S : xS) {U : Nat → Int} {A : ecE} {pts : Int → ecP} {s0 : Int} (hX : XS S U A pts) (hs0 : i32 s0) : xMet l G b0 y_X_order b_X_order 3 (some .int) 7 188 h a [.ref a, .int (jI s0)] S (fun r S' => ∃ res : Int, r = some (.int (jI res)) ∧ (∃ U', XS S' U' A pts) ∧ ((¬ (0 ≤ s0 ∧ s0 < 8) ∧ res = -1) ∨ ((0 ≤ s0 ∧ s0 < 8) ∧ ((pts s0 = none ∧ res = 1) ∨ (pts s0 ≠ none ∧ CoR A (pts s0) 11 1 (pts s0) res))))) :=
  z_met (by decide) (Nat.le_of_ble_eq_true rfl) fun p e s m below meth c K hr hlk hnm => by
  refine z_iload_n K d_X_order_0 rfl ?_
  refine z_callS (As := [.int (jI s0)]) K (c_X_isSlot l G b0 h a S hs0) ca_X_72 sm_X_isSlot rfl rfl (by decide) (Nat.le_of_ble_eq_true rfl) d_X_order_1 (fun r h1 hp => ?_)
  obtain ⟨Z, rfl, rfl, b, rfl, c1, c2⟩ := hp
  refine zi_if_ne (tgt := 9) K d_X_order_4 (by decide) (by omega) (fun hc => ?_) (fun hc => ?_)
  rotate_left
  · refine z_iconst (v := jI (-1)) K d_X_order_7 rfl ?_
    exact z_iret K hr hlk d_X_order_8 ⟨_, rfl, -1, rfl, ⟨U, hX⟩, Or.inl ⟨fun w => by have := c2.2 w; omega, rfl⟩⟩
  have hv := c2.1 (by omega)
  have q0 := hX.2.2.2.2.2 s0 hv.1 hv.2
  have n0 := q0.1.nn
  have i0 := q0.1.isn
  refine z_aload_n K d_X_order_9 rfl ?_
  refine zx_gX K fd_X_57 rfl d_X_order_10 ?_
  refine z_iload_n K d_X_order_13 rfl ?_
  refine zx_slot K hv d_X_order_14 ?_
  refine zx_gP K (sO_P hv.1 hv.2) fd_X_98 rfl d_X_order_15 ?_
  refine zi_if_eq (tgt := 23) K d_X_order_18 (by decide) (by show i32 (S.f.nn (sO s0)); omega) (fun hc => ?_) (fun hc => ?_)
  rotate_left
  · have hc' : ¬ S.f.nn (sO s0) = 0 := hc
    refine z_iconst (v := jI 1) K d_X_order_21 rfl ?_
    exact z_iret K hr hlk d_X_order_22 ⟨_, rfl, 1, rfl, ⟨U, hX⟩, Or.inr ⟨hv, Or.inl ⟨i0.1 (by omega), rfl⟩⟩⟩
  have hc' : S.f.nn (sO s0) = 0 := hc
  have hne : pts s0 ≠ none := fun w => by have := i0.2 w; omega
  refine z_aload_n K d_X_order_23 rfl ?_
  refine zx_gX K fd_X_47 rfl d_X_order_24 ?_
  refine z_aload_n K d_X_order_27 rfl ?_
  refine zx_gX K fd_X_57 rfl d_X_order_28 ?_
  refine z_iload_n K d_X_order_31 rfl ?_
  refine zx_slot K hv d_X_order_32 ?_
  refine z_callV (ci := 2) (As := [.ref (a + sO s0)]) K (c_P_become l G b0 h a S (o := 75) (q := sO s0) hX.1 rfl (sO_P hv.1 hv.2) (by unfold sO; omega) q0.1) ca_X_87 im_P_become se_P_become rfl (by decide) (hx_P (by rfl)) rfl rfl (by decide) (Nat.le_of_ble_eq_true rfl) d_X_order_33 (fun r h1 hp => ?_)
  obtain ⟨S9, rfl, rfl, U9, hV9, t9, fr9, f9⟩ := hp
  have hX9 : XS S9 U9 A pts := hX.fr hV9 (by rw [f9]; exact hX.2.1) (fr9 10 (by decide) (by decide) (by decide) (by decide) (by decide)) (fun j j1 => fr9 j (by omega) (by omega) (by omega) (by omega) (by omega)) (fun j j1 => by rw [f9]; exact nu_ne _ _ (by omega))
  refine z_iconst (v := jI 2) K d_X_order_36 rfl ?_
  refine z_istore_n K d_X_order_37 (by decide) ?_
  refine z_re [0, 1, 2] rfl ?_
  refine lp_X_order (A := A) (pts := pts) K ⟨Nat.le_of_ble_eq_true rfl, Nat.le_of_ble_eq_true rfl⟩ (Nat.zero_le _) (Nat.zero_le _) hv (fun res S8 U8 hX8 hC hb pc' hpc lv => ?_) 11 1 (pts s0) S9 U9 (by decide) hX9 t9 q0.2.on q0.2.w162 hne (fun res hr => hr)
  rcases hpc with rfl | rfl | rfl
  · exact z_iret K hr hlk d_X_order_99 ⟨_, rfl, res, rfl, ⟨U8, hX8⟩, Or.inr ⟨hv, Or.inr ⟨hne, hC⟩⟩⟩
  · exact z_iret K hr hlk d_X_order_111 ⟨_, rfl, res, rfl, ⟨U8, hX8⟩, Or.inr ⟨hv, Or.inr ⟨hne, hC⟩⟩⟩
  · exact z_iret K hr hlk d_X_order_130 ⟨_, rfl, res, rfl, ⟨U8, hX8⟩, Or.inr ⟨hv, Or.inr ⟨hne, hC⟩⟩⟩
end X4
