section N3
variable {p : Program} {l : Launch} {e : Env} {R : Room} {s : State} {m : MethodId} {args : Array Value} {below : List Frame} {meth : Method} {c : Code} {Q : State → Prop} {b0 kc ks : Nat} {G : zG} {h : zH} {a : Nat} {cd : Int}
theorem bj_step {D P q m : Int} (h : D + P * q = m) : D + q % 1000000000 * P + P * 1000000000 * (q / 1000000000) = m := by
  have := Int.emod_add_mul_ediv q 1000000000
  generalize q % 1000000000 = r at *
  generalize q / 1000000000 = t at *
  rw [← h, ← this]; grind
set_option maxHeartbeats 4000000 in
set_option maxRecDepth 100000 in
theorem lp_N_become_J (K : zC p s m args c b_N_become_J R_N 7 b0 G) {S : xS} {k : Nat} {v m0 : Int} (hk : isN k = true) (hm : 0 ≤ m0 ∧ m0 ≤ 9223372036854775808) (kx : ∀ (i : Nat) (f : Int → Int), i ≤ 3 → dg f 0 i → (∀ j : Nat, i = j + 1 → f j ≠ 0) → dv f 0 i = m0 → zW p l e R s m args below meth c 7 b0 G kc ks Q (hx G h a (S.sC (nu S.C k f))) 63 [(0, .ref (a + k)), (1, .long (kI v)), (5, .int (jI i))] []) :
    ∀ (d i : Nat) (f : Int → Int) (q : Int), i + d = 3 → dg f 0 i → 0 ≤ q → q ≤ m0 → dv f 0 i + BS ^ i * q = m0 → (∀ j : Nat, i = j + 1 → f j + 1000000000 * q ≠ 0) → zW p l e R s m args below meth c 7 b0 G kc ks Q (hx G h a (S.sC (nu S.C k f))) 19 [(0, .ref (a + k)), (1, .long (kI v)), (3, .long (kI (-q))), (5, .int (jI i)), (6, .int (jI i))] [] := by
  intro d
  have hR := nR_le k
  induction d with
  | zero =>
    intro i f q hi hg q0 q1 hv ht
    have hi3 : i = 3 := by omega
    subst hi3
    have hb := dv_bd (f := f) (b := 0) hg
    have hq : q = 0 := by
      rcases Int.lt_or_le 0 q with h0 | h0
      · have e : BS ^ 3 = 1000000000000000000000000000 := by decide
        rw [e] at hv
        have := Int.mul_le_mul_of_nonneg_left (show 1 ≤ q by omega) (show (0 : Int) ≤ 1000000000000000000000000000 by decide)
        omega
      · omega
    refine z_iload K d_N_become_J_19 rfl ?_
    refine z_iconst (v := jI 3) K d_N_become_J_21 rfl ?_
    refine zi_icmp_ge (tgt := 63) K d_N_become_J_22 (by decide) (by omega) (by omega) (fun hc => ?_) (fun hc => absurd hc (by omega))
    refine z_re [0, 1, 5] rfl (kx 3 f (by omega) hg (fun j hj => ?_) (by rw [hq] at hv; omega))
    have := ht j hj
    rw [hq] at this
    omega
  | succ d ih =>
    intro i f q hi hg q0 q1 hv ht
    refine z_iload K d_N_become_J_19 rfl ?_
    refine z_iconst (v := jI 3) K d_N_become_J_21 rfl ?_
    refine zi_icmp_ge (tgt := 63) K d_N_become_J_22 (by decide) (by omega) (by omega) (fun hc => absurd hc (by omega)) (fun hc => ?_)
    refine z_lload_n K d_N_become_J_25 rfl ?_
    refine z_lconst (v := kI 0) K d_N_become_J_26 rfl ?_
    refine zi_lc_eq (tgt := 63) K d_N_become_J_27 d_N_become_J_28 (by decide) (by omega) (by omega) (fun hc => ?_) (fun hc => ?_)
    · have hq : q = 0 := by omega
      refine z_re [0, 1, 5] rfl (kx i f (by omega) hg (fun j hj => ?_) (by rw [hq] at hv; omega))
      have := ht j hj
      rw [hq] at this
      omega
    · have hq := Int.emod_nonneg q (show (1000000000 : Int) ≠ 0 by decide)
      have hq2 := Int.emod_lt_of_pos q (show (0 : Int) < 1000000000 by decide)
      have e1 : (-q).tmod 1000000000 = -(q % 1000000000) := by rw [Int.neg_tmod, Int.tmod_eq_emod_of_nonneg q0]
      have e2 : (-q).tdiv 1000000000 = -(q / 1000000000) := by rw [Int.neg_tdiv, Int.tdiv_eq_ediv_of_nonneg q0]
      have q3 : q / 1000000000 ≤ q := Int.ediv_le_self _ q0
      have q4 : 0 ≤ q / 1000000000 := Int.ediv_nonneg q0 (by decide)
      refine z_aload_n K d_N_become_J_31 rfl ?_
      refine zx_gN K (by first | assumption | rfl) fd_N_15 rfl d_N_become_J_32 ?_
      refine z_iload K d_N_become_J_35 rfl ?_
      refine z_lload_n K d_N_become_J_37 rfl ?_
      refine z_ldc2 (v := kI 1000000000) K d_N_become_J_38 kc_N_29 ?_
      refine zi_lrem K d_N_become_J_41 (by omega) (by decide) (by decide) ?_
      rw [e1]
      refine zi_lneg K d_N_become_J_42 ?_
      refine zi_l2i K d_N_become_J_43 ?_
      rw [Int.neg_neg]
      refine zx_cst K hk (by omega) d_N_become_J_44 ?_
      refine z_hp (congrArg (hx G h a) (show (S.sC (nu S.C k f)).sC (nu (S.sC (nu S.C k f)).C k (iu ((S.sC (nu S.C k f)).C k) i (q % 1000000000))) = S.sC (nu S.C k (iu f i (q % 1000000000))) by show (nu (nu S.C k f) k (iu (nu S.C k f k) i (q % 1000000000)), S.2) = _; rw [nu_nu, nu_self])) ?_
      refine z_lload_n K d_N_become_J_45 rfl ?_
      refine z_ldc2 (v := kI 1000000000) K d_N_become_J_46 kc_N_29 ?_
      refine zi_ldiv K d_N_become_J_49 (by omega) (by decide) (by decide) ?_
      rw [e2]
      refine z_lstore_n K d_N_become_J_50 (by decide) ?_
      refine z_iload K d_N_become_J_51 rfl ?_
      refine z_iconst (v := jI 1) K d_N_become_J_53 rfl ?_
      refine zi_iadd K d_N_become_J_54 ?_
      refine z_istore K d_N_become_J_55 (by decide) ?_
      refine zi_iinc K d_N_become_J_57 rfl (by decide) ?_
      refine z_goto (tgt := 19) K d_N_become_J_60 (by decide) ?_
      refine z_re [0, 1, 3, 5, 6] rfl ?_
      have hdv : dv (iu f i (q % 1000000000)) 0 i = dv f 0 i := dv_iu (fun j hj => by omega)
      refine ih (i + 1) (iu f i (q % 1000000000)) (q / 1000000000) (by omega) (fun j hj => ?_) q4 (by omega) ?_ (fun j hj => ?_)
      · by_cases e : j = i
        · subst e; rw [Int.zero_add, iu_self]; exact ⟨hq, hq2⟩
        · rw [iu_ne _ _ (by omega)]; exact hg j (by omega)
      · show dv (iu f i (q % 1000000000)) 0 i + iu f i (q % 1000000000) (0 + i) * BS ^ i + BS ^ i * BS * (q / 1000000000) = m0
        rw [hdv, Int.zero_add, iu_self]
        exact bj_step hv
      · have : j = i := by omega
        subst this
        rw [iu_self]
        have := Int.emod_add_mul_ediv q 1000000000
        omega
set_option maxHeartbeats 4000000 in
set_option maxRecDepth 100000 in
/-- become(long) -/
theorem c_N_become_J (l : Launch) (G : zG) (b0 : Nat) (h : zH) (a : Nat) (S : xS) {k : Nat} {v : Int} (hk : isN k = true) (hv : i64 v) : xMet l G b0 y_N_become_J b_N_become_J 7 none 0 0 h a [.ref (a + k), .long (kI v)] S (fun o S' => o = none ∧ xK k S S' ∧ ∃ n : Nat, n ≤ 3 ∧ NR S' k n v) :=
  z_met (by decide) (Nat.le_of_ble_eq_true rfl) fun p e s m below meth c K hr hlk hnm => by
  have hR := nR_le k
  have e0 : hx G h a S = hx G h a (S.sC (nu S.C k (S.C k))) := by rw [nu_id]
  have fin : ∀ (i : Nat) (f : Int → Int), i ≤ 3 → dg f 0 i → (∀ j : Nat, i = j + 1 → f j ≠ 0) → dv f 0 i = (v.natAbs : Int) → ∀ b' : Int, b' = (if v < 0 then 1 else 0) → ∃ S' : xS, hx G h a (((S.sC (nu S.C k f)).sL (nu S.L k i)).sB (nu S.B k b')) = hx G h a S' ∧ (none : Option Value) = none ∧ xK k S S' ∧ ∃ n : Nat, n ≤ 3 ∧ NR S' k n v := by
    intro i f h1 h2 h3 h4 b' hb
    refine ⟨_, rfl, rfl, ⟨fun j hj => ⟨nu_ne _ _ hj, nu_ne _ _ hj, nu_ne _ _ hj⟩, rfl⟩, i, h1, nu_self _ _ _, by omega, ?_, ?_, (nu_self _ _ _).trans hb, ?_⟩
    · show dg (nu S.C k f k) 0 i; rw [nu_self]; exact h2
    · show ∀ j : Nat, i = j + 1 → nu S.C k f k j ≠ 0; rw [nu_self]; exact h3
    · show _ = dv (nu S.C k f k) 0 i; rw [nu_self]; exact h4.symm
  refine z_hp e0 ?_
  refine z_lload_n K d_N_become_J_0 rfl ?_
  refine z_lconst (v := kI 0) K d_N_become_J_1 rfl ?_
  refine zi_lc_ge (tgt := 10) K d_N_become_J_2 d_N_become_J_3 (by decide) (by omega) (by omega) (fun hc => ?_) (fun hc => ?_)
  · refine z_lload_n K d_N_become_J_10 rfl ?_
    refine zi_lneg K d_N_become_J_11 ?_
    refine z_lstore_n K d_N_become_J_12 (by decide) ?_
    refine z_iconst (v := jI 0) K d_N_become_J_13 rfl ?_
    refine z_istore K d_N_become_J_14 (by decide) ?_
    refine z_iconst (v := jI 0) K d_N_become_J_16 rfl ?_
    refine z_istore K d_N_become_J_17 (by decide) ?_
    refine z_re [0, 1, 3, 5, 6] rfl ?_
    rw [show -v = -(v.natAbs : Int) by omega]
    refine lp_N_become_J (v := v) (m0 := v.natAbs) K hk (by omega) (fun i f h1 h2 h3 h4 => ?_) 3 0 (S.C k) (v.natAbs : Int) (by omega) (fun j hj => absurd hj (by omega)) (by omega) (by omega) (by show 0 + BS ^ 0 * (v.natAbs : Int) = v.natAbs; rw [Int.pow_zero]; omega) (fun j hj => absurd hj (by omega))
    refine z_aload_n K d_N_become_J_63 rfl ?_
    refine z_iload K d_N_become_J_64 rfl ?_
    refine zx_pL K (by first | assumption | rfl) fd_N_21 d_N_become_J_66 ?_
    refine z_aload_n K d_N_become_J_69 rfl ?_
    refine z_lload_n K d_N_become_J_70 rfl ?_
    refine z_lconst (v := kI 0) K d_N_become_J_71 rfl ?_
    refine zi_lc_ge (tgt := 80) K d_N_become_J_72 d_N_become_J_73 (by decide) (by omega) (by omega) (fun hc => ?_) (fun hc => ?_)
    · refine z_iconst (v := jI 0) K d_N_become_J_80 rfl ?_
      refine zx_pB K (by first | assumption | rfl) fd_N_25 (by omega) d_N_become_J_81 ?_
      exact z_vret K hr hlk d_N_become_J_84 (fin i f h1 h2 h3 h4 0 (by rw [if_neg (by omega)]))
    · refine z_iconst (v := jI 1) K d_N_become_J_76 rfl ?_
      refine z_goto (tgt := 81) K d_N_become_J_77 (by decide) ?_
      refine zx_pB K (by first | assumption | rfl) fd_N_25 (by omega) d_N_become_J_81 ?_
      exact z_vret K hr hlk d_N_become_J_84 (fin i f h1 h2 h3 h4 1 (by rw [if_pos (by omega)]))
  · refine z_lload_n K d_N_become_J_6 rfl ?_
    refine z_goto (tgt := 12) K d_N_become_J_7 (by decide) ?_
    refine z_lstore_n K d_N_become_J_12 (by decide) ?_
    refine z_iconst (v := jI 0) K d_N_become_J_13 rfl ?_
    refine z_istore K d_N_become_J_14 (by decide) ?_
    refine z_iconst (v := jI 0) K d_N_become_J_16 rfl ?_
    refine z_istore K d_N_become_J_17 (by decide) ?_
    refine z_re (lv' := [(0, .ref (a + k)), (1, .long (kI v)), (3, .long (kI (-(v.natAbs : Int)))), (5, .int (jI 0)), (6, .int (jI 0))]) [0, 1, 3, 5, 6] (by rw [show -(v.natAbs : Int) = v by omega]; rfl) ?_
    refine lp_N_become_J (v := v) (m0 := v.natAbs) K hk (by omega) (fun i f h1 h2 h3 h4 => ?_) 3 0 (S.C k) (v.natAbs : Int) (by omega) (fun j hj => absurd hj (by omega)) (by omega) (by omega) (by show 0 + BS ^ 0 * (v.natAbs : Int) = v.natAbs; rw [Int.pow_zero]; omega) (fun j hj => absurd hj (by omega))
    refine z_aload_n K d_N_become_J_63 rfl ?_
    refine z_iload K d_N_become_J_64 rfl ?_
    refine zx_pL K (by first | assumption | rfl) fd_N_21 d_N_become_J_66 ?_
    refine z_aload_n K d_N_become_J_69 rfl ?_
    refine z_lload_n K d_N_become_J_70 rfl ?_
    refine z_lconst (v := kI 0) K d_N_become_J_71 rfl ?_
    refine zi_lc_ge (tgt := 80) K d_N_become_J_72 d_N_become_J_73 (by decide) (by omega) (by omega) (fun hc => ?_) (fun hc => ?_)
    · refine z_iconst (v := jI 0) K d_N_become_J_80 rfl ?_
      refine zx_pB K (by first | assumption | rfl) fd_N_25 (by omega) d_N_become_J_81 ?_
      exact z_vret K hr hlk d_N_become_J_84 (fin i f h1 h2 h3 h4 0 (by rw [if_neg (by omega)]))
    · refine z_iconst (v := jI 1) K d_N_become_J_76 rfl ?_
      refine z_goto (tgt := 81) K d_N_become_J_77 (by decide) ?_
      refine zx_pB K (by first | assumption | rfl) fd_N_25 (by omega) d_N_become_J_81 ?_
      exact z_vret K hr hlk d_N_become_J_84 (fin i f h1 h2 h3 h4 1 (by rw [if_pos (by omega)]))
end N3
