section N1
variable {p : Program} {l : Launch} {e : Env} {R : Room} {s : State} {m : MethodId} {args : Array Value} {below : List Frame} {meth : Method} {c : Code} {Q : State → Prop} {b0 kc ks : Nat} {G : zG} {h : zH} {a : Nat} {cd : Int}
set_option maxHeartbeats 4000000 in
set_option maxRecDepth 100000 in
theorem c_N_becomeZero (l : Launch) (G : zG) (b0 : Nat) (h : zH) (a : Nat) (S : xS) {k : Nat} (hk : isN k = true) : xMet l G b0 y_N_becomeZero b_N_becomeZero 1 none 0 0 h a [.ref (a + k)] S (fun o S' => o = none ∧ xK k S S' ∧ S'.C = S.C ∧ NR S' k 0 0) :=
  z_met (by decide) (Nat.le_of_ble_eq_true rfl) fun p e s m below meth c K hr hlk hnm => by
  refine z_aload_n K d_N_becomeZero_0 rfl ?_
  refine z_iconst (v := jI 0) K d_N_becomeZero_1 rfl ?_
  refine zx_pL K (by first | assumption | rfl) fd_N_21 d_N_becomeZero_2 ?_
  refine z_aload_n K d_N_becomeZero_5 rfl ?_
  refine z_iconst (v := jI 0) K d_N_becomeZero_6 rfl ?_
  refine zx_pB K (by first | assumption | rfl) fd_N_25 (by omega) d_N_becomeZero_7 ?_
  exact z_vret K hr hlk d_N_becomeZero_10 ⟨_, rfl, rfl, ⟨fun j hj => ⟨rfl, nu_ne _ _ hj, nu_ne _ _ hj⟩, rfl⟩, rfl, nu_self _ _ _, Nat.zero_le _, fun i hi => absurd hi (by omega), fun j hj => absurd hj (by omega), nu_self _ _ _, rfl⟩
set_option maxHeartbeats 4000000 in
set_option maxRecDepth 100000 in
theorem lp_N_settle (K : zC p s m args c b_N_settle R_N 4 b0 G) {S : xS} {k N : Nat} {b w1 : Int} (hk : isN k = true) (hN : N ≤ nR k) (hg : dg (S.C k) 0 N) (kx : ∀ n : Nat, n ≤ N → (∀ j : Nat, n = j + 1 → S.C k j ≠ 0) → dv (S.C k) 0 n = dv (S.C k) 0 N → zW p l e R s m args below meth c 4 b0 G kc ks Q (hx G h a S) 40 [(0, .ref (a + k)), (2, .int (jI b)), (3, .int (jI n))] []) :
    ∀ n : Nat, n ≤ N → dv (S.C k) 0 n = dv (S.C k) 0 N → zW p l e R s m args below meth c 4 b0 G kc ks Q (hx G h a S) 19 [(0, .ref (a + k)), (1, .int (jI w1)), (2, .int (jI b)), (3, .int (jI n))] [] := by
  intro n
  have hR := nR_le k
  induction n with
  | zero =>
    intro hn hv
    refine z_iload_n K d_N_settle_19 rfl ?_
    refine zi_if_le (tgt := 40) K d_N_settle_20 (by decide) (by omega) (fun hc => ?_) (fun hc => absurd hc (by omega))
    exact z_re [0, 2, 3] rfl (kx 0 hn (fun j hj => absurd hj (by omega)) hv)
  | succ n ih =>
    intro hn hv
    have hgn := hg n (by omega)
    rw [Int.zero_add] at hgn
    refine z_iload_n K d_N_settle_19 rfl ?_
    refine zi_if_le (tgt := 40) K d_N_settle_20 (by decide) (by omega) (fun hc => absurd hc (by omega)) (fun hc => ?_)
    refine z_aload_n K d_N_settle_23 rfl ?_
    refine zx_gN K (by first | assumption | rfl) fd_N_15 rfl d_N_settle_24 ?_
    refine z_iload_n K d_N_settle_27 rfl ?_
    refine z_iconst (v := jI 1) K d_N_settle_28 rfl ?_
    refine zi_isub K d_N_settle_29 ?_
    refine zx_cld K (by first | assumption | rfl) (by omega) d_N_settle_30 ?_
    rw [show ((n + 1 : Nat) : Int) - 1 = n by omega]
    refine zi_if_ne (tgt := 40) K d_N_settle_31 (by decide) (by omega) (fun hc => ?_) (fun hc => ?_)
    · refine z_re [0, 2, 3] rfl (kx (n + 1) hn (fun j hj => ?_) hv)
      rw [show j = n by omega]; exact hc
    · refine zi_iinc K d_N_settle_34 rfl (by decide) ?_
      refine z_goto (tgt := 19) K d_N_settle_37 (by decide) ?_
      refine z_re [0, 1, 2, 3] rfl ?_
      rw [show ((n + 1 : Nat) : Int) + -1 = n by omega]
      refine ih (by omega) ?_
      rw [← hv]
      exact (dv_shrink hc).symm
set_option maxHeartbeats 4000000 in
set_option maxRecDepth 100000 in
/-- settle: the number that the first limbs make -/
theorem c_N_settle (l : Launch) (G : zG) (b0 : Nat) (h : zH) (a : Nat) (S : xS) {k N : Nat} {b : Int} (hk : isN k = true) (hN : N ≤ nR k) (hb : b = 0 ∨ b = 1) (hg : dg (S.C k) 0 N) : xMet l G b0 y_N_settle b_N_settle 4 none 0 0 h a [.ref (a + k), .int (jI N), .int (jI b)] S (fun o S' => o = none ∧ xK k S S' ∧ S'.C = S.C ∧ ∃ n : Nat, NR S' k n (sgn b (dv (S.C k) 0 N))) :=
  z_met (by decide) (Nat.le_of_ble_eq_true rfl) fun p e s m below meth c K hr hlk hnm => by
  have hR := nR_le k
  have fin : ∀ n : Nat, n ≤ N → (∀ j : Nat, n = j + 1 → S.C k j ≠ 0) → dv (S.C k) 0 n = dv (S.C k) 0 N → ∀ b' : Int, (b' = b ∧ n ≠ 0 ∨ b' = 0 ∧ (b = 0 ∨ n = 0)) → ∃ S' : xS, hx G h a ((S.sL (nu S.L k n)).sB (nu S.B k b')) = hx G h a S' ∧ (none : Option Value) = none ∧ xK k S S' ∧ S'.C = S.C ∧ ∃ n : Nat, NR S' k n (sgn b (dv (S.C k) 0 N)) := by
    intro n h1 h2 h3 b' hb'
    refine ⟨_, rfl, rfl, ⟨fun j hj => ⟨rfl, nu_ne _ _ hj, nu_ne _ _ hj⟩, rfl⟩, rfl, n, ?_⟩
    have e : sgn b (dv (S.C k) 0 N) = sgn b' (dv (S.C k) 0 n) := by
      rw [← h3]
      rcases hb' with ⟨e, _⟩ | ⟨e, e2 | e2⟩
      · rw [e]
      · rw [e, e2]
      · subst e2; unfold sgn dv; by_cases q : b = 1 <;> by_cases q' : b' = 1 <;> simp [q, q']
    rw [e]
    exact NR.mk' (nu_self _ _ _) (Nat.le_trans h1 hN) (fun i hi => hg i (by omega)) h2 (nu_self _ _ _) (by omega)
  refine z_iload_n K d_N_settle_0 rfl ?_
  refine z_aload_n K d_N_settle_1 rfl ?_
  refine zx_gN K (by first | assumption | rfl) fd_N_15 rfl d_N_settle_2 ?_
  refine zx_alen K (by first | assumption | rfl) d_N_settle_5 ?_
  refine zi_icmp_gt (tgt := 13) K d_N_settle_6 (by decide) (by omega) (by omega) (fun hc => absurd hc (by omega)) (fun hc => ?_)
  refine z_iload_n K d_N_settle_9 rfl ?_
  refine z_goto (tgt := 18) K d_N_settle_10 (by decide) ?_
  refine z_istore_n K d_N_settle_18 (by decide) ?_
  refine z_re [0, 1, 2, 3] rfl ?_
  refine lp_N_settle K hk hN hg (fun n h1 h2 h3 => ?_) N (Nat.le_refl _) rfl
  refine z_aload_n K d_N_settle_40 rfl ?_
  refine z_iload_n K d_N_settle_41 rfl ?_
  refine zx_pL K (by first | assumption | rfl) fd_N_21 d_N_settle_42 ?_
  refine z_aload_n K d_N_settle_45 rfl ?_
  refine z_iload_n K d_N_settle_46 rfl ?_
  refine zi_if_eq (tgt := 58) K d_N_settle_47 (by decide) (by omega) (fun hc => ?_) (fun hc => ?_)
  · refine z_iconst (v := jI 0) K d_N_settle_58 rfl ?_
    refine zx_pB K (by first | assumption | rfl) fd_N_25 (by omega) d_N_settle_59 ?_
    exact z_vret K hr hlk d_N_settle_62 (fin n h1 h2 h3 0 (by omega))
  · refine z_iload_n K d_N_settle_50 rfl ?_
    refine zi_if_le (tgt := 58) K d_N_settle_51 (by decide) (by omega) (fun hc => ?_) (fun hc => ?_)
    · refine z_iconst (v := jI 0) K d_N_settle_58 rfl ?_
      refine zx_pB K (by first | assumption | rfl) fd_N_25 (by omega) d_N_settle_59 ?_
      exact z_vret K hr hlk d_N_settle_62 (fin n h1 h2 h3 0 (by omega))
    · refine z_iconst (v := jI 1) K d_N_settle_54 rfl ?_
      refine z_goto (tgt := 59) K d_N_settle_55 (by decide) ?_
      refine zx_pB K (by first | assumption | rfl) fd_N_25 (by omega) d_N_settle_59 ?_
      exact z_vret K hr hlk d_N_settle_62 (fin n h1 h2 h3 1 (by omega))
set_option maxHeartbeats 4000000 in
set_option maxRecDepth 100000 in
theorem c_N_changeSign (l : Launch) (G : zG) (b0 : Nat) (h : zH) (a : Nat) (S : xS) {k n : Nat} {v : Int} (hk : isN k = true) (hv : NR S k n v) : xMet l G b0 y_N_changeSign b_N_changeSign 1 none 0 0 h a [.ref (a + k)] S (fun o S' => o = none ∧ xK k S S' ∧ S'.C = S.C ∧ NR S' k n (-v)) :=
  z_met (by decide) (Nat.le_of_ble_eq_true rfl) fun p e s m below meth c K hr hlk hnm => by
  have hz := hv.zero
  have hb := hv.2.2.2.2.1
  have hb1 := hv.b01
  have hL := hv.1
  have hn := hv.i31
  have fin : ∀ b' : Int, b' = (if -v < 0 then 1 else 0) → ∃ S' : xS, hx G h a (S.sB (nu S.B k b')) = hx G h a S' ∧ (none : Option Value) = none ∧ xK k S S' ∧ S'.C = S.C ∧ NR S' k n (-v) := by
    intro b' e
    exact ⟨_, rfl, rfl, ⟨fun j hj => ⟨rfl, rfl, nu_ne _ _ hj⟩, rfl⟩, rfl, hv.1, hv.2.1, hv.2.2.1, hv.2.2.2.1, (nu_self _ _ _).trans e, by rw [Int.natAbs_neg]; exact hv.2.2.2.2.2⟩
  refine z_aload_n K d_N_changeSign_0 rfl ?_
  refine z_aload_n K d_N_changeSign_1 rfl ?_
  refine zx_gN K (by first | assumption | rfl) fd_N_25 rfl d_N_changeSign_2 ?_
  refine zi_if_ne (tgt := 19) K d_N_changeSign_5 (by decide) (by omega) (fun hc => ?_) (fun hc0 => ?_)
  · refine z_iconst (v := jI 0) K d_N_changeSign_19 rfl ?_
    refine zx_pB K (by first | assumption | rfl) fd_N_25 (by omega) d_N_changeSign_20 ?_
    exact z_vret K hr hlk d_N_changeSign_23 (fin 0 (by rw [if_neg]; intro q; rw [if_neg (by omega)] at hb; omega))
  · refine z_aload_n K d_N_changeSign_8 rfl ?_
    refine zx_gN K (by first | assumption | rfl) fd_N_21 rfl d_N_changeSign_9 ?_
    rw [hL]
    refine zi_if_le (tgt := 19) K d_N_changeSign_12 (by decide) (by omega) (fun hc => ?_) (fun hc => ?_)
    · refine z_iconst (v := jI 0) K d_N_changeSign_19 rfl ?_
      refine zx_pB K (by first | assumption | rfl) fd_N_25 (by omega) d_N_changeSign_20 ?_
      exact z_vret K hr hlk d_N_changeSign_23 (fin 0 (by rw [if_neg]; have := hz.1 (by omega); omega))
    · refine z_iconst (v := jI 1) K d_N_changeSign_15 rfl ?_
      refine z_goto (tgt := 20) K d_N_changeSign_16 (by decide) ?_
      refine zx_pB K (by first | assumption | rfl) fd_N_25 (by omega) d_N_changeSign_20 ?_
      exact z_vret K hr hlk d_N_changeSign_23 (fin 1 (by rw [if_pos]; rw [hb] at hc0; by_cases q : v < 0; · rw [if_pos q] at hc0; omega
                                                         · have := mt hz.2 (by omega); omega))
set_option maxHeartbeats 4000000 in
set_option maxRecDepth 100000 in
theorem c_N_isZero (l : Launch) (G : zG) (b0 : Nat) (h : zH) (a : Nat) (S : xS) {k n : Nat} {v : Int} (hk : isN k = true) (hv : NR S k n v) : xMet l G b0 y_N_isZero b_N_isZero 1 (some .boolean) 0 0 h a [.ref (a + k)] S (fun o S' => S = S' ∧ ∃ b : Int, o = some (.int (jI b)) ∧ (b = 0 ∨ b = 1) ∧ (b = 1 ↔ v = 0)) :=
  z_met (by decide) (Nat.le_of_ble_eq_true rfl) fun p e s m below meth c K hr hlk hnm => by
  have hz := hv.zero
  have hL := hv.1
  have hn := hv.i31
  refine z_aload_n K d_N_isZero_0 rfl ?_
  refine zx_gN K (by first | assumption | rfl) fd_N_21 rfl d_N_isZero_1 ?_
  rw [hL]
  refine zi_if_ne (tgt := 11) K d_N_isZero_4 (by decide) (by omega) (fun hc => ?_) (fun hc => ?_)
  · refine z_iconst (v := jI 0) K d_N_isZero_11 rfl ?_
    exact z_zret K hr hlk d_N_isZero_12 rfl ⟨_, rfl, rfl, 0, rfl, Or.inl rfl, by omega⟩
  · refine z_iconst (v := jI 1) K d_N_isZero_7 rfl ?_
    refine z_goto (tgt := 12) K d_N_isZero_8 (by decide) ?_
    exact z_zret K hr hlk d_N_isZero_12 rfl ⟨_, rfl, rfl, 1, rfl, Or.inr rfl, by omega⟩
/-- limb number i -/
def lb (S : xS) (k n : Nat) (i : Int) : Int := if 0 ≤ i ∧ i < n then S.C k i else 0
set_option maxHeartbeats 4000000 in
set_option maxRecDepth 100000 in
theorem c_N_limb (l : Launch) (G : zG) (b0 : Nat) (h : zH) (a : Nat) (S : xS) {k n : Nat} {i : Int} (hk : isN k = true) (hL : S.L k = n) (hn2 : n ≤ nR k) (hi : i32 i) : xMet l G b0 y_N_limb b_N_limb 2 (some .int) 0 0 h a [.ref (a + k), .int (jI i)] S (fun o S' => S = S' ∧ o = some (.int (jI (lb S k n i)))) :=
  z_met (by decide) (Nat.le_of_ble_eq_true rfl) fun p e s m below meth c K hr hlk hnm => by
  have hn := Nat.le_trans hn2 (nR_le k).2
  refine z_iload_n K d_N_limb_0 rfl ?_
  refine zi_if_lt (tgt := 21) K d_N_limb_1 (by decide) (by omega) (fun hc => ?_) (fun hc => ?_)
  · refine z_iconst (v := jI 0) K d_N_limb_21 rfl ?_
    exact z_iret K hr hlk d_N_limb_22 ⟨_, rfl, rfl, by rw [lb, if_neg (by omega)]⟩
  · refine z_iload_n K d_N_limb_4 rfl ?_
    refine z_aload_n K d_N_limb_5 rfl ?_
    refine zx_gN K (by first | assumption | rfl) fd_N_21 rfl d_N_limb_6 ?_
    rw [hL]
    refine zi_icmp_ge (tgt := 21) K d_N_limb_9 (by decide) (by omega) (by omega) (fun hc => ?_) (fun hc => ?_)
    · refine z_iconst (v := jI 0) K d_N_limb_21 rfl ?_
      exact z_iret K hr hlk d_N_limb_22 ⟨_, rfl, rfl, by rw [lb, if_neg (by omega)]⟩
    · refine z_aload_n K d_N_limb_12 rfl ?_
      refine zx_gN K (by first | assumption | rfl) fd_N_15 rfl d_N_limb_13 ?_
      refine z_iload_n K d_N_limb_16 rfl ?_
      refine zx_cld K (by first | assumption | rfl) (by omega) d_N_limb_17 ?_
      refine z_goto (tgt := 22) K d_N_limb_18 (by decide) ?_
      exact z_iret K hr hlk d_N_limb_22 ⟨_, rfl, rfl, by rw [lb, if_pos (by omega)]⟩
end N1
