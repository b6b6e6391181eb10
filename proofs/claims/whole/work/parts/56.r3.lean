section R3
variable {p : Program} {l : Launch} {e : Env} {R : Room} {s : State} {m : MethodId} {args : Array Value} {below : List Frame} {meth : Method} {c : Code} {Q : State → Prop} {b0 kc ks : Nat} {G : zG} {h : zH} {a : Nat} {cd : Int}
set_option maxHeartbeats 4000000 in
set_option maxRecDepth 100000 in
theorem lp_R_store (K : zC p s m args c b_R_store R_R 6 b0 G) {S : xS} {ar len N o : Nat} {F : Int → Int} {b w2 : Int} (har : (hx G h a S).2 ar = .inl (G.2 0, len, .inl (fun i : Nat => jI (F i)))) (hlen : len ≤ 113) (hN : N ≤ len) (hg : dg F 0 N) (kx : ∀ n : Nat, n ≤ N → (∀ j : Nat, n = j + 1 → F j ≠ 0) → dv F 0 n = dv F 0 N → zW p l e R s m args below meth c 6 b0 G kc ks Q (hx G h a S) 28 [(0, .ref (a + 1)), (1, .ref ar), (3, .int (jI b)), (4, .ref (a + o)), (5, .int (jI n))] []) :
    ∀ n : Nat, n ≤ N → dv F 0 n = dv F 0 N → zW p l e R s m args below meth c 6 b0 G kc ks Q (hx G h a S) 8 [(0, .ref (a + 1)), (1, .ref ar), (2, .int (jI w2)), (3, .int (jI b)), (4, .ref (a + o)), (5, .int (jI n))] [] := by
  intro n
  induction n with
  | zero =>
    intro hn hv
    refine z_iload K d_R_store_8 rfl ?_
    refine zi_if_le (tgt := 28) K d_R_store_10 (by decide) (by omega) (fun hc => ?_) (fun hc => absurd hc (by omega))
    exact z_re [0, 1, 3, 4, 5] rfl (kx 0 hn (fun j hj => absurd hj (by omega)) hv)
  | succ n ih =>
    intro hn hv
    have hgn := hg n (by omega)
    rw [Int.zero_add] at hgn
    refine z_iload K d_R_store_8 rfl ?_
    refine zi_if_le (tgt := 28) K d_R_store_10 (by decide) (by omega) (fun hc => absurd hc (by omega)) (fun hc => ?_)
    refine z_aload_n K d_R_store_13 rfl ?_
    refine z_iload K d_R_store_14 rfl ?_
    refine z_iconst (v := jI 1) K d_R_store_16 rfl ?_
    refine zi_isub K d_R_store_17 ?_
    refine zi_iald K 0 har rfl (by omega) (by omega) (by omega) d_R_store_18 ?_
    rw [show ((n + 1 : Nat) : Int) - 1 = n by omega]
    refine zi_if_ne (tgt := 28) K d_R_store_19 (by decide) (by omega) (fun hc => ?_) (fun hc => ?_)
    · refine z_re [0, 1, 3, 4, 5] rfl (kx (n + 1) hn (fun j hj => ?_) hv)
      rw [show j = n by omega]; exact hc
    · refine zi_iinc K d_R_store_22 rfl (by decide) ?_
      refine z_goto (tgt := 8) K d_R_store_25 (by decide) ?_
      refine z_re [0, 1, 2, 3, 4, 5] rfl ?_
      rw [show ((n + 1 : Nat) : Int) + -1 = n by omega]
      refine ih (by omega) ?_
      rw [← hv]
      exact (dv_shrink hc).symm
theorem top_le {F : Int → Int} {n m : Nat} (hg : dg F 0 n) (ht : ∀ j : Nat, n = j + 1 → F j ≠ 0) (h : dv F 0 n < BS ^ m) : n ≤ m := by
  rcases Nat.lt_or_ge m n with q | q
  · exfalso
    obtain ⟨j, rfl⟩ : ∃ j, n = j + 1 := ⟨n - 1, by omega⟩
    have h7 := dv_bd (f := F) (b := 0) (n := j) (fun i hi => hg i (by omega))
    have h8 := hg j (by omega)
    have h9 := ht j rfl
    rw [Int.zero_add] at h8
    have e : dv F 0 (j + 1) = dv F 0 j + F j * BS ^ j := by
      show dv F 0 j + F (0 + j) * BS ^ j = _
      rw [Int.zero_add]
    have h10 := Int.mul_le_mul_of_nonneg_right (show 1 ≤ F j by omega) (Int.le_of_lt (BS_pos j))
    have h11 := BS_mono (show m ≤ j by omega)
    omega
  · exact q
set_option maxHeartbeats 4000000 in
set_option maxRecDepth 100000 in
/-- store: the number that the first N cells of an array make -/
theorem c_R_store (l : Launch) (G : zG) (b0 : Nat) (h : zH) (a : Nat) (S : xS) {ar len N o : Nat} {F : Int → Int} {b : Int} (ho0 : isN o = true) (har : (hx G h a S).2 ar = .inl (G.2 0, len, .inl (fun i : Nat => jI (F i)))) (hlen : len ≤ 113) (hN : N ≤ len) (hb : b = 0 ∨ b = 1) (hg : dg F 0 N) (fs : dv F 0 N < BS ^ nR o) : xMet l G b0 y_R_store b_R_store 6 none 1 40 h a [.ref (a + 1), .ref ar, .int (jI N), .int (jI b), .ref (a + o)] S (fun r S' => r = none ∧ xK o S S' ∧ (S'.r0 = S.r0 ∧ S'.r1 = S.r1 ∧ S'.r2 = S.r2) ∧ ∃ n : Nat, NR S' o n (sgn b (dv F 0 N))) :=
  z_met (by decide) (Nat.le_of_ble_eq_true rfl) fun p e s m below meth c K hr hlk hnm => by
  have hR := nR_le o
  refine z_iload_n K d_R_store_0 rfl ?_
  refine z_aload_n K d_R_store_1 rfl ?_
  refine zi_alen (t0 := 0) K har rfl d_R_store_2 ?_
  refine z_callS (As := [.int (jI N), .int (jI len)]) K (c_min l G b0 (hx G h a S) (x := N) (y := len) (by omega) (by omega)) ca_R_106 sm_min rfl rfl (by decide) (Nat.le_of_ble_eq_true rfl) d_R_store_3 (fun r h1 hp => ?_)
  obtain ⟨rfl, rfl⟩ := hp
  rw [show (min (N : Int) (len : Int)) = N by omega]
  refine z_istore K d_R_store_6 (by decide) ?_
  refine z_re [0, 1, 2, 3, 4, 5] rfl ?_
  refine lp_R_store K har hlen hN hg (fun n h1 h2 h3 => ?_) N (Nat.le_refl _) rfl
  have hn : n ≤ nR o := top_le (fun i hi => hg i (by omega)) h2 (by rw [h3]; exact fs)
  have fin : ∀ b' : Int, (b' = b ∧ n ≠ 0 ∨ b' = 0 ∧ (b = 0 ∨ n = 0)) → ∃ S' : xS, hx G h a (((S.sC (nu S.C o (fun i : Int => if i < (n : Int) then F i else S.C o i))).sL (nu S.L o n)).sB (nu S.B o b')) = hx G h a S' ∧ (none : Option Value) = none ∧ xK o S S' ∧ (S'.r0 = S.r0 ∧ S'.r1 = S.r1 ∧ S'.r2 = S.r2) ∧ ∃ n : Nat, NR S' o n (sgn b (dv F 0 N)) := by
    intro b' hb'
    refine ⟨_, rfl, rfl, ⟨fun j hj => ⟨nu_ne _ _ hj, nu_ne _ _ hj, nu_ne _ _ hj⟩, rfl⟩, ⟨rfl, rfl, rfl⟩, n, ?_⟩
    have e : sgn b (dv F 0 N) = sgn b' (dv F 0 n) := by
      rw [← h3]
      rcases hb' with ⟨e, _⟩ | ⟨e, e2 | e2⟩
      · rw [e]
      · rw [e, e2]
      · subst e2; unfold sgn dv; by_cases q : b = 1 <;> by_cases q' : b' = 1 <;> simp [q, q']
    have e2 : dv F 0 n = dv ((((S.sC (nu S.C o (fun i : Int => if i < (n : Int) then F i else S.C o i))).sL (nu S.L o n)).sB (nu S.B o b')).C o) 0 n := by
      refine dv_congr (fun i hi => ?_)
      show F (0 + i) = nu S.C o _ o (0 + i)
      rw [nu_self, Int.zero_add]
      show F i = if (i : Int) < (n : Int) then F i else S.C o i
      rw [if_pos (by omega)]
    rw [e, e2]
    refine NR.mk' (nu_self _ _ _) hn (fun i hi => ?_) (fun i hi => ?_) (nu_self _ _ _) (by omega)
    · show 0 ≤ nu S.C o _ o (0 + i) ∧ nu S.C o _ o (0 + i) < 1000000000
      rw [nu_self, Int.zero_add]
      show 0 ≤ (if (i : Int) < (n : Int) then F i else S.C o i) ∧ (if (i : Int) < (n : Int) then F i else S.C o i) < 1000000000
      rw [if_pos (by omega)]
      have := hg i (by omega)
      rw [Int.zero_add] at this
      exact this
    · show nu S.C o _ o i ≠ 0
      rw [nu_self]
      show (if (i : Int) < (n : Int) then F i else S.C o i) ≠ 0
      rw [if_pos (by omega)]
      exact h2 i hi
  refine z_iload K d_R_store_28 rfl ?_
  refine z_aload K d_R_store_30 rfl ?_
  refine zx_gN K (by first | assumption | rfl) fd_R_59 rfl d_R_store_32 ?_
  refine zx_alen K (by first | assumption | rfl) d_R_store_35 ?_
  refine zi_icmp_le (tgt := 46) K d_R_store_36 (by decide) (by omega) (by omega) (fun hc => ?_) (fun hc => absurd hc (by omega))
  refine z_aload_n K d_R_store_46 rfl ?_
  refine z_iconst (v := jI 0) K d_R_store_47 rfl ?_
  refine z_aload K d_R_store_48 rfl ?_
  refine zx_gN K (by first | assumption | rfl) fd_R_59 rfl d_R_store_50 ?_
  refine z_iconst (v := jI 0) K d_R_store_53 rfl ?_
  refine z_iload K d_R_store_54 rfl ?_
  refine zi_copy K ca_cpyR har (hx_A ho0) (by omega) (by omega) (by omega) (by omega) (by decide) (by decide) d_R_store_56 ?_
  refine z_hp (hx_sC (f := fun i : Int => if i < (n : Int) then F i else S.C o i) ho0) ?_
  refine z_aload K d_R_store_59 rfl ?_
  refine z_iload K d_R_store_61 rfl ?_
  refine zx_pL K (by first | assumption | rfl) fd_R_49 d_R_store_63 ?_
  refine z_aload K d_R_store_66 rfl ?_
  refine z_iload_n K d_R_store_68 rfl ?_
  refine zi_if_eq (tgt := 81) K d_R_store_69 (by decide) (by omega) (fun hc => ?_) (fun hc => ?_)
  · refine z_iconst (v := jI 0) K d_R_store_81 rfl ?_
    refine zx_pB K (by first | assumption | rfl) fd_R_30 (by omega) d_R_store_82 ?_
    exact z_vret K hr hlk d_R_store_85 (fin 0 (by omega))
  · refine z_iload K d_R_store_72 rfl ?_
    refine zi_if_le (tgt := 81) K d_R_store_74 (by decide) (by omega) (fun hc => ?_) (fun hc => ?_)
    · refine z_iconst (v := jI 0) K d_R_store_81 rfl ?_
      refine zx_pB K (by first | assumption | rfl) fd_R_30 (by omega) d_R_store_82 ?_
      exact z_vret K hr hlk d_R_store_85 (fin 0 (by omega))
    · refine z_iconst (v := jI 1) K d_R_store_77 rfl ?_
      refine z_goto (tgt := 82) K d_R_store_78 (by decide) ?_
      refine zx_pB K (by first | assumption | rfl) fd_R_30 (by omega) d_R_store_82 ?_
      exact z_vret K hr hlk d_R_store_85 (fin 1 (by omega))
end R3
