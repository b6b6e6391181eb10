section M1
variable {p : Program} {l : Launch} {e : Env} {R : Room} {s : State} {m : MethodId} {args : Array Value} {below : List Frame} {meth : Method} {c : Code} {Q : State → Prop} {b0 kc ks : Nat} {G : zG} {h : zH} {a : Nat} {cd : Int}
set_option maxHeartbeats 4000000 in
set_option maxRecDepth 100000 in
theorem lp_M_forget (K : zC p s m args c b_M_forget R_M 2 b0 G) (T : mT) (hx : ∀ N : Int → Int, (∀ q : Int, N q = if 0 ≤ q ∧ q < 24 ∧ q % 3 = 0 then 1 else T.2.2.2 q) → zW p l e R s m args below meth c 2 b0 G kc ks Q (hm G h a cd (T.1, T.2.1, T.2.2.1, N)) 23 [(0, .ref a)] []) :
    ∀ (j : Nat) (i : Int) (N : Int → Int), i + j = 8 → 0 ≤ i → (∀ q : Int, N q = if 0 ≤ q ∧ q < 3 * i ∧ q % 3 = 0 then 1 else T.2.2.2 q) → zW p l e R s m args below meth c 2 b0 G kc ks Q (hm G h a cd (T.1, T.2.1, T.2.2.1, N)) 2 [(0, .ref a), (1, .int (jI i))] [] := by
  intro j
  induction j with
  | zero =>
    intro i N hi h0 hN
    have hi8 : i = 8 := by omega
    subst hi8
    refine z_iload_n K d_M_forget_2 rfl ?_
    refine z_bipush (v := jI 8) K d_M_forget_3 rfl ?_
    refine zi_icmp_ge (tgt := 23) K d_M_forget_5 (by decide) (by omega) (by omega) (fun hc => ?_) (fun hc => absurd hc (by omega))
    exact z_re [0] rfl (hx N hN)
  | succ j ih =>
    intro i N hi h0 hN
    refine z_iload_n K d_M_forget_2 rfl ?_
    refine z_bipush (v := jI 8) K d_M_forget_3 rfl ?_
    refine zi_icmp_ge (tgt := 23) K d_M_forget_5 (by decide) (by omega) (by omega) (fun hc => absurd hc (by omega)) (fun hc => ?_)
    refine z_aload_n K d_M_forget_8 rfl ?_
    refine zm_get K fd_M_19 rfl d_M_forget_9 ?_
    refine z_iconst (v := jI 3) K d_M_forget_12 rfl ?_
    refine z_iload_n K d_M_forget_13 rfl ?_
    refine zi_imul K d_M_forget_14 ?_
    refine z_iconst (v := jI 1) K d_M_forget_15 rfl ?_
    refine zm_nst K (by omega) (by omega) d_M_forget_16 ?_
    refine zi_iinc K d_M_forget_17 rfl (by decide) ?_
    refine z_goto (tgt := 2) K d_M_forget_20 (by decide) ?_
    refine z_re [0, 1] rfl ?_
    refine ih (i + 1) _ (by omega) (by omega) (fun q => ?_)
    simp only [iu]
    rw [hN q]
    by_cases hq : q = 3 * i
    · rw [if_pos hq, if_pos (by omega)]
    · rw [if_neg hq]
      by_cases h1 : 0 ≤ q ∧ q < 3 * i ∧ q % 3 = 0
      · rw [if_pos h1, if_pos (by omega)]
      · rw [if_neg h1, if_neg (by omega)]
/-- forget(): none is true at the eight slots -/
theorem c_M_forget (l : Launch) (G : zG) (b0 : Nat) (h : zH) (a : Nat) (cd : Int) (T : mT) : mMet l G b0 y_M_forget b_M_forget 2 none 0 0 h a cd [] T (fun r T' => r = none ∧ ∃ N : Int → Int, T' = (T.1, T.2.1, T.2.2.1, N) ∧ ∀ q : Int, N q = if 0 ≤ q ∧ q < 24 ∧ q % 3 = 0 then 1 else T.2.2.2 q) :=
  z_met (by decide) (Nat.le_of_ble_eq_true rfl) fun p e s m below meth c K hr hlk hnm => by
  refine z_iconst (v := jI 0) K d_M_forget_0 rfl ?_
  refine z_istore_n K d_M_forget_1 (by decide) ?_
  refine z_re [0, 1] rfl ?_
  refine lp_M_forget K T (fun N hN => ?_) 8 0 T.2.2.2 (by omega) (by omega) (fun q => by rw [if_neg (by omega)])
  exact z_vret K hr hlk d_M_forget_23 ⟨_, rfl, rfl, N, rfl, hN⟩
theorem iu_iu (f : Int → Int) (k v w : Int) : iu (iu f k v) k w = iu f k w := by
  funext j
  simp only [iu]
  by_cases hj : j = k
  · rw [if_pos hj, if_pos hj]
  · rw [if_neg hj, if_neg hj, if_neg hj]
theorem tmod_neg_BS {m : Int} (h : 0 ≤ m) : (-m).tmod BS = -(m % BS) := by rw [Int.neg_tmod, Int.tmod_eq_emod_of_nonneg h]
theorem tdiv_neg_BS {m : Int} (h : 0 ≤ m) : (-m).tdiv BS = -(m / BS) := by rw [Int.neg_tdiv, Int.tdiv_eq_ediv_of_nonneg h]
theorem dv_iu {f : Int → Int} {b : Int} {n : Nat} {k v : Int} (hk : ∀ j : Nat, j < n → b + j ≠ k) : dv (iu f k v) b n = dv f b n := dv_congr (fun j hj => iu_ne f v (hk j hj))
set_option maxHeartbeats 4000000 in
set_option maxRecDepth 100000 in
theorem lp_M_set (K : zC p s m args c b_M_set R_M 6 b0 G) (T : mT) {r v : Int} (hr0 : 0 ≤ r ∧ r < 56) {v2 : Value} (hx : ∀ T' : mT, (∃ n : Nat, n ≤ 3 ∧ Rg T' r n v) → Fr [r] T T' → zW p l e R s m args below meth c 6 b0 G kc ks Q (hm G h a cd T') 101 [(0, .ref a), (1, .int (jI r))] []) :
    ∀ (j i : Nat) (w : Int) (C : Int → Int), i + j = 3 → 0 ≤ w → w ≤ 9223372036854775808 → w < BS ^ j → (∀ q : Int, q < 460 * r ∨ 460 * r + 460 ≤ q → C q = T.1 q) → dg C (460 * r) i → (∀ k : Nat, i = k + 1 → w ≠ 0 ∨ C (460 * r + k) ≠ 0) → (v.natAbs : Int) = dv C (460 * r) i + w * BS ^ i →
      zW p l e R s m args below meth c 6 b0 G kc ks Q (hm G h a cd (C, iu T.2.1 r i, iu T.2.2.1 r v.sign, T.2.2.2)) 48 [(0, .ref a), (1, .int (jI r)), (2, v2), (4, .long (kI (-w)))] [] := by
  have fin : ∀ (i : Nat) (C : Int → Int), i ≤ 3 → (∀ q : Int, q < 460 * r ∨ 460 * r + 460 ≤ q → C q = T.1 q) → dg C (460 * r) i → (∀ k : Nat, i = k + 1 → C (460 * r + k) ≠ 0) → (v.natAbs : Int) = dv C (460 * r) i → zW p l e R s m args below meth c 6 b0 G kc ks Q (hm G h a cd (C, iu T.2.1 r i, iu T.2.2.1 r v.sign, T.2.2.2)) 101 [(0, .ref a), (1, .int (jI r))] [] := fun i C hi hC hg ht hv => by
    refine hx _ ⟨i, hi, iu_self _ _ _, by omega, hg, ht, iu_self _ _ _, hv⟩ ⟨rfl, fun q hq => ?_⟩
    have hq2 : q ≠ r := fun z => hq (by rw [z]; exact List.mem_cons_self)
    refine ⟨iu_ne _ _ hq2, iu_ne _ _ hq2, fun k h0 h1 => hC _ ?_⟩
    omega
  intro j
  induction j with
  | zero =>
    intro i w C hi h0 hw64 hw hC hg ht hv
    have hw0 : w = 0 := by simp at hw; omega
    subst hw0
    refine z_lload K d_M_set_48 rfl ?_
    refine z_lconst (v := kI 0) K d_M_set_50 rfl ?_
    refine zi_lc_eq (tgt := 101) K d_M_set_51 d_M_set_52 (by decide) (by omega) (by omega) (fun hc => ?_) (fun hc => absurd (by omega) hc)
    refine z_re [0, 1] rfl (fin i C (by omega) hC hg (fun k hk => (ht k hk).resolve_left (fun z => z rfl)) (by omega))
  | succ j ih =>
    intro i w C hi h0 hw64 hw hC hg ht hv
    refine z_lload K d_M_set_48 rfl ?_
    refine z_lconst (v := kI 0) K d_M_set_50 rfl ?_
    refine zi_lc_eq (tgt := 101) K d_M_set_51 d_M_set_52 (by decide) (by omega) (by omega) (fun hc => ?_) (fun hc => ?_)
    · have hw0 : w = 0 := by omega
      subst hw0
      refine z_re [0, 1] rfl (fin i C (by omega) hC hg (fun k hk => (ht k hk).resolve_left (fun z => z rfl)) (by omega))
    · refine z_aload_n K d_M_set_55 rfl ?_
      refine zm_get K fd_M_9 rfl d_M_set_56 ?_
      refine z_sipush (v := jI 460) K d_M_set_59 rfl ?_
      refine z_iload_n K d_M_set_62 rfl ?_
      refine zi_imul K d_M_set_63 ?_
      refine z_aload_n K d_M_set_64 rfl ?_
      refine zm_get K fd_M_13 rfl d_M_set_65 ?_
      refine z_iload_n K d_M_set_68 rfl ?_
      refine zm_zld K (by omega) d_M_set_69 ?_
      simp only [iu_self]
      refine zi_iadd K d_M_set_70 ?_
      refine z_lload K d_M_set_71 rfl ?_
      refine z_ldc2 (v := kI 1000000000) K d_M_set_73 kc_M_34 ?_
      refine zi_lrem K d_M_set_76 (by omega) (by omega) (by omega) ?_
      refine zi_lneg K d_M_set_77 ?_
      refine zi_l2i K d_M_set_78 ?_
      refine zm_cst K (by omega) d_M_set_79 ?_
      refine z_aload_n K d_M_set_80 rfl ?_
      refine zm_get K fd_M_13 rfl d_M_set_81 ?_
      refine z_iload_n K d_M_set_84 rfl ?_
      refine z_dup2_11 K d_M_set_85 rfl rfl ?_
      refine zm_zld K (by omega) d_M_set_86 ?_
      refine z_iconst (v := jI 1) K d_M_set_87 rfl ?_
      refine zi_iadd K d_M_set_88 ?_
      refine zm_zst K (by omega) d_M_set_89 ?_
      refine z_lload K d_M_set_90 rfl ?_
      refine z_ldc2 (v := kI 1000000000) K d_M_set_92 kc_M_34 ?_
      refine zi_ldiv K d_M_set_95 (by omega) (by omega) (by omega) ?_
      refine z_lstore K d_M_set_96 (by decide) ?_
      refine z_goto (tgt := 48) K d_M_set_98 (by decide) ?_
      simp only [iu_self, iu_iu]
      rw [tmod_neg_BS h0, tdiv_neg_BS h0, Int.neg_neg]
      refine z_re [0, 1, 2, 4] rfl ?_
      have hm1 := Int.emod_nonneg w (show (BS : Int) ≠ 0 by decide)
      have hm2 := Int.emod_lt_of_pos w (show (0 : Int) < BS by decide)
      have hdm := Int.mul_ediv_add_emod w BS
      refine ih (i + 1) (w / BS) _ (by omega) (Int.ediv_nonneg h0 (by decide)) (Int.le_trans (Int.ediv_le_self _ h0) hw64) ?_ (fun q hq => ?_) (fun k hk => ?_) (fun k hk => ?_) ?_
      · apply Int.ediv_lt_of_lt_mul (by decide)
        rw [Int.pow_succ] at hw
        exact hw
      · rw [iu_ne _ _ (by omega)]; exact hC q hq
      · by_cases hki : k = i
        · subst hki; rw [iu_self]; exact ⟨hm1, hm2⟩
        · rw [iu_ne _ _ (by omega)]; exact hg k (by omega)
      · have : k = i := by omega
        subst this
        rw [iu_self]
        by_cases hz : w / BS = 0
        · refine Or.inr ?_
          rw [hz] at hdm
          omega
        · exact Or.inl hz
      · simp only [dv]
        rw [iu_self, dv_iu (fun j hj => by omega), hv, Int.pow_succ]
        grind
set_option maxHeartbeats 4000000 in
set_option maxRecDepth 100000 in
theorem t_M_set33 (K : zC p s m args c b_M_set R_M 6 b0 G) (T : mT) {r v : Int} (hr0 : 0 ≤ r ∧ r < 56) (hv : i64 v) (hx : ∀ T' : mT, (∃ n : Nat, n ≤ 3 ∧ Rg T' r n v) → Fr [r] T T' → zW p l e R s m args below meth c 6 b0 G kc ks Q (hm G h a cd T') 101 [(0, .ref a), (1, .int (jI r))] []) :
    zW p l e R s m args below meth c 6 b0 G kc ks Q (hm G h a cd (T.1, iu T.2.1 r 0, T.2.2)) 33 [(0, .ref a), (1, .int (jI r)), (2, .long (kI v))] [.int (jI v.sign), .int (jI r), .ref (a + 3)] := by
  refine zm_sst K (by omega) d_M_set_33 ?_
  have J : ∀ w : Int, w = v.natAbs → zW p l e R s m args below meth c 6 b0 G kc ks Q (hm G h a cd (T.1, iu T.2.1 r 0, iu T.2.2.1 r v.sign, T.2.2.2)) 46 [(0, .ref a), (1, .int (jI r)), (2, .long (kI v))] [.long (kI (-w))] := fun w hw => by
    refine z_lstore K d_M_set_46 (by decide) ?_
    refine z_re [0, 1, 2, 4] rfl ?_
    refine lp_M_set K T hr0 hx 3 0 w T.1 rfl (by omega) (by omega) ?_ (fun _ _ => rfl) (fun k hk => absurd hk (by omega)) (fun k hk => absurd hk (by omega)) (by simp [dv]; omega)
    have h2 : BS ^ 3 = 1000000000000000000000000000 := by decide
    omega
  refine z_lload_n K d_M_set_34 rfl ?_
  refine z_lconst (v := kI 0) K d_M_set_35 rfl ?_
  refine zi_lc_le (tgt := 45) K d_M_set_36 d_M_set_37 (by decide) (by omega) (by omega) (fun hc => ?_) (fun hc => ?_)
  · refine z_lload_n K d_M_set_45 rfl ?_
    refine z_st (st' := [.long (kI (-(-v)))]) (by rw [Int.neg_neg]) ?_
    exact J (-v) (by omega)
  · refine z_lload_n K d_M_set_40 rfl ?_
    refine zi_lneg K d_M_set_41 ?_
    refine z_goto (tgt := 46) K d_M_set_42 (by decide) ?_
    exact J v (by omega)
set_option maxHeartbeats 4000000 in
set_option maxRecDepth 100000 in
/-- set(r, v): the register r holds v -/
theorem c_M_set (l : Launch) (G : zG) (b0 : Nat) (h : zH) (a : Nat) (cd : Int) (T : mT) {r v : Int} (hr0 : 0 ≤ r ∧ r < 56) (hv : i64 v) : mMet l G b0 y_M_set b_M_set 6 none 0 0 h a cd [.int (jI r), .long (kI v)] T (fun o T' => o = none ∧ (∃ n : Nat, n ≤ 3 ∧ Rg T' r n v) ∧ Fr [r] T T') :=
  z_met (by decide) (Nat.le_of_ble_eq_true rfl) fun p e s m below meth c K hr hlk hnm => by
  refine z_aload_n K d_M_set_0 rfl ?_
  refine zm_get K fd_M_13 rfl d_M_set_1 ?_
  refine z_iload_n K d_M_set_4 rfl ?_
  refine z_iconst (v := jI 0) K d_M_set_5 rfl ?_
  refine zm_zst K (by omega) d_M_set_6 ?_
  refine z_aload_n K d_M_set_7 rfl ?_
  refine zm_get K fd_M_16 rfl d_M_set_8 ?_
  refine z_iload_n K d_M_set_11 rfl ?_
  refine z_lload_n K d_M_set_12 rfl ?_
  refine z_lconst (v := kI 0) K d_M_set_13 rfl ?_
  refine zi_lc_le (tgt := 22) K d_M_set_14 d_M_set_15 (by decide) (by omega) (by omega) (fun hc => ?_) (fun hc => ?_)
  · refine z_lload_n K d_M_set_22 rfl ?_
    refine z_lconst (v := kI 0) K d_M_set_23 rfl ?_
    refine zi_lc_ge (tgt := 32) K d_M_set_24 d_M_set_25 (by decide) (by omega) (by omega) (fun hc2 => ?_) (fun hc2 => ?_)
    · refine z_iconst (v := jI 0) K d_M_set_32 rfl ?_
      have hs : v.sign = 0 := by rw [show v = 0 by omega]; rfl
      have J := t_M_set33 (l := l) (e := e) (R := zRm 0 0 0 0) (below := below) (meth := meth) (kc := 0) (ks := 0) (h := h) (a := a) (cd := cd) K T hr0 hv (fun T' h1 h2 => z_vret (post := fun r_1 h' => ∃ T' : mT, h' = hm G h a cd T' ∧ r_1 = none ∧ (∃ n : Nat, n ≤ 3 ∧ Rg T' r n v) ∧ Fr [r] T T') K hr hlk d_M_set_101 ⟨_, rfl, rfl, h1, h2⟩)
      rw [hs] at J
      exact z_re [0, 1, 2] rfl J
    · refine z_iconst (v := jI (-1)) K d_M_set_28 rfl ?_
      refine z_goto (tgt := 33) K d_M_set_29 (by decide) ?_
      have hs : v.sign = -1 := Int.sign_eq_neg_one_of_neg (by omega)
      have J := t_M_set33 (l := l) (e := e) (R := zRm 0 0 0 0) (below := below) (meth := meth) (kc := 0) (ks := 0) (h := h) (a := a) (cd := cd) K T hr0 hv (fun T' h1 h2 => z_vret (post := fun r_1 h' => ∃ T' : mT, h' = hm G h a cd T' ∧ r_1 = none ∧ (∃ n : Nat, n ≤ 3 ∧ Rg T' r n v) ∧ Fr [r] T T') K hr hlk d_M_set_101 ⟨_, rfl, rfl, h1, h2⟩)
      rw [hs] at J
      exact z_re [0, 1, 2] rfl J
  · refine z_iconst (v := jI 1) K d_M_set_18 rfl ?_
    refine z_goto (tgt := 33) K d_M_set_19 (by decide) ?_
    have hs : v.sign = 1 := Int.sign_eq_one_of_pos (by omega)
    have J := t_M_set33 (l := l) (e := e) (R := zRm 0 0 0 0) (below := below) (meth := meth) (kc := 0) (ks := 0) (h := h) (a := a) (cd := cd) K T hr0 hv (fun T' h1 h2 => z_vret (post := fun r_1 h' => ∃ T' : mT, h' = hm G h a cd T' ∧ r_1 = none ∧ (∃ n : Nat, n ≤ 3 ∧ Rg T' r n v) ∧ Fr [r] T T') K hr hlk d_M_set_101 ⟨_, rfl, rfl, h1, h2⟩)
    rw [hs] at J
    exact z_re [0, 1, 2] rfl J
end M1
section M1b
variable {p : Program} {l : Launch} {e : Env} {R : Room} {s : State} {m : MethodId} {args : Array Value} {below : List Frame} {meth : Method} {c : Code} {Q : State → Prop} {b0 kc ks : Nat} {G : zG} {h : zH} {a : Nat} {cd : Int}
set_option maxHeartbeats 4000000 in
set_option maxRecDepth 100000 in
theorem lp_M_copy (K : zC p s m args c b_M_copy R_M 4 b0 G) (T : mT) {f t v : Int} {n : Nat} (hf : 0 ≤ f ∧ f < 56) (ht : 0 ≤ t ∧ t < 56) (hR : Rg T f n v) (hx : ∀ T' : mT, Rg T' t n v → Fr [t] T T' → zW p l e R s m args below meth c 4 b0 G kc ks Q (hm G h a cd T') 66 [(0, .ref a)] []) :
    ∀ (j i : Nat) (C : Int → Int), i + j = n → (∀ q : Int, C q = if 460 * t ≤ q ∧ q < 460 * t + i then T.1 (460 * f + (q - 460 * t)) else T.1 q) →
      zW p l e R s m args below meth c 4 b0 G kc ks Q (hm G h a cd (C, iu T.2.1 t n, iu T.2.2.1 t (T.2.2.1 f), T.2.2.2)) 26 [(0, .ref a), (1, .int (jI f)), (2, .int (jI t)), (3, .int (jI i))] [] := by
  have hR2 := hR
  obtain ⟨h1, h2, h3, h4, h5, h6⟩ := hR
  have hzf : iu T.2.1 t n f = n := by
    by_cases hq : f = t
    · rw [hq, iu_self]
    · rw [iu_ne _ _ hq, h1]
  intro j
  induction j with
  | zero =>
    intro i C hi hC
    refine z_iload_n K d_M_copy_26 rfl ?_
    refine z_aload_n K d_M_copy_27 rfl ?_
    refine zm_get K fd_M_13 rfl d_M_copy_28 ?_
    refine z_iload_n K d_M_copy_31 rfl ?_
    refine zm_zld K (by omega) d_M_copy_32 ?_
    dsimp only
    rw [hzf]
    refine zi_icmp_ge (tgt := 66) K d_M_copy_33 (by decide) (by omega) (by omega) (fun hc => ?_) (fun hc => absurd hc (by omega))
    refine z_re [0] rfl ?_
    have hin : i = n := by omega
    subst hin
    refine hx _ ⟨iu_self _ _ _, h2, fun k hk => ?_, fun k hk => ?_, (iu_self _ _ _).trans h5, ?_⟩ ⟨rfl, fun q hq => ?_⟩
    · dsimp only
      rw [hC, if_pos (by omega)]
      have := h3 k hk
      rwa [show 460 * f + (460 * t + (k : Int) - 460 * t) = 460 * f + k by omega]
    · dsimp only
      rw [hC, if_pos (by omega)]
      have := h4 k hk
      rwa [show 460 * f + (460 * t + (k : Int) - 460 * t) = 460 * f + k by omega]
    · rw [h6]
      refine dv_congr (fun k hk => ?_)
      dsimp only
      rw [hC, if_pos (by omega), show 460 * t + (k : Int) - 460 * t = k by omega]
    · have hq2 : q ≠ t := fun z => hq (by rw [z]; exact List.mem_cons_self)
      refine ⟨iu_ne _ _ hq2, iu_ne _ _ hq2, fun k g0 g1 => ?_⟩
      show C _ = _
      rw [hC, if_neg (by omega)]
  | succ j ih =>
    intro i C hi hC
    refine z_iload_n K d_M_copy_26 rfl ?_
    refine z_aload_n K d_M_copy_27 rfl ?_
    refine zm_get K fd_M_13 rfl d_M_copy_28 ?_
    refine z_iload_n K d_M_copy_31 rfl ?_
    refine zm_zld K (by omega) d_M_copy_32 ?_
    dsimp only
    rw [hzf]
    refine zi_icmp_ge (tgt := 66) K d_M_copy_33 (by decide) (by omega) (by omega) (fun hc => absurd hc (by omega)) (fun hc => ?_)
    refine z_aload_n K d_M_copy_36 rfl ?_
    refine zm_get K fd_M_9 rfl d_M_copy_37 ?_
    refine z_sipush (v := jI 460) K d_M_copy_40 rfl ?_
    refine z_iload_n K d_M_copy_43 rfl ?_
    refine zi_imul K d_M_copy_44 ?_
    refine z_iload_n K d_M_copy_45 rfl ?_
    refine zi_iadd K d_M_copy_46 ?_
    refine z_aload_n K d_M_copy_47 rfl ?_
    refine zm_get K fd_M_9 rfl d_M_copy_48 ?_
    refine z_sipush (v := jI 460) K d_M_copy_51 rfl ?_
    refine z_iload_n K d_M_copy_54 rfl ?_
    refine zi_imul K d_M_copy_55 ?_
    refine z_iload_n K d_M_copy_56 rfl ?_
    refine zi_iadd K d_M_copy_57 ?_
    refine zm_cld K (by omega) d_M_copy_58 ?_
    refine zm_cst K (by omega) d_M_copy_59 ?_
    refine zi_iinc K d_M_copy_60 rfl (by decide) ?_
    refine z_goto (tgt := 26) K d_M_copy_63 (by decide) ?_
    refine z_re [0, 1, 2, 3] rfl ?_
    refine ih (i + 1) _ (by omega) (fun q => ?_)
    simp only [iu]
    by_cases hq : q = 460 * t + i
    · subst hq
      rw [if_pos rfl, if_pos (by omega), hC, if_neg (by omega), show 460 * t + (i : Int) - 460 * t = i by omega]
    · rw [if_neg hq, hC]
      by_cases h7 : 460 * t ≤ q ∧ q < 460 * t + i
      · rw [if_pos h7, if_pos (by omega)]
      · rw [if_neg h7, if_neg (by omega)]
set_option maxHeartbeats 4000000 in
set_option maxRecDepth 100000 in
/-- copy(f, t): the register t holds what f holds -/
theorem c_M_copy (l : Launch) (G : zG) (b0 : Nat) (h : zH) (a : Nat) (cd : Int) (T : mT) {f t v : Int} {n : Nat} (hf : 0 ≤ f ∧ f < 56) (ht : 0 ≤ t ∧ t < 56) (hR : Rg T f n v) : mMet l G b0 y_M_copy b_M_copy 4 none 0 0 h a cd [.int (jI f), .int (jI t)] T (fun o T' => o = none ∧ Rg T' t n v ∧ Fr [t] T T') :=
  z_met (by decide) (Nat.le_of_ble_eq_true rfl) fun p e s m below meth c K hr hlk hnm => by
  refine z_aload_n K d_M_copy_0 rfl ?_
  refine zm_get K fd_M_13 rfl d_M_copy_1 ?_
  refine z_iload_n K d_M_copy_4 rfl ?_
  refine z_aload_n K d_M_copy_5 rfl ?_
  refine zm_get K fd_M_13 rfl d_M_copy_6 ?_
  refine z_iload_n K d_M_copy_9 rfl ?_
  refine zm_zld K (by omega) d_M_copy_10 ?_
  refine zm_zst K (by omega) d_M_copy_11 ?_
  refine z_aload_n K d_M_copy_12 rfl ?_
  refine zm_get K fd_M_16 rfl d_M_copy_13 ?_
  refine z_iload_n K d_M_copy_16 rfl ?_
  refine z_aload_n K d_M_copy_17 rfl ?_
  refine zm_get K fd_M_16 rfl d_M_copy_18 ?_
  refine z_iload_n K d_M_copy_21 rfl ?_
  refine zm_sld K (by omega) d_M_copy_22 ?_
  refine zm_sst K (by omega) d_M_copy_23 ?_
  refine z_iconst (v := jI 0) K d_M_copy_24 rfl ?_
  refine z_istore_n K d_M_copy_25 (by decide) ?_
  refine z_re [0, 1, 2, 3] rfl ?_
  rw [hR.1]
  exact lp_M_copy K T hf ht hR (fun T' h1 h2 => z_vret K hr hlk d_M_copy_66 ⟨_, rfl, rfl, h1, h2⟩) n 0 T.1 (by omega) (fun q => by rw [if_neg (by omega)])
set_option maxHeartbeats 4000000 in
set_option maxRecDepth 100000 in
theorem lp_M_trim (K : zC p s m args c b_M_trim R_M 4 b0 G) (T : mT) {r : Int} {N : Nat} (hr0 : 0 ≤ r ∧ r < 56) (hN : N ≤ 459) (hg : dg T.1 (460 * r) N) {w2 : Int} (hx : ∀ n : Nat, n ≤ N → (∀ j : Nat, n = j + 1 → T.1 (460 * r + j) ≠ 0) → dv T.1 (460 * r) n = dv T.1 (460 * r) N → zW p l e R s m args below meth c 4 b0 G kc ks Q (hm G h a cd T) 29 [(0, .ref a), (1, .int (jI r)), (3, .int (jI n))] []) :
    ∀ n : Nat, n ≤ N → dv T.1 (460 * r) n = dv T.1 (460 * r) N → zW p l e R s m args below meth c 4 b0 G kc ks Q (hm G h a cd T) 2 [(0, .ref a), (1, .int (jI r)), (2, .int (jI w2)), (3, .int (jI n))] [] := by
  intro n
  induction n with
  | zero =>
    intro hn hv
    refine z_iload_n K d_M_trim_2 rfl ?_
    refine zi_if_le (tgt := 29) K d_M_trim_3 (by decide) (by omega) (fun hc => ?_) (fun hc => absurd hc (by omega))
    exact z_re [0, 1, 3] rfl (hx 0 hn (fun j hj => absurd hj (by omega)) hv)
  | succ n ih =>
    intro hn hv
    have hgn := hg n (by omega)
    refine z_iload_n K d_M_trim_2 rfl ?_
    refine zi_if_le (tgt := 29) K d_M_trim_3 (by decide) (by omega) (fun hc => absurd hc (by omega)) (fun hc => ?_)
    refine z_aload_n K d_M_trim_6 rfl ?_
    refine zm_get K fd_M_9 rfl d_M_trim_7 ?_
    refine z_sipush (v := jI 460) K d_M_trim_10 rfl ?_
    refine z_iload_n K d_M_trim_13 rfl ?_
    refine zi_imul K d_M_trim_14 ?_
    refine z_iload_n K d_M_trim_15 rfl ?_
    refine zi_iadd K d_M_trim_16 ?_
    refine z_iconst (v := jI 1) K d_M_trim_17 rfl ?_
    refine zi_isub K d_M_trim_18 ?_
    refine zm_cld K (by omega) d_M_trim_19 ?_
    rw [show 460 * r + ((n + 1 : Nat) : Int) - 1 = 460 * r + n by omega]
    refine zi_if_ne (tgt := 29) K d_M_trim_20 (by decide) (by omega) (fun hc => ?_) (fun hc => ?_)
    · refine z_re [0, 1, 3] rfl (hx (n + 1) hn (fun j hj => ?_) hv)
      rw [show j = n by omega]; exact hc
    · refine zi_iinc K d_M_trim_23 rfl (by decide) ?_
      refine z_goto (tgt := 2) K d_M_trim_26 (by decide) ?_
      refine z_re [0, 1, 2, 3] rfl ?_
      rw [show ((n + 1 : Nat) : Int) + -1 = n by omega]
      refine ih (by omega) ?_
      rw [← hv]
      simp only [dv]
      rw [hc]
      omega
set_option maxHeartbeats 4000000 in
set_option maxRecDepth 100000 in
/-- trim(r, N): the size without the zeros on top; the sign of 0 is 0 -/
theorem c_M_trim (l : Launch) (G : zG) (b0 : Nat) (h : zH) (a : Nat) (cd : Int) (T : mT) {r : Int} {N : Nat} (hr0 : 0 ≤ r ∧ r < 56) (hN : N ≤ 459) (hg : dg T.1 (460 * r) N) : mMet l G b0 y_M_trim b_M_trim 4 none 0 0 h a cd [.int (jI r), .int (jI N)] T (fun o T' => o = none ∧ ∃ n : Nat, n ≤ N ∧ (∀ j : Nat, n = j + 1 → T.1 (460 * r + j) ≠ 0) ∧ dv T.1 (460 * r) n = dv T.1 (460 * r) N ∧ T' = (T.1, iu T.2.1 r n, iu T.2.2.1 r (if n = 0 then 0 else T.2.2.1 r), T.2.2.2)) :=
  z_met (by decide) (Nat.le_of_ble_eq_true rfl) fun p e s m below meth c K hr hlk hnm => by
  refine z_iload_n K d_M_trim_0 rfl ?_
  refine z_istore_n K d_M_trim_1 (by decide) ?_
  refine z_re [0, 1, 2, 3] rfl ?_
  refine lp_M_trim K T hr0 hN hg (fun n h1 h2 h3 => ?_) N (Nat.le_refl _) rfl
  refine z_aload_n K d_M_trim_29 rfl ?_
  refine zm_get K fd_M_13 rfl d_M_trim_30 ?_
  refine z_iload_n K d_M_trim_33 rfl ?_
  refine z_iload_n K d_M_trim_34 rfl ?_
  refine zm_zst K (by omega) d_M_trim_35 ?_
  refine z_aload_n K d_M_trim_36 rfl ?_
  refine zm_get K fd_M_16 rfl d_M_trim_37 ?_
  refine z_iload_n K d_M_trim_40 rfl ?_
  refine z_iload_n K d_M_trim_41 rfl ?_
  refine zi_if_ne (tgt := 49) K d_M_trim_42 (by decide) (by omega) (fun hc => ?_) (fun hc => ?_)
  · refine z_aload_n K d_M_trim_49 rfl ?_
    refine zm_get K fd_M_16 rfl d_M_trim_50 ?_
    refine z_iload_n K d_M_trim_53 rfl ?_
    refine zm_sld K (by omega) d_M_trim_54 ?_
    refine zm_sst K (by omega) d_M_trim_55 ?_
    exact z_vret K hr hlk d_M_trim_56 ⟨_, rfl, rfl, n, h1, h2, h3, by rw [if_neg (by omega)]⟩
  · refine z_iconst (v := jI 0) K d_M_trim_45 rfl ?_
    refine z_goto (tgt := 55) K d_M_trim_46 (by decide) ?_
    refine zm_sst K (by omega) d_M_trim_55 ?_
    exact z_vret K hr hlk d_M_trim_56 ⟨_, rfl, rfl, n, h1, h2, h3, by rw [if_pos (by omega)]⟩
end M1b
