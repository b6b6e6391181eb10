/-- d is the number of digits of v (0 has one) -/
def IsDg (v : Int) (d : Nat) : Prop := 1 ≤ d ∧ v.natAbs < 10 ^ d ∧ (d = 1 ∨ 10 ^ (d - 1) ≤ v.natAbs)
theorem ten_mono {a b : Nat} (h : a ≤ b) : 10 ^ a ≤ 10 ^ b := Nat.pow_le_pow_right (by decide) h
theorem IsDg.gt {v : Int} {d k : Nat} (h : IsDg v d) (hk : 1 ≤ k) : k < d ↔ 10 ^ k ≤ v.natAbs := by
  obtain ⟨h1, h2, h3⟩ := h
  constructor
  · intro hl
    rcases h3 with h3 | h3
    · omega
    · have := ten_mono (show k ≤ d - 1 by omega)
      omega
  · intro hl
    by_cases q : k < d
    · exact q
    · have := ten_mono (show d ≤ k by omega)
      omega
theorem IsDg.uniq {v : Int} {d e : Nat} (h : IsDg v d) (h' : IsDg v e) : d = e := by
  rcases Nat.lt_trichotomy d e with q | q | q
  · have := (h'.gt h.1).mp q
    have := h.2.1
    omega
  · exact q
  · have := (h.gt h'.1).mp q
    have := h'.2.1
    omega
theorem BS_ten (n : Nat) : BS ^ n = ((10 ^ (9 * n) : Nat) : Int) := by
  rw [Nat.pow_mul, Int.natCast_pow]
  rfl
theorem ten_top {top low : Int} {n t : Nat} (hl0 : 0 ≤ low) (hl : low < BS ^ n) (ht : 1 ≤ t) (h1 : ((10 ^ (t - 1) : Nat) : Int) ≤ top) (h2 : top < ((10 ^ t : Nat) : Int)) : ((10 ^ (9 * n + t - 1) : Nat) : Int) ≤ low + top * BS ^ n ∧ low + top * BS ^ n < ((10 ^ (9 * n + t) : Nat) : Int) := by
  have hp := BS_pos n
  have e1 : ((10 ^ (9 * n + t - 1) : Nat) : Int) = ((10 ^ (t - 1) : Nat) : Int) * BS ^ n := by
    rw [BS_ten, ← Int.natCast_mul, ← Nat.pow_add]
    congr 2
    omega
  have e2 : ((10 ^ (9 * n + t) : Nat) : Int) = ((10 ^ t : Nat) : Int) * BS ^ n := by
    rw [BS_ten, ← Int.natCast_mul, ← Nat.pow_add]
    congr 2
    omega
  rw [e1, e2]
  have h3 : ((10 ^ (t - 1) : Nat) : Int) * BS ^ n ≤ top * BS ^ n := Int.mul_le_mul_of_nonneg_right h1 (Int.le_of_lt hp)
  have h4 : (top + 1) * BS ^ n ≤ ((10 ^ t : Nat) : Int) * BS ^ n := Int.mul_le_mul_of_nonneg_right (by omega) (Int.le_of_lt hp)
  rw [Int.add_mul, Int.one_mul] at h4
  omega
section M20
variable {p : Program} {l : Launch} {e : Env} {R : Room} {s : State} {m : MethodId} {args : Array Value} {below : List Frame} {meth : Method} {c : Code} {Q : State → Prop} {b0 kc ks : Nat} {G : zG} {h : zH} {a : Nat} {cd : Int}
set_option maxHeartbeats 4000000 in
set_option maxRecDepth 100000 in
theorem lp_M_digitsOf (K : zC p s m args c b_M_digitsOf R_M 4 b0 G) (T : mT) {r c0 : Int} {top : Nat} (hc0 : 0 ≤ c0 ∧ c0 < 10000) (htop : top < 10 ^ 9) (hx : ∀ i : Nat, i ≤ 9 → top < 10 ^ i → (i = 0 ∨ 10 ^ (i - 1) ≤ top) → zW p l e R s m args below meth c 4 b0 G kc ks Q (hm G h a cd T) 58 [(0, .ref a), (2, .int (jI (c0 + i)))] []) :
    ∀ (j i : Nat), i + j = 9 → (i = 0 ∨ 10 ^ (i - 1) ≤ top) → zW p l e R s m args below meth c 4 b0 G kc ks Q (hm G h a cd T) 43 [(0, .ref a), (1, .int (jI r)), (2, .int (jI (c0 + i))), (3, .int (jI (top / 10 ^ i : Nat)))] [] := by
  intro j
  induction j with
  | zero =>
    intro i hi hq
    have hi9 : i = 9 := by omega
    subst hi9
    have h0 : top / 10 ^ 9 = 0 := Nat.div_eq_of_lt htop
    rw [h0]
    refine z_iload_n K d_M_digitsOf_43 rfl ?_
    refine zi_if_le (tgt := 58) K d_M_digitsOf_44 (by decide) (by decide) (fun hc => ?_) (fun hc => absurd hc (by decide))
    exact z_re [0, 2] rfl (hx 9 (by omega) htop hq)
  | succ j ih =>
    intro i hi hq
    have hle : top / 10 ^ i ≤ top := Nat.div_le_self _ _
    have hdd : top / 10 ^ (i + 1) = top / 10 ^ i / 10 := by rw [Nat.pow_succ, ← Nat.div_div_eq_div_mul]
    have hz0 : top / 10 ^ i = 0 → top < 10 ^ i := fun h0 => by
      rcases (Nat.div_eq_zero_iff.mp h0) with z | z
      · exact absurd z (Nat.pos_iff_ne_zero.mp (Nat.pow_pos (by decide)))
      · exact z
    have hz1 : top / 10 ^ i ≠ 0 → 10 ^ i ≤ top := fun h0 => by
      by_cases z : 10 ^ i ≤ top
      · exact z
      · exact absurd (Nat.div_eq_of_lt (by omega)) h0
    have ih2 := fun hq2 => ih (i + 1) (by omega) hq2
    rw [hdd] at ih2
    generalize top / 10 ^ i = w at hle hz0 hz1 ih2 ⊢
    have h9 : (10 : Nat) ^ 9 = 1000000000 := by decide
    refine z_iload_n K d_M_digitsOf_43 rfl ?_
    refine zi_if_le (tgt := 58) K d_M_digitsOf_44 (by decide) (by omega) (fun hc => ?_) (fun hc => ?_)
    · exact z_re [0, 2] rfl (hx i (by omega) (hz0 (by omega)) hq)
    · refine zi_iinc K d_M_digitsOf_47 rfl (by decide) ?_
      refine z_iload_n K d_M_digitsOf_50 rfl ?_
      refine z_bipush (v := jI 10) K d_M_digitsOf_51 rfl ?_
      refine zi_idiv K d_M_digitsOf_53 (by omega) (by omega) (by omega) ?_
      refine z_istore_n K d_M_digitsOf_54 (by decide) ?_
      refine z_goto (tgt := 43) K d_M_digitsOf_55 (by decide) ?_
      rw [tdiv_pos (by omega), show (w : Int) / 10 = ((w / 10 : Nat) : Int) by omega, show c0 + (i : Int) + 1 = c0 + ((i + 1 : Nat) : Int) by omega]
      refine z_re [0, 1, 2, 3] rfl ?_
      exact ih2 (Or.inr (by simpa using hz1 (by omega)))
set_option maxHeartbeats 4000000 in
set_option maxRecDepth 100000 in
theorem lp_M_digitsOf0 (K : zC p s m args c b_M_digitsOf R_M 4 b0 G) (T : mT) {r c0 : Int} {top : Nat} (hc0 : 0 ≤ c0 ∧ c0 < 10000) (htop : top < 10 ^ 9) (hx : ∀ i : Nat, i ≤ 9 → top < 10 ^ i → (i = 0 ∨ 10 ^ (i - 1) ≤ top) → zW p l e R s m args below meth c 4 b0 G kc ks Q (hm G h a cd T) 58 [(0, .ref a), (2, .int (jI (c0 + i)))] []) :
    zW p l e R s m args below meth c 4 b0 G kc ks Q (hm G h a cd T) 43 [(0, .ref a), (1, .int (jI r)), (2, .int (jI c0)), (3, .int (jI top))] [] := by
  have := lp_M_digitsOf (r := r) K T hc0 htop hx 9 0 rfl (Or.inl rfl)
  rwa [Nat.pow_zero, Nat.div_one, Int.natCast_zero, Int.add_zero] at this
set_option maxHeartbeats 4000000 in
set_option maxRecDepth 100000 in
/-- digitsOf(r): how many digits its number has -/
theorem c_M_digitsOf (l : Launch) (G : zG) (b0 : Nat) (h : zH) (a : Nat) (cd : Int) (T : mT) {r v : Int} {n : Nat} (hr0 : 0 ≤ r ∧ r < 56) (hv : Rg T r n v) : mMet l G b0 y_M_digitsOf b_M_digitsOf 4 (some .int) 0 0 h a cd [.int (jI r)] T (fun o T' => T = T' ∧ ∃ d : Nat, o = some (.int (jI d)) ∧ IsDg v d ∧ d < 10000) :=
  z_met (by decide) (Nat.le_of_ble_eq_true rfl) fun p e s m below meth c K hr hlk hnm => by
  have hn := hv.2.1
  refine z_aload_n K d_M_digitsOf_0 rfl ?_
  refine zm_get K fd_M_13 rfl d_M_digitsOf_1 ?_
  refine z_iload_n K d_M_digitsOf_4 rfl ?_
  refine zm_zld K (by omega) d_M_digitsOf_5 ?_
  rw [hv.1]
  refine zi_if_ne (tgt := 11) K d_M_digitsOf_6 (by decide) (by omega) (fun hc => ?_) (fun hc => ?_)
  · obtain ⟨t, rfl⟩ : ∃ t, n = t + 1 := ⟨n - 1, by omega⟩
    have hg := hv.2.2.1 t (by omega)
    have hz := hv.2.2.2.1 t rfl
    obtain ⟨top, htop⟩ : ∃ m : Nat, T.1 (460 * r + t) = m := ⟨(T.1 (460 * r + t)).toNat, by omega⟩
    rw [htop] at hg hz
    refine z_bipush (v := jI 9) K d_M_digitsOf_11 rfl ?_
    refine z_aload_n K d_M_digitsOf_13 rfl ?_
    refine zm_get K fd_M_13 rfl d_M_digitsOf_14 ?_
    refine z_iload_n K d_M_digitsOf_17 rfl ?_
    refine zm_zld K (by omega) d_M_digitsOf_18 ?_
    rw [hv.1]
    refine z_iconst (v := jI 1) K d_M_digitsOf_19 rfl ?_
    refine zi_isub K d_M_digitsOf_20 ?_
    refine zi_imul K d_M_digitsOf_21 ?_
    refine z_istore_n K d_M_digitsOf_22 (by decide) ?_
    refine z_aload_n K d_M_digitsOf_23 rfl ?_
    refine zm_get K fd_M_9 rfl d_M_digitsOf_24 ?_
    refine z_sipush (v := jI 460) K d_M_digitsOf_27 rfl ?_
    refine z_iload_n K d_M_digitsOf_30 rfl ?_
    refine zi_imul K d_M_digitsOf_31 ?_
    refine z_aload_n K d_M_digitsOf_32 rfl ?_
    refine zm_get K fd_M_13 rfl d_M_digitsOf_33 ?_
    refine z_iload_n K d_M_digitsOf_36 rfl ?_
    refine zm_zld K (by omega) d_M_digitsOf_37 ?_
    rw [hv.1]
    refine zi_iadd K d_M_digitsOf_38 ?_
    refine z_iconst (v := jI 1) K d_M_digitsOf_39 rfl ?_
    refine zi_isub K d_M_digitsOf_40 ?_
    rw [show 460 * r + ((t + 1 : Nat) : Int) - 1 = 460 * r + t by omega, show 9 * (((t + 1 : Nat) : Int) - 1) = ((9 * t : Nat) : Int) by omega]
    refine zm_cld K (by omega) d_M_digitsOf_41 ?_
    rw [htop]
    refine z_istore_n K d_M_digitsOf_42 (by decide) ?_
    have h9 : (10 : Nat) ^ 9 = 1000000000 := by decide
    refine z_re [0, 1, 2, 3] rfl (lp_M_digitsOf0 K T (by omega) (by omega) (fun i hi h1 h2 => ?_))
    refine z_iload_n K d_M_digitsOf_58 rfl ?_
    · have hi1 : 1 ≤ i := by
        rcases h2 with h2 | h2
        · subst h2
          rw [Nat.pow_zero] at h1
          omega
        · by_cases z : 1 ≤ i
          · exact z
          · have : i = 0 := by omega
            subst this
            rw [Nat.pow_zero] at h1
            omega
      have h3 : 10 ^ (i - 1) ≤ top := by
        rcases h2 with h2 | h2
        · omega
        · exact h2
      have hlow := dv_bd (f := T.1) (b := 460 * r) (n := t) (fun k hk => hv.2.2.1 k (by omega))
      have htt := ten_top (top := top) hlow.1 hlow.2 hi1 (by exact_mod_cast h3) (by exact_mod_cast h1)
      rw [← htop, ← dv_hi, ← hv.2.2.2.2.2] at htt
      rw [show ((9 * t : Nat) : Int) + (i : Int) = ((9 * t + i : Nat) : Int) by omega]
      exact z_iret K hr hlk d_M_digitsOf_59 ⟨_, rfl, rfl, 9 * t + i, rfl, ⟨by omega, by exact_mod_cast htt.2, Or.inr (by exact_mod_cast htt.1)⟩, by omega⟩
  · have hv0 : v = 0 := hv.zero.mp (by omega)
    refine z_iconst (v := jI 1) K d_M_digitsOf_9 rfl ?_
    exact z_iret K hr hlk d_M_digitsOf_10 ⟨_, rfl, rfl, 1, rfl, ⟨by decide, by rw [hv0]; decide, Or.inl rfl⟩, by decide⟩
end M20
