/-- the size of a register and the value of its cells, without its sign -/
def Mg (T : mT) (x : Int) (n : Nat) (u : Int) : Prop := T.2.1 x = n ∧ n ≤ 459 ∧ dg T.1 (460 * x) n ∧ dv T.1 (460 * x) n = u
theorem Rg.mg {T : mT} {r v : Int} {n : Nat} (h : Rg T r n v) : Mg T r n v.natAbs := ⟨h.1, h.2.1, h.2.2.1, h.2.2.2.2.2.symm⟩
/-- the cells of a register, and zeros behind them -/
def dx (f : Int → Int) (b : Int) (n : Nat) : Int → Int := fun j => if j < n then f (b + j) else 0
theorem dx_in {f : Int → Int} {b : Int} {n : Nat} {j : Int} (h : j < n) : dx f b n j = f (b + j) := if_pos h
theorem dx_out {f : Int → Int} {b : Int} {n : Nat} {j : Int} (h : (n : Int) ≤ j) : dx f b n j = 0 := if_neg (by omega)
theorem dv_dx {f : Int → Int} {b : Int} {n : Nat} : ∀ j : Nat, dv (dx f b n) 0 (n + j) = dv f b n
  | 0 => dv_congr (fun k hk => by rw [dx_in (by omega)]; congr 1; omega)
  | j + 1 => by
    show dv _ _ ((n + j) + 1) = _
    simp only [dv]
    rw [dv_dx j, dx_out (by omega)]
    omega
theorem dv_top {f : Int → Int} {b : Int} {n : Nat} (hg : dg f b (n + 1)) (hv : BS ^ n ≤ dv f b (n + 1)) : f (b + n) ≠ 0 := fun hz => by
  have h1 := (dv_bd (n := n) (fun k hk => hg k (by omega))).2
  simp only [dv] at hv
  rw [hz] at hv
  omega
theorem dv_lt {f g : Int → Int} {b c : Int} {i : Nat} : ∀ {n : Nat}, i < n → dg f b n → dg g c n → (∀ j : Nat, i < j → j < n → f (b + j) = g (c + j)) → f (b + i) < g (c + i) → dv f b n < dv g c n
  | 0, hi, _, _, _, _ => absurd hi (by omega)
  | n + 1, hi, hf, hg, he, hl => by
    have hf2 : dg f b n := fun k hk => hf k (by omega)
    have hg2 : dg g c n := fun k hk => hg k (by omega)
    simp only [dv]
    by_cases hn : i = n
    · subst hn
      have h1 := (dv_bd hf2).2
      have h2 := (dv_bd hg2).1
      have hp := BS_pos i
      have h3 : (f (b + i) + 1) * BS ^ i ≤ g (c + i) * BS ^ i := Int.mul_le_mul_of_nonneg_right (by omega) (Int.le_of_lt hp)
      rw [Int.add_mul, Int.one_mul] at h3
      omega
    · have h4 := dv_lt (n := n) (by omega) hf2 hg2 (fun j h1 h2 => he j h1 (by omega)) hl
      rw [he n (by omega) (by omega)]
      omega
theorem sgn3 (v : Int) : v.sign = -1 ∨ v.sign = 0 ∨ v.sign = 1 := by
  rcases Int.lt_trichotomy v 0 with h | h | h
  · exact Or.inl (Int.sign_eq_neg_one_of_neg h)
  · exact Or.inr (Or.inl (by rw [h]; rfl))
  · exact Or.inr (Or.inr (Int.sign_eq_one_of_pos h))
section M2
variable {p : Program} {l : Launch} {e : Env} {R : Room} {s : State} {m : MethodId} {args : Array Value} {below : List Frame} {meth : Method} {c : Code} {Q : State → Prop} {b0 kc ks : Nat} {G : zG} {h : zH} {a : Nat} {cd : Int}
set_option maxHeartbeats 4000000 in
set_option maxRecDepth 100000 in
theorem lp_M_compare (K : zC p s m args c b_M_compare R_M 4 b0 G) (T : mT) {x y : Int} {n : Nat} (hx0 : 0 ≤ x ∧ x < 56) (hy0 : 0 ≤ y ∧ y < 56) (hn : n ≤ 459) (hgx : dg T.1 (460 * x) n) (hgy : dg T.1 (460 * y) n) (hx : ∀ i : Nat, i ≤ n → (∀ j : Nat, i ≤ j → j < n → T.1 (460 * x + j) = T.1 (460 * y + j)) → (∀ j : Nat, i = j + 1 → T.1 (460 * x + j) ≠ T.1 (460 * y + j)) → zW p l e R s m args below meth c 4 b0 G kc ks Q (hm G h a cd T) 75 [(0, .ref a), (1, .int (jI x)), (2, .int (jI y)), (3, .int (jI (i - 1)))] []) :
    ∀ i : Nat, i ≤ n → (∀ j : Nat, i ≤ j → j < n → T.1 (460 * x + j) = T.1 (460 * y + j)) → zW p l e R s m args below meth c 4 b0 G kc ks Q (hm G h a cd T) 38 [(0, .ref a), (1, .int (jI x)), (2, .int (jI y)), (3, .int (jI (i - 1)))] [] := by
  intro i
  induction i with
  | zero =>
    intro hi he
    refine z_iload_n K d_M_compare_38 rfl ?_
    refine zi_if_lt (tgt := 75) K d_M_compare_39 (by decide) (by omega) (fun hc => ?_) (fun hc => absurd hc (by omega))
    exact hx 0 hi he (fun j hj => absurd hj (by omega))
  | succ i ih =>
    intro hi he
    have g1 := hgx i (by omega)
    have g2 := hgy i (by omega)
    rw [show ((i + 1 : Nat) : Int) - 1 = i by omega]
    refine z_iload_n K d_M_compare_38 rfl ?_
    refine zi_if_lt (tgt := 75) K d_M_compare_39 (by decide) (by omega) (fun hc => absurd hc (by omega)) (fun hc => ?_)
    refine z_aload_n K d_M_compare_42 rfl ?_
    refine zm_get K fd_M_9 rfl d_M_compare_43 ?_
    refine z_sipush (v := jI 460) K d_M_compare_46 rfl ?_
    refine z_iload_n K d_M_compare_49 rfl ?_
    refine zi_imul K d_M_compare_50 ?_
    refine z_iload_n K d_M_compare_51 rfl ?_
    refine zi_iadd K d_M_compare_52 ?_
    refine zm_cld K (by omega) d_M_compare_53 ?_
    refine z_aload_n K d_M_compare_54 rfl ?_
    refine zm_get K fd_M_9 rfl d_M_compare_55 ?_
    refine z_sipush (v := jI 460) K d_M_compare_58 rfl ?_
    refine z_iload_n K d_M_compare_61 rfl ?_
    refine zi_imul K d_M_compare_62 ?_
    refine z_iload_n K d_M_compare_63 rfl ?_
    refine zi_iadd K d_M_compare_64 ?_
    refine zm_cld K (by omega) d_M_compare_65 ?_
    refine zi_icmp_ne (tgt := 75) K d_M_compare_66 (by decide) (by omega) (by omega) (fun hc => ?_) (fun hc => ?_)
    · have := hx (i + 1) hi he (fun j hj => by rw [show j = i by omega]; exact hc)
      rwa [show ((i + 1 : Nat) : Int) - 1 = i by omega] at this
    · refine zi_iinc K d_M_compare_69 rfl (by decide) ?_
      refine z_goto (tgt := 38) K d_M_compare_72 (by decide) ?_
      refine z_re [0, 1, 2, 3] rfl ?_
      refine ih (by omega) (fun j h1 h2 => ?_)
      by_cases hj : j = i
      · rw [hj]; exact hc
      · exact he j (by omega) h2
set_option maxHeartbeats 4000000 in
set_option maxRecDepth 100000 in
/-- compare(x, y): the sign of |v| - |w| -/
theorem c_M_compare (l : Launch) (G : zG) (b0 : Nat) (h : zH) (a : Nat) (cd : Int) (T : mT) {x y v w : Int} {n k : Nat} (hx0 : 0 ≤ x ∧ x < 56) (hy0 : 0 ≤ y ∧ y < 56) (hx : Rg T x n v) (hy : Rg T y k w) : mMet l G b0 y_M_compare b_M_compare 4 (some .int) 0 0 h a cd [.int (jI x), .int (jI y)] T (fun o T' => T = T' ∧ ∃ z : Int, o = some (.int (jI z)) ∧ i32 z ∧ (z < 0 ↔ v.natAbs < w.natAbs) ∧ (z = 0 ↔ v.natAbs = w.natAbs)) :=
  z_met (by decide) (Nat.le_of_ble_eq_true rfl) fun p e s m below meth c K hr hlk hnm => by
  have hx1 := hx.1
  have hy1 := hy.1
  have hx2 := hx.2.1
  have hy2 := hy.2.1
  refine z_aload_n K d_M_compare_0 rfl ?_
  refine zm_get K fd_M_13 rfl d_M_compare_1 ?_
  refine z_iload_n K d_M_compare_4 rfl ?_
  refine zm_zld K (by omega) d_M_compare_5 ?_
  refine z_aload_n K d_M_compare_6 rfl ?_
  refine zm_get K fd_M_13 rfl d_M_compare_7 ?_
  refine z_iload_n K d_M_compare_10 rfl ?_
  refine zm_zld K (by omega) d_M_compare_11 ?_
  rw [hx1, hy1]
  refine zi_icmp_eq (tgt := 29) K d_M_compare_12 (by decide) (by omega) (by omega) (fun hc => ?_) (fun hc => ?_)
  · have hnk : n = k := by omega
    subst hnk
    refine z_aload_n K d_M_compare_29 rfl ?_
    refine zm_get K fd_M_13 rfl d_M_compare_30 ?_
    refine z_iload_n K d_M_compare_33 rfl ?_
    refine zm_zld K (by omega) d_M_compare_34 ?_
    refine z_iconst (v := jI 1) K d_M_compare_35 rfl ?_
    refine zi_isub K d_M_compare_36 ?_
    refine z_istore_n K d_M_compare_37 (by decide) ?_
    rw [hx1]
    refine z_re [0, 1, 2, 3] rfl ?_
    refine lp_M_compare K T hx0 hy0 hx2 hx.2.2.1 hy.2.2.1 (fun i hi he ht => ?_) n (Nat.le_refl _) (fun j h1 h2 => absurd h1 (by omega))
    refine z_iload_n K d_M_compare_75 rfl ?_
    refine zi_if_ge (tgt := 83) K d_M_compare_76 (by decide) (by omega) (fun hc => ?_) (fun hc => ?_)
    · obtain ⟨j, rfl⟩ : ∃ j, i = j + 1 := ⟨i - 1, by omega⟩
      have g1 := hx.2.2.1 j (by omega)
      have g2 := hy.2.2.1 j (by omega)
      have hne := ht j rfl
      rw [show ((j + 1 : Nat) : Int) - 1 = j by omega]
      refine z_aload_n K d_M_compare_83 rfl ?_
      refine zm_get K fd_M_9 rfl d_M_compare_84 ?_
      refine z_sipush (v := jI 460) K d_M_compare_87 rfl ?_
      refine z_iload_n K d_M_compare_90 rfl ?_
      refine zi_imul K d_M_compare_91 ?_
      refine z_iload_n K d_M_compare_92 rfl ?_
      refine zi_iadd K d_M_compare_93 ?_
      refine zm_cld K (by omega) d_M_compare_94 ?_
      refine z_aload_n K d_M_compare_95 rfl ?_
      refine zm_get K fd_M_9 rfl d_M_compare_96 ?_
      refine z_sipush (v := jI 460) K d_M_compare_99 rfl ?_
      refine z_iload_n K d_M_compare_102 rfl ?_
      refine zi_imul K d_M_compare_103 ?_
      refine z_iload_n K d_M_compare_104 rfl ?_
      refine zi_iadd K d_M_compare_105 ?_
      refine zm_cld K (by omega) d_M_compare_106 ?_
      refine zi_isub K d_M_compare_107 ?_
      refine z_iret K hr hlk d_M_compare_108 ⟨_, rfl, rfl, _, rfl, ⟨by omega, by omega⟩, ?_⟩
      have e1 := hx.2.2.2.2.2
      have e2 := hy.2.2.2.2.2
      rcases Int.lt_or_gt_of_ne hne with hl | hl
      · have := dv_lt (i := j) (by omega) hx.2.2.1 hy.2.2.1 (fun q h1 h2 => he q (by omega) h2) hl
        constructor <;> constructor <;> omega
      · have := dv_lt (i := j) (by omega) hy.2.2.1 hx.2.2.1 (fun q h1 h2 => (he q (by omega) h2).symm) hl
        constructor <;> constructor <;> omega
    · have hi0 : i = 0 := by omega
      subst hi0
      refine z_iconst (v := jI 0) K d_M_compare_79 rfl ?_
      refine z_goto (tgt := 108) K d_M_compare_80 (by decide) ?_
      refine z_iret K hr hlk d_M_compare_108 ⟨_, rfl, rfl, _, rfl, ⟨by decide, by decide⟩, ?_⟩
      have e1 := hx.2.2.2.2.2
      have e2 := hy.2.2.2.2.2
      rw [dv_congr (fun j hj => he j (by omega) hj), ← e2] at e1
      constructor <;> constructor <;> omega
  · refine z_aload_n K d_M_compare_15 rfl ?_
    refine zm_get K fd_M_13 rfl d_M_compare_16 ?_
    refine z_iload_n K d_M_compare_19 rfl ?_
    refine zm_zld K (by omega) d_M_compare_20 ?_
    refine z_aload_n K d_M_compare_21 rfl ?_
    refine zm_get K fd_M_13 rfl d_M_compare_22 ?_
    refine z_iload_n K d_M_compare_25 rfl ?_
    refine zm_zld K (by omega) d_M_compare_26 ?_
    refine zi_isub K d_M_compare_27 ?_
    rw [hx1, hy1]
    refine z_iret K hr hlk d_M_compare_28 ⟨_, rfl, rfl, _, rfl, ⟨by omega, by omega⟩, ?_⟩
    rcases Nat.lt_or_gt_of_ne (show n ≠ k by omega) with hl | hl
    · obtain ⟨j, rfl⟩ : ∃ j, k = j + 1 := ⟨k - 1, by omega⟩
      have h1 := hx.nn
      have h2 := hy.ge
      have h3 := BS_mono (show n ≤ j by omega)
      constructor <;> constructor <;> omega
    · obtain ⟨j, rfl⟩ : ∃ j, n = j + 1 := ⟨n - 1, by omega⟩
      have h1 := hy.nn
      have h2 := hx.ge
      have h3 := BS_mono (show k ≤ j by omega)
      constructor <;> constructor <;> omega
set_option maxHeartbeats 4000000 in
set_option maxRecDepth 100000 in
/-- isSame(x, y): whether both hold one number -/
theorem c_M_isSame (l : Launch) (G : zG) (b0 : Nat) (h : zH) (a : Nat) (cd : Int) (T : mT) {x y v w : Int} {n k : Nat} (hx0 : 0 ≤ x ∧ x < 56) (hy0 : 0 ≤ y ∧ y < 56) (hx : Rg T x n v) (hy : Rg T y k w) : mMet l G b0 y_M_isSame b_M_isSame 3 (some .boolean) 1 23 h a cd [.int (jI x), .int (jI y)] T (fun o T' => T = T' ∧ o = some (.int (jI (if v = w then 1 else 0)))) :=
  z_met (by decide) (Nat.le_of_ble_eq_true rfl) fun p e s m below meth c K hr hlk hnm => by
  have sv := Int.sign_mul_natAbs v
  have sw := Int.sign_mul_natAbs w
  have hsv : i32 v.sign := by have := sgn3 v; omega
  have hsw : i32 w.sign := by have := sgn3 w; omega
  refine z_aload_n K d_M_isSame_0 rfl ?_
  refine zm_get K fd_M_16 rfl d_M_isSame_1 ?_
  refine z_iload_n K d_M_isSame_4 rfl ?_
  refine zm_sld K (by omega) d_M_isSame_5 ?_
  refine z_aload_n K d_M_isSame_6 rfl ?_
  refine zm_get K fd_M_16 rfl d_M_isSame_7 ?_
  refine z_iload_n K d_M_isSame_10 rfl ?_
  refine zm_sld K (by omega) d_M_isSame_11 ?_
  rw [hx.2.2.2.2.1, hy.2.2.2.2.1]
  refine zi_icmp_ne (tgt := 28) K d_M_isSame_12 (by decide) hsv hsw (fun hc => ?_) (fun hc => ?_)
  · refine z_iconst (v := jI 0) K d_M_isSame_28 rfl ?_
    exact z_zret K hr hlk d_M_isSame_29 rfl ⟨_, rfl, rfl, by rw [if_neg (fun z => hc (by rw [z]))]⟩
  · refine z_aload_n K d_M_isSame_15 rfl ?_
    refine z_iload_n K d_M_isSame_16 rfl ?_
    refine z_iload_n K d_M_isSame_17 rfl ?_
    refine z_callV (ci := 0) (As := [.int (jI x), .int (jI y)]) K (c_M_compare l G b0 h a cd T hx0 hy0 hx hy) ca_M_36 im_M_compare se_M_compare rfl (by decide) hm_0 rfl rfl (by decide) (Nat.le_of_ble_eq_true rfl) d_M_isSame_18 (fun r h1 hp => ?_)
    obtain ⟨T1, rfl, rfl, z, rfl, hz, hz1, hz2⟩ := hp
    refine zi_if_ne (tgt := 28) K d_M_isSame_21 (by decide) hz (fun hc2 => ?_) (fun hc2 => ?_)
    · refine z_iconst (v := jI 0) K d_M_isSame_28 rfl ?_
      exact z_zret K hr hlk d_M_isSame_29 rfl ⟨_, rfl, rfl, by rw [if_neg (fun q => hc2 (hz2.mpr (by rw [q])))]⟩
    · refine z_iconst (v := jI 1) K d_M_isSame_24 rfl ?_
      refine z_goto (tgt := 29) K d_M_isSame_25 (by decide) ?_
      exact z_zret K hr hlk d_M_isSame_29 rfl ⟨_, rfl, rfl, by rw [if_pos (by rw [← sv, ← sw, hc, hz2.mp hc2])]⟩
end M2
