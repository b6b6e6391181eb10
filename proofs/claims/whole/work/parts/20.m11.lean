theorem Rg.uniq {T T' : mT} {r r' v : Int} {n m : Nat} (h : Rg T r n v) (h' : Rg T' r' m v) : n = m := Nat.le_antisymm (h.le h'.nn) (h'.le h.nn)
theorem tm_nat (v w : Int) : ((v.tmod w).natAbs : Int) = (v.natAbs : Int) % (w.natAbs : Int) := by rw [Int.natAbs_tmod]; rfl
theorem tm_sgn {v w : Int} (h : (v.tmod w).natAbs ≠ 0) : (v.tmod w).sign = v.sign := by
  rcases Int.lt_trichotomy v 0 with hv | hv | hv
  · have h1 : 0 ≤ (-v).tmod w := Int.tmod_nonneg _ (by omega)
    rw [Int.neg_tmod] at h1
    rw [Int.sign_eq_neg_one_of_neg hv, Int.sign_eq_neg_one_of_neg (by omega)]
  · subst hv; simp at h
  · have h1 : 0 ≤ v.tmod w := Int.tmod_nonneg _ (by omega)
    rw [Int.sign_eq_one_of_pos hv, Int.sign_eq_one_of_pos (by omega)]
theorem tm_small {v w : Int} (h : v.natAbs < w.natAbs) : v.tmod w = v := by
  have h1 : (v.tmod w).natAbs = v.natAbs := by rw [Int.natAbs_tmod, Nat.mod_eq_of_lt h]
  by_cases hv : v = 0
  · subst hv; simp
  · rw [← Int.sign_mul_natAbs (v.tmod w), tm_sgn (by omega), h1, Int.sign_mul_natAbs]
theorem Fr.of2 {T : mT} {C Z S : Int → Int} {r : Int} (rs : List Int) (hr : r ∈ rs) {zv sv : Int} (hZ : Z = iu T.2.1 r zv ∨ Z = T.2.1) (hS : S = iu T.2.2.1 r sv ∨ S = T.2.2.1) (hC : ∀ q : Int, q < 460 * r ∨ 460 * r + 460 ≤ q → C q = T.1 q) : Fr rs T (C, Z, S, T.2.2.2) := by
  refine ⟨rfl, fun q hq => ?_⟩
  have hq2 : q ≠ r := fun z => hq (by rw [z]; exact hr)
  refine ⟨?_, ?_, fun k h0 h1 => hC _ (by omega)⟩
  · show Z q = _
    rcases hZ with h | h
    · rw [h, iu_ne _ _ hq2]
    · rw [h]
  · show S q = _
    rcases hS with h | h
    · rw [h, iu_ne _ _ hq2]
    · rw [h]
/-- cells of a register that did not change -/
theorem dg_fr {f g : Int → Int} {b : Int} {n : Nat} (hg : dg f b n) (he : ∀ k : Nat, k < n → g (b + k) = f (b + k)) : dg g b n := fun k hk => by rw [he k hk]; exact hg k hk
section M11
variable {p : Program} {l : Launch} {e : Env} {R : Room} {s : State} {m : MethodId} {args : Array Value} {below : List Frame} {meth : Method} {c : Code} {Q : State → Prop} {b0 kc ks : Nat} {G : zG} {h : zH} {a : Nat} {cd : Int}
set_option maxHeartbeats 4000000 in
set_option maxRecDepth 100000 in
theorem t_M_divide180 (K : zC p s m args c b_M_divide R_M 10 b0 G) (hRm : 2 ≤ R.frames ∧ 50 ≤ R.locals ∧ kc ≤ R.cells ∧ ks ≤ R.slots) (T : mT) {q x y by0 v w : Int} {n tp : Nat} (hx0 : 0 ≤ x ∧ x < 56) (hy0 : 0 ≤ y ∧ y < 56) (hxy : x ≠ y) (hn : n ≤ 459) (hby : 0 < by0 ∧ by0 ≤ 1000000000) (hw : w ≠ 0) (hgx : dg T.1 (460 * x) n) (hvx : dv T.1 (460 * x) n = (v.natAbs : Int) % (w.natAbs : Int) * by0) (hzy : T.2.1 y = n) (hsy : T.2.2.1 y = w.sign) (hgy : dg T.1 (460 * y) n) (hvy : dv T.1 (460 * y) n = (w.natAbs : Int) * by0)
    (hx : ∀ T' : mT, (∃ N : Nat, Rg T' x N (v.tmod w)) → (∃ N : Nat, Rg T' y N w) → Fr [x, y] T T' → zW p l e R s m args below meth c 10 b0 G kc ks Q (hm G h a cd T') 209 [] []) :
    zW p l e R s m args below meth c 10 b0 G kc ks Q (hm G h a cd T) 180 [(0, .ref a), (1, .int (jI q)), (2, .int (jI x)), (3, .int (jI y)), (4, .int (jI by0)), (5, .int (jI n)), (6, .int (jI tp)), (7, .int (jI v.sign))] [] := by
  have hi32 : i32 by0 := ⟨by omega, by omega⟩
  refine z_aload_n K d_M_divide_180 rfl ?_
  refine zm_get K fd_M_16 rfl d_M_divide_181 ?_
  refine z_iload_n K d_M_divide_184 rfl ?_
  refine z_iload K d_M_divide_185 rfl ?_
  refine zm_sst K (by omega) d_M_divide_187 ?_
  refine z_aload_n K d_M_divide_188 rfl ?_
  refine z_iload_n K d_M_divide_189 rfl ?_
  refine z_iload K d_M_divide_190 rfl ?_
  refine z_callV (ci := 0) (As := [.int (jI x), .int (jI n)]) K (c_M_trim l G b0 h a cd (T.1, T.2.1, iu T.2.2.1 x v.sign, T.2.2.2) hx0 hn hgx) ca_M_53 im_M_trim se_M_trim rfl (by decide) hm_0 rfl rfl (by omega) (Nat.le_of_ble_eq_true rfl) d_M_divide_192 (fun o h1 hp => ?_)
  obtain ⟨T1, rfl, rfl, N, k1, k2, k3, rfl⟩ := hp
  dsimp only at k2 k3 ⊢
  rw [iu_iu, iu_self]
  refine z_aload_n K d_M_divide_195 rfl ?_
  refine z_iload_n K d_M_divide_196 rfl ?_
  refine z_iload K d_M_divide_197 rfl ?_
  refine z_callV (ci := 0) (As := [.int (jI x), .int (jI by0)]) K (c_M_bySmall l G b0 h a cd (T.1, iu T.2.1 x N, iu T.2.2.1 x (if N = 0 then 0 else v.sign), T.2.2.2) (u := (v.natAbs : Int) % (w.natAbs : Int) * by0) (n := N) hx0 hby ⟨iu_self _ _ _, by omega, fun k hk => hgx k (by omega), by rw [k3, hvx]⟩) ca_M_63 im_M_bySmall se_M_bySmall rfl (by decide) hm_0 rfl rfl (by omega) (Nat.le_of_ble_eq_true rfl) d_M_divide_199 (fun o h1 hp => ?_)
  obtain ⟨T1, rfl, rfl, N2, C2, rfl, j1, j2, j3, j4, j5⟩ := hp
  dsimp only at j5 ⊢
  rw [iu_iu, iu_iu, iu_self]
  rw [Int.mul_ediv_cancel _ (by omega), ← tm_nat] at j3
  have hyn : y ≠ x := fun z => hxy z.symm
  refine z_aload_n K d_M_divide_202 rfl ?_
  refine z_iload_n K d_M_divide_203 rfl ?_
  refine z_iload K d_M_divide_204 rfl ?_
  refine z_callV (ci := 0) (As := [.int (jI y), .int (jI by0)]) K (c_M_bySmall l G b0 h a cd (C2, iu T.2.1 x N2, iu T.2.2.1 x (if N2 = 0 then 0 else if N = 0 then 0 else v.sign), T.2.2.2) (u := (w.natAbs : Int) * by0) (n := n) hy0 hby ⟨(iu_ne _ _ hyn).trans hzy, hn, dg_fr hgy (fun k hk => j5 _ (by omega)), by rw [← hvy]; exact dv_congr (fun k hk => j5 _ (by omega))⟩) ca_M_63 im_M_bySmall se_M_bySmall rfl (by decide) hm_0 rfl rfl (by omega) (Nat.le_of_ble_eq_true rfl) d_M_divide_206 (fun o h1 hp => ?_)
  obtain ⟨T1, rfl, rfl, N3, C3, rfl, i1, i2, i3, i4, i5⟩ := hp
  dsimp only at i5 ⊢
  rw [iu_ne T.2.2.1 _ hyn, hsy]
  rw [Int.mul_ediv_cancel _ (by omega)] at i3
  refine z_re [] rfl (hx _ ⟨N2, ?_⟩ ⟨N3, ?_⟩ ?_)
  · refine ⟨(iu_ne _ _ hxy).trans (iu_self _ _ _), by omega, dg_fr j2 (fun k hk => i5 _ (by omega)), fun j hj => ?_, ?_, ?_⟩
    · dsimp only
      rw [i5 _ (by omega)]; exact j4 j hj
    · dsimp only
      rw [iu_ne _ _ hxy, iu_self]
      by_cases hN2 : N2 = 0
      · subst hN2
        rw [if_pos rfl]
        simp only [dv] at j3
        rw [show v.tmod w = 0 by omega]; rfl
      · have := dv_pos j2 hN2 j4
        rw [if_neg hN2, if_neg (by omega), tm_sgn (by omega)]
    · rw [← j3]
      exact dv_congr (fun k hk => (i5 _ (by omega)).symm)
  · refine ⟨iu_self _ _ _, by omega, i2, i4, ?_, i3.symm⟩
    dsimp only
    rw [iu_self]
    by_cases hN3 : N3 = 0
    · subst hN3
      simp only [dv] at i3
      omega
    · rw [if_neg hN3]
  · have f1 : Fr [x, y] T (C2, iu T.2.1 x N2, iu T.2.2.1 x (if N2 = 0 then 0 else if N = 0 then 0 else v.sign), T.2.2.2) := Fr.of2 _ (by simp) (Or.inl rfl) (Or.inl rfl) j5
    exact f1.tr (Fr.of2 (r := y) (sv := if N3 = 0 then 0 else w.sign) _ (by simp) (Or.inl rfl) (Or.inl rfl) i5)
set_option maxHeartbeats 4000000 in
set_option maxRecDepth 100000 in
theorem t_M_divide28 (K : zC p s m args c b_M_divide R_M 10 b0 G) (hRm : 2 ≤ R.frames ∧ 50 ≤ R.locals ∧ kc ≤ R.cells ∧ ks ≤ R.slots) (T : mT) {q x y v w : Int} {n1 n2 : Nat} (hq : q = -1 ∨ (0 ≤ q ∧ q < 56 ∧ q ≠ x ∧ q ≠ y)) (hx0 : 0 ≤ x ∧ x < 56) (hy0 : 0 ≤ y ∧ y < 56) (hxy : x ≠ y) (hx1 : Rg T x n1 v) (hy1 : Rg T y n2 w) (hw : w ≠ 0) (hb : n1 ≤ 457) (hvw : w.natAbs ≤ v.natAbs)
    (hx : ∀ T' : mT, (0 ≤ q → ∃ N : Nat, Rg T' q N ((v.natAbs : Int) / (w.natAbs : Int))) → (∃ N : Nat, Rg T' x N (v.tmod w)) → (∃ N : Nat, Rg T' y N w) → Fr [q, x, y] T T' → zW p l e R s m args below meth c 10 b0 G kc ks Q (hm G h a cd T') 209 [] []) :
    zW p l e R s m args below meth c 10 b0 G kc ks Q (hm G h a cd T) 28 [(0, .ref a), (1, .int (jI q)), (2, .int (jI x)), (3, .int (jI y))] [] := by
  obtain ⟨t, rfl⟩ : ∃ t, n2 = t + 1 := ⟨n2 - 1, by have := hy1.zero; omega⟩
  have hyx : y ≠ x := fun z => hxy z.symm
  have hxn := hx1.2.1
  have hyn := hy1.2.1
  have hnn : t + 1 ≤ n1 := hy1.le (by have := hx1.nn; omega)
  have tg := hy1.2.2.1 t (by omega)
  have tz := hy1.2.2.2.1 t rfl
  have hyv := hy1.2.2.2.2.2
  obtain ⟨tt, htt⟩ : ∃ tt : Int, tt = T.1 (460 * y + t) := ⟨_, rfl⟩
  rw [← htt] at tg tz
  obtain ⟨by0, hby0⟩ : ∃ z : Int, z = 1000000000 / (tt + 1) := ⟨_, rfl⟩
  have hP := BS_pos t
  have b1 := Int.mul_ediv_add_emod 1000000000 (tt + 1)
  have b2 := Int.emod_nonneg 1000000000 (show tt + 1 ≠ 0 by omega)
  have b3 := Int.emod_lt_of_pos 1000000000 (show 0 < tt + 1 by omega)
  rw [← hby0] at b1
  have b4 : 1 ≤ by0 := by
    by_cases z : 1 ≤ by0
    · exact z
    · have z2 : (tt + 1) * by0 ≤ (tt + 1) * 0 := Int.mul_le_mul_of_nonneg_left (by omega) (by omega)
      omega
  have b5 : by0 ≤ 500000000 := by
    have : 2 * by0 ≤ (tt + 1) * by0 := Int.mul_le_mul_of_nonneg_right (by omega) (by omega)
    omega
  have b6 : (tt + 1) * by0 ≤ 1000000000 := by omega
  have b7 : 500000000 ≤ tt * by0 := norm_half (by omega) b4 (by rw [Int.mul_add, Int.mul_one]; omega)
  refine z_ldc (v := jI 1000000000) K d_M_divide_28 kc_M_52 ?_
  refine z_aload_n K d_M_divide_30 rfl ?_
  refine zm_get K fd_M_9 rfl d_M_divide_31 ?_
  refine z_sipush (v := jI 460) K d_M_divide_34 rfl ?_
  refine z_iload_n K d_M_divide_37 rfl ?_
  refine zi_imul K d_M_divide_38 ?_
  refine z_aload_n K d_M_divide_39 rfl ?_
  refine zm_get K fd_M_13 rfl d_M_divide_40 ?_
  refine z_iload_n K d_M_divide_43 rfl ?_
  refine zm_zld K (by omega) d_M_divide_44 ?_
  refine zi_iadd K d_M_divide_45 ?_
  refine z_iconst (v := jI 1) K d_M_divide_46 rfl ?_
  refine zi_isub K d_M_divide_47 ?_
  rw [hy1.1, show 460 * y + ((t + 1 : Nat) : Int) - 1 = 460 * y + t by omega]
  refine zm_cld K (by omega) d_M_divide_48 ?_
  rw [← htt]
  refine z_iconst (v := jI 1) K d_M_divide_49 rfl ?_
  refine zi_iadd K d_M_divide_50 ?_
  refine zi_idiv K d_M_divide_51 (by omega) (by omega) (by omega) ?_
  refine z_istore K d_M_divide_52 (by decide) ?_
  rw [tdiv_pos (by decide), ← hby0]
  refine z_aload_n K d_M_divide_54 rfl ?_
  refine z_iload_n K d_M_divide_55 rfl ?_
  refine z_iload K d_M_divide_56 rfl ?_
  refine zi_i2l K d_M_divide_58 (by omega) ?_
  refine z_callV (ci := 0) (As := [.int (jI x), .long (kI by0)]) K (c_M_timesSmall l G b0 h a cd T hx0 (v := by0) ⟨by omega, by omega⟩ (by omega) hx1.mg) ca_M_56 im_M_timesSmall se_M_timesSmall rfl (by decide) hm_0 rfl rfl (by omega) (Nat.le_of_ble_eq_true rfl) d_M_divide_59 (fun o h1 hp => ?_)
  obtain ⟨T1, rfl, rfl, N1, C1, rfl, k1, k2, k3, k4, k5, k6⟩ := hp
  refine z_aload_n K d_M_divide_62 rfl ?_
  refine z_iload_n K d_M_divide_63 rfl ?_
  refine z_iload K d_M_divide_64 rfl ?_
  refine zi_i2l K d_M_divide_66 (by omega) ?_
  refine z_callV (ci := 0) (As := [.int (jI y), .long (kI by0)]) K (c_M_timesSmall l G b0 h a cd (C1, iu T.2.1 x N1, T.2.2) hy0 (v := by0) (u := w.natAbs) (n := t + 1) ⟨by omega, by omega⟩ (by omega) ⟨(iu_ne _ _ hyx).trans hy1.1, hyn, dg_fr hy1.2.2.1 (fun k hk => k6 _ (by omega)), by rw [hyv]; exact dv_congr (fun k hk => k6 _ (by omega))⟩) ca_M_56 im_M_timesSmall se_M_timesSmall rfl (by decide) hm_0 rfl rfl (by omega) (Nat.le_of_ble_eq_true rfl) d_M_divide_67 (fun o h1 hp => ?_)
  obtain ⟨T1, rfl, rfl, N2, C2, rfl, j1, j2, j3, j4, j5, j6⟩ := hp
  dsimp only at j6 ⊢
  have hwlt : (w.natAbs : Int) < (tt + 1) * BS ^ t := by
    rw [hyv, dv_hi, ← htt, Int.add_mul, Int.one_mul]
    have := (dv_bd (f := T.1) (b := 460 * y) (n := t) (fun k hk => hy1.2.2.1 k (by omega))).2
    omega
  have hwge : tt * BS ^ t ≤ (w.natAbs : Int) := by
    rw [hyv, dv_hi, ← htt]
    have := (dv_bd (f := T.1) (b := 460 * y) (n := t) (fun k hk => hy1.2.2.1 k (by omega))).1
    omega
  have hBlt : (w.natAbs : Int) * by0 < BS ^ (t + 1) := by
    have z1 : (w.natAbs : Int) * by0 < (tt + 1) * BS ^ t * by0 := Int.mul_lt_mul_of_pos_right hwlt (by omega)
    have z2 : (tt + 1) * by0 * BS ^ t ≤ 1000000000 * BS ^ t := Int.mul_le_mul_of_nonneg_right b6 (Int.le_of_lt hP)
    have z3 : (tt + 1) * BS ^ t * by0 = (tt + 1) * by0 * BS ^ t := by grind
    rw [Int.pow_succ, Int.mul_comm (BS ^ t)]
    show _ < 1000000000 * BS ^ t
    omega
  have hBge : tt * by0 * BS ^ t ≤ (w.natAbs : Int) * by0 := by
    have z1 : tt * BS ^ t * by0 ≤ (w.natAbs : Int) * by0 := Int.mul_le_mul_of_nonneg_right hwge (by omega)
    have z3 : tt * BS ^ t * by0 = tt * by0 * BS ^ t := by grind
    omega
  have hN2 : N2 = t + 1 := by
    by_cases z : N2 = t + 1
    · exact z
    · have z2 : N2 = t + 1 + 1 := by omega
      subst z2
      have z3 := j3 rfl
      have z4 := j4 (t + 1) (by omega)
      rw [dv_hi] at j5
      have z5 := (dv_bd (f := C2) (b := 460 * y) (n := t + 1) (fun k hk => j4 k (by omega))).1
      have z6 : 1 * BS ^ (t + 1) ≤ C2 (460 * y + ((t + 1 : Nat) : Int)) * BS ^ (t + 1) := Int.mul_le_mul_of_nonneg_right (by omega) (Int.le_of_lt (BS_pos (t + 1)))
      omega
  subst hN2
  have hlead : 500000000 ≤ C2 (460 * y + t) := by
    have z5 := (dv_bd (f := C2) (b := 460 * y) (n := t) (fun k hk => j4 k (by omega))).2
    rw [dv_hi] at j5
    have z6 : tt * by0 * BS ^ t < (C2 (460 * y + t) + 1) * BS ^ t := by rw [Int.add_mul, Int.one_mul]; omega
    have := mul_lt_cancel hP z6
    omega
  refine z_aload_n K d_M_divide_70 rfl ?_
  refine zm_get K fd_M_13 rfl d_M_divide_71 ?_
  refine z_iload_n K d_M_divide_74 rfl ?_
  refine zm_zld K (by omega) d_M_divide_75 ?_
  refine z_istore K d_M_divide_76 (by decide) ?_
  dsimp only
  rw [iu_self]
  refine z_aload_n K d_M_divide_78 rfl ?_
  refine zm_get K fd_M_13 rfl d_M_divide_79 ?_
  refine z_iload_n K d_M_divide_82 rfl ?_
  refine zm_zld K (by omega) d_M_divide_83 ?_
  refine z_istore K d_M_divide_84 (by decide) ?_
  dsimp only
  rw [iu_ne _ _ hxy, iu_self]
  refine z_aload_n K d_M_divide_86 rfl ?_
  refine zm_get K fd_M_9 rfl d_M_divide_87 ?_
  refine z_sipush (v := jI 460) K d_M_divide_90 rfl ?_
  refine z_iload_n K d_M_divide_93 rfl ?_
  refine zi_imul K d_M_divide_94 ?_
  refine z_iload K d_M_divide_95 rfl ?_
  refine zi_iadd K d_M_divide_97 ?_
  refine z_iconst (v := jI 0) K d_M_divide_98 rfl ?_
  refine zm_cst K (by omega) d_M_divide_99 ?_
  refine z_aload_n K d_M_divide_100 rfl ?_
  refine zm_get K fd_M_16 rfl d_M_divide_101 ?_
  refine z_iload_n K d_M_divide_104 rfl ?_
  refine zm_sld K (by omega) d_M_divide_105 ?_
  refine z_istore K d_M_divide_106 (by decide) ?_
  dsimp only
  rw [hx1.2.2.2.2.1]
  refine z_iload K d_M_divide_108 rfl ?_
  refine z_iload K d_M_divide_110 rfl ?_
  refine zi_isub K d_M_divide_112 ?_
  refine z_istore K d_M_divide_113 (by decide) ?_
  rw [show (N1 : Int) - ((t + 1 : Nat) : Int) = ((N1 - (t + 1) + 1 : Nat) : Int) - 1 by omega]
  refine z_re [0, 1, 2, 3, 4, 5, 6, 7, 8] rfl ?_
  have hB : (w.natAbs : Int) * by0 = dv (iu C2 (460 * x + N1) 0) (460 * y) (t + 1) := by rw [dv_iu (fun k hk => by omega)]; exact j5.symm
  have gX : dg (iu C2 (460 * x + N1) 0) (460 * x) (N1 + 1) := fun k hk => by
    by_cases z : k = N1
    · subst z; rw [iu_self]; omega
    · rw [iu_ne _ _ (by omega), j6 _ (by omega)]; exact k4 k (by omega)
  have vX : dv (iu C2 (460 * x + N1) 0) (460 * x) (N1 + 1) = (v.natAbs : Int) * by0 := by
    rw [dv_hi, iu_self, dv_iu (fun k hk => by omega), ← k5, dv_congr (f := C2) (g := C1) (c := 460 * x) (n := N1) (fun k hk => j6 _ (by omega))]
    omega
  refine lp_M_divide K ⟨by omega, by omega, by omega, by omega⟩ (iu C2 (460 * x + N1) 0, iu (iu T.2.1 x N1) y (t + 1 : Nat), T.2.2) hq hx0 hy0 hxy (by omega) (by omega) (by omega) (dg_fr j4 (fun k hk => iu_ne _ _ (by omega))) hB (by dsimp only; rw [show 460 * y + (((t + 1 : Nat) : Int) - 1) = 460 * y + t by omega, iu_ne _ _ (by omega)]; exact hlead) (A0 := (v.natAbs : Int) * by0) (fun C Qd g1 g2 g3 g4 g5 => ?_) (N1 - (t + 1) + 1) _ 0 (by omega) (fun k hk => gX k (by omega)) ?_ ?_ (fun _ => ?_) (fun z _ _ => rfl)
  · dsimp only at g5
    have hd := dv_bd g1
    have hQd : Qd = (v.natAbs : Int) / (w.natAbs : Int) ∧ dv C (460 * x) (t + 1) = (v.natAbs : Int) % (w.natAbs : Int) * by0 := by
      have w0 : 0 < (w.natAbs : Int) * by0 := Int.mul_pos (by omega) (by omega)
      have e1 : (v.natAbs : Int) * by0 / ((w.natAbs : Int) * by0) = Qd := by
        rw [g3, Int.add_mul_ediv_right _ _ (by omega), Int.ediv_eq_zero_of_lt hd.1 g2, Int.zero_add]
      have e2 : (v.natAbs : Int) * by0 % ((w.natAbs : Int) * by0) = dv C (460 * x) (t + 1) := by
        rw [g3, Int.add_mul_emod_self_right, Int.emod_eq_of_lt hd.1 g2]
      rw [← e1, ← e2, Int.mul_comm (v.natAbs : Int), Int.mul_comm (w.natAbs : Int), Int.mul_ediv_mul_of_pos _ _ (by omega), Int.mul_emod_mul_of_pos _ _ (by omega), Int.mul_comm by0]
      exact ⟨rfl, rfl⟩
    have fC : ∀ z : Int, z < 460 * x ∨ 460 * x + 460 ≤ z → z < 460 * y ∨ 460 * y + 460 ≤ z → (q < 0 ∨ z < 460 * q ∨ 460 * q + 460 ≤ z) → C z = T.1 z := fun z z1 z2 z3 => by rw [g5 z z1 z3, iu_ne _ _ (by omega), j6 z z2, k6 z z1]
    have gy : ∀ k : Nat, k < t + 1 → C (460 * y + k) = C2 (460 * y + k) := fun k hk => by rw [g5 _ (by omega) (by omega), iu_ne _ _ (by omega)]
    refine z_iload_n K d_M_divide_157 rfl ?_
    refine zi_if_lt (tgt := 180) K d_M_divide_158 (by decide) (by omega) (fun hc => ?_) (fun hc => ?_)
    · refine t_M_divide180 K hRm _ hx0 hy0 hxy hyn ⟨by omega, by omega⟩ hw g1 hQd.2 (iu_self _ _ _) hy1.2.2.2.2.1 (dg_fr j4 gy) (by rw [← j5]; exact dv_congr gy) (fun T' r1 r2 r3 => hx T' (fun z => absurd z (by omega)) r1 r2 ?_)
      refine ⟨r3.1, fun z hz => ?_⟩
      have z1 : z ≠ x := fun e => hz (by rw [e]; simp)
      have z2 : z ≠ y := fun e => hz (by rw [e]; simp)
      have r4 := r3.2 z (by simp [z1, z2])
      dsimp only at r4
      rw [iu_ne _ _ z2, iu_ne _ _ z1] at r4
      exact ⟨r4.1, r4.2.1, fun k h0 h1 => (r4.2.2 k h0 h1).trans (fC _ (by omega) (by omega) (by omega))⟩
    · obtain ⟨q1, q2⟩ := g4 hc
      have hq2 : 0 ≤ q ∧ q < 56 ∧ q ≠ x ∧ q ≠ y := by omega
      refine z_aload_n K d_M_divide_161 rfl ?_
      refine zm_get K fd_M_16 rfl d_M_divide_162 ?_
      refine z_iload_n K d_M_divide_165 rfl ?_
      refine z_iconst (v := jI 1) K d_M_divide_166 rfl ?_
      refine zm_sst K (by omega) d_M_divide_167 ?_
      refine z_aload_n K d_M_divide_168 rfl ?_
      refine z_iload_n K d_M_divide_169 rfl ?_
      refine z_iload K d_M_divide_170 rfl ?_
      refine z_iload K d_M_divide_172 rfl ?_
      refine zi_isub K d_M_divide_174 ?_
      refine z_iconst (v := jI 1) K d_M_divide_175 rfl ?_
      refine zi_iadd K d_M_divide_176 ?_
      rw [show (N1 : Int) - ((t + 1 : Nat) : Int) + 1 = ((N1 - (t + 1) + 1 : Nat) : Int) by omega]
      dsimp only
      refine z_callV (ci := 0) (As := [.int (jI q), .int (jI (N1 - (t + 1) + 1 : Nat))]) K (c_M_trim l G b0 h a cd (C, iu (iu T.2.1 x N1) y (t + 1 : Nat), iu T.2.2.1 q 1, T.2.2.2) ⟨hq2.1, hq2.2.1⟩ (by omega) q1) ca_M_53 im_M_trim se_M_trim rfl (by decide) hm_0 rfl rfl (by omega) (Nat.le_of_ble_eq_true rfl) d_M_divide_177 (fun o h1 hp => ?_)
      obtain ⟨T1, rfl, rfl, Nq, i1, i2, i3, rfl⟩ := hp
      dsimp only at i2 i3 ⊢
      rw [iu_iu, iu_self]
      have hyq : y ≠ q := fun z => hq2.2.2.2 z.symm
      have hxq : x ≠ q := fun z => hq2.2.2.1 z.symm
      refine t_M_divide180 K hRm _ hx0 hy0 hxy hyn ⟨by omega, by omega⟩ hw g1 hQd.2 ((iu_ne _ _ hyq).trans (iu_self _ _ _)) ((iu_ne _ _ hyq).trans hy1.2.2.2.2.1) (dg_fr j4 gy) (by rw [← j5]; exact dv_congr gy) (fun T' r1 r2 r3 => hx T' (fun _ => ⟨Nq, ?_⟩) r1 r2 ?_)
      · have hrg : Rg (C, iu (iu (iu T.2.1 x N1) y (t + 1 : Nat)) q Nq, iu T.2.2.1 q (if Nq = 0 then 0 else 1), T.2.2.2) q Nq ((v.natAbs : Int) / (w.natAbs : Int)) := by
          have hpos : 0 ≤ (v.natAbs : Int) / (w.natAbs : Int) := Int.ediv_nonneg (by omega) (by omega)
          have hval : (((v.natAbs : Int) / (w.natAbs : Int)).natAbs : Int) = dv C (460 * q) Nq := by rw [i3, q2, hQd.1]; omega
          refine ⟨iu_self _ _ _, by omega, fun k hk => q1 k (by omega), i2, ?_, hval⟩
          dsimp only
          rw [iu_self]
          by_cases z : Nq = 0
          · subst z
            simp only [dv] at hval
            rw [if_pos rfl, show (v.natAbs : Int) / (w.natAbs : Int) = 0 by omega]; rfl
          · have := dv_pos (f := C) (b := 460 * q) (fun k hk => q1 k (by omega)) z i2
            rw [if_neg z, Int.sign_eq_one_of_pos (by omega)]
        exact hrg.fr r3 (by simp [hq2.2.2.1, hq2.2.2.2])
      · refine ⟨r3.1, fun z hz => ?_⟩
        have z1 : z ≠ x := fun e => hz (by rw [e]; simp)
        have z2 : z ≠ y := fun e => hz (by rw [e]; simp)
        have z3 : z ≠ q := fun e => hz (by rw [e]; simp)
        have r4 := r3.2 z (by simp [z1, z2])
        dsimp only at r4
        rw [iu_ne _ _ z3, iu_ne _ _ z2, iu_ne _ _ z1, iu_ne _ _ z3] at r4
        exact ⟨r4.1, r4.2.1, fun k h0 h1 => (r4.2.2 k h0 h1).trans (fC _ (by omega) (by omega) (by omega))⟩
  · have e1 : dv (iu C2 (460 * x + N1) 0) (460 * x + ((N1 - (t + 1) + 1 : Nat) : Int)) (t + 1) < BS ^ t := by
      rw [dv_hi, show 460 * x + ((N1 - (t + 1) + 1 : Nat) : Int) + t = 460 * x + N1 by omega, iu_self]
      have := (dv_bd (f := iu C2 (460 * x + N1) 0) (b := 460 * x + ((N1 - (t + 1) + 1 : Nat) : Int)) (n := t) (fun k hk => by
        have := gX (N1 - (t + 1) + 1 + k) (by omega)
        rwa [show 460 * x + ((N1 - (t + 1) + 1 + k : Nat) : Int) = 460 * x + ((N1 - (t + 1) + 1 : Nat) : Int) + k by omega] at this)).2
      omega
    have e2 : 1 * BS ^ t ≤ tt * by0 * BS ^ t := Int.mul_le_mul_of_nonneg_right (by omega) (Int.le_of_lt hP)
    omega
  · rw [show N1 - (t + 1) + 1 + (t + 1) = N1 + 1 by omega, vX, Int.mul_zero, Int.zero_mul, Int.add_zero]
  · rw [show N1 - (t + 1) + 1 - (N1 - (t + 1) + 1) = 0 by omega]
    exact ⟨fun k hk => absurd hk (by omega), rfl⟩
set_option maxHeartbeats 4000000 in
set_option maxRecDepth 100000 in
/-- divide(q, x, y): the register q, if it is one, holds the quotient of the sizes; x holds the rest, with its own sign; y stays -/
theorem c_M_divide (l : Launch) (G : zG) (b0 : Nat) (h : zH) (a : Nat) (cd : Int) (T : mT) {q x y v w : Int} {n1 n2 : Nat} (hq : q = -1 ∨ (0 ≤ q ∧ q < 56 ∧ q ≠ x ∧ q ≠ y)) (hx0 : 0 ≤ x ∧ x < 56) (hy0 : 0 ≤ y ∧ y < 56) (hxy : x ≠ y) (hx1 : Rg T x n1 v) (hy1 : Rg T y n2 w) (hw : w ≠ 0) (hb : n1 ≤ 457) :
    mMet l G b0 y_M_divide b_M_divide 10 none 2 50 h a cd [.int (jI q), .int (jI x), .int (jI y)] T (fun o T' => o = none ∧ (0 ≤ q → ∃ N : Nat, Rg T' q N ((v.natAbs : Int) / (w.natAbs : Int))) ∧ (∃ N : Nat, Rg T' x N (v.tmod w)) ∧ (∃ N : Nat, Rg T' y N w) ∧ Fr [q, x, y] T T') :=
  z_met (by decide) (Nat.le_of_ble_eq_true rfl) fun p e s m below meth c K hr hlk hnm => by
  refine z_iload_n K d_M_divide_0 rfl ?_
  refine zi_if_lt (tgt := 18) K d_M_divide_1 (by decide) (by omega) (fun hc => ?_) (fun hc => ?_)
  · refine z_aload_n K d_M_divide_18 rfl ?_
    refine z_iload_n K d_M_divide_19 rfl ?_
    refine z_iload_n K d_M_divide_20 rfl ?_
    refine z_callV (ci := 0) (As := [.int (jI x), .int (jI y)]) K (c_M_compare l G b0 h a cd T hx0 hy0 hx1 hy1) ca_M_36 im_M_compare se_M_compare rfl (by decide) hm_0 rfl rfl (by decide) (Nat.le_of_ble_eq_true rfl) d_M_divide_21 (fun o h1 hp => ?_)
    obtain ⟨T1, rfl, rfl, z, rfl, hz, hz1, hz2⟩ := hp
    refine zi_if_ge (tgt := 28) K d_M_divide_24 (by decide) hz (fun hc2 => ?_) (fun hc2 => ?_)
    · have hvw : w.natAbs ≤ v.natAbs := by
        have : ¬ v.natAbs < w.natAbs := fun z => by have := hz1.mpr z; omega
        omega
      exact z_re [0, 1, 2, 3] rfl (t_M_divide28 K ⟨Nat.le_refl _, Nat.le_refl _, Nat.le_refl _, Nat.le_refl _⟩ T hq hx0 hy0 hxy hx1 hy1 hw hb hvw (fun T' r1 r2 r3 r4 => z_vret K hr hlk d_M_divide_209 ⟨_, rfl, rfl, r1, r2, r3, r4⟩))
    · have hvw := hz1.mp hc2
      exact z_vret K hr hlk d_M_divide_27 ⟨_, rfl, rfl, fun z => absurd z (by omega), ⟨n1, by rw [tm_small hvw]; exact hx1⟩, ⟨n2, hy1⟩, Fr.rf⟩
  · have hq2 : 0 ≤ q ∧ q < 56 ∧ q ≠ x ∧ q ≠ y := by omega
    refine z_aload_n K d_M_divide_4 rfl ?_
    refine zm_get K fd_M_13 rfl d_M_divide_5 ?_
    refine z_iload_n K d_M_divide_8 rfl ?_
    refine z_iconst (v := jI 0) K d_M_divide_9 rfl ?_
    refine zm_zst K (by omega) d_M_divide_10 ?_
    refine z_aload_n K d_M_divide_11 rfl ?_
    refine zm_get K fd_M_16 rfl d_M_divide_12 ?_
    refine z_iload_n K d_M_divide_15 rfl ?_
    refine z_iconst (v := jI 0) K d_M_divide_16 rfl ?_
    refine zm_sst K (by omega) d_M_divide_17 ?_
    have f0 : Fr [q, x, y] T (T.1, iu T.2.1 q 0, iu T.2.2.1 q 0, T.2.2.2) := Fr.of2 (r := q) _ (by simp) (Or.inl rfl) (Or.inl rfl) (fun z _ => rfl)
    have f1 : Fr [q] T (T.1, iu T.2.1 q 0, iu T.2.2.1 q 0, T.2.2.2) := Fr.of2 (r := q) _ (by simp) (Or.inl rfl) (Or.inl rfl) (fun z _ => rfl)
    have hx2 := hx1.fr f1 (by simp; exact fun z => hq2.2.2.1 z.symm)
    have hy2 := hy1.fr f1 (by simp; exact fun z => hq2.2.2.2 z.symm)
    refine z_aload_n K d_M_divide_18 rfl ?_
    refine z_iload_n K d_M_divide_19 rfl ?_
    refine z_iload_n K d_M_divide_20 rfl ?_
    refine z_callV (ci := 0) (As := [.int (jI x), .int (jI y)]) K (c_M_compare l G b0 h a cd _ hx0 hy0 hx2 hy2) ca_M_36 im_M_compare se_M_compare rfl (by decide) hm_0 rfl rfl (by decide) (Nat.le_of_ble_eq_true rfl) d_M_divide_21 (fun o h1 hp => ?_)
    obtain ⟨T1, rfl, rfl, z, rfl, hz, hz1, hz2⟩ := hp
    refine zi_if_ge (tgt := 28) K d_M_divide_24 (by decide) hz (fun hc2 => ?_) (fun hc2 => ?_)
    · have hvw : w.natAbs ≤ v.natAbs := by
        have : ¬ v.natAbs < w.natAbs := fun z => by have := hz1.mpr z; omega
        omega
      exact z_re [0, 1, 2, 3] rfl (t_M_divide28 K ⟨Nat.le_refl _, Nat.le_refl _, Nat.le_refl _, Nat.le_refl _⟩ _ hq hx0 hy0 hxy hx2 hy2 hw hb hvw (fun T' r1 r2 r3 r4 => z_vret K hr hlk d_M_divide_209 ⟨_, rfl, rfl, r1, r2, r3, f0.tr r4⟩))
    · have hvw := hz1.mp hc2
      refine z_vret K hr hlk d_M_divide_27 ⟨_, rfl, rfl, fun _ => ⟨0, ?_⟩, ⟨n1, by rw [tm_small hvw]; exact hx2⟩, ⟨n2, hy2⟩, f0⟩
      rw [Int.ediv_eq_zero_of_lt (by omega) (by omega)]
      exact ⟨iu_self _ _ _, by omega, fun k hk => absurd hk (by omega), fun j hj => absurd hj (by omega), (iu_self _ _ _).trans rfl, rfl⟩
end M11
