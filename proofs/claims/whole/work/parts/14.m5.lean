theorem Rg.mk {T : mT} {C S : Int → Int} {r v sv : Int} {N : Nat} {X : Int → Int} (hN : N ≤ 459) (hg : dg C (460 * r) N) (ht : ∀ j : Nat, N = j + 1 → C (460 * r + j) ≠ 0) (hs : sv = v.sign) (hv : (v.natAbs : Int) = dv C (460 * r) N) : Rg (C, iu X r N, iu S r sv, T.2.2.2) r N v :=
  ⟨iu_self _ _ _, hN, hg, ht, (iu_self _ _ _).trans hs, hv⟩
theorem sg_mul {w sg : Int} (hs : sg = 1 ∨ sg = -1) : (sg * w).sign = w.sign * sg ∧ (sg * w).natAbs = w.natAbs := by
  rcases hs with rfl | rfl
  · simp
  · constructor
    · rw [show (-1 : Int) * w = -w by omega, Int.sign_neg]; omega
    · omega
theorem dv_pos {f : Int → Int} {b : Int} {N : Nat} (hg : dg f b N) (hN : N ≠ 0) (ht : ∀ j : Nat, N = j + 1 → f (b + j) ≠ 0) : 0 < dv f b N := by
  obtain ⟨j, rfl⟩ : ∃ j, N = j + 1 := ⟨N - 1, by omega⟩
  simp only [dv]
  have h1 := (dv_bd (n := j) (fun k hk => hg k (by omega))).1
  have h2 := hg j (by omega)
  have h3 := ht j rfl
  have := Int.mul_pos (show 0 < f (b + j) by omega) (BS_pos j)
  omega
section M5
variable {p : Program} {l : Launch} {e : Env} {R : Room} {s : State} {m : MethodId} {args : Array Value} {below : List Frame} {meth : Method} {c : Code} {Q : State → Prop} {b0 kc ks : Nat} {G : zG} {h : zH} {a : Nat} {cd : Int}
set_option maxHeartbeats 4000000 in
set_option maxRecDepth 100000 in
/-- add(r, x, y, sg): the register r holds v + sg w -/
theorem c_M_add (l : Launch) (G : zG) (b0 : Nat) (h : zH) (a : Nat) (cd : Int) (T : mT) {r x y v w sg : Int} {n1 n2 : Nat} (hr0 : 0 ≤ r ∧ r < 56) (hx0 : 0 ≤ x ∧ x < 56) (hy0 : 0 ≤ y ∧ y < 56) (hx : Rg T x n1 v) (hy : Rg T y n2 w) (hs : sg = 1 ∨ sg = -1) (hb1 : n1 ≤ 458) (hb2 : n2 ≤ 458) :
    mMet l G b0 y_M_add b_M_add 7 none 2 52 h a cd [.int (jI r), .int (jI x), .int (jI y), .int (jI sg)] T (fun o T' => o = none ∧ (∃ N : Nat, N ≤ max n1 n2 + 1 ∧ Rg T' r N (v + sg * w)) ∧ Fr [r] T T') :=
  z_met (by decide) (Nat.le_of_ble_eq_true rfl) fun p e s m below meth c K hr hlk hnm => by
  obtain ⟨e1, e2⟩ := sg_mul (w := w) hs
  have s1 := sgn3 v
  have s2 := sgn3 w
  have s3 := sgn3 (sg * w)
  have hsx := hx.2.2.2.2.1
  have hsy := hy.2.2.2.2.1
  refine z_aload_n K d_M_add_0 rfl ?_
  refine zm_get K fd_M_16 rfl d_M_add_1 ?_
  refine z_iload_n K d_M_add_4 rfl ?_
  refine zm_sld K (by omega) d_M_add_5 ?_
  refine z_istore K d_M_add_6 (by decide) ?_
  refine z_aload_n K d_M_add_8 rfl ?_
  refine zm_get K fd_M_16 rfl d_M_add_9 ?_
  refine z_iload_n K d_M_add_12 rfl ?_
  refine zm_sld K (by omega) d_M_add_13 ?_
  refine z_iload K d_M_add_14 rfl ?_
  refine zi_imul K d_M_add_16 ?_
  refine z_istore K d_M_add_17 (by decide) ?_
  refine z_iload K d_M_add_19 rfl ?_
  rw [hsx, hsy, ← e1]
  refine zi_if_ne (tgt := 33) K d_M_add_21 (by decide) (by omega) (fun hc => ?_) (fun hc => ?_)
  · refine z_iload K d_M_add_33 rfl ?_
    refine zi_if_ne (tgt := 55) K d_M_add_35 (by decide) (by omega) (fun hc2 => ?_) (fun hc2 => ?_)
    · refine z_iload K d_M_add_55 rfl ?_
      refine z_iload K d_M_add_57 rfl ?_
      refine zi_icmp_ne (tgt := 80) K d_M_add_59 (by decide) (by omega) (by omega) (fun hc3 => ?_) (fun hc3 => ?_)
      · refine z_aload_n K d_M_add_80 rfl ?_
        refine z_iload_n K d_M_add_81 rfl ?_
        refine z_iload_n K d_M_add_82 rfl ?_
        refine z_callV (ci := 0) (As := [.int (jI x), .int (jI y)]) K (c_M_compare l G b0 h a cd T hx0 hy0 hx hy) ca_M_36 im_M_compare se_M_compare rfl (by decide) hm_0 rfl rfl (by decide) (Nat.le_of_ble_eq_true rfl) d_M_add_83 (fun o h1 hp => ?_)
        obtain ⟨T1, rfl, rfl, z, rfl, hz, hz1, hz2⟩ := hp
        refine zi_if_lt (tgt := 109) K d_M_add_86 (by decide) hz (fun hc4 => ?_) (fun hc4 => ?_)
        · have hlt := hz1.mp hc4
          refine z_aload_n K d_M_add_109 rfl ?_
          refine z_iload_n K d_M_add_110 rfl ?_
          refine z_iload_n K d_M_add_111 rfl ?_
          refine z_iload_n K d_M_add_112 rfl ?_
          refine z_iload K d_M_add_113 rfl ?_
          refine z_callV (ci := 0) (As := [.int (jI r), .int (jI y), .int (jI x), .int (jI (sg * w).sign)]) K (c_M_takeSizes l G b0 h a cd T (sg := (sg * w).sign) hr0 hy0 hx0 hy.mg hx.mg (hx.le (by have := hy.nn; omega)) (by omega)) ca_M_48 im_M_takeSizes se_M_takeSizes rfl (by decide) hm_0 rfl rfl (by decide) (Nat.le_of_ble_eq_true rfl) d_M_add_115 (fun o h1 hp => ?_)
          obtain ⟨T1, rfl, rfl, N, C, rfl, k1, k2, k3, k4, k5⟩ := hp
          obtain ⟨f1, f2⟩ := sgn_diff (v := sg * w) (w := v) (by omega) (by omega) (fun q => hc3 q.symm) (by omega)
          have hval : ((v + sg * w).natAbs : Int) = dv C (460 * r) N := by rw [k3, Int.add_comm v, f1]; omega
          refine z_vret K hr hlk d_M_add_118 ⟨_, rfl, rfl, ⟨N, by omega, Rg.mk (T := T) (by have := hy.2.1; omega) k2 k4 ?_ hval⟩, Fr.of1 rfl (Or.inl rfl) k5⟩
          by_cases hN : N = 0
          · subst hN
            rw [if_pos rfl]
            simp only [dv] at hval
            rw [show v + sg * w = 0 by omega]; rfl
          · have := dv_pos k2 hN k4
            rw [if_neg hN, Int.add_comm v, f2 (by rw [Int.add_comm]; omega)]
        · have hge : w.natAbs ≤ v.natAbs := by
            have : ¬ v.natAbs < w.natAbs := fun q => by have := hz1.mpr q; omega
            omega
          refine z_aload_n K d_M_add_89 rfl ?_
          refine zm_get K fd_M_16 rfl d_M_add_90 ?_
          refine z_iload_n K d_M_add_93 rfl ?_
          refine z_iload K d_M_add_94 rfl ?_
          refine zm_sst K (by omega) d_M_add_96 ?_
          refine z_aload_n K d_M_add_97 rfl ?_
          refine z_iload_n K d_M_add_98 rfl ?_
          refine z_iload_n K d_M_add_99 rfl ?_
          refine z_iload_n K d_M_add_100 rfl ?_
          refine z_iload K d_M_add_101 rfl ?_
          refine z_callV (ci := 0) (As := [.int (jI r), .int (jI x), .int (jI y), .int (jI v.sign)]) K (c_M_takeSizes l G b0 h a cd (T.1, T.2.1, iu T.2.2.1 r v.sign, T.2.2.2) (sg := v.sign) hr0 hx0 hy0 hx.mg hy.mg (hy.le (by have := hx.nn; omega)) (by omega)) ca_M_48 im_M_takeSizes se_M_takeSizes rfl (by decide) hm_0 rfl rfl (by decide) (Nat.le_of_ble_eq_true rfl) d_M_add_103 (fun o h1 hp => ?_)
          obtain ⟨T1, rfl, rfl, N, C, rfl, k1, k2, k3, k4, k5⟩ := hp
          refine z_goto (tgt := 118) K d_M_add_106 (by decide) ?_
          dsimp only
          rw [iu_iu]
          obtain ⟨f1, f2⟩ := sgn_diff (v := v) (w := sg * w) (by omega) (by omega) hc3 (by omega)
          have hval : ((v + sg * w).natAbs : Int) = dv C (460 * r) N := by rw [k3, f1]; omega
          refine z_vret K hr hlk d_M_add_118 ⟨_, rfl, rfl, ⟨N, by omega, Rg.mk (T := T) (by have := hx.2.1; omega) k2 k4 ?_ hval⟩, Fr.of1 rfl (Or.inl rfl) k5⟩
          by_cases hN : N = 0
          · subst hN
            rw [if_pos rfl]
            simp only [dv] at hval
            rw [show v + sg * w = 0 by omega]; rfl
          · have := dv_pos k2 hN k4
            rw [if_neg hN, f2 (by omega)]
      · refine z_aload_n K d_M_add_62 rfl ?_
        refine z_iload_n K d_M_add_63 rfl ?_
        refine z_iload_n K d_M_add_64 rfl ?_
        refine z_iload_n K d_M_add_65 rfl ?_
        refine z_callV (ci := 0) (As := [.int (jI r), .int (jI x), .int (jI y)]) K (c_M_addSizes l G b0 h a cd T hr0 hx0 hy0 hx.mg hy.mg hb1 hb2) ca_M_44 im_M_addSizes se_M_addSizes rfl (by decide) hm_0 rfl rfl (by decide) (Nat.le_of_ble_eq_true rfl) d_M_add_66 (fun o h1 hp => ?_)
        obtain ⟨T1, rfl, rfl, N, C, rfl, k1, k2, k3, k4, k5⟩ := hp
        refine z_aload_n K d_M_add_69 rfl ?_
        refine zm_get K fd_M_16 rfl d_M_add_70 ?_
        refine z_iload_n K d_M_add_73 rfl ?_
        refine z_iload K d_M_add_74 rfl ?_
        refine zm_sst K (by omega) d_M_add_76 ?_
        refine z_goto (tgt := 118) K d_M_add_77 (by decide) ?_
        obtain ⟨f1, f2⟩ := sgn_pos_mul (v := v) (w := sg * w) (by omega) hc3
        have hval : ((v + sg * w).natAbs : Int) = dv C (460 * r) N := by rw [k3, f2]; omega
        refine z_vret K hr hlk d_M_add_118 ⟨_, rfl, rfl, ⟨N, by clear k4; omega, Rg.mk (T := T) (by clear k4; omega) k2 (fun j hj => ?_) f1.symm hval⟩, Fr.of1 rfl (Or.inl rfl) k5⟩
        rcases k4 with k4 | ⟨j2, k4, k6⟩
        · subst hj
          refine dv_top k2 ?_
          rw [k3]
          by_cases hmx : n1 = j + 1
          · subst hmx; have := hx.ge; omega
          · have hmy : n2 = j + 1 := by omega
            subst hmy; have := hy.ge; omega
        · rw [show j = j2 by omega]; exact k6
    · refine z_aload_n K d_M_add_38 rfl ?_
      refine z_iload_n K d_M_add_39 rfl ?_
      refine z_iload_n K d_M_add_40 rfl ?_
      refine z_callV (ci := 0) (As := [.int (jI y), .int (jI r)]) K (c_M_copy l G b0 h a cd T hy0 hr0 hy) ca_M_40 im_M_copy se_M_copy rfl (by decide) hm_0 rfl rfl (by decide) (Nat.le_of_ble_eq_true rfl) d_M_add_41 (fun o h1 hp => ?_)
      obtain ⟨T1, rfl, rfl, k1, k2⟩ := hp
      refine z_aload_n K d_M_add_44 rfl ?_
      refine zm_get K fd_M_16 rfl d_M_add_45 ?_
      refine z_iload_n K d_M_add_48 rfl ?_
      refine z_iload K d_M_add_49 rfl ?_
      refine zm_sst K (by omega) d_M_add_51 ?_
      refine z_goto (tgt := 118) K d_M_add_52 (by decide) ?_
      have hv0 : v = 0 := Int.sign_eq_zero_iff_zero.mp hc2
      subst hv0
      rw [Int.zero_add]
      refine z_vret K hr hlk d_M_add_118 ⟨_, rfl, rfl, ⟨n2, by omega, k1.1, k1.2.1, k1.2.2.1, k1.2.2.2.1, iu_self _ _ _, by rw [e2]; exact k1.2.2.2.2.2⟩, k2.1, fun q hq => ?_⟩
      have hq2 : q ≠ r := fun z => hq (by rw [z]; exact List.mem_cons_self)
      exact ⟨(k2.2 q hq).1, (iu_ne _ _ hq2).trans (k2.2 q hq).2.1, (k2.2 q hq).2.2⟩
  · refine z_aload_n K d_M_add_24 rfl ?_
    refine z_iload_n K d_M_add_25 rfl ?_
    refine z_iload_n K d_M_add_26 rfl ?_
    refine z_callV (ci := 0) (As := [.int (jI x), .int (jI r)]) K (c_M_copy l G b0 h a cd T hx0 hr0 hx) ca_M_40 im_M_copy se_M_copy rfl (by decide) hm_0 rfl rfl (by decide) (Nat.le_of_ble_eq_true rfl) d_M_add_27 (fun o h1 hp => ?_)
    obtain ⟨T1, rfl, rfl, k1, k2⟩ := hp
    refine z_goto (tgt := 118) K d_M_add_30 (by decide) ?_
    rw [Int.sign_eq_zero_iff_zero.mp hc, Int.add_zero]
    exact z_vret K hr hlk d_M_add_118 ⟨_, rfl, rfl, ⟨n1, by omega, k1⟩, k2⟩
end M5
