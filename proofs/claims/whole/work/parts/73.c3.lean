theorem lt9_le {v w : Int} {m : Nat} (h : lt9 w m) (hv : v.natAbs ≤ w.natAbs) : lt9 v m := Int.lt_of_le_of_lt (Int.ofNat_le.2 hv) h
theorem NR.setB {S : xS} {k n : Nat} {v w b : Int} (h : NR S k n v) (hw : w.natAbs = v.natAbs) (hb : b = (if w < 0 then 1 else 0)) : NR (S.sB (nu S.B k b)) k n w :=
  ⟨h.1, h.2.1, h.2.2.1, h.2.2.2.1, by show nu S.B k b k = _; rw [nu_self]; exact hb, by rw [hw]; exact h.2.2.2.2.2⟩
section C3
variable {p : Program} {l : Launch} {e : Env} {R : Room} {s : State} {m : MethodId} {args : Array Value} {below : List Frame} {meth : Method} {c : Code} {Q : State → Prop} {b0 kc ks : Nat} {G : zG} {h : zH} {a : Nat} {cd : Int}
set_option maxHeartbeats 4000000 in
set_option maxRecDepth 100000 in
theorem v_C_findShare (l : Launch) (G : zG) (b0 : Nat) (h : zH) (a : Nat) (S : xS) {U : Nat → Int} (hV : VX S U) (hpm : pm S.f) (h10 : U 10 = 2) {x3 z3 s0 : Int} (hz : 0 < z3) (hc : Int.gcd x3 z3 = 1) (hs : s0 ≠ 0) (eT : U 40 = x3 * (s0 * s0)) (eB : U 42 = z3 * s0) (bT : lt9 (U 40) 79) (bB : lt9 (U 42) 40) : xMet l G b0 y_C_findShare b_C_findShare 1 none 5 145 h a [.ref (a + 39)] S (fun r S' => r = none ∧ ∃ U', VX S' U' ∧ pm S'.f ∧ U' 46 = s0 ∧ (∀ j : Nat, j ≠ 46 → j ≠ 52 → j ≠ 54 → j ≠ 58 → j ≠ 5 → j ≠ 8 → j ≠ 12 → j ≠ 14 → j ≠ 16 → U' j = U j) ∧ S'.f.nn = S.f.nn ∧ S'.f.lost = S.f.lost) :=
  z_met (by decide) (Nat.le_of_ble_eq_true rfl) fun p e s m below meth c K hr hlk hnm => by
  obtain ⟨g1, hg1⟩ : ∃ g, g = Int.gcd (U 40) (U 42) := ⟨_, rfl⟩
  have eg1 : g1 = Nat.gcd (x3.natAbs * (s0.natAbs * s0.natAbs)) (z3.natAbs * s0.natAbs) := by
    rw [hg1, eT, eB]
    show Nat.gcd (x3 * (s0 * s0)).natAbs (z3 * s0).natAbs = _
    rw [Int.natAbs_mul, Int.natAbs_mul, Int.natAbs_mul]
  obtain ⟨f, hf⟩ : ∃ f, f = x3.natAbs * (s0.natAbs * s0.natAbs) / g1 := ⟨_, rfl⟩
  obtain ⟨g2, hg2⟩ : ∃ g, g = Nat.gcd f g1 := ⟨_, rfl⟩
  obtain ⟨q1, q2, q3, q4, q5, hh, q6, q7⟩ := share_nat hc (show 0 < s0.natAbs by omega) eg1 hf hg2
  have nT : (U 40).natAbs = x3.natAbs * (s0.natAbs * s0.natAbs) := by rw [eT, Int.natAbs_mul, Int.natAbs_mul]
  have nB : (U 42).natAbs = z3.natAbs * s0.natAbs := by rw [eB, Int.natAbs_mul]
  have g1le : g1 ≤ (U 42).natAbs := by
    rw [nB]
    refine Nat.le_of_dvd (Nat.mul_pos (by omega) (by omega)) ?_
    rw [eg1]; exact Nat.gcd_dvd_right _ _
  have bg1 : lt9 (g1 : Int) 40 := lt9_le bB (by rw [Int.natAbs_natCast]; exact g1le)
  have g2le : g2 ≤ g1 := Nat.le_of_dvd q1 q4
  have bg2 : lt9 (g2 : Int) 40 := lt9_le bg1 (by rw [Int.natAbs_natCast, Int.natAbs_natCast]; exact g2le)
  refine z_aload_n K d_C_findShare_0 rfl ?_
  refine zx_gC K fd_C_55 rfl d_C_findShare_1 ?_
  refine z_aload_n K d_C_findShare_4 rfl ?_
  refine zx_gC K fd_C_14 rfl d_C_findShare_5 ?_
  refine z_aload_n K d_C_findShare_8 rfl ?_
  refine zx_gC K fd_C_20 rfl d_C_findShare_9 ?_
  refine z_aload_n K d_C_findShare_12 rfl ?_
  refine zx_gC K fd_C_26 rfl d_C_findShare_13 ?_
  refine z_callV (ci := 5) (As := [.ref (a + 40), .ref (a + 42), .ref (a + 46)]) K (v_D_common l G b0 h a S (x := 40) (y := 42) (o := 46) hV hpm rfl rfl rfl (by decide) (by decide) (by decide) (by rw [← hg1]; exact lt9_mono bg1 (by decide))) ca_C_171 im_D_common se_D_common rfl (by decide) (hx_D) rfl rfl (by decide) (Nat.le_of_ble_eq_true rfl) d_C_findShare_16 (fun r h1 hp => ?_)
  obtain ⟨S1, rfl, rfl, U1, hV1, pm1, u1, w1⟩ := hp
  rw [← hg1] at u1
  have t1 : U1 40 = U 40 := w1.1 40 (by decide) (by decide) (by decide) (by decide) (by decide)
  have nf : ((U 40).tdiv (g1 : Int)).natAbs = f := by rw [Int.natAbs_tdiv, nT, Int.natAbs_natCast, hf]; rfl
  have nf0 : (U 40).tmod (g1 : Int) = 0 := by
    have : ((U 40).tmod (g1 : Int)).natAbs = 0 := by
      rw [Int.natAbs_tmod, nT, Int.natAbs_natCast]
      exact Nat.mod_eq_zero_of_dvd q3
    omega
  refine z_aload_n K d_C_findShare_19 rfl ?_
  refine zx_gC K fd_C_51 rfl d_C_findShare_20 ?_
  refine z_aload_n K d_C_findShare_23 rfl ?_
  refine zx_gC K fd_C_14 rfl d_C_findShare_24 ?_
  refine z_aload_n K d_C_findShare_27 rfl ?_
  refine zx_gC K fd_C_26 rfl d_C_findShare_28 ?_
  refine z_aload_n K d_C_findShare_31 rfl ?_
  refine zx_gC K fd_C_35 rfl d_C_findShare_32 ?_
  refine z_aload_n K d_C_findShare_35 rfl ?_
  refine zx_gC K fd_C_44 rfl d_C_findShare_36 ?_
  refine z_callV (ci := 4) (As := [.ref (a + 40), .ref (a + 46), .ref (a + 52), .ref (a + 58)]) K (v_R_divide l G b0 h a S1 (x := 40) (y := 46) (qq := 52) (rr := 58) hV1 rfl rfl rfl rfl (by decide) (by rw [u1]; omega) (by rw [t1, u1]; exact lt9_mono (lt9_le bT (by rw [Int.natAbs_tdiv]; exact Nat.div_le_self _ _)) (by decide)) (by rw [t1, u1, nf0]; exact lt9_n (n := 0) (by decide) (by decide))) ca_C_176 im_R_divide se_R_divide rfl (by decide) (hx_R) rfl rfl (by decide) (Nat.le_of_ble_eq_true rfl) d_C_findShare_39 (fun r h1 hp => ?_)
  obtain ⟨S2, rfl, rfl, hV2, f2⟩ := hp
  rw [t1, u1, nf0] at hV2
  obtain ⟨U2, hU2⟩ : ∃ W : Nat → Int, W = nu (nu U1 52 ((U 40).tdiv (g1 : Int))) 58 0 := ⟨_, rfl⟩
  rw [← hU2] at hV2
  have u2 : U2 52 = (U 40).tdiv (g1 : Int) := by rw [hU2, nu_ne _ _ (by decide), nu_self]
  have u2s : U2 46 = g1 := by rw [hU2, nu_ne _ _ (by decide), nu_ne _ _ (by decide), u1]
  have hg3 : Int.gcd (U2 52) (U2 46) = g2 := by
    rw [u2, u2s, hg2]
    show Nat.gcd ((U 40).tdiv (g1 : Int)).natAbs (g1 : Int).natAbs = _
    rw [nf, Int.natAbs_natCast]
  have pm2 : pm S2.f := by rw [f2]; exact pm1
  refine z_aload_n K d_C_findShare_42 rfl ?_
  refine zx_gC K fd_C_55 rfl d_C_findShare_43 ?_
  refine z_aload_n K d_C_findShare_46 rfl ?_
  refine zx_gC K fd_C_35 rfl d_C_findShare_47 ?_
  refine z_aload_n K d_C_findShare_50 rfl ?_
  refine zx_gC K fd_C_26 rfl d_C_findShare_51 ?_
  refine z_aload_n K d_C_findShare_54 rfl ?_
  refine zx_gC K fd_C_38 rfl d_C_findShare_55 ?_
  refine z_callV (ci := 5) (As := [.ref (a + 52), .ref (a + 46), .ref (a + 54)]) K (v_D_common l G b0 h a S2 (x := 52) (y := 46) (o := 54) hV2 pm2 rfl rfl rfl (by decide) (by decide) (by decide) (by rw [hg3]; exact lt9_mono bg2 (by decide))) ca_C_171 im_D_common se_D_common rfl (by decide) (hx_D) rfl rfl (by decide) (Nat.le_of_ble_eq_true rfl) d_C_findShare_58 (fun r h1 hp => ?_)
  obtain ⟨S3, rfl, rfl, U3, hV3, pm3, u3, w3⟩ := hp
  rw [hg3] at u3
  have u3s : U3 46 = g1 := (w3.1 46 (by decide) (by decide) (by decide) (by decide) (by decide)).trans u2s
  have fr3 : ∀ j : Nat, j ≠ 46 → j ≠ 52 → j ≠ 54 → j ≠ 58 → j ≠ 5 → j ≠ 8 → j ≠ 12 → j ≠ 14 → j ≠ 16 → U3 j = U j := fun j a1 a2 a3 a4 a5 a6 a7 a8 a9 => by
    rw [w3.1 j a3 a6 a7 a8 a9, hU2, nu_ne _ _ a4, nu_ne _ _ a2]; exact w1.1 j a1 a6 a7 a8 a9
  have nn3 : S3.f.nn = S.f.nn := w3.2.1.trans (by rw [f2]; exact w1.2.1)
  have lo3 : S3.f.lost = S.f.lost := w3.2.2.trans (by rw [f2]; exact w1.2.2)
  -- the end: the sign
  have fin : ∀ (S9 : xS) (U9 : Nat → Int), VX S9 U9 → pm S9.f → U9 46 = (s0.natAbs : Int) → (∀ j : Nat, j ≠ 46 → j ≠ 52 → j ≠ 54 → j ≠ 58 → j ≠ 5 → j ≠ 8 → j ≠ 12 → j ≠ 14 → j ≠ 16 → U9 j = U j) → S9.f.nn = S.f.nn → S9.f.lost = S.f.lost → zW p l e (zRm 5 145 0 0) s m ([.ref (a + 39)] : List Value).toArray below meth c 1 b0 G 0 0 (MQ below (zQ G b0 (fun r h' => ∃ S' : xS, h' = hx G h a S' ∧ (r = none ∧ ∃ U', VX S' U' ∧ pm S'.f ∧ U' 46 = s0 ∧ (∀ j : Nat, j ≠ 46 → j ≠ 52 → j ≠ 54 → j ≠ 58 → j ≠ 5 → j ≠ 8 → j ≠ 12 → j ≠ 14 → j ≠ 16 → U' j = U j) ∧ S'.f.nn = S.f.nn ∧ S'.f.lost = S.f.lost))) ([.ref (a + 39)] : List Value).toArray s 0 0 (z_A b0)) (hx G h a S9) 132 (lv_args 0 [.ref (a + 39)]) [] := by
    intro S9 U9 z1 z2 z3' z4 z5 z6
    obtain ⟨n42, v42⟩ := z1 42 rfl
    obtain ⟨n46, v46⟩ := z1 46 rfl
    rw [z4 42 (by decide) (by decide) (by decide) (by decide) (by decide) (by decide) (by decide) (by decide) (by decide)] at v42
    rw [z3'] at v46
    have b42 := v42.2.2.2.2.1
    have hb : S9.B 42 = (if s0 < 0 then 1 else 0) := by
      rw [b42, eB]
      by_cases w : s0 < 0
      · rw [if_pos w, if_pos (Int.mul_neg_of_pos_of_neg hz w)]
      · have := Int.mul_pos hz (show 0 < s0 by omega)
        rw [if_neg w, if_neg (by omega)]
    refine z_aload_n K d_C_findShare_132 rfl ?_
    refine zx_gC K fd_C_26 rfl d_C_findShare_133 ?_
    refine z_aload_n K d_C_findShare_136 rfl ?_
    refine zx_gC K fd_C_20 rfl d_C_findShare_137 ?_
    refine zx_gN (k := 42) K rfl fd_C_187 rfl d_C_findShare_140 ?_
    refine zx_pB (k := 46) (v := S9.B 42) K rfl fd_C_187 v42.b01 d_C_findShare_143 ?_
    refine z_vret K hr hlk d_C_findShare_146 ⟨_, rfl, rfl, nu U9 46 s0, z1.up xK_B (v46.setB (by rw [Int.natAbs_natCast]) hb), z2, nu_self _ _ _, fun j a1 a2 a3 a4 a5 a6 a7 a8 a9 => ?_, z5, z6⟩
    rw [nu_ne _ _ a1]; exact z4 j a1 a2 a3 a4 a5 a6 a7 a8 a9
  obtain ⟨n54, v54⟩ := hV3 54 rfl
  obtain ⟨n46, v46⟩ := hV3 46 rfl
  rw [u3] at v54
  rw [u3s] at v46
  refine z_aload_n K d_C_findShare_61 rfl ?_
  refine zx_gC K fd_C_38 rfl d_C_findShare_62 ?_
  refine z_aload_n K d_C_findShare_65 rfl ?_
  refine zx_gC K fd_C_26 rfl d_C_findShare_66 ?_
  refine z_callV (ci := 1) (As := [.ref (a + 46)]) K (c_N_isLike l G b0 h a S3 (x := 54) (y := 46) rfl rfl v54 v46) ca_C_180 im_N_isLike se_N_isLike rfl (by decide) (hx_N (by rfl)) rfl rfl (by decide) (Nat.le_of_ble_eq_true rfl) d_C_findShare_69 (fun r h1 hp => ?_)
  obtain ⟨S4, rfl, rfl, b, rfl, c1, c2⟩ := hp
  refine zi_if_ne (tgt := 132) K d_C_findShare_72 (by decide) (by omega) (fun hq => ?_) (fun hq => ?_)
  · have e12 : g2 = g1 := by have := c2.1 (by omega); omega
    exact fin S3 U3 hV3 pm3 (by rw [u3s, q5 e12]) fr3 nn3 lo3
  · have hhp : 0 < hh := by
      rcases Nat.eq_zero_or_pos hh with w | w
      · rw [w, Nat.zero_mul] at q7; omega
      · exact w
    have nd : (g1 : Int).tdiv (g2 : Int) = ((hh * hh : Nat) : Int) := by
      rw [Int.tdiv_eq_ediv_of_nonneg (by omega), ← Int.natCast_ediv, q6]
    have nd0 : (g1 : Int).tmod (g2 : Int) = 0 := by
      rw [Int.tmod_eq_emod_of_nonneg (by omega), ← Int.natCast_emod, Nat.mod_eq_zero_of_dvd q4]; rfl
    have bhh : lt9 ((hh * hh : Nat) : Int) 40 := lt9_le bg1 (by rw [Int.natAbs_natCast, Int.natAbs_natCast, ← q6]; exact Nat.div_le_self _ _)
    have bh : lt9 (hh : Int) 40 := lt9_le bhh (by rw [Int.natAbs_natCast, Int.natAbs_natCast]; exact Nat.le_mul_of_pos_left _ hhp)
    refine z_aload_n K d_C_findShare_75 rfl ?_
    refine zx_gC K fd_C_51 rfl d_C_findShare_76 ?_
    refine z_aload_n K d_C_findShare_79 rfl ?_
    refine zx_gC K fd_C_26 rfl d_C_findShare_80 ?_
    refine z_aload_n K d_C_findShare_83 rfl ?_
    refine zx_gC K fd_C_38 rfl d_C_findShare_84 ?_
    refine z_aload_n K d_C_findShare_87 rfl ?_
    refine zx_gC K fd_C_35 rfl d_C_findShare_88 ?_
    refine z_aload_n K d_C_findShare_91 rfl ?_
    refine zx_gC K fd_C_44 rfl d_C_findShare_92 ?_
    refine z_callV (ci := 4) (As := [.ref (a + 46), .ref (a + 54), .ref (a + 52), .ref (a + 58)]) K (v_R_divide l G b0 h a S3 (x := 46) (y := 54) (qq := 52) (rr := 58) hV3 rfl rfl rfl rfl (by decide) (by rw [u3]; omega) (by rw [u3s, u3, nd]; exact lt9_mono bhh (by decide)) (by rw [u3s, u3, nd0]; exact lt9_n (n := 0) (by decide) (by decide))) ca_C_176 im_R_divide se_R_divide rfl (by decide) (hx_R) rfl rfl (by decide) (Nat.le_of_ble_eq_true rfl) d_C_findShare_95 (fun r h1 hp => ?_)
    obtain ⟨S4, rfl, rfl, hV4, f4⟩ := hp
    rw [u3s, u3, nd, nd0] at hV4
    obtain ⟨U4, hU4⟩ : ∃ W : Nat → Int, W = nu (nu U3 52 ((hh * hh : Nat) : Int)) 58 0 := ⟨_, rfl⟩
    rw [← hU4] at hV4
    have u4 : U4 52 = ((hh * hh : Nat) : Int) := by rw [hU4, nu_ne _ _ (by decide), nu_self]
    have u4b : U4 54 = g2 := by rw [hU4, nu_ne _ _ (by decide), nu_ne _ _ (by decide), u3]
    have u410 : U4 10 = 2 := by rw [hU4, nu_ne _ _ (by decide), nu_ne _ _ (by decide), fr3 10 (by decide) (by decide) (by decide) (by decide) (by decide) (by decide) (by decide) (by decide) (by decide), h10]
    have pm4 : pm S4.f := by rw [f4]; exact pm3
    refine z_aload_n K d_C_findShare_98 rfl ?_
    refine zx_gC K fd_C_55 rfl d_C_findShare_99 ?_
    refine z_aload_n K d_C_findShare_102 rfl ?_
    refine zx_gC K fd_C_35 rfl d_C_findShare_103 ?_
    refine z_aload_n K d_C_findShare_106 rfl ?_
    refine zx_gC K fd_C_35 rfl d_C_findShare_107 ?_
    refine z_callV (ci := 5) (As := [.ref (a + 52), .ref (a + 52)]) K (v_D_root l G b0 h a S4 (x := 52) (o := 52) (r := hh) hV4 pm4 rfl rfl (by decide) (by decide) hhp u410 u4 (by rw [u4]; exact lt9_mono bhh (by decide)) (lt9_mono bh (by decide))) ca_C_183 im_D_root se_D_root rfl (by decide) (hx_D) rfl rfl (by decide) (Nat.le_of_ble_eq_true rfl) d_C_findShare_110 (fun r h1 hp => ?_)
    obtain ⟨S5, rfl, rfl, U5, hV5, pm5, u5, w5⟩ := hp
    have u5b : U5 54 = g2 := (w5.1 54 (by decide) (by decide) (by decide) (by decide) (by decide)).trans u4b
    have hm : (hh : Int) * (g2 : Int) = (s0.natAbs : Int) := by rw [← Int.natCast_mul, q7]
    have bs : lt9 (s0.natAbs : Int) 40 := lt9_le bB (by rw [Int.natAbs_natCast, nB]; exact Nat.le_mul_of_pos_left _ (by omega))
    refine z_aload_n K d_C_findShare_113 rfl ?_
    refine zx_gC K fd_C_51 rfl d_C_findShare_114 ?_
    refine z_aload_n K d_C_findShare_117 rfl ?_
    refine zx_gC K fd_C_35 rfl d_C_findShare_118 ?_
    refine z_aload_n K d_C_findShare_121 rfl ?_
    refine zx_gC K fd_C_38 rfl d_C_findShare_122 ?_
    refine z_aload_n K d_C_findShare_125 rfl ?_
    refine zx_gC K fd_C_26 rfl d_C_findShare_126 ?_
    refine z_callV (ci := 4) (As := [.ref (a + 52), .ref (a + 54), .ref (a + 46)]) K (v_R_multiply l G b0 h a S5 (x := 52) (y := 54) (o := 46) hV5 rfl rfl rfl (by rw [u5]; exact bh) (by rw [u5b]; exact bg2) (by decide) (by rw [u5, u5b, hm]; exact lt9_mono bs (by decide))) ca_C_71 im_R_multiply se_R_multiply rfl (by decide) (hx_R) rfl rfl (by decide) (Nat.le_of_ble_eq_true rfl) d_C_findShare_129 (fun r h1 hp => ?_)
    obtain ⟨S6, rfl, rfl, hV6, f6⟩ := hp
    rw [u5, u5b, hm] at hV6
    refine fin S6 _ hV6 (by rw [f6]; exact pm5) (nu_self _ _ _) (fun j a1 a2 a3 a4 a5 a6 a7 a8 a9 => ?_) (by rw [f6, w5.2.1, f4]; exact nn3) (by rw [f6, w5.2.2, f4]; exact lo3)
    rw [nu_ne _ _ a1, w5.1 j a2 a6 a7 a8 a9, hU4, nu_ne _ _ a4, nu_ne _ _ a2]
    exact fr3 j a1 a2 a3 a4 a5 a6 a7 a8 a9
end C3
