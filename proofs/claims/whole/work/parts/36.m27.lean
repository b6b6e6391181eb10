theorem jI_nI (n : Nat) : jI n = nI n := by
  apply Int32.toBitVec_inj.mp
  show BitVec.ofInt 32 (n : Int) = BitVec.ofNat 32 n
  exact BitVec.ofInt_natCast 32 n
theorem jI_and (a b : Nat) : jI a &&& jI b = jI ((a &&& b : Nat) : Int) := by
  rw [jI_nI, jI_nI, jI_nI]
  apply Int32.toBitVec_inj.mp
  show BitVec.ofNat 32 a &&& BitVec.ofNat 32 b = BitVec.ofNat 32 (a &&& b)
  exact (BitVec.ofNat_and).symm
theorem jI_shr1 {n : Nat} (h : n < 2 ^ 31) : jI n >>> (jI 1 &&& 31) = jI ((n / 2 : Nat) : Int) := by
  rw [jI_nI, jI_nI]
  exact pk_shrN h (jI 1 &&& 31) 1 (by decide)
theorem and_bit_t {n i : Nat} (h : n.testBit i = true) : n &&& 2 ^ i = 2 ^ i := Nat.eq_of_testBit_eq (fun k => by
  rw [Nat.testBit_and, Nat.testBit_two_pow]
  by_cases hk : i = k
  · subst hk; simp [h]
  · simp [hk])
theorem and_bit_f {n i : Nat} (h : n.testBit i = false) : n &&& 2 ^ i = 0 := Nat.eq_of_testBit_eq (fun k => by
  rw [Nat.testBit_and, Nat.testBit_two_pow]
  by_cases hk : i = k
  · subst hk; simp [h]
  · simp [hk])
/-- what times reckons: j bits left, R so far; 'none' is 'too far' -/
def TmR (A : Int × Int × Int × Int × Int) (P : Option (Int × Int × Int)) (lf : Nat) : Nat → Option (Int × Int × Int) → Option (Option (Int × Int × Int)) → Prop
  | 0, R, res => res = some R
  | j + 1, R, res => (farP (jnA A R R) ∧ res = none) ∨ (¬ farP (jnA A R R) ∧ ((lf.testBit j = false ∧ TmR A P lf j (jnA A R R) res) ∨ (lf.testBit j = true ∧ ((farP (jnA A (jnA A R R) P) ∧ res = none) ∨ (¬ farP (jnA A (jnA A R R) P) ∧ TmR A P lf j (jnA A (jnA A R R) P) res)))))
def z200 (P : Option (Int × Int × Int)) : Prop := ∀ x y z : Int, P = some (x, y, z) → lt9 z 200
def okT (A : Int × Int × Int × Int × Int) (P : Option (Int × Int × Int)) (lf : Nat) : Nat → Option (Int × Int × Int) → Prop
  | 0, _ => True
  | j + 1, R => capJ R ∧ okJ A R R ∧ z200 (jnA A R R) ∧ (¬ farP (jnA A R R) → (lf.testBit j = false → okT A P lf j (jnA A R R)) ∧ (lf.testBit j = true → capJ (jnA A R R) ∧ okJ A (jnA A R R) P ∧ z200 (jnA A (jnA A R R) P) ∧ (¬ farP (jnA A (jnA A R R) P) → okT A P lf j (jnA A (jnA A R R) P))))
section M27
variable {p : Program} {l : Launch} {e : Env} {R : Room} {s : State} {m : MethodId} {args : Array Value} {below : List Frame} {meth : Method} {c : Code} {Q : State → Prop} {b0 kc ks : Nat} {G : zG} {h : zH} {a : Nat} {cd : Int}
theorem x_M_isFar (l : Launch) (G : zG) (b0 : Nat) (h : zH) (a : Nat) (cd : Int) (T : mT) {V V0 N0 : Int → Int} (P : Option (Int × Int × Int)) (hW : RW T V V0 N0) (hP : PtAt V T.2.2.2 36 P) (bP : z200 P) : mMet l G b0 y_M_isFar b_M_isFar 1 (some .boolean) 2 55 h a cd [] T (fun o T' => (∃ b : Int, o = some (.int (jI b)) ∧ (b = 0 ∨ b = 1) ∧ (b = 1 ↔ farP P)) ∧ ∃ V' : Int → Int, RW T' V' V0 N0 ∧ PtAt V' T'.2.2.2 36 P) := by
  refine zMet_imp (v_M_isFar l G b0 h a cd T P hW.1 hP bP) (fun o h' hp => ?_)
  obtain ⟨T1, e, hb, ⟨V1, q1, q2⟩, q3⟩ := hp
  exact ⟨T1, e, hb, V1, ⟨q1, fun q hq => (q2 q (by omega)).trans (hW.2.1 q hq), fun q hq => by rw [q3]; exact hW.2.2.1 q hq, fun q h0 h1 => by rw [q3]; exact hW.2.2.2 q h0 h1⟩, hP.keep (q2 _ (by decide)) (q2 _ (by decide)) (q2 _ (by decide)) (by rw [q3])⟩
set_option maxHeartbeats 4000000 in
set_option maxRecDepth 100000 in
theorem lp_M_times (K : zC p s m args c b_M_times R_M 6 b0 G) (hRm : 7 ≤ R.frames ∧ 163 ≤ R.locals ∧ kc ≤ R.cells ∧ ks ≤ R.slots) {V0 N0 : Int → Int} {A : Int × Int × Int × Int × Int} {s0 k0 t0 : Int} (P : Option (Int × Int × Int)) (lf : Nat) (hlf : lf < 2 ^ 31) (hs0 : 0 ≤ s0 ∧ s0 < 8) (hA : V0 24 = A.1 ∧ V0 25 = A.2.1 ∧ V0 26 = A.2.2.1 ∧ V0 27 = A.2.2.2.1 ∧ V0 28 = A.2.2.2.2) (cA : capA A) (hpP : PtAt V0 N0 (3 * s0) P) (cP : capJ P)
    (hx0 : ∀ (T' : mT) (V' : Int → Int), RW T' V' V0 N0 → TmR A P lf 21 none none → ∀ pc : Nat, decode b_M_times pc = .ok (.ireturn, 1) → zW p l e R s m args below meth c 6 b0 G kc ks Q (hm G h a cd T') pc [] [.int (jI 0)]) (hx1 : ∀ (T' : mT) (V' : Int → Int) (R' : Option (Int × Int × Int)), RW T' V' V0 N0 → PtAt V' T'.2.2.2 36 R' → TmR A P lf 21 none (some R') → zW p l e R s m args below meth c 6 b0 G kc ks Q (hm G h a cd T') 138 [(0, .ref a), (2, .int (jI k0)), (3, .int (jI t0))] []) :
    ∀ (j : Nat) (R1 : Option (Int × Int × Int)) (T : mT) (V : Int → Int), j ≤ 21 → RW T V V0 N0 → PtAt V T.2.2.2 36 R1 → okT A P lf j R1 → (∀ res, TmR A P lf j R1 res → TmR A P lf 21 none res) →
      zW p l e R s m args below meth c 6 b0 G kc ks Q (hm G h a cd T) 57 [(0, .ref a), (1, .int (jI s0)), (2, .int (jI k0)), (3, .int (jI t0)), (4, .int (jI lf)), (5, .int (jI (2 ^ j / 2 : Nat)))] [] := by
  intro j
  induction j with
  | zero =>
    intro R1 T V hj hW hR hok hsub
    refine z_iload K d_M_times_57 rfl ?_
    refine zi_if_le (tgt := 138) K d_M_times_59 (by decide) (by decide) (fun _ => ?_) (fun q => absurd q (by decide))
    exact z_re [0, 2, 3] rfl (hx1 T V R1 hW hR (hsub _ rfl))
  | succ j ih =>
    intro R1 T V hj hW hR hok hsub
    obtain ⟨o1, o2, o3, o4⟩ := hok
    have hpw : 2 ^ (j + 1) / 2 = 2 ^ j := by rw [Nat.pow_succ]; omega
    have hp1 : 1 ≤ 2 ^ j := Nat.one_le_two_pow
    have hp2 : 2 ^ j ≤ 2 ^ 20 := Nat.pow_le_pow_right (by decide) (by omega)
    have hp3 : (2 : Nat) ^ 20 = 1048576 := by decide
    rw [hpw]
    have nxt : ∀ (R2 : Option (Int × Int × Int)) (T2 : mT) (V2 : Int → Int), RW T2 V2 V0 N0 → PtAt V2 T2.2.2.2 36 R2 → okT A P lf j R2 → (∀ res, TmR A P lf j R2 res → TmR A P lf 21 none res) → zW p l e R s m args below meth c 6 b0 G kc ks Q (hm G h a cd T2) 129 [(0, .ref a), (1, .int (jI s0)), (2, .int (jI k0)), (3, .int (jI t0)), (4, .int (jI lf)), (5, .int (jI (2 ^ j : Nat)))] [] := fun R2 T2 V2 w1 w2 w3 w4 => by
      refine z_iload K d_M_times_129 rfl ?_
      refine z_iconst (v := jI 1) K d_M_times_131 rfl ?_
      refine z_ishr K d_M_times_132 ?_
      rw [jI_shr1 (by omega)]
      refine z_istore K d_M_times_133 (by decide) ?_
      refine z_goto (tgt := 57) K d_M_times_135 (by decide) ?_
      exact z_re [0, 1, 2, 3, 4, 5] rfl (ih R2 T2 V2 (by omega) w1 w2 w3 w4)
    refine z_iload K d_M_times_57 rfl ?_
    refine zi_if_le (tgt := 138) K d_M_times_59 (by decide) (by omega) (fun q => absurd q (by omega)) (fun _ => ?_)
    refine z_aload_n K d_M_times_62 rfl ?_
    refine z_bipush (v := jI 36) K d_M_times_63 rfl ?_
    refine z_bipush (v := jI 30) K d_M_times_65 rfl ?_
    refine z_callV (ci := 0) (As := [.int (jI 36), .int (jI 30)]) K (x_M_move l G b0 h a cd T R1 hW (by decide) (by decide) (by decide) hR) ca_M_112 im_M_move se_M_move rfl (by decide) hm_0 rfl rfl (rm_ok hRm (by decide) (by decide)) (Nat.le_of_ble_eq_true rfl) d_M_times_67 (fun o h1 hp1 => ?_)
    obtain ⟨T2, rfl, rfl, V2, hW2, hP2, g2, n2⟩ := hp1
    refine z_aload_n K d_M_times_70 rfl ?_
    refine z_bipush (v := jI 36) K d_M_times_71 rfl ?_
    refine z_bipush (v := jI 33) K d_M_times_73 rfl ?_
    refine z_callV (ci := 0) (As := [.int (jI 36), .int (jI 33)]) K (x_M_move l G b0 h a cd T2 R1 hW2 (by decide) (by decide) (by decide) (hR.keep (g2 _ (by decide)) (g2 _ (by decide)) (g2 _ (by decide)) (n2 _ (by decide)))) ca_M_112 im_M_move se_M_move rfl (by decide) hm_0 rfl rfl (rm_ok hRm (by decide) (by decide)) (Nat.le_of_ble_eq_true rfl) d_M_times_75 (fun o h1 hp1 => ?_)
    obtain ⟨T3, rfl, rfl, V3, hW3, hQ3, g3, n3⟩ := hp1
    refine z_aload_n K d_M_times_78 rfl ?_
    refine z_callV (ci := 0) (As := []) K (x_M_join l G b0 h a cd T3 R1 R1 hW3 hA cA (hP2.keep (g3 _ (by decide)) (g3 _ (by decide)) (g3 _ (by decide)) (n3 _ (by decide))) hQ3 o1 o1 o2) ca_M_137 im_M_join se_M_join rfl (by decide) hm_0 rfl rfl (rm_ok hRm (by decide) (by decide)) (Nat.le_of_ble_eq_true rfl) d_M_times_79 (fun o h1 hp1 => ?_)
    obtain ⟨T4, rfl, rfl, V4, hW4, hR4⟩ := hp1
    refine z_aload_n K d_M_times_82 rfl ?_
    refine z_callV (ci := 0) (As := []) K (x_M_isFar l G b0 h a cd T4 (jnA A R1 R1) hW4 hR4 o3) ca_M_150 im_M_isFar se_M_isFar rfl (by decide) hm_0 rfl rfl (rm_ok hRm (by decide) (by decide)) (Nat.le_of_ble_eq_true rfl) d_M_times_83 (fun o h1 hp1 => ?_)
    obtain ⟨T5, rfl, ⟨b, rfl, hb, hb2⟩, V5, hW5, hR5⟩ := hp1
    refine zi_if_eq (tgt := 91) K d_M_times_86 (by decide) (by omega) (fun hc => ?_) (fun hc => ?_)
    · have hnf : ¬ farP (jnA A R1 R1) := fun z => by have := hb2.mpr z; omega
      obtain ⟨p1, p2⟩ := o4 hnf
      refine z_iload K d_M_times_91 rfl ?_
      refine z_iload K d_M_times_93 rfl ?_
      refine z_iand K d_M_times_95 ?_
      rw [jI_and]
      cases hbit : lf.testBit j with
      | false =>
        rw [and_bit_f hbit]
        refine zi_if_eq (tgt := 129) K d_M_times_96 (by decide) (by decide) (fun _ => ?_) (fun q => absurd rfl q)
        exact nxt _ T5 V5 hW5 hR5 (p1 hbit) (fun res hres => hsub res (Or.inr ⟨hnf, Or.inl ⟨hbit, hres⟩⟩))
      | true =>
        rw [and_bit_t hbit]
        obtain ⟨r1, r2, r3, r4⟩ := p2 hbit
        refine zi_if_eq (tgt := 129) K d_M_times_96 (by decide) (by omega) (fun q => absurd q (by omega)) (fun _ => ?_)
        refine z_aload_n K d_M_times_99 rfl ?_
        refine z_bipush (v := jI 36) K d_M_times_100 rfl ?_
        refine z_bipush (v := jI 30) K d_M_times_102 rfl ?_
        refine z_callV (ci := 0) (As := [.int (jI 36), .int (jI 30)]) K (x_M_move l G b0 h a cd T5 (jnA A R1 R1) hW5 (by decide) (by decide) (by decide) hR5) ca_M_112 im_M_move se_M_move rfl (by decide) hm_0 rfl rfl (rm_ok hRm (by decide) (by decide)) (Nat.le_of_ble_eq_true rfl) d_M_times_104 (fun o h1 hp1 => ?_)
        obtain ⟨T6, rfl, rfl, V6, hW6, hP6, g6, n6⟩ := hp1
        refine z_aload_n K d_M_times_107 rfl ?_
        refine z_iconst (v := jI 3) K d_M_times_108 rfl ?_
        refine z_iload_n K d_M_times_109 rfl ?_
        refine zi_imul K d_M_times_110 ?_
        refine z_bipush (v := jI 33) K d_M_times_111 rfl ?_
        refine z_callV (ci := 0) (As := [.int (jI (3 * s0)), .int (jI 33)]) K (x_M_move l G b0 h a cd T6 P hW6 (by omega) (by decide) (by omega) (hpP.keep (hW6.2.1 _ (by omega)) (hW6.2.1 _ (by omega)) (hW6.2.1 _ (by omega)) (hW6.2.2.1 _ (by omega)))) ca_M_112 im_M_move se_M_move rfl (by decide) hm_0 rfl rfl (rm_ok hRm (by decide) (by decide)) (Nat.le_of_ble_eq_true rfl) d_M_times_113 (fun o h1 hp1 => ?_)
        obtain ⟨T7, rfl, rfl, V7, hW7, hQ7, g7, n7⟩ := hp1
        refine z_aload_n K d_M_times_116 rfl ?_
        refine z_callV (ci := 0) (As := []) K (x_M_join l G b0 h a cd T7 (jnA A R1 R1) P hW7 hA cA (hP6.keep (g7 _ (by decide)) (g7 _ (by decide)) (g7 _ (by decide)) (n7 _ (by decide))) hQ7 r1 cP r2) ca_M_137 im_M_join se_M_join rfl (by decide) hm_0 rfl rfl (rm_ok hRm (by decide) (by decide)) (Nat.le_of_ble_eq_true rfl) d_M_times_117 (fun o h1 hp1 => ?_)
        obtain ⟨T8, rfl, rfl, V8, hW8, hR8⟩ := hp1
        refine z_aload_n K d_M_times_120 rfl ?_
        refine z_callV (ci := 0) (As := []) K (x_M_isFar l G b0 h a cd T8 _ hW8 hR8 r3) ca_M_150 im_M_isFar se_M_isFar rfl (by decide) hm_0 rfl rfl (rm_ok hRm (by decide) (by decide)) (Nat.le_of_ble_eq_true rfl) d_M_times_121 (fun o h1 hp1 => ?_)
        obtain ⟨T9, rfl, ⟨b9, rfl, hb9, hb92⟩, V9, hW9, hR9⟩ := hp1
        refine zi_if_eq (tgt := 129) K d_M_times_124 (by decide) (by omega) (fun hc9 => ?_) (fun hc9 => ?_)
        · have hnf9 : ¬ farP (jnA A (jnA A R1 R1) P) := fun z => by have := hb92.mpr z; omega
          exact nxt _ T9 V9 hW9 hR9 (r4 hnf9) (fun res hres => hsub res (Or.inr ⟨hnf, Or.inr ⟨hbit, Or.inr ⟨hnf9, hres⟩⟩⟩))
        · refine z_iconst (v := jI 0) K d_M_times_127 rfl ?_
          exact z_re [] rfl (hx0 T9 V9 hW9 (hsub _ (Or.inr ⟨hnf, Or.inr ⟨hbit, Or.inl ⟨hb92.mp (by omega), rfl⟩⟩⟩)) 128 d_M_times_128)
    · refine z_iconst (v := jI 0) K d_M_times_89 rfl ?_
      exact z_re [] rfl (hx0 T5 V5 hW5 (hsub _ (Or.inl ⟨hb2.mp (by omega), rfl⟩)) 90 d_M_times_90)
set_option maxHeartbeats 4000000 in
set_option maxRecDepth 100000 in
/-- times(p, k, to) -/
theorem r_M_times (l : Launch) (G : zG) (b0 : Nat) (h : zH) (a : Nat) (T : mT) {pts : Int → Option (Int × Int × Int)} {A : Int × Int × Int × Int × Int} {s0 k0 t0 : Int} (hS : RS T pts A) (cA : capA A) (hcap : ∀ i : Int, capJ (pts i)) (hs0 : i32 s0) (hk0 : i32 k0) (ht0 : i32 t0) (ok : (0 ≤ s0 ∧ s0 < 8) → (-1000000 ≤ k0 ∧ k0 ≤ 1000000) → okT A (pts s0) k0.natAbs 21 none ∧ ∀ R', TmR A (pts s0) k0.natAbs 21 none (some R') → capJ R' ∧ capJ (ngP A.1 A.2.2.1 R')) :
    mMet l G b0 y_M_times b_M_times 6 (some .int) 7 163 h a 0 [.int (jI s0), .int (jI k0), .int (jI t0)] T (fun o T' => (¬ ((0 ≤ s0 ∧ s0 < 8) ∧ (0 ≤ t0 ∧ t0 < 8) ∧ (-1000000 ≤ k0 ∧ k0 ≤ 1000000)) ∧ o = some (.int (jI (-1))) ∧ RS T' pts A) ∨ (((0 ≤ s0 ∧ s0 < 8) ∧ (0 ≤ t0 ∧ t0 < 8) ∧ (-1000000 ≤ k0 ∧ k0 ≤ 1000000)) ∧ ((TmR A (pts s0) k0.natAbs 21 none none ∧ o = some (.int (jI 0)) ∧ RS T' pts A) ∨ ∃ R' : Option (Int × Int × Int), TmR A (pts s0) k0.natAbs 21 none (some R') ∧ ((o = some (.int (jI 0)) ∧ tlP (if k0 < 0 then ngP A.1 A.2.2.1 R' else R') ∧ RS T' pts A) ∨ (o = some (.int (jI 1)) ∧ ¬ tlP (if k0 < 0 then ngP A.1 A.2.2.1 R' else R') ∧ RS T' (fun i => if i = t0 then (if k0 < 0 then ngP A.1 A.2.2.1 R' else R') else pts i) A))))) :=
  z_met (by decide) (Nat.le_of_ble_eq_true rfl) fun p e s m below meth c K hr hlk hnm => by
  have hS0 := hS
  obtain ⟨V0, hV, hp, hA, hN⟩ := hS
  have no : ∀ (hc : ¬ ((0 ≤ s0 ∧ s0 < 8) ∧ (0 ≤ t0 ∧ t0 < 8) ∧ (-1000000 ≤ k0 ∧ k0 ≤ 1000000))), zW p l e (zRm 7 163 0 0) s m ([.ref a, .int (jI s0), .int (jI k0), .int (jI t0)] : List Value).toArray below meth c 6 b0 G 0 0 (MQ below (zQ G b0 (fun r_1 h' => ∃ T' : mT, h' = hm G h a 0 T' ∧ ((¬ ((0 ≤ s0 ∧ s0 < 8) ∧ (0 ≤ t0 ∧ t0 < 8) ∧ (-1000000 ≤ k0 ∧ k0 ≤ 1000000)) ∧ r_1 = some (.int (jI (-1))) ∧ RS T' pts A) ∨ (((0 ≤ s0 ∧ s0 < 8) ∧ (0 ≤ t0 ∧ t0 < 8) ∧ (-1000000 ≤ k0 ∧ k0 ≤ 1000000)) ∧ ((TmR A (pts s0) k0.natAbs 21 none none ∧ r_1 = some (.int (jI 0)) ∧ RS T' pts A) ∨ ∃ R' : Option (Int × Int × Int), TmR A (pts s0) k0.natAbs 21 none (some R') ∧ ((r_1 = some (.int (jI 0)) ∧ tlP (if k0 < 0 then ngP A.1 A.2.2.1 R' else R') ∧ RS T' pts A) ∨ (r_1 = some (.int (jI 1)) ∧ ¬ tlP (if k0 < 0 then ngP A.1 A.2.2.1 R' else R') ∧ RS T' (fun i => if i = t0 then (if k0 < 0 then ngP A.1 A.2.2.1 R' else R') else pts i) A))))))) ([.ref a, .int (jI s0), .int (jI k0), .int (jI t0)] : List Value).toArray s 0 0 (z_A b0)) (hm G h a 0 T) 31 [(0, .ref a), (1, .int (jI s0)), (2, .int (jI k0)), (3, .int (jI t0))] [] := fun hc => by
    refine z_iconst (v := jI (-1)) K d_M_times_31 rfl ?_
    exact z_iret K hr hlk d_M_times_32 ⟨_, rfl, Or.inl ⟨hc, rfl, hS0⟩⟩
  refine z_aload_n K d_M_times_0 rfl ?_
  refine z_iconst (v := jI 0) K d_M_times_1 rfl ?_
  refine zm_code K fd_M_30 d_M_times_2 ?_
  refine z_iload_n K d_M_times_5 rfl ?_
  refine z_callS (As := [.int (jI s0)]) K (c_M_isSlot l G b0 (hm G h a 0 T) hs0) ca_M_95 sm_M_isSlot rfl rfl (by decide) (Nat.le_of_ble_eq_true rfl) d_M_times_6 (fun o h1 hp1 => ?_)
  obtain ⟨rfl, rfl⟩ := hp1
  by_cases c0 : 0 ≤ s0 ∧ s0 < 8
  · rw [if_pos c0]
    refine zi_if_eq (tgt := 31) K d_M_times_9 (by decide) (by decide) (fun q => absurd q (by decide)) (fun _ => ?_)
    refine z_iload_n K d_M_times_12 rfl ?_
    refine z_callS (As := [.int (jI t0)]) K (c_M_isSlot l G b0 (hm G h a 0 T) ht0) ca_M_95 sm_M_isSlot rfl rfl (by decide) (Nat.le_of_ble_eq_true rfl) d_M_times_13 (fun o h1 hp1 => ?_)
    obtain ⟨rfl, rfl⟩ := hp1
    by_cases c1 : 0 ≤ t0 ∧ t0 < 8
    · rw [if_pos c1]
      refine zi_if_eq (tgt := 31) K d_M_times_16 (by decide) (by decide) (fun q => absurd q (by decide)) (fun _ => ?_)
      refine z_iload_n K d_M_times_19 rfl ?_
      refine z_ldc (v := jI (-1000000)) K d_M_times_20 (by rw [show jI (-1000000) = -1000000 by decide]; exact kc_M_147) ?_
      refine zi_icmp_lt (tgt := 31) K d_M_times_22 (by decide) hk0 (by decide) (fun q => no (by omega)) (fun q1 => ?_)
      refine z_iload_n K d_M_times_25 rfl ?_
      refine z_ldc (v := jI 1000000) K d_M_times_26 kc_M_148 ?_
      refine zi_icmp_le (tgt := 33) K d_M_times_28 (by decide) hk0 (by decide) (fun q2 => ?_) (fun q => no (by omega))
      have valid : (0 ≤ s0 ∧ s0 < 8) ∧ (0 ≤ t0 ∧ t0 < 8) ∧ (-1000000 ≤ k0 ∧ k0 ≤ 1000000) := ⟨c0, c1, q1, q2⟩
      obtain ⟨ok1, ok2⟩ := ok c0 ⟨q1, q2⟩
      have fin : ∀ (T' : mT) (V' : Int → Int) (R2 R' : Option (Int × Int × Int)), R2 = (if k0 < 0 then ngP A.1 A.2.2.1 R' else R') → RW T' V' V0 T.2.2.2 → PtAt V' T'.2.2.2 36 R2 → capJ R2 → TmR A (pts s0) k0.natAbs 21 none (some R') → zW p l e (zRm 7 163 0 0) s m ([.ref a, .int (jI s0), .int (jI k0), .int (jI t0)] : List Value).toArray below meth c 6 b0 G 0 0 (MQ below (zQ G b0 (fun r_1 h' => ∃ T' : mT, h' = hm G h a 0 T' ∧ ((¬ ((0 ≤ s0 ∧ s0 < 8) ∧ (0 ≤ t0 ∧ t0 < 8) ∧ (-1000000 ≤ k0 ∧ k0 ≤ 1000000)) ∧ r_1 = some (.int (jI (-1))) ∧ RS T' pts A) ∨ (((0 ≤ s0 ∧ s0 < 8) ∧ (0 ≤ t0 ∧ t0 < 8) ∧ (-1000000 ≤ k0 ∧ k0 ≤ 1000000)) ∧ ((TmR A (pts s0) k0.natAbs 21 none none ∧ r_1 = some (.int (jI 0)) ∧ RS T' pts A) ∨ ∃ R' : Option (Int × Int × Int), TmR A (pts s0) k0.natAbs 21 none (some R') ∧ ((r_1 = some (.int (jI 0)) ∧ tlP (if k0 < 0 then ngP A.1 A.2.2.1 R' else R') ∧ RS T' pts A) ∨ (r_1 = some (.int (jI 1)) ∧ ¬ tlP (if k0 < 0 then ngP A.1 A.2.2.1 R' else R') ∧ RS T' (fun i => if i = t0 then (if k0 < 0 then ngP A.1 A.2.2.1 R' else R') else pts i) A))))))) ([.ref a, .int (jI s0), .int (jI k0), .int (jI t0)] : List Value).toArray s 0 0 (z_A b0)) (hm G h a 0 T') 148 [(0, .ref a), (3, .int (jI t0))] [] := fun T' V' R2 R' hR2 w1 w2 w3 w4 => by
        refine z_aload_n K d_M_times_148 rfl ?_
        refine z_iload_n K d_M_times_149 rfl ?_
        refine z_callV (ci := 0) (As := [.int (jI t0)]) K (x_M_settle l G b0 h a 0 T' (pts := pts) R2 w1 hA hp c1 w2 w3.z) ca_M_140 im_M_settle se_M_settle rfl (by decide) hm_0 rfl rfl (by decide) (Nat.le_of_ble_eq_true rfl) d_M_times_150 (fun o h1 hp1 => ?_)
        subst hR2
        obtain ⟨T4, rfl, ⟨rfl, k1, k2⟩ | ⟨rfl, k1, k2⟩⟩ := hp1
        · exact z_iret K hr hlk d_M_times_153 ⟨_, rfl, Or.inr ⟨valid, Or.inr ⟨R', w4, Or.inl ⟨rfl, k1, k2⟩⟩⟩⟩
        · exact z_iret K hr hlk d_M_times_153 ⟨_, rfl, Or.inr ⟨valid, Or.inr ⟨R', w4, Or.inr ⟨rfl, k1, k2⟩⟩⟩⟩
      have go : zW p l e (zRm 7 163 0 0) s m ([.ref a, .int (jI s0), .int (jI k0), .int (jI t0)] : List Value).toArray below meth c 6 b0 G 0 0 (MQ below (zQ G b0 (fun r_1 h' => ∃ T' : mT, h' = hm G h a 0 T' ∧ ((¬ ((0 ≤ s0 ∧ s0 < 8) ∧ (0 ≤ t0 ∧ t0 < 8) ∧ (-1000000 ≤ k0 ∧ k0 ≤ 1000000)) ∧ r_1 = some (.int (jI (-1))) ∧ RS T' pts A) ∨ (((0 ≤ s0 ∧ s0 < 8) ∧ (0 ≤ t0 ∧ t0 < 8) ∧ (-1000000 ≤ k0 ∧ k0 ≤ 1000000)) ∧ ((TmR A (pts s0) k0.natAbs 21 none none ∧ r_1 = some (.int (jI 0)) ∧ RS T' pts A) ∨ ∃ R' : Option (Int × Int × Int), TmR A (pts s0) k0.natAbs 21 none (some R') ∧ ((r_1 = some (.int (jI 0)) ∧ tlP (if k0 < 0 then ngP A.1 A.2.2.1 R' else R') ∧ RS T' pts A) ∨ (r_1 = some (.int (jI 1)) ∧ ¬ tlP (if k0 < 0 then ngP A.1 A.2.2.1 R' else R') ∧ RS T' (fun i => if i = t0 then (if k0 < 0 then ngP A.1 A.2.2.1 R' else R') else pts i) A))))))) ([.ref a, .int (jI s0), .int (jI k0), .int (jI t0)] : List Value).toArray s 0 0 (z_A b0)) (hm G h a 0 T) 43 [(0, .ref a), (1, .int (jI s0)), (2, .int (jI k0)), (3, .int (jI t0))] [.int (jI (k0.natAbs : Nat))] := by
        refine z_istore K d_M_times_43 (by decide) ?_
        refine z_ldc (v := jI 1048576) K d_M_times_45 kc_M_149 ?_
        refine z_istore K d_M_times_47 (by decide) ?_
        refine z_aload_n K d_M_times_49 rfl ?_
        refine zm_get K fd_M_19 rfl d_M_times_50 ?_
        refine z_bipush (v := jI 36) K d_M_times_53 rfl ?_
        refine z_iconst (v := jI 1) K d_M_times_55 rfl ?_
        refine zm_nst K (by decide) (Or.inr rfl) d_M_times_56 ?_
        have hW : RW (T.1, T.2.1, T.2.2.1, iu T.2.2.2 36 1) V0 V0 T.2.2.2 := ⟨fun r h0 h1 => hV r h0 h1, fun _ _ => rfl, fun q hq => iu_ne _ _ (by omega), fun q h0 h1 => by
          dsimp only
          by_cases hq : q = 36
          · rw [hq, iu_self]; exact Or.inr rfl
          · rw [iu_ne _ _ hq]; exact hN q h0 h1⟩
        refine z_re [0, 1, 2, 3, 4, 5] rfl ?_
        refine lp_M_times K ⟨Nat.le_refl _, Nat.le_refl _, Nat.le_refl _, Nat.le_refl _⟩ (pts s0) k0.natAbs (by omega) c0 hA cA (hp s0 c0.1 c0.2) (hcap s0) (fun T' V' w1 w2 pc w3 => ?_) (fun T' V' R' w1 w2 w3 => ?_) 21 none _ V0 (Nat.le_refl _) hW (show PtAt V0 (iu T.2.2.2 36 1) 36 none from iu_self _ _ _) ok1 (fun _ hres => hres)
        · exact z_iret K hr hlk w3 ⟨_, rfl, Or.inr ⟨valid, Or.inl ⟨w2, rfl, w1.rs hA hp⟩⟩⟩
        · obtain ⟨k1, k2⟩ := ok2 R' w3
          refine z_iload_n K d_M_times_138 rfl ?_
          refine zi_if_ge (tgt := 148) K d_M_times_139 (by decide) hk0 (fun hc => ?_) (fun hc => ?_)
          · exact z_re [0, 3] rfl (fin T' V' R' R' (by rw [if_neg (by omega)]) w1 w2 k1 w3)
          · refine z_aload_n K d_M_times_142 rfl ?_
            refine z_bipush (v := jI 36) K d_M_times_143 rfl ?_
            refine z_callV (ci := 0) (As := [.int (jI 36)]) K (v_M_turn (A2 := 0) (A4 := 0) (A6 := 0) l G b0 h a 0 T' R' w1.1 (by decide) ((w1.2.1 24 (by decide)).trans hA.1) ((w1.2.1 26 (by decide)).trans hA.2.2.1) cA.1 cA.2.2.1 w2 k1) ca_M_143 im_M_turn se_M_turn rfl (by decide) hm_0 rfl rfl (by decide) (Nat.le_of_ble_eq_true rfl) d_M_times_145 (fun o h1 hp1 => ?_)
            obtain ⟨T5, rfl, rfl, ⟨V5, q1, q2, q3⟩, q4⟩ := hp1
            have hW5 : RW T5 V5 V0 T.2.2.2 := ⟨q1, fun q hq => (q2 q (by omega) (by omega)).trans (w1.2.1 q hq), fun q hq => by rw [q4]; exact w1.2.2.1 q hq, fun q h0 h1 => by rw [q4]; exact w1.2.2.2 q h0 h1⟩
            exact z_re [0, 3] rfl (fin T5 V5 _ R' (by rw [if_pos hc]) hW5 q3 k2 w3)
      refine z_iload_n K d_M_times_33 rfl ?_
      refine zi_if_ge (tgt := 42) K d_M_times_34 (by decide) hk0 (fun hc => ?_) (fun hc => ?_)
      · refine z_iload_n K d_M_times_42 rfl ?_
        rw [show ((k0.natAbs : Nat) : Int) = k0 by omega] at go
        exact z_re [0, 1, 2, 3] rfl go
      · refine z_iload_n K d_M_times_37 rfl ?_
        refine zi_ineg K d_M_times_38 ?_
        refine z_goto (tgt := 43) K d_M_times_39 (by decide) ?_
        rw [show ((k0.natAbs : Nat) : Int) = -k0 by omega] at go
        exact z_re [0, 1, 2, 3] rfl go
    · rw [if_neg c1]
      refine zi_if_eq (tgt := 31) K d_M_times_16 (by decide) (by decide) (fun _ => ?_) (fun q => absurd rfl q)
      exact no (fun z => c1 z.2.1)
  · rw [if_neg c0]
    refine zi_if_eq (tgt := 31) K d_M_times_9 (by decide) (by decide) (fun _ => ?_) (fun q => absurd rfl q)
    exact no (fun z => c0 z.1)
end M27
