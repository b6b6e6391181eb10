/-- digit i of a number, the highest being 0, when it has d digits -/
def digN (v : Nat) (d i : Nat) : Nat := v / 10 ^ (d - 1 - i) % 10
theorem dv_dig {f : Int → Int} {b : Int} : ∀ {n j : Nat}, dg f b n → j < n → dv f b n / BS ^ j % BS = f (b + j)
  | 0, _, _, h => absurd h (Nat.not_lt_zero _)
  | n + 1, j, hd, hj => by
    have hp := BS_pos j
    have hb := dv_bd (n := n) (fun k hk => hd k (by omega))
    have hn := hd n (by omega)
    simp only [dv]
    by_cases h : j = n
    · subst h
      rw [Int.add_mul_ediv_right _ _ (by omega), Int.ediv_eq_zero_of_lt hb.1 hb.2, Int.zero_add]
      exact Int.emod_eq_of_lt hn.1 hn.2
    · have ih := dv_dig (n := n) (j := j) (fun k hk => hd k (by omega)) (by omega)
      rw [show BS ^ n = BS ^ (n - j - 1) * BS * BS ^ j by rw [← Int.pow_succ, ← Int.pow_add]; congr 1; omega, ← Int.mul_assoc, Int.add_mul_ediv_right _ _ (by omega), ← Int.mul_assoc, Int.add_mul_emod_self_right]
      exact ih
theorem dig_nat (v j k : Nat) (hk : k < 9) : v / 10 ^ (9 * j) % 1000000000 / 10 ^ k % 10 = v / 10 ^ (9 * j + k) % 10 := by
  rw [show (1000000000 : Nat) = 10 ^ k * 10 ^ (9 - k) by rw [← Nat.pow_add, show k + (9 - k) = 9 by omega], Nat.mod_mul_right_div_self, Nat.mod_mod_of_dvd _ (by rw [show 9 - k = (8 - k) + 1 by omega, Nat.pow_succ]; exact Nat.dvd_mul_left _ _), Nat.pow_add, Nat.div_div_eq_div_mul]
theorem Rg.dig {T : mT} {r v : Int} {n : Nat} (h : Rg T r n v) {fr : Nat} (hf : fr / 9 < n) : ∃ top : Nat, T.1 (460 * r + (fr / 9 : Nat)) = top ∧ top < 1000000000 ∧ top / 10 ^ (fr % 9) % 10 = v.natAbs / 10 ^ fr % 10 := by
  obtain ⟨h1, h2, h3, h4, h5, h6⟩ := h
  have hc := h3 (fr / 9) hf
  refine ⟨(T.1 (460 * r + (fr / 9 : Nat))).toNat, by omega, by omega, ?_⟩
  have e := dv_dig h3 hf
  rw [← h6, BS_ten] at e
  have e2 : v.natAbs / 10 ^ (9 * (fr / 9)) % 1000000000 = (T.1 (460 * r + (fr / 9 : Nat))).toNat := by
    rw [← e]
    generalize 10 ^ (9 * (fr / 9)) = t
    show v.natAbs / t % 1000000000 = (((v.natAbs : Nat) : Int) / (t : Int) % 1000000000).toNat
    rw [← Int.natCast_ediv]
    omega
  rw [← e2, dig_nat _ _ _ (by omega), show 9 * (fr / 9) + fr % 9 = fr by omega]
section M28
variable {p : Program} {l : Launch} {e : Env} {R : Room} {s : State} {m : MethodId} {args : Array Value} {below : List Frame} {meth : Method} {c : Code} {Q : State → Prop} {b0 kc ks : Nat} {G : zG} {h : zH} {a : Nat} {cd : Int}
set_option maxHeartbeats 4000000 in
set_option maxRecDepth 100000 in
theorem lp_M_digitAt (K : zC p s m args c b_M_digitAt R_M 8 b0 G) (T : mT) {fr top : Nat} (hfr : fr < 10000) (htop : top < 1000000000) (hx : zW p l e R s m args below meth c 8 b0 G kc ks Q (hm G h a cd T) 95 [(0, .ref a), (6, .int (jI (top / 10 ^ (fr % 9) : Nat)))] []) :
    ∀ (j i : Nat), i + j = fr % 9 → zW p l e R s m args below meth c 8 b0 G kc ks Q (hm G h a cd T) 72 [(0, .ref a), (5, .int (jI fr)), (6, .int (jI (top / 10 ^ i : Nat))), (7, .int (jI i))] [] := by
  intro j
  induction j with
  | zero =>
    intro i hi
    have hi9 : i = fr % 9 := by omega
    subst hi9
    refine z_iload K d_M_digitAt_72 rfl ?_
    refine z_iload K d_M_digitAt_74 rfl ?_
    refine z_bipush (v := jI 9) K d_M_digitAt_76 rfl ?_
    refine zi_irem K d_M_digitAt_78 (by omega) (by omega) (by omega) ?_
    rw [tmod_pos (by omega), show (fr : Int) % 9 = ((fr % 9 : Nat) : Int) by omega]
    refine zi_icmp_ge (tgt := 95) K d_M_digitAt_79 (by decide) (by omega) (by omega) (fun hc => ?_) (fun hc => absurd hc (by omega))
    exact z_re [0, 6] rfl hx
  | succ j ih =>
    intro i hi
    have hle : top / 10 ^ i ≤ top := Nat.div_le_self _ _
    have hdd : top / 10 ^ (i + 1) = top / 10 ^ i / 10 := by rw [Nat.pow_succ, ← Nat.div_div_eq_div_mul]
    have ih2 := ih (i + 1) (by omega)
    rw [hdd] at ih2
    generalize top / 10 ^ i = w at hle ih2 ⊢
    refine z_iload K d_M_digitAt_72 rfl ?_
    refine z_iload K d_M_digitAt_74 rfl ?_
    refine z_bipush (v := jI 9) K d_M_digitAt_76 rfl ?_
    refine zi_irem K d_M_digitAt_78 (by omega) (by omega) (by omega) ?_
    rw [tmod_pos (by omega), show (fr : Int) % 9 = ((fr % 9 : Nat) : Int) by omega]
    refine zi_icmp_ge (tgt := 95) K d_M_digitAt_79 (by decide) (by omega) (by omega) (fun hc => absurd hc (by omega)) (fun hc => ?_)
    refine z_iload K d_M_digitAt_82 rfl ?_
    refine z_bipush (v := jI 10) K d_M_digitAt_84 rfl ?_
    refine zi_idiv K d_M_digitAt_86 (by omega) (by omega) (by omega) ?_
    refine z_istore K d_M_digitAt_87 (by decide) ?_
    refine zi_iinc K d_M_digitAt_89 rfl (by decide) ?_
    refine z_goto (tgt := 72) K d_M_digitAt_92 (by decide) ?_
    rw [tdiv_pos (by omega), show (w : Int) / 10 = ((w / 10 : Nat) : Int) by omega, show (i : Int) + 1 = ((i + 1 : Nat) : Int) by omega]
    refine z_re [0, 5, 6, 7] rfl ih2
set_option maxHeartbeats 4000000 in
set_option maxRecDepth 100000 in
theorem lp_M_digitAt0 (K : zC p s m args c b_M_digitAt R_M 8 b0 G) (T : mT) {fr top : Nat} (hfr : fr < 10000) (htop : top < 1000000000) (hx : zW p l e R s m args below meth c 8 b0 G kc ks Q (hm G h a cd T) 95 [(0, .ref a), (6, .int (jI (top / 10 ^ (fr % 9) : Nat)))] []) : zW p l e R s m args below meth c 8 b0 G kc ks Q (hm G h a cd T) 72 [(0, .ref a), (5, .int (jI fr)), (6, .int (jI top)), (7, .int (jI 0))] [] := by
  have lp := lp_M_digitAt K T hfr htop hx (fr % 9) 0 (by omega)
  rw [Nat.pow_zero, Nat.div_one] at lp
  exact lp
set_option maxHeartbeats 4000000 in
set_option maxRecDepth 100000 in
/-- digitAt(slot, what, i) -/
theorem r_M_digitAt (l : Launch) (G : zG) (b0 : Nat) (h : zH) (a : Nat) (T : mT) {pts : Int → Option (Int × Int × Int)} {A : Int × Int × Int × Int × Int} {s0 w i : Int} (hS : RS T pts A) (hcap : ∀ i : Int, capJ (pts i)) (hs : i32 s0) (hw : i32 w) (hi : i32 i) :
    mMet l G b0 y_M_digitAt b_M_digitAt 8 (some .int) 3 83 h a 0 [.int (jI s0), .int (jI w), .int (jI i)] T (fun o T' => RS T' pts A ∧ ((∃ (q : Int × Int × Int) (d : Nat), ((0 ≤ s0 ∧ s0 < 8) ∧ pts s0 = some q ∧ 0 ≤ w ∧ w ≤ 3) ∧ IsDg (numP q w) d ∧ (0 ≤ i ∧ i < d ∧ o = some (.int (jI (digN (numP q w).natAbs d i.toNat : Nat))) ∨ ¬ (0 ≤ i ∧ i < d) ∧ o = some (.int (jI (-1))))) ∨ ¬ ((0 ≤ s0 ∧ s0 < 8) ∧ pts s0 ≠ none ∧ 0 ≤ w ∧ w ≤ 3) ∧ o = some (.int (jI (-1))))) :=
  z_met (by decide) (Nat.le_of_ble_eq_true rfl) fun p e s m below meth c K hr hlk hnm => by
  have hS0 := hS
  obtain ⟨V, hV, hp, hA, hN⟩ := hS
  refine z_aload_n K d_M_digitAt_0 rfl ?_
  refine z_iload_n K d_M_digitAt_1 rfl ?_
  refine z_iload_n K d_M_digitAt_2 rfl ?_
  refine z_callV (ci := 0) (As := [.int (jI s0), .int (jI w)]) K (v_M_take l G b0 h a T hV hp hcap hs hw) ca_M_153 im_M_take se_M_take rfl (by decide) hm_0 rfl rfl (by decide) (Nat.le_of_ble_eq_true rfl) d_M_digitAt_3 (fun o h1 hp2 => ?_)
  obtain ⟨T1, rfl, ⟨q, hc, rfl, ⟨V1, q1, q2, q3, q4⟩, q5⟩ | ⟨hc, rfl, rfl⟩⟩ := hp2
  · have fin : RS T1 pts A := RS.keep hp hA hN q1 (fun r hr2 => q2 r (by omega)) (fun r _ _ => by rw [q5]) (fun r h0 h1 => by rw [q5]; exact hN r h0 h1)
    refine zi_if_ne (tgt := 11) K d_M_digitAt_6 (by decide) (by decide) (fun _ => ?_) (fun z => absurd z (by decide))
    refine z_aload_n K d_M_digitAt_11 rfl ?_
    refine z_bipush (v := jI 45) K d_M_digitAt_12 rfl ?_
    refine z_callV (ci := 0) (As := [.int (jI 45)]) K (RV.dig l G b0 h a 0 q1 (by decide) q3) ca_M_130 im_M_digitsOf se_M_digitsOf rfl (by decide) hm_0 rfl rfl (by decide) (Nat.le_of_ble_eq_true rfl) d_M_digitAt_14 (fun o h1 hp2 => ?_)
    obtain ⟨T3, rfl, rfl, d1, rfl, hd1, hl1⟩ := hp2
    refine z_istore K d_M_digitAt_17 (by decide) ?_
    refine z_iload_n K d_M_digitAt_19 rfl ?_
    refine zi_if_lt (tgt := 29) K d_M_digitAt_20 (by decide) hi (fun hi0 => ?_) (fun hi0 => ?_)
    · refine z_iconst (v := jI (-1)) K d_M_digitAt_29 rfl ?_
      exact z_iret K hr hlk d_M_digitAt_30 ⟨_, rfl, fin, Or.inl ⟨q, d1, hc, hd1, Or.inr ⟨by omega, rfl⟩⟩⟩
    · refine z_iload_n K d_M_digitAt_23 rfl ?_
      refine z_iload K d_M_digitAt_24 rfl ?_
      refine zi_icmp_lt (tgt := 31) K d_M_digitAt_26 (by decide) hi (by omega) (fun hi1 => ?_) (fun hi1 => ?_)
      · obtain ⟨i0, rfl⟩ : ∃ m : Nat, i = m := ⟨i.toNat, by omega⟩
        obtain ⟨n1, k1⟩ := q1 45 (by decide) (by decide)
        rw [q3] at k1
        refine z_iload K d_M_digitAt_31 rfl ?_
        refine z_iconst (v := jI 1) K d_M_digitAt_33 rfl ?_
        refine zi_isub K d_M_digitAt_34 ?_
        refine z_iload_n K d_M_digitAt_35 rfl ?_
        refine zi_isub K d_M_digitAt_36 ?_
        refine z_istore K d_M_digitAt_37 (by decide) ?_
        refine z_aload_n K d_M_digitAt_39 rfl ?_
        refine zm_get K fd_M_13 rfl d_M_digitAt_40 ?_
        refine z_bipush (v := jI 45) K d_M_digitAt_43 rfl ?_
        refine zm_zld K (by omega) d_M_digitAt_45 ?_
        rw [k1.1]
        obtain ⟨fr, hfr⟩ : ∃ fr : Nat, (d1 : Int) - 1 - i0 = fr := ⟨d1 - 1 - i0, by omega⟩
        have hfr2 : d1 - 1 - i0 = fr := by omega
        rw [hfr]
        have hn := k1.2.1
        refine zi_if_ne (tgt := 53) K d_M_digitAt_46 (by decide) (by omega) (fun hz => ?_) (fun hz => ?_)
        · have hlt : fr / 9 < n1 := by
            rcases hd1.2.2 with z | z
            · omega
            · have h2 := k1.nn
              rw [BS_ten] at h2
              have h3 : 10 ^ (d1 - 1) < 10 ^ (9 * n1) := by omega
              have h4 := (Nat.pow_lt_pow_iff_right (by decide)).mp h3
              omega
          obtain ⟨top, t1, t2, t3⟩ := k1.dig hlt
          refine z_aload_n K d_M_digitAt_53 rfl ?_
          refine zm_get K fd_M_9 rfl d_M_digitAt_54 ?_
          refine z_sipush (v := jI 20700) K d_M_digitAt_57 rfl ?_
          refine z_iload K d_M_digitAt_60 rfl ?_
          refine z_bipush (v := jI 9) K d_M_digitAt_62 rfl ?_
          refine zi_idiv K d_M_digitAt_64 (by omega) (by omega) (by omega) ?_
          rw [tdiv_pos (by omega), show (fr : Int) / 9 = ((fr / 9 : Nat) : Int) by omega]
          refine zi_iadd K d_M_digitAt_65 ?_
          refine zm_cld K (by omega) d_M_digitAt_66 ?_
          rw [show (20700 : Int) = 460 * 45 by decide, t1]
          refine z_istore K d_M_digitAt_67 (by decide) ?_
          refine z_iconst (v := jI 0) K d_M_digitAt_69 rfl ?_
          refine z_istore K d_M_digitAt_70 (by decide) ?_
          refine z_re [0, 5, 6, 7] rfl (lp_M_digitAt0 K T1 (fr := fr) (top := top) (by omega) t2 ?_)
          have hlt2 : top / 10 ^ (fr % 9) ≤ top := Nat.div_le_self _ _
          rw [← hfr2] at t3
          rw [hfr2] at t3
          generalize top / 10 ^ (fr % 9) = tt at hlt2 t3 ⊢
          generalize hres : (numP q w).natAbs / 10 ^ fr % 10 = res at t3
          refine z_iload K d_M_digitAt_95 rfl ?_
          refine z_bipush (v := jI 10) K d_M_digitAt_97 rfl ?_
          refine zi_irem K d_M_digitAt_99 (by omega) (by omega) (by omega) ?_
          rw [tmod_pos (by omega), show (tt : Int) % 10 = ((tt % 10 : Nat) : Int) by omega, t3, ← hres, ← hfr2]
          exact z_iret K hr hlk d_M_digitAt_100 ⟨_, rfl, fin, Or.inl ⟨q, d1, hc, hd1, Or.inl ⟨hi0, hi1, by simp only [digN, Int.toNat_natCast]⟩⟩⟩
        · have hv0 : numP q w = 0 := k1.zero.mp (by omega)
          have hd0 : d1 = 1 := by
            rcases hd1.2.2 with z | z
            · exact z
            · rw [hv0] at z
              have : 0 < 10 ^ (d1 - 1) := Nat.pow_pos (by decide)
              simp at z
          refine z_iconst (v := jI 0) K d_M_digitAt_49 rfl ?_
          refine z_goto (tgt := 67) K d_M_digitAt_50 (by decide) ?_
          refine z_istore K d_M_digitAt_67 (by decide) ?_
          refine z_iconst (v := jI 0) K d_M_digitAt_69 rfl ?_
          refine z_istore K d_M_digitAt_70 (by decide) ?_
          refine z_re [0, 5, 6, 7] rfl (lp_M_digitAt0 K T1 (fr := fr) (top := 0) (by omega) (by decide) ?_)
          rw [Nat.zero_div]
          refine z_iload K d_M_digitAt_95 rfl ?_
          refine z_bipush (v := jI 10) K d_M_digitAt_97 rfl ?_
          refine zi_irem K d_M_digitAt_99 (by omega) (by omega) (by omega) ?_
          refine z_iret K hr hlk d_M_digitAt_100 ⟨_, rfl, fin, Or.inl ⟨q, d1, hc, hd1, Or.inl ⟨hi0, hi1, ?_⟩⟩⟩
          rw [hv0]
          simp [digN]
      · refine z_iconst (v := jI (-1)) K d_M_digitAt_29 rfl ?_
        exact z_iret K hr hlk d_M_digitAt_30 ⟨_, rfl, fin, Or.inl ⟨q, d1, hc, hd1, Or.inr ⟨by omega, rfl⟩⟩⟩
  · refine zi_if_ne (tgt := 11) K d_M_digitAt_6 (by decide) (by decide) (fun z => absurd rfl z) (fun _ => ?_)
    refine z_iconst (v := jI (-1)) K d_M_digitAt_9 rfl ?_
    exact z_iret K hr hlk d_M_digitAt_10 ⟨_, rfl, hS0, Or.inr ⟨hc, rfl⟩⟩
end M28
