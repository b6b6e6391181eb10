section I2
variable {p : Program} {l : Launch} {e : Env} {R : Room} {s : State} {m : MethodId} {args : Array Value} {below : List Frame} {meth : Method} {c : Code} {Q : State → Prop} {b0 kc ks : Nat} {G : zG} {h : zH} {a : Nat} {cd : Int}
set_option maxHeartbeats 4000000 in
set_option maxRecDepth 100000 in
theorem g_N_become_J (l : Launch) (G : zG) (b0 : Nat) (h : zH) (a : Nat) {v : Nat → Int} {k : Nat} {w : Int} (hk : isN k = true) (h0 : v k = 0) (hw : 0 ≤ w ∧ w < 1000000000) (c1 : h.2 (a + k) = xCell G a (Sv v) k) (c2 : h.2 (a + (k + 1)) = xCell G a (Sv v) (k + 1)) : zMet l G b0 y_N_become_J b_N_become_J 7 none 0 0 0 0 [.ref (a + k), .long (kI w)] h (fun r h' => r = none ∧ h'.1 = h.1 ∧ h'.2 (a + k) = xCell G a (Sv (nu v k w)) k ∧ h'.2 (a + (k + 1)) = xCell G a (Sv (nu v k w)) (k + 1) ∧ ∀ x : Nat, x ≠ a + k → x ≠ a + (k + 1) → h'.2 x = h.2 x) :=
  z_met (by decide) (Nat.le_of_ble_eq_true rfl) fun p e s m below meth c K hr hlk hnm => by
  have hR := nR_le k
  have e1 : (Sv (nu v k w)).L k = if w = 0 then 0 else 1 := by
    show (if nu v k w k = 0 then (0 : Int) else 1) = _
    rw [nu_self]
  have e2 : (Sv (nu v k w)).C k = fun i => if i = 0 then w else 0 := by
    funext i
    show (if i = 0 then nu v k w k else 0) = _
    rw [nu_self]
  have e3 : (Sv v).C k = fun _ => 0 := by
    funext i
    show (if i = 0 then v k else 0) = 0
    rw [h0]
    split <;> rfl
  have e4 : (Sv v).L k = 0 := by
    show (if v k = 0 then (0 : Int) else 1) = 0
    rw [if_pos h0]
  rw [xC_N hk] at c1
  rw [xC_A hk, e3] at c2
  unfold oN at c1
  rw [e4] at c1
  rw [xC_N hk, xC_A hk, e2]
  unfold oN
  rw [e1]
  refine z_lload_n K d_N_become_J_0 rfl ?_
  refine z_lconst (v := kI 0) K d_N_become_J_1 rfl ?_
  refine zi_lc_ge (tgt := 10) K d_N_become_J_2 d_N_become_J_3 (by decide) (by omega) (by omega) (fun hc => ?_) (fun hc => absurd hc (by omega))
  refine z_lload_n K d_N_become_J_10 rfl ?_
  refine zi_lneg K d_N_become_J_11 ?_
  refine z_lstore_n K d_N_become_J_12 (by decide) ?_
  refine z_iconst (v := jI 0) K d_N_become_J_13 rfl ?_
  refine z_istore K d_N_become_J_14 (by decide) ?_
  refine z_iconst (v := jI 0) K d_N_become_J_16 rfl ?_
  refine z_istore K d_N_become_J_17 (by decide) ?_
  refine z_iload K d_N_become_J_19 rfl ?_
  refine z_iconst (v := jI 3) K d_N_become_J_21 rfl ?_
  refine zi_icmp_ge (tgt := 63) K d_N_become_J_22 (by decide) (by decide) (by decide) (fun hc => absurd hc (by decide)) (fun hc => ?_)
  refine z_lload_n K d_N_become_J_25 rfl ?_
  refine z_lconst (v := kI 0) K d_N_become_J_26 rfl ?_
  refine zi_lc_eq (tgt := 63) K d_N_become_J_27 d_N_become_J_28 (by decide) (by omega) (by omega) (fun hz => ?_) (fun hz => ?_)
  · have w0 : w = 0 := by omega
    subst w0
    rw [if_pos rfl]
    refine z_aload_n K d_N_become_J_63 rfl ?_
    refine z_iload K d_N_become_J_64 rfl ?_
    refine z_put K fd_N_21 c1 (Nat.le_of_ble_eq_true rfl) rfl rfl d_N_become_J_66 ?_
    refine z_aload_n K d_N_become_J_69 rfl ?_
    refine z_lload_n K d_N_become_J_70 rfl ?_
    refine z_lconst (v := kI 0) K d_N_become_J_71 rfl ?_
    refine zi_lc_ge (tgt := 80) K d_N_become_J_72 d_N_become_J_73 (by decide) (by decide) (by decide) (fun hc => ?_) (fun hc => absurd hc (by decide))
    refine z_iconst (v := jI 0) K d_N_become_J_80 rfl ?_
    refine z_put K fd_N_25 (va_up_self _ _ _) (Nat.le_of_ble_eq_true rfl) (z01n (Or.inl rfl)) (z01f (Or.inl rfl)) d_N_become_J_81 ?_
    refine z_vret K hr hlk d_N_become_J_84 ⟨rfl, rfl, ?_, ?_, fun x x1 x2 => ?_⟩
    · exact va_up_self _ _ _
    · refine ((va_up_ne _ _ (by omega)).trans ((va_up_ne _ _ (by omega)).trans c2)).trans ?_
      have : (fun i : Nat => jI (if (i : Int) = 0 then 0 else 0)) = fun i : Nat => jI ((fun _ : Int => (0 : Int)) (i : Int)) := by funext i; split <;> rfl
      rw [this]
    · exact (va_up_ne _ _ x1).trans (va_up_ne _ _ x1)
  · have w0 : w ≠ 0 := by omega
    rw [if_neg w0]
    have e5 : (-w).tmod 1000000000 = -w := by rw [Int.neg_tmod, Int.tmod_eq_emod_of_nonneg hw.1, Int.emod_eq_of_lt hw.1 hw.2]
    have e6 : (-w).tdiv 1000000000 = 0 := by rw [Int.neg_tdiv, Int.tdiv_eq_ediv_of_nonneg hw.1, Int.ediv_eq_zero_of_lt hw.1 hw.2]; rfl
    refine z_aload_n K d_N_become_J_31 rfl ?_
    refine z_get K fd_N_15 c1 rfl d_N_become_J_32 ?_
    refine z_iload K d_N_become_J_35 rfl ?_
    refine z_lload_n K d_N_become_J_37 rfl ?_
    refine z_ldc2 (v := kI 1000000000) K d_N_become_J_38 kc_N_29 ?_
    refine zi_lrem K d_N_become_J_41 (by omega) (by decide) (by decide) ?_
    rw [e5]
    refine zi_lneg K d_N_become_J_42 ?_
    refine zi_l2i K d_N_become_J_43 ?_
    rw [Int.neg_neg]
    refine zi_iast K 0 (a := a + (k + 1)) (N := nR k) (f := fun _ => 0) (j := 0) c2 rfl (by decide) (by omega) (by omega) d_N_become_J_44 ?_
    refine z_lload_n K d_N_become_J_45 rfl ?_
    refine z_ldc2 (v := kI 1000000000) K d_N_become_J_46 kc_N_29 ?_
    refine zi_ldiv K d_N_become_J_49 (by omega) (by decide) (by decide) ?_
    rw [e6]
    refine z_lstore_n K d_N_become_J_50 (by decide) ?_
    refine z_iload K d_N_become_J_51 rfl ?_
    refine z_iconst (v := jI 1) K d_N_become_J_53 rfl ?_
    refine zi_iadd K d_N_become_J_54 ?_
    refine z_istore K d_N_become_J_55 (by decide) ?_
    refine zi_iinc K d_N_become_J_57 rfl (by decide) ?_
    refine z_goto (tgt := 19) K d_N_become_J_60 (by decide) ?_
    refine z_iload K d_N_become_J_19 rfl ?_
    refine z_iconst (v := jI 3) K d_N_become_J_21 rfl ?_
    refine zi_icmp_ge (tgt := 63) K d_N_become_J_22 (by decide) (by decide) (by decide) (fun hc => absurd hc (by decide)) (fun hc => ?_)
    refine z_lload_n K d_N_become_J_25 rfl ?_
    refine z_lconst (v := kI 0) K d_N_become_J_26 rfl ?_
    refine zi_lc_eq (tgt := 63) K d_N_become_J_27 d_N_become_J_28 (by decide) (by decide) (by decide) (fun hz => ?_) (fun hz => absurd rfl hz)
    refine z_aload_n K d_N_become_J_63 rfl ?_
    refine z_iload K d_N_become_J_64 rfl ?_
    refine z_put K fd_N_21 ((va_up_ne _ _ (by omega)).trans c1) (Nat.le_of_ble_eq_true rfl) rfl rfl d_N_become_J_66 ?_
    refine z_aload_n K d_N_become_J_69 rfl ?_
    refine z_lload_n K d_N_become_J_70 rfl ?_
    refine z_lconst (v := kI 0) K d_N_become_J_71 rfl ?_
    refine zi_lc_ge (tgt := 80) K d_N_become_J_72 d_N_become_J_73 (by decide) (by omega) (by decide) (fun hc => ?_) (fun hc => absurd hc (by omega))
    refine z_iconst (v := jI 0) K d_N_become_J_80 rfl ?_
    refine z_put K fd_N_25 (va_up_self _ _ _) (Nat.le_of_ble_eq_true rfl) (z01n (Or.inl rfl)) (z01f (Or.inl rfl)) d_N_become_J_81 ?_
    refine z_vret K hr hlk d_N_become_J_84 ⟨rfl, rfl, ?_, ?_, fun x x1 x2 => ?_⟩
    · exact va_up_self _ _ _
    · refine ((va_up_ne _ _ (by omega)).trans ((va_up_ne _ _ (by omega)).trans (va_up_self _ _ _))).trans ?_
      have : (fun i : Nat => jI (iu (fun _ : Int => (0 : Int)) 0 w (i : Int))) = fun i : Nat => jI (if (i : Int) = 0 then w else 0) := by funext i; rfl
      rw [this]
    · exact (va_up_ne _ _ x1).trans ((va_up_ne _ _ x1).trans (va_up_ne _ _ x2))
theorem bld.bec {G : zG} {a : Nat} {v : Nat → Int} {g : Nat → va_E} {o n k : Nat} {w : Int} {own : va_E} {h h' : zH} (hb : bld G a (Sv v) g o n own h) (ho : o < k) (hn : k + 1 < n) (h1 : h'.1 = h.1) (h2 : h'.2 (a + k) = xCell G a (Sv (nu v k w)) k) (h3 : h'.2 (a + (k + 1)) = xCell G a (Sv (nu v k w)) (k + 1)) (h4 : ∀ x : Nat, x ≠ a + k → x ≠ a + (k + 1) → h'.2 x = h.2 x) : bld G a (Sv (nu v k w)) g o n own h' := by
  obtain ⟨b1, b2, b3, b4⟩ := hb
  refine ⟨h1.trans b1, (h4 _ (by omega) (by omega)).trans b2, fun j j1 j2 => ?_, fun x hx => (h4 x (by omega) (by omega)).trans (b4 x hx)⟩
  by_cases e1 : j = k
  · subst e1; exact h2
  · by_cases e2 : j = k + 1
    · subst e2; exact h3
    · rw [xC_nu e1 e2]
      exact (h4 _ (by omega) (by omega)).trans (b3 j j1 j2)
theorem xC_P {G : zG} {a k : Nat} {S : xS} (hk : isP k = true) : xCell G a S k = .inr (2, oP a k S) := by
  have q := isP_lt hk
  unfold xCell
  rw [if_neg (by rw [q.2.1]; decide), if_neg (by rw [q.2.2.1]; simp), if_pos hk]
end I2
