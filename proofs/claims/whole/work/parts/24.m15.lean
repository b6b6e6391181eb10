section M15
variable {p : Program} {l : Launch} {e : Env} {R : Room} {s : State} {m : MethodId} {args : Array Value} {below : List Frame} {meth : Method} {c : Code} {Q : State → Prop} {b0 kc ks : Nat} {G : zG} {h : zH} {a : Nat} {cd : Int}
set_option maxHeartbeats 4000000 in
set_option maxRecDepth 100000 in
theorem t_M_move (K : zC p s m args c b_M_move R_M 4 b0 G) (hRm : 1 ≤ R.frames ∧ 23 ≤ R.locals ∧ kc ≤ R.cells ∧ ks ≤ R.slots) {f t : Int} (hf : 0 ≤ f ∧ f < 54) (ht : 0 ≤ t ∧ t < 54) (j : Nat) (T : mT) {V : Int → Int} (hV : RV T V) (hj : j < 3) (hNf : T.2.2.2 f = 0)
    (hx : ∀ T' : mT, RV T' (iu V (t + j) (V (f + j))) → T'.2.2.2 = T.2.2.2 → zW p l e R s m args below meth c 4 b0 G kc ks Q (hm G h a cd T') 14 [(0, .ref a), (1, .int (jI f)), (2, .int (jI t)), (3, .int (jI (j + 1 : Int)))] []) :
    zW p l e R s m args below meth c 4 b0 G kc ks Q (hm G h a cd T) 14 [(0, .ref a), (1, .int (jI f)), (2, .int (jI t)), (3, .int (jI j))] [] := by
  refine z_iload_n K d_M_move_14 rfl ?_
  refine z_iconst (v := jI 3) K d_M_move_15 rfl ?_
  refine zi_icmp_ge (tgt := 44) K d_M_move_16 (by decide) (by omega) (by omega) (fun hc => absurd hc (by omega)) (fun hc => ?_)
  refine z_aload_n K d_M_move_19 rfl ?_
  refine zm_get K fd_M_19 rfl d_M_move_20 ?_
  refine z_iload_n K d_M_move_23 rfl ?_
  refine zm_nld K (by omega) d_M_move_24 ?_
  rw [hNf]
  refine zi_if_ne (tgt := 44) K d_M_move_25 (by decide) (by omega) (fun hc => absurd rfl hc) (fun _ => ?_)
  refine z_aload_n K d_M_move_28 rfl ?_
  refine z_iload_n K d_M_move_29 rfl ?_
  refine z_iload_n K d_M_move_30 rfl ?_
  refine zi_iadd K d_M_move_31 ?_
  refine z_iload_n K d_M_move_32 rfl ?_
  refine z_iload_n K d_M_move_33 rfl ?_
  refine zi_iadd K d_M_move_34 ?_
  refine z_callV (ci := 0) (As := [.int (jI (f + j)), .int (jI (t + j))]) K (v_M_copy l G b0 h a cd T hV (by omega) (by omega)) ca_M_40 im_M_copy se_M_copy rfl (by decide) hm_0 rfl rfl (by omega) (Nat.le_of_ble_eq_true rfl) d_M_move_35 (fun o h1 hp => ?_)
  obtain ⟨T1, rfl, rfl, hV1, hN1⟩ := hp
  refine zi_iinc K d_M_move_38 rfl (by decide) ?_
  refine z_goto (tgt := 14) K d_M_move_41 (by decide) ?_
  exact z_re [0, 1, 2, 3] rfl (hx T1 hV1 hN1)
set_option maxHeartbeats 4000000 in
set_option maxRecDepth 100000 in
/-- move(f, t): the point at t is that at f -/
theorem v_M_move (l : Launch) (G : zG) (b0 : Nat) (h : zH) (a : Nat) (cd : Int) (T : mT) {V : Int → Int} {f t : Int} (hV : RV T V) (hf : 0 ≤ f ∧ f < 54) (ht : 0 ≤ t ∧ t < 54) (hft : f = t ∨ f + 3 ≤ t ∨ t + 3 ≤ f) (hNf : T.2.2.2 f = 0 ∨ T.2.2.2 f = 1) :
    mMet l G b0 y_M_move b_M_move 4 none 1 23 h a cd [.int (jI f), .int (jI t)] T (fun o T' => o = none ∧ (∃ V' : Int → Int, RV T' V' ∧ (T.2.2.2 f = 0 → V' t = V f ∧ V' (t + 1) = V (f + 1) ∧ V' (t + 2) = V (f + 2)) ∧ (∀ q : Int, q < t ∨ t + 3 ≤ q → V' q = V q)) ∧ T'.2.2.2 = iu T.2.2.2 t (T.2.2.2 f)) :=
  z_met (by decide) (Nat.le_of_ble_eq_true rfl) fun p e s m below meth c K hr hlk hnm => by
  have hNf2 : iu T.2.2.2 t (T.2.2.2 f) f = T.2.2.2 f := by
    by_cases z : f = t
    · rw [z, iu_self]
    · rw [iu_ne _ _ z]
  refine z_aload_n K d_M_move_0 rfl ?_
  refine zm_get K fd_M_19 rfl d_M_move_1 ?_
  refine z_iload_n K d_M_move_4 rfl ?_
  refine z_aload_n K d_M_move_5 rfl ?_
  refine zm_get K fd_M_19 rfl d_M_move_6 ?_
  refine z_iload_n K d_M_move_9 rfl ?_
  refine zm_nld K (by omega) d_M_move_10 ?_
  refine zm_nst K (by omega) hNf d_M_move_11 ?_
  refine z_iconst (v := jI 0) K d_M_move_12 rfl ?_
  refine z_istore_n K d_M_move_13 (by decide) ?_
  refine z_re [0, 1, 2, 3] rfl ?_
  have hV0 : RV (T.1, T.2.1, T.2.2.1, iu T.2.2.2 t (T.2.2.2 f)) V := fun r h0 h1 => hV r h0 h1
  rcases hNf with hNf | hNf
  · refine t_M_move (j := 0) K ⟨Nat.le_refl _, Nat.le_refl _, Nat.le_refl _, Nat.le_refl _⟩ hf ht _ hV0 (by decide) (by dsimp only; rw [hNf2, hNf]) (fun T1 hV1 hN1 => ?_)
    refine t_M_move (j := 1) K ⟨Nat.le_refl _, Nat.le_refl _, Nat.le_refl _, Nat.le_refl _⟩ hf ht T1 hV1 (by decide) (by rw [hN1]; dsimp only; rw [hNf2, hNf]) (fun T2 hV2 hN2 => ?_)
    refine t_M_move (j := 2) K ⟨Nat.le_refl _, Nat.le_refl _, Nat.le_refl _, Nat.le_refl _⟩ hf ht T2 hV2 (by decide) (by rw [hN2, hN1]; dsimp only; rw [hNf2, hNf]) (fun T3 hV3 hN3 => ?_)
    refine z_iload_n K d_M_move_14 rfl ?_
    refine z_iconst (v := jI 3) K d_M_move_15 rfl ?_
    refine zi_icmp_ge (tgt := 44) K d_M_move_16 (by decide) (by decide) (by omega) (fun hc => ?_) (fun hc => absurd hc (by decide))
    refine z_vret K hr hlk d_M_move_44 ⟨_, rfl, rfl, ⟨_, hV3, fun _ => ?_, fun q hq => ?_⟩, hN3.trans (hN2.trans hN1)⟩
    · simp only [Int.natCast_zero, Int.add_zero, Int.natCast_one, show ((2 : Nat) : Int) = 2 from rfl]
      refine ⟨?_, ?_, ?_⟩
      · rw [iu_ne _ _ (by omega), iu_ne _ _ (by omega), iu_self]
      · rw [iu_ne _ _ (by omega), iu_self]
        by_cases z : f = t
        · subst z; rw [iu_ne _ _ (by omega)]
        · rw [iu_ne _ _ (by omega)]
      · rw [iu_self, iu_ne _ _ (by omega), iu_ne _ _ (by omega)]
    · rw [iu_ne _ _ (by omega), iu_ne _ _ (by omega), iu_ne _ _ (by omega)]
  · refine z_iload_n K d_M_move_14 rfl ?_
    refine z_iconst (v := jI 3) K d_M_move_15 rfl ?_
    refine zi_icmp_ge (tgt := 44) K d_M_move_16 (by decide) (by decide) (by omega) (fun hc => absurd hc (by decide)) (fun hc => ?_)
    refine z_aload_n K d_M_move_19 rfl ?_
    refine zm_get K fd_M_19 rfl d_M_move_20 ?_
    refine z_iload_n K d_M_move_23 rfl ?_
    refine zm_nld K (by omega) d_M_move_24 ?_
    dsimp only
    rw [hNf2, hNf]
    refine zi_if_ne (tgt := 44) K d_M_move_25 (by decide) (by omega) (fun _ => ?_) (fun hc => absurd hc (by decide))
    refine z_vret K hr hlk d_M_move_44 ⟨_, rfl, rfl, ⟨V, ?_, fun z => absurd z (by omega), fun q _ => rfl⟩, ?_⟩
    · rw [hNf] at hV0; exact hV0
    · rfl
end M15
