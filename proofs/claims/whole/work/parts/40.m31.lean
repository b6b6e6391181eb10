/-- the reference's first state -/
def mT0 : mT := (fun _ => 0, fun _ => 0, fun _ => 0, fun _ => 0)
theorem RV_0 : RV mT0 (fun _ => 0) := fun r _ _ => ⟨0, rfl, by decide, fun k hk => absurd hk (Nat.not_lt_zero _), fun j hj => by omega, rfl, rfl⟩
section M31
variable {p : Program} {l : Launch} {e : Env} {R : Room} {s : State} {m : MethodId} {args : Array Value} {below : List Frame} {meth : Method} {c : Code} {Q : State → Prop} {b0 kc ks : Nat} {G : zG} {h : zH} {a : Nat} {cd : Int}
set_option maxHeartbeats 4000000 in
set_option maxRecDepth 100000 in
/-- the reference's constructor -/
theorem r_M_init (l : Launch) (G : zG) (b0 : Nat) (h : zH) (a : Nat) (ha : h.1 = a + 1) (h0 : h.2 a = .inr (0, [.int 0, .null, .null, .null, .null])) :
    zMet l G b0 y_M_init b_M_init 1 none 1 25 4 25928 [.ref a] h (fun o h' => o = none ∧ ∃ T : mT, h' = hm G (a + 5, h.2) a 0 T ∧ RS T (fun _ => none) (0, 0, 0, 0, 1)) :=
  z_met (by decide) (Nat.le_of_ble_eq_true rfl) fun p e s m below meth c K hr hlk hnm => by
  obtain ⟨hn, hf⟩ := h
  dsimp only at ha h0
  subst ha
  refine z_aload_n K d_M_init_0 rfl ?_
  refine z_obj K oi_M oi_im oi_cd d_M_init_1 (by decide) ?_
  refine z_aload_n K d_M_init_4 rfl ?_
  refine z_sipush (v := nI 25760) K d_M_init_5 rfl ?_
  refine z_newi (t0 := 0) K rfl ac_int rfl (by decide) (by decide) (by decide) d_M_init_8 ?_
  refine z_putF K hnm ff_M_9 ((va_up_ne _ _ (by omega)).trans h0) (by decide) rfl rfl d_M_init_10 ?_
  refine z_aload_n K d_M_init_13 rfl ?_
  refine z_bipush (v := nI 56) K d_M_init_14 rfl ?_
  refine z_newi (t0 := 0) K rfl ac_int rfl (by decide) (by decide) (by decide) d_M_init_16 ?_
  refine z_putF K hnm ff_M_13 ((va_up_ne _ _ (by simp; omega)).trans (va_up_self _ _ _)) (Nat.le_of_ble_eq_true rfl) rfl rfl d_M_init_18 ?_
  refine z_aload_n K d_M_init_21 rfl ?_
  refine z_bipush (v := nI 56) K d_M_init_22 rfl ?_
  refine z_newi (t0 := 0) K rfl ac_int rfl (by decide) (by decide) (by decide) d_M_init_24 ?_
  refine z_putF K hnm ff_M_16 ((va_up_ne _ _ (by simp; omega)).trans (va_up_self _ _ _)) (Nat.le_of_ble_eq_true rfl) rfl rfl d_M_init_26 ?_
  refine z_aload_n K d_M_init_29 rfl ?_
  refine z_bipush (v := nI 56) K d_M_init_30 rfl ?_
  refine z_newz (t0 := 1) K rfl ac_bool rfl (by decide) (by decide) (by decide) d_M_init_32 ?_
  refine z_putF K hnm ff_M_19 ((va_up_ne _ _ (by simp; omega)).trans (va_up_self _ _ _)) (Nat.le_of_ble_eq_true rfl) rfl rfl d_M_init_34 ?_
  refine z_hp (h' := hm G (a + 5, hf) a 0 mT0) (Prod.ext rfl (funext fun q => ?_)) ?_
  · by_cases q0 : q = a
    · subst q0; simp [hm, va_up]; rfl
    · by_cases q1 : q = a + 1
      · subst q1; simp [hm, va_up, mT0]; rfl
      · by_cases q2 : q = a + 2
        · subst q2; simp [hm, va_up, mT0]; rfl
        · by_cases q3 : q = a + 3
          · subst q3; simp [hm, va_up, mT0]; rfl
          · by_cases q4 : q = a + 4
            · subst q4; simp [hm, va_up, mT0]; rfl
            · simp [hm, va_up, q0, q1, q2, q3, q4]
  refine z_aload_n K d_M_init_37 rfl ?_
  refine z_callV (ci := 0) (As := []) K (c_M_forget l G b0 (a + 5, hf) a 0 mT0) ca_M_23 im_M_forget se_M_forget rfl (by decide) hm_0 rfl rfl (by decide) (Nat.le_of_ble_eq_true rfl) d_M_init_38 (fun o h1 hp1 => ?_)
  obtain ⟨S5, rfl, rfl, N, rfl, hN9⟩ := hp1
  refine z_aload_n K d_M_init_41 rfl ?_
  refine z_bipush (v := jI 28) K d_M_init_42 rfl ?_
  refine z_lconst (v := kI 1) K d_M_init_44 rfl ?_
  have hV : RV (mT0.1, mT0.2.1, mT0.2.2.1, N) (fun _ => 0) := fun r h0 h1 => RV_0 r h0 h1
  refine z_callV (ci := 0) (As := [.int (jI 28), .long (kI 1)]) K (v_M_set l G b0 (a + 5, hf) a 0 _ hV (by decide) (by decide)) ca_M_26 im_M_set se_M_set rfl (by decide) hm_0 rfl rfl (by decide) (Nat.le_of_ble_eq_true rfl) d_M_init_45 (fun o h1 hp1 => ?_)
  obtain ⟨S6, rfl, rfl, hV6, hM6⟩ := hp1
  refine z_vret K hr hlk d_M_init_48 ⟨rfl, _, rfl, _, hV6, fun i h0 h1 => ?_, ?_, fun q h0 h1 => ?_⟩
  · show S6.2.2.2 (3 * i) = 1
    rw [hM6]
    show N (3 * i) = 1
    rw [hN9, if_pos (by omega)]
  · simp [iu]
  · rw [hM6]
    show N q = 0 ∨ N q = 1
    rw [hN9]
    by_cases z : 0 ≤ q ∧ q < 24 ∧ q % 3 = 0
    · rw [if_pos z]; exact Or.inr rfl
    · rw [if_neg z]; exact Or.inl rfl
end M31
