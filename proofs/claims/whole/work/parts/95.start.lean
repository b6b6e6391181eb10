set_option maxHeartbeats 4000000 in
set_option maxRecDepth 100000 in
theorem whole_start {p : Program} {e : Env} {s : State} {m : MethodId} {below : List Frame} {meth : Method} {c : Code} (l : Launch) {b L : Nat} {xs : Nat → Int32} (hL : L ≤ 5120) (C0 : lw_At p s m meth c b L xs) : W p l e room_1 s m #[Value.ref b] below meth c s.heap [] 0 0 (lw_Z below #[Value.ref b] s) (entryFrame m ([Value.ref b] : List Value).toArray 4) := by
  obtain ⟨hex, hb, hr, hml, hown, hts, hX, hbl, hlocks, hgv⟩ := id C0
  have hT : zT (z_A s.heap.size) s s.heap := whole_T hts hgv
  obtain ⟨G, hK⟩ := whole_K hts (va_AO.use hT.2)
  have K : zC p s m #[Value.ref b] c code R_law 4 s.heap.size G := ⟨hex, hb, hml, hown, fun w hw => hts w (zTb_tbl hw), hK, fun w hw => va_Nw.of (zN_on hw) (hts w (List.mem_filter.mp hw).1), hT, Nat.le_refl _⟩
  have KK : lwK p s m #[Value.ref b] c s.heap.size G b L xs := ⟨K, hX, hbl, hL⟩
  have hl := lv_entry ([.ref b]) (n := 4) (Nat.le_of_ble_eq_true rfl)
  rw [lg_entry_eq]
  generalize (lg_sl ([.ref b]) ++ List.replicate (4 - (lg_sl ([.ref b])).length) Slot.unset).toArray = ls at hl ⊢
  have hl : lv_has ls 4 [(0, .ref b)] := hl
  have main : zW p l e room_1 s m #[Value.ref b] below meth c 4 s.heap.size G 0 0 (lw_Z below #[Value.ref b] s) (s.heap.size, fun _ => z_junk) 0 [(0, .ref b)] [] := by
    refine z_new K nw_L_7 (by decide) (by decide) d_L_0 ?_
    refine z_dup K d_L_3 rfl ?_
    refine z_callI (As := []) K (g_X_init l G _ _ s.heap.size (g := fun _ => z_junk) bld_0) ca_L_9 im_X_init rfl rfl rfl (by decide) (Nat.le_of_ble_eq_true rfl) d_L_4 (fun r h1 hp => ?_)
    obtain ⟨rfl, rfl⟩ := hp
    refine z_astore_n K d_L_7 (by decide) ?_
    refine z_new K nw_L_10 (by decide) (by decide) d_L_8 ?_
    refine z_dup K d_L_11 rfl ?_
    refine z_callI (As := []) K (r_M_init l G _ _ (s.heap.size + 197) rfl (va_up_self _ _ _)) ca_L_12 im_M_init rfl rfl rfl (by decide) (Nat.le_of_ble_eq_true rfl) d_L_12 (fun r h1 hp => ?_)
    obtain ⟨rfl, T, rfl, hRS⟩ := hp
    refine z_astore_n K d_L_15 (by decide) ?_
    refine z_iconst (v := jI 0) K d_L_16 rfl ?_
    refine z_istore_n K d_L_17 (by decide) ?_
    refine z_re [3, 2, 1, 0] rfl ?_
    refine z_hp hst ?_
    exact law_loop KK hr hlocks 513 0 _ T (by decide) (by omega) (by omega) ⟨vE, _, _, XS_0, hRS, fun _ _ => rfl⟩
  exact main s.heap [] ls ⟨Nat.le_refl _, fun _ _ => rfl⟩ rfl (fun k q hq => by simp [z_W, va_pl, z_L] at hq) va_S.rf hl
