theorem zTb_of {w : Cond} (h : w ∈ tables_1) (g : goodWord w = true) : w ∈ zTb := List.mem_filter.mpr ⟨List.mem_append_right _ h, g⟩
theorem zN_of {w : Cond} (h : w ∈ tables_1) (g : zNk w = true) : w ∈ zN := List.mem_filter.mpr ⟨List.mem_append_right _ h, g⟩
set_option maxRecDepth 20000 in
theorem zTb_sel {q : MethodName × Nat} (h : q ∈ lw_privs) (g : goodWord (Cond.selects q.1.cls q.1 q.1) = true) : Cond.selects q.1.cls q.1 q.1 ∈ zTb := List.mem_filter.mpr ⟨List.mem_append_left _ (List.mem_map.mpr ⟨q, h, rfl⟩), g⟩
theorem tm1 {w : Cond} (h : w ∈ tables_1_1) : w ∈ tables_1 := List.mem_append_left _ h
theorem tm2 {w : Cond} (h : w ∈ tables_1_2) : w ∈ tables_1 := List.mem_append_right _ (List.mem_append_left _ h)
theorem tm3 {w : Cond} (h : w ∈ tables_1_3) : w ∈ tables_1 := List.mem_append_right _ (List.mem_append_right _ (List.mem_append_left _ h))
theorem tm4 {w : Cond} (h : w ∈ tables_1_4) : w ∈ tables_1 := List.mem_append_right _ (List.mem_append_right _ (List.mem_append_right _ h))
theorem ws_M : ∀ w ∈ u_ws R_M F_M 5, w ∈ zTb := fun w hw => by
  obtain ⟨k, hk, rfl⟩ := List.mem_map.mp hw
  have hk2 := List.mem_range.mp hk
  match k, hk2 with
  | 0, _ => exact zTb_of (tm3 (List.mem_of_getElem? (i := 226) rfl)) rfl
  | 1, _ => exact zTb_of (tm3 (List.mem_of_getElem? (i := 228) rfl)) rfl
  | 2, _ => exact zTb_of (tm3 (List.mem_of_getElem? (i := 230) rfl)) rfl
  | 3, _ => exact zTb_of (tm3 (List.mem_of_getElem? (i := 232) rfl)) rfl
  | 4, _ => exact zTb_of (tm3 (List.mem_of_getElem? (i := 234) rfl)) rfl
set_option maxRecDepth 20000 in
theorem zcl_M : zCl 0 R_M F_M 5 t_M := ⟨rfl, by decide, ws_M, t_M_ok, n_M⟩
set_option maxRecDepth 20000 in
theorem ini_M : Cond.initialized R_M ∈ zTb := zTb_of (tm1 (List.mem_of_getElem? (i := 10) rfl)) rfl
theorem ws_N : ∀ w ∈ u_ws R_N F_N 3, w ∈ zTb := fun w hw => by
  obtain ⟨k, hk, rfl⟩ := List.mem_map.mp hw
  have hk2 := List.mem_range.mp hk
  match k, hk2 with
  | 0, _ => exact zTb_of (tm1 (List.mem_of_getElem? (i := 49) rfl)) rfl
  | 1, _ => exact zTb_of (tm1 (List.mem_of_getElem? (i := 51) rfl)) rfl
  | 2, _ => exact zTb_of (tm1 (List.mem_of_getElem? (i := 53) rfl)) rfl
set_option maxRecDepth 20000 in
theorem zcl_N : zCl 1 R_N F_N 3 t_N := ⟨rfl, by decide, ws_N, t_N_ok, n_N⟩
set_option maxRecDepth 20000 in
theorem ini_N : Cond.initialized R_N ∈ zTb := zTb_of (tm1 (List.mem_of_getElem? (i := 3) rfl)) rfl
theorem ws_P : ∀ w ∈ u_ws R_P F_P 6, w ∈ zTb := fun w hw => by
  obtain ⟨k, hk, rfl⟩ := List.mem_map.mp hw
  have hk2 := List.mem_range.mp hk
  match k, hk2 with
  | 0, _ => exact zTb_of (tm2 (List.mem_of_getElem? (i := 62) rfl)) rfl
  | 1, _ => exact zTb_of (tm2 (List.mem_of_getElem? (i := 64) rfl)) rfl
  | 2, _ => exact zTb_of (tm2 (List.mem_of_getElem? (i := 66) rfl)) rfl
  | 3, _ => exact zTb_of (tm2 (List.mem_of_getElem? (i := 68) rfl)) rfl
  | 4, _ => exact zTb_of (tm2 (List.mem_of_getElem? (i := 70) rfl)) rfl
  | 5, _ => exact zTb_of (tm2 (List.mem_of_getElem? (i := 72) rfl)) rfl
set_option maxRecDepth 20000 in
theorem zcl_P : zCl 2 R_P F_P 6 t_P := ⟨rfl, by decide, ws_P, t_P_ok, n_P⟩
set_option maxRecDepth 20000 in
theorem ini_P : Cond.initialized R_P ∈ zTb := zTb_of (tm1 (List.mem_of_getElem? (i := 9) rfl)) rfl
theorem ws_Q : ∀ w ∈ u_ws R_Q F_Q 10, w ∈ zTb := fun w hw => by
  obtain ⟨k, hk, rfl⟩ := List.mem_map.mp hw
  have hk2 := List.mem_range.mp hk
  match k, hk2 with
  | 0, _ => exact zTb_of (tm1 (List.mem_of_getElem? (i := 150) rfl)) rfl
  | 1, _ => exact zTb_of (tm1 (List.mem_of_getElem? (i := 152) rfl)) rfl
  | 2, _ => exact zTb_of (tm1 (List.mem_of_getElem? (i := 154) rfl)) rfl
  | 3, _ => exact zTb_of (tm1 (List.mem_of_getElem? (i := 156) rfl)) rfl
  | 4, _ => exact zTb_of (tm1 (List.mem_of_getElem? (i := 158) rfl)) rfl
  | 5, _ => exact zTb_of (tm1 (List.mem_of_getElem? (i := 160) rfl)) rfl
  | 6, _ => exact zTb_of (tm1 (List.mem_of_getElem? (i := 162) rfl)) rfl
  | 7, _ => exact zTb_of (tm1 (List.mem_of_getElem? (i := 164) rfl)) rfl
  | 8, _ => exact zTb_of (tm1 (List.mem_of_getElem? (i := 166) rfl)) rfl
  | 9, _ => exact zTb_of (tm1 (List.mem_of_getElem? (i := 168) rfl)) rfl
set_option maxRecDepth 20000 in
theorem zcl_Q : zCl 3 R_Q F_Q 10 t_Q := ⟨rfl, by decide, ws_Q, t_Q_ok, n_Q⟩
set_option maxRecDepth 20000 in
theorem ini_Q : Cond.initialized R_Q ∈ zTb := zTb_of (tm1 (List.mem_of_getElem? (i := 6) rfl)) rfl
theorem ws_R : ∀ w ∈ u_ws R_R F_R 5, w ∈ zTb := fun w hw => by
  obtain ⟨k, hk, rfl⟩ := List.mem_map.mp hw
  have hk2 := List.mem_range.mp hk
  match k, hk2 with
  | 0, _ => exact zTb_of (tm1 (List.mem_of_getElem? (i := 63) rfl)) rfl
  | 1, _ => exact zTb_of (tm1 (List.mem_of_getElem? (i := 65) rfl)) rfl
  | 2, _ => exact zTb_of (tm1 (List.mem_of_getElem? (i := 67) rfl)) rfl
  | 3, _ => exact zTb_of (tm1 (List.mem_of_getElem? (i := 69) rfl)) rfl
  | 4, _ => exact zTb_of (tm1 (List.mem_of_getElem? (i := 71) rfl)) rfl
set_option maxRecDepth 20000 in
theorem zcl_R : zCl 4 R_R F_R 5 t_R := ⟨rfl, by decide, ws_R, t_R_ok, n_R⟩
set_option maxRecDepth 20000 in
theorem ini_R : Cond.initialized R_R ∈ zTb := zTb_of (tm1 (List.mem_of_getElem? (i := 2) rfl)) rfl
theorem ws_D : ∀ w ∈ u_ws R_D F_D 10, w ∈ zTb := fun w hw => by
  obtain ⟨k, hk, rfl⟩ := List.mem_map.mp hw
  have hk2 := List.mem_range.mp hk
  match k, hk2 with
  | 0, _ => exact zTb_of (tm1 (List.mem_of_getElem? (i := 98) rfl)) rfl
  | 1, _ => exact zTb_of (tm1 (List.mem_of_getElem? (i := 100) rfl)) rfl
  | 2, _ => exact zTb_of (tm1 (List.mem_of_getElem? (i := 102) rfl)) rfl
  | 3, _ => exact zTb_of (tm1 (List.mem_of_getElem? (i := 104) rfl)) rfl
  | 4, _ => exact zTb_of (tm1 (List.mem_of_getElem? (i := 106) rfl)) rfl
  | 5, _ => exact zTb_of (tm1 (List.mem_of_getElem? (i := 108) rfl)) rfl
  | 6, _ => exact zTb_of (tm1 (List.mem_of_getElem? (i := 110) rfl)) rfl
  | 7, _ => exact zTb_of (tm1 (List.mem_of_getElem? (i := 112) rfl)) rfl
  | 8, _ => exact zTb_of (tm1 (List.mem_of_getElem? (i := 114) rfl)) rfl
  | 9, _ => exact zTb_of (tm1 (List.mem_of_getElem? (i := 116) rfl)) rfl
set_option maxRecDepth 20000 in
theorem zcl_D : zCl 5 R_D F_D 10 t_D := ⟨rfl, by decide, ws_D, t_D_ok, n_D⟩
set_option maxRecDepth 20000 in
theorem ini_D : Cond.initialized R_D ∈ zTb := zTb_of (tm1 (List.mem_of_getElem? (i := 5) rfl)) rfl
theorem ws_E : ∀ w ∈ u_ws R_E F_E 10, w ∈ zTb := fun w hw => by
  obtain ⟨k, hk, rfl⟩ := List.mem_map.mp hw
  have hk2 := List.mem_range.mp hk
  match k, hk2 with
  | 0, _ => exact zTb_of (tm2 (List.mem_of_getElem? (i := 13) rfl)) rfl
  | 1, _ => exact zTb_of (tm2 (List.mem_of_getElem? (i := 15) rfl)) rfl
  | 2, _ => exact zTb_of (tm2 (List.mem_of_getElem? (i := 17) rfl)) rfl
  | 3, _ => exact zTb_of (tm2 (List.mem_of_getElem? (i := 19) rfl)) rfl
  | 4, _ => exact zTb_of (tm2 (List.mem_of_getElem? (i := 21) rfl)) rfl
  | 5, _ => exact zTb_of (tm2 (List.mem_of_getElem? (i := 23) rfl)) rfl
  | 6, _ => exact zTb_of (tm2 (List.mem_of_getElem? (i := 25) rfl)) rfl
  | 7, _ => exact zTb_of (tm2 (List.mem_of_getElem? (i := 27) rfl)) rfl
  | 8, _ => exact zTb_of (tm2 (List.mem_of_getElem? (i := 29) rfl)) rfl
  | 9, _ => exact zTb_of (tm2 (List.mem_of_getElem? (i := 31) rfl)) rfl
set_option maxRecDepth 20000 in
theorem zcl_E : zCl 6 R_E F_E 10 t_E := ⟨rfl, by decide, ws_E, t_E_ok, n_E⟩
set_option maxRecDepth 20000 in
theorem ini_E : Cond.initialized R_E ∈ zTb := zTb_of (tm1 (List.mem_of_getElem? (i := 8) rfl)) rfl
theorem ws_C : ∀ w ∈ u_ws R_C F_C 13, w ∈ zTb := fun w hw => by
  obtain ⟨k, hk, rfl⟩ := List.mem_map.mp hw
  have hk2 := List.mem_range.mp hk
  match k, hk2 with
  | 0, _ => exact zTb_of (tm1 (List.mem_of_getElem? (i := 208) rfl)) rfl
  | 1, _ => exact zTb_of (tm1 (List.mem_of_getElem? (i := 210) rfl)) rfl
  | 2, _ => exact zTb_of (tm1 (List.mem_of_getElem? (i := 212) rfl)) rfl
  | 3, _ => exact zTb_of (tm1 (List.mem_of_getElem? (i := 214) rfl)) rfl
  | 4, _ => exact zTb_of (tm1 (List.mem_of_getElem? (i := 216) rfl)) rfl
  | 5, _ => exact zTb_of (tm1 (List.mem_of_getElem? (i := 218) rfl)) rfl
  | 6, _ => exact zTb_of (tm1 (List.mem_of_getElem? (i := 220) rfl)) rfl
  | 7, _ => exact zTb_of (tm1 (List.mem_of_getElem? (i := 222) rfl)) rfl
  | 8, _ => exact zTb_of (tm1 (List.mem_of_getElem? (i := 224) rfl)) rfl
  | 9, _ => exact zTb_of (tm1 (List.mem_of_getElem? (i := 226) rfl)) rfl
  | 10, _ => exact zTb_of (tm1 (List.mem_of_getElem? (i := 228) rfl)) rfl
  | 11, _ => exact zTb_of (tm1 (List.mem_of_getElem? (i := 230) rfl)) rfl
  | 12, _ => exact zTb_of (tm1 (List.mem_of_getElem? (i := 232) rfl)) rfl
set_option maxRecDepth 20000 in
theorem zcl_C : zCl 7 R_C F_C 13 t_C := ⟨rfl, by decide, ws_C, t_C_ok, n_C⟩
set_option maxRecDepth 20000 in
theorem ini_C : Cond.initialized R_C ∈ zTb := zTb_of (tm1 (List.mem_of_getElem? (i := 7) rfl)) rfl
theorem ws_X : ∀ w ∈ u_ws R_X F_X 7, w ∈ zTb := fun w hw => by
  obtain ⟨k, hk, rfl⟩ := List.mem_map.mp hw
  have hk2 := List.mem_range.mp hk
  match k, hk2 with
  | 0, _ => exact zTb_of (tm2 (List.mem_of_getElem? (i := 83) rfl)) rfl
  | 1, _ => exact zTb_of (tm2 (List.mem_of_getElem? (i := 85) rfl)) rfl
  | 2, _ => exact zTb_of (tm2 (List.mem_of_getElem? (i := 87) rfl)) rfl
  | 3, _ => exact zTb_of (tm2 (List.mem_of_getElem? (i := 89) rfl)) rfl
  | 4, _ => exact zTb_of (tm2 (List.mem_of_getElem? (i := 91) rfl)) rfl
  | 5, _ => exact zTb_of (tm2 (List.mem_of_getElem? (i := 93) rfl)) rfl
  | 6, _ => exact zTb_of (tm2 (List.mem_of_getElem? (i := 95) rfl)) rfl
set_option maxRecDepth 20000 in
theorem zcl_X : zCl 8 R_X F_X 7 t_X := ⟨rfl, by decide, ws_X, t_X_ok, n_X⟩
set_option maxRecDepth 20000 in
theorem ini_X : Cond.initialized R_X ∈ zTb := zTb_of (tm1 (List.mem_of_getElem? (i := 1) rfl)) rfl
set_option maxRecDepth 20000 in
theorem nw_L_7 : zNw R_law 7 8 7 [.null, .null, .null, .null, .null, .null, .null] := ⟨R_X, F_X, t_X, zcl_X, zTb_of (tm1 (List.mem_of_getElem? (i := 12) rfl)) rfl, zTb_of (tm1 (List.mem_of_getElem? (i := 13) rfl)) rfl, ini_X, by decide +kernel⟩
set_option maxRecDepth 20000 in
theorem nw_X_7 : zNw R_X 7 4 5 [.null, .null, .null, .null, .int 0] := ⟨R_R, F_R, t_R, zcl_R, zTb_of (tm1 (List.mem_of_getElem? (i := 20) rfl)) rfl, zTb_of (tm1 (List.mem_of_getElem? (i := 21) rfl)) rfl, ini_R, by decide +kernel⟩
set_option maxRecDepth 20000 in
theorem nw_R_21 : zNw R_R 21 1 3 [.null, .int 0, .int 0] := ⟨R_N, F_N, t_N, zcl_N, zTb_of (tm1 (List.mem_of_getElem? (i := 26) rfl)) rfl, zTb_of (tm1 (List.mem_of_getElem? (i := 27) rfl)) rfl, ini_N, by decide +kernel⟩
set_option maxRecDepth 20000 in
theorem fd_N_15 : zFd R_N 15 1 0 (.array .int) true := ⟨R_N, F_N, 3, t_N, zcl_N, by decide, rfl, rfl, Or.inl (zTb_of (tm1 (List.mem_of_getElem? (i := 35) rfl)) rfl)⟩
set_option maxRecDepth 20000 in
theorem ff_N_15 : zFf R_N 15 1 0 (.array .int) := ⟨R_N, F_N, 3, t_N, zcl_N, by decide, rfl, rfl, rfl, zTb_of (tm1 (List.mem_of_getElem? (i := 35) rfl)) rfl⟩
set_option maxRecDepth 20000 in
theorem fd_R_59 : zFd R_R 59 1 0 (.array .int) true := ⟨R_N, F_N, 3, t_N, zcl_N, by decide, rfl, rfl, Or.inl (zTb_of (tm1 (List.mem_of_getElem? (i := 36) rfl)) rfl)⟩
set_option maxRecDepth 20000 in
theorem fd_D_123 : zFd R_D 123 1 0 (.array .int) true := ⟨R_N, F_N, 3, t_N, zcl_N, by decide, rfl, rfl, Or.inl (zTb_of (tm1 (List.mem_of_getElem? (i := 37) rfl)) rfl)⟩
set_option maxRecDepth 20000 in
theorem fd_X_112 : zFd R_X 112 1 0 (.array .int) true := ⟨R_N, F_N, 3, t_N, zcl_N, by decide, rfl, rfl, Or.inl (zTb_of (tm1 (List.mem_of_getElem? (i := 38) rfl)) rfl)⟩
set_option maxRecDepth 20000 in
theorem fd_N_21 : zFd R_N 21 1 1 (.int) false := ⟨R_N, F_N, 3, t_N, zcl_N, by decide, rfl, rfl, Or.inl (zTb_of (tm1 (List.mem_of_getElem? (i := 39) rfl)) rfl)⟩
set_option maxRecDepth 20000 in
theorem fd_D_57 : zFd R_D 57 1 1 (.int) false := ⟨R_N, F_N, 3, t_N, zcl_N, by decide, rfl, rfl, Or.inl (zTb_of (tm1 (List.mem_of_getElem? (i := 40) rfl)) rfl)⟩
set_option maxRecDepth 20000 in
theorem fd_R_49 : zFd R_R 49 1 1 (.int) false := ⟨R_N, F_N, 3, t_N, zcl_N, by decide, rfl, rfl, Or.inl (zTb_of (tm1 (List.mem_of_getElem? (i := 41) rfl)) rfl)⟩
set_option maxRecDepth 20000 in
theorem fd_X_106 : zFd R_X 106 1 1 (.int) false := ⟨R_N, F_N, 3, t_N, zcl_N, by decide, rfl, rfl, Or.inl (zTb_of (tm1 (List.mem_of_getElem? (i := 42) rfl)) rfl)⟩
set_option maxRecDepth 20000 in
theorem fd_R_30 : zFd R_R 30 1 2 (.boolean) false := ⟨R_N, F_N, 3, t_N, zcl_N, by decide, rfl, rfl, Or.inl (zTb_of (tm1 (List.mem_of_getElem? (i := 43) rfl)) rfl)⟩
set_option maxRecDepth 20000 in
theorem fd_N_25 : zFd R_N 25 1 2 (.boolean) false := ⟨R_N, F_N, 3, t_N, zcl_N, by decide, rfl, rfl, Or.inl (zTb_of (tm1 (List.mem_of_getElem? (i := 44) rfl)) rfl)⟩
set_option maxRecDepth 20000 in
theorem fd_D_45 : zFd R_D 45 1 2 (.boolean) false := ⟨R_N, F_N, 3, t_N, zcl_N, by decide, rfl, rfl, Or.inl (zTb_of (tm1 (List.mem_of_getElem? (i := 45) rfl)) rfl)⟩
set_option maxRecDepth 20000 in
theorem fd_E_98 : zFd R_E 98 1 2 (.boolean) false := ⟨R_N, F_N, 3, t_N, zcl_N, by decide, rfl, rfl, Or.inl (zTb_of (tm1 (List.mem_of_getElem? (i := 46) rfl)) rfl)⟩
set_option maxRecDepth 20000 in
theorem fd_C_187 : zFd R_C 187 1 2 (.boolean) false := ⟨R_N, F_N, 3, t_N, zcl_N, by decide, rfl, rfl, Or.inl (zTb_of (tm1 (List.mem_of_getElem? (i := 47) rfl)) rfl)⟩
set_option maxRecDepth 20000 in
theorem fd_X_140 : zFd R_X 140 1 2 (.boolean) false := ⟨R_N, F_N, 3, t_N, zcl_N, by decide, rfl, rfl, Or.inl (zTb_of (tm1 (List.mem_of_getElem? (i := 48) rfl)) rfl)⟩
set_option maxRecDepth 20000 in
theorem fd_R_9 : zFd R_R 9 4 0 (.array .int) true := ⟨R_R, F_R, 5, t_R, zcl_R, by decide, rfl, rfl, Or.inl (zTb_of (tm1 (List.mem_of_getElem? (i := 57) rfl)) rfl)⟩
set_option maxRecDepth 20000 in
theorem ff_R_9 : zFf R_R 9 4 0 (.array .int) := ⟨R_R, F_R, 5, t_R, zcl_R, by decide, rfl, rfl, rfl, zTb_of (tm1 (List.mem_of_getElem? (i := 57) rfl)) rfl⟩
set_option maxRecDepth 20000 in
theorem fd_R_15 : zFd R_R 15 4 1 (.array .int) true := ⟨R_R, F_R, 5, t_R, zcl_R, by decide, rfl, rfl, Or.inl (zTb_of (tm1 (List.mem_of_getElem? (i := 58) rfl)) rfl)⟩
set_option maxRecDepth 20000 in
theorem ff_R_15 : zFf R_R 15 4 1 (.array .int) := ⟨R_R, F_R, 5, t_R, zcl_R, by decide, rfl, rfl, rfl, zTb_of (tm1 (List.mem_of_getElem? (i := 58) rfl)) rfl⟩
set_option maxRecDepth 20000 in
theorem fd_R_18 : zFd R_R 18 4 2 (.array .int) true := ⟨R_R, F_R, 5, t_R, zcl_R, by decide, rfl, rfl, Or.inl (zTb_of (tm1 (List.mem_of_getElem? (i := 59) rfl)) rfl)⟩
set_option maxRecDepth 20000 in
theorem ff_R_18 : zFf R_R 18 4 2 (.array .int) := ⟨R_R, F_R, 5, t_R, zcl_R, by decide, rfl, rfl, rfl, zTb_of (tm1 (List.mem_of_getElem? (i := 59) rfl)) rfl⟩
set_option maxRecDepth 20000 in
theorem fd_R_26 : zFd R_R 26 4 3 (.object "ChordPoints$Num") true := ⟨R_R, F_R, 5, t_R, zcl_R, by decide, rfl, rfl, Or.inl (zTb_of (tm1 (List.mem_of_getElem? (i := 60) rfl)) rfl)⟩
set_option maxRecDepth 20000 in
theorem ff_R_26 : zFf R_R 26 4 3 (.object "ChordPoints$Num") := ⟨R_R, F_R, 5, t_R, zcl_R, by decide, rfl, rfl, rfl, zTb_of (tm1 (List.mem_of_getElem? (i := 60) rfl)) rfl⟩
set_option maxRecDepth 20000 in
theorem fd_C_101 : zFd R_C 101 4 4 (.boolean) false := ⟨R_R, F_R, 5, t_R, zcl_R, by decide, rfl, rfl, Or.inl (zTb_of (tm1 (List.mem_of_getElem? (i := 61) rfl)) rfl)⟩
set_option maxRecDepth 20000 in
theorem fd_R_118 : zFd R_R 118 4 4 (.boolean) false := ⟨R_R, F_R, 5, t_R, zcl_R, by decide, rfl, rfl, Or.inl (zTb_of (tm1 (List.mem_of_getElem? (i := 62) rfl)) rfl)⟩
set_option maxRecDepth 20000 in
theorem nw_X_10 : zNw R_X 10 5 10 [.null, .null, .null, .null, .null, .null, .long 0, .long 0, .long 0, .long 0] := ⟨R_D, F_D, t_D, zcl_D, zTb_of (tm1 (List.mem_of_getElem? (i := 74) rfl)) rfl, zTb_of (tm1 (List.mem_of_getElem? (i := 75) rfl)) rfl, ini_D, by decide +kernel⟩
set_option maxRecDepth 20000 in
theorem nw_D_9 : zNw R_D 9 1 3 [.null, .int 0, .int 0] := ⟨R_N, F_N, t_N, zcl_N, zTb_of (tm1 (List.mem_of_getElem? (i := 80) rfl)) rfl, zTb_of (tm1 (List.mem_of_getElem? (i := 27) rfl)) rfl, ini_N, by decide +kernel⟩
set_option maxRecDepth 20000 in
theorem kc_D_36 : Cond.constantLong R_D 36 (2) ∈ zTb := zTb_of (tm1 (List.mem_of_getElem? (i := 82) rfl)) rfl
set_option maxRecDepth 20000 in
theorem kc_N_29 : Cond.constantLong R_N 29 (1000000000) ∈ zTb := zTb_of (tm1 (List.mem_of_getElem? (i := 87) rfl)) rfl
set_option maxRecDepth 20000 in
theorem fd_D_32 : zFd R_D 32 5 0 (.object "ChordPoints$Reckoner") true := ⟨R_D, F_D, 10, t_D, zcl_D, by decide, rfl, rfl, Or.inl (zTb_of (tm1 (List.mem_of_getElem? (i := 88) rfl)) rfl)⟩
set_option maxRecDepth 20000 in
theorem ff_D_32 : zFf R_D 32 5 0 (.object "ChordPoints$Reckoner") := ⟨R_D, F_D, 10, t_D, zcl_D, by decide, rfl, rfl, rfl, zTb_of (tm1 (List.mem_of_getElem? (i := 88) rfl)) rfl⟩
set_option maxRecDepth 20000 in
theorem fd_D_14 : zFd R_D 14 5 1 (.object "ChordPoints$Num") true := ⟨R_D, F_D, 10, t_D, zcl_D, by decide, rfl, rfl, Or.inl (zTb_of (tm1 (List.mem_of_getElem? (i := 89) rfl)) rfl)⟩
set_option maxRecDepth 20000 in
theorem ff_D_14 : zFf R_D 14 5 1 (.object "ChordPoints$Num") := ⟨R_D, F_D, 10, t_D, zcl_D, by decide, rfl, rfl, rfl, zTb_of (tm1 (List.mem_of_getElem? (i := 89) rfl)) rfl⟩
set_option maxRecDepth 20000 in
theorem fd_D_20 : zFd R_D 20 5 2 (.object "ChordPoints$Num") true := ⟨R_D, F_D, 10, t_D, zcl_D, by decide, rfl, rfl, Or.inl (zTb_of (tm1 (List.mem_of_getElem? (i := 90) rfl)) rfl)⟩
set_option maxRecDepth 20000 in
theorem ff_D_20 : zFf R_D 20 5 2 (.object "ChordPoints$Num") := ⟨R_D, F_D, 10, t_D, zcl_D, by decide, rfl, rfl, rfl, zTb_of (tm1 (List.mem_of_getElem? (i := 90) rfl)) rfl⟩
set_option maxRecDepth 20000 in
theorem fd_D_23 : zFd R_D 23 5 3 (.object "ChordPoints$Num") false := ⟨R_D, F_D, 10, t_D, zcl_D, by decide, rfl, rfl, Or.inl (zTb_of (tm1 (List.mem_of_getElem? (i := 91) rfl)) rfl)⟩
set_option maxRecDepth 20000 in
theorem fd_D_26 : zFd R_D 26 5 4 (.object "ChordPoints$Num") false := ⟨R_D, F_D, 10, t_D, zcl_D, by decide, rfl, rfl, Or.inl (zTb_of (tm1 (List.mem_of_getElem? (i := 92) rfl)) rfl)⟩
set_option maxRecDepth 20000 in
theorem fd_D_29 : zFd R_D 29 5 5 (.object "ChordPoints$Num") false := ⟨R_D, F_D, 10, t_D, zcl_D, by decide, rfl, rfl, Or.inl (zTb_of (tm1 (List.mem_of_getElem? (i := 93) rfl)) rfl)⟩
set_option maxRecDepth 20000 in
theorem fd_D_96 : zFd R_D 96 5 6 (.long) false := ⟨R_D, F_D, 10, t_D, zcl_D, by decide, rfl, rfl, Or.inl (zTb_of (tm1 (List.mem_of_getElem? (i := 94) rfl)) rfl)⟩
set_option maxRecDepth 20000 in
theorem fd_D_100 : zFd R_D 100 5 7 (.long) false := ⟨R_D, F_D, 10, t_D, zcl_D, by decide, rfl, rfl, Or.inl (zTb_of (tm1 (List.mem_of_getElem? (i := 95) rfl)) rfl)⟩
set_option maxRecDepth 20000 in
theorem fd_D_103 : zFd R_D 103 5 8 (.long) false := ⟨R_D, F_D, 10, t_D, zcl_D, by decide, rfl, rfl, Or.inl (zTb_of (tm1 (List.mem_of_getElem? (i := 96) rfl)) rfl)⟩
set_option maxRecDepth 20000 in
theorem fd_D_106 : zFd R_D 106 5 9 (.long) false := ⟨R_D, F_D, 10, t_D, zcl_D, by decide, rfl, rfl, Or.inl (zTb_of (tm1 (List.mem_of_getElem? (i := 97) rfl)) rfl)⟩
set_option maxRecDepth 20000 in
theorem nw_X_15 : zNw R_X 15 3 10 [.null, .null, .null, .null, .null, .null, .null, .null, .null, .null] := ⟨R_Q, F_Q, t_Q, zcl_Q, zTb_of (tm1 (List.mem_of_getElem? (i := 119) rfl)) rfl, zTb_of (tm1 (List.mem_of_getElem? (i := 120) rfl)) rfl, ini_Q, by decide +kernel⟩
set_option maxRecDepth 20000 in
theorem nw_Q_9 : zNw R_Q 9 1 3 [.null, .int 0, .int 0] := ⟨R_N, F_N, t_N, zcl_N, zTb_of (tm1 (List.mem_of_getElem? (i := 125) rfl)) rfl, zTb_of (tm1 (List.mem_of_getElem? (i := 27) rfl)) rfl, ini_N, by decide +kernel⟩
set_option maxRecDepth 20000 in
theorem fd_Q_14 : zFd R_Q 14 3 0 (.object "ChordPoints$Num") true := ⟨R_Q, F_Q, 10, t_Q, zcl_Q, by decide, rfl, rfl, Or.inl (zTb_of (tm1 (List.mem_of_getElem? (i := 127) rfl)) rfl)⟩
set_option maxRecDepth 20000 in
theorem ff_Q_14 : zFf R_Q 14 3 0 (.object "ChordPoints$Num") := ⟨R_Q, F_Q, 10, t_Q, zcl_Q, by decide, rfl, rfl, rfl, zTb_of (tm1 (List.mem_of_getElem? (i := 127) rfl)) rfl⟩
set_option maxRecDepth 20000 in
theorem fd_C_77 : zFd R_C 77 3 0 (.object "ChordPoints$Num") true := ⟨R_Q, F_Q, 10, t_Q, zcl_Q, by decide, rfl, rfl, Or.inl (zTb_of (tm1 (List.mem_of_getElem? (i := 128) rfl)) rfl)⟩
set_option maxRecDepth 20000 in
theorem fd_E_107 : zFd R_E 107 3 0 (.object "ChordPoints$Num") true := ⟨R_Q, F_Q, 10, t_Q, zcl_Q, by decide, rfl, rfl, Or.inl (zTb_of (tm1 (List.mem_of_getElem? (i := 129) rfl)) rfl)⟩
set_option maxRecDepth 20000 in
theorem fd_Q_20 : zFd R_Q 20 3 1 (.object "ChordPoints$Num") true := ⟨R_Q, F_Q, 10, t_Q, zcl_Q, by decide, rfl, rfl, Or.inl (zTb_of (tm1 (List.mem_of_getElem? (i := 130) rfl)) rfl)⟩
set_option maxRecDepth 20000 in
theorem ff_Q_20 : zFf R_Q 20 3 1 (.object "ChordPoints$Num") := ⟨R_Q, F_Q, 10, t_Q, zcl_Q, by decide, rfl, rfl, rfl, zTb_of (tm1 (List.mem_of_getElem? (i := 130) rfl)) rfl⟩
set_option maxRecDepth 20000 in
theorem fd_E_124 : zFd R_E 124 3 1 (.object "ChordPoints$Num") true := ⟨R_Q, F_Q, 10, t_Q, zcl_Q, by decide, rfl, rfl, Or.inl (zTb_of (tm1 (List.mem_of_getElem? (i := 131) rfl)) rfl)⟩
set_option maxRecDepth 20000 in
theorem fd_Q_23 : zFd R_Q 23 3 2 (.object "ChordPoints$Num") true := ⟨R_Q, F_Q, 10, t_Q, zcl_Q, by decide, rfl, rfl, Or.inl (zTb_of (tm1 (List.mem_of_getElem? (i := 132) rfl)) rfl)⟩
set_option maxRecDepth 20000 in
theorem ff_Q_23 : zFf R_Q 23 3 2 (.object "ChordPoints$Num") := ⟨R_Q, F_Q, 10, t_Q, zcl_Q, by decide, rfl, rfl, rfl, zTb_of (tm1 (List.mem_of_getElem? (i := 132) rfl)) rfl⟩
set_option maxRecDepth 20000 in
theorem fd_C_88 : zFd R_C 88 3 2 (.object "ChordPoints$Num") true := ⟨R_Q, F_Q, 10, t_Q, zcl_Q, by decide, rfl, rfl, Or.inl (zTb_of (tm1 (List.mem_of_getElem? (i := 133) rfl)) rfl)⟩
set_option maxRecDepth 20000 in
theorem fd_E_115 : zFd R_E 115 3 2 (.object "ChordPoints$Num") true := ⟨R_Q, F_Q, 10, t_Q, zcl_Q, by decide, rfl, rfl, Or.inl (zTb_of (tm1 (List.mem_of_getElem? (i := 134) rfl)) rfl)⟩
set_option maxRecDepth 20000 in
theorem fd_Q_26 : zFd R_Q 26 3 3 (.object "ChordPoints$Num") true := ⟨R_Q, F_Q, 10, t_Q, zcl_Q, by decide, rfl, rfl, Or.inl (zTb_of (tm1 (List.mem_of_getElem? (i := 135) rfl)) rfl)⟩
set_option maxRecDepth 20000 in
theorem ff_Q_26 : zFf R_Q 26 3 3 (.object "ChordPoints$Num") := ⟨R_Q, F_Q, 10, t_Q, zcl_Q, by decide, rfl, rfl, rfl, zTb_of (tm1 (List.mem_of_getElem? (i := 135) rfl)) rfl⟩
set_option maxRecDepth 20000 in
theorem fd_E_118 : zFd R_E 118 3 3 (.object "ChordPoints$Num") true := ⟨R_Q, F_Q, 10, t_Q, zcl_Q, by decide, rfl, rfl, Or.inl (zTb_of (tm1 (List.mem_of_getElem? (i := 136) rfl)) rfl)⟩
set_option maxRecDepth 20000 in
theorem fd_C_153 : zFd R_C 153 3 3 (.object "ChordPoints$Num") true := ⟨R_Q, F_Q, 10, t_Q, zcl_Q, by decide, rfl, rfl, Or.inl (zTb_of (tm1 (List.mem_of_getElem? (i := 137) rfl)) rfl)⟩
set_option maxRecDepth 20000 in
theorem fd_Q_29 : zFd R_Q 29 3 4 (.object "ChordPoints$Num") true := ⟨R_Q, F_Q, 10, t_Q, zcl_Q, by decide, rfl, rfl, Or.inl (zTb_of (tm1 (List.mem_of_getElem? (i := 138) rfl)) rfl)⟩
set_option maxRecDepth 20000 in
theorem ff_Q_29 : zFf R_Q 29 3 4 (.object "ChordPoints$Num") := ⟨R_Q, F_Q, 10, t_Q, zcl_Q, by decide, rfl, rfl, rfl, zTb_of (tm1 (List.mem_of_getElem? (i := 138) rfl)) rfl⟩
set_option maxRecDepth 20000 in
theorem fd_E_121 : zFd R_E 121 3 4 (.object "ChordPoints$Num") true := ⟨R_Q, F_Q, 10, t_Q, zcl_Q, by decide, rfl, rfl, Or.inl (zTb_of (tm1 (List.mem_of_getElem? (i := 139) rfl)) rfl)⟩
set_option maxRecDepth 20000 in
theorem fd_Q_32 : zFd R_Q 32 3 5 (.object "ChordPoints$Num") true := ⟨R_Q, F_Q, 10, t_Q, zcl_Q, by decide, rfl, rfl, Or.inl (zTb_of (tm1 (List.mem_of_getElem? (i := 140) rfl)) rfl)⟩
set_option maxRecDepth 20000 in
theorem ff_Q_32 : zFf R_Q 32 3 5 (.object "ChordPoints$Num") := ⟨R_Q, F_Q, 10, t_Q, zcl_Q, by decide, rfl, rfl, rfl, zTb_of (tm1 (List.mem_of_getElem? (i := 140) rfl)) rfl⟩
set_option maxRecDepth 20000 in
theorem fd_C_150 : zFd R_C 150 3 5 (.object "ChordPoints$Num") true := ⟨R_Q, F_Q, 10, t_Q, zcl_Q, by decide, rfl, rfl, Or.inl (zTb_of (tm1 (List.mem_of_getElem? (i := 141) rfl)) rfl)⟩
set_option maxRecDepth 20000 in
theorem fd_Q_35 : zFd R_Q 35 3 6 (.object "ChordPoints$Num") true := ⟨R_Q, F_Q, 10, t_Q, zcl_Q, by decide, rfl, rfl, Or.inl (zTb_of (tm1 (List.mem_of_getElem? (i := 142) rfl)) rfl)⟩
set_option maxRecDepth 20000 in
theorem ff_Q_35 : zFf R_Q 35 3 6 (.object "ChordPoints$Num") := ⟨R_Q, F_Q, 10, t_Q, zcl_Q, by decide, rfl, rfl, rfl, zTb_of (tm1 (List.mem_of_getElem? (i := 142) rfl)) rfl⟩
set_option maxRecDepth 20000 in
theorem fd_C_156 : zFd R_C 156 3 6 (.object "ChordPoints$Num") true := ⟨R_Q, F_Q, 10, t_Q, zcl_Q, by decide, rfl, rfl, Or.inl (zTb_of (tm1 (List.mem_of_getElem? (i := 143) rfl)) rfl)⟩
set_option maxRecDepth 20000 in
theorem fd_Q_38 : zFd R_Q 38 3 7 (.object "ChordPoints$Num") true := ⟨R_Q, F_Q, 10, t_Q, zcl_Q, by decide, rfl, rfl, Or.inl (zTb_of (tm1 (List.mem_of_getElem? (i := 144) rfl)) rfl)⟩
set_option maxRecDepth 20000 in
theorem ff_Q_38 : zFf R_Q 38 3 7 (.object "ChordPoints$Num") := ⟨R_Q, F_Q, 10, t_Q, zcl_Q, by decide, rfl, rfl, rfl, zTb_of (tm1 (List.mem_of_getElem? (i := 144) rfl)) rfl⟩
set_option maxRecDepth 20000 in
theorem fd_C_165 : zFd R_C 165 3 7 (.object "ChordPoints$Num") true := ⟨R_Q, F_Q, 10, t_Q, zcl_Q, by decide, rfl, rfl, Or.inl (zTb_of (tm1 (List.mem_of_getElem? (i := 145) rfl)) rfl)⟩
set_option maxRecDepth 20000 in
theorem fd_Q_41 : zFd R_Q 41 3 8 (.object "ChordPoints$Num") true := ⟨R_Q, F_Q, 10, t_Q, zcl_Q, by decide, rfl, rfl, Or.inl (zTb_of (tm1 (List.mem_of_getElem? (i := 146) rfl)) rfl)⟩
set_option maxRecDepth 20000 in
theorem ff_Q_41 : zFf R_Q 41 3 8 (.object "ChordPoints$Num") := ⟨R_Q, F_Q, 10, t_Q, zcl_Q, by decide, rfl, rfl, rfl, zTb_of (tm1 (List.mem_of_getElem? (i := 146) rfl)) rfl⟩
set_option maxRecDepth 20000 in
theorem fd_C_159 : zFd R_C 159 3 8 (.object "ChordPoints$Num") true := ⟨R_Q, F_Q, 10, t_Q, zcl_Q, by decide, rfl, rfl, Or.inl (zTb_of (tm1 (List.mem_of_getElem? (i := 147) rfl)) rfl)⟩
set_option maxRecDepth 20000 in
theorem fd_Q_44 : zFd R_Q 44 3 9 (.object "ChordPoints$Num") true := ⟨R_Q, F_Q, 10, t_Q, zcl_Q, by decide, rfl, rfl, Or.inl (zTb_of (tm1 (List.mem_of_getElem? (i := 148) rfl)) rfl)⟩
set_option maxRecDepth 20000 in
theorem ff_Q_44 : zFf R_Q 44 3 9 (.object "ChordPoints$Num") := ⟨R_Q, F_Q, 10, t_Q, zcl_Q, by decide, rfl, rfl, rfl, zTb_of (tm1 (List.mem_of_getElem? (i := 148) rfl)) rfl⟩
set_option maxRecDepth 20000 in
theorem fd_C_162 : zFd R_C 162 3 9 (.object "ChordPoints$Num") true := ⟨R_Q, F_Q, 10, t_Q, zcl_Q, by decide, rfl, rfl, Or.inl (zTb_of (tm1 (List.mem_of_getElem? (i := 149) rfl)) rfl)⟩
set_option maxRecDepth 20000 in
theorem kc_Q_51 : Cond.constantLong R_Q 51 (2) ∈ zTb := zTb_of (tm1 (List.mem_of_getElem? (i := 176) rfl)) rfl
set_option maxRecDepth 20000 in
theorem kc_Q_63 : Cond.constantLong R_Q 63 (4) ∈ zTb := zTb_of (tm1 (List.mem_of_getElem? (i := 183) rfl)) rfl
set_option maxRecDepth 20000 in
theorem nw_X_28 : zNw R_X 28 7 13 [.null, .null, .null, .null, .null, .null, .null, .null, .null, .null, .null, .null, .null] := ⟨R_C, F_C, t_C, zcl_C, zTb_of (tm1 (List.mem_of_getElem? (i := 187) rfl)) rfl, zTb_of (tm1 (List.mem_of_getElem? (i := 188) rfl)) rfl, ini_C, by decide +kernel⟩
set_option maxRecDepth 20000 in
theorem nw_C_9 : zNw R_C 9 1 3 [.null, .int 0, .int 0] := ⟨R_N, F_N, t_N, zcl_N, zTb_of (tm1 (List.mem_of_getElem? (i := 193) rfl)) rfl, zTb_of (tm1 (List.mem_of_getElem? (i := 27) rfl)) rfl, ini_N, by decide +kernel⟩
set_option maxRecDepth 20000 in
theorem fd_C_47 : zFd R_C 47 7 0 (.object "ChordPoints$Equation") true := ⟨R_C, F_C, 13, t_C, zcl_C, by decide, rfl, rfl, Or.inl (zTb_of (tm1 (List.mem_of_getElem? (i := 195) rfl)) rfl)⟩
set_option maxRecDepth 20000 in
theorem ff_C_47 : zFf R_C 47 7 0 (.object "ChordPoints$Equation") := ⟨R_C, F_C, 13, t_C, zcl_C, by decide, rfl, rfl, rfl, zTb_of (tm1 (List.mem_of_getElem? (i := 195) rfl)) rfl⟩
set_option maxRecDepth 20000 in
theorem fd_C_51 : zFd R_C 51 7 1 (.object "ChordPoints$Reckoner") true := ⟨R_C, F_C, 13, t_C, zcl_C, by decide, rfl, rfl, Or.inl (zTb_of (tm1 (List.mem_of_getElem? (i := 196) rfl)) rfl)⟩
set_option maxRecDepth 20000 in
theorem ff_C_51 : zFf R_C 51 7 1 (.object "ChordPoints$Reckoner") := ⟨R_C, F_C, 13, t_C, zcl_C, by decide, rfl, rfl, rfl, zTb_of (tm1 (List.mem_of_getElem? (i := 196) rfl)) rfl⟩
set_option maxRecDepth 20000 in
theorem fd_C_55 : zFd R_C 55 7 2 (.object "ChordPoints$Divisors") true := ⟨R_C, F_C, 13, t_C, zcl_C, by decide, rfl, rfl, Or.inl (zTb_of (tm1 (List.mem_of_getElem? (i := 197) rfl)) rfl)⟩
set_option maxRecDepth 20000 in
theorem ff_C_55 : zFf R_C 55 7 2 (.object "ChordPoints$Divisors") := ⟨R_C, F_C, 13, t_C, zcl_C, by decide, rfl, rfl, rfl, zTb_of (tm1 (List.mem_of_getElem? (i := 197) rfl)) rfl⟩
set_option maxRecDepth 20000 in
theorem fd_C_14 : zFd R_C 14 7 3 (.object "ChordPoints$Num") true := ⟨R_C, F_C, 13, t_C, zcl_C, by decide, rfl, rfl, Or.inl (zTb_of (tm1 (List.mem_of_getElem? (i := 198) rfl)) rfl)⟩
set_option maxRecDepth 20000 in
theorem ff_C_14 : zFf R_C 14 7 3 (.object "ChordPoints$Num") := ⟨R_C, F_C, 13, t_C, zcl_C, by decide, rfl, rfl, rfl, zTb_of (tm1 (List.mem_of_getElem? (i := 198) rfl)) rfl⟩
set_option maxRecDepth 20000 in
theorem fd_C_20 : zFd R_C 20 7 4 (.object "ChordPoints$Num") true := ⟨R_C, F_C, 13, t_C, zcl_C, by decide, rfl, rfl, Or.inl (zTb_of (tm1 (List.mem_of_getElem? (i := 199) rfl)) rfl)⟩
set_option maxRecDepth 20000 in
theorem ff_C_20 : zFf R_C 20 7 4 (.object "ChordPoints$Num") := ⟨R_C, F_C, 13, t_C, zcl_C, by decide, rfl, rfl, rfl, zTb_of (tm1 (List.mem_of_getElem? (i := 199) rfl)) rfl⟩
set_option maxRecDepth 20000 in
theorem fd_C_23 : zFd R_C 23 7 5 (.object "ChordPoints$Num") true := ⟨R_C, F_C, 13, t_C, zcl_C, by decide, rfl, rfl, Or.inl (zTb_of (tm1 (List.mem_of_getElem? (i := 200) rfl)) rfl)⟩
set_option maxRecDepth 20000 in
theorem ff_C_23 : zFf R_C 23 7 5 (.object "ChordPoints$Num") := ⟨R_C, F_C, 13, t_C, zcl_C, by decide, rfl, rfl, rfl, zTb_of (tm1 (List.mem_of_getElem? (i := 200) rfl)) rfl⟩
set_option maxRecDepth 20000 in
theorem fd_C_26 : zFd R_C 26 7 6 (.object "ChordPoints$Num") true := ⟨R_C, F_C, 13, t_C, zcl_C, by decide, rfl, rfl, Or.inl (zTb_of (tm1 (List.mem_of_getElem? (i := 201) rfl)) rfl)⟩
set_option maxRecDepth 20000 in
theorem ff_C_26 : zFf R_C 26 7 6 (.object "ChordPoints$Num") := ⟨R_C, F_C, 13, t_C, zcl_C, by decide, rfl, rfl, rfl, zTb_of (tm1 (List.mem_of_getElem? (i := 201) rfl)) rfl⟩
set_option maxRecDepth 20000 in
theorem fd_C_29 : zFd R_C 29 7 7 (.object "ChordPoints$Num") true := ⟨R_C, F_C, 13, t_C, zcl_C, by decide, rfl, rfl, Or.inl (zTb_of (tm1 (List.mem_of_getElem? (i := 202) rfl)) rfl)⟩
set_option maxRecDepth 20000 in
theorem ff_C_29 : zFf R_C 29 7 7 (.object "ChordPoints$Num") := ⟨R_C, F_C, 13, t_C, zcl_C, by decide, rfl, rfl, rfl, zTb_of (tm1 (List.mem_of_getElem? (i := 202) rfl)) rfl⟩
set_option maxRecDepth 20000 in
theorem fd_C_32 : zFd R_C 32 7 8 (.object "ChordPoints$Num") true := ⟨R_C, F_C, 13, t_C, zcl_C, by decide, rfl, rfl, Or.inl (zTb_of (tm1 (List.mem_of_getElem? (i := 203) rfl)) rfl)⟩
set_option maxRecDepth 20000 in
theorem ff_C_32 : zFf R_C 32 7 8 (.object "ChordPoints$Num") := ⟨R_C, F_C, 13, t_C, zcl_C, by decide, rfl, rfl, rfl, zTb_of (tm1 (List.mem_of_getElem? (i := 203) rfl)) rfl⟩
set_option maxRecDepth 20000 in
theorem fd_C_35 : zFd R_C 35 7 9 (.object "ChordPoints$Num") true := ⟨R_C, F_C, 13, t_C, zcl_C, by decide, rfl, rfl, Or.inl (zTb_of (tm1 (List.mem_of_getElem? (i := 204) rfl)) rfl)⟩
set_option maxRecDepth 20000 in
theorem ff_C_35 : zFf R_C 35 7 9 (.object "ChordPoints$Num") := ⟨R_C, F_C, 13, t_C, zcl_C, by decide, rfl, rfl, rfl, zTb_of (tm1 (List.mem_of_getElem? (i := 204) rfl)) rfl⟩
set_option maxRecDepth 20000 in
theorem fd_C_38 : zFd R_C 38 7 10 (.object "ChordPoints$Num") true := ⟨R_C, F_C, 13, t_C, zcl_C, by decide, rfl, rfl, Or.inl (zTb_of (tm1 (List.mem_of_getElem? (i := 205) rfl)) rfl)⟩
set_option maxRecDepth 20000 in
theorem ff_C_38 : zFf R_C 38 7 10 (.object "ChordPoints$Num") := ⟨R_C, F_C, 13, t_C, zcl_C, by decide, rfl, rfl, rfl, zTb_of (tm1 (List.mem_of_getElem? (i := 205) rfl)) rfl⟩
set_option maxRecDepth 20000 in
theorem fd_C_41 : zFd R_C 41 7 11 (.object "ChordPoints$Num") true := ⟨R_C, F_C, 13, t_C, zcl_C, by decide, rfl, rfl, Or.inl (zTb_of (tm1 (List.mem_of_getElem? (i := 206) rfl)) rfl)⟩
set_option maxRecDepth 20000 in
theorem ff_C_41 : zFf R_C 41 7 11 (.object "ChordPoints$Num") := ⟨R_C, F_C, 13, t_C, zcl_C, by decide, rfl, rfl, rfl, zTb_of (tm1 (List.mem_of_getElem? (i := 206) rfl)) rfl⟩
set_option maxRecDepth 20000 in
theorem fd_C_44 : zFd R_C 44 7 12 (.object "ChordPoints$Num") true := ⟨R_C, F_C, 13, t_C, zcl_C, by decide, rfl, rfl, Or.inl (zTb_of (tm1 (List.mem_of_getElem? (i := 207) rfl)) rfl)⟩
set_option maxRecDepth 20000 in
theorem ff_C_44 : zFf R_C 44 7 12 (.object "ChordPoints$Num") := ⟨R_C, F_C, 13, t_C, zcl_C, by decide, rfl, rfl, rfl, zTb_of (tm1 (List.mem_of_getElem? (i := 207) rfl)) rfl⟩
set_option maxRecDepth 20000 in
theorem nw_X_37 : zNw R_X 37 6 10 [.null, .null, .null, .null, .null, .null, .null, .null, .null, .null] := ⟨R_E, F_E, t_E, zcl_E, zTb_of (tm1 (List.mem_of_getElem? (i := 235) rfl)) rfl, zTb_of (tm1 (List.mem_of_getElem? (i := 236) rfl)) rfl, ini_E, by decide +kernel⟩
set_option maxRecDepth 20000 in
theorem nw_E_9 : zNw R_E 9 1 3 [.null, .int 0, .int 0] := ⟨R_N, F_N, t_N, zcl_N, zTb_of (tm2 (List.mem_of_getElem? (i := 1) rfl)) rfl, zTb_of (tm1 (List.mem_of_getElem? (i := 27) rfl)) rfl, ini_N, by decide +kernel⟩
set_option maxRecDepth 20000 in
theorem fd_E_38 : zFd R_E 38 6 0 (.object "ChordPoints$Equation") true := ⟨R_E, F_E, 10, t_E, zcl_E, by decide, rfl, rfl, Or.inl (zTb_of (tm2 (List.mem_of_getElem? (i := 3) rfl)) rfl)⟩
set_option maxRecDepth 20000 in
theorem ff_E_38 : zFf R_E 38 6 0 (.object "ChordPoints$Equation") := ⟨R_E, F_E, 10, t_E, zcl_E, by decide, rfl, rfl, rfl, zTb_of (tm2 (List.mem_of_getElem? (i := 3) rfl)) rfl⟩
set_option maxRecDepth 20000 in
theorem fd_E_42 : zFd R_E 42 6 1 (.object "ChordPoints$Reckoner") true := ⟨R_E, F_E, 10, t_E, zcl_E, by decide, rfl, rfl, Or.inl (zTb_of (tm2 (List.mem_of_getElem? (i := 4) rfl)) rfl)⟩
set_option maxRecDepth 20000 in
theorem ff_E_42 : zFf R_E 42 6 1 (.object "ChordPoints$Reckoner") := ⟨R_E, F_E, 10, t_E, zcl_E, by decide, rfl, rfl, rfl, zTb_of (tm2 (List.mem_of_getElem? (i := 4) rfl)) rfl⟩
set_option maxRecDepth 20000 in
theorem fd_E_46 : zFd R_E 46 6 2 (.object "ChordPoints$Divisors") true := ⟨R_E, F_E, 10, t_E, zcl_E, by decide, rfl, rfl, Or.inl (zTb_of (tm2 (List.mem_of_getElem? (i := 5) rfl)) rfl)⟩
set_option maxRecDepth 20000 in
theorem ff_E_46 : zFf R_E 46 6 2 (.object "ChordPoints$Divisors") := ⟨R_E, F_E, 10, t_E, zcl_E, by decide, rfl, rfl, rfl, zTb_of (tm2 (List.mem_of_getElem? (i := 5) rfl)) rfl⟩
set_option maxRecDepth 20000 in
theorem fd_E_14 : zFd R_E 14 6 3 (.object "ChordPoints$Num") true := ⟨R_E, F_E, 10, t_E, zcl_E, by decide, rfl, rfl, Or.inl (zTb_of (tm2 (List.mem_of_getElem? (i := 6) rfl)) rfl)⟩
set_option maxRecDepth 20000 in
theorem ff_E_14 : zFf R_E 14 6 3 (.object "ChordPoints$Num") := ⟨R_E, F_E, 10, t_E, zcl_E, by decide, rfl, rfl, rfl, zTb_of (tm2 (List.mem_of_getElem? (i := 6) rfl)) rfl⟩
set_option maxRecDepth 20000 in
theorem fd_E_20 : zFd R_E 20 6 4 (.object "ChordPoints$Num") true := ⟨R_E, F_E, 10, t_E, zcl_E, by decide, rfl, rfl, Or.inl (zTb_of (tm2 (List.mem_of_getElem? (i := 7) rfl)) rfl)⟩
set_option maxRecDepth 20000 in
theorem ff_E_20 : zFf R_E 20 6 4 (.object "ChordPoints$Num") := ⟨R_E, F_E, 10, t_E, zcl_E, by decide, rfl, rfl, rfl, zTb_of (tm2 (List.mem_of_getElem? (i := 7) rfl)) rfl⟩
set_option maxRecDepth 20000 in
theorem fd_E_23 : zFd R_E 23 6 5 (.object "ChordPoints$Num") true := ⟨R_E, F_E, 10, t_E, zcl_E, by decide, rfl, rfl, Or.inl (zTb_of (tm2 (List.mem_of_getElem? (i := 8) rfl)) rfl)⟩
set_option maxRecDepth 20000 in
theorem ff_E_23 : zFf R_E 23 6 5 (.object "ChordPoints$Num") := ⟨R_E, F_E, 10, t_E, zcl_E, by decide, rfl, rfl, rfl, zTb_of (tm2 (List.mem_of_getElem? (i := 8) rfl)) rfl⟩
set_option maxRecDepth 20000 in
theorem fd_E_26 : zFd R_E 26 6 6 (.object "ChordPoints$Num") true := ⟨R_E, F_E, 10, t_E, zcl_E, by decide, rfl, rfl, Or.inl (zTb_of (tm2 (List.mem_of_getElem? (i := 9) rfl)) rfl)⟩
set_option maxRecDepth 20000 in
theorem ff_E_26 : zFf R_E 26 6 6 (.object "ChordPoints$Num") := ⟨R_E, F_E, 10, t_E, zcl_E, by decide, rfl, rfl, rfl, zTb_of (tm2 (List.mem_of_getElem? (i := 9) rfl)) rfl⟩
set_option maxRecDepth 20000 in
theorem fd_E_29 : zFd R_E 29 6 7 (.object "ChordPoints$Num") true := ⟨R_E, F_E, 10, t_E, zcl_E, by decide, rfl, rfl, Or.inl (zTb_of (tm2 (List.mem_of_getElem? (i := 10) rfl)) rfl)⟩
set_option maxRecDepth 20000 in
theorem ff_E_29 : zFf R_E 29 6 7 (.object "ChordPoints$Num") := ⟨R_E, F_E, 10, t_E, zcl_E, by decide, rfl, rfl, rfl, zTb_of (tm2 (List.mem_of_getElem? (i := 10) rfl)) rfl⟩
set_option maxRecDepth 20000 in
theorem fd_E_32 : zFd R_E 32 6 8 (.object "ChordPoints$Num") true := ⟨R_E, F_E, 10, t_E, zcl_E, by decide, rfl, rfl, Or.inl (zTb_of (tm2 (List.mem_of_getElem? (i := 11) rfl)) rfl)⟩
set_option maxRecDepth 20000 in
theorem ff_E_32 : zFf R_E 32 6 8 (.object "ChordPoints$Num") := ⟨R_E, F_E, 10, t_E, zcl_E, by decide, rfl, rfl, rfl, zTb_of (tm2 (List.mem_of_getElem? (i := 11) rfl)) rfl⟩
set_option maxRecDepth 20000 in
theorem fd_E_35 : zFd R_E 35 6 9 (.object "ChordPoints$Num") true := ⟨R_E, F_E, 10, t_E, zcl_E, by decide, rfl, rfl, Or.inl (zTb_of (tm2 (List.mem_of_getElem? (i := 12) rfl)) rfl)⟩
set_option maxRecDepth 20000 in
theorem ff_E_35 : zFf R_E 35 6 9 (.object "ChordPoints$Num") := ⟨R_E, F_E, 10, t_E, zcl_E, by decide, rfl, rfl, rfl, zTb_of (tm2 (List.mem_of_getElem? (i := 12) rfl)) rfl⟩
set_option maxRecDepth 20000 in
theorem nw_X_44 : zNw R_X 44 2 6 [.null, .null, .null, .null, .null, .int 0] := ⟨R_P, F_P, t_P, zcl_P, zTb_of (tm2 (List.mem_of_getElem? (i := 34) rfl)) rfl, zTb_of (tm2 (List.mem_of_getElem? (i := 35) rfl)) rfl, ini_P, by decide +kernel⟩
set_option maxRecDepth 20000 in
theorem nw_P_9 : zNw R_P 9 1 3 [.null, .int 0, .int 0] := ⟨R_N, F_N, t_N, zcl_N, zTb_of (tm2 (List.mem_of_getElem? (i := 40) rfl)) rfl, zTb_of (tm1 (List.mem_of_getElem? (i := 27) rfl)) rfl, ini_N, by decide +kernel⟩
set_option maxRecDepth 20000 in
theorem fd_P_14 : zFd R_P 14 2 0 (.object "ChordPoints$Num") true := ⟨R_P, F_P, 6, t_P, zcl_P, by decide, rfl, rfl, Or.inl (zTb_of (tm2 (List.mem_of_getElem? (i := 42) rfl)) rfl)⟩
set_option maxRecDepth 20000 in
theorem ff_P_14 : zFf R_P 14 2 0 (.object "ChordPoints$Num") := ⟨R_P, F_P, 6, t_P, zcl_P, by decide, rfl, rfl, rfl, zTb_of (tm2 (List.mem_of_getElem? (i := 42) rfl)) rfl⟩
set_option maxRecDepth 20000 in
theorem fd_C_65 : zFd R_C 65 2 0 (.object "ChordPoints$Num") true := ⟨R_P, F_P, 6, t_P, zcl_P, by decide, rfl, rfl, Or.inl (zTb_of (tm2 (List.mem_of_getElem? (i := 43) rfl)) rfl)⟩
set_option maxRecDepth 20000 in
theorem fd_E_64 : zFd R_E 64 2 0 (.object "ChordPoints$Num") true := ⟨R_P, F_P, 6, t_P, zcl_P, by decide, rfl, rfl, Or.inl (zTb_of (tm2 (List.mem_of_getElem? (i := 44) rfl)) rfl)⟩
set_option maxRecDepth 20000 in
theorem fd_P_20 : zFd R_P 20 2 1 (.object "ChordPoints$Num") true := ⟨R_P, F_P, 6, t_P, zcl_P, by decide, rfl, rfl, Or.inl (zTb_of (tm2 (List.mem_of_getElem? (i := 45) rfl)) rfl)⟩
set_option maxRecDepth 20000 in
theorem ff_P_20 : zFf R_P 20 2 1 (.object "ChordPoints$Num") := ⟨R_P, F_P, 6, t_P, zcl_P, by decide, rfl, rfl, rfl, zTb_of (tm2 (List.mem_of_getElem? (i := 45) rfl)) rfl⟩
set_option maxRecDepth 20000 in
theorem fd_C_82 : zFd R_C 82 2 1 (.object "ChordPoints$Num") true := ⟨R_P, F_P, 6, t_P, zcl_P, by decide, rfl, rfl, Or.inl (zTb_of (tm2 (List.mem_of_getElem? (i := 46) rfl)) rfl)⟩
set_option maxRecDepth 20000 in
theorem fd_E_71 : zFd R_E 71 2 1 (.object "ChordPoints$Num") true := ⟨R_P, F_P, 6, t_P, zcl_P, by decide, rfl, rfl, Or.inl (zTb_of (tm2 (List.mem_of_getElem? (i := 47) rfl)) rfl)⟩
set_option maxRecDepth 20000 in
theorem fd_P_23 : zFd R_P 23 2 2 (.object "ChordPoints$Num") true := ⟨R_P, F_P, 6, t_P, zcl_P, by decide, rfl, rfl, Or.inl (zTb_of (tm2 (List.mem_of_getElem? (i := 48) rfl)) rfl)⟩
set_option maxRecDepth 20000 in
theorem ff_P_23 : zFf R_P 23 2 2 (.object "ChordPoints$Num") := ⟨R_P, F_P, 6, t_P, zcl_P, by decide, rfl, rfl, rfl, zTb_of (tm2 (List.mem_of_getElem? (i := 48) rfl)) rfl⟩
set_option maxRecDepth 20000 in
theorem fd_C_68 : zFd R_C 68 2 2 (.object "ChordPoints$Num") true := ⟨R_P, F_P, 6, t_P, zcl_P, by decide, rfl, rfl, Or.inl (zTb_of (tm2 (List.mem_of_getElem? (i := 49) rfl)) rfl)⟩
set_option maxRecDepth 20000 in
theorem fd_E_80 : zFd R_E 80 2 2 (.object "ChordPoints$Num") true := ⟨R_P, F_P, 6, t_P, zcl_P, by decide, rfl, rfl, Or.inl (zTb_of (tm2 (List.mem_of_getElem? (i := 50) rfl)) rfl)⟩
set_option maxRecDepth 20000 in
theorem fd_X_102 : zFd R_X 102 2 2 (.object "ChordPoints$Num") true := ⟨R_P, F_P, 6, t_P, zcl_P, by decide, rfl, rfl, Or.inl (zTb_of (tm2 (List.mem_of_getElem? (i := 51) rfl)) rfl)⟩
set_option maxRecDepth 20000 in
theorem fd_P_26 : zFd R_P 26 2 3 (.object "ChordPoints$Num") true := ⟨R_P, F_P, 6, t_P, zcl_P, by decide, rfl, rfl, Or.inl (zTb_of (tm2 (List.mem_of_getElem? (i := 52) rfl)) rfl)⟩
set_option maxRecDepth 20000 in
theorem ff_P_26 : zFf R_P 26 2 3 (.object "ChordPoints$Num") := ⟨R_P, F_P, 6, t_P, zcl_P, by decide, rfl, rfl, rfl, zTb_of (tm2 (List.mem_of_getElem? (i := 52) rfl)) rfl⟩
set_option maxRecDepth 20000 in
theorem fd_E_74 : zFd R_E 74 2 3 (.object "ChordPoints$Num") true := ⟨R_P, F_P, 6, t_P, zcl_P, by decide, rfl, rfl, Or.inl (zTb_of (tm2 (List.mem_of_getElem? (i := 53) rfl)) rfl)⟩
set_option maxRecDepth 20000 in
theorem fd_C_141 : zFd R_C 141 2 3 (.object "ChordPoints$Num") true := ⟨R_P, F_P, 6, t_P, zcl_P, by decide, rfl, rfl, Or.inl (zTb_of (tm2 (List.mem_of_getElem? (i := 54) rfl)) rfl)⟩
set_option maxRecDepth 20000 in
theorem fd_P_29 : zFd R_P 29 2 4 (.object "ChordPoints$Num") true := ⟨R_P, F_P, 6, t_P, zcl_P, by decide, rfl, rfl, Or.inl (zTb_of (tm2 (List.mem_of_getElem? (i := 55) rfl)) rfl)⟩
set_option maxRecDepth 20000 in
theorem ff_P_29 : zFf R_P 29 2 4 (.object "ChordPoints$Num") := ⟨R_P, F_P, 6, t_P, zcl_P, by decide, rfl, rfl, rfl, zTb_of (tm2 (List.mem_of_getElem? (i := 55) rfl)) rfl⟩
set_option maxRecDepth 20000 in
theorem fd_C_91 : zFd R_C 91 2 4 (.object "ChordPoints$Num") true := ⟨R_P, F_P, 6, t_P, zcl_P, by decide, rfl, rfl, Or.inl (zTb_of (tm2 (List.mem_of_getElem? (i := 56) rfl)) rfl)⟩
set_option maxRecDepth 20000 in
theorem fd_E_77 : zFd R_E 77 2 4 (.object "ChordPoints$Num") true := ⟨R_P, F_P, 6, t_P, zcl_P, by decide, rfl, rfl, Or.inl (zTb_of (tm2 (List.mem_of_getElem? (i := 57) rfl)) rfl)⟩
set_option maxRecDepth 20000 in
theorem fd_P_32 : zFd R_P 32 2 5 (.boolean) false := ⟨R_P, F_P, 6, t_P, zcl_P, by decide, rfl, rfl, Or.inl (zTb_of (tm2 (List.mem_of_getElem? (i := 58) rfl)) rfl)⟩
set_option maxRecDepth 20000 in
theorem fd_C_59 : zFd R_C 59 2 5 (.boolean) false := ⟨R_P, F_P, 6, t_P, zcl_P, by decide, rfl, rfl, Or.inl (zTb_of (tm2 (List.mem_of_getElem? (i := 59) rfl)) rfl)⟩
set_option maxRecDepth 20000 in
theorem fd_E_58 : zFd R_E 58 2 5 (.boolean) false := ⟨R_P, F_P, 6, t_P, zcl_P, by decide, rfl, rfl, Or.inl (zTb_of (tm2 (List.mem_of_getElem? (i := 60) rfl)) rfl)⟩
set_option maxRecDepth 20000 in
theorem fd_X_98 : zFd R_X 98 2 5 (.boolean) false := ⟨R_P, F_P, 6, t_P, zcl_P, by decide, rfl, rfl, Or.inl (zTb_of (tm2 (List.mem_of_getElem? (i := 61) rfl)) rfl)⟩
set_option maxRecDepth 20000 in
theorem fd_X_57 : zFd R_X 57 8 0 (.array (.object "ChordPoints$Point")) true := ⟨R_X, F_X, 7, t_X, zcl_X, by decide, rfl, rfl, Or.inl (zTb_of (tm2 (List.mem_of_getElem? (i := 76) rfl)) rfl)⟩
set_option maxRecDepth 20000 in
theorem ff_X_57 : zFf R_X 57 8 0 (.array (.object "ChordPoints$Point")) := ⟨R_X, F_X, 7, t_X, zcl_X, by decide, rfl, rfl, rfl, zTb_of (tm2 (List.mem_of_getElem? (i := 76) rfl)) rfl⟩
set_option maxRecDepth 20000 in
theorem fd_X_18 : zFd R_X 18 8 1 (.object "ChordPoints$Equation") true := ⟨R_X, F_X, 7, t_X, zcl_X, by decide, rfl, rfl, Or.inl (zTb_of (tm2 (List.mem_of_getElem? (i := 77) rfl)) rfl)⟩
set_option maxRecDepth 20000 in
theorem ff_X_18 : zFf R_X 18 8 1 (.object "ChordPoints$Equation") := ⟨R_X, F_X, 7, t_X, zcl_X, by decide, rfl, rfl, rfl, zTb_of (tm2 (List.mem_of_getElem? (i := 77) rfl)) rfl⟩
set_option maxRecDepth 20000 in
theorem fd_X_33 : zFd R_X 33 8 2 (.object "ChordPoints$Chords") true := ⟨R_X, F_X, 7, t_X, zcl_X, by decide, rfl, rfl, Or.inl (zTb_of (tm2 (List.mem_of_getElem? (i := 78) rfl)) rfl)⟩
set_option maxRecDepth 20000 in
theorem ff_X_33 : zFf R_X 33 8 2 (.object "ChordPoints$Chords") := ⟨R_X, F_X, 7, t_X, zcl_X, by decide, rfl, rfl, rfl, zTb_of (tm2 (List.mem_of_getElem? (i := 78) rfl)) rfl⟩
set_option maxRecDepth 20000 in
theorem fd_X_40 : zFd R_X 40 8 3 (.object "ChordPoints$Entry") true := ⟨R_X, F_X, 7, t_X, zcl_X, by decide, rfl, rfl, Or.inl (zTb_of (tm2 (List.mem_of_getElem? (i := 79) rfl)) rfl)⟩
set_option maxRecDepth 20000 in
theorem ff_X_40 : zFf R_X 40 8 3 (.object "ChordPoints$Entry") := ⟨R_X, F_X, 7, t_X, zcl_X, by decide, rfl, rfl, rfl, zTb_of (tm2 (List.mem_of_getElem? (i := 79) rfl)) rfl⟩
set_option maxRecDepth 20000 in
theorem fd_X_47 : zFd R_X 47 8 4 (.object "ChordPoints$Point") true := ⟨R_X, F_X, 7, t_X, zcl_X, by decide, rfl, rfl, Or.inl (zTb_of (tm2 (List.mem_of_getElem? (i := 80) rfl)) rfl)⟩
set_option maxRecDepth 20000 in
theorem ff_X_47 : zFf R_X 47 8 4 (.object "ChordPoints$Point") := ⟨R_X, F_X, 7, t_X, zcl_X, by decide, rfl, rfl, rfl, zTb_of (tm2 (List.mem_of_getElem? (i := 80) rfl)) rfl⟩
set_option maxRecDepth 20000 in
theorem fd_X_51 : zFd R_X 51 8 5 (.object "ChordPoints$Point") true := ⟨R_X, F_X, 7, t_X, zcl_X, by decide, rfl, rfl, Or.inl (zTb_of (tm2 (List.mem_of_getElem? (i := 81) rfl)) rfl)⟩
set_option maxRecDepth 20000 in
theorem ff_X_51 : zFf R_X 51 8 5 (.object "ChordPoints$Point") := ⟨R_X, F_X, 7, t_X, zcl_X, by decide, rfl, rfl, rfl, zTb_of (tm2 (List.mem_of_getElem? (i := 81) rfl)) rfl⟩
set_option maxRecDepth 20000 in
theorem fd_X_54 : zFd R_X 54 8 6 (.object "ChordPoints$Point") true := ⟨R_X, F_X, 7, t_X, zcl_X, by decide, rfl, rfl, Or.inl (zTb_of (tm2 (List.mem_of_getElem? (i := 82) rfl)) rfl)⟩
set_option maxRecDepth 20000 in
theorem ff_X_54 : zFf R_X 54 8 6 (.object "ChordPoints$Point") := ⟨R_X, F_X, 7, t_X, zcl_X, by decide, rfl, rfl, rfl, zTb_of (tm2 (List.mem_of_getElem? (i := 82) rfl)) rfl⟩
set_option maxRecDepth 20000 in
theorem kc_X_143 : Cond.constant R_X 143 (-99999) ∈ zTb := zTb_of (tm2 (List.mem_of_getElem? (i := 105) rfl)) rfl
set_option maxRecDepth 20000 in
theorem kc_X_144 : Cond.constant R_X 144 (99999) ∈ zTb := zTb_of (tm2 (List.mem_of_getElem? (i := 106) rfl)) rfl
set_option maxRecDepth 20000 in
theorem kc_R_78 : Cond.constantLong R_R 78 (1000000000) ∈ zTb := zTb_of (tm2 (List.mem_of_getElem? (i := 130) rfl)) rfl
set_option maxRecDepth 20000 in
theorem kc_E_146 : Cond.constantLong R_E 146 (9) ∈ zTb := zTb_of (tm2 (List.mem_of_getElem? (i := 141) rfl)) rfl
set_option maxRecDepth 20000 in
theorem kc_R_70 : Cond.constant R_R 70 (1000000000) ∈ zTb := zTb_of (tm2 (List.mem_of_getElem? (i := 160) rfl)) rfl
set_option maxRecDepth 20000 in
theorem kc_E_151 : Cond.constantLong R_E 151 (8) ∈ zTb := zTb_of (tm2 (List.mem_of_getElem? (i := 173) rfl)) rfl
set_option maxRecDepth 20000 in
theorem kc_E_153 : Cond.constantLong R_E 153 (27) ∈ zTb := zTb_of (tm2 (List.mem_of_getElem? (i := 174) rfl)) rfl
set_option maxRecDepth 20000 in
theorem kc_D_56 : Cond.constant R_D 56 (100000) ∈ zTb := zTb_of (tm3 (List.mem_of_getElem? (i := 3) rfl)) rfl
set_option maxRecDepth 20000 in
theorem kc_D_121 : Cond.constantLong R_D 121 (1000000000) ∈ zTb := zTb_of (tm3 (List.mem_of_getElem? (i := 18) rfl)) rfl
set_option maxRecDepth 20000 in
theorem kc_D_109 : Cond.constantLong R_D 109 (2000000000) ∈ zTb := zTb_of (tm3 (List.mem_of_getElem? (i := 19) rfl)) rfl
set_option maxRecDepth 20000 in
theorem kc_X_93 : Cond.constant R_X 93 (-1000000) ∈ zTb := zTb_of (tm3 (List.mem_of_getElem? (i := 164) rfl)) rfl
set_option maxRecDepth 20000 in
theorem kc_X_94 : Cond.constant R_X 94 (1000000) ∈ zTb := zTb_of (tm3 (List.mem_of_getElem? (i := 165) rfl)) rfl
set_option maxRecDepth 20000 in
theorem nw_L_10 : zNw R_law 10 0 5 [.int 0, .null, .null, .null, .null] := ⟨R_M, F_M, t_M, zcl_M, zTb_of (tm3 (List.mem_of_getElem? (i := 206) rfl)) rfl, zTb_of (tm3 (List.mem_of_getElem? (i := 207) rfl)) rfl, ini_M, by decide +kernel⟩
set_option maxRecDepth 20000 in
theorem kc_M_34 : Cond.constantLong R_M 34 (1000000000) ∈ zTb := zTb_of (tm3 (List.mem_of_getElem? (i := 220) rfl)) rfl
set_option maxRecDepth 20000 in
theorem fd_M_30 : zFd R_M 30 0 0 (.int) false := ⟨R_M, F_M, 5, t_M, zcl_M, by decide, rfl, rfl, Or.inl (zTb_of (tm3 (List.mem_of_getElem? (i := 221) rfl)) rfl)⟩
set_option maxRecDepth 20000 in
theorem fd_M_9 : zFd R_M 9 0 1 (.array .int) true := ⟨R_M, F_M, 5, t_M, zcl_M, by decide, rfl, rfl, Or.inl (zTb_of (tm3 (List.mem_of_getElem? (i := 222) rfl)) rfl)⟩
set_option maxRecDepth 20000 in
theorem ff_M_9 : zFf R_M 9 0 1 (.array .int) := ⟨R_M, F_M, 5, t_M, zcl_M, by decide, rfl, rfl, rfl, zTb_of (tm3 (List.mem_of_getElem? (i := 222) rfl)) rfl⟩
set_option maxRecDepth 20000 in
theorem fd_M_13 : zFd R_M 13 0 2 (.array .int) true := ⟨R_M, F_M, 5, t_M, zcl_M, by decide, rfl, rfl, Or.inl (zTb_of (tm3 (List.mem_of_getElem? (i := 223) rfl)) rfl)⟩
set_option maxRecDepth 20000 in
theorem ff_M_13 : zFf R_M 13 0 2 (.array .int) := ⟨R_M, F_M, 5, t_M, zcl_M, by decide, rfl, rfl, rfl, zTb_of (tm3 (List.mem_of_getElem? (i := 223) rfl)) rfl⟩
set_option maxRecDepth 20000 in
theorem fd_M_16 : zFd R_M 16 0 3 (.array .int) true := ⟨R_M, F_M, 5, t_M, zcl_M, by decide, rfl, rfl, Or.inl (zTb_of (tm3 (List.mem_of_getElem? (i := 224) rfl)) rfl)⟩
set_option maxRecDepth 20000 in
theorem ff_M_16 : zFf R_M 16 0 3 (.array .int) := ⟨R_M, F_M, 5, t_M, zcl_M, by decide, rfl, rfl, rfl, zTb_of (tm3 (List.mem_of_getElem? (i := 224) rfl)) rfl⟩
set_option maxRecDepth 20000 in
theorem fd_M_19 : zFd R_M 19 0 4 (.array .boolean) true := ⟨R_M, F_M, 5, t_M, zcl_M, by decide, rfl, rfl, Or.inl (zTb_of (tm3 (List.mem_of_getElem? (i := 225) rfl)) rfl)⟩
set_option maxRecDepth 20000 in
theorem ff_M_19 : zFf R_M 19 0 4 (.array .boolean) := ⟨R_M, F_M, 5, t_M, zcl_M, by decide, rfl, rfl, rfl, zTb_of (tm3 (List.mem_of_getElem? (i := 225) rfl)) rfl⟩
set_option maxRecDepth 20000 in
theorem kc_M_90 : Cond.constant R_M 90 (-99999) ∈ zTb := zTb_of (tm4 (List.mem_of_getElem? (i := 5) rfl)) rfl
set_option maxRecDepth 20000 in
theorem kc_M_91 : Cond.constant R_M 91 (99999) ∈ zTb := zTb_of (tm4 (List.mem_of_getElem? (i := 6) rfl)) rfl
set_option maxRecDepth 20000 in
theorem kc_M_73 : Cond.constantLong R_M 73 (4) ∈ zTb := zTb_of (tm4 (List.mem_of_getElem? (i := 7) rfl)) rfl
set_option maxRecDepth 20000 in
theorem kc_M_75 : Cond.constantLong R_M 75 (2) ∈ zTb := zTb_of (tm4 (List.mem_of_getElem? (i := 8) rfl)) rfl
set_option maxRecDepth 20000 in
theorem kc_M_77 : Cond.constantLong R_M 77 (9) ∈ zTb := zTb_of (tm4 (List.mem_of_getElem? (i := 9) rfl)) rfl
set_option maxRecDepth 20000 in
theorem kc_M_52 : Cond.constant R_M 52 (1000000000) ∈ zTb := zTb_of (tm4 (List.mem_of_getElem? (i := 34) rfl)) rfl
set_option maxRecDepth 20000 in
theorem kc_M_86 : Cond.constantLong R_M 86 (8) ∈ zTb := zTb_of (tm4 (List.mem_of_getElem? (i := 43) rfl)) rfl
set_option maxRecDepth 20000 in
theorem kc_M_88 : Cond.constantLong R_M 88 (27) ∈ zTb := zTb_of (tm4 (List.mem_of_getElem? (i := 44) rfl)) rfl
set_option maxRecDepth 20000 in
theorem kc_M_128 : Cond.constantLong R_M 128 (3) ∈ zTb := zTb_of (tm4 (List.mem_of_getElem? (i := 112) rfl)) rfl
set_option maxRecDepth 20000 in
theorem kc_M_147 : Cond.constant R_M 147 (-1000000) ∈ zTb := zTb_of (tm4 (List.mem_of_getElem? (i := 141) rfl)) rfl
set_option maxRecDepth 20000 in
theorem kc_M_148 : Cond.constant R_M 148 (1000000) ∈ zTb := zTb_of (tm4 (List.mem_of_getElem? (i := 142) rfl)) rfl
set_option maxRecDepth 20000 in
theorem kc_M_149 : Cond.constant R_M 149 (1048576) ∈ zTb := zTb_of (tm4 (List.mem_of_getElem? (i := 143) rfl)) rfl
set_option maxRecDepth 20000 in
theorem kc_L_23 : Cond.constantLong R_law 23 (4294967295) ∈ zTb := zTb_of (tm4 (List.mem_of_getElem? (i := 176) rfl)) rfl
set_option maxRecDepth 20000 in
theorem cd_X_init : Cond.code y_X_init b_X_init 4 none ∈ zTb := zTb_of (tm1 (List.mem_of_getElem? (i := 16) rfl)) rfl
set_option maxRecDepth 20000 in
theorem im_X_init : Cond.instanceMethod y_X_init ∈ zTb := zTb_of (tm1 (List.mem_of_getElem? (i := 15) rfl)) rfl
set_option maxRecDepth 20000 in
theorem cd_R_init : Cond.code y_R_init b_R_init 1 none ∈ zTb := zTb_of (tm1 (List.mem_of_getElem? (i := 24) rfl)) rfl
set_option maxRecDepth 20000 in
theorem im_R_init : Cond.instanceMethod y_R_init ∈ zTb := zTb_of (tm1 (List.mem_of_getElem? (i := 23) rfl)) rfl
set_option maxRecDepth 20000 in
theorem cd_N_init : Cond.code y_N_init b_N_init 2 none ∈ zTb := zTb_of (tm1 (List.mem_of_getElem? (i := 30) rfl)) rfl
set_option maxRecDepth 20000 in
theorem im_N_init : Cond.instanceMethod y_N_init ∈ zTb := zTb_of (tm1 (List.mem_of_getElem? (i := 29) rfl)) rfl
set_option maxRecDepth 20000 in
theorem cd_D_init : Cond.code y_D_init b_D_init 2 none ∈ zTb := zTb_of (tm1 (List.mem_of_getElem? (i := 78) rfl)) rfl
set_option maxRecDepth 20000 in
theorem im_D_init : Cond.instanceMethod y_D_init ∈ zTb := zTb_of (tm1 (List.mem_of_getElem? (i := 77) rfl)) rfl
set_option maxRecDepth 20000 in
theorem cd_N_become_J : Cond.code y_N_become_J b_N_become_J 7 none ∈ zTb := zTb_of (tm1 (List.mem_of_getElem? (i := 86) rfl)) rfl
set_option maxRecDepth 20000 in
theorem im_N_become_J : Cond.instanceMethod y_N_become_J ∈ zTb := zTb_of (tm1 (List.mem_of_getElem? (i := 84) rfl)) rfl
set_option maxRecDepth 20000 in
theorem se_N_become_J : Cond.selects y_N_become_J.cls y_N_become_J y_N_become_J ∈ zTb := zTb_of (tm1 (List.mem_of_getElem? (i := 85) rfl)) rfl
set_option maxRecDepth 20000 in
theorem cd_Q_init : Cond.code y_Q_init b_Q_init 1 none ∈ zTb := zTb_of (tm1 (List.mem_of_getElem? (i := 123) rfl)) rfl
set_option maxRecDepth 20000 in
theorem im_Q_init : Cond.instanceMethod y_Q_init ∈ zTb := zTb_of (tm1 (List.mem_of_getElem? (i := 122) rfl)) rfl
set_option maxRecDepth 20000 in
theorem cd_Q_become : Cond.code y_Q_become b_Q_become 11 none ∈ zTb := zTb_of (tm1 (List.mem_of_getElem? (i := 174) rfl)) rfl
set_option maxRecDepth 20000 in
theorem im_Q_become : Cond.instanceMethod y_Q_become ∈ zTb := zTb_of (tm1 (List.mem_of_getElem? (i := 172) rfl)) rfl
set_option maxRecDepth 20000 in
theorem se_Q_become : Cond.selects y_Q_become.cls y_Q_become y_Q_become ∈ zTb := zTb_of (tm1 (List.mem_of_getElem? (i := 173) rfl)) rfl
set_option maxRecDepth 20000 in
theorem cd_Q_b4 : Cond.code y_Q_b4 b_Q_b4 6 (some .long) ∈ zTb := zTb_of (tm1 (List.mem_of_getElem? (i := 179) rfl)) rfl
set_option maxRecDepth 20000 in
theorem sm_Q_b4 : Cond.static y_Q_b4 ∈ zTb := zTb_of (tm1 (List.mem_of_getElem? (i := 178) rfl)) rfl
set_option maxRecDepth 20000 in
theorem cd_Q_b6 : Cond.code y_Q_b6 b_Q_b6 4 (some .long) ∈ zTb := zTb_of (tm1 (List.mem_of_getElem? (i := 182) rfl)) rfl
set_option maxRecDepth 20000 in
theorem sm_Q_b6 : Cond.static y_Q_b6 ∈ zTb := zTb_of (tm1 (List.mem_of_getElem? (i := 181) rfl)) rfl
set_option maxRecDepth 20000 in
theorem cd_Q_b8 : Cond.code y_Q_b8 b_Q_b8 10 (some .long) ∈ zTb := zTb_of (tm1 (List.mem_of_getElem? (i := 186) rfl)) rfl
set_option maxRecDepth 20000 in
theorem sm_Q_b8 : Cond.static y_Q_b8 ∈ zTb := zTb_of (tm1 (List.mem_of_getElem? (i := 185) rfl)) rfl
set_option maxRecDepth 20000 in
theorem cd_C_init : Cond.code y_C_init b_C_init 4 none ∈ zTb := zTb_of (tm1 (List.mem_of_getElem? (i := 191) rfl)) rfl
set_option maxRecDepth 20000 in
theorem im_C_init : Cond.instanceMethod y_C_init ∈ zTb := zTb_of (tm1 (List.mem_of_getElem? (i := 190) rfl)) rfl
set_option maxRecDepth 20000 in
theorem cd_E_init : Cond.code y_E_init b_E_init 4 none ∈ zTb := zTb_of (tm1 (List.mem_of_getElem? (i := 239) rfl)) rfl
set_option maxRecDepth 20000 in
theorem im_E_init : Cond.instanceMethod y_E_init ∈ zTb := zTb_of (tm1 (List.mem_of_getElem? (i := 238) rfl)) rfl
set_option maxRecDepth 20000 in
theorem cd_P_init : Cond.code y_P_init b_P_init 1 none ∈ zTb := zTb_of (tm2 (List.mem_of_getElem? (i := 38) rfl)) rfl
set_option maxRecDepth 20000 in
theorem im_P_init : Cond.instanceMethod y_P_init ∈ zTb := zTb_of (tm2 (List.mem_of_getElem? (i := 37) rfl)) rfl
set_option maxRecDepth 20000 in
theorem cd_X_curve : Cond.code y_X_curve b_X_curve 7 (some .int) ∈ zTb := zTb_of (tm2 (List.mem_of_getElem? (i := 101) rfl)) rfl
set_option maxRecDepth 20000 in
theorem im_X_curve : Cond.instanceMethod y_X_curve ∈ zTb := zTb_of (tm2 (List.mem_of_getElem? (i := 99) rfl)) rfl
set_option maxRecDepth 20000 in
theorem se_X_curve : Cond.selects y_X_curve.cls y_X_curve y_X_curve ∈ zTb := zTb_of (tm2 (List.mem_of_getElem? (i := 100) rfl)) rfl
set_option maxRecDepth 20000 in
theorem cd_X_isCoefficient : Cond.code y_X_isCoefficient b_X_isCoefficient 1 (some .boolean) ∈ zTb := zTb_of (tm2 (List.mem_of_getElem? (i := 104) rfl)) rfl
set_option maxRecDepth 20000 in
theorem sm_X_isCoefficient : Cond.static y_X_isCoefficient ∈ zTb := zTb_of (tm2 (List.mem_of_getElem? (i := 103) rfl)) rfl
set_option maxRecDepth 20000 in
theorem cd_E_isSingular : Cond.code y_E_isSingular b_E_isSingular 11 (some .boolean) ∈ zTb := zTb_of (tm2 (List.mem_of_getElem? (i := 110) rfl)) rfl
set_option maxRecDepth 20000 in
theorem im_E_isSingular : Cond.instanceMethod y_E_isSingular ∈ zTb := zTb_of (tm2 (List.mem_of_getElem? (i := 108) rfl)) rfl
set_option maxRecDepth 20000 in
theorem se_E_isSingular : Cond.selects y_E_isSingular.cls y_E_isSingular y_E_isSingular ∈ zTb := zTb_of (tm2 (List.mem_of_getElem? (i := 109) rfl)) rfl
set_option maxRecDepth 20000 in
theorem cd_Q_b2 : Cond.code y_Q_b2 b_Q_b2 4 (some .long) ∈ zTb := zTb_of (tm2 (List.mem_of_getElem? (i := 113) rfl)) rfl
set_option maxRecDepth 20000 in
theorem sm_Q_b2 : Cond.static y_Q_b2 ∈ zTb := zTb_of (tm2 (List.mem_of_getElem? (i := 112) rfl)) rfl
set_option maxRecDepth 20000 in
theorem cd_R_multiply : Cond.code y_R_multiply b_R_multiply 15 none ∈ zTb := zTb_of (tm2 (List.mem_of_getElem? (i := 121) rfl)) rfl
set_option maxRecDepth 20000 in
theorem im_R_multiply : Cond.instanceMethod y_R_multiply ∈ zTb := zTb_of (tm2 (List.mem_of_getElem? (i := 119) rfl)) rfl
set_option maxRecDepth 20000 in
theorem se_R_multiply : Cond.selects y_R_multiply.cls y_R_multiply y_R_multiply ∈ zTb := zTb_of (tm2 (List.mem_of_getElem? (i := 120) rfl)) rfl
set_option maxRecDepth 20000 in
theorem cd_R_lose : Cond.code y_R_lose b_R_lose 2 none ∈ zTb := zTb_of (tm2 (List.mem_of_getElem? (i := 125) rfl)) rfl
set_option maxRecDepth 20000 in
theorem im_R_lose : Cond.instanceMethod y_R_lose ∈ zTb := zTb_of (tm2 (List.mem_of_getElem? (i := 124) rfl)) rfl
set_option maxRecDepth 20000 in
theorem se_R_lose : Cond.selects y_R_lose.cls y_R_lose y_R_lose ∈ zTb := zTb_sel (q := (y_R_lose, 5)) (List.mem_append_left _ (List.mem_of_getElem? (i := 0) rfl)) rfl
set_option maxRecDepth 20000 in
theorem cd_N_becomeZero : Cond.code y_N_becomeZero b_N_becomeZero 1 none ∈ zTb := zTb_of (tm2 (List.mem_of_getElem? (i := 129) rfl)) rfl
set_option maxRecDepth 20000 in
theorem im_N_becomeZero : Cond.instanceMethod y_N_becomeZero ∈ zTb := zTb_of (tm2 (List.mem_of_getElem? (i := 127) rfl)) rfl
set_option maxRecDepth 20000 in
theorem se_N_becomeZero : Cond.selects y_N_becomeZero.cls y_N_becomeZero y_N_becomeZero ∈ zTb := zTb_of (tm2 (List.mem_of_getElem? (i := 128) rfl)) rfl
set_option maxRecDepth 20000 in
theorem cd_R_store : Cond.code y_R_store b_R_store 6 none ∈ zTb := zTb_of (tm2 (List.mem_of_getElem? (i := 134) rfl)) rfl
set_option maxRecDepth 20000 in
theorem im_R_store : Cond.instanceMethod y_R_store ∈ zTb := zTb_of (tm2 (List.mem_of_getElem? (i := 133) rfl)) rfl
set_option maxRecDepth 20000 in
theorem se_R_store : Cond.selects y_R_store.cls y_R_store y_R_store ∈ zTb := zTb_sel (q := (y_R_store, 5)) (List.mem_append_left _ (List.mem_of_getElem? (i := 1) rfl)) rfl
set_option maxRecDepth 20000 in
theorem cd_R_subtractProduct : Cond.code y_R_subtractProduct b_R_subtractProduct 4 none ∈ zTb := zTb_of (tm2 (List.mem_of_getElem? (i := 145) rfl)) rfl
set_option maxRecDepth 20000 in
theorem im_R_subtractProduct : Cond.instanceMethod y_R_subtractProduct ∈ zTb := zTb_of (tm2 (List.mem_of_getElem? (i := 143) rfl)) rfl
set_option maxRecDepth 20000 in
theorem se_R_subtractProduct : Cond.selects y_R_subtractProduct.cls y_R_subtractProduct y_R_subtractProduct ∈ zTb := zTb_of (tm2 (List.mem_of_getElem? (i := 144) rfl)) rfl
set_option maxRecDepth 20000 in
theorem cd_R_addSigned : Cond.code y_R_addSigned b_R_addSigned 5 none ∈ zTb := zTb_of (tm2 (List.mem_of_getElem? (i := 150) rfl)) rfl
set_option maxRecDepth 20000 in
theorem im_R_addSigned : Cond.instanceMethod y_R_addSigned ∈ zTb := zTb_of (tm2 (List.mem_of_getElem? (i := 149) rfl)) rfl
set_option maxRecDepth 20000 in
theorem se_R_addSigned : Cond.selects y_R_addSigned.cls y_R_addSigned y_R_addSigned ∈ zTb := zTb_sel (q := (y_R_addSigned, 5)) (List.mem_append_left _ (List.mem_of_getElem? (i := 2) rfl)) rfl
set_option maxRecDepth 20000 in
theorem cd_R_addSizes : Cond.code y_R_addSizes b_R_addSizes 8 none ∈ zTb := zTb_of (tm2 (List.mem_of_getElem? (i := 154) rfl)) rfl
set_option maxRecDepth 20000 in
theorem im_R_addSizes : Cond.instanceMethod y_R_addSizes ∈ zTb := zTb_of (tm2 (List.mem_of_getElem? (i := 153) rfl)) rfl
set_option maxRecDepth 20000 in
theorem se_R_addSizes : Cond.selects y_R_addSizes.cls y_R_addSizes y_R_addSizes ∈ zTb := zTb_sel (q := (y_R_addSizes, 5)) (List.mem_append_left _ (List.mem_of_getElem? (i := 3) rfl)) rfl
set_option maxRecDepth 20000 in
theorem cd_N_limb : Cond.code y_N_limb b_N_limb 2 (some .int) ∈ zTb := zTb_of (tm2 (List.mem_of_getElem? (i := 159) rfl)) rfl
set_option maxRecDepth 20000 in
theorem im_N_limb : Cond.instanceMethod y_N_limb ∈ zTb := zTb_of (tm2 (List.mem_of_getElem? (i := 157) rfl)) rfl
set_option maxRecDepth 20000 in
theorem se_N_limb : Cond.selects y_N_limb.cls y_N_limb y_N_limb ∈ zTb := zTb_of (tm2 (List.mem_of_getElem? (i := 158) rfl)) rfl
set_option maxRecDepth 20000 in
theorem cd_N_settle : Cond.code y_N_settle b_N_settle 4 none ∈ zTb := zTb_of (tm2 (List.mem_of_getElem? (i := 164) rfl)) rfl
set_option maxRecDepth 20000 in
theorem im_N_settle : Cond.instanceMethod y_N_settle ∈ zTb := zTb_of (tm2 (List.mem_of_getElem? (i := 162) rfl)) rfl
set_option maxRecDepth 20000 in
theorem se_N_settle : Cond.selects y_N_settle.cls y_N_settle y_N_settle ∈ zTb := zTb_of (tm2 (List.mem_of_getElem? (i := 163) rfl)) rfl
set_option maxRecDepth 20000 in
theorem cd_N_compareSize : Cond.code y_N_compareSize b_N_compareSize 3 (some .int) ∈ zTb := zTb_of (tm2 (List.mem_of_getElem? (i := 168) rfl)) rfl
set_option maxRecDepth 20000 in
theorem im_N_compareSize : Cond.instanceMethod y_N_compareSize ∈ zTb := zTb_of (tm2 (List.mem_of_getElem? (i := 166) rfl)) rfl
set_option maxRecDepth 20000 in
theorem se_N_compareSize : Cond.selects y_N_compareSize.cls y_N_compareSize y_N_compareSize ∈ zTb := zTb_of (tm2 (List.mem_of_getElem? (i := 167) rfl)) rfl
set_option maxRecDepth 20000 in
theorem cd_R_subtractSizes : Cond.code y_R_subtractSizes b_R_subtractSizes 9 none ∈ zTb := zTb_of (tm2 (List.mem_of_getElem? (i := 172) rfl)) rfl
set_option maxRecDepth 20000 in
theorem im_R_subtractSizes : Cond.instanceMethod y_R_subtractSizes ∈ zTb := zTb_of (tm2 (List.mem_of_getElem? (i := 171) rfl)) rfl
set_option maxRecDepth 20000 in
theorem se_R_subtractSizes : Cond.selects y_R_subtractSizes.cls y_R_subtractSizes y_R_subtractSizes ∈ zTb := zTb_sel (q := (y_R_subtractSizes, 5)) (List.mem_append_left _ (List.mem_of_getElem? (i := 4) rfl)) rfl
set_option maxRecDepth 20000 in
theorem cd_N_isZero : Cond.code y_N_isZero b_N_isZero 1 (some .boolean) ∈ zTb := zTb_of (tm2 (List.mem_of_getElem? (i := 178) rfl)) rfl
set_option maxRecDepth 20000 in
theorem im_N_isZero : Cond.instanceMethod y_N_isZero ∈ zTb := zTb_of (tm2 (List.mem_of_getElem? (i := 176) rfl)) rfl
set_option maxRecDepth 20000 in
theorem se_N_isZero : Cond.selects y_N_isZero.cls y_N_isZero y_N_isZero ∈ zTb := zTb_of (tm2 (List.mem_of_getElem? (i := 177) rfl)) rfl
set_option maxRecDepth 20000 in
theorem cd_P_becomeNone : Cond.code y_P_becomeNone b_P_becomeNone 1 none ∈ zTb := zTb_of (tm2 (List.mem_of_getElem? (i := 182) rfl)) rfl
set_option maxRecDepth 20000 in
theorem im_P_becomeNone : Cond.instanceMethod y_P_becomeNone ∈ zTb := zTb_of (tm2 (List.mem_of_getElem? (i := 180) rfl)) rfl
set_option maxRecDepth 20000 in
theorem se_P_becomeNone : Cond.selects y_P_becomeNone.cls y_P_becomeNone y_P_becomeNone ∈ zTb := zTb_of (tm2 (List.mem_of_getElem? (i := 181) rfl)) rfl
set_option maxRecDepth 20000 in
theorem cd_X_none : Cond.code y_X_none b_X_none 2 (some .boolean) ∈ zTb := zTb_of (tm2 (List.mem_of_getElem? (i := 186) rfl)) rfl
set_option maxRecDepth 20000 in
theorem im_X_none : Cond.instanceMethod y_X_none ∈ zTb := zTb_of (tm2 (List.mem_of_getElem? (i := 184) rfl)) rfl
set_option maxRecDepth 20000 in
theorem se_X_none : Cond.selects y_X_none.cls y_X_none y_X_none ∈ zTb := zTb_of (tm2 (List.mem_of_getElem? (i := 185) rfl)) rfl
set_option maxRecDepth 20000 in
theorem cd_X_isSlot : Cond.code y_X_isSlot b_X_isSlot 1 (some .boolean) ∈ zTb := zTb_of (tm2 (List.mem_of_getElem? (i := 189) rfl)) rfl
set_option maxRecDepth 20000 in
theorem sm_X_isSlot : Cond.static y_X_isSlot ∈ zTb := zTb_of (tm2 (List.mem_of_getElem? (i := 188) rfl)) rfl
set_option maxRecDepth 20000 in
theorem cd_X_point : Cond.code y_X_point b_X_point 10 (some .int) ∈ zTb := zTb_of (tm2 (List.mem_of_getElem? (i := 193) rfl)) rfl
set_option maxRecDepth 20000 in
theorem im_X_point : Cond.instanceMethod y_X_point ∈ zTb := zTb_of (tm2 (List.mem_of_getElem? (i := 191) rfl)) rfl
set_option maxRecDepth 20000 in
theorem se_X_point : Cond.selects y_X_point.cls y_X_point y_X_point ∈ zTb := zTb_of (tm2 (List.mem_of_getElem? (i := 192) rfl)) rfl
set_option maxRecDepth 20000 in
theorem cd_E_read : Cond.code y_E_read b_E_read 10 (some .boolean) ∈ zTb := zTb_of (tm2 (List.mem_of_getElem? (i := 197) rfl)) rfl
set_option maxRecDepth 20000 in
theorem im_E_read : Cond.instanceMethod y_E_read ∈ zTb := zTb_of (tm2 (List.mem_of_getElem? (i := 195) rfl)) rfl
set_option maxRecDepth 20000 in
theorem se_E_read : Cond.selects y_E_read.cls y_E_read y_E_read ∈ zTb := zTb_of (tm2 (List.mem_of_getElem? (i := 196) rfl)) rfl
set_option maxRecDepth 20000 in
theorem cd_E_takeLowestTerms : Cond.code y_E_takeLowestTerms b_E_takeLowestTerms 7 none ∈ zTb := zTb_of (tm2 (List.mem_of_getElem? (i := 201) rfl)) rfl
set_option maxRecDepth 20000 in
theorem im_E_takeLowestTerms : Cond.instanceMethod y_E_takeLowestTerms ∈ zTb := zTb_of (tm2 (List.mem_of_getElem? (i := 200) rfl)) rfl
set_option maxRecDepth 20000 in
theorem se_E_takeLowestTerms : Cond.selects y_E_takeLowestTerms.cls y_E_takeLowestTerms y_E_takeLowestTerms ∈ zTb := zTb_sel (q := (y_E_takeLowestTerms, 10)) (List.mem_append_left _ (List.mem_of_getElem? (i := 5) rfl)) rfl
set_option maxRecDepth 20000 in
theorem cd_D_common : Cond.code y_D_common b_D_common 5 none ∈ zTb := zTb_of (tm2 (List.mem_of_getElem? (i := 205) rfl)) rfl
set_option maxRecDepth 20000 in
theorem im_D_common : Cond.instanceMethod y_D_common ∈ zTb := zTb_of (tm2 (List.mem_of_getElem? (i := 203) rfl)) rfl
set_option maxRecDepth 20000 in
theorem se_D_common : Cond.selects y_D_common.cls y_D_common y_D_common ∈ zTb := zTb_of (tm2 (List.mem_of_getElem? (i := 204) rfl)) rfl
set_option maxRecDepth 20000 in
theorem cd_N_become_N : Cond.code y_N_become_N b_N_become_N 2 none ∈ zTb := zTb_of (tm2 (List.mem_of_getElem? (i := 209) rfl)) rfl
set_option maxRecDepth 20000 in
theorem im_N_become_N : Cond.instanceMethod y_N_become_N ∈ zTb := zTb_of (tm2 (List.mem_of_getElem? (i := 207) rfl)) rfl
set_option maxRecDepth 20000 in
theorem se_N_become_N : Cond.selects y_N_become_N.cls y_N_become_N y_N_become_N ∈ zTb := zTb_of (tm2 (List.mem_of_getElem? (i := 208) rfl)) rfl
set_option maxRecDepth 20000 in
theorem cd_D_shorten : Cond.code y_D_shorten b_D_shorten 2 none ∈ zTb := zTb_of (tm2 (List.mem_of_getElem? (i := 216) rfl)) rfl
set_option maxRecDepth 20000 in
theorem im_D_shorten : Cond.instanceMethod y_D_shorten ∈ zTb := zTb_of (tm2 (List.mem_of_getElem? (i := 215) rfl)) rfl
set_option maxRecDepth 20000 in
theorem se_D_shorten : Cond.selects y_D_shorten.cls y_D_shorten y_D_shorten ∈ zTb := zTb_sel (q := (y_D_shorten, 10)) (List.mem_append_left _ (List.mem_of_getElem? (i := 6) rfl)) rfl
set_option maxRecDepth 20000 in
theorem cd_R_divide : Cond.code y_R_divide b_R_divide 12 none ∈ zTb := zTb_of (tm2 (List.mem_of_getElem? (i := 221) rfl)) rfl
set_option maxRecDepth 20000 in
theorem im_R_divide : Cond.instanceMethod y_R_divide ∈ zTb := zTb_of (tm2 (List.mem_of_getElem? (i := 219) rfl)) rfl
set_option maxRecDepth 20000 in
theorem se_R_divide : Cond.selects y_R_divide.cls y_R_divide y_R_divide ∈ zTb := zTb_of (tm2 (List.mem_of_getElem? (i := 220) rfl)) rfl
set_option maxRecDepth 20000 in
theorem cd_R_scaleUp : Cond.code y_R_scaleUp b_R_scaleUp 10 (some .int) ∈ zTb := zTb_of (tm2 (List.mem_of_getElem? (i := 226) rfl)) rfl
set_option maxRecDepth 20000 in
theorem im_R_scaleUp : Cond.instanceMethod y_R_scaleUp ∈ zTb := zTb_of (tm2 (List.mem_of_getElem? (i := 225) rfl)) rfl
set_option maxRecDepth 20000 in
theorem se_R_scaleUp : Cond.selects y_R_scaleUp.cls y_R_scaleUp y_R_scaleUp ∈ zTb := zTb_sel (q := (y_R_scaleUp, 5)) (List.mem_append_left _ (List.mem_of_getElem? (i := 7) rfl)) rfl
set_option maxRecDepth 20000 in
theorem cd_R_guessLimb : Cond.code y_R_guessLimb b_R_guessLimb 16 (some .long) ∈ zTb := zTb_of (tm2 (List.mem_of_getElem? (i := 230) rfl)) rfl
set_option maxRecDepth 20000 in
theorem im_R_guessLimb : Cond.instanceMethod y_R_guessLimb ∈ zTb := zTb_of (tm2 (List.mem_of_getElem? (i := 229) rfl)) rfl
set_option maxRecDepth 20000 in
theorem se_R_guessLimb : Cond.selects y_R_guessLimb.cls y_R_guessLimb y_R_guessLimb ∈ zTb := zTb_sel (q := (y_R_guessLimb, 5)) (List.mem_append_left _ (List.mem_of_getElem? (i := 8) rfl)) rfl
set_option maxRecDepth 20000 in
theorem cd_R_takeMultiple : Cond.code y_R_takeMultiple b_R_takeMultiple 11 (some .int) ∈ zTb := zTb_of (tm2 (List.mem_of_getElem? (i := 234) rfl)) rfl
set_option maxRecDepth 20000 in
theorem im_R_takeMultiple : Cond.instanceMethod y_R_takeMultiple ∈ zTb := zTb_of (tm2 (List.mem_of_getElem? (i := 233) rfl)) rfl
set_option maxRecDepth 20000 in
theorem se_R_takeMultiple : Cond.selects y_R_takeMultiple.cls y_R_takeMultiple y_R_takeMultiple ∈ zTb := zTb_sel (q := (y_R_takeMultiple, 5)) (List.mem_append_left _ (List.mem_of_getElem? (i := 9) rfl)) rfl
set_option maxRecDepth 20000 in
theorem cd_R_giveBack : Cond.code y_R_giveBack b_R_giveBack 6 none ∈ zTb := zTb_of (tm2 (List.mem_of_getElem? (i := 238) rfl)) rfl
set_option maxRecDepth 20000 in
theorem im_R_giveBack : Cond.instanceMethod y_R_giveBack ∈ zTb := zTb_of (tm2 (List.mem_of_getElem? (i := 237) rfl)) rfl
set_option maxRecDepth 20000 in
theorem se_R_giveBack : Cond.selects y_R_giveBack.cls y_R_giveBack y_R_giveBack ∈ zTb := zTb_sel (q := (y_R_giveBack, 5)) (List.mem_append_left _ (List.mem_of_getElem? (i := 10) rfl)) rfl
set_option maxRecDepth 20000 in
theorem cd_R_scaleDown : Cond.code y_R_scaleDown b_R_scaleDown 8 none ∈ zTb := zTb_of (tm3 (List.mem_of_getElem? (i := 2) rfl)) rfl
set_option maxRecDepth 20000 in
theorem im_R_scaleDown : Cond.instanceMethod y_R_scaleDown ∈ zTb := zTb_of (tm3 (List.mem_of_getElem? (i := 1) rfl)) rfl
set_option maxRecDepth 20000 in
theorem se_R_scaleDown : Cond.selects y_R_scaleDown.cls y_R_scaleDown y_R_scaleDown ∈ zTb := zTb_sel (q := (y_R_scaleDown, 5)) (List.mem_append_left _ (List.mem_of_getElem? (i := 11) rfl)) rfl
set_option maxRecDepth 20000 in
theorem cd_D_followLeadingDigits : Cond.code y_D_followLeadingDigits b_D_followLeadingDigits 16 (some .boolean) ∈ zTb := zTb_of (tm3 (List.mem_of_getElem? (i := 7) rfl)) rfl
set_option maxRecDepth 20000 in
theorem im_D_followLeadingDigits : Cond.instanceMethod y_D_followLeadingDigits ∈ zTb := zTb_of (tm3 (List.mem_of_getElem? (i := 6) rfl)) rfl
set_option maxRecDepth 20000 in
theorem se_D_followLeadingDigits : Cond.selects y_D_followLeadingDigits.cls y_D_followLeadingDigits y_D_followLeadingDigits ∈ zTb := zTb_sel (q := (y_D_followLeadingDigits, 10)) (List.mem_append_left _ (List.mem_of_getElem? (i := 12) rfl)) rfl
set_option maxRecDepth 20000 in
theorem cd_N_limbDigits : Cond.code y_N_limbDigits b_N_limbDigits 2 (some .int) ∈ zTb := zTb_of (tm3 (List.mem_of_getElem? (i := 11) rfl)) rfl
set_option maxRecDepth 20000 in
theorem sm_N_limbDigits : Cond.static y_N_limbDigits ∈ zTb := zTb_of (tm3 (List.mem_of_getElem? (i := 10) rfl)) rfl
set_option maxRecDepth 20000 in
theorem cd_D_leading : Cond.code y_D_leading b_D_leading 6 (some .long) ∈ zTb := zTb_of (tm3 (List.mem_of_getElem? (i := 16) rfl)) rfl
set_option maxRecDepth 20000 in
theorem sm_D_leading : Cond.static y_D_leading ∈ zTb := zTb_of (tm3 (List.mem_of_getElem? (i := 15) rfl)) rfl
set_option maxRecDepth 20000 in
theorem cd_D_mix : Cond.code y_D_mix b_D_mix 15 none ∈ zTb := zTb_of (tm3 (List.mem_of_getElem? (i := 26) rfl)) rfl
set_option maxRecDepth 20000 in
theorem im_D_mix : Cond.instanceMethod y_D_mix ∈ zTb := zTb_of (tm3 (List.mem_of_getElem? (i := 25) rfl)) rfl
set_option maxRecDepth 20000 in
theorem se_D_mix : Cond.selects y_D_mix.cls y_D_mix y_D_mix ∈ zTb := zTb_sel (q := (y_D_mix, 10)) (List.mem_append_left _ (List.mem_of_getElem? (i := 13) rfl)) rfl
set_option maxRecDepth 20000 in
theorem cd_N_lowPart : Cond.code y_N_lowPart b_N_lowPart 1 (some .long) ∈ zTb := zTb_of (tm3 (List.mem_of_getElem? (i := 34) rfl)) rfl
set_option maxRecDepth 20000 in
theorem im_N_lowPart : Cond.instanceMethod y_N_lowPart ∈ zTb := zTb_of (tm3 (List.mem_of_getElem? (i := 32) rfl)) rfl
set_option maxRecDepth 20000 in
theorem se_N_lowPart : Cond.selects y_N_lowPart.cls y_N_lowPart y_N_lowPart ∈ zTb := zTb_of (tm3 (List.mem_of_getElem? (i := 33) rfl)) rfl
set_option maxRecDepth 20000 in
theorem cd_D_commonOfLongs : Cond.code y_D_commonOfLongs b_D_commonOfLongs 11 (some .long) ∈ zTb := zTb_of (tm3 (List.mem_of_getElem? (i := 38) rfl)) rfl
set_option maxRecDepth 20000 in
theorem sm_D_commonOfLongs : Cond.static y_D_commonOfLongs ∈ zTb := zTb_of (tm3 (List.mem_of_getElem? (i := 37) rfl)) rfl
set_option maxRecDepth 20000 in
theorem cd_N_changeSign : Cond.code y_N_changeSign b_N_changeSign 1 none ∈ zTb := zTb_of (tm3 (List.mem_of_getElem? (i := 43) rfl)) rfl
set_option maxRecDepth 20000 in
theorem im_N_changeSign : Cond.instanceMethod y_N_changeSign ∈ zTb := zTb_of (tm3 (List.mem_of_getElem? (i := 41) rfl)) rfl
set_option maxRecDepth 20000 in
theorem se_N_changeSign : Cond.selects y_N_changeSign.cls y_N_changeSign y_N_changeSign ∈ zTb := zTb_of (tm3 (List.mem_of_getElem? (i := 42) rfl)) rfl
set_option maxRecDepth 20000 in
theorem cd_E_isOnCurve : Cond.code y_E_isOnCurve b_E_isOnCurve 1 (some .boolean) ∈ zTb := zTb_of (tm3 (List.mem_of_getElem? (i := 47) rfl)) rfl
set_option maxRecDepth 20000 in
theorem im_E_isOnCurve : Cond.instanceMethod y_E_isOnCurve ∈ zTb := zTb_of (tm3 (List.mem_of_getElem? (i := 46) rfl)) rfl
set_option maxRecDepth 20000 in
theorem se_E_isOnCurve : Cond.selects y_E_isOnCurve.cls y_E_isOnCurve y_E_isOnCurve ∈ zTb := zTb_sel (q := (y_E_isOnCurve, 10)) (List.mem_append_left _ (List.mem_of_getElem? (i := 14) rfl)) rfl
set_option maxRecDepth 20000 in
theorem cd_R_addProduct : Cond.code y_R_addProduct b_R_addProduct 4 none ∈ zTb := zTb_of (tm3 (List.mem_of_getElem? (i := 51) rfl)) rfl
set_option maxRecDepth 20000 in
theorem im_R_addProduct : Cond.instanceMethod y_R_addProduct ∈ zTb := zTb_of (tm3 (List.mem_of_getElem? (i := 49) rfl)) rfl
set_option maxRecDepth 20000 in
theorem se_R_addProduct : Cond.selects y_R_addProduct.cls y_R_addProduct y_R_addProduct ∈ zTb := zTb_of (tm3 (List.mem_of_getElem? (i := 50) rfl)) rfl
set_option maxRecDepth 20000 in
theorem cd_N_isLike : Cond.code y_N_isLike b_N_isLike 2 (some .boolean) ∈ zTb := zTb_of (tm3 (List.mem_of_getElem? (i := 55) rfl)) rfl
set_option maxRecDepth 20000 in
theorem im_N_isLike : Cond.instanceMethod y_N_isLike ∈ zTb := zTb_of (tm3 (List.mem_of_getElem? (i := 53) rfl)) rfl
set_option maxRecDepth 20000 in
theorem se_N_isLike : Cond.selects y_N_isLike.cls y_N_isLike y_N_isLike ∈ zTb := zTb_of (tm3 (List.mem_of_getElem? (i := 54) rfl)) rfl
set_option maxRecDepth 20000 in
theorem cd_X_sum : Cond.code y_X_sum b_X_sum 4 (some .int) ∈ zTb := zTb_of (tm3 (List.mem_of_getElem? (i := 61) rfl)) rfl
set_option maxRecDepth 20000 in
theorem im_X_sum : Cond.instanceMethod y_X_sum ∈ zTb := zTb_of (tm3 (List.mem_of_getElem? (i := 59) rfl)) rfl
set_option maxRecDepth 20000 in
theorem se_X_sum : Cond.selects y_X_sum.cls y_X_sum y_X_sum ∈ zTb := zTb_of (tm3 (List.mem_of_getElem? (i := 60) rfl)) rfl
set_option maxRecDepth 20000 in
theorem cd_C_join : Cond.code y_C_join b_C_join 4 (some .boolean) ∈ zTb := zTb_of (tm3 (List.mem_of_getElem? (i := 65) rfl)) rfl
set_option maxRecDepth 20000 in
theorem im_C_join : Cond.instanceMethod y_C_join ∈ zTb := zTb_of (tm3 (List.mem_of_getElem? (i := 63) rfl)) rfl
set_option maxRecDepth 20000 in
theorem se_C_join : Cond.selects y_C_join.cls y_C_join y_C_join ∈ zTb := zTb_of (tm3 (List.mem_of_getElem? (i := 64) rfl)) rfl
set_option maxRecDepth 20000 in
theorem cd_P_become : Cond.code y_P_become b_P_become 2 none ∈ zTb := zTb_of (tm3 (List.mem_of_getElem? (i := 69) rfl)) rfl
set_option maxRecDepth 20000 in
theorem im_P_become : Cond.instanceMethod y_P_become ∈ zTb := zTb_of (tm3 (List.mem_of_getElem? (i := 67) rfl)) rfl
set_option maxRecDepth 20000 in
theorem se_P_become : Cond.selects y_P_become.cls y_P_become y_P_become ∈ zTb := zTb_of (tm3 (List.mem_of_getElem? (i := 68) rfl)) rfl
set_option maxRecDepth 20000 in
theorem cd_C_measureGap : Cond.code y_C_measureGap b_C_measureGap 3 none ∈ zTb := zTb_of (tm3 (List.mem_of_getElem? (i := 74) rfl)) rfl
set_option maxRecDepth 20000 in
theorem im_C_measureGap : Cond.instanceMethod y_C_measureGap ∈ zTb := zTb_of (tm3 (List.mem_of_getElem? (i := 73) rfl)) rfl
set_option maxRecDepth 20000 in
theorem se_C_measureGap : Cond.selects y_C_measureGap.cls y_C_measureGap y_C_measureGap ∈ zTb := zTb_sel (q := (y_C_measureGap, 13)) (List.mem_append_left _ (List.mem_of_getElem? (i := 15) rfl)) rfl
set_option maxRecDepth 20000 in
theorem cd_R_subtract : Cond.code y_R_subtract b_R_subtract 4 none ∈ zTb := zTb_of (tm3 (List.mem_of_getElem? (i := 79) rfl)) rfl
set_option maxRecDepth 20000 in
theorem im_R_subtract : Cond.instanceMethod y_R_subtract ∈ zTb := zTb_of (tm3 (List.mem_of_getElem? (i := 77) rfl)) rfl
set_option maxRecDepth 20000 in
theorem se_R_subtract : Cond.selects y_R_subtract.cls y_R_subtract y_R_subtract ∈ zTb := zTb_of (tm3 (List.mem_of_getElem? (i := 78) rfl)) rfl
set_option maxRecDepth 20000 in
theorem cd_C_gatherHeights : Cond.code y_C_gatherHeights b_C_gatherHeights 3 none ∈ zTb := zTb_of (tm3 (List.mem_of_getElem? (i := 84) rfl)) rfl
set_option maxRecDepth 20000 in
theorem im_C_gatherHeights : Cond.instanceMethod y_C_gatherHeights ∈ zTb := zTb_of (tm3 (List.mem_of_getElem? (i := 83) rfl)) rfl
set_option maxRecDepth 20000 in
theorem se_C_gatherHeights : Cond.selects y_C_gatherHeights.cls y_C_gatherHeights y_C_gatherHeights ∈ zTb := zTb_sel (q := (y_C_gatherHeights, 13)) (List.mem_append_right _ (List.mem_append_left _ (List.mem_of_getElem? (i := 0) rfl))) rfl
set_option maxRecDepth 20000 in
theorem cd_R_add : Cond.code y_R_add b_R_add 4 none ∈ zTb := zTb_of (tm3 (List.mem_of_getElem? (i := 88) rfl)) rfl
set_option maxRecDepth 20000 in
theorem im_R_add : Cond.instanceMethod y_R_add ∈ zTb := zTb_of (tm3 (List.mem_of_getElem? (i := 86) rfl)) rfl
set_option maxRecDepth 20000 in
theorem se_R_add : Cond.selects y_R_add.cls y_R_add y_R_add ∈ zTb := zTb_of (tm3 (List.mem_of_getElem? (i := 87) rfl)) rfl
set_option maxRecDepth 20000 in
theorem cd_C_drawChord : Cond.code y_C_drawChord b_C_drawChord 3 none ∈ zTb := zTb_of (tm3 (List.mem_of_getElem? (i := 93) rfl)) rfl
set_option maxRecDepth 20000 in
theorem im_C_drawChord : Cond.instanceMethod y_C_drawChord ∈ zTb := zTb_of (tm3 (List.mem_of_getElem? (i := 92) rfl)) rfl
set_option maxRecDepth 20000 in
theorem se_C_drawChord : Cond.selects y_C_drawChord.cls y_C_drawChord y_C_drawChord ∈ zTb := zTb_sel (q := (y_C_drawChord, 13)) (List.mem_append_right _ (List.mem_append_left _ (List.mem_of_getElem? (i := 1) rfl))) rfl
set_option maxRecDepth 20000 in
theorem cd_P_isLike : Cond.code y_P_isLike b_P_isLike 2 (some .boolean) ∈ zTb := zTb_of (tm3 (List.mem_of_getElem? (i := 97) rfl)) rfl
set_option maxRecDepth 20000 in
theorem im_P_isLike : Cond.instanceMethod y_P_isLike ∈ zTb := zTb_of (tm3 (List.mem_of_getElem? (i := 95) rfl)) rfl
set_option maxRecDepth 20000 in
theorem se_P_isLike : Cond.selects y_P_isLike.cls y_P_isLike y_P_isLike ∈ zTb := zTb_of (tm3 (List.mem_of_getElem? (i := 96) rfl)) rfl
set_option maxRecDepth 20000 in
theorem cd_C_drawTangent : Cond.code y_C_drawTangent b_C_drawTangent 2 none ∈ zTb := zTb_of (tm3 (List.mem_of_getElem? (i := 102) rfl)) rfl
set_option maxRecDepth 20000 in
theorem im_C_drawTangent : Cond.instanceMethod y_C_drawTangent ∈ zTb := zTb_of (tm3 (List.mem_of_getElem? (i := 101) rfl)) rfl
set_option maxRecDepth 20000 in
theorem se_C_drawTangent : Cond.selects y_C_drawTangent.cls y_C_drawTangent y_C_drawTangent ∈ zTb := zTb_sel (q := (y_C_drawTangent, 13)) (List.mem_append_right _ (List.mem_append_left _ (List.mem_of_getElem? (i := 2) rfl))) rfl
set_option maxRecDepth 20000 in
theorem cd_C_findShare : Cond.code y_C_findShare b_C_findShare 1 none ∈ zTb := zTb_of (tm3 (List.mem_of_getElem? (i := 108) rfl)) rfl
set_option maxRecDepth 20000 in
theorem im_C_findShare : Cond.instanceMethod y_C_findShare ∈ zTb := zTb_of (tm3 (List.mem_of_getElem? (i := 107) rfl)) rfl
set_option maxRecDepth 20000 in
theorem se_C_findShare : Cond.selects y_C_findShare.cls y_C_findShare y_C_findShare ∈ zTb := zTb_sel (q := (y_C_findShare, 13)) (List.mem_append_right _ (List.mem_append_left _ (List.mem_of_getElem? (i := 3) rfl))) rfl
set_option maxRecDepth 20000 in
theorem cd_D_root : Cond.code y_D_root b_D_root 4 none ∈ zTb := zTb_of (tm3 (List.mem_of_getElem? (i := 115) rfl)) rfl
set_option maxRecDepth 20000 in
theorem im_D_root : Cond.instanceMethod y_D_root ∈ zTb := zTb_of (tm3 (List.mem_of_getElem? (i := 113) rfl)) rfl
set_option maxRecDepth 20000 in
theorem se_D_root : Cond.selects y_D_root.cls y_D_root y_D_root ∈ zTb := zTb_of (tm3 (List.mem_of_getElem? (i := 114) rfl)) rfl
set_option maxRecDepth 20000 in
theorem cd_N_digitCount : Cond.code y_N_digitCount b_N_digitCount 1 (some .int) ∈ zTb := zTb_of (tm3 (List.mem_of_getElem? (i := 120) rfl)) rfl
set_option maxRecDepth 20000 in
theorem im_N_digitCount : Cond.instanceMethod y_N_digitCount ∈ zTb := zTb_of (tm3 (List.mem_of_getElem? (i := 118) rfl)) rfl
set_option maxRecDepth 20000 in
theorem se_N_digitCount : Cond.selects y_N_digitCount.cls y_N_digitCount y_N_digitCount ∈ zTb := zTb_of (tm3 (List.mem_of_getElem? (i := 119) rfl)) rfl
set_option maxRecDepth 20000 in
theorem cd_D_powerOfTen : Cond.code y_D_powerOfTen b_D_powerOfTen 4 none ∈ zTb := zTb_of (tm3 (List.mem_of_getElem? (i := 124) rfl)) rfl
set_option maxRecDepth 20000 in
theorem sm_D_powerOfTen : Cond.static y_D_powerOfTen ∈ zTb := zTb_of (tm3 (List.mem_of_getElem? (i := 123) rfl)) rfl
set_option maxRecDepth 20000 in
theorem cd_C_placeX : Cond.code y_C_placeX b_C_placeX 2 (some .boolean) ∈ zTb := zTb_of (tm3 (List.mem_of_getElem? (i := 129) rfl)) rfl
set_option maxRecDepth 20000 in
theorem im_C_placeX : Cond.instanceMethod y_C_placeX ∈ zTb := zTb_of (tm3 (List.mem_of_getElem? (i := 128) rfl)) rfl
set_option maxRecDepth 20000 in
theorem se_C_placeX : Cond.selects y_C_placeX.cls y_C_placeX y_C_placeX ∈ zTb := zTb_sel (q := (y_C_placeX, 13)) (List.mem_append_right _ (List.mem_append_left _ (List.mem_of_getElem? (i := 4) rfl))) rfl
set_option maxRecDepth 20000 in
theorem cd_C_placeY : Cond.code y_C_placeY b_C_placeY 4 none ∈ zTb := zTb_of (tm3 (List.mem_of_getElem? (i := 135) rfl)) rfl
set_option maxRecDepth 20000 in
theorem im_C_placeY : Cond.instanceMethod y_C_placeY ∈ zTb := zTb_of (tm3 (List.mem_of_getElem? (i := 134) rfl)) rfl
set_option maxRecDepth 20000 in
theorem se_C_placeY : Cond.selects y_C_placeY.cls y_C_placeY y_C_placeY ∈ zTb := zTb_sel (q := (y_C_placeY, 13)) (List.mem_append_right _ (List.mem_append_left _ (List.mem_of_getElem? (i := 5) rfl))) rfl
set_option maxRecDepth 20000 in
theorem cd_C_turnOver : Cond.code y_C_turnOver b_C_turnOver 2 none ∈ zTb := zTb_of (tm3 (List.mem_of_getElem? (i := 139) rfl)) rfl
set_option maxRecDepth 20000 in
theorem im_C_turnOver : Cond.instanceMethod y_C_turnOver ∈ zTb := zTb_of (tm3 (List.mem_of_getElem? (i := 137) rfl)) rfl
set_option maxRecDepth 20000 in
theorem se_C_turnOver : Cond.selects y_C_turnOver.cls y_C_turnOver y_C_turnOver ∈ zTb := zTb_of (tm3 (List.mem_of_getElem? (i := 138) rfl)) rfl
set_option maxRecDepth 20000 in
theorem cd_X_keep : Cond.code y_X_keep b_X_keep 3 (some .int) ∈ zTb := zTb_of (tm3 (List.mem_of_getElem? (i := 144) rfl)) rfl
set_option maxRecDepth 20000 in
theorem im_X_keep : Cond.instanceMethod y_X_keep ∈ zTb := zTb_of (tm3 (List.mem_of_getElem? (i := 143) rfl)) rfl
set_option maxRecDepth 20000 in
theorem se_X_keep : Cond.selects y_X_keep.cls y_X_keep y_X_keep ∈ zTb := zTb_sel (q := (y_X_keep, 7)) (List.mem_append_right _ (List.mem_append_left _ (List.mem_of_getElem? (i := 6) rfl))) rfl
set_option maxRecDepth 20000 in
theorem cd_P_isLongerThan : Cond.code y_P_isLongerThan b_P_isLongerThan 2 (some .boolean) ∈ zTb := zTb_of (tm3 (List.mem_of_getElem? (i := 148) rfl)) rfl
set_option maxRecDepth 20000 in
theorem im_P_isLongerThan : Cond.instanceMethod y_P_isLongerThan ∈ zTb := zTb_of (tm3 (List.mem_of_getElem? (i := 146) rfl)) rfl
set_option maxRecDepth 20000 in
theorem se_P_isLongerThan : Cond.selects y_P_isLongerThan.cls y_P_isLongerThan y_P_isLongerThan ∈ zTb := zTb_of (tm3 (List.mem_of_getElem? (i := 147) rfl)) rfl
set_option maxRecDepth 20000 in
theorem cd_P_isWiderThan : Cond.code y_P_isWiderThan b_P_isWiderThan 2 (some .boolean) ∈ zTb := zTb_of (tm3 (List.mem_of_getElem? (i := 152) rfl)) rfl
set_option maxRecDepth 20000 in
theorem im_P_isWiderThan : Cond.instanceMethod y_P_isWiderThan ∈ zTb := zTb_of (tm3 (List.mem_of_getElem? (i := 150) rfl)) rfl
set_option maxRecDepth 20000 in
theorem se_P_isWiderThan : Cond.selects y_P_isWiderThan.cls y_P_isWiderThan y_P_isWiderThan ∈ zTb := zTb_of (tm3 (List.mem_of_getElem? (i := 151) rfl)) rfl
set_option maxRecDepth 20000 in
theorem cd_X_less : Cond.code y_X_less b_X_less 4 (some .int) ∈ zTb := zTb_of (tm3 (List.mem_of_getElem? (i := 158) rfl)) rfl
set_option maxRecDepth 20000 in
theorem im_X_less : Cond.instanceMethod y_X_less ∈ zTb := zTb_of (tm3 (List.mem_of_getElem? (i := 156) rfl)) rfl
set_option maxRecDepth 20000 in
theorem se_X_less : Cond.selects y_X_less.cls y_X_less y_X_less ∈ zTb := zTb_of (tm3 (List.mem_of_getElem? (i := 157) rfl)) rfl
set_option maxRecDepth 20000 in
theorem cd_X_times : Cond.code y_X_times b_X_times 6 (some .int) ∈ zTb := zTb_of (tm3 (List.mem_of_getElem? (i := 163) rfl)) rfl
set_option maxRecDepth 20000 in
theorem im_X_times : Cond.instanceMethod y_X_times ∈ zTb := zTb_of (tm3 (List.mem_of_getElem? (i := 161) rfl)) rfl
set_option maxRecDepth 20000 in
theorem se_X_times : Cond.selects y_X_times.cls y_X_times y_X_times ∈ zTb := zTb_of (tm3 (List.mem_of_getElem? (i := 162) rfl)) rfl
set_option maxRecDepth 20000 in
theorem cd_X_order : Cond.code y_X_order b_X_order 3 (some .int) ∈ zTb := zTb_of (tm3 (List.mem_of_getElem? (i := 170) rfl)) rfl
set_option maxRecDepth 20000 in
theorem im_X_order : Cond.instanceMethod y_X_order ∈ zTb := zTb_of (tm3 (List.mem_of_getElem? (i := 168) rfl)) rfl
set_option maxRecDepth 20000 in
theorem se_X_order : Cond.selects y_X_order.cls y_X_order y_X_order ∈ zTb := zTb_of (tm3 (List.mem_of_getElem? (i := 169) rfl)) rfl
set_option maxRecDepth 20000 in
theorem cd_X_isNone : Cond.code y_X_isNone b_X_isNone 2 (some .boolean) ∈ zTb := zTb_of (tm3 (List.mem_of_getElem? (i := 174) rfl)) rfl
set_option maxRecDepth 20000 in
theorem im_X_isNone : Cond.instanceMethod y_X_isNone ∈ zTb := zTb_of (tm3 (List.mem_of_getElem? (i := 172) rfl)) rfl
set_option maxRecDepth 20000 in
theorem se_X_isNone : Cond.selects y_X_isNone.cls y_X_isNone y_X_isNone ∈ zTb := zTb_of (tm3 (List.mem_of_getElem? (i := 173) rfl)) rfl
set_option maxRecDepth 20000 in
theorem cd_X_same : Cond.code y_X_same b_X_same 3 (some .boolean) ∈ zTb := zTb_of (tm3 (List.mem_of_getElem? (i := 178) rfl)) rfl
set_option maxRecDepth 20000 in
theorem im_X_same : Cond.instanceMethod y_X_same ∈ zTb := zTb_of (tm3 (List.mem_of_getElem? (i := 176) rfl)) rfl
set_option maxRecDepth 20000 in
theorem se_X_same : Cond.selects y_X_same.cls y_X_same y_X_same ∈ zTb := zTb_of (tm3 (List.mem_of_getElem? (i := 177) rfl)) rfl
set_option maxRecDepth 20000 in
theorem cd_X_digits : Cond.code y_X_digits b_X_digits 3 (some .int) ∈ zTb := zTb_of (tm3 (List.mem_of_getElem? (i := 183) rfl)) rfl
set_option maxRecDepth 20000 in
theorem im_X_digits : Cond.instanceMethod y_X_digits ∈ zTb := zTb_of (tm3 (List.mem_of_getElem? (i := 181) rfl)) rfl
set_option maxRecDepth 20000 in
theorem se_X_digits : Cond.selects y_X_digits.cls y_X_digits y_X_digits ∈ zTb := zTb_of (tm3 (List.mem_of_getElem? (i := 182) rfl)) rfl
set_option maxRecDepth 20000 in
theorem cd_X_hasNumber : Cond.code y_X_hasNumber b_X_hasNumber 3 (some .boolean) ∈ zTb := zTb_of (tm3 (List.mem_of_getElem? (i := 187) rfl)) rfl
set_option maxRecDepth 20000 in
theorem im_X_hasNumber : Cond.instanceMethod y_X_hasNumber ∈ zTb := zTb_of (tm3 (List.mem_of_getElem? (i := 186) rfl)) rfl
set_option maxRecDepth 20000 in
theorem se_X_hasNumber : Cond.selects y_X_hasNumber.cls y_X_hasNumber y_X_hasNumber ∈ zTb := zTb_sel (q := (y_X_hasNumber, 7)) (List.mem_append_right _ (List.mem_append_left _ (List.mem_of_getElem? (i := 7) rfl))) rfl
set_option maxRecDepth 20000 in
theorem cd_P_number : Cond.code y_P_number b_P_number 2 (some (.object "ChordPoints$Num")) ∈ zTb := zTb_of (tm3 (List.mem_of_getElem? (i := 191) rfl)) rfl
set_option maxRecDepth 20000 in
theorem im_P_number : Cond.instanceMethod y_P_number ∈ zTb := zTb_of (tm3 (List.mem_of_getElem? (i := 189) rfl)) rfl
set_option maxRecDepth 20000 in
theorem se_P_number : Cond.selects y_P_number.cls y_P_number y_P_number ∈ zTb := zTb_of (tm3 (List.mem_of_getElem? (i := 190) rfl)) rfl
set_option maxRecDepth 20000 in
theorem cd_X_digitAt : Cond.code y_X_digitAt b_X_digitAt 6 (some .int) ∈ zTb := zTb_of (tm3 (List.mem_of_getElem? (i := 196) rfl)) rfl
set_option maxRecDepth 20000 in
theorem im_X_digitAt : Cond.instanceMethod y_X_digitAt ∈ zTb := zTb_of (tm3 (List.mem_of_getElem? (i := 194) rfl)) rfl
set_option maxRecDepth 20000 in
theorem se_X_digitAt : Cond.selects y_X_digitAt.cls y_X_digitAt y_X_digitAt ∈ zTb := zTb_of (tm3 (List.mem_of_getElem? (i := 195) rfl)) rfl
set_option maxRecDepth 20000 in
theorem cd_N_digitAbove : Cond.code y_N_digitAbove b_N_digitAbove 2 (some .int) ∈ zTb := zTb_of (tm3 (List.mem_of_getElem? (i := 200) rfl)) rfl
set_option maxRecDepth 20000 in
theorem im_N_digitAbove : Cond.instanceMethod y_N_digitAbove ∈ zTb := zTb_of (tm3 (List.mem_of_getElem? (i := 198) rfl)) rfl
set_option maxRecDepth 20000 in
theorem se_N_digitAbove : Cond.selects y_N_digitAbove.cls y_N_digitAbove y_N_digitAbove ∈ zTb := zTb_of (tm3 (List.mem_of_getElem? (i := 199) rfl)) rfl
set_option maxRecDepth 20000 in
theorem cd_X_sign : Cond.code y_X_sign b_X_sign 4 (some .int) ∈ zTb := zTb_of (tm3 (List.mem_of_getElem? (i := 204) rfl)) rfl
set_option maxRecDepth 20000 in
theorem im_X_sign : Cond.instanceMethod y_X_sign ∈ zTb := zTb_of (tm3 (List.mem_of_getElem? (i := 202) rfl)) rfl
set_option maxRecDepth 20000 in
theorem se_X_sign : Cond.selects y_X_sign.cls y_X_sign y_X_sign ∈ zTb := zTb_of (tm3 (List.mem_of_getElem? (i := 203) rfl)) rfl
set_option maxRecDepth 20000 in
theorem cd_M_init : Cond.code y_M_init b_M_init 1 none ∈ zTb := zTb_of (tm3 (List.mem_of_getElem? (i := 210) rfl)) rfl
set_option maxRecDepth 20000 in
theorem im_M_init : Cond.instanceMethod y_M_init ∈ zTb := zTb_of (tm3 (List.mem_of_getElem? (i := 209) rfl)) rfl
set_option maxRecDepth 20000 in
theorem cd_M_forget : Cond.code y_M_forget b_M_forget 2 none ∈ zTb := zTb_of (tm3 (List.mem_of_getElem? (i := 215) rfl)) rfl
set_option maxRecDepth 20000 in
theorem im_M_forget : Cond.instanceMethod y_M_forget ∈ zTb := zTb_of (tm3 (List.mem_of_getElem? (i := 214) rfl)) rfl
set_option maxRecDepth 20000 in
theorem se_M_forget : Cond.selects y_M_forget.cls y_M_forget y_M_forget ∈ zTb := zTb_sel (q := (y_M_forget, 5)) (List.mem_append_right _ (List.mem_append_left _ (List.mem_of_getElem? (i := 8) rfl))) rfl
set_option maxRecDepth 20000 in
theorem cd_M_set : Cond.code y_M_set b_M_set 6 none ∈ zTb := zTb_of (tm3 (List.mem_of_getElem? (i := 219) rfl)) rfl
set_option maxRecDepth 20000 in
theorem im_M_set : Cond.instanceMethod y_M_set ∈ zTb := zTb_of (tm3 (List.mem_of_getElem? (i := 218) rfl)) rfl
set_option maxRecDepth 20000 in
theorem se_M_set : Cond.selects y_M_set.cls y_M_set y_M_set ∈ zTb := zTb_sel (q := (y_M_set, 5)) (List.mem_append_right _ (List.mem_append_left _ (List.mem_of_getElem? (i := 9) rfl))) rfl
set_option maxRecDepth 20000 in
theorem cd_M_curve : Cond.code y_M_curve b_M_curve 14 (some .int) ∈ zTb := zTb_of (tm4 (List.mem_of_getElem? (i := 1) rfl)) rfl
set_option maxRecDepth 20000 in
theorem im_M_curve : Cond.instanceMethod y_M_curve ∈ zTb := zTb_of (tm3 (List.mem_of_getElem? (i := 239) rfl)) rfl
set_option maxRecDepth 20000 in
theorem se_M_curve : Cond.selects y_M_curve.cls y_M_curve y_M_curve ∈ zTb := zTb_of (tm4 (List.mem_of_getElem? (i := 0) rfl)) rfl
set_option maxRecDepth 20000 in
theorem cd_M_isIn : Cond.code y_M_isIn b_M_isIn 1 (some .boolean) ∈ zTb := zTb_of (tm4 (List.mem_of_getElem? (i := 4) rfl)) rfl
set_option maxRecDepth 20000 in
theorem sm_M_isIn : Cond.static y_M_isIn ∈ zTb := zTb_of (tm4 (List.mem_of_getElem? (i := 3) rfl)) rfl
set_option maxRecDepth 20000 in
theorem cd_M_product : Cond.code y_M_product b_M_product 10 none ∈ zTb := zTb_of (tm4 (List.mem_of_getElem? (i := 13) rfl)) rfl
set_option maxRecDepth 20000 in
theorem im_M_product : Cond.instanceMethod y_M_product ∈ zTb := zTb_of (tm4 (List.mem_of_getElem? (i := 12) rfl)) rfl
set_option maxRecDepth 20000 in
theorem se_M_product : Cond.selects y_M_product.cls y_M_product y_M_product ∈ zTb := zTb_sel (q := (y_M_product, 5)) (List.mem_append_right _ (List.mem_append_left _ (List.mem_of_getElem? (i := 10) rfl))) rfl
set_option maxRecDepth 20000 in
theorem cd_M_multiply : Cond.code y_M_multiply b_M_multiply 13 none ∈ zTb := zTb_of (tm4 (List.mem_of_getElem? (i := 17) rfl)) rfl
set_option maxRecDepth 20000 in
theorem im_M_multiply : Cond.instanceMethod y_M_multiply ∈ zTb := zTb_of (tm4 (List.mem_of_getElem? (i := 16) rfl)) rfl
set_option maxRecDepth 20000 in
theorem se_M_multiply : Cond.selects y_M_multiply.cls y_M_multiply y_M_multiply ∈ zTb := zTb_sel (q := (y_M_multiply, 5)) (List.mem_append_right _ (List.mem_append_left _ (List.mem_of_getElem? (i := 11) rfl))) rfl
set_option maxRecDepth 20000 in
theorem cd_M_trim : Cond.code y_M_trim b_M_trim 4 none ∈ zTb := zTb_of (tm4 (List.mem_of_getElem? (i := 21) rfl)) rfl
set_option maxRecDepth 20000 in
theorem im_M_trim : Cond.instanceMethod y_M_trim ∈ zTb := zTb_of (tm4 (List.mem_of_getElem? (i := 20) rfl)) rfl
set_option maxRecDepth 20000 in
theorem se_M_trim : Cond.selects y_M_trim.cls y_M_trim y_M_trim ∈ zTb := zTb_sel (q := (y_M_trim, 5)) (List.mem_append_right _ (List.mem_append_left _ (List.mem_of_getElem? (i := 12) rfl))) rfl
set_option maxRecDepth 20000 in
theorem cd_M_add : Cond.code y_M_add b_M_add 7 none ∈ zTb := zTb_of (tm4 (List.mem_of_getElem? (i := 25) rfl)) rfl
set_option maxRecDepth 20000 in
theorem im_M_add : Cond.instanceMethod y_M_add ∈ zTb := zTb_of (tm4 (List.mem_of_getElem? (i := 24) rfl)) rfl
set_option maxRecDepth 20000 in
theorem se_M_add : Cond.selects y_M_add.cls y_M_add y_M_add ∈ zTb := zTb_sel (q := (y_M_add, 5)) (List.mem_append_right _ (List.mem_append_left _ (List.mem_of_getElem? (i := 13) rfl))) rfl
set_option maxRecDepth 20000 in
theorem cd_M_copy : Cond.code y_M_copy b_M_copy 4 none ∈ zTb := zTb_of (tm4 (List.mem_of_getElem? (i := 29) rfl)) rfl
set_option maxRecDepth 20000 in
theorem im_M_copy : Cond.instanceMethod y_M_copy ∈ zTb := zTb_of (tm4 (List.mem_of_getElem? (i := 28) rfl)) rfl
set_option maxRecDepth 20000 in
theorem se_M_copy : Cond.selects y_M_copy.cls y_M_copy y_M_copy ∈ zTb := zTb_sel (q := (y_M_copy, 5)) (List.mem_append_right _ (List.mem_append_left _ (List.mem_of_getElem? (i := 14) rfl))) rfl
set_option maxRecDepth 20000 in
theorem cd_M_addSizes : Cond.code y_M_addSizes b_M_addSizes 10 none ∈ zTb := zTb_of (tm4 (List.mem_of_getElem? (i := 33) rfl)) rfl
set_option maxRecDepth 20000 in
theorem im_M_addSizes : Cond.instanceMethod y_M_addSizes ∈ zTb := zTb_of (tm4 (List.mem_of_getElem? (i := 32) rfl)) rfl
set_option maxRecDepth 20000 in
theorem se_M_addSizes : Cond.selects y_M_addSizes.cls y_M_addSizes y_M_addSizes ∈ zTb := zTb_sel (q := (y_M_addSizes, 5)) (List.mem_append_right _ (List.mem_append_left _ (List.mem_of_getElem? (i := 15) rfl))) rfl
set_option maxRecDepth 20000 in
theorem cd_M_compare : Cond.code y_M_compare b_M_compare 4 (some .int) ∈ zTb := zTb_of (tm4 (List.mem_of_getElem? (i := 38) rfl)) rfl
set_option maxRecDepth 20000 in
theorem im_M_compare : Cond.instanceMethod y_M_compare ∈ zTb := zTb_of (tm4 (List.mem_of_getElem? (i := 37) rfl)) rfl
set_option maxRecDepth 20000 in
theorem se_M_compare : Cond.selects y_M_compare.cls y_M_compare y_M_compare ∈ zTb := zTb_sel (q := (y_M_compare, 5)) (List.mem_append_right _ (List.mem_append_right _ (List.mem_append_left _ (List.mem_of_getElem? (i := 0) rfl)))) rfl
set_option maxRecDepth 20000 in
theorem cd_M_takeSizes : Cond.code y_M_takeSizes b_M_takeSizes 10 none ∈ zTb := zTb_of (tm4 (List.mem_of_getElem? (i := 42) rfl)) rfl
set_option maxRecDepth 20000 in
theorem im_M_takeSizes : Cond.instanceMethod y_M_takeSizes ∈ zTb := zTb_of (tm4 (List.mem_of_getElem? (i := 41) rfl)) rfl
set_option maxRecDepth 20000 in
theorem se_M_takeSizes : Cond.selects y_M_takeSizes.cls y_M_takeSizes y_M_takeSizes ∈ zTb := zTb_sel (q := (y_M_takeSizes, 5)) (List.mem_append_right _ (List.mem_append_right _ (List.mem_append_left _ (List.mem_of_getElem? (i := 1) rfl)))) rfl
set_option maxRecDepth 20000 in
theorem cd_M_none : Cond.code y_M_none b_M_none 2 (some .boolean) ∈ zTb := zTb_of (tm4 (List.mem_of_getElem? (i := 48) rfl)) rfl
set_option maxRecDepth 20000 in
theorem im_M_none : Cond.instanceMethod y_M_none ∈ zTb := zTb_of (tm4 (List.mem_of_getElem? (i := 46) rfl)) rfl
set_option maxRecDepth 20000 in
theorem se_M_none : Cond.selects y_M_none.cls y_M_none y_M_none ∈ zTb := zTb_of (tm4 (List.mem_of_getElem? (i := 47) rfl)) rfl
set_option maxRecDepth 20000 in
theorem cd_M_isSlot : Cond.code y_M_isSlot b_M_isSlot 1 (some .boolean) ∈ zTb := zTb_of (tm4 (List.mem_of_getElem? (i := 51) rfl)) rfl
set_option maxRecDepth 20000 in
theorem sm_M_isSlot : Cond.static y_M_isSlot ∈ zTb := zTb_of (tm4 (List.mem_of_getElem? (i := 50) rfl)) rfl
set_option maxRecDepth 20000 in
theorem cd_M_point : Cond.code y_M_point b_M_point 10 (some .int) ∈ zTb := zTb_of (tm4 (List.mem_of_getElem? (i := 55) rfl)) rfl
set_option maxRecDepth 20000 in
theorem im_M_point : Cond.instanceMethod y_M_point ∈ zTb := zTb_of (tm4 (List.mem_of_getElem? (i := 53) rfl)) rfl
set_option maxRecDepth 20000 in
theorem se_M_point : Cond.selects y_M_point.cls y_M_point y_M_point ∈ zTb := zTb_of (tm4 (List.mem_of_getElem? (i := 54) rfl)) rfl
set_option maxRecDepth 20000 in
theorem cd_M_fraction : Cond.code y_M_fraction b_M_fraction 7 none ∈ zTb := zTb_of (tm4 (List.mem_of_getElem? (i := 59) rfl)) rfl
set_option maxRecDepth 20000 in
theorem im_M_fraction : Cond.instanceMethod y_M_fraction ∈ zTb := zTb_of (tm4 (List.mem_of_getElem? (i := 58) rfl)) rfl
set_option maxRecDepth 20000 in
theorem se_M_fraction : Cond.selects y_M_fraction.cls y_M_fraction y_M_fraction ∈ zTb := zTb_sel (q := (y_M_fraction, 5)) (List.mem_append_right _ (List.mem_append_right _ (List.mem_append_left _ (List.mem_of_getElem? (i := 2) rfl)))) rfl
set_option maxRecDepth 20000 in
theorem cd_M_common : Cond.code y_M_common b_M_common 4 none ∈ zTb := zTb_of (tm4 (List.mem_of_getElem? (i := 63) rfl)) rfl
set_option maxRecDepth 20000 in
theorem im_M_common : Cond.instanceMethod y_M_common ∈ zTb := zTb_of (tm4 (List.mem_of_getElem? (i := 62) rfl)) rfl
set_option maxRecDepth 20000 in
theorem se_M_common : Cond.selects y_M_common.cls y_M_common y_M_common ∈ zTb := zTb_sel (q := (y_M_common, 5)) (List.mem_append_right _ (List.mem_append_right _ (List.mem_append_left _ (List.mem_of_getElem? (i := 3) rfl)))) rfl
set_option maxRecDepth 20000 in
theorem cd_M_divide : Cond.code y_M_divide b_M_divide 10 none ∈ zTb := zTb_of (tm4 (List.mem_of_getElem? (i := 67) rfl)) rfl
set_option maxRecDepth 20000 in
theorem im_M_divide : Cond.instanceMethod y_M_divide ∈ zTb := zTb_of (tm4 (List.mem_of_getElem? (i := 66) rfl)) rfl
set_option maxRecDepth 20000 in
theorem se_M_divide : Cond.selects y_M_divide.cls y_M_divide y_M_divide ∈ zTb := zTb_sel (q := (y_M_divide, 5)) (List.mem_append_right _ (List.mem_append_right _ (List.mem_append_left _ (List.mem_of_getElem? (i := 4) rfl)))) rfl
set_option maxRecDepth 20000 in
theorem cd_M_timesSmall : Cond.code y_M_timesSmall b_M_timesSmall 9 none ∈ zTb := zTb_of (tm4 (List.mem_of_getElem? (i := 71) rfl)) rfl
set_option maxRecDepth 20000 in
theorem im_M_timesSmall : Cond.instanceMethod y_M_timesSmall ∈ zTb := zTb_of (tm4 (List.mem_of_getElem? (i := 70) rfl)) rfl
set_option maxRecDepth 20000 in
theorem se_M_timesSmall : Cond.selects y_M_timesSmall.cls y_M_timesSmall y_M_timesSmall ∈ zTb := zTb_sel (q := (y_M_timesSmall, 5)) (List.mem_append_right _ (List.mem_append_right _ (List.mem_append_left _ (List.mem_of_getElem? (i := 5) rfl)))) rfl
set_option maxRecDepth 20000 in
theorem cd_M_place : Cond.code y_M_place b_M_place 26 (some .int) ∈ zTb := zTb_of (tm4 (List.mem_of_getElem? (i := 75) rfl)) rfl
set_option maxRecDepth 20000 in
theorem im_M_place : Cond.instanceMethod y_M_place ∈ zTb := zTb_of (tm4 (List.mem_of_getElem? (i := 74) rfl)) rfl
set_option maxRecDepth 20000 in
theorem se_M_place : Cond.selects y_M_place.cls y_M_place y_M_place ∈ zTb := zTb_sel (q := (y_M_place, 5)) (List.mem_append_right _ (List.mem_append_right _ (List.mem_append_left _ (List.mem_of_getElem? (i := 6) rfl)))) rfl
set_option maxRecDepth 20000 in
theorem cd_M_bySmall : Cond.code y_M_bySmall b_M_bySmall 8 none ∈ zTb := zTb_of (tm4 (List.mem_of_getElem? (i := 79) rfl)) rfl
set_option maxRecDepth 20000 in
theorem im_M_bySmall : Cond.instanceMethod y_M_bySmall ∈ zTb := zTb_of (tm4 (List.mem_of_getElem? (i := 78) rfl)) rfl
set_option maxRecDepth 20000 in
theorem se_M_bySmall : Cond.selects y_M_bySmall.cls y_M_bySmall y_M_bySmall ∈ zTb := zTb_sel (q := (y_M_bySmall, 5)) (List.mem_append_right _ (List.mem_append_right _ (List.mem_append_left _ (List.mem_of_getElem? (i := 7) rfl)))) rfl
set_option maxRecDepth 20000 in
theorem cd_M_share : Cond.code y_M_share b_M_share 5 none ∈ zTb := zTb_of (tm4 (List.mem_of_getElem? (i := 83) rfl)) rfl
set_option maxRecDepth 20000 in
theorem im_M_share : Cond.instanceMethod y_M_share ∈ zTb := zTb_of (tm4 (List.mem_of_getElem? (i := 82) rfl)) rfl
set_option maxRecDepth 20000 in
theorem se_M_share : Cond.selects y_M_share.cls y_M_share y_M_share ∈ zTb := zTb_sel (q := (y_M_share, 5)) (List.mem_append_right _ (List.mem_append_right _ (List.mem_append_left _ (List.mem_of_getElem? (i := 8) rfl)))) rfl
set_option maxRecDepth 20000 in
theorem cd_M_more : Cond.code y_M_more b_M_more 5 none ∈ zTb := zTb_of (tm4 (List.mem_of_getElem? (i := 87) rfl)) rfl
set_option maxRecDepth 20000 in
theorem im_M_more : Cond.instanceMethod y_M_more ∈ zTb := zTb_of (tm4 (List.mem_of_getElem? (i := 86) rfl)) rfl
set_option maxRecDepth 20000 in
theorem se_M_more : Cond.selects y_M_more.cls y_M_more y_M_more ∈ zTb := zTb_sel (q := (y_M_more, 5)) (List.mem_append_right _ (List.mem_append_right _ (List.mem_append_left _ (List.mem_of_getElem? (i := 9) rfl)))) rfl
set_option maxRecDepth 20000 in
theorem cd_M_isSame : Cond.code y_M_isSame b_M_isSame 3 (some .boolean) ∈ zTb := zTb_of (tm4 (List.mem_of_getElem? (i := 91) rfl)) rfl
set_option maxRecDepth 20000 in
theorem im_M_isSame : Cond.instanceMethod y_M_isSame ∈ zTb := zTb_of (tm4 (List.mem_of_getElem? (i := 90) rfl)) rfl
set_option maxRecDepth 20000 in
theorem se_M_isSame : Cond.selects y_M_isSame.cls y_M_isSame y_M_isSame ∈ zTb := zTb_sel (q := (y_M_isSame, 5)) (List.mem_append_right _ (List.mem_append_right _ (List.mem_append_left _ (List.mem_of_getElem? (i := 10) rfl)))) rfl
set_option maxRecDepth 20000 in
theorem cd_M_move : Cond.code y_M_move b_M_move 4 none ∈ zTb := zTb_of (tm4 (List.mem_of_getElem? (i := 95) rfl)) rfl
set_option maxRecDepth 20000 in
theorem im_M_move : Cond.instanceMethod y_M_move ∈ zTb := zTb_of (tm4 (List.mem_of_getElem? (i := 94) rfl)) rfl
set_option maxRecDepth 20000 in
theorem se_M_move : Cond.selects y_M_move.cls y_M_move y_M_move ∈ zTb := zTb_sel (q := (y_M_move, 5)) (List.mem_append_right _ (List.mem_append_right _ (List.mem_append_left _ (List.mem_of_getElem? (i := 11) rfl)))) rfl
set_option maxRecDepth 20000 in
theorem cd_M_sum : Cond.code y_M_sum b_M_sum 4 (some .int) ∈ zTb := zTb_of (tm4 (List.mem_of_getElem? (i := 99) rfl)) rfl
set_option maxRecDepth 20000 in
theorem im_M_sum : Cond.instanceMethod y_M_sum ∈ zTb := zTb_of (tm4 (List.mem_of_getElem? (i := 97) rfl)) rfl
set_option maxRecDepth 20000 in
theorem se_M_sum : Cond.selects y_M_sum.cls y_M_sum y_M_sum ∈ zTb := zTb_of (tm4 (List.mem_of_getElem? (i := 98) rfl)) rfl
set_option maxRecDepth 20000 in
theorem cd_M_join : Cond.code y_M_join b_M_join 1 none ∈ zTb := zTb_of (tm4 (List.mem_of_getElem? (i := 103) rfl)) rfl
set_option maxRecDepth 20000 in
theorem im_M_join : Cond.instanceMethod y_M_join ∈ zTb := zTb_of (tm4 (List.mem_of_getElem? (i := 102) rfl)) rfl
set_option maxRecDepth 20000 in
theorem se_M_join : Cond.selects y_M_join.cls y_M_join y_M_join ∈ zTb := zTb_sel (q := (y_M_join, 5)) (List.mem_append_right _ (List.mem_append_right _ (List.mem_append_left _ (List.mem_of_getElem? (i := 12) rfl)))) rfl
set_option maxRecDepth 20000 in
theorem cd_M_isOther : Cond.code y_M_isOther b_M_isOther 1 (some .boolean) ∈ zTb := zTb_of (tm4 (List.mem_of_getElem? (i := 107) rfl)) rfl
set_option maxRecDepth 20000 in
theorem im_M_isOther : Cond.instanceMethod y_M_isOther ∈ zTb := zTb_of (tm4 (List.mem_of_getElem? (i := 106) rfl)) rfl
set_option maxRecDepth 20000 in
theorem se_M_isOther : Cond.selects y_M_isOther.cls y_M_isOther y_M_isOther ∈ zTb := zTb_sel (q := (y_M_isOther, 5)) (List.mem_append_right _ (List.mem_append_right _ (List.mem_append_left _ (List.mem_of_getElem? (i := 13) rfl)))) rfl
set_option maxRecDepth 20000 in
theorem cd_M_touch : Cond.code y_M_touch b_M_touch 1 none ∈ zTb := zTb_of (tm4 (List.mem_of_getElem? (i := 111) rfl)) rfl
set_option maxRecDepth 20000 in
theorem im_M_touch : Cond.instanceMethod y_M_touch ∈ zTb := zTb_of (tm4 (List.mem_of_getElem? (i := 110) rfl)) rfl
set_option maxRecDepth 20000 in
theorem se_M_touch : Cond.selects y_M_touch.cls y_M_touch y_M_touch ∈ zTb := zTb_sel (q := (y_M_touch, 5)) (List.mem_append_right _ (List.mem_append_right _ (List.mem_append_left _ (List.mem_of_getElem? (i := 14) rfl)))) rfl
set_option maxRecDepth 20000 in
theorem cd_M_finish : Cond.code y_M_finish b_M_finish 1 none ∈ zTb := zTb_of (tm4 (List.mem_of_getElem? (i := 116) rfl)) rfl
set_option maxRecDepth 20000 in
theorem im_M_finish : Cond.instanceMethod y_M_finish ∈ zTb := zTb_of (tm4 (List.mem_of_getElem? (i := 115) rfl)) rfl
set_option maxRecDepth 20000 in
theorem se_M_finish : Cond.selects y_M_finish.cls y_M_finish y_M_finish ∈ zTb := zTb_sel (q := (y_M_finish, 5)) (List.mem_append_right _ (List.mem_append_right _ (List.mem_append_left _ (List.mem_of_getElem? (i := 15) rfl)))) rfl
set_option maxRecDepth 20000 in
theorem cd_M_settle : Cond.code y_M_settle b_M_settle 2 (some .int) ∈ zTb := zTb_of (tm4 (List.mem_of_getElem? (i := 120) rfl)) rfl
set_option maxRecDepth 20000 in
theorem im_M_settle : Cond.instanceMethod y_M_settle ∈ zTb := zTb_of (tm4 (List.mem_of_getElem? (i := 119) rfl)) rfl
set_option maxRecDepth 20000 in
theorem se_M_settle : Cond.selects y_M_settle.cls y_M_settle y_M_settle ∈ zTb := zTb_sel (q := (y_M_settle, 5)) (List.mem_append_right _ (List.mem_append_right _ (List.mem_append_right _ (List.mem_of_getElem? (i := 0) rfl)))) rfl
set_option maxRecDepth 20000 in
theorem cd_M_isTooLong : Cond.code y_M_isTooLong b_M_isTooLong 2 (some .boolean) ∈ zTb := zTb_of (tm4 (List.mem_of_getElem? (i := 124) rfl)) rfl
set_option maxRecDepth 20000 in
theorem im_M_isTooLong : Cond.instanceMethod y_M_isTooLong ∈ zTb := zTb_of (tm4 (List.mem_of_getElem? (i := 123) rfl)) rfl
set_option maxRecDepth 20000 in
theorem se_M_isTooLong : Cond.selects y_M_isTooLong.cls y_M_isTooLong y_M_isTooLong ∈ zTb := zTb_sel (q := (y_M_isTooLong, 5)) (List.mem_append_right _ (List.mem_append_right _ (List.mem_append_right _ (List.mem_of_getElem? (i := 1) rfl)))) rfl
set_option maxRecDepth 20000 in
theorem cd_M_digitsOf : Cond.code y_M_digitsOf b_M_digitsOf 4 (some .int) ∈ zTb := zTb_of (tm4 (List.mem_of_getElem? (i := 128) rfl)) rfl
set_option maxRecDepth 20000 in
theorem im_M_digitsOf : Cond.instanceMethod y_M_digitsOf ∈ zTb := zTb_of (tm4 (List.mem_of_getElem? (i := 127) rfl)) rfl
set_option maxRecDepth 20000 in
theorem se_M_digitsOf : Cond.selects y_M_digitsOf.cls y_M_digitsOf y_M_digitsOf ∈ zTb := zTb_sel (q := (y_M_digitsOf, 5)) (List.mem_append_right _ (List.mem_append_right _ (List.mem_append_right _ (List.mem_of_getElem? (i := 2) rfl)))) rfl
set_option maxRecDepth 20000 in
theorem cd_M_less : Cond.code y_M_less b_M_less 4 (some .int) ∈ zTb := zTb_of (tm4 (List.mem_of_getElem? (i := 132) rfl)) rfl
set_option maxRecDepth 20000 in
theorem im_M_less : Cond.instanceMethod y_M_less ∈ zTb := zTb_of (tm4 (List.mem_of_getElem? (i := 130) rfl)) rfl
set_option maxRecDepth 20000 in
theorem se_M_less : Cond.selects y_M_less.cls y_M_less y_M_less ∈ zTb := zTb_of (tm4 (List.mem_of_getElem? (i := 131) rfl)) rfl
set_option maxRecDepth 20000 in
theorem cd_M_turn : Cond.code y_M_turn b_M_turn 2 none ∈ zTb := zTb_of (tm4 (List.mem_of_getElem? (i := 136) rfl)) rfl
set_option maxRecDepth 20000 in
theorem im_M_turn : Cond.instanceMethod y_M_turn ∈ zTb := zTb_of (tm4 (List.mem_of_getElem? (i := 135) rfl)) rfl
set_option maxRecDepth 20000 in
theorem se_M_turn : Cond.selects y_M_turn.cls y_M_turn y_M_turn ∈ zTb := zTb_sel (q := (y_M_turn, 5)) (List.mem_append_right _ (List.mem_append_right _ (List.mem_append_right _ (List.mem_of_getElem? (i := 3) rfl)))) rfl
set_option maxRecDepth 20000 in
theorem cd_M_times : Cond.code y_M_times b_M_times 6 (some .int) ∈ zTb := zTb_of (tm4 (List.mem_of_getElem? (i := 140) rfl)) rfl
set_option maxRecDepth 20000 in
theorem im_M_times : Cond.instanceMethod y_M_times ∈ zTb := zTb_of (tm4 (List.mem_of_getElem? (i := 138) rfl)) rfl
set_option maxRecDepth 20000 in
theorem se_M_times : Cond.selects y_M_times.cls y_M_times y_M_times ∈ zTb := zTb_of (tm4 (List.mem_of_getElem? (i := 139) rfl)) rfl
set_option maxRecDepth 20000 in
theorem cd_M_isFar : Cond.code y_M_isFar b_M_isFar 1 (some .boolean) ∈ zTb := zTb_of (tm4 (List.mem_of_getElem? (i := 147) rfl)) rfl
set_option maxRecDepth 20000 in
theorem im_M_isFar : Cond.instanceMethod y_M_isFar ∈ zTb := zTb_of (tm4 (List.mem_of_getElem? (i := 146) rfl)) rfl
set_option maxRecDepth 20000 in
theorem se_M_isFar : Cond.selects y_M_isFar.cls y_M_isFar y_M_isFar ∈ zTb := zTb_sel (q := (y_M_isFar, 5)) (List.mem_append_right _ (List.mem_append_right _ (List.mem_append_right _ (List.mem_of_getElem? (i := 4) rfl)))) rfl
set_option maxRecDepth 20000 in
theorem cd_M_order : Cond.code y_M_order b_M_order 3 (some .int) ∈ zTb := zTb_of (tm4 (List.mem_of_getElem? (i := 151) rfl)) rfl
set_option maxRecDepth 20000 in
theorem im_M_order : Cond.instanceMethod y_M_order ∈ zTb := zTb_of (tm4 (List.mem_of_getElem? (i := 149) rfl)) rfl
set_option maxRecDepth 20000 in
theorem se_M_order : Cond.selects y_M_order.cls y_M_order y_M_order ∈ zTb := zTb_of (tm4 (List.mem_of_getElem? (i := 150) rfl)) rfl
set_option maxRecDepth 20000 in
theorem cd_M_isNone : Cond.code y_M_isNone b_M_isNone 2 (some .boolean) ∈ zTb := zTb_of (tm4 (List.mem_of_getElem? (i := 155) rfl)) rfl
set_option maxRecDepth 20000 in
theorem im_M_isNone : Cond.instanceMethod y_M_isNone ∈ zTb := zTb_of (tm4 (List.mem_of_getElem? (i := 153) rfl)) rfl
set_option maxRecDepth 20000 in
theorem se_M_isNone : Cond.selects y_M_isNone.cls y_M_isNone y_M_isNone ∈ zTb := zTb_of (tm4 (List.mem_of_getElem? (i := 154) rfl)) rfl
set_option maxRecDepth 20000 in
theorem cd_M_same : Cond.code y_M_same b_M_same 3 (some .boolean) ∈ zTb := zTb_of (tm4 (List.mem_of_getElem? (i := 159) rfl)) rfl
set_option maxRecDepth 20000 in
theorem im_M_same : Cond.instanceMethod y_M_same ∈ zTb := zTb_of (tm4 (List.mem_of_getElem? (i := 157) rfl)) rfl
set_option maxRecDepth 20000 in
theorem se_M_same : Cond.selects y_M_same.cls y_M_same y_M_same ∈ zTb := zTb_of (tm4 (List.mem_of_getElem? (i := 158) rfl)) rfl
set_option maxRecDepth 20000 in
theorem cd_M_digits : Cond.code y_M_digits b_M_digits 3 (some .int) ∈ zTb := zTb_of (tm4 (List.mem_of_getElem? (i := 163) rfl)) rfl
set_option maxRecDepth 20000 in
theorem im_M_digits : Cond.instanceMethod y_M_digits ∈ zTb := zTb_of (tm4 (List.mem_of_getElem? (i := 161) rfl)) rfl
set_option maxRecDepth 20000 in
theorem se_M_digits : Cond.selects y_M_digits.cls y_M_digits y_M_digits ∈ zTb := zTb_of (tm4 (List.mem_of_getElem? (i := 162) rfl)) rfl
set_option maxRecDepth 20000 in
theorem cd_M_take : Cond.code y_M_take b_M_take 4 (some .boolean) ∈ zTb := zTb_of (tm4 (List.mem_of_getElem? (i := 167) rfl)) rfl
set_option maxRecDepth 20000 in
theorem im_M_take : Cond.instanceMethod y_M_take ∈ zTb := zTb_of (tm4 (List.mem_of_getElem? (i := 166) rfl)) rfl
set_option maxRecDepth 20000 in
theorem se_M_take : Cond.selects y_M_take.cls y_M_take y_M_take ∈ zTb := zTb_sel (q := (y_M_take, 5)) (List.mem_append_right _ (List.mem_append_right _ (List.mem_append_right _ (List.mem_of_getElem? (i := 5) rfl)))) rfl
set_option maxRecDepth 20000 in
theorem cd_M_digitAt : Cond.code y_M_digitAt b_M_digitAt 8 (some .int) ∈ zTb := zTb_of (tm4 (List.mem_of_getElem? (i := 171) rfl)) rfl
set_option maxRecDepth 20000 in
theorem im_M_digitAt : Cond.instanceMethod y_M_digitAt ∈ zTb := zTb_of (tm4 (List.mem_of_getElem? (i := 169) rfl)) rfl
set_option maxRecDepth 20000 in
theorem se_M_digitAt : Cond.selects y_M_digitAt.cls y_M_digitAt y_M_digitAt ∈ zTb := zTb_of (tm4 (List.mem_of_getElem? (i := 170) rfl)) rfl
set_option maxRecDepth 20000 in
theorem cd_M_sign : Cond.code y_M_sign b_M_sign 3 (some .int) ∈ zTb := zTb_of (tm4 (List.mem_of_getElem? (i := 175) rfl)) rfl
set_option maxRecDepth 20000 in
theorem im_M_sign : Cond.instanceMethod y_M_sign ∈ zTb := zTb_of (tm4 (List.mem_of_getElem? (i := 173) rfl)) rfl
set_option maxRecDepth 20000 in
theorem se_M_sign : Cond.selects y_M_sign.cls y_M_sign y_M_sign ∈ zTb := zTb_of (tm4 (List.mem_of_getElem? (i := 174) rfl)) rfl
set_option maxRecDepth 20000 in
theorem ca_L_9 : zCa R_law 9 y_X_init b_X_init 4 none 0 := ⟨⟨cd_X_init, ini_X, by decide +kernel, by decide +kernel, by decide +kernel⟩, Or.inl (zTb_of (tm1 (List.mem_of_getElem? (i := 14) rfl)) rfl)⟩
set_option maxRecDepth 20000 in
theorem ca_X_9 : zCa R_X 9 y_R_init b_R_init 1 none 0 := ⟨⟨cd_R_init, ini_R, by decide +kernel, by decide +kernel, by decide +kernel⟩, Or.inr ⟨_, zN_of (tm1 (List.mem_of_getElem? (i := 22) rfl)) rfl⟩⟩
set_option maxRecDepth 20000 in
theorem ca_R_23 : zCa R_R 23 y_N_init b_N_init 2 none 1 := ⟨⟨cd_N_init, ini_N, by decide +kernel, by decide +kernel, by decide +kernel⟩, Or.inl (zTb_of (tm1 (List.mem_of_getElem? (i := 28) rfl)) rfl)⟩
set_option maxRecDepth 20000 in
theorem ca_X_12 : zCa R_X 12 y_D_init b_D_init 2 none 1 := ⟨⟨cd_D_init, ini_D, by decide +kernel, by decide +kernel, by decide +kernel⟩, Or.inl (zTb_of (tm1 (List.mem_of_getElem? (i := 76) rfl)) rfl)⟩
set_option maxRecDepth 20000 in
theorem ca_D_11 : zCa R_D 11 y_N_init b_N_init 2 none 1 := ⟨⟨cd_N_init, ini_N, by decide +kernel, by decide +kernel, by decide +kernel⟩, Or.inl (zTb_of (tm1 (List.mem_of_getElem? (i := 81) rfl)) rfl)⟩
set_option maxRecDepth 20000 in
theorem ca_D_38 : zCa R_D 38 y_N_become_J b_N_become_J 7 none 1 := ⟨⟨cd_N_become_J, ini_N, by decide +kernel, by decide +kernel, by decide +kernel⟩, Or.inl (zTb_of (tm1 (List.mem_of_getElem? (i := 83) rfl)) rfl)⟩
set_option maxRecDepth 20000 in
theorem ca_X_17 : zCa R_X 17 y_Q_init b_Q_init 1 none 0 := ⟨⟨cd_Q_init, ini_Q, by decide +kernel, by decide +kernel, by decide +kernel⟩, Or.inr ⟨_, zN_of (tm1 (List.mem_of_getElem? (i := 121) rfl)) rfl⟩⟩
set_option maxRecDepth 20000 in
theorem ca_Q_11 : zCa R_Q 11 y_N_init b_N_init 2 none 1 := ⟨⟨cd_N_init, ini_N, by decide +kernel, by decide +kernel, by decide +kernel⟩, Or.inl (zTb_of (tm1 (List.mem_of_getElem? (i := 126) rfl)) rfl)⟩
set_option maxRecDepth 20000 in
theorem ca_X_24 : zCa R_X 24 y_Q_become b_Q_become 11 none 5 := ⟨⟨cd_Q_become, ini_Q, by decide +kernel, by decide +kernel, by decide +kernel⟩, Or.inl (zTb_of (tm1 (List.mem_of_getElem? (i := 171) rfl)) rfl)⟩
set_option maxRecDepth 20000 in
theorem ca_Q_47 : zCa R_Q 47 y_N_become_J b_N_become_J 7 none 1 := ⟨⟨cd_N_become_J, ini_N, by decide +kernel, by decide +kernel, by decide +kernel⟩, Or.inl (zTb_of (tm1 (List.mem_of_getElem? (i := 175) rfl)) rfl)⟩
set_option maxRecDepth 20000 in
theorem ca_Q_53 : zCa R_Q 53 y_Q_b4 b_Q_b4 6 (some .long) 3 := ⟨⟨cd_Q_b4, ini_Q, by decide +kernel, by decide +kernel, by decide +kernel⟩, Or.inl (zTb_of (tm1 (List.mem_of_getElem? (i := 177) rfl)) rfl)⟩
set_option maxRecDepth 20000 in
theorem ca_Q_56 : zCa R_Q 56 y_Q_b6 b_Q_b6 4 (some .long) 2 := ⟨⟨cd_Q_b6, ini_Q, by decide +kernel, by decide +kernel, by decide +kernel⟩, Or.inl (zTb_of (tm1 (List.mem_of_getElem? (i := 180) rfl)) rfl)⟩
set_option maxRecDepth 20000 in
theorem ca_Q_60 : zCa R_Q 60 y_Q_b8 b_Q_b8 10 (some .long) 5 := ⟨⟨cd_Q_b8, ini_Q, by decide +kernel, by decide +kernel, by decide +kernel⟩, Or.inl (zTb_of (tm1 (List.mem_of_getElem? (i := 184) rfl)) rfl)⟩
set_option maxRecDepth 20000 in
theorem ca_X_30 : zCa R_X 30 y_C_init b_C_init 4 none 3 := ⟨⟨cd_C_init, ini_C, by decide +kernel, by decide +kernel, by decide +kernel⟩, Or.inl (zTb_of (tm1 (List.mem_of_getElem? (i := 189) rfl)) rfl)⟩
set_option maxRecDepth 20000 in
theorem ca_C_11 : zCa R_C 11 y_N_init b_N_init 2 none 1 := ⟨⟨cd_N_init, ini_N, by decide +kernel, by decide +kernel, by decide +kernel⟩, Or.inl (zTb_of (tm1 (List.mem_of_getElem? (i := 194) rfl)) rfl)⟩
set_option maxRecDepth 20000 in
theorem ca_X_39 : zCa R_X 39 y_E_init b_E_init 4 none 3 := ⟨⟨cd_E_init, ini_E, by decide +kernel, by decide +kernel, by decide +kernel⟩, Or.inl (zTb_of (tm1 (List.mem_of_getElem? (i := 237) rfl)) rfl)⟩
set_option maxRecDepth 20000 in
theorem ca_E_11 : zCa R_E 11 y_N_init b_N_init 2 none 1 := ⟨⟨cd_N_init, ini_N, by decide +kernel, by decide +kernel, by decide +kernel⟩, Or.inl (zTb_of (tm2 (List.mem_of_getElem? (i := 2) rfl)) rfl)⟩
set_option maxRecDepth 20000 in
theorem ca_X_46 : zCa R_X 46 y_P_init b_P_init 1 none 0 := ⟨⟨cd_P_init, ini_P, by decide +kernel, by decide +kernel, by decide +kernel⟩, Or.inr ⟨_, zN_of (tm2 (List.mem_of_getElem? (i := 36) rfl)) rfl⟩⟩
set_option maxRecDepth 20000 in
theorem ca_P_11 : zCa R_P 11 y_N_init b_N_init 2 none 1 := ⟨⟨cd_N_init, ini_N, by decide +kernel, by decide +kernel, by decide +kernel⟩, Or.inl (zTb_of (tm2 (List.mem_of_getElem? (i := 41) rfl)) rfl)⟩
set_option maxRecDepth 20000 in
theorem ca_L_13 : zCa R_law 13 y_X_curve b_X_curve 7 (some .int) 5 := ⟨⟨cd_X_curve, ini_X, by decide +kernel, by decide +kernel, by decide +kernel⟩, Or.inl (zTb_of (tm2 (List.mem_of_getElem? (i := 98) rfl)) rfl)⟩
set_option maxRecDepth 20000 in
theorem ca_X_61 : zCa R_X 61 y_X_isCoefficient b_X_isCoefficient 1 (some .boolean) 1 := ⟨⟨cd_X_isCoefficient, ini_X, by decide +kernel, by decide +kernel, by decide +kernel⟩, Or.inl (zTb_of (tm2 (List.mem_of_getElem? (i := 102) rfl)) rfl)⟩
set_option maxRecDepth 20000 in
theorem ca_X_65 : zCa R_X 65 y_E_isSingular b_E_isSingular 11 (some .boolean) 5 := ⟨⟨cd_E_isSingular, ini_E, by decide +kernel, by decide +kernel, by decide +kernel⟩, Or.inl (zTb_of (tm2 (List.mem_of_getElem? (i := 107) rfl)) rfl)⟩
set_option maxRecDepth 20000 in
theorem ca_E_131 : zCa R_E 131 y_Q_b2 b_Q_b2 4 (some .long) 2 := ⟨⟨cd_Q_b2, ini_Q, by decide +kernel, by decide +kernel, by decide +kernel⟩, Or.inl (zTb_of (tm2 (List.mem_of_getElem? (i := 111) rfl)) rfl)⟩
set_option maxRecDepth 20000 in
theorem ca_E_89 : zCa R_E 89 y_N_become_J b_N_become_J 7 none 1 := ⟨⟨cd_N_become_J, ini_N, by decide +kernel, by decide +kernel, by decide +kernel⟩, Or.inl (zTb_of (tm2 (List.mem_of_getElem? (i := 114) rfl)) rfl)⟩
set_option maxRecDepth 20000 in
theorem ca_E_135 : zCa R_E 135 y_Q_b4 b_Q_b4 6 (some .long) 3 := ⟨⟨cd_Q_b4, ini_Q, by decide +kernel, by decide +kernel, by decide +kernel⟩, Or.inl (zTb_of (tm2 (List.mem_of_getElem? (i := 115) rfl)) rfl)⟩
set_option maxRecDepth 20000 in
theorem ca_E_139 : zCa R_E 139 y_Q_b6 b_Q_b6 4 (some .long) 2 := ⟨⟨cd_Q_b6, ini_Q, by decide +kernel, by decide +kernel, by decide +kernel⟩, Or.inl (zTb_of (tm2 (List.mem_of_getElem? (i := 116) rfl)) rfl)⟩
set_option maxRecDepth 20000 in
theorem ca_E_142 : zCa R_E 142 y_Q_b8 b_Q_b8 10 (some .long) 5 := ⟨⟨cd_Q_b8, ini_Q, by decide +kernel, by decide +kernel, by decide +kernel⟩, Or.inl (zTb_of (tm2 (List.mem_of_getElem? (i := 117) rfl)) rfl)⟩
set_option maxRecDepth 20000 in
theorem ca_E_104 : zCa R_E 104 y_R_multiply b_R_multiply 15 none 3 := ⟨⟨cd_R_multiply, ini_R, by decide +kernel, by decide +kernel, by decide +kernel⟩, Or.inl (zTb_of (tm2 (List.mem_of_getElem? (i := 118) rfl)) rfl)⟩
set_option maxRecDepth 20000 in
theorem ca_R_62 : zCa R_R 62 y_R_lose b_R_lose 2 none 1 := ⟨⟨cd_R_lose, ini_R, by decide +kernel, by decide +kernel, by decide +kernel⟩, Or.inl (zTb_of (tm2 (List.mem_of_getElem? (i := 122) rfl)) rfl)⟩
set_option maxRecDepth 20000 in
theorem ca_R_75 : zCa R_R 75 y_N_becomeZero b_N_becomeZero 1 none 0 := ⟨⟨cd_N_becomeZero, ini_N, by decide +kernel, by decide +kernel, by decide +kernel⟩, Or.inl (zTb_of (tm2 (List.mem_of_getElem? (i := 126) rfl)) rfl)⟩
set_option maxRecDepth 20000 in
theorem ca_R_80 : zCa R_R 80 y_R_store b_R_store 6 none 4 := ⟨⟨cd_R_store, ini_R, by decide +kernel, by decide +kernel, by decide +kernel⟩, Or.inl (zTb_of (tm2 (List.mem_of_getElem? (i := 131) rfl)) rfl)⟩
set_option maxRecDepth 20000 in
theorem ca_E_148 : zCa R_E 148 y_R_subtractProduct b_R_subtractProduct 4 none 3 := ⟨⟨cd_R_subtractProduct, ini_R, by decide +kernel, by decide +kernel, by decide +kernel⟩, Or.inl (zTb_of (tm2 (List.mem_of_getElem? (i := 142) rfl)) rfl)⟩
set_option maxRecDepth 20000 in
theorem ca_R_84 : zCa R_R 84 y_R_multiply b_R_multiply 15 none 3 := ⟨⟨cd_R_multiply, ini_R, by decide +kernel, by decide +kernel, by decide +kernel⟩, Or.inl (zTb_of (tm2 (List.mem_of_getElem? (i := 146) rfl)) rfl)⟩
set_option maxRecDepth 20000 in
theorem ca_R_34 : zCa R_R 34 y_R_addSigned b_R_addSigned 5 none 4 := ⟨⟨cd_R_addSigned, ini_R, by decide +kernel, by decide +kernel, by decide +kernel⟩, Or.inl (zTb_of (tm2 (List.mem_of_getElem? (i := 147) rfl)) rfl)⟩
set_option maxRecDepth 20000 in
theorem ca_R_38 : zCa R_R 38 y_R_addSizes b_R_addSizes 8 none 3 := ⟨⟨cd_R_addSizes, ini_R, by decide +kernel, by decide +kernel, by decide +kernel⟩, Or.inl (zTb_of (tm2 (List.mem_of_getElem? (i := 151) rfl)) rfl)⟩
set_option maxRecDepth 20000 in
theorem ca_R_66 : zCa R_R 66 y_N_limb b_N_limb 2 (some .int) 1 := ⟨⟨cd_N_limb, ini_N, by decide +kernel, by decide +kernel, by decide +kernel⟩, Or.inl (zTb_of (tm2 (List.mem_of_getElem? (i := 156) rfl)) rfl)⟩
set_option maxRecDepth 20000 in
theorem ca_R_71 : zCa R_R 71 y_N_settle b_N_settle 4 none 2 := ⟨⟨cd_N_settle, ini_N, by decide +kernel, by decide +kernel, by decide +kernel⟩, Or.inl (zTb_of (tm2 (List.mem_of_getElem? (i := 161) rfl)) rfl)⟩
set_option maxRecDepth 20000 in
theorem ca_R_42 : zCa R_R 42 y_N_compareSize b_N_compareSize 3 (some .int) 1 := ⟨⟨cd_N_compareSize, ini_N, by decide +kernel, by decide +kernel, by decide +kernel⟩, Or.inl (zTb_of (tm2 (List.mem_of_getElem? (i := 165) rfl)) rfl)⟩
set_option maxRecDepth 20000 in
theorem ca_R_46 : zCa R_R 46 y_R_subtractSizes b_R_subtractSizes 9 none 4 := ⟨⟨cd_R_subtractSizes, ini_R, by decide +kernel, by decide +kernel, by decide +kernel⟩, Or.inl (zTb_of (tm2 (List.mem_of_getElem? (i := 169) rfl)) rfl)⟩
set_option maxRecDepth 20000 in
theorem ca_E_155 : zCa R_E 155 y_N_isZero b_N_isZero 1 (some .boolean) 0 := ⟨⟨cd_N_isZero, ini_N, by decide +kernel, by decide +kernel, by decide +kernel⟩, Or.inl (zTb_of (tm2 (List.mem_of_getElem? (i := 175) rfl)) rfl)⟩
set_option maxRecDepth 20000 in
theorem ca_X_69 : zCa R_X 69 y_P_becomeNone b_P_becomeNone 1 none 0 := ⟨⟨cd_P_becomeNone, ini_P, by decide +kernel, by decide +kernel, by decide +kernel⟩, Or.inl (zTb_of (tm2 (List.mem_of_getElem? (i := 179) rfl)) rfl)⟩
set_option maxRecDepth 20000 in
theorem ca_L_18 : zCa R_law 18 y_X_none b_X_none 2 (some .boolean) 1 := ⟨⟨cd_X_none, ini_X, by decide +kernel, by decide +kernel, by decide +kernel⟩, Or.inl (zTb_of (tm2 (List.mem_of_getElem? (i := 183) rfl)) rfl)⟩
set_option maxRecDepth 20000 in
theorem ca_X_72 : zCa R_X 72 y_X_isSlot b_X_isSlot 1 (some .boolean) 1 := ⟨⟨cd_X_isSlot, ini_X, by decide +kernel, by decide +kernel, by decide +kernel⟩, Or.inl (zTb_of (tm2 (List.mem_of_getElem? (i := 187) rfl)) rfl)⟩
set_option maxRecDepth 20000 in
theorem ca_L_25 : zCa R_law 25 y_X_point b_X_point 10 (some .int) 5 := ⟨⟨cd_X_point, ini_X, by decide +kernel, by decide +kernel, by decide +kernel⟩, Or.inl (zTb_of (tm2 (List.mem_of_getElem? (i := 190) rfl)) rfl)⟩
set_option maxRecDepth 20000 in
theorem ca_X_75 : zCa R_X 75 y_E_read b_E_read 10 (some .boolean) 5 := ⟨⟨cd_E_read, ini_E, by decide +kernel, by decide +kernel, by decide +kernel⟩, Or.inl (zTb_of (tm2 (List.mem_of_getElem? (i := 194) rfl)) rfl)⟩
set_option maxRecDepth 20000 in
theorem ca_E_50 : zCa R_E 50 y_E_takeLowestTerms b_E_takeLowestTerms 7 none 4 := ⟨⟨cd_E_takeLowestTerms, ini_E, by decide +kernel, by decide +kernel, by decide +kernel⟩, Or.inl (zTb_of (tm2 (List.mem_of_getElem? (i := 198) rfl)) rfl)⟩
set_option maxRecDepth 20000 in
theorem ca_E_92 : zCa R_E 92 y_D_common b_D_common 5 none 3 := ⟨⟨cd_D_common, ini_D, by decide +kernel, by decide +kernel, by decide +kernel⟩, Or.inl (zTb_of (tm2 (List.mem_of_getElem? (i := 202) rfl)) rfl)⟩
set_option maxRecDepth 20000 in
theorem ca_D_42 : zCa R_D 42 y_N_become_N b_N_become_N 2 none 1 := ⟨⟨cd_N_become_N, ini_N, by decide +kernel, by decide +kernel, by decide +kernel⟩, Or.inl (zTb_of (tm2 (List.mem_of_getElem? (i := 206) rfl)) rfl)⟩
set_option maxRecDepth 20000 in
theorem ca_N_31 : zCa R_N 31 y_N_becomeZero b_N_becomeZero 1 none 0 := ⟨⟨cd_N_becomeZero, ini_N, by decide +kernel, by decide +kernel, by decide +kernel⟩, Or.inl (zTb_of (tm2 (List.mem_of_getElem? (i := 210) rfl)) rfl)⟩
set_option maxRecDepth 20000 in
theorem ca_D_49 : zCa R_D 49 y_N_compareSize b_N_compareSize 3 (some .int) 1 := ⟨⟨cd_N_compareSize, ini_N, by decide +kernel, by decide +kernel, by decide +kernel⟩, Or.inl (zTb_of (tm2 (List.mem_of_getElem? (i := 212) rfl)) rfl)⟩
set_option maxRecDepth 20000 in
theorem ca_D_53 : zCa R_D 53 y_D_shorten b_D_shorten 2 none 0 := ⟨⟨cd_D_shorten, ini_D, by decide +kernel, by decide +kernel, by decide +kernel⟩, Or.inl (zTb_of (tm2 (List.mem_of_getElem? (i := 213) rfl)) rfl)⟩
set_option maxRecDepth 20000 in
theorem ca_D_68 : zCa R_D 68 y_N_isZero b_N_isZero 1 (some .boolean) 0 := ⟨⟨cd_N_isZero, ini_N, by decide +kernel, by decide +kernel, by decide +kernel⟩, Or.inl (zTb_of (tm2 (List.mem_of_getElem? (i := 217) rfl)) rfl)⟩
set_option maxRecDepth 20000 in
theorem ca_D_79 : zCa R_D 79 y_R_divide b_R_divide 12 none 4 := ⟨⟨cd_R_divide, ini_R, by decide +kernel, by decide +kernel, by decide +kernel⟩, Or.inl (zTb_of (tm2 (List.mem_of_getElem? (i := 218) rfl)) rfl)⟩
set_option maxRecDepth 20000 in
theorem ca_R_87 : zCa R_R 87 y_N_become_N b_N_become_N 2 none 1 := ⟨⟨cd_N_become_N, ini_N, by decide +kernel, by decide +kernel, by decide +kernel⟩, Or.inl (zTb_of (tm2 (List.mem_of_getElem? (i := 222) rfl)) rfl)⟩
set_option maxRecDepth 20000 in
theorem ca_R_90 : zCa R_R 90 y_R_scaleUp b_R_scaleUp 10 (some .int) 3 := ⟨⟨cd_R_scaleUp, ini_R, by decide +kernel, by decide +kernel, by decide +kernel⟩, Or.inl (zTb_of (tm2 (List.mem_of_getElem? (i := 223) rfl)) rfl)⟩
set_option maxRecDepth 20000 in
theorem ca_R_94 : zCa R_R 94 y_R_guessLimb b_R_guessLimb 16 (some .long) 2 := ⟨⟨cd_R_guessLimb, ini_R, by decide +kernel, by decide +kernel, by decide +kernel⟩, Or.inl (zTb_of (tm2 (List.mem_of_getElem? (i := 227) rfl)) rfl)⟩
set_option maxRecDepth 20000 in
theorem ca_R_98 : zCa R_R 98 y_R_takeMultiple b_R_takeMultiple 11 (some .int) 3 := ⟨⟨cd_R_takeMultiple, ini_R, by decide +kernel, by decide +kernel, by decide +kernel⟩, Or.inl (zTb_of (tm2 (List.mem_of_getElem? (i := 231) rfl)) rfl)⟩
set_option maxRecDepth 20000 in
theorem ca_R_109 : zCa R_R 109 y_R_giveBack b_R_giveBack 6 none 2 := ⟨⟨cd_R_giveBack, ini_R, by decide +kernel, by decide +kernel, by decide +kernel⟩, Or.inl (zTb_of (tm2 (List.mem_of_getElem? (i := 235) rfl)) rfl)⟩
set_option maxRecDepth 20000 in
theorem ca_R_102 : zCa R_R 102 y_R_scaleDown b_R_scaleDown 8 none 2 := ⟨⟨cd_R_scaleDown, ini_R, by decide +kernel, by decide +kernel, by decide +kernel⟩, Or.inl (zTb_of (tm2 (List.mem_of_getElem? (i := 239) rfl)) rfl)⟩
set_option maxRecDepth 20000 in
theorem ca_D_61 : zCa R_D 61 y_D_followLeadingDigits b_D_followLeadingDigits 16 (some .boolean) 0 := ⟨⟨cd_D_followLeadingDigits, ini_D, by decide +kernel, by decide +kernel, by decide +kernel⟩, Or.inl (zTb_of (tm3 (List.mem_of_getElem? (i := 4) rfl)) rfl)⟩
set_option maxRecDepth 20000 in
theorem ca_D_85 : zCa R_D 85 y_N_limb b_N_limb 2 (some .int) 1 := ⟨⟨cd_N_limb, ini_N, by decide +kernel, by decide +kernel, by decide +kernel⟩, Or.inl (zTb_of (tm3 (List.mem_of_getElem? (i := 8) rfl)) rfl)⟩
set_option maxRecDepth 20000 in
theorem ca_D_89 : zCa R_D 89 y_N_limbDigits b_N_limbDigits 2 (some .int) 1 := ⟨⟨cd_N_limbDigits, ini_N, by decide +kernel, by decide +kernel, by decide +kernel⟩, Or.inl (zTb_of (tm3 (List.mem_of_getElem? (i := 9) rfl)) rfl)⟩
set_option maxRecDepth 20000 in
theorem ca_D_92 : zCa R_D 92 y_D_leading b_D_leading 6 (some .long) 3 := ⟨⟨cd_D_leading, ini_D, by decide +kernel, by decide +kernel, by decide +kernel⟩, Or.inl (zTb_of (tm3 (List.mem_of_getElem? (i := 14) rfl)) rfl)⟩
set_option maxRecDepth 20000 in
theorem ca_D_65 : zCa R_D 65 y_D_mix b_D_mix 15 none 0 := ⟨⟨cd_D_mix, ini_D, by decide +kernel, by decide +kernel, by decide +kernel⟩, Or.inl (zTb_of (tm3 (List.mem_of_getElem? (i := 23) rfl)) rfl)⟩
set_option maxRecDepth 20000 in
theorem ca_D_129 : zCa R_D 129 y_N_settle b_N_settle 4 none 2 := ⟨⟨cd_N_settle, ini_N, by decide +kernel, by decide +kernel, by decide +kernel⟩, Or.inl (zTb_of (tm3 (List.mem_of_getElem? (i := 30) rfl)) rfl)⟩
set_option maxRecDepth 20000 in
theorem ca_D_71 : zCa R_D 71 y_N_lowPart b_N_lowPart 1 (some .long) 0 := ⟨⟨cd_N_lowPart, ini_N, by decide +kernel, by decide +kernel, by decide +kernel⟩, Or.inl (zTb_of (tm3 (List.mem_of_getElem? (i := 31) rfl)) rfl)⟩
set_option maxRecDepth 20000 in
theorem ca_N_44 : zCa R_N 44 y_N_limb b_N_limb 2 (some .int) 1 := ⟨⟨cd_N_limb, ini_N, by decide +kernel, by decide +kernel, by decide +kernel⟩, Or.inl (zTb_of (tm3 (List.mem_of_getElem? (i := 35) rfl)) rfl)⟩
set_option maxRecDepth 20000 in
theorem ca_D_75 : zCa R_D 75 y_D_commonOfLongs b_D_commonOfLongs 11 (some .long) 2 := ⟨⟨cd_D_commonOfLongs, ini_D, by decide +kernel, by decide +kernel, by decide +kernel⟩, Or.inl (zTb_of (tm3 (List.mem_of_getElem? (i := 36) rfl)) rfl)⟩
set_option maxRecDepth 20000 in
theorem ca_E_83 : zCa R_E 83 y_R_divide b_R_divide 12 none 4 := ⟨⟨cd_R_divide, ini_R, by decide +kernel, by decide +kernel, by decide +kernel⟩, Or.inl (zTb_of (tm3 (List.mem_of_getElem? (i := 39) rfl)) rfl)⟩
set_option maxRecDepth 20000 in
theorem ca_E_101 : zCa R_E 101 y_N_changeSign b_N_changeSign 1 none 0 := ⟨⟨cd_N_changeSign, ini_N, by decide +kernel, by decide +kernel, by decide +kernel⟩, Or.inl (zTb_of (tm3 (List.mem_of_getElem? (i := 40) rfl)) rfl)⟩
set_option maxRecDepth 20000 in
theorem ca_E_54 : zCa R_E 54 y_E_isOnCurve b_E_isOnCurve 1 (some .boolean) 0 := ⟨⟨cd_E_isOnCurve, ini_E, by decide +kernel, by decide +kernel, by decide +kernel⟩, Or.inl (zTb_of (tm3 (List.mem_of_getElem? (i := 44) rfl)) rfl)⟩
set_option maxRecDepth 20000 in
theorem ca_E_112 : zCa R_E 112 y_R_addProduct b_R_addProduct 4 none 3 := ⟨⟨cd_R_addProduct, ini_R, by decide +kernel, by decide +kernel, by decide +kernel⟩, Or.inl (zTb_of (tm3 (List.mem_of_getElem? (i := 48) rfl)) rfl)⟩
set_option maxRecDepth 20000 in
theorem ca_E_127 : zCa R_E 127 y_N_isLike b_N_isLike 2 (some .boolean) 1 := ⟨⟨cd_N_isLike, ini_N, by decide +kernel, by decide +kernel, by decide +kernel⟩, Or.inl (zTb_of (tm3 (List.mem_of_getElem? (i := 52) rfl)) rfl)⟩
set_option maxRecDepth 20000 in
theorem ca_N_40 : zCa R_N 40 y_N_compareSize b_N_compareSize 3 (some .int) 1 := ⟨⟨cd_N_compareSize, ini_N, by decide +kernel, by decide +kernel, by decide +kernel⟩, Or.inl (zTb_of (tm3 (List.mem_of_getElem? (i := 56) rfl)) rfl)⟩
set_option maxRecDepth 20000 in
theorem ca_E_67 : zCa R_E 67 y_N_become_N b_N_become_N 2 none 1 := ⟨⟨cd_N_become_N, ini_N, by decide +kernel, by decide +kernel, by decide +kernel⟩, Or.inl (zTb_of (tm3 (List.mem_of_getElem? (i := 57) rfl)) rfl)⟩
set_option maxRecDepth 20000 in
theorem ca_L_30 : zCa R_law 30 y_X_sum b_X_sum 4 (some .int) 3 := ⟨⟨cd_X_sum, ini_X, by decide +kernel, by decide +kernel, by decide +kernel⟩, Or.inl (zTb_of (tm3 (List.mem_of_getElem? (i := 58) rfl)) rfl)⟩
set_option maxRecDepth 20000 in
theorem ca_X_79 : zCa R_X 79 y_C_join b_C_join 4 (some .boolean) 3 := ⟨⟨cd_C_join, ini_C, by decide +kernel, by decide +kernel, by decide +kernel⟩, Or.inl (zTb_of (tm3 (List.mem_of_getElem? (i := 62) rfl)) rfl)⟩
set_option maxRecDepth 20000 in
theorem ca_C_97 : zCa R_C 97 y_P_become b_P_become 2 none 1 := ⟨⟨cd_P_become, ini_P, by decide +kernel, by decide +kernel, by decide +kernel⟩, Or.inl (zTb_of (tm3 (List.mem_of_getElem? (i := 66) rfl)) rfl)⟩
set_option maxRecDepth 20000 in
theorem ca_P_36 : zCa R_P 36 y_N_become_N b_N_become_N 2 none 1 := ⟨⟨cd_N_become_N, ini_N, by decide +kernel, by decide +kernel, by decide +kernel⟩, Or.inl (zTb_of (tm3 (List.mem_of_getElem? (i := 70) rfl)) rfl)⟩
set_option maxRecDepth 20000 in
theorem ca_C_104 : zCa R_C 104 y_C_measureGap b_C_measureGap 3 none 2 := ⟨⟨cd_C_measureGap, ini_C, by decide +kernel, by decide +kernel, by decide +kernel⟩, Or.inl (zTb_of (tm3 (List.mem_of_getElem? (i := 71) rfl)) rfl)⟩
set_option maxRecDepth 20000 in
theorem ca_C_71 : zCa R_C 71 y_R_multiply b_R_multiply 15 none 3 := ⟨⟨cd_R_multiply, ini_R, by decide +kernel, by decide +kernel, by decide +kernel⟩, Or.inl (zTb_of (tm3 (List.mem_of_getElem? (i := 75) rfl)) rfl)⟩
set_option maxRecDepth 20000 in
theorem ca_C_144 : zCa R_C 144 y_R_subtract b_R_subtract 4 none 3 := ⟨⟨cd_R_subtract, ini_R, by decide +kernel, by decide +kernel, by decide +kernel⟩, Or.inl (zTb_of (tm3 (List.mem_of_getElem? (i := 76) rfl)) rfl)⟩
set_option maxRecDepth 20000 in
theorem ca_C_108 : zCa R_C 108 y_N_isZero b_N_isZero 1 (some .boolean) 0 := ⟨⟨cd_N_isZero, ini_N, by decide +kernel, by decide +kernel, by decide +kernel⟩, Or.inl (zTb_of (tm3 (List.mem_of_getElem? (i := 80) rfl)) rfl)⟩
set_option maxRecDepth 20000 in
theorem ca_C_112 : zCa R_C 112 y_C_gatherHeights b_C_gatherHeights 3 none 2 := ⟨⟨cd_C_gatherHeights, ini_C, by decide +kernel, by decide +kernel, by decide +kernel⟩, Or.inl (zTb_of (tm3 (List.mem_of_getElem? (i := 81) rfl)) rfl)⟩
set_option maxRecDepth 20000 in
theorem ca_C_147 : zCa R_C 147 y_R_add b_R_add 4 none 3 := ⟨⟨cd_R_add, ini_R, by decide +kernel, by decide +kernel, by decide +kernel⟩, Or.inl (zTb_of (tm3 (List.mem_of_getElem? (i := 85) rfl)) rfl)⟩
set_option maxRecDepth 20000 in
theorem ca_C_85 : zCa R_C 85 y_R_addProduct b_R_addProduct 4 none 3 := ⟨⟨cd_R_addProduct, ini_R, by decide +kernel, by decide +kernel, by decide +kernel⟩, Or.inl (zTb_of (tm3 (List.mem_of_getElem? (i := 89) rfl)) rfl)⟩
set_option maxRecDepth 20000 in
theorem ca_C_115 : zCa R_C 115 y_C_drawChord b_C_drawChord 3 none 2 := ⟨⟨cd_C_drawChord, ini_C, by decide +kernel, by decide +kernel, by decide +kernel⟩, Or.inl (zTb_of (tm3 (List.mem_of_getElem? (i := 90) rfl)) rfl)⟩
set_option maxRecDepth 20000 in
theorem ca_C_118 : zCa R_C 118 y_P_isLike b_P_isLike 2 (some .boolean) 1 := ⟨⟨cd_P_isLike, ini_P, by decide +kernel, by decide +kernel, by decide +kernel⟩, Or.inl (zTb_of (tm3 (List.mem_of_getElem? (i := 94) rfl)) rfl)⟩
set_option maxRecDepth 20000 in
theorem ca_P_40 : zCa R_P 40 y_N_isLike b_N_isLike 2 (some .boolean) 1 := ⟨⟨cd_N_isLike, ini_N, by decide +kernel, by decide +kernel, by decide +kernel⟩, Or.inl (zTb_of (tm3 (List.mem_of_getElem? (i := 98) rfl)) rfl)⟩
set_option maxRecDepth 20000 in
theorem ca_C_122 : zCa R_C 122 y_C_drawTangent b_C_drawTangent 2 none 1 := ⟨⟨cd_C_drawTangent, ini_C, by decide +kernel, by decide +kernel, by decide +kernel⟩, Or.inl (zTb_of (tm3 (List.mem_of_getElem? (i := 99) rfl)) rfl)⟩
set_option maxRecDepth 20000 in
theorem ca_C_168 : zCa R_C 168 y_R_subtractProduct b_R_subtractProduct 4 none 3 := ⟨⟨cd_R_subtractProduct, ini_R, by decide +kernel, by decide +kernel, by decide +kernel⟩, Or.inl (zTb_of (tm3 (List.mem_of_getElem? (i := 103) rfl)) rfl)⟩
set_option maxRecDepth 20000 in
theorem ca_C_125 : zCa R_C 125 y_P_becomeNone b_P_becomeNone 1 none 0 := ⟨⟨cd_P_becomeNone, ini_P, by decide +kernel, by decide +kernel, by decide +kernel⟩, Or.inl (zTb_of (tm3 (List.mem_of_getElem? (i := 104) rfl)) rfl)⟩
set_option maxRecDepth 20000 in
theorem ca_C_128 : zCa R_C 128 y_C_findShare b_C_findShare 1 none 0 := ⟨⟨cd_C_findShare, ini_C, by decide +kernel, by decide +kernel, by decide +kernel⟩, Or.inl (zTb_of (tm3 (List.mem_of_getElem? (i := 105) rfl)) rfl)⟩
set_option maxRecDepth 20000 in
theorem ca_C_171 : zCa R_C 171 y_D_common b_D_common 5 none 3 := ⟨⟨cd_D_common, ini_D, by decide +kernel, by decide +kernel, by decide +kernel⟩, Or.inl (zTb_of (tm3 (List.mem_of_getElem? (i := 109) rfl)) rfl)⟩
set_option maxRecDepth 20000 in
theorem ca_C_176 : zCa R_C 176 y_R_divide b_R_divide 12 none 4 := ⟨⟨cd_R_divide, ini_R, by decide +kernel, by decide +kernel, by decide +kernel⟩, Or.inl (zTb_of (tm3 (List.mem_of_getElem? (i := 110) rfl)) rfl)⟩
set_option maxRecDepth 20000 in
theorem ca_C_180 : zCa R_C 180 y_N_isLike b_N_isLike 2 (some .boolean) 1 := ⟨⟨cd_N_isLike, ini_N, by decide +kernel, by decide +kernel, by decide +kernel⟩, Or.inl (zTb_of (tm3 (List.mem_of_getElem? (i := 111) rfl)) rfl)⟩
set_option maxRecDepth 20000 in
theorem ca_C_183 : zCa R_C 183 y_D_root b_D_root 4 none 2 := ⟨⟨cd_D_root, ini_D, by decide +kernel, by decide +kernel, by decide +kernel⟩, Or.inl (zTb_of (tm3 (List.mem_of_getElem? (i := 112) rfl)) rfl)⟩
set_option maxRecDepth 20000 in
theorem ca_D_133 : zCa R_D 133 y_N_becomeZero b_N_becomeZero 1 none 0 := ⟨⟨cd_N_becomeZero, ini_N, by decide +kernel, by decide +kernel, by decide +kernel⟩, Or.inl (zTb_of (tm3 (List.mem_of_getElem? (i := 116) rfl)) rfl)⟩
set_option maxRecDepth 20000 in
theorem ca_D_136 : zCa R_D 136 y_N_digitCount b_N_digitCount 1 (some .int) 0 := ⟨⟨cd_N_digitCount, ini_N, by decide +kernel, by decide +kernel, by decide +kernel⟩, Or.inl (zTb_of (tm3 (List.mem_of_getElem? (i := 117) rfl)) rfl)⟩
set_option maxRecDepth 20000 in
theorem ca_N_48 : zCa R_N 48 y_N_limbDigits b_N_limbDigits 2 (some .int) 1 := ⟨⟨cd_N_limbDigits, ini_N, by decide +kernel, by decide +kernel, by decide +kernel⟩, Or.inl (zTb_of (tm3 (List.mem_of_getElem? (i := 121) rfl)) rfl)⟩
set_option maxRecDepth 20000 in
theorem ca_D_140 : zCa R_D 140 y_D_powerOfTen b_D_powerOfTen 4 none 2 := ⟨⟨cd_D_powerOfTen, ini_D, by decide +kernel, by decide +kernel, by decide +kernel⟩, Or.inl (zTb_of (tm3 (List.mem_of_getElem? (i := 122) rfl)) rfl)⟩
set_option maxRecDepth 20000 in
theorem ca_D_144 : zCa R_D 144 y_R_add b_R_add 4 none 3 := ⟨⟨cd_R_add, ini_R, by decide +kernel, by decide +kernel, by decide +kernel⟩, Or.inl (zTb_of (tm3 (List.mem_of_getElem? (i := 125) rfl)) rfl)⟩
set_option maxRecDepth 20000 in
theorem ca_C_131 : zCa R_C 131 y_C_placeX b_C_placeX 2 (some .boolean) 1 := ⟨⟨cd_C_placeX, ini_C, by decide +kernel, by decide +kernel, by decide +kernel⟩, Or.inl (zTb_of (tm3 (List.mem_of_getElem? (i := 126) rfl)) rfl)⟩
set_option maxRecDepth 20000 in
theorem ca_C_190 : zCa R_C 190 y_N_digitCount b_N_digitCount 1 (some .int) 0 := ⟨⟨cd_N_digitCount, ini_N, by decide +kernel, by decide +kernel, by decide +kernel⟩, Or.inl (zTb_of (tm3 (List.mem_of_getElem? (i := 130) rfl)) rfl)⟩
set_option maxRecDepth 20000 in
theorem ca_C_194 : zCa R_C 194 y_N_become_N b_N_become_N 2 none 1 := ⟨⟨cd_N_become_N, ini_N, by decide +kernel, by decide +kernel, by decide +kernel⟩, Or.inl (zTb_of (tm3 (List.mem_of_getElem? (i := 131) rfl)) rfl)⟩
set_option maxRecDepth 20000 in
theorem ca_C_134 : zCa R_C 134 y_C_placeY b_C_placeY 4 none 3 := ⟨⟨cd_C_placeY, ini_C, by decide +kernel, by decide +kernel, by decide +kernel⟩, Or.inl (zTb_of (tm3 (List.mem_of_getElem? (i := 132) rfl)) rfl)⟩
set_option maxRecDepth 20000 in
theorem ca_C_138 : zCa R_C 138 y_C_turnOver b_C_turnOver 2 none 1 := ⟨⟨cd_C_turnOver, ini_C, by decide +kernel, by decide +kernel, by decide +kernel⟩, Or.inl (zTb_of (tm3 (List.mem_of_getElem? (i := 136) rfl)) rfl)⟩
set_option maxRecDepth 20000 in
theorem ca_C_94 : zCa R_C 94 y_N_changeSign b_N_changeSign 1 none 0 := ⟨⟨cd_N_changeSign, ini_N, by decide +kernel, by decide +kernel, by decide +kernel⟩, Or.inl (zTb_of (tm3 (List.mem_of_getElem? (i := 140) rfl)) rfl)⟩
set_option maxRecDepth 20000 in
theorem ca_X_83 : zCa R_X 83 y_X_keep b_X_keep 3 (some .int) 2 := ⟨⟨cd_X_keep, ini_X, by decide +kernel, by decide +kernel, by decide +kernel⟩, Or.inl (zTb_of (tm3 (List.mem_of_getElem? (i := 141) rfl)) rfl)⟩
set_option maxRecDepth 20000 in
theorem ca_X_145 : zCa R_X 145 y_P_isLongerThan b_P_isLongerThan 2 (some .boolean) 1 := ⟨⟨cd_P_isLongerThan, ini_P, by decide +kernel, by decide +kernel, by decide +kernel⟩, Or.inl (zTb_of (tm3 (List.mem_of_getElem? (i := 145) rfl)) rfl)⟩
set_option maxRecDepth 20000 in
theorem ca_P_48 : zCa R_P 48 y_P_isWiderThan b_P_isWiderThan 2 (some .boolean) 1 := ⟨⟨cd_P_isWiderThan, ini_P, by decide +kernel, by decide +kernel, by decide +kernel⟩, Or.inl (zTb_of (tm3 (List.mem_of_getElem? (i := 149) rfl)) rfl)⟩
set_option maxRecDepth 20000 in
theorem ca_P_44 : zCa R_P 44 y_N_digitCount b_N_digitCount 1 (some .int) 0 := ⟨⟨cd_N_digitCount, ini_N, by decide +kernel, by decide +kernel, by decide +kernel⟩, Or.inl (zTb_of (tm3 (List.mem_of_getElem? (i := 153) rfl)) rfl)⟩
set_option maxRecDepth 20000 in
theorem ca_X_87 : zCa R_X 87 y_P_become b_P_become 2 none 1 := ⟨⟨cd_P_become, ini_P, by decide +kernel, by decide +kernel, by decide +kernel⟩, Or.inl (zTb_of (tm3 (List.mem_of_getElem? (i := 154) rfl)) rfl)⟩
set_option maxRecDepth 20000 in
theorem ca_L_35 : zCa R_law 35 y_X_less b_X_less 4 (some .int) 3 := ⟨⟨cd_X_less, ini_X, by decide +kernel, by decide +kernel, by decide +kernel⟩, Or.inl (zTb_of (tm3 (List.mem_of_getElem? (i := 155) rfl)) rfl)⟩
set_option maxRecDepth 20000 in
theorem ca_X_90 : zCa R_X 90 y_C_turnOver b_C_turnOver 2 none 1 := ⟨⟨cd_C_turnOver, ini_C, by decide +kernel, by decide +kernel, by decide +kernel⟩, Or.inl (zTb_of (tm3 (List.mem_of_getElem? (i := 159) rfl)) rfl)⟩
set_option maxRecDepth 20000 in
theorem ca_L_39 : zCa R_law 39 y_X_times b_X_times 6 (some .int) 3 := ⟨⟨cd_X_times, ini_X, by decide +kernel, by decide +kernel, by decide +kernel⟩, Or.inl (zTb_of (tm3 (List.mem_of_getElem? (i := 160) rfl)) rfl)⟩
set_option maxRecDepth 20000 in
theorem ca_X_95 : zCa R_X 95 y_P_isWiderThan b_P_isWiderThan 2 (some .boolean) 1 := ⟨⟨cd_P_isWiderThan, ini_P, by decide +kernel, by decide +kernel, by decide +kernel⟩, Or.inl (zTb_of (tm3 (List.mem_of_getElem? (i := 166) rfl)) rfl)⟩
set_option maxRecDepth 20000 in
theorem ca_L_43 : zCa R_law 43 y_X_order b_X_order 3 (some .int) 1 := ⟨⟨cd_X_order, ini_X, by decide +kernel, by decide +kernel, by decide +kernel⟩, Or.inl (zTb_of (tm3 (List.mem_of_getElem? (i := 167) rfl)) rfl)⟩
set_option maxRecDepth 20000 in
theorem ca_L_48 : zCa R_law 48 y_X_isNone b_X_isNone 2 (some .boolean) 1 := ⟨⟨cd_X_isNone, ini_X, by decide +kernel, by decide +kernel, by decide +kernel⟩, Or.inl (zTb_of (tm3 (List.mem_of_getElem? (i := 171) rfl)) rfl)⟩
set_option maxRecDepth 20000 in
theorem ca_L_52 : zCa R_law 52 y_X_same b_X_same 3 (some .boolean) 2 := ⟨⟨cd_X_same, ini_X, by decide +kernel, by decide +kernel, by decide +kernel⟩, Or.inl (zTb_of (tm3 (List.mem_of_getElem? (i := 175) rfl)) rfl)⟩
set_option maxRecDepth 20000 in
theorem ca_X_116 : zCa R_X 116 y_P_isLike b_P_isLike 2 (some .boolean) 1 := ⟨⟨cd_P_isLike, ini_P, by decide +kernel, by decide +kernel, by decide +kernel⟩, Or.inl (zTb_of (tm3 (List.mem_of_getElem? (i := 179) rfl)) rfl)⟩
set_option maxRecDepth 20000 in
theorem ca_L_57 : zCa R_law 57 y_X_digits b_X_digits 3 (some .int) 2 := ⟨⟨cd_X_digits, ini_X, by decide +kernel, by decide +kernel, by decide +kernel⟩, Or.inl (zTb_of (tm3 (List.mem_of_getElem? (i := 180) rfl)) rfl)⟩
set_option maxRecDepth 20000 in
theorem ca_X_120 : zCa R_X 120 y_X_hasNumber b_X_hasNumber 3 (some .boolean) 2 := ⟨⟨cd_X_hasNumber, ini_X, by decide +kernel, by decide +kernel, by decide +kernel⟩, Or.inl (zTb_of (tm3 (List.mem_of_getElem? (i := 184) rfl)) rfl)⟩
set_option maxRecDepth 20000 in
theorem ca_X_124 : zCa R_X 124 y_P_number b_P_number 2 (some (.object "ChordPoints$Num")) 1 := ⟨⟨cd_P_number, ini_P, by decide +kernel, by decide +kernel, by decide +kernel⟩, Or.inl (zTb_of (tm3 (List.mem_of_getElem? (i := 188) rfl)) rfl)⟩
set_option maxRecDepth 20000 in
theorem ca_X_128 : zCa R_X 128 y_N_digitCount b_N_digitCount 1 (some .int) 0 := ⟨⟨cd_N_digitCount, ini_N, by decide +kernel, by decide +kernel, by decide +kernel⟩, Or.inl (zTb_of (tm3 (List.mem_of_getElem? (i := 192) rfl)) rfl)⟩
set_option maxRecDepth 20000 in
theorem ca_L_62 : zCa R_law 62 y_X_digitAt b_X_digitAt 6 (some .int) 3 := ⟨⟨cd_X_digitAt, ini_X, by decide +kernel, by decide +kernel, by decide +kernel⟩, Or.inl (zTb_of (tm3 (List.mem_of_getElem? (i := 193) rfl)) rfl)⟩
set_option maxRecDepth 20000 in
theorem ca_X_132 : zCa R_X 132 y_N_digitAbove b_N_digitAbove 2 (some .int) 1 := ⟨⟨cd_N_digitAbove, ini_N, by decide +kernel, by decide +kernel, by decide +kernel⟩, Or.inl (zTb_of (tm3 (List.mem_of_getElem? (i := 197) rfl)) rfl)⟩
set_option maxRecDepth 20000 in
theorem ca_L_66 : zCa R_law 66 y_X_sign b_X_sign 4 (some .int) 2 := ⟨⟨cd_X_sign, ini_X, by decide +kernel, by decide +kernel, by decide +kernel⟩, Or.inl (zTb_of (tm3 (List.mem_of_getElem? (i := 201) rfl)) rfl)⟩
set_option maxRecDepth 20000 in
theorem ca_X_136 : zCa R_X 136 y_N_isZero b_N_isZero 1 (some .boolean) 0 := ⟨⟨cd_N_isZero, ini_N, by decide +kernel, by decide +kernel, by decide +kernel⟩, Or.inl (zTb_of (tm3 (List.mem_of_getElem? (i := 205) rfl)) rfl)⟩
set_option maxRecDepth 20000 in
theorem ca_L_12 : zCa R_law 12 y_M_init b_M_init 1 none 0 := ⟨⟨cd_M_init, ini_M, by decide +kernel, by decide +kernel, by decide +kernel⟩, Or.inl (zTb_of (tm3 (List.mem_of_getElem? (i := 208) rfl)) rfl)⟩
set_option maxRecDepth 20000 in
theorem ca_M_23 : zCa R_M 23 y_M_forget b_M_forget 2 none 0 := ⟨⟨cd_M_forget, ini_M, by decide +kernel, by decide +kernel, by decide +kernel⟩, Or.inl (zTb_of (tm3 (List.mem_of_getElem? (i := 212) rfl)) rfl)⟩
set_option maxRecDepth 20000 in
theorem ca_M_26 : zCa R_M 26 y_M_set b_M_set 6 none 2 := ⟨⟨cd_M_set, ini_M, by decide +kernel, by decide +kernel, by decide +kernel⟩, Or.inl (zTb_of (tm3 (List.mem_of_getElem? (i := 216) rfl)) rfl)⟩
set_option maxRecDepth 20000 in
theorem ca_L_17 : zCa R_law 17 y_M_curve b_M_curve 14 (some .int) 5 := ⟨⟨cd_M_curve, ini_M, by decide +kernel, by decide +kernel, by decide +kernel⟩, Or.inl (zTb_of (tm3 (List.mem_of_getElem? (i := 238) rfl)) rfl)⟩
set_option maxRecDepth 20000 in
theorem ca_M_69 : zCa R_M 69 y_M_isIn b_M_isIn 1 (some .boolean) 1 := ⟨⟨cd_M_isIn, ini_M, by decide +kernel, by decide +kernel, by decide +kernel⟩, Or.inl (zTb_of (tm4 (List.mem_of_getElem? (i := 2) rfl)) rfl)⟩
set_option maxRecDepth 20000 in
theorem ca_M_79 : zCa R_M 79 y_M_product b_M_product 10 none 5 := ⟨⟨cd_M_product, ini_M, by decide +kernel, by decide +kernel, by decide +kernel⟩, Or.inl (zTb_of (tm4 (List.mem_of_getElem? (i := 10) rfl)) rfl)⟩
set_option maxRecDepth 20000 in
theorem ca_M_92 : zCa R_M 92 y_M_multiply b_M_multiply 13 none 3 := ⟨⟨cd_M_multiply, ini_M, by decide +kernel, by decide +kernel, by decide +kernel⟩, Or.inl (zTb_of (tm4 (List.mem_of_getElem? (i := 14) rfl)) rfl)⟩
set_option maxRecDepth 20000 in
theorem ca_M_53 : zCa R_M 53 y_M_trim b_M_trim 4 none 2 := ⟨⟨cd_M_trim, ini_M, by decide +kernel, by decide +kernel, by decide +kernel⟩, Or.inl (zTb_of (tm4 (List.mem_of_getElem? (i := 18) rfl)) rfl)⟩
set_option maxRecDepth 20000 in
theorem ca_M_83 : zCa R_M 83 y_M_add b_M_add 7 none 4 := ⟨⟨cd_M_add, ini_M, by decide +kernel, by decide +kernel, by decide +kernel⟩, Or.inl (zTb_of (tm4 (List.mem_of_getElem? (i := 22) rfl)) rfl)⟩
set_option maxRecDepth 20000 in
theorem ca_M_40 : zCa R_M 40 y_M_copy b_M_copy 4 none 2 := ⟨⟨cd_M_copy, ini_M, by decide +kernel, by decide +kernel, by decide +kernel⟩, Or.inl (zTb_of (tm4 (List.mem_of_getElem? (i := 26) rfl)) rfl)⟩
set_option maxRecDepth 20000 in
theorem ca_M_44 : zCa R_M 44 y_M_addSizes b_M_addSizes 10 none 3 := ⟨⟨cd_M_addSizes, ini_M, by decide +kernel, by decide +kernel, by decide +kernel⟩, Or.inl (zTb_of (tm4 (List.mem_of_getElem? (i := 30) rfl)) rfl)⟩
set_option maxRecDepth 20000 in
theorem ca_M_36 : zCa R_M 36 y_M_compare b_M_compare 4 (some .int) 2 := ⟨⟨cd_M_compare, ini_M, by decide +kernel, by decide +kernel, by decide +kernel⟩, Or.inl (zTb_of (tm4 (List.mem_of_getElem? (i := 35) rfl)) rfl)⟩
set_option maxRecDepth 20000 in
theorem ca_M_48 : zCa R_M 48 y_M_takeSizes b_M_takeSizes 10 none 4 := ⟨⟨cd_M_takeSizes, ini_M, by decide +kernel, by decide +kernel, by decide +kernel⟩, Or.inl (zTb_of (tm4 (List.mem_of_getElem? (i := 39) rfl)) rfl)⟩
set_option maxRecDepth 20000 in
theorem ca_L_22 : zCa R_law 22 y_M_none b_M_none 2 (some .boolean) 1 := ⟨⟨cd_M_none, ini_M, by decide +kernel, by decide +kernel, by decide +kernel⟩, Or.inl (zTb_of (tm4 (List.mem_of_getElem? (i := 45) rfl)) rfl)⟩
set_option maxRecDepth 20000 in
theorem ca_M_95 : zCa R_M 95 y_M_isSlot b_M_isSlot 1 (some .boolean) 1 := ⟨⟨cd_M_isSlot, ini_M, by decide +kernel, by decide +kernel, by decide +kernel⟩, Or.inl (zTb_of (tm4 (List.mem_of_getElem? (i := 49) rfl)) rfl)⟩
set_option maxRecDepth 20000 in
theorem ca_L_29 : zCa R_law 29 y_M_point b_M_point 10 (some .int) 5 := ⟨⟨cd_M_point, ini_M, by decide +kernel, by decide +kernel, by decide +kernel⟩, Or.inl (zTb_of (tm4 (List.mem_of_getElem? (i := 52) rfl)) rfl)⟩
set_option maxRecDepth 20000 in
theorem ca_M_98 : zCa R_M 98 y_M_fraction b_M_fraction 7 none 4 := ⟨⟨cd_M_fraction, ini_M, by decide +kernel, by decide +kernel, by decide +kernel⟩, Or.inl (zTb_of (tm4 (List.mem_of_getElem? (i := 56) rfl)) rfl)⟩
set_option maxRecDepth 20000 in
theorem ca_M_115 : zCa R_M 115 y_M_common b_M_common 4 none 2 := ⟨⟨cd_M_common, ini_M, by decide +kernel, by decide +kernel, by decide +kernel⟩, Or.inl (zTb_of (tm4 (List.mem_of_getElem? (i := 60) rfl)) rfl)⟩
set_option maxRecDepth 20000 in
theorem ca_M_66 : zCa R_M 66 y_M_divide b_M_divide 10 none 3 := ⟨⟨cd_M_divide, ini_M, by decide +kernel, by decide +kernel, by decide +kernel⟩, Or.inl (zTb_of (tm4 (List.mem_of_getElem? (i := 64) rfl)) rfl)⟩
set_option maxRecDepth 20000 in
theorem ca_M_56 : zCa R_M 56 y_M_timesSmall b_M_timesSmall 9 none 2 := ⟨⟨cd_M_timesSmall, ini_M, by decide +kernel, by decide +kernel, by decide +kernel⟩, Or.inl (zTb_of (tm4 (List.mem_of_getElem? (i := 68) rfl)) rfl)⟩
set_option maxRecDepth 20000 in
theorem ca_M_59 : zCa R_M 59 y_M_place b_M_place 26 (some .int) 4 := ⟨⟨cd_M_place, ini_M, by decide +kernel, by decide +kernel, by decide +kernel⟩, Or.inl (zTb_of (tm4 (List.mem_of_getElem? (i := 72) rfl)) rfl)⟩
set_option maxRecDepth 20000 in
theorem ca_M_63 : zCa R_M 63 y_M_bySmall b_M_bySmall 8 none 2 := ⟨⟨cd_M_bySmall, ini_M, by decide +kernel, by decide +kernel, by decide +kernel⟩, Or.inl (zTb_of (tm4 (List.mem_of_getElem? (i := 76) rfl)) rfl)⟩
set_option maxRecDepth 20000 in
theorem ca_M_109 : zCa R_M 109 y_M_share b_M_share 5 none 3 := ⟨⟨cd_M_share, ini_M, by decide +kernel, by decide +kernel, by decide +kernel⟩, Or.inl (zTb_of (tm4 (List.mem_of_getElem? (i := 80) rfl)) rfl)⟩
set_option maxRecDepth 20000 in
theorem ca_M_102 : zCa R_M 102 y_M_more b_M_more 5 none 4 := ⟨⟨cd_M_more, ini_M, by decide +kernel, by decide +kernel, by decide +kernel⟩, Or.inl (zTb_of (tm4 (List.mem_of_getElem? (i := 84) rfl)) rfl)⟩
set_option maxRecDepth 20000 in
theorem ca_M_105 : zCa R_M 105 y_M_isSame b_M_isSame 3 (some .boolean) 2 := ⟨⟨cd_M_isSame, ini_M, by decide +kernel, by decide +kernel, by decide +kernel⟩, Or.inl (zTb_of (tm4 (List.mem_of_getElem? (i := 88) rfl)) rfl)⟩
set_option maxRecDepth 20000 in
theorem ca_M_112 : zCa R_M 112 y_M_move b_M_move 4 none 2 := ⟨⟨cd_M_move, ini_M, by decide +kernel, by decide +kernel, by decide +kernel⟩, Or.inl (zTb_of (tm4 (List.mem_of_getElem? (i := 92) rfl)) rfl)⟩
set_option maxRecDepth 20000 in
theorem ca_L_34 : zCa R_law 34 y_M_sum b_M_sum 4 (some .int) 3 := ⟨⟨cd_M_sum, ini_M, by decide +kernel, by decide +kernel, by decide +kernel⟩, Or.inl (zTb_of (tm4 (List.mem_of_getElem? (i := 96) rfl)) rfl)⟩
set_option maxRecDepth 20000 in
theorem ca_M_137 : zCa R_M 137 y_M_join b_M_join 1 none 0 := ⟨⟨cd_M_join, ini_M, by decide +kernel, by decide +kernel, by decide +kernel⟩, Or.inl (zTb_of (tm4 (List.mem_of_getElem? (i := 100) rfl)) rfl)⟩
set_option maxRecDepth 20000 in
theorem ca_M_118 : zCa R_M 118 y_M_isOther b_M_isOther 1 (some .boolean) 0 := ⟨⟨cd_M_isOther, ini_M, by decide +kernel, by decide +kernel, by decide +kernel⟩, Or.inl (zTb_of (tm4 (List.mem_of_getElem? (i := 104) rfl)) rfl)⟩
set_option maxRecDepth 20000 in
theorem ca_M_122 : zCa R_M 122 y_M_touch b_M_touch 1 none 0 := ⟨⟨cd_M_touch, ini_M, by decide +kernel, by decide +kernel, by decide +kernel⟩, Or.inl (zTb_of (tm4 (List.mem_of_getElem? (i := 108) rfl)) rfl)⟩
set_option maxRecDepth 20000 in
theorem ca_M_125 : zCa R_M 125 y_M_finish b_M_finish 1 none 0 := ⟨⟨cd_M_finish, ini_M, by decide +kernel, by decide +kernel, by decide +kernel⟩, Or.inl (zTb_of (tm4 (List.mem_of_getElem? (i := 113) rfl)) rfl)⟩
set_option maxRecDepth 20000 in
theorem ca_M_140 : zCa R_M 140 y_M_settle b_M_settle 2 (some .int) 1 := ⟨⟨cd_M_settle, ini_M, by decide +kernel, by decide +kernel, by decide +kernel⟩, Or.inl (zTb_of (tm4 (List.mem_of_getElem? (i := 117) rfl)) rfl)⟩
set_option maxRecDepth 20000 in
theorem ca_M_134 : zCa R_M 134 y_M_isTooLong b_M_isTooLong 2 (some .boolean) 1 := ⟨⟨cd_M_isTooLong, ini_M, by decide +kernel, by decide +kernel, by decide +kernel⟩, Or.inl (zTb_of (tm4 (List.mem_of_getElem? (i := 121) rfl)) rfl)⟩
set_option maxRecDepth 20000 in
theorem ca_M_130 : zCa R_M 130 y_M_digitsOf b_M_digitsOf 4 (some .int) 1 := ⟨⟨cd_M_digitsOf, ini_M, by decide +kernel, by decide +kernel, by decide +kernel⟩, Or.inl (zTb_of (tm4 (List.mem_of_getElem? (i := 125) rfl)) rfl)⟩
set_option maxRecDepth 20000 in
theorem ca_L_38 : zCa R_law 38 y_M_less b_M_less 4 (some .int) 3 := ⟨⟨cd_M_less, ini_M, by decide +kernel, by decide +kernel, by decide +kernel⟩, Or.inl (zTb_of (tm4 (List.mem_of_getElem? (i := 129) rfl)) rfl)⟩
set_option maxRecDepth 20000 in
theorem ca_M_143 : zCa R_M 143 y_M_turn b_M_turn 2 none 1 := ⟨⟨cd_M_turn, ini_M, by decide +kernel, by decide +kernel, by decide +kernel⟩, Or.inl (zTb_of (tm4 (List.mem_of_getElem? (i := 133) rfl)) rfl)⟩
set_option maxRecDepth 20000 in
theorem ca_L_42 : zCa R_law 42 y_M_times b_M_times 6 (some .int) 3 := ⟨⟨cd_M_times, ini_M, by decide +kernel, by decide +kernel, by decide +kernel⟩, Or.inl (zTb_of (tm4 (List.mem_of_getElem? (i := 137) rfl)) rfl)⟩
set_option maxRecDepth 20000 in
theorem ca_M_150 : zCa R_M 150 y_M_isFar b_M_isFar 1 (some .boolean) 0 := ⟨⟨cd_M_isFar, ini_M, by decide +kernel, by decide +kernel, by decide +kernel⟩, Or.inl (zTb_of (tm4 (List.mem_of_getElem? (i := 144) rfl)) rfl)⟩
set_option maxRecDepth 20000 in
theorem ca_L_47 : zCa R_law 47 y_M_order b_M_order 3 (some .int) 1 := ⟨⟨cd_M_order, ini_M, by decide +kernel, by decide +kernel, by decide +kernel⟩, Or.inl (zTb_of (tm4 (List.mem_of_getElem? (i := 148) rfl)) rfl)⟩
set_option maxRecDepth 20000 in
theorem ca_L_51 : zCa R_law 51 y_M_isNone b_M_isNone 2 (some .boolean) 1 := ⟨⟨cd_M_isNone, ini_M, by decide +kernel, by decide +kernel, by decide +kernel⟩, Or.inl (zTb_of (tm4 (List.mem_of_getElem? (i := 152) rfl)) rfl)⟩
set_option maxRecDepth 20000 in
theorem ca_L_56 : zCa R_law 56 y_M_same b_M_same 3 (some .boolean) 2 := ⟨⟨cd_M_same, ini_M, by decide +kernel, by decide +kernel, by decide +kernel⟩, Or.inl (zTb_of (tm4 (List.mem_of_getElem? (i := 156) rfl)) rfl)⟩
set_option maxRecDepth 20000 in
theorem ca_L_61 : zCa R_law 61 y_M_digits b_M_digits 3 (some .int) 2 := ⟨⟨cd_M_digits, ini_M, by decide +kernel, by decide +kernel, by decide +kernel⟩, Or.inl (zTb_of (tm4 (List.mem_of_getElem? (i := 160) rfl)) rfl)⟩
set_option maxRecDepth 20000 in
theorem ca_M_153 : zCa R_M 153 y_M_take b_M_take 4 (some .boolean) 2 := ⟨⟨cd_M_take, ini_M, by decide +kernel, by decide +kernel, by decide +kernel⟩, Or.inl (zTb_of (tm4 (List.mem_of_getElem? (i := 164) rfl)) rfl)⟩
set_option maxRecDepth 20000 in
theorem ca_L_65 : zCa R_law 65 y_M_digitAt b_M_digitAt 8 (some .int) 3 := ⟨⟨cd_M_digitAt, ini_M, by decide +kernel, by decide +kernel, by decide +kernel⟩, Or.inl (zTb_of (tm4 (List.mem_of_getElem? (i := 168) rfl)) rfl)⟩
set_option maxRecDepth 20000 in
theorem ca_L_69 : zCa R_law 69 y_M_sign b_M_sign 3 (some .int) 2 := ⟨⟨cd_M_sign, ini_M, by decide +kernel, by decide +kernel, by decide +kernel⟩, Or.inl (zTb_of (tm4 (List.mem_of_getElem? (i := 172) rfl)) rfl)⟩
set_option maxRecDepth 20000 in
theorem oi_M : Cond.methodLink R_M 1 Lib.objectInit ∈ zTb := zTb_of (tm3 (List.mem_of_getElem? (i := 211) rfl)) rfl
set_option maxRecDepth 20000 in
theorem oi_N : Cond.methodLink R_N 3 Lib.objectInit ∈ zTb := zTb_of (tm1 (List.mem_of_getElem? (i := 31) rfl)) rfl
set_option maxRecDepth 20000 in
theorem oi_P : Cond.methodLink R_P 3 Lib.objectInit ∈ zTb := zTb_of (tm2 (List.mem_of_getElem? (i := 39) rfl)) rfl
set_option maxRecDepth 20000 in
theorem oi_Q : Cond.methodLink R_Q 3 Lib.objectInit ∈ zTb := zTb_of (tm1 (List.mem_of_getElem? (i := 124) rfl)) rfl
set_option maxRecDepth 20000 in
theorem oi_R : Cond.methodLink R_R 3 Lib.objectInit ∈ zTb := zTb_of (tm1 (List.mem_of_getElem? (i := 25) rfl)) rfl
set_option maxRecDepth 20000 in
theorem oi_D : Cond.methodLink R_D 3 Lib.objectInit ∈ zTb := zTb_of (tm1 (List.mem_of_getElem? (i := 79) rfl)) rfl
set_option maxRecDepth 20000 in
theorem oi_E : Cond.methodLink R_E 3 Lib.objectInit ∈ zTb := zTb_of (tm2 (List.mem_of_getElem? (i := 0) rfl)) rfl
set_option maxRecDepth 20000 in
theorem oi_C : Cond.methodLink R_C 3 Lib.objectInit ∈ zTb := zTb_of (tm1 (List.mem_of_getElem? (i := 192) rfl)) rfl
set_option maxRecDepth 20000 in
theorem oi_X : Cond.methodLink R_X 1 Lib.objectInit ∈ zTb := zTb_of (tm1 (List.mem_of_getElem? (i := 17) rfl)) rfl
set_option maxRecDepth 20000 in
theorem oi_im : Cond.instanceMethod Lib.objectInit ∈ zTb := zTb_of (tm1 (List.mem_of_getElem? (i := 18) rfl)) rfl
set_option maxRecDepth 20000 in
theorem oi_cd : Cond.code Lib.objectInit ⟨#[0xb1]⟩ 1 none ∈ zTb := zTb_of (tm1 (List.mem_of_getElem? (i := 19) rfl)) rfl
set_option maxRecDepth 20000 in
theorem ac_int : Cond.arrayClass .int ∈ zTb := zTb_of (tm1 (List.mem_of_getElem? (i := 56) rfl)) rfl
set_option maxRecDepth 20000 in
theorem ac_bool : Cond.arrayClass .boolean ∈ zTb := zTb_of (tm3 (List.mem_of_getElem? (i := 237) rfl)) rfl
