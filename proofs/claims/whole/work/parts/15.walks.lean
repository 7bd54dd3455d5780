/-! EpochStore$Coordinator.<init>()V -/
def kf_Coordinator_init_0 (K : xk) (th : Nat) : Option xk := (xZs K 1 0 th (1 : Int32)).bind fun K1 => (xIs K1 1 1 th (1 : Int32)).bind fun K2 => some K2
/-! EpochStore$Log.<init>(I)V -/
def kf_Log_init_0 (K : xk) (th : Nat) (x1 : Int32) : Option xk := (xZs K 9 1 th (1 : Int32)).bind fun K1 => (xIs K1 9 2 th (1 : Int32)).bind fun K2 => (xIs K2 9 3 th (10 : Int32)).bind fun K3 => xp (xNw K3 100 10) fun q4 K5 => (xRs K5 9 4 th (some q4)).bind fun K6 => xp (xNw K6 108 100) fun q7 K8 => (xRs K8 9 5 th (some q7)).bind fun K9 => (xIs K9 9 0 th x1).bind fun K10 => some K10
/-! EpochStore$Storage.<init>(I)V -/
def kf_Storage_init_0 (K : xk) (th : Nat) (x1 : Int32) : Option xk := (xZs K 10 1 th (1 : Int32)).bind fun K1 => (xIs K1 10 2 th (1 : Int32)).bind fun K2 => (xIs K2 10 3 th (10 : Int32)).bind fun K3 => xp (xNw K3 108 100) fun q4 K5 => (xRs K5 10 4 th (some q4)).bind fun K6 => (xIs K6 10 0 th ((15 : Int32) <<< ((x1 * (4 : Int32)) &&& 31))).bind fun K7 => some K7
/-! EpochStore$Writes.<init>()V -/
def kf_Writes_init_0 (K : xk) (th : Nat) : Option xk := xp (xNw K 100 8) fun q1 K2 => (xRs K2 2 1 th (some q1)).bind fun K3 => some K3
/-! EpochStore$Client.<init>(I)V -/
def kf_Client_init_0 (K : xk) (th : Nat) (x1 : Int32) : Option xk := (xIs K 11 1 th (1 : Int32)).bind fun K1 => (xIs K1 11 3 th (0 : Int32)).bind fun K2 => (xIs K2 11 4 th (1 : Int32)).bind fun K3 => xp (xNw K3 3 0) fun q4 K5 => (kf_Writes_init_0 K5 q4).bind fun K6 => (xRs K6 11 8 th (some q4)).bind fun K7 => (xIs K7 11 0 th x1).bind fun K8 => some K8
/-! EpochStore$Master.<init>(III)V -/
def kb_Master_init_63 (rec63 : xk → Nat → Int32 → Int32 → Option xk) (K : xk) (th : Nat) (x3 : Int32) (x4 : Int32) : Option xk := if (8 : Int32) ≤ x4 then (some K) else (xR K 8 6 th).bind fun v1 => (v1).bind fun a3 => (xIt K 0 a3 x4 x3).bind fun K2 => rec63 K2 th x3 (x4 + (1 : Int32))
def kf_Master_init_63 : Nat → xk → Nat → Int32 → Int32 → Option xk
  | 0 => fun _ _ _ _ => none
  | n + 1 => kb_Master_init_63 (kf_Master_init_63 n)
def kf_Master_init_50 (K : xk) (th : Nat) (x3 : Int32) : Option xk := (xIs K 8 4 th x3).bind fun K1 => (xIs K1 8 5 th x3).bind fun K2 => kf_Master_init_63 1000 K2 th x3 (0 : Int32)
def kf_Master_init_0 (K : xk) (th : Nat) (x1 : Int32) (x2 : Int32) (x3 : Int32) : Option xk := xp (xNw K 100 8) fun q1 K2 => (xRs K2 8 6 th (some q1)).bind fun K3 => xp (xNw K3 109 8) fun q4 K5 => (xRs K5 8 7 th (some q4)).bind fun K6 => xp (xNw K6 110 8) fun q7 K8 => (xRs K8 8 10 th (some q7)).bind fun K9 => (xIs K9 8 0 th x1).bind fun K10 => (xIs K10 8 1 th x2).bind fun K11 => (xIs K11 8 2 th x3).bind fun K12 => (xIs K12 8 3 th x3).bind fun K13 => kf_Master_init_50 K13 th x3
section KW2
variable {p : Program} {l : Launch} {e : Env} {s : State} {m : MethodId} {args : Array Value} {below : List Frame} {meth : Method} {c : Code} {H : Heap} {locs : List Loc} {ls : Array Slot} {E : xe} {K K' : xk} {M M' : xm}
set_option maxHeartbeats 4000000 in
set_option maxRecDepth 100000 in
theorem kw_Coordinator_init_0 {th : Nat} (C : xx_C p m c b_Coordinator_init 1 s args Rn_Coordinator E) (hlk : meth.locks = false) (hr : meth.sig.returnType = none) (hin : meth.name = "<init>") (X : xx_S E K M s H locs) (hl : lv_has ls 1 [(0, .ref th)]) (h : kf_Coordinator_init_0 K th = some K') : W p l e { frames := 1, cells := 0, slots := 0, locals := 20 } s m args below meth c H locs 0 0 (MQ below (xq_v E K' M) args s 0 0 (xe_A E)) (F0 m 0 ls []) := by
  have hx := C.1.1
  have hb := C.1.2.1
  unfold kf_Coordinator_init_0 at h
  refine lv_aload_n hx hb d_Coordinator_init_0 rfl (lv_at hl 0 rfl) ?_
  refine W.objInit hx hb C.1.2.2.2.1 (C.1.2.2.2.2 _ m_11) (C.1.2.2.2.2 _ m_1) (C.1.2.2.2.2 _ m_2) rfl (by rw [C.1.2.2.1]; exact hl.1) rfl d_Coordinator_init_1 (Nat.le_of_ble_eq_true rfl) (Nat.le_of_ble_eq_true rfl) ?_
  refine W.eq (g2 := F0 m 4 ls []) rfl ?_
  refine lv_aload_n hx hb d_Coordinator_init_4 rfl (lv_at hl 0 rfl) ?_
  refine lv_iconst hx hb d_Coordinator_init_5 kn_i_1 ?_
  replace h := xb h
  obtain ⟨K1, hv, h⟩ := h
  refine xr_pz C X xc_Coordinator (by decide) 0 (by decide) (by decide) rfl rfl rfl m_12 d_Coordinator_init_6 hv (fun H locs X => ?_)
  refine lv_aload_n hx hb d_Coordinator_init_9 rfl (lv_at hl 0 rfl) ?_
  refine lv_iconst hx hb d_Coordinator_init_10 kn_i_1 ?_
  replace h := xb h
  obtain ⟨K2, hv, h⟩ := h
  refine xr_pi C X xc_Coordinator (by decide) 1 (by decide) (by decide) rfl rfl rfl m_13 d_Coordinator_init_11 hv (fun H locs X => ?_)
  obtain rfl := Option.some.inj h
  exact xr_vret C X hlk hr d_Coordinator_init_14 (Nat.le_of_ble_eq_true rfl) (Nat.le_of_ble_eq_true rfl)
theorem kc_Coordinator_init (l : Launch) (E : xe) {th : Nat} (h : kf_Coordinator_init_0 K th = some K') : Met l y_Coordinator_init (Cond.code y_Coordinator_init b_Coordinator_init 1 none :: w_all) { frames := 1, cells := 0, slots := 0, locals := 20 } (va_Pc [.ref th] (fun U => xx_B E K M U)) (xq_v E K' M) 0 0 (xe_A E) :=
  xr_met (by decide) (Nat.le_of_ble_eq_true rfl) fun p e s m below meth c ls C X hlk hr hin hl => kw_Coordinator_init_0 C hlk hr hin X hl h
set_option maxHeartbeats 4000000 in
set_option maxRecDepth 100000 in
theorem kw_Log_init_0 {th : Nat} {x1 : Int32} (C : xx_C p m c b_Log_init 2 s args Rn_Log E) (hlk : meth.locks = false) (hr : meth.sig.returnType = none) (hin : meth.name = "<init>") (X : xx_S E K M s H locs) (hl : lv_has ls 2 [(0, .ref th), (1, .int x1)]) (h : kf_Log_init_0 K th x1 = some K') : W p l e { frames := 1, cells := 2, slots := 110, locals := 20 } s m args below meth c H locs 0 0 (MQ below (xq_v E K' M) args s 2 110 (xe_A E)) (F0 m 0 ls []) := by
  have hx := C.1.1
  have hb := C.1.2.1
  unfold kf_Log_init_0 at h
  refine lv_aload_n hx hb d_Log_init_0 rfl (lv_at hl 0 rfl) ?_
  refine W.objInit hx hb C.1.2.2.2.1 (C.1.2.2.2.2 _ m_14) (C.1.2.2.2.2 _ m_1) (C.1.2.2.2.2 _ m_2) rfl (by rw [C.1.2.2.1]; exact hl.1) rfl d_Log_init_1 (Nat.le_of_ble_eq_true rfl) (Nat.le_of_ble_eq_true rfl) ?_
  refine W.eq (g2 := F0 m 4 ls []) rfl ?_
  refine lv_aload_n hx hb d_Log_init_4 rfl (lv_at hl 0 rfl) ?_
  refine lv_iconst hx hb d_Log_init_5 kn_i_1 ?_
  replace h := xb h
  obtain ⟨K1, hv, h⟩ := h
  refine xr_pz C X xc_Log (by decide) 1 (by decide) (by decide) rfl rfl rfl m_15 d_Log_init_6 hv (fun H locs X => ?_)
  refine lv_aload_n hx hb d_Log_init_9 rfl (lv_at hl 0 rfl) ?_
  refine lv_iconst hx hb d_Log_init_10 kn_i_1 ?_
  replace h := xb h
  obtain ⟨K2, hv, h⟩ := h
  refine xr_pi C X xc_Log (by decide) 2 (by decide) (by decide) rfl rfl rfl m_16 d_Log_init_11 hv (fun H locs X => ?_)
  refine lv_aload_n hx hb d_Log_init_14 rfl (lv_at hl 0 rfl) ?_
  refine lv_bipush hx hb d_Log_init_15 kn_b_10 ?_
  replace h := xb h
  obtain ⟨K3, hv, h⟩ := h
  refine xr_pi C X xc_Log (by decide) 3 (by decide) (by decide) rfl rfl rfl m_17 d_Log_init_17 hv (fun H locs X => ?_)
  refine lv_aload_n hx hb d_Log_init_20 rfl (lv_at hl 0 rfl) ?_
  refine lv_bipush hx hb d_Log_init_21 kn_b_10 ?_
  replace h := xpb h
  obtain ⟨q4, K5, hv, h⟩ := h
  refine xr_newa (ty := .int) (atype := .int) C X 0 (N := 10) rfl (by decide) rfl rfl (fun h => h) m_18 rfl (by decide +kernel) (by decide +kernel) (by decide +kernel) d_Log_init_23 (Nat.le_of_ble_eq_true rfl) (Nat.le_of_ble_eq_true rfl) hv (fun H X => ?_)
  replace h := xb h
  obtain ⟨K6, hv, h⟩ := h
  refine xr_prF (v := (some q4)) C X xc_Log (by decide) 4 (by decide) (by decide) rfl (Or.inr ⟨_, rfl⟩) rfl hin rfl m_19 d_Log_init_25 hv (fun H locs X => ?_)
  refine lv_aload_n hx hb d_Log_init_28 rfl (lv_at hl 0 rfl) ?_
  refine lv_bipush hx hb d_Log_init_29 kn_b_100 ?_
  replace h := xpb h
  obtain ⟨q7, K8, hv, h⟩ := h
  refine xr_newq C X 8 (N := 100) (by decide) rfl rfl m_20 (List.mem_of_getElem? (i := 6) rfl) (by decide +kernel) (by decide +kernel) (by decide +kernel) d_Log_init_31 (Nat.le_of_ble_eq_true rfl) (Nat.le_of_ble_eq_true rfl) hv (fun H X => ?_)
  replace h := xb h
  obtain ⟨K9, hv, h⟩ := h
  refine xr_prF (v := (some q7)) C X xc_Log (by decide) 5 (by decide) (by decide) rfl (Or.inr ⟨_, rfl⟩) rfl hin rfl m_21 d_Log_init_34 hv (fun H locs X => ?_)
  refine lv_aload_n hx hb d_Log_init_37 rfl (lv_at hl 0 rfl) ?_
  refine lv_iload_n hx hb d_Log_init_38 rfl (lv_at hl 1 rfl) ?_
  replace h := xb h
  obtain ⟨K10, hv, h⟩ := h
  refine xr_piF C X xc_Log (by decide) 0 (by decide) (by decide) rfl rfl rfl hin rfl m_22 d_Log_init_39 hv (fun H locs X => ?_)
  obtain rfl := Option.some.inj h
  exact xr_vret C X hlk hr d_Log_init_42 (Nat.le_of_ble_eq_true rfl) (Nat.le_of_ble_eq_true rfl)
theorem kc_Log_init (l : Launch) (E : xe) {th : Nat} {x1 : Int32} (h : kf_Log_init_0 K th x1 = some K') : Met l y_Log_init (Cond.code y_Log_init b_Log_init 2 none :: w_all) { frames := 1, cells := 2, slots := 110, locals := 20 } (va_Pc [.ref th, .int x1] (fun U => xx_B E K M U)) (xq_v E K' M) 2 110 (xe_A E) :=
  xr_met (by decide) (Nat.le_of_ble_eq_true rfl) fun p e s m below meth c ls C X hlk hr hin hl => kw_Log_init_0 C hlk hr hin X hl h
set_option maxHeartbeats 4000000 in
set_option maxRecDepth 100000 in
theorem kw_Storage_init_0 {th : Nat} {x1 : Int32} (C : xx_C p m c b_Storage_init 2 s args Rn_Storage E) (hlk : meth.locks = false) (hr : meth.sig.returnType = none) (hin : meth.name = "<init>") (X : xx_S E K M s H locs) (hl : lv_has ls 2 [(0, .ref th), (1, .int x1)]) (h : kf_Storage_init_0 K th x1 = some K') : W p l e { frames := 1, cells := 1, slots := 100, locals := 20 } s m args below meth c H locs 0 0 (MQ below (xq_v E K' M) args s 1 100 (xe_A E)) (F0 m 0 ls []) := by
  have hx := C.1.1
  have hb := C.1.2.1
  unfold kf_Storage_init_0 at h
  refine lv_aload_n hx hb d_Storage_init_0 rfl (lv_at hl 0 rfl) ?_
  refine W.objInit hx hb C.1.2.2.2.1 (C.1.2.2.2.2 _ m_23) (C.1.2.2.2.2 _ m_1) (C.1.2.2.2.2 _ m_2) rfl (by rw [C.1.2.2.1]; exact hl.1) rfl d_Storage_init_1 (Nat.le_of_ble_eq_true rfl) (Nat.le_of_ble_eq_true rfl) ?_
  refine W.eq (g2 := F0 m 4 ls []) rfl ?_
  refine lv_aload_n hx hb d_Storage_init_4 rfl (lv_at hl 0 rfl) ?_
  refine lv_iconst hx hb d_Storage_init_5 kn_i_1 ?_
  replace h := xb h
  obtain ⟨K1, hv, h⟩ := h
  refine xr_pz C X xc_Storage (by decide) 1 (by decide) (by decide) rfl rfl rfl m_24 d_Storage_init_6 hv (fun H locs X => ?_)
  refine lv_aload_n hx hb d_Storage_init_9 rfl (lv_at hl 0 rfl) ?_
  refine lv_iconst hx hb d_Storage_init_10 kn_i_1 ?_
  replace h := xb h
  obtain ⟨K2, hv, h⟩ := h
  refine xr_pi C X xc_Storage (by decide) 2 (by decide) (by decide) rfl rfl rfl m_25 d_Storage_init_11 hv (fun H locs X => ?_)
  refine lv_aload_n hx hb d_Storage_init_14 rfl (lv_at hl 0 rfl) ?_
  refine lv_bipush hx hb d_Storage_init_15 kn_b_10 ?_
  replace h := xb h
  obtain ⟨K3, hv, h⟩ := h
  refine xr_pi C X xc_Storage (by decide) 3 (by decide) (by decide) rfl rfl rfl m_26 d_Storage_init_17 hv (fun H locs X => ?_)
  refine lv_aload_n hx hb d_Storage_init_20 rfl (lv_at hl 0 rfl) ?_
  refine lv_bipush hx hb d_Storage_init_21 kn_b_100 ?_
  replace h := xpb h
  obtain ⟨q4, K5, hv, h⟩ := h
  refine xr_newq C X 8 (N := 100) (by decide) rfl rfl m_27 (List.mem_of_getElem? (i := 6) rfl) (by decide +kernel) (by decide +kernel) (by decide +kernel) d_Storage_init_23 (Nat.le_of_ble_eq_true rfl) (Nat.le_of_ble_eq_true rfl) hv (fun H X => ?_)
  replace h := xb h
  obtain ⟨K6, hv, h⟩ := h
  refine xr_prF (v := (some q4)) C X xc_Storage (by decide) 4 (by decide) (by decide) rfl (Or.inr ⟨_, rfl⟩) rfl hin rfl m_28 d_Storage_init_26 hv (fun H locs X => ?_)
  refine lv_aload_n hx hb d_Storage_init_29 rfl (lv_at hl 0 rfl) ?_
  refine lv_bipush hx hb d_Storage_init_30 kn_b_15 ?_
  refine lv_iload_n hx hb d_Storage_init_32 rfl (lv_at hl 1 rfl) ?_
  refine lv_iconst hx hb d_Storage_init_33 kn_i_4 ?_
  refine lv_imul hx hb d_Storage_init_34 ?_
  refine lv_ishl hx hb d_Storage_init_35 ?_
  replace h := xb h
  obtain ⟨K7, hv, h⟩ := h
  refine xr_piF C X xc_Storage (by decide) 0 (by decide) (by decide) rfl rfl rfl hin rfl m_29 d_Storage_init_36 hv (fun H locs X => ?_)
  obtain rfl := Option.some.inj h
  exact xr_vret C X hlk hr d_Storage_init_39 (Nat.le_of_ble_eq_true rfl) (Nat.le_of_ble_eq_true rfl)
theorem kc_Storage_init (l : Launch) (E : xe) {th : Nat} {x1 : Int32} (h : kf_Storage_init_0 K th x1 = some K') : Met l y_Storage_init (Cond.code y_Storage_init b_Storage_init 2 none :: w_all) { frames := 1, cells := 1, slots := 100, locals := 20 } (va_Pc [.ref th, .int x1] (fun U => xx_B E K M U)) (xq_v E K' M) 1 100 (xe_A E) :=
  xr_met (by decide) (Nat.le_of_ble_eq_true rfl) fun p e s m below meth c ls C X hlk hr hin hl => kw_Storage_init_0 C hlk hr hin X hl h
set_option maxHeartbeats 4000000 in
set_option maxRecDepth 100000 in
theorem kw_Writes_init_0 {th : Nat} (C : xx_C p m c b_Writes_init 1 s args Rn_Writes E) (hlk : meth.locks = false) (hr : meth.sig.returnType = none) (hin : meth.name = "<init>") (X : xx_S E K M s H locs) (hl : lv_has ls 1 [(0, .ref th)]) (h : kf_Writes_init_0 K th = some K') : W p l e { frames := 1, cells := 1, slots := 8, locals := 20 } s m args below meth c H locs 0 0 (MQ below (xq_v E K' M) args s 1 8 (xe_A E)) (F0 m 0 ls []) := by
  have hx := C.1.1
  have hb := C.1.2.1
  unfold kf_Writes_init_0 at h
  refine lv_aload_n hx hb d_Writes_init_0 rfl (lv_at hl 0 rfl) ?_
  refine W.objInit hx hb C.1.2.2.2.1 (C.1.2.2.2.2 _ m_30) (C.1.2.2.2.2 _ m_1) (C.1.2.2.2.2 _ m_2) rfl (by rw [C.1.2.2.1]; exact hl.1) rfl d_Writes_init_1 (Nat.le_of_ble_eq_true rfl) (Nat.le_of_ble_eq_true rfl) ?_
  refine W.eq (g2 := F0 m 4 ls []) rfl ?_
  refine lv_aload_n hx hb d_Writes_init_4 rfl (lv_at hl 0 rfl) ?_
  refine lv_bipush hx hb d_Writes_init_5 kn_b_8 ?_
  replace h := xpb h
  obtain ⟨q1, K2, hv, h⟩ := h
  refine xr_newa (ty := .int) (atype := .int) C X 0 (N := 8) rfl (by decide) rfl rfl (fun h => h) m_18 rfl (by decide +kernel) (by decide +kernel) (by decide +kernel) d_Writes_init_7 (Nat.le_of_ble_eq_true rfl) (Nat.le_of_ble_eq_true rfl) hv (fun H X => ?_)
  replace h := xb h
  obtain ⟨K3, hv, h⟩ := h
  refine xr_prF (v := (some q1)) C X xc_Writes (by decide) 1 (by decide) (by decide) rfl (Or.inr ⟨_, rfl⟩) rfl hin rfl m_31 d_Writes_init_9 hv (fun H locs X => ?_)
  obtain rfl := Option.some.inj h
  exact xr_vret C X hlk hr d_Writes_init_12 (Nat.le_of_ble_eq_true rfl) (Nat.le_of_ble_eq_true rfl)
theorem kc_Writes_init (l : Launch) (E : xe) {th : Nat} (h : kf_Writes_init_0 K th = some K') : Met l y_Writes_init (Cond.code y_Writes_init b_Writes_init 1 none :: w_all) { frames := 1, cells := 1, slots := 8, locals := 20 } (va_Pc [.ref th] (fun U => xx_B E K M U)) (xq_v E K' M) 1 8 (xe_A E) :=
  xr_met (by decide) (Nat.le_of_ble_eq_true rfl) fun p e s m below meth c ls C X hlk hr hin hl => kw_Writes_init_0 C hlk hr hin X hl h
set_option maxHeartbeats 4000000 in
set_option maxRecDepth 100000 in
theorem kw_Client_init_0 {th : Nat} {x1 : Int32} (C : xx_C p m c b_Client_init 2 s args Rn_Client E) (hlk : meth.locks = false) (hr : meth.sig.returnType = none) (hin : meth.name = "<init>") (X : xx_S E K M s H locs) (hl : lv_has ls 2 [(0, .ref th), (1, .int x1)]) (h : kf_Client_init_0 K th x1 = some K') : W p l e { frames := 2, cells := 2, slots := 10, locals := 40 } s m args below meth c H locs 0 0 (MQ below (xq_v E K' M) args s 2 10 (xe_A E)) (F0 m 0 ls []) := by
  have hx := C.1.1
  have hb := C.1.2.1
  unfold kf_Client_init_0 at h
  refine lv_aload_n hx hb d_Client_init_0 rfl (lv_at hl 0 rfl) ?_
  refine W.objInit hx hb C.1.2.2.2.1 (C.1.2.2.2.2 _ m_32) (C.1.2.2.2.2 _ m_1) (C.1.2.2.2.2 _ m_2) rfl (by rw [C.1.2.2.1]; exact hl.1) rfl d_Client_init_1 (Nat.le_of_ble_eq_true rfl) (Nat.le_of_ble_eq_true rfl) ?_
  refine W.eq (g2 := F0 m 4 ls []) rfl ?_
  refine lv_aload_n hx hb d_Client_init_4 rfl (lv_at hl 0 rfl) ?_
  refine lv_iconst hx hb d_Client_init_5 kn_i_1 ?_
  replace h := xb h
  obtain ⟨K1, hv, h⟩ := h
  refine xr_pi C X xc_Client (by decide) 1 (by decide) (by decide) rfl rfl rfl m_33 d_Client_init_6 hv (fun H locs X => ?_)
  refine lv_aload_n hx hb d_Client_init_9 rfl (lv_at hl 0 rfl) ?_
  refine lv_iconst hx hb d_Client_init_10 kn_i_0 ?_
  replace h := xb h
  obtain ⟨K2, hv, h⟩ := h
  refine xr_pi C X xc_Client (by decide) 3 (by decide) (by decide) rfl rfl rfl m_34 d_Client_init_11 hv (fun H locs X => ?_)
  refine lv_aload_n hx hb d_Client_init_14 rfl (lv_at hl 0 rfl) ?_
  refine lv_iconst hx hb d_Client_init_15 kn_i_1 ?_
  replace h := xb h
  obtain ⟨K3, hv, h⟩ := h
  refine xr_pi C X xc_Client (by decide) 4 (by decide) (by decide) rfl rfl rfl m_35 d_Client_init_16 hv (fun H locs X => ?_)
  refine lv_aload_n hx hb d_Client_init_19 rfl (lv_at hl 0 rfl) ?_
  replace h := xpb h
  obtain ⟨q4, K5, hv, h⟩ := h
  refine xr_new C X xc_Writes (by decide) rfl xdf_Writes m_36 m_37 m_38 d_Client_init_20 (Nat.le_of_ble_eq_true rfl) (Nat.le_of_ble_eq_true rfl) hv (fun H X => ?_)
  refine lv_dup hx hb d_Client_init_23 rfl ?_
  replace h := xb h
  obtain ⟨K6, hv, h⟩ := h
  refine xr_kv (va_runIN (As := []) (rest := [.ref q4, .ref th]) C.1 (kc_Writes_init l E hv) ⟨va_cnB 0 C.1.2.2.2.2 (xw_in m_39) rfl rfl rfl (C.2.2.1 (Rn_Client, 23, y_Writes_init, "EpochStore") (List.mem_of_getElem? (i := 2) rfl)) (C.1.2.2.2.2 _ m_38) ky_Writes_init ⟨(Nat.le_of_ble_eq_true rfl), (Nat.le_of_ble_eq_true rfl)⟩, rfl, C.1.2.2.2.2 _ m_40⟩ (xr_pS C X) rfl rfl hl.1 rfl (lv_room (Nat.le_of_ble_eq_true rfl)) d_Client_init_24 ⟨(Nat.le_of_ble_eq_true rfl), (Nat.le_of_ble_eq_true rfl)⟩) X (fun H locs X => ?_)
  replace h := xb h
  obtain ⟨K7, hv, h⟩ := h
  refine xr_pr (v := (some q4)) C X xc_Client (by decide) 8 (by decide) (by decide) rfl (Or.inl ⟨_, rfl⟩) rfl m_41 d_Client_init_27 hv (fun H locs X => ?_)
  refine lv_aload_n hx hb d_Client_init_30 rfl (lv_at hl 0 rfl) ?_
  refine lv_iload_n hx hb d_Client_init_31 rfl (lv_at hl 1 rfl) ?_
  replace h := xb h
  obtain ⟨K8, hv, h⟩ := h
  refine xr_piF C X xc_Client (by decide) 0 (by decide) (by decide) rfl rfl rfl hin rfl m_42 d_Client_init_32 hv (fun H locs X => ?_)
  obtain rfl := Option.some.inj h
  exact xr_vret C X hlk hr d_Client_init_35 (Nat.le_of_ble_eq_true rfl) (Nat.le_of_ble_eq_true rfl)
theorem kc_Client_init (l : Launch) (E : xe) {th : Nat} {x1 : Int32} (h : kf_Client_init_0 K th x1 = some K') : Met l y_Client_init (Cond.code y_Client_init b_Client_init 2 none :: w_all) { frames := 2, cells := 2, slots := 10, locals := 40 } (va_Pc [.ref th, .int x1] (fun U => xx_B E K M U)) (xq_v E K' M) 2 10 (xe_A E) :=
  xr_met (by decide) (Nat.le_of_ble_eq_true rfl) fun p e s m below meth c ls C X hlk hr hin hl => kw_Client_init_0 C hlk hr hin X hl h
set_option maxHeartbeats 4000000 in
set_option maxRecDepth 100000 in
theorem kwb_Master_init_63 {rec63 : xk → Nat → Int32 → Int32 → Option xk} {th : Nat} {x3 : Int32} {x4 : Int32} (C : xx_C p m c b_Master_init 5 s args Rn_Master E) (hlk : meth.locks = false) (hr : meth.sig.returnType = none) (hin : meth.name = "<init>") (hrec63 : ∀ {H : Heap} {locs : List Loc} {ls : Array Slot} {K : xk} {th : Nat} {x3 : Int32} {x4 : Int32}, xx_S E K M s H locs → lv_has ls 5 [(0, .ref th), (3, .int x3), (4, .int x4)] → rec63 K th x3 x4 = some K' → W p l e { frames := 1, cells := 3, slots := 24, locals := 20 } s m args below meth c H locs 3 24 (MQ below (xq_v E K' M) args s 3 24 (xe_A E)) (F0 m 63 ls [])) (X : xx_S E K M s H locs) (hl : lv_has ls 5 [(0, .ref th), (3, .int x3), (4, .int x4)]) (h : kb_Master_init_63 rec63 K th x3 x4 = some K') : W p l e { frames := 1, cells := 3, slots := 24, locals := 20 } s m args below meth c H locs 3 24 (MQ below (xq_v E K' M) args s 3 24 (xe_A E)) (F0 m 63 ls []) := by
  have hx := C.1.1
  have hb := C.1.2.1
  unfold kb_Master_init_63 at h
  refine lv_iload hx hb d_Master_init_63 (lv_at hl 2 rfl) ?_
  refine lv_bipush hx hb d_Master_init_65 kn_b_8 ?_
  refine lv_icmp_ge (tgt := 84) hx hb d_Master_init_67 (by decide +kernel) (fun hc => ?_) (fun hc => ?_)
  · rw [if_pos hc] at h
    obtain rfl := Option.some.inj h
    exact xr_vret C X hlk hr d_Master_init_84 (Nat.le_of_ble_eq_true rfl) (Nat.le_of_ble_eq_true rfl)
  · rw [if_neg hc] at h
    refine lv_aload_n hx hb d_Master_init_70 rfl (lv_at hl 0 rfl) ?_
    replace h := xb h
    obtain ⟨v1, hv, h⟩ := h
    refine xr_gr C X xc_Master (by decide) 6 (by decide) (by decide) rfl m_44 d_Master_init_71 hv ?_
    refine lv_iload hx hb d_Master_init_74 (lv_at hl 2 rfl) ?_
    refine lv_iload_n hx hb d_Master_init_76 rfl (lv_at hl 1 rfl) ?_
    replace h := xb h
    obtain ⟨a3, rfl, h⟩ := h
    replace h := xb h
    obtain ⟨K2, hv, h⟩ := h
    refine xr_iast C X 0 (by decide) rfl rfl d_Master_init_77 hv (fun H locs X => ?_)
    refine lv_iinc (k := 2) (v := (x4 + (1 : Int32))) hx hb d_Master_init_78 hl rfl (congrArg (fun y : Int32 => x4 + y) kn_i_1) (by decide) rfl (fun ls hl => ?_)
    have hl : lv_has ls 5 [(4, .int (x4 + (1 : Int32))), (0, .ref th), (3, .int x3)] := hl
    refine lv_goto (tgt := 63) hx hb d_Master_init_81 (by decide +kernel) ?_
    exact hrec63 (th := th) (x3 := x3) (x4 := (x4 + (1 : Int32))) X (lv_sub hl [1, 2, 0] rfl) h
theorem kw_Master_init_63 (C : xx_C p m c b_Master_init 5 s args Rn_Master E) (hlk : meth.locks = false) (hr : meth.sig.returnType = none) (hin : meth.name = "<init>") : ∀ (n : Nat) {H : Heap} {locs : List Loc} {ls : Array Slot} {K : xk} {th : Nat} {x3 : Int32} {x4 : Int32}, xx_S E K M s H locs → lv_has ls 5 [(0, .ref th), (3, .int x3), (4, .int x4)] → kf_Master_init_63 n K th x3 x4 = some K' → W p l e { frames := 1, cells := 3, slots := 24, locals := 20 } s m args below meth c H locs 3 24 (MQ below (xq_v E K' M) args s 3 24 (xe_A E)) (F0 m 63 ls []) := by
  intro n
  induction n with
  | zero => intro H locs ls K th x3 x4 X hl h; exact nomatch (show (none : Option xk) = some _ from h)
  | succ n ih => intro H locs ls K th x3 x4 X hl h; exact kwb_Master_init_63 C hlk hr hin ih X hl h
set_option maxHeartbeats 4000000 in
set_option maxRecDepth 100000 in
theorem kw_Master_init_50 {th : Nat} {x3 : Int32} (C : xx_C p m c b_Master_init 5 s args Rn_Master E) (hlk : meth.locks = false) (hr : meth.sig.returnType = none) (hin : meth.name = "<init>") (X : xx_S E K M s H locs) (hl : lv_has ls 5 [(0, .ref th), (3, .int x3)]) (h : kf_Master_init_50 K th x3 = some K') : W p l e { frames := 1, cells := 3, slots := 24, locals := 20 } s m args below meth c H locs 3 24 (MQ below (xq_v E K' M) args s 3 24 (xe_A E)) (F0 m 50 ls []) := by
  have hx := C.1.1
  have hb := C.1.2.1
  unfold kf_Master_init_50 at h
  refine lv_aload_n hx hb d_Master_init_50 rfl (lv_at hl 0 rfl) ?_
  refine lv_iload_n hx hb d_Master_init_51 rfl (lv_at hl 1 rfl) ?_
  replace h := xb h
  obtain ⟨K1, hv, h⟩ := h
  refine xr_pi C X xc_Master (by decide) 4 (by decide) (by decide) rfl rfl rfl m_53 d_Master_init_52 hv (fun H locs X => ?_)
  refine lv_aload_n hx hb d_Master_init_55 rfl (lv_at hl 0 rfl) ?_
  refine lv_iload_n hx hb d_Master_init_56 rfl (lv_at hl 1 rfl) ?_
  replace h := xb h
  obtain ⟨K2, hv, h⟩ := h
  refine xr_pi C X xc_Master (by decide) 5 (by decide) (by decide) rfl rfl rfl m_54 d_Master_init_57 hv (fun H locs X => ?_)
  refine lv_iconst hx hb d_Master_init_60 kn_i_0 ?_
  refine lv_istore hx hb d_Master_init_61 hl (by decide) rfl (fun ls hl => ?_)
  have hl : lv_has ls 5 [(4, .int (0 : Int32)), (0, .ref th), (3, .int x3)] := hl
  exact kw_Master_init_63 C hlk hr hin 1000 X (lv_sub hl [1, 2, 0] rfl) h
set_option maxHeartbeats 4000000 in
set_option maxRecDepth 100000 in
theorem kw_Master_init_0 {th : Nat} {x1 : Int32} {x2 : Int32} {x3 : Int32} (C : xx_C p m c b_Master_init 5 s args Rn_Master E) (hlk : meth.locks = false) (hr : meth.sig.returnType = none) (hin : meth.name = "<init>") (X : xx_S E K M s H locs) (hl : lv_has ls 5 [(0, .ref th), (1, .int x1), (2, .int x2), (3, .int x3)]) (h : kf_Master_init_0 K th x1 x2 x3 = some K') : W p l e { frames := 1, cells := 3, slots := 24, locals := 20 } s m args below meth c H locs 0 0 (MQ below (xq_v E K' M) args s 3 24 (xe_A E)) (F0 m 0 ls []) := by
  have hx := C.1.1
  have hb := C.1.2.1
  unfold kf_Master_init_0 at h
  refine lv_aload_n hx hb d_Master_init_0 rfl (lv_at hl 0 rfl) ?_
  refine W.objInit hx hb C.1.2.2.2.1 (C.1.2.2.2.2 _ m_43) (C.1.2.2.2.2 _ m_1) (C.1.2.2.2.2 _ m_2) rfl (by rw [C.1.2.2.1]; exact hl.1) rfl d_Master_init_1 (Nat.le_of_ble_eq_true rfl) (Nat.le_of_ble_eq_true rfl) ?_
  refine W.eq (g2 := F0 m 4 ls []) rfl ?_
  refine lv_aload_n hx hb d_Master_init_4 rfl (lv_at hl 0 rfl) ?_
  refine lv_bipush hx hb d_Master_init_5 kn_b_8 ?_
  replace h := xpb h
  obtain ⟨q1, K2, hv, h⟩ := h
  refine xr_newa (ty := .int) (atype := .int) C X 0 (N := 8) rfl (by decide) rfl rfl (fun h => h) m_18 rfl (by decide +kernel) (by decide +kernel) (by decide +kernel) d_Master_init_7 (Nat.le_of_ble_eq_true rfl) (Nat.le_of_ble_eq_true rfl) hv (fun H X => ?_)
  replace h := xb h
  obtain ⟨K3, hv, h⟩ := h
  refine xr_prF (v := (some q1)) C X xc_Master (by decide) 6 (by decide) (by decide) rfl (Or.inr ⟨_, rfl⟩) rfl hin rfl m_44 d_Master_init_9 hv (fun H locs X => ?_)
  refine lv_aload_n hx hb d_Master_init_12 rfl (lv_at hl 0 rfl) ?_
  refine lv_bipush hx hb d_Master_init_13 kn_b_8 ?_
  replace h := xpb h
  obtain ⟨q4, K5, hv, h⟩ := h
  refine xr_newq C X 9 (N := 8) (by decide) rfl rfl m_45 (List.mem_of_getElem? (i := 7) rfl) (by decide +kernel) (by decide +kernel) (by decide +kernel) d_Master_init_15 (Nat.le_of_ble_eq_true rfl) (Nat.le_of_ble_eq_true rfl) hv (fun H X => ?_)
  replace h := xb h
  obtain ⟨K6, hv, h⟩ := h
  refine xr_prF (v := (some q4)) C X xc_Master (by decide) 7 (by decide) (by decide) rfl (Or.inr ⟨_, rfl⟩) rfl hin rfl m_46 d_Master_init_18 hv (fun H locs X => ?_)
  refine lv_aload_n hx hb d_Master_init_21 rfl (lv_at hl 0 rfl) ?_
  refine lv_bipush hx hb d_Master_init_22 kn_b_8 ?_
  replace h := xpb h
  obtain ⟨q7, K8, hv, h⟩ := h
  refine xr_newq C X 10 (N := 8) (by decide) rfl rfl m_47 (List.mem_of_getElem? (i := 8) rfl) (by decide +kernel) (by decide +kernel) (by decide +kernel) d_Master_init_24 (Nat.le_of_ble_eq_true rfl) (Nat.le_of_ble_eq_true rfl) hv (fun H X => ?_)
  replace h := xb h
  obtain ⟨K9, hv, h⟩ := h
  refine xr_prF (v := (some q7)) C X xc_Master (by decide) 10 (by decide) (by decide) rfl (Or.inr ⟨_, rfl⟩) rfl hin rfl m_48 d_Master_init_27 hv (fun H locs X => ?_)
  refine lv_aload_n hx hb d_Master_init_30 rfl (lv_at hl 0 rfl) ?_
  refine lv_iload_n hx hb d_Master_init_31 rfl (lv_at hl 1 rfl) ?_
  replace h := xb h
  obtain ⟨K10, hv, h⟩ := h
  refine xr_piF C X xc_Master (by decide) 0 (by decide) (by decide) rfl rfl rfl hin rfl m_49 d_Master_init_32 hv (fun H locs X => ?_)
  refine lv_aload_n hx hb d_Master_init_35 rfl (lv_at hl 0 rfl) ?_
  refine lv_iload_n hx hb d_Master_init_36 rfl (lv_at hl 2 rfl) ?_
  replace h := xb h
  obtain ⟨K11, hv, h⟩ := h
  refine xr_piF C X xc_Master (by decide) 1 (by decide) (by decide) rfl rfl rfl hin rfl m_50 d_Master_init_37 hv (fun H locs X => ?_)
  refine lv_aload_n hx hb d_Master_init_40 rfl (lv_at hl 0 rfl) ?_
  refine lv_iload_n hx hb d_Master_init_41 rfl (lv_at hl 3 rfl) ?_
  replace h := xb h
  obtain ⟨K12, hv, h⟩ := h
  refine xr_piF C X xc_Master (by decide) 2 (by decide) (by decide) rfl rfl rfl hin rfl m_51 d_Master_init_42 hv (fun H locs X => ?_)
  refine lv_aload_n hx hb d_Master_init_45 rfl (lv_at hl 0 rfl) ?_
  refine lv_iload_n hx hb d_Master_init_46 rfl (lv_at hl 3 rfl) ?_
  replace h := xb h
  obtain ⟨K13, hv, h⟩ := h
  refine xr_pi C X xc_Master (by decide) 3 (by decide) (by decide) rfl rfl rfl m_52 d_Master_init_47 hv (fun H locs X => ?_)
  exact kw_Master_init_50 (th := th) (x3 := x3) C hlk hr hin  X (lv_sub hl [0, 3] rfl) h
theorem kc_Master_init (l : Launch) (E : xe) {th : Nat} {x1 : Int32} {x2 : Int32} {x3 : Int32} (h : kf_Master_init_0 K th x1 x2 x3 = some K') : Met l y_Master_init (Cond.code y_Master_init b_Master_init 5 none :: w_all) { frames := 1, cells := 3, slots := 24, locals := 20 } (va_Pc [.ref th, .int x1, .int x2, .int x3] (fun U => xx_B E K M U)) (xq_v E K' M) 3 24 (xe_A E) :=
  xr_met (by decide) (Nat.le_of_ble_eq_true rfl) fun p e s m below meth c ls C X hlk hr hin hl => kw_Master_init_0 C hlk hr hin X hl h
end KW2
