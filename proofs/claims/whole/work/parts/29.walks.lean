/-! EpochStore.deliver(I)I -/
def kf_ES_deliver_85 (K : xk) (x2 : Nat) : Option (Int32 × xk) := (xI K 4 0 x2).bind fun v1 => some (v1, K)
def kf_ES_deliver_0 (K : xk) (th : Nat) (x1 : Int32) : Option (Int32 × xk) := (xR K 0 5 th).bind fun v1 => (v1).bind fun a2 => (xO K 5 a2).bind fun _ => xp (kf_Line_has_0 K a2 x1) fun r5 K3 => if r5 = 0 then (some ((-1 : Int32), K3)) else (xR K3 0 5 th).bind fun v6 => (v6).bind fun a7 => (xO K3 5 a7).bind fun _ => xp (kf_Line_take_0 K3 a7 x1) fun r10 K8 => (r10).bind fun a11 => (xI K8 4 0 a11).bind fun v12 => if v12 = (2 : Int32) then ((xR K8 0 1 th).bind fun v13 => (xI K8 4 1 a11).bind fun v14 => (v13).bind fun a16 => (xRa K8 3 a16 v14).bind fun v15 => (xR K8 0 5 th).bind fun v17 => (v15).bind fun a18 => (v17).bind fun a19 => (xO K8 9 a18).bind fun _ => (kf_Log_receive_0 K8 a18 a11 a19).bind fun K20 => kf_ES_deliver_85 K20 a11) else if v12 = (3 : Int32) then ((xI K8 4 2 a11).bind fun v22 => (xO K8 0 th).bind fun _ => xp (kf_ES_isMaster_0 K8 th v22) fun r25 K23 => if r25 = 0 then ((xI K23 4 0 a11).bind fun v26 => some (v26, K23)) else (xR K23 0 4 th).bind fun v27 => (xI K23 4 2 a11).bind fun v28 => (v27).bind fun a30 => (xRa K23 6 a30 v28).bind fun v29 => (xR K23 0 5 th).bind fun v31 => (v29).bind fun a32 => (v31).bind fun a33 => (xO K23 8 a32).bind fun _ => (kf_Master_receive_0 K23 a32 a11 a33).bind fun K34 => (xI K34 4 0 a11).bind fun v36 => some (v36, K34)) else if v12 = (4 : Int32) then ((xR K8 0 3 th).bind fun v37 => (xI K8 4 1 a11).bind fun v38 => (v37).bind fun a40 => (xRa K8 5 a40 v38).bind fun v39 => (v39).bind fun a41 => (xO K8 11 a41).bind fun _ => (kf_Client_receive_0 K8 a41 a11).bind fun K42 => (xI K42 4 0 a11).bind fun v44 => some (v44, K42)) else if v12 = (5 : Int32) then ((xI K8 4 2 a11).bind fun v45 => (xO K8 0 th).bind fun _ => xp (kf_ES_isMaster_0 K8 th v45) fun r48 K46 => if r48 = 0 then ((xI K46 4 0 a11).bind fun v49 => some (v49, K46)) else (xR K46 0 4 th).bind fun v50 => (xI K46 4 2 a11).bind fun v51 => (v50).bind fun a53 => (xRa K46 6 a53 v51).bind fun v52 => (xR K46 0 5 th).bind fun v54 => (v52).bind fun a55 => (v54).bind fun a56 => (xO K46 8 a55).bind fun _ => (kf_Master_receive_0 K46 a55 a11 a56).bind fun K57 => (xI K57 4 0 a11).bind fun v59 => some (v59, K57)) else if v12 = (6 : Int32) then ((xR K8 0 1 th).bind fun v60 => (xI K8 4 1 a11).bind fun v61 => (v60).bind fun a63 => (xRa K8 3 a63 v61).bind fun v62 => (xR K8 0 5 th).bind fun v64 => (v62).bind fun a65 => (v64).bind fun a66 => (xO K8 9 a65).bind fun _ => (kf_Log_receive_0 K8 a65 a11 a66).bind fun K67 => kf_ES_deliver_85 K67 a11) else if v12 = (7 : Int32) then ((xI K8 4 2 a11).bind fun v69 => (xO K8 0 th).bind fun _ => xp (kf_ES_isMaster_0 K8 th v69) fun r72 K70 => if r72 = 0 then ((xI K70 4 0 a11).bind fun v73 => some (v73, K70)) else (xR K70 0 4 th).bind fun v74 => (xI K70 4 2 a11).bind fun v75 => (v74).bind fun a77 => (xRa K70 6 a77 v75).bind fun v76 => (xR K70 0 5 th).bind fun v78 => (v76).bind fun a79 => (v78).bind fun a80 => (xO K70 8 a79).bind fun _ => (kf_Master_receive_0 K70 a79 a11 a80).bind fun K81 => (xI K81 4 0 a11).bind fun v83 => some (v83, K81)) else if v12 = (8 : Int32) then ((xR K8 0 3 th).bind fun v84 => (xI K8 4 1 a11).bind fun v85 => (v84).bind fun a87 => (xRa K8 5 a87 v85).bind fun v86 => (v86).bind fun a88 => (xO K8 11 a88).bind fun _ => (kf_Client_receive_0 K8 a88 a11).bind fun K89 => (xI K89 4 0 a11).bind fun v91 => some (v91, K89)) else (xI K8 4 2 a11).bind fun v92 => (xO K8 0 th).bind fun _ => xp (kf_ES_isMaster_0 K8 th v92) fun r95 K93 => if r95 = 0 then ((xI K93 4 0 a11).bind fun v96 => some (v96, K93)) else (xR K93 0 4 th).bind fun v97 => (xI K93 4 2 a11).bind fun v98 => (v97).bind fun a100 => (xRa K93 6 a100 v98).bind fun v99 => (xR K93 0 5 th).bind fun v101 => (v99).bind fun a102 => (v101).bind fun a103 => (xO K93 8 a102).bind fun _ => (kf_Master_receive_0 K93 a102 a11 a103).bind fun K104 => (xI K104 4 0 a11).bind fun v106 => some (v106, K104)
/-! EpochStore.lose(I)Z -/
def kf_ES_lose_0 (K : xk) (th : Nat) (x1 : Int32) : Option (Int32 × xk) := (xR K 0 5 th).bind fun v1 => (v1).bind fun a2 => (xO K 5 a2).bind fun _ => xp (kf_Line_has_0 K a2 x1) fun r5 K3 => if r5 = 0 then (some ((0 : Int32), K3)) else (xR K3 0 5 th).bind fun v6 => (v6).bind fun a7 => (xO K3 5 a7).bind fun _ => xp (kf_Line_take_0 K3 a7 x1) fun r10 K8 => some ((1 : Int32), K8)
/-! EpochStore.stopMaster(I)Z -/
def kf_ES_stopMaster_0 (K : xk) (th : Nat) (x1 : Int32) : Option (Int32 × xk) := (xO K 0 th).bind fun _ => xp (kf_ES_isMaster_0 K th x1) fun r3 K1 => if r3 = 0 then (some ((0 : Int32), K1)) else (xR K1 0 4 th).bind fun v4 => (v4).bind fun a6 => (xRt K1 6 8 a6 x1 none).bind fun K5 => some ((1 : Int32), K5)
/-! EpochStore.isCoordinator(I)Z -/
def kf_ES_isCoordinator_0 (K : xk) (x0 : Int32) : Option (Int32 × xk) := if x0 < 0 then (some ((0 : Int32), K)) else if (3 : Int32) ≤ x0 then (some ((0 : Int32), K)) else some ((1 : Int32), K)
/-! EpochStore.isLog(I)Z -/
def kf_ES_isLog_0 (K : xk) (x0 : Int32) : Option (Int32 × xk) := if x0 < 0 then (some ((0 : Int32), K)) else if (3 : Int32) ≤ x0 then (some ((0 : Int32), K)) else some ((1 : Int32), K)
/-! EpochStore.isStorage(I)Z -/
def kf_ES_isStorage_0 (K : xk) (x0 : Int32) : Option (Int32 × xk) := if x0 < 0 then (some ((0 : Int32), K)) else if (2 : Int32) ≤ x0 then (some ((0 : Int32), K)) else some ((1 : Int32), K)
/-! EpochStore.isServer(II)Z -/
def kf_ES_isServer_0 (K : xk) (x0 : Int32) (x1 : Int32) : Option (Int32 × xk) := if x0 = (0 : Int32) then (xp (kf_ES_isCoordinator_0 K x1) fun r2 K1 => (xZ r2).bind fun z3 => some (z3, K1)) else if x0 = (1 : Int32) then (xp (kf_ES_isLog_0 K x1) fun r5 K4 => (xZ r5).bind fun z6 => some (z6, K4)) else if x0 = (2 : Int32) then (xp (kf_ES_isStorage_0 K x1) fun r8 K7 => (xZ r8).bind fun z9 => some (z9, K7)) else some ((0 : Int32), K)
/-! EpochStore.isUp(II)Z -/
def kf_ES_isUp_0 (K : xk) (th : Nat) (x1 : Int32) (x2 : Int32) : Option (Int32 × xk) := if x1 = (0 : Int32) then ((xR K 0 0 th).bind fun v1 => (v1).bind fun a3 => (xRa K 2 a3 x2).bind fun v2 => (v2).bind fun a4 => (xI K 1 0 a4).bind fun v5 => (xZ v5).bind fun z6 => some (z6, K)) else if x1 = (1 : Int32) then ((xR K 0 1 th).bind fun v7 => (v7).bind fun a9 => (xRa K 3 a9 x2).bind fun v8 => (v8).bind fun a10 => (xI K 9 1 a10).bind fun v11 => (xZ v11).bind fun z12 => some (z12, K)) else (xR K 0 2 th).bind fun v13 => (v13).bind fun a15 => (xRa K 4 a15 x2).bind fun v14 => (v14).bind fun a16 => (xI K 10 1 a16).bind fun v17 => (xZ v17).bind fun z18 => some (z18, K)
/-! EpochStore.setUp(IIZ)V -/
def kf_ES_setUp_0 (K : xk) (th : Nat) (x1 : Int32) (x2 : Int32) (x3 : Int32) : Option xk := if x1 = (0 : Int32) then ((xR K 0 0 th).bind fun v1 => (v1).bind fun a3 => (xRa K 2 a3 x2).bind fun v2 => (v2).bind fun a4 => (xZs K 1 0 a4 x3).bind fun K5 => some K5) else if x1 = (1 : Int32) then ((xR K 0 1 th).bind fun v6 => (v6).bind fun a8 => (xRa K 3 a8 x2).bind fun v7 => (v7).bind fun a9 => (xZs K 9 1 a9 x3).bind fun K10 => some K10) else (xR K 0 2 th).bind fun v11 => (v11).bind fun a13 => (xRa K 4 a13 x2).bind fun v12 => (v12).bind fun a14 => (xZs K 10 1 a14 x3).bind fun K15 => some K15
/-! EpochStore.stop(II)Z -/
def kf_ES_stop_0 (K : xk) (th : Nat) (x1 : Int32) (x2 : Int32) : Option (Int32 × xk) := if x1 = (3 : Int32) then ((xO K 0 th).bind fun _ => xp (kf_ES_stopMaster_0 K th x2) fun r10 K8 => (xZ r10).bind fun z11 => some (z11, K8)) else xp (kf_ES_isServer_0 K x1 x2) fun r2 K1 => if r2 = 0 then (some ((0 : Int32), K1)) else (xO K1 0 th).bind fun _ => xp (kf_ES_isUp_0 K1 th x1 x2) fun r5 K3 => if r5 = 0 then (some ((0 : Int32), K3)) else (xO K3 0 th).bind fun _ => (kf_ES_setUp_0 K3 th x1 x2 (0 : Int32)).bind fun K6 => some ((1 : Int32), K6)
/-! EpochStore.start(II)Z -/
def kf_ES_start_0 (K : xk) (th : Nat) (x1 : Int32) (x2 : Int32) : Option (Int32 × xk) := xp (kf_ES_isServer_0 K x1 x2) fun r2 K1 => if r2 = 0 then (some ((0 : Int32), K1)) else (xO K1 0 th).bind fun _ => xp (kf_ES_isUp_0 K1 th x1 x2) fun r5 K3 => if r5 = 0 then ((xO K3 0 th).bind fun _ => (kf_ES_setUp_0 K3 th x1 x2 (1 : Int32)).bind fun K6 => some ((1 : Int32), K6)) else some ((0 : Int32), K3)
section KW9
variable {p : Program} {l : Launch} {e : Env} {s : State} {m : MethodId} {args : Array Value} {below : List Frame} {meth : Method} {c : Code} {H : Heap} {locs : List Loc} {ls : Array Slot} {E : xe} {K K' : xk} {M M' : xm}
set_option maxHeartbeats 4000000 in
set_option maxRecDepth 100000 in
theorem kw_ES_deliver_85 {x2 : Nat} {r : Int32} (C : xx_C p m c b_ES_deliver 3 s args Rn_ES E) (hlk : meth.locks = false) (hr : meth.sig.returnType = (some .int)) (hin : meth.name = "deliver") (X : xx_S E K M s H locs) (hl : lv_has ls 3 [(2, .ref x2)]) (h : kf_ES_deliver_85 K x2 = some (r, K')) : W p l e { frames := 6, cells := 2, slots := 7, locals := 139 } s m args below meth c H locs 0 0 (MQ below (xq_i E K' M r) args s 2 7 (xe_A E)) (F0 m 85 ls []) := by
  have hx := C.1.1
  have hb := C.1.2.1
  unfold kf_ES_deliver_85 at h
  refine lv_goto (tgt := 132) hx hb d_ES_deliver_85 (by decide +kernel) ?_
  refine lv_aload_n hx hb d_ES_deliver_132 rfl (lv_at hl 0 rfl) ?_
  replace h := xb h
  obtain ⟨v1, hv, h⟩ := h
  refine xr_gi C X xc_Message (by decide) 0 (by decide) (by decide) rfl m_349 d_ES_deliver_133 hv ?_
  obtain ⟨rfl, rfl⟩ := Prod.mk.inj (Option.some.inj h)
  exact xr_iret C X hlk hr d_ES_deliver_136 rfl (Nat.le_of_ble_eq_true rfl) (Nat.le_of_ble_eq_true rfl)
set_option maxHeartbeats 4000000 in
set_option maxRecDepth 100000 in
theorem kw_ES_deliver_0 {th : Nat} {x1 : Int32} {r : Int32} (C : xx_C p m c b_ES_deliver 3 s args Rn_ES E) (hlk : meth.locks = false) (hr : meth.sig.returnType = (some .int)) (hin : meth.name = "deliver") (X : xx_S E K M s H locs) (hl : lv_has ls 3 [(0, .ref th), (1, .int x1)]) (h : kf_ES_deliver_0 K th x1 = some (r, K')) : W p l e { frames := 6, cells := 2, slots := 7, locals := 139 } s m args below meth c H locs 0 0 (MQ below (xq_i E K' M r) args s 2 7 (xe_A E)) (F0 m 0 ls []) := by
  have hx := C.1.1
  have hb := C.1.2.1
  unfold kf_ES_deliver_0 at h
  refine lv_aload_n hx hb d_ES_deliver_0 rfl (lv_at hl 0 rfl) ?_
  replace h := xb h
  obtain ⟨v1, hv, h⟩ := h
  refine xr_gr C X xc_ES (by decide) 5 (by decide) (by decide) rfl m_72 d_ES_deliver_1 hv ?_
  refine lv_iload_n hx hb d_ES_deliver_4 rfl (lv_at hl 1 rfl) ?_
  replace h := xb h
  obtain ⟨a2, rfl, h⟩ := h
  replace h := xb h
  obtain ⟨_, hO4, h⟩ := h
  replace h := xpb h
  obtain ⟨r5, K3, hv, h⟩ := h
  refine xr_ki (va_runV (As := [.int x1]) (rest := []) C.1 (kc_Line_has l E hv) (cwV 1 C.1.2.2.2.2 (xw_V m_210 m_211 m_212 m_68 m_213) rfl rfl rfl ky_Line_has ⟨(Nat.le_of_ble_eq_true rfl), (Nat.le_of_ble_eq_true rfl)⟩) (xr_pV C X xc_Line.1 (xk_Xo (xOk hO4) (by decide))) rfl rfl hl.1 rfl (lv_room (Nat.le_of_ble_eq_true rfl)) d_ES_deliver_5 ⟨(Nat.le_of_ble_eq_true rfl), (Nat.le_of_ble_eq_true rfl)⟩) X (fun H locs X => ?_)
  refine lv_if_ne (tgt := 13) hx hb d_ES_deliver_8 (by decide +kernel) (fun hc => ?_) (fun hc => ?_)
  · rw [if_neg hc] at h
    refine lv_aload_n hx hb d_ES_deliver_13 rfl (lv_at hl 0 rfl) ?_
    replace h := xb h
    obtain ⟨v6, hv, h⟩ := h
    refine xr_gr C X xc_ES (by decide) 5 (by decide) (by decide) rfl m_72 d_ES_deliver_14 hv ?_
    refine lv_iload_n hx hb d_ES_deliver_17 rfl (lv_at hl 1 rfl) ?_
    replace h := xb h
    obtain ⟨a7, rfl, h⟩ := h
    replace h := xb h
    obtain ⟨_, hO9, h⟩ := h
    replace h := xpb h
    obtain ⟨r10, K8, hv, h⟩ := h
    refine xr_kr (va_runV (As := [.int x1]) (rest := []) C.1 (kc_Line_take l E hv) (cwV 1 C.1.2.2.2.2 (xw_V m_345 m_346 m_347 m_68 m_348) rfl rfl rfl ky_Line_take ⟨(Nat.le_of_ble_eq_true rfl), (Nat.le_of_ble_eq_true rfl)⟩) (xr_pV C X xc_Line.1 (xk_Xo (xOk hO9) (by decide))) rfl rfl hl.1 rfl (lv_room (Nat.le_of_ble_eq_true rfl)) d_ES_deliver_18 ⟨(Nat.le_of_ble_eq_true rfl), (Nat.le_of_ble_eq_true rfl)⟩) X (fun H locs X => ?_)
    refine xr_astore_n hx hb d_ES_deliver_21 rfl hl (by decide) rfl (fun ls hl => ?_)
    have hl : lv_has ls 3 [(2, va_rf r10), (0, .ref th), (1, .int x1)] := hl
    refine xr_aload_n hx hb d_ES_deliver_22 rfl (lv_at hl 0 rfl) ?_
    replace h := xb h
    obtain ⟨a11, rfl, h⟩ := h
    replace h := xb h
    obtain ⟨v12, hv, h⟩ := h
    refine xr_gi C X xc_Message (by decide) 0 (by decide) (by decide) rfl m_349 d_ES_deliver_23 hv ?_
    by_cases hs2 : v12 = (2 : Int32)
    · rw [if_pos hs2] at h
      refine lv_tableIn (off := 42) (tgt := 68) hx hb d_ES_deliver_26 (by rw [hs2]; decide +kernel) (by rw [hs2]; decide +kernel) (by rw [hs2]; decide +kernel) (by decide +kernel) ?_
      refine lv_aload_n hx hb d_ES_deliver_68 rfl (lv_at hl 1 rfl) ?_
      replace h := xb h
      obtain ⟨v13, hv, h⟩ := h
      refine xr_gr C X xc_ES (by decide) 1 (by decide) (by decide) rfl m_59 d_ES_deliver_69 hv ?_
      refine lv_aload_n hx hb d_ES_deliver_72 rfl (lv_at hl 0 rfl) ?_
      replace h := xb h
      obtain ⟨v14, hv, h⟩ := h
      refine xr_gi C X xc_Message (by decide) 1 (by decide) (by decide) rfl m_350 d_ES_deliver_73 hv ?_
      replace h := xb h
      obtain ⟨a16, rfl, h⟩ := h
      replace h := xb h
      obtain ⟨v15, hv, h⟩ := h
      refine xr_aald C X 3 (by decide) rfl rfl d_ES_deliver_76 hv ?_
      refine lv_aload_n hx hb d_ES_deliver_77 rfl (lv_at hl 0 rfl) ?_
      refine lv_aload_n hx hb d_ES_deliver_78 rfl (lv_at hl 1 rfl) ?_
      replace h := xb h
      obtain ⟨v17, hv, h⟩ := h
      refine xr_gr C X xc_ES (by decide) 5 (by decide) (by decide) rfl m_72 d_ES_deliver_79 hv ?_
      replace h := xb h
      obtain ⟨a18, rfl, h⟩ := h
      replace h := xb h
      obtain ⟨a19, rfl, h⟩ := h
      replace h := xb h
      obtain ⟨_, hO21, h⟩ := h
      replace h := xb h
      obtain ⟨K20, hv, h⟩ := h
      refine xr_kv (va_runV (As := [.ref a11, .ref a19]) (rest := []) C.1 (kc_Log_receive l E hv) (cwV 2 C.1.2.2.2.2 (xw_V m_351 m_352 m_353 m_78 m_354) rfl rfl rfl ky_Log_receive ⟨(Nat.le_of_ble_eq_true rfl), (Nat.le_of_ble_eq_true rfl)⟩) (xr_pV C X xc_Log.1 (xk_Xo (xOk hO21) (by decide))) rfl rfl hl.1 rfl (lv_room (Nat.le_of_ble_eq_true rfl)) d_ES_deliver_82 ⟨(Nat.le_of_ble_eq_true rfl), (Nat.le_of_ble_eq_true rfl)⟩) X (fun H locs X => ?_)
      exact kw_ES_deliver_85 (x2 := a11) C hlk hr hin  X (lv_sub hl [0] rfl) h
    rw [if_neg hs2] at h
    by_cases hs3 : v12 = (3 : Int32)
    · rw [if_pos hs3] at h
      refine lv_tableIn (off := 78) (tgt := 104) hx hb d_ES_deliver_26 (by rw [hs3]; decide +kernel) (by rw [hs3]; decide +kernel) (by rw [hs3]; decide +kernel) (by decide +kernel) ?_
      refine lv_aload_n hx hb d_ES_deliver_104 rfl (lv_at hl 1 rfl) ?_
      refine lv_aload_n hx hb d_ES_deliver_105 rfl (lv_at hl 0 rfl) ?_
      replace h := xb h
      obtain ⟨v22, hv, h⟩ := h
      refine xr_gi C X xc_Message (by decide) 2 (by decide) (by decide) rfl m_355 d_ES_deliver_106 hv ?_
      replace h := xb h
      obtain ⟨_, hO24, h⟩ := h
      replace h := xpb h
      obtain ⟨r25, K23, hv, h⟩ := h
      refine xr_ki (va_runV (As := [.int v22]) (rest := []) C.1 (kc_ES_isMaster l E hv) (cwV 1 C.1.2.2.2.2 (xw_V m_356 m_357 m_358 m_106 m_359) rfl rfl rfl ky_ES_isMaster ⟨(Nat.le_of_ble_eq_true rfl), (Nat.le_of_ble_eq_true rfl)⟩) (xr_pV C X xc_ES.1 (xk_Xo (xOk hO24) (by decide))) rfl rfl hl.1 rfl (lv_room (Nat.le_of_ble_eq_true rfl)) d_ES_deliver_109 ⟨(Nat.le_of_ble_eq_true rfl), (Nat.le_of_ble_eq_true rfl)⟩) X (fun H locs X => ?_)
      refine lv_if_eq (tgt := 132) hx hb d_ES_deliver_112 (by decide +kernel) (fun hc => ?_) (fun hc => ?_)
      · rw [if_pos hc] at h
        refine lv_aload_n hx hb d_ES_deliver_132 rfl (lv_at hl 0 rfl) ?_
        replace h := xb h
        obtain ⟨v26, hv, h⟩ := h
        refine xr_gi C X xc_Message (by decide) 0 (by decide) (by decide) rfl m_349 d_ES_deliver_133 hv ?_
        obtain ⟨rfl, rfl⟩ := Prod.mk.inj (Option.some.inj h)
        exact xr_iret C X hlk hr d_ES_deliver_136 rfl (Nat.le_of_ble_eq_true rfl) (Nat.le_of_ble_eq_true rfl)
      · rw [if_neg hc] at h
        refine lv_aload_n hx hb d_ES_deliver_115 rfl (lv_at hl 1 rfl) ?_
        replace h := xb h
        obtain ⟨v27, hv, h⟩ := h
        refine xr_gr C X xc_ES (by decide) 4 (by decide) (by decide) rfl m_65 d_ES_deliver_116 hv ?_
        refine lv_aload_n hx hb d_ES_deliver_119 rfl (lv_at hl 0 rfl) ?_
        replace h := xb h
        obtain ⟨v28, hv, h⟩ := h
        refine xr_gi C X xc_Message (by decide) 2 (by decide) (by decide) rfl m_355 d_ES_deliver_120 hv ?_
        replace h := xb h
        obtain ⟨a30, rfl, h⟩ := h
        replace h := xb h
        obtain ⟨v29, hv, h⟩ := h
        refine xr_aald C X 6 (by decide) rfl rfl d_ES_deliver_123 hv ?_
        refine lv_aload_n hx hb d_ES_deliver_124 rfl (lv_at hl 0 rfl) ?_
        refine lv_aload_n hx hb d_ES_deliver_125 rfl (lv_at hl 1 rfl) ?_
        replace h := xb h
        obtain ⟨v31, hv, h⟩ := h
        refine xr_gr C X xc_ES (by decide) 5 (by decide) (by decide) rfl m_72 d_ES_deliver_126 hv ?_
        replace h := xb h
        obtain ⟨a32, rfl, h⟩ := h
        replace h := xb h
        obtain ⟨a33, rfl, h⟩ := h
        replace h := xb h
        obtain ⟨_, hO35, h⟩ := h
        replace h := xb h
        obtain ⟨K34, hv, h⟩ := h
        refine xr_kv (va_runV (As := [.ref a11, .ref a33]) (rest := []) C.1 (kc_Master_receive l E hv) (cwV 2 C.1.2.2.2.2 (xw_V m_360 m_361 m_362 m_93 m_363) rfl rfl rfl ky_Master_receive ⟨(Nat.le_of_ble_eq_true rfl), (Nat.le_of_ble_eq_true rfl)⟩) (xr_pV C X xc_Master.1 (xk_Xo (xOk hO35) (by decide))) rfl rfl hl.1 rfl (lv_room (Nat.le_of_ble_eq_true rfl)) d_ES_deliver_129 ⟨(Nat.le_of_ble_eq_true rfl), (Nat.le_of_ble_eq_true rfl)⟩) X (fun H locs X => ?_)
        refine lv_aload_n hx hb d_ES_deliver_132 rfl (lv_at hl 0 rfl) ?_
        replace h := xb h
        obtain ⟨v36, hv, h⟩ := h
        refine xr_gi C X xc_Message (by decide) 0 (by decide) (by decide) rfl m_349 d_ES_deliver_133 hv ?_
        obtain ⟨rfl, rfl⟩ := Prod.mk.inj (Option.some.inj h)
        exact xr_iret C X hlk hr d_ES_deliver_136 rfl (Nat.le_of_ble_eq_true rfl) (Nat.le_of_ble_eq_true rfl)
    rw [if_neg hs3] at h
    by_cases hs4 : v12 = (4 : Int32)
    · rw [if_pos hs4] at h
      refine lv_tableIn (off := 62) (tgt := 88) hx hb d_ES_deliver_26 (by rw [hs4]; decide +kernel) (by rw [hs4]; decide +kernel) (by rw [hs4]; decide +kernel) (by decide +kernel) ?_
      refine lv_aload_n hx hb d_ES_deliver_88 rfl (lv_at hl 1 rfl) ?_
      replace h := xb h
      obtain ⟨v37, hv, h⟩ := h
      refine xr_gr C X xc_ES (by decide) 3 (by decide) (by decide) rfl m_63 d_ES_deliver_89 hv ?_
      refine lv_aload_n hx hb d_ES_deliver_92 rfl (lv_at hl 0 rfl) ?_
      replace h := xb h
      obtain ⟨v38, hv, h⟩ := h
      refine xr_gi C X xc_Message (by decide) 1 (by decide) (by decide) rfl m_350 d_ES_deliver_93 hv ?_
      replace h := xb h
      obtain ⟨a40, rfl, h⟩ := h
      replace h := xb h
      obtain ⟨v39, hv, h⟩ := h
      refine xr_aald C X 5 (by decide) rfl rfl d_ES_deliver_96 hv ?_
      refine lv_aload_n hx hb d_ES_deliver_97 rfl (lv_at hl 0 rfl) ?_
      replace h := xb h
      obtain ⟨a41, rfl, h⟩ := h
      replace h := xb h
      obtain ⟨_, hO43, h⟩ := h
      replace h := xb h
      obtain ⟨K42, hv, h⟩ := h
      refine xr_kv (va_runV (As := [.ref a11]) (rest := []) C.1 (kc_Client_receive l E hv) (cwV 1 C.1.2.2.2.2 (xw_V m_364 m_365 m_366 m_88 m_367) rfl rfl rfl ky_Client_receive ⟨(Nat.le_of_ble_eq_true rfl), (Nat.le_of_ble_eq_true rfl)⟩) (xr_pV C X xc_Client.1 (xk_Xo (xOk hO43) (by decide))) rfl rfl hl.1 rfl (lv_room (Nat.le_of_ble_eq_true rfl)) d_ES_deliver_98 ⟨(Nat.le_of_ble_eq_true rfl), (Nat.le_of_ble_eq_true rfl)⟩) X (fun H locs X => ?_)
      refine lv_goto (tgt := 132) hx hb d_ES_deliver_101 (by decide +kernel) ?_
      refine lv_aload_n hx hb d_ES_deliver_132 rfl (lv_at hl 0 rfl) ?_
      replace h := xb h
      obtain ⟨v44, hv, h⟩ := h
      refine xr_gi C X xc_Message (by decide) 0 (by decide) (by decide) rfl m_349 d_ES_deliver_133 hv ?_
      obtain ⟨rfl, rfl⟩ := Prod.mk.inj (Option.some.inj h)
      exact xr_iret C X hlk hr d_ES_deliver_136 rfl (Nat.le_of_ble_eq_true rfl) (Nat.le_of_ble_eq_true rfl)
    rw [if_neg hs4] at h
    by_cases hs5 : v12 = (5 : Int32)
    · rw [if_pos hs5] at h
      refine lv_tableIn (off := 78) (tgt := 104) hx hb d_ES_deliver_26 (by rw [hs5]; decide +kernel) (by rw [hs5]; decide +kernel) (by rw [hs5]; decide +kernel) (by decide +kernel) ?_
      refine lv_aload_n hx hb d_ES_deliver_104 rfl (lv_at hl 1 rfl) ?_
      refine lv_aload_n hx hb d_ES_deliver_105 rfl (lv_at hl 0 rfl) ?_
      replace h := xb h
      obtain ⟨v45, hv, h⟩ := h
      refine xr_gi C X xc_Message (by decide) 2 (by decide) (by decide) rfl m_355 d_ES_deliver_106 hv ?_
      replace h := xb h
      obtain ⟨_, hO47, h⟩ := h
      replace h := xpb h
      obtain ⟨r48, K46, hv, h⟩ := h
      refine xr_ki (va_runV (As := [.int v45]) (rest := []) C.1 (kc_ES_isMaster l E hv) (cwV 1 C.1.2.2.2.2 (xw_V m_356 m_357 m_358 m_106 m_359) rfl rfl rfl ky_ES_isMaster ⟨(Nat.le_of_ble_eq_true rfl), (Nat.le_of_ble_eq_true rfl)⟩) (xr_pV C X xc_ES.1 (xk_Xo (xOk hO47) (by decide))) rfl rfl hl.1 rfl (lv_room (Nat.le_of_ble_eq_true rfl)) d_ES_deliver_109 ⟨(Nat.le_of_ble_eq_true rfl), (Nat.le_of_ble_eq_true rfl)⟩) X (fun H locs X => ?_)
      refine lv_if_eq (tgt := 132) hx hb d_ES_deliver_112 (by decide +kernel) (fun hc => ?_) (fun hc => ?_)
      · rw [if_pos hc] at h
        refine lv_aload_n hx hb d_ES_deliver_132 rfl (lv_at hl 0 rfl) ?_
        replace h := xb h
        obtain ⟨v49, hv, h⟩ := h
        refine xr_gi C X xc_Message (by decide) 0 (by decide) (by decide) rfl m_349 d_ES_deliver_133 hv ?_
        obtain ⟨rfl, rfl⟩ := Prod.mk.inj (Option.some.inj h)
        exact xr_iret C X hlk hr d_ES_deliver_136 rfl (Nat.le_of_ble_eq_true rfl) (Nat.le_of_ble_eq_true rfl)
      · rw [if_neg hc] at h
        refine lv_aload_n hx hb d_ES_deliver_115 rfl (lv_at hl 1 rfl) ?_
        replace h := xb h
        obtain ⟨v50, hv, h⟩ := h
        refine xr_gr C X xc_ES (by decide) 4 (by decide) (by decide) rfl m_65 d_ES_deliver_116 hv ?_
        refine lv_aload_n hx hb d_ES_deliver_119 rfl (lv_at hl 0 rfl) ?_
        replace h := xb h
        obtain ⟨v51, hv, h⟩ := h
        refine xr_gi C X xc_Message (by decide) 2 (by decide) (by decide) rfl m_355 d_ES_deliver_120 hv ?_
        replace h := xb h
        obtain ⟨a53, rfl, h⟩ := h
        replace h := xb h
        obtain ⟨v52, hv, h⟩ := h
        refine xr_aald C X 6 (by decide) rfl rfl d_ES_deliver_123 hv ?_
        refine lv_aload_n hx hb d_ES_deliver_124 rfl (lv_at hl 0 rfl) ?_
        refine lv_aload_n hx hb d_ES_deliver_125 rfl (lv_at hl 1 rfl) ?_
        replace h := xb h
        obtain ⟨v54, hv, h⟩ := h
        refine xr_gr C X xc_ES (by decide) 5 (by decide) (by decide) rfl m_72 d_ES_deliver_126 hv ?_
        replace h := xb h
        obtain ⟨a55, rfl, h⟩ := h
        replace h := xb h
        obtain ⟨a56, rfl, h⟩ := h
        replace h := xb h
        obtain ⟨_, hO58, h⟩ := h
        replace h := xb h
        obtain ⟨K57, hv, h⟩ := h
        refine xr_kv (va_runV (As := [.ref a11, .ref a56]) (rest := []) C.1 (kc_Master_receive l E hv) (cwV 2 C.1.2.2.2.2 (xw_V m_360 m_361 m_362 m_93 m_363) rfl rfl rfl ky_Master_receive ⟨(Nat.le_of_ble_eq_true rfl), (Nat.le_of_ble_eq_true rfl)⟩) (xr_pV C X xc_Master.1 (xk_Xo (xOk hO58) (by decide))) rfl rfl hl.1 rfl (lv_room (Nat.le_of_ble_eq_true rfl)) d_ES_deliver_129 ⟨(Nat.le_of_ble_eq_true rfl), (Nat.le_of_ble_eq_true rfl)⟩) X (fun H locs X => ?_)
        refine lv_aload_n hx hb d_ES_deliver_132 rfl (lv_at hl 0 rfl) ?_
        replace h := xb h
        obtain ⟨v59, hv, h⟩ := h
        refine xr_gi C X xc_Message (by decide) 0 (by decide) (by decide) rfl m_349 d_ES_deliver_133 hv ?_
        obtain ⟨rfl, rfl⟩ := Prod.mk.inj (Option.some.inj h)
        exact xr_iret C X hlk hr d_ES_deliver_136 rfl (Nat.le_of_ble_eq_true rfl) (Nat.le_of_ble_eq_true rfl)
    rw [if_neg hs5] at h
    by_cases hs6 : v12 = (6 : Int32)
    · rw [if_pos hs6] at h
      refine lv_tableIn (off := 42) (tgt := 68) hx hb d_ES_deliver_26 (by rw [hs6]; decide +kernel) (by rw [hs6]; decide +kernel) (by rw [hs6]; decide +kernel) (by decide +kernel) ?_
      refine lv_aload_n hx hb d_ES_deliver_68 rfl (lv_at hl 1 rfl) ?_
      replace h := xb h
      obtain ⟨v60, hv, h⟩ := h
      refine xr_gr C X xc_ES (by decide) 1 (by decide) (by decide) rfl m_59 d_ES_deliver_69 hv ?_
      refine lv_aload_n hx hb d_ES_deliver_72 rfl (lv_at hl 0 rfl) ?_
      replace h := xb h
      obtain ⟨v61, hv, h⟩ := h
      refine xr_gi C X xc_Message (by decide) 1 (by decide) (by decide) rfl m_350 d_ES_deliver_73 hv ?_
      replace h := xb h
      obtain ⟨a63, rfl, h⟩ := h
      replace h := xb h
      obtain ⟨v62, hv, h⟩ := h
      refine xr_aald C X 3 (by decide) rfl rfl d_ES_deliver_76 hv ?_
      refine lv_aload_n hx hb d_ES_deliver_77 rfl (lv_at hl 0 rfl) ?_
      refine lv_aload_n hx hb d_ES_deliver_78 rfl (lv_at hl 1 rfl) ?_
      replace h := xb h
      obtain ⟨v64, hv, h⟩ := h
      refine xr_gr C X xc_ES (by decide) 5 (by decide) (by decide) rfl m_72 d_ES_deliver_79 hv ?_
      replace h := xb h
      obtain ⟨a65, rfl, h⟩ := h
      replace h := xb h
      obtain ⟨a66, rfl, h⟩ := h
      replace h := xb h
      obtain ⟨_, hO68, h⟩ := h
      replace h := xb h
      obtain ⟨K67, hv, h⟩ := h
      refine xr_kv (va_runV (As := [.ref a11, .ref a66]) (rest := []) C.1 (kc_Log_receive l E hv) (cwV 2 C.1.2.2.2.2 (xw_V m_351 m_352 m_353 m_78 m_354) rfl rfl rfl ky_Log_receive ⟨(Nat.le_of_ble_eq_true rfl), (Nat.le_of_ble_eq_true rfl)⟩) (xr_pV C X xc_Log.1 (xk_Xo (xOk hO68) (by decide))) rfl rfl hl.1 rfl (lv_room (Nat.le_of_ble_eq_true rfl)) d_ES_deliver_82 ⟨(Nat.le_of_ble_eq_true rfl), (Nat.le_of_ble_eq_true rfl)⟩) X (fun H locs X => ?_)
      exact kw_ES_deliver_85 (x2 := a11) C hlk hr hin  X (lv_sub hl [0] rfl) h
    rw [if_neg hs6] at h
    by_cases hs7 : v12 = (7 : Int32)
    · rw [if_pos hs7] at h
      refine lv_tableIn (off := 78) (tgt := 104) hx hb d_ES_deliver_26 (by rw [hs7]; decide +kernel) (by rw [hs7]; decide +kernel) (by rw [hs7]; decide +kernel) (by decide +kernel) ?_
      refine lv_aload_n hx hb d_ES_deliver_104 rfl (lv_at hl 1 rfl) ?_
      refine lv_aload_n hx hb d_ES_deliver_105 rfl (lv_at hl 0 rfl) ?_
      replace h := xb h
      obtain ⟨v69, hv, h⟩ := h
      refine xr_gi C X xc_Message (by decide) 2 (by decide) (by decide) rfl m_355 d_ES_deliver_106 hv ?_
      replace h := xb h
      obtain ⟨_, hO71, h⟩ := h
      replace h := xpb h
      obtain ⟨r72, K70, hv, h⟩ := h
      refine xr_ki (va_runV (As := [.int v69]) (rest := []) C.1 (kc_ES_isMaster l E hv) (cwV 1 C.1.2.2.2.2 (xw_V m_356 m_357 m_358 m_106 m_359) rfl rfl rfl ky_ES_isMaster ⟨(Nat.le_of_ble_eq_true rfl), (Nat.le_of_ble_eq_true rfl)⟩) (xr_pV C X xc_ES.1 (xk_Xo (xOk hO71) (by decide))) rfl rfl hl.1 rfl (lv_room (Nat.le_of_ble_eq_true rfl)) d_ES_deliver_109 ⟨(Nat.le_of_ble_eq_true rfl), (Nat.le_of_ble_eq_true rfl)⟩) X (fun H locs X => ?_)
      refine lv_if_eq (tgt := 132) hx hb d_ES_deliver_112 (by decide +kernel) (fun hc => ?_) (fun hc => ?_)
      · rw [if_pos hc] at h
        refine lv_aload_n hx hb d_ES_deliver_132 rfl (lv_at hl 0 rfl) ?_
        replace h := xb h
        obtain ⟨v73, hv, h⟩ := h
        refine xr_gi C X xc_Message (by decide) 0 (by decide) (by decide) rfl m_349 d_ES_deliver_133 hv ?_
        obtain ⟨rfl, rfl⟩ := Prod.mk.inj (Option.some.inj h)
        exact xr_iret C X hlk hr d_ES_deliver_136 rfl (Nat.le_of_ble_eq_true rfl) (Nat.le_of_ble_eq_true rfl)
      · rw [if_neg hc] at h
        refine lv_aload_n hx hb d_ES_deliver_115 rfl (lv_at hl 1 rfl) ?_
        replace h := xb h
        obtain ⟨v74, hv, h⟩ := h
        refine xr_gr C X xc_ES (by decide) 4 (by decide) (by decide) rfl m_65 d_ES_deliver_116 hv ?_
        refine lv_aload_n hx hb d_ES_deliver_119 rfl (lv_at hl 0 rfl) ?_
        replace h := xb h
        obtain ⟨v75, hv, h⟩ := h
        refine xr_gi C X xc_Message (by decide) 2 (by decide) (by decide) rfl m_355 d_ES_deliver_120 hv ?_
        replace h := xb h
        obtain ⟨a77, rfl, h⟩ := h
        replace h := xb h
        obtain ⟨v76, hv, h⟩ := h
        refine xr_aald C X 6 (by decide) rfl rfl d_ES_deliver_123 hv ?_
        refine lv_aload_n hx hb d_ES_deliver_124 rfl (lv_at hl 0 rfl) ?_
        refine lv_aload_n hx hb d_ES_deliver_125 rfl (lv_at hl 1 rfl) ?_
        replace h := xb h
        obtain ⟨v78, hv, h⟩ := h
        refine xr_gr C X xc_ES (by decide) 5 (by decide) (by decide) rfl m_72 d_ES_deliver_126 hv ?_
        replace h := xb h
        obtain ⟨a79, rfl, h⟩ := h
        replace h := xb h
        obtain ⟨a80, rfl, h⟩ := h
        replace h := xb h
        obtain ⟨_, hO82, h⟩ := h
        replace h := xb h
        obtain ⟨K81, hv, h⟩ := h
        refine xr_kv (va_runV (As := [.ref a11, .ref a80]) (rest := []) C.1 (kc_Master_receive l E hv) (cwV 2 C.1.2.2.2.2 (xw_V m_360 m_361 m_362 m_93 m_363) rfl rfl rfl ky_Master_receive ⟨(Nat.le_of_ble_eq_true rfl), (Nat.le_of_ble_eq_true rfl)⟩) (xr_pV C X xc_Master.1 (xk_Xo (xOk hO82) (by decide))) rfl rfl hl.1 rfl (lv_room (Nat.le_of_ble_eq_true rfl)) d_ES_deliver_129 ⟨(Nat.le_of_ble_eq_true rfl), (Nat.le_of_ble_eq_true rfl)⟩) X (fun H locs X => ?_)
        refine lv_aload_n hx hb d_ES_deliver_132 rfl (lv_at hl 0 rfl) ?_
        replace h := xb h
        obtain ⟨v83, hv, h⟩ := h
        refine xr_gi C X xc_Message (by decide) 0 (by decide) (by decide) rfl m_349 d_ES_deliver_133 hv ?_
        obtain ⟨rfl, rfl⟩ := Prod.mk.inj (Option.some.inj h)
        exact xr_iret C X hlk hr d_ES_deliver_136 rfl (Nat.le_of_ble_eq_true rfl) (Nat.le_of_ble_eq_true rfl)
    rw [if_neg hs7] at h
    by_cases hs8 : v12 = (8 : Int32)
    · rw [if_pos hs8] at h
      refine lv_tableIn (off := 62) (tgt := 88) hx hb d_ES_deliver_26 (by rw [hs8]; decide +kernel) (by rw [hs8]; decide +kernel) (by rw [hs8]; decide +kernel) (by decide +kernel) ?_
      refine lv_aload_n hx hb d_ES_deliver_88 rfl (lv_at hl 1 rfl) ?_
      replace h := xb h
      obtain ⟨v84, hv, h⟩ := h
      refine xr_gr C X xc_ES (by decide) 3 (by decide) (by decide) rfl m_63 d_ES_deliver_89 hv ?_
      refine lv_aload_n hx hb d_ES_deliver_92 rfl (lv_at hl 0 rfl) ?_
      replace h := xb h
      obtain ⟨v85, hv, h⟩ := h
      refine xr_gi C X xc_Message (by decide) 1 (by decide) (by decide) rfl m_350 d_ES_deliver_93 hv ?_
      replace h := xb h
      obtain ⟨a87, rfl, h⟩ := h
      replace h := xb h
      obtain ⟨v86, hv, h⟩ := h
      refine xr_aald C X 5 (by decide) rfl rfl d_ES_deliver_96 hv ?_
      refine lv_aload_n hx hb d_ES_deliver_97 rfl (lv_at hl 0 rfl) ?_
      replace h := xb h
      obtain ⟨a88, rfl, h⟩ := h
      replace h := xb h
      obtain ⟨_, hO90, h⟩ := h
      replace h := xb h
      obtain ⟨K89, hv, h⟩ := h
      refine xr_kv (va_runV (As := [.ref a11]) (rest := []) C.1 (kc_Client_receive l E hv) (cwV 1 C.1.2.2.2.2 (xw_V m_364 m_365 m_366 m_88 m_367) rfl rfl rfl ky_Client_receive ⟨(Nat.le_of_ble_eq_true rfl), (Nat.le_of_ble_eq_true rfl)⟩) (xr_pV C X xc_Client.1 (xk_Xo (xOk hO90) (by decide))) rfl rfl hl.1 rfl (lv_room (Nat.le_of_ble_eq_true rfl)) d_ES_deliver_98 ⟨(Nat.le_of_ble_eq_true rfl), (Nat.le_of_ble_eq_true rfl)⟩) X (fun H locs X => ?_)
      refine lv_goto (tgt := 132) hx hb d_ES_deliver_101 (by decide +kernel) ?_
      refine lv_aload_n hx hb d_ES_deliver_132 rfl (lv_at hl 0 rfl) ?_
      replace h := xb h
      obtain ⟨v91, hv, h⟩ := h
      refine xr_gi C X xc_Message (by decide) 0 (by decide) (by decide) rfl m_349 d_ES_deliver_133 hv ?_
      obtain ⟨rfl, rfl⟩ := Prod.mk.inj (Option.some.inj h)
      exact xr_iret C X hlk hr d_ES_deliver_136 rfl (Nat.le_of_ble_eq_true rfl) (Nat.le_of_ble_eq_true rfl)
    rw [if_neg hs8] at h
    have nhs2 := lv_neT hs2 (a := 2) (by decide +kernel)
    have nhs3 := lv_neT hs3 (a := 3) (by decide +kernel)
    have nhs4 := lv_neT hs4 (a := 4) (by decide +kernel)
    have nhs5 := lv_neT hs5 (a := 5) (by decide +kernel)
    have nhs6 := lv_neT hs6 (a := 6) (by decide +kernel)
    have nhs7 := lv_neT hs7 (a := 7) (by decide +kernel)
    have nhs8 := lv_neT hs8 (a := 8) (by decide +kernel)
    refine lv_tableOut (tgt := 104) hx hb d_ES_deliver_26 (by omega) (by decide +kernel) ?_
    refine lv_aload_n hx hb d_ES_deliver_104 rfl (lv_at hl 1 rfl) ?_
    refine lv_aload_n hx hb d_ES_deliver_105 rfl (lv_at hl 0 rfl) ?_
    replace h := xb h
    obtain ⟨v92, hv, h⟩ := h
    refine xr_gi C X xc_Message (by decide) 2 (by decide) (by decide) rfl m_355 d_ES_deliver_106 hv ?_
    replace h := xb h
    obtain ⟨_, hO94, h⟩ := h
    replace h := xpb h
    obtain ⟨r95, K93, hv, h⟩ := h
    refine xr_ki (va_runV (As := [.int v92]) (rest := []) C.1 (kc_ES_isMaster l E hv) (cwV 1 C.1.2.2.2.2 (xw_V m_356 m_357 m_358 m_106 m_359) rfl rfl rfl ky_ES_isMaster ⟨(Nat.le_of_ble_eq_true rfl), (Nat.le_of_ble_eq_true rfl)⟩) (xr_pV C X xc_ES.1 (xk_Xo (xOk hO94) (by decide))) rfl rfl hl.1 rfl (lv_room (Nat.le_of_ble_eq_true rfl)) d_ES_deliver_109 ⟨(Nat.le_of_ble_eq_true rfl), (Nat.le_of_ble_eq_true rfl)⟩) X (fun H locs X => ?_)
    refine lv_if_eq (tgt := 132) hx hb d_ES_deliver_112 (by decide +kernel) (fun hc => ?_) (fun hc => ?_)
    · rw [if_pos hc] at h
      refine lv_aload_n hx hb d_ES_deliver_132 rfl (lv_at hl 0 rfl) ?_
      replace h := xb h
      obtain ⟨v96, hv, h⟩ := h
      refine xr_gi C X xc_Message (by decide) 0 (by decide) (by decide) rfl m_349 d_ES_deliver_133 hv ?_
      obtain ⟨rfl, rfl⟩ := Prod.mk.inj (Option.some.inj h)
      exact xr_iret C X hlk hr d_ES_deliver_136 rfl (Nat.le_of_ble_eq_true rfl) (Nat.le_of_ble_eq_true rfl)
    · rw [if_neg hc] at h
      refine lv_aload_n hx hb d_ES_deliver_115 rfl (lv_at hl 1 rfl) ?_
      replace h := xb h
      obtain ⟨v97, hv, h⟩ := h
      refine xr_gr C X xc_ES (by decide) 4 (by decide) (by decide) rfl m_65 d_ES_deliver_116 hv ?_
      refine lv_aload_n hx hb d_ES_deliver_119 rfl (lv_at hl 0 rfl) ?_
      replace h := xb h
      obtain ⟨v98, hv, h⟩ := h
      refine xr_gi C X xc_Message (by decide) 2 (by decide) (by decide) rfl m_355 d_ES_deliver_120 hv ?_
      replace h := xb h
      obtain ⟨a100, rfl, h⟩ := h
      replace h := xb h
      obtain ⟨v99, hv, h⟩ := h
      refine xr_aald C X 6 (by decide) rfl rfl d_ES_deliver_123 hv ?_
      refine lv_aload_n hx hb d_ES_deliver_124 rfl (lv_at hl 0 rfl) ?_
      refine lv_aload_n hx hb d_ES_deliver_125 rfl (lv_at hl 1 rfl) ?_
      replace h := xb h
      obtain ⟨v101, hv, h⟩ := h
      refine xr_gr C X xc_ES (by decide) 5 (by decide) (by decide) rfl m_72 d_ES_deliver_126 hv ?_
      replace h := xb h
      obtain ⟨a102, rfl, h⟩ := h
      replace h := xb h
      obtain ⟨a103, rfl, h⟩ := h
      replace h := xb h
      obtain ⟨_, hO105, h⟩ := h
      replace h := xb h
      obtain ⟨K104, hv, h⟩ := h
      refine xr_kv (va_runV (As := [.ref a11, .ref a103]) (rest := []) C.1 (kc_Master_receive l E hv) (cwV 2 C.1.2.2.2.2 (xw_V m_360 m_361 m_362 m_93 m_363) rfl rfl rfl ky_Master_receive ⟨(Nat.le_of_ble_eq_true rfl), (Nat.le_of_ble_eq_true rfl)⟩) (xr_pV C X xc_Master.1 (xk_Xo (xOk hO105) (by decide))) rfl rfl hl.1 rfl (lv_room (Nat.le_of_ble_eq_true rfl)) d_ES_deliver_129 ⟨(Nat.le_of_ble_eq_true rfl), (Nat.le_of_ble_eq_true rfl)⟩) X (fun H locs X => ?_)
      refine lv_aload_n hx hb d_ES_deliver_132 rfl (lv_at hl 0 rfl) ?_
      replace h := xb h
      obtain ⟨v106, hv, h⟩ := h
      refine xr_gi C X xc_Message (by decide) 0 (by decide) (by decide) rfl m_349 d_ES_deliver_133 hv ?_
      obtain ⟨rfl, rfl⟩ := Prod.mk.inj (Option.some.inj h)
      exact xr_iret C X hlk hr d_ES_deliver_136 rfl (Nat.le_of_ble_eq_true rfl) (Nat.le_of_ble_eq_true rfl)
  · rw [if_pos hc] at h
    refine lv_iconst hx hb d_ES_deliver_11 kn_i_m1 ?_
    obtain ⟨rfl, rfl⟩ := Prod.mk.inj (Option.some.inj h)
    exact xr_iret C X hlk hr d_ES_deliver_12 rfl (Nat.le_of_ble_eq_true rfl) (Nat.le_of_ble_eq_true rfl)
theorem kc_ES_deliver (l : Launch) (E : xe) {th : Nat} {x1 : Int32} {r : Int32} (h : kf_ES_deliver_0 K th x1 = some (r, K')) : Met l y_ES_deliver (Cond.code y_ES_deliver b_ES_deliver 3 (some .int) :: w_all) { frames := 6, cells := 2, slots := 7, locals := 139 } (va_Pc [.ref th, .int x1] (fun U => xx_B E K M U)) (xq_i E K' M r) 2 7 (xe_A E) :=
  xr_met (by decide) (Nat.le_of_ble_eq_true rfl) fun p e s m below meth c ls C X hlk hr hin hl => kw_ES_deliver_0 C hlk hr hin X hl h
set_option maxHeartbeats 4000000 in
set_option maxRecDepth 100000 in
theorem kw_ES_lose_0 {th : Nat} {x1 : Int32} {r : Int32} (C : xx_C p m c b_ES_lose 2 s args Rn_ES E) (hlk : meth.locks = false) (hr : meth.sig.returnType = (some .boolean)) (hin : meth.name = "lose") (X : xx_S E K M s H locs) (hl : lv_has ls 2 [(0, .ref th), (1, .int x1)]) (h : kf_ES_lose_0 K th x1 = some (r, K')) : W p l e { frames := 1, cells := 0, slots := 0, locals := 23 } s m args below meth c H locs 0 0 (MQ below (xq_i E K' M r) args s 0 0 (xe_A E)) (F0 m 0 ls []) := by
  have hx := C.1.1
  have hb := C.1.2.1
  unfold kf_ES_lose_0 at h
  refine lv_aload_n hx hb d_ES_lose_0 rfl (lv_at hl 0 rfl) ?_
  replace h := xb h
  obtain ⟨v1, hv, h⟩ := h
  refine xr_gr C X xc_ES (by decide) 5 (by decide) (by decide) rfl m_72 d_ES_lose_1 hv ?_
  refine lv_iload_n hx hb d_ES_lose_4 rfl (lv_at hl 1 rfl) ?_
  replace h := xb h
  obtain ⟨a2, rfl, h⟩ := h
  replace h := xb h
  obtain ⟨_, hO4, h⟩ := h
  replace h := xpb h
  obtain ⟨r5, K3, hv, h⟩ := h
  refine xr_ki (va_runV (As := [.int x1]) (rest := []) C.1 (kc_Line_has l E hv) (cwV 1 C.1.2.2.2.2 (xw_V m_210 m_211 m_212 m_68 m_213) rfl rfl rfl ky_Line_has ⟨(Nat.le_of_ble_eq_true rfl), (Nat.le_of_ble_eq_true rfl)⟩) (xr_pV C X xc_Line.1 (xk_Xo (xOk hO4) (by decide))) rfl rfl hl.1 rfl (lv_room (Nat.le_of_ble_eq_true rfl)) d_ES_lose_5 ⟨(Nat.le_of_ble_eq_true rfl), (Nat.le_of_ble_eq_true rfl)⟩) X (fun H locs X => ?_)
  refine lv_if_ne (tgt := 13) hx hb d_ES_lose_8 (by decide +kernel) (fun hc => ?_) (fun hc => ?_)
  · rw [if_neg hc] at h
    refine lv_aload_n hx hb d_ES_lose_13 rfl (lv_at hl 0 rfl) ?_
    replace h := xb h
    obtain ⟨v6, hv, h⟩ := h
    refine xr_gr C X xc_ES (by decide) 5 (by decide) (by decide) rfl m_72 d_ES_lose_14 hv ?_
    refine lv_iload_n hx hb d_ES_lose_17 rfl (lv_at hl 1 rfl) ?_
    replace h := xb h
    obtain ⟨a7, rfl, h⟩ := h
    replace h := xb h
    obtain ⟨_, hO9, h⟩ := h
    replace h := xpb h
    obtain ⟨r10, K8, hv, h⟩ := h
    refine xr_kr (va_runV (As := [.int x1]) (rest := []) C.1 (kc_Line_take l E hv) (cwV 1 C.1.2.2.2.2 (xw_V m_345 m_346 m_347 m_68 m_348) rfl rfl rfl ky_Line_take ⟨(Nat.le_of_ble_eq_true rfl), (Nat.le_of_ble_eq_true rfl)⟩) (xr_pV C X xc_Line.1 (xk_Xo (xOk hO9) (by decide))) rfl rfl hl.1 rfl (lv_room (Nat.le_of_ble_eq_true rfl)) d_ES_lose_18 ⟨(Nat.le_of_ble_eq_true rfl), (Nat.le_of_ble_eq_true rfl)⟩) X (fun H locs X => ?_)
    refine lv_pop hx hb d_ES_lose_21 (xr_cat _) ?_
    refine lv_iconst hx hb d_ES_lose_22 kn_i_1 ?_
    obtain ⟨rfl, rfl⟩ := Prod.mk.inj (Option.some.inj h)
    exact xr_zret C X hlk hr d_ES_lose_23 rfl (Nat.le_of_ble_eq_true rfl) (Nat.le_of_ble_eq_true rfl)
  · rw [if_pos hc] at h
    refine lv_iconst hx hb d_ES_lose_11 kn_i_0 ?_
    obtain ⟨rfl, rfl⟩ := Prod.mk.inj (Option.some.inj h)
    exact xr_zret C X hlk hr d_ES_lose_12 rfl (Nat.le_of_ble_eq_true rfl) (Nat.le_of_ble_eq_true rfl)
theorem kc_ES_lose (l : Launch) (E : xe) {th : Nat} {x1 : Int32} {r : Int32} (h : kf_ES_lose_0 K th x1 = some (r, K')) : Met l y_ES_lose (Cond.code y_ES_lose b_ES_lose 2 (some .boolean) :: w_all) { frames := 1, cells := 0, slots := 0, locals := 23 } (va_Pc [.ref th, .int x1] (fun U => xx_B E K M U)) (xq_i E K' M r) 0 0 (xe_A E) :=
  xr_met (by decide) (Nat.le_of_ble_eq_true rfl) fun p e s m below meth c ls C X hlk hr hin hl => kw_ES_lose_0 C hlk hr hin X hl h
set_option maxHeartbeats 4000000 in
set_option maxRecDepth 100000 in
theorem kw_ES_stopMaster_0 {th : Nat} {x1 : Int32} {r : Int32} (C : xx_C p m c b_ES_stopMaster 2 s args Rn_ES E) (hlk : meth.locks = false) (hr : meth.sig.returnType = (some .boolean)) (hin : meth.name = "stopMaster") (X : xx_S E K M s H locs) (hl : lv_has ls 2 [(0, .ref th), (1, .int x1)]) (h : kf_ES_stopMaster_0 K th x1 = some (r, K')) : W p l e { frames := 1, cells := 0, slots := 0, locals := 21 } s m args below meth c H locs 0 0 (MQ below (xq_i E K' M r) args s 0 0 (xe_A E)) (F0 m 0 ls []) := by
  have hx := C.1.1
  have hb := C.1.2.1
  unfold kf_ES_stopMaster_0 at h
  refine lv_aload_n hx hb d_ES_stopMaster_0 rfl (lv_at hl 0 rfl) ?_
  refine lv_iload_n hx hb d_ES_stopMaster_1 rfl (lv_at hl 1 rfl) ?_
  replace h := xb h
  obtain ⟨_, hO2, h⟩ := h
  replace h := xpb h
  obtain ⟨r3, K1, hv, h⟩ := h
  refine xr_ki (va_runV (As := [.int x1]) (rest := []) C.1 (kc_ES_isMaster l E hv) (cwV 1 C.1.2.2.2.2 (xw_V m_356 m_357 m_358 m_106 m_359) rfl rfl rfl ky_ES_isMaster ⟨(Nat.le_of_ble_eq_true rfl), (Nat.le_of_ble_eq_true rfl)⟩) (xr_pV C X xc_ES.1 (xk_Xo (xOk hO2) (by decide))) rfl rfl hl.1 rfl (lv_room (Nat.le_of_ble_eq_true rfl)) d_ES_stopMaster_2 ⟨(Nat.le_of_ble_eq_true rfl), (Nat.le_of_ble_eq_true rfl)⟩) X (fun H locs X => ?_)
  refine lv_if_ne (tgt := 10) hx hb d_ES_stopMaster_5 (by decide +kernel) (fun hc => ?_) (fun hc => ?_)
  · rw [if_neg hc] at h
    refine lv_aload_n hx hb d_ES_stopMaster_10 rfl (lv_at hl 0 rfl) ?_
    replace h := xb h
    obtain ⟨v4, hv, h⟩ := h
    refine xr_gr C X xc_ES (by decide) 4 (by decide) (by decide) rfl m_65 d_ES_stopMaster_11 hv ?_
    refine lv_iload_n hx hb d_ES_stopMaster_14 rfl (lv_at hl 1 rfl) ?_
    refine lv_null hx hb d_ES_stopMaster_15 ?_
    refine W.eq (g2 := F0 m 16 ls [va_rf none, .int x1, va_rf v4]) rfl ?_
    replace h := xb h
    obtain ⟨a6, rfl, h⟩ := h
    replace h := xb h
    obtain ⟨K5, hv, h⟩ := h
    refine xr_aast (v := none) C X 6 8 (by decide) (by decide) rfl rfl rfl d_ES_stopMaster_16 hv (fun H locs X => ?_)
    refine lv_iconst hx hb d_ES_stopMaster_17 kn_i_1 ?_
    obtain ⟨rfl, rfl⟩ := Prod.mk.inj (Option.some.inj h)
    exact xr_zret C X hlk hr d_ES_stopMaster_18 rfl (Nat.le_of_ble_eq_true rfl) (Nat.le_of_ble_eq_true rfl)
  · rw [if_pos hc] at h
    refine lv_iconst hx hb d_ES_stopMaster_8 kn_i_0 ?_
    obtain ⟨rfl, rfl⟩ := Prod.mk.inj (Option.some.inj h)
    exact xr_zret C X hlk hr d_ES_stopMaster_9 rfl (Nat.le_of_ble_eq_true rfl) (Nat.le_of_ble_eq_true rfl)
theorem kc_ES_stopMaster (l : Launch) (E : xe) {th : Nat} {x1 : Int32} {r : Int32} (h : kf_ES_stopMaster_0 K th x1 = some (r, K')) : Met l y_ES_stopMaster (Cond.code y_ES_stopMaster b_ES_stopMaster 2 (some .boolean) :: w_all) { frames := 1, cells := 0, slots := 0, locals := 21 } (va_Pc [.ref th, .int x1] (fun U => xx_B E K M U)) (xq_i E K' M r) 0 0 (xe_A E) :=
  xr_met (by decide) (Nat.le_of_ble_eq_true rfl) fun p e s m below meth c ls C X hlk hr hin hl => kw_ES_stopMaster_0 C hlk hr hin X hl h
set_option maxHeartbeats 4000000 in
set_option maxRecDepth 100000 in
theorem kw_ES_isCoordinator_0 {x0 : Int32} {r : Int32} (C : xx_C p m c b_ES_isCoordinator 1 s args Rn_ES E) (hlk : meth.locks = false) (hr : meth.sig.returnType = (some .boolean)) (hin : meth.name = "isCoordinator") (X : xx_S E K M s H locs) (hl : lv_has ls 1 [(0, .int x0)]) (h : kf_ES_isCoordinator_0 K x0 = some (r, K')) : W p l e { frames := 0, cells := 0, slots := 0, locals := 0 } s m args below meth c H locs 0 0 (MQ below (xq_i E K' M r) args s 0 0 (xe_A E)) (F0 m 0 ls []) := by
  have hx := C.1.1
  have hb := C.1.2.1
  unfold kf_ES_isCoordinator_0 at h
  refine lv_iload_n hx hb d_ES_isCoordinator_0 rfl (lv_at hl 0 rfl) ?_
  refine lv_if_lt (tgt := 13) hx hb d_ES_isCoordinator_1 (by decide +kernel) (fun hc => ?_) (fun hc => ?_)
  · rw [if_pos hc] at h
    refine lv_iconst hx hb d_ES_isCoordinator_13 kn_i_0 ?_
    obtain ⟨rfl, rfl⟩ := Prod.mk.inj (Option.some.inj h)
    exact xr_zret C X hlk hr d_ES_isCoordinator_14 rfl (Nat.le_of_ble_eq_true rfl) (Nat.le_of_ble_eq_true rfl)
  · rw [if_neg hc] at h
    refine lv_iload_n hx hb d_ES_isCoordinator_4 rfl (lv_at hl 0 rfl) ?_
    refine lv_iconst hx hb d_ES_isCoordinator_5 kn_i_3 ?_
    refine lv_icmp_ge (tgt := 13) hx hb d_ES_isCoordinator_6 (by decide +kernel) (fun hc => ?_) (fun hc => ?_)
    · rw [if_pos hc] at h
      refine lv_iconst hx hb d_ES_isCoordinator_13 kn_i_0 ?_
      obtain ⟨rfl, rfl⟩ := Prod.mk.inj (Option.some.inj h)
      exact xr_zret C X hlk hr d_ES_isCoordinator_14 rfl (Nat.le_of_ble_eq_true rfl) (Nat.le_of_ble_eq_true rfl)
    · rw [if_neg hc] at h
      refine lv_iconst hx hb d_ES_isCoordinator_9 kn_i_1 ?_
      refine lv_goto (tgt := 14) hx hb d_ES_isCoordinator_10 (by decide +kernel) ?_
      obtain ⟨rfl, rfl⟩ := Prod.mk.inj (Option.some.inj h)
      exact xr_zret C X hlk hr d_ES_isCoordinator_14 rfl (Nat.le_of_ble_eq_true rfl) (Nat.le_of_ble_eq_true rfl)
theorem kc_ES_isCoordinator (l : Launch) (E : xe) {x0 : Int32} {r : Int32} (h : kf_ES_isCoordinator_0 K x0 = some (r, K')) : Met l y_ES_isCoordinator (Cond.code y_ES_isCoordinator b_ES_isCoordinator 1 (some .boolean) :: w_all) { frames := 0, cells := 0, slots := 0, locals := 0 } (va_Pc [.int x0] (fun U => xx_B E K M U)) (xq_i E K' M r) 0 0 (xe_A E) :=
  xr_met (by decide) (Nat.le_of_ble_eq_true rfl) fun p e s m below meth c ls C X hlk hr hin hl => kw_ES_isCoordinator_0 C hlk hr hin X hl h
set_option maxHeartbeats 4000000 in
set_option maxRecDepth 100000 in
theorem kw_ES_isLog_0 {x0 : Int32} {r : Int32} (C : xx_C p m c b_ES_isLog 1 s args Rn_ES E) (hlk : meth.locks = false) (hr : meth.sig.returnType = (some .boolean)) (hin : meth.name = "isLog") (X : xx_S E K M s H locs) (hl : lv_has ls 1 [(0, .int x0)]) (h : kf_ES_isLog_0 K x0 = some (r, K')) : W p l e { frames := 0, cells := 0, slots := 0, locals := 0 } s m args below meth c H locs 0 0 (MQ below (xq_i E K' M r) args s 0 0 (xe_A E)) (F0 m 0 ls []) := by
  have hx := C.1.1
  have hb := C.1.2.1
  unfold kf_ES_isLog_0 at h
  refine lv_iload_n hx hb d_ES_isLog_0 rfl (lv_at hl 0 rfl) ?_
  refine lv_if_lt (tgt := 13) hx hb d_ES_isLog_1 (by decide +kernel) (fun hc => ?_) (fun hc => ?_)
  · rw [if_pos hc] at h
    refine lv_iconst hx hb d_ES_isLog_13 kn_i_0 ?_
    obtain ⟨rfl, rfl⟩ := Prod.mk.inj (Option.some.inj h)
    exact xr_zret C X hlk hr d_ES_isLog_14 rfl (Nat.le_of_ble_eq_true rfl) (Nat.le_of_ble_eq_true rfl)
  · rw [if_neg hc] at h
    refine lv_iload_n hx hb d_ES_isLog_4 rfl (lv_at hl 0 rfl) ?_
    refine lv_iconst hx hb d_ES_isLog_5 kn_i_3 ?_
    refine lv_icmp_ge (tgt := 13) hx hb d_ES_isLog_6 (by decide +kernel) (fun hc => ?_) (fun hc => ?_)
    · rw [if_pos hc] at h
      refine lv_iconst hx hb d_ES_isLog_13 kn_i_0 ?_
      obtain ⟨rfl, rfl⟩ := Prod.mk.inj (Option.some.inj h)
      exact xr_zret C X hlk hr d_ES_isLog_14 rfl (Nat.le_of_ble_eq_true rfl) (Nat.le_of_ble_eq_true rfl)
    · rw [if_neg hc] at h
      refine lv_iconst hx hb d_ES_isLog_9 kn_i_1 ?_
      refine lv_goto (tgt := 14) hx hb d_ES_isLog_10 (by decide +kernel) ?_
      obtain ⟨rfl, rfl⟩ := Prod.mk.inj (Option.some.inj h)
      exact xr_zret C X hlk hr d_ES_isLog_14 rfl (Nat.le_of_ble_eq_true rfl) (Nat.le_of_ble_eq_true rfl)
theorem kc_ES_isLog (l : Launch) (E : xe) {x0 : Int32} {r : Int32} (h : kf_ES_isLog_0 K x0 = some (r, K')) : Met l y_ES_isLog (Cond.code y_ES_isLog b_ES_isLog 1 (some .boolean) :: w_all) { frames := 0, cells := 0, slots := 0, locals := 0 } (va_Pc [.int x0] (fun U => xx_B E K M U)) (xq_i E K' M r) 0 0 (xe_A E) :=
  xr_met (by decide) (Nat.le_of_ble_eq_true rfl) fun p e s m below meth c ls C X hlk hr hin hl => kw_ES_isLog_0 C hlk hr hin X hl h
set_option maxHeartbeats 4000000 in
set_option maxRecDepth 100000 in
theorem kw_ES_isStorage_0 {x0 : Int32} {r : Int32} (C : xx_C p m c b_ES_isStorage 1 s args Rn_ES E) (hlk : meth.locks = false) (hr : meth.sig.returnType = (some .boolean)) (hin : meth.name = "isStorage") (X : xx_S E K M s H locs) (hl : lv_has ls 1 [(0, .int x0)]) (h : kf_ES_isStorage_0 K x0 = some (r, K')) : W p l e { frames := 0, cells := 0, slots := 0, locals := 0 } s m args below meth c H locs 0 0 (MQ below (xq_i E K' M r) args s 0 0 (xe_A E)) (F0 m 0 ls []) := by
  have hx := C.1.1
  have hb := C.1.2.1
  unfold kf_ES_isStorage_0 at h
  refine lv_iload_n hx hb d_ES_isStorage_0 rfl (lv_at hl 0 rfl) ?_
  refine lv_if_lt (tgt := 13) hx hb d_ES_isStorage_1 (by decide +kernel) (fun hc => ?_) (fun hc => ?_)
  · rw [if_pos hc] at h
    refine lv_iconst hx hb d_ES_isStorage_13 kn_i_0 ?_
    obtain ⟨rfl, rfl⟩ := Prod.mk.inj (Option.some.inj h)
    exact xr_zret C X hlk hr d_ES_isStorage_14 rfl (Nat.le_of_ble_eq_true rfl) (Nat.le_of_ble_eq_true rfl)
  · rw [if_neg hc] at h
    refine lv_iload_n hx hb d_ES_isStorage_4 rfl (lv_at hl 0 rfl) ?_
    refine lv_iconst hx hb d_ES_isStorage_5 kn_i_2 ?_
    refine lv_icmp_ge (tgt := 13) hx hb d_ES_isStorage_6 (by decide +kernel) (fun hc => ?_) (fun hc => ?_)
    · rw [if_pos hc] at h
      refine lv_iconst hx hb d_ES_isStorage_13 kn_i_0 ?_
      obtain ⟨rfl, rfl⟩ := Prod.mk.inj (Option.some.inj h)
      exact xr_zret C X hlk hr d_ES_isStorage_14 rfl (Nat.le_of_ble_eq_true rfl) (Nat.le_of_ble_eq_true rfl)
    · rw [if_neg hc] at h
      refine lv_iconst hx hb d_ES_isStorage_9 kn_i_1 ?_
      refine lv_goto (tgt := 14) hx hb d_ES_isStorage_10 (by decide +kernel) ?_
      obtain ⟨rfl, rfl⟩ := Prod.mk.inj (Option.some.inj h)
      exact xr_zret C X hlk hr d_ES_isStorage_14 rfl (Nat.le_of_ble_eq_true rfl) (Nat.le_of_ble_eq_true rfl)
theorem kc_ES_isStorage (l : Launch) (E : xe) {x0 : Int32} {r : Int32} (h : kf_ES_isStorage_0 K x0 = some (r, K')) : Met l y_ES_isStorage (Cond.code y_ES_isStorage b_ES_isStorage 1 (some .boolean) :: w_all) { frames := 0, cells := 0, slots := 0, locals := 0 } (va_Pc [.int x0] (fun U => xx_B E K M U)) (xq_i E K' M r) 0 0 (xe_A E) :=
  xr_met (by decide) (Nat.le_of_ble_eq_true rfl) fun p e s m below meth c ls C X hlk hr hin hl => kw_ES_isStorage_0 C hlk hr hin X hl h
set_option maxHeartbeats 4000000 in
set_option maxRecDepth 100000 in
theorem kw_ES_isServer_0 {x0 : Int32} {x1 : Int32} {r : Int32} (C : xx_C p m c b_ES_isServer 2 s args Rn_ES E) (hlk : meth.locks = false) (hr : meth.sig.returnType = (some .boolean)) (hin : meth.name = "isServer") (X : xx_S E K M s H locs) (hl : lv_has ls 2 [(0, .int x0), (1, .int x1)]) (h : kf_ES_isServer_0 K x0 x1 = some (r, K')) : W p l e { frames := 1, cells := 0, slots := 0, locals := 20 } s m args below meth c H locs 0 0 (MQ below (xq_i E K' M r) args s 0 0 (xe_A E)) (F0 m 0 ls []) := by
  have hx := C.1.1
  have hb := C.1.2.1
  unfold kf_ES_isServer_0 at h
  refine lv_iload_n hx hb d_ES_isServer_0 rfl (lv_at hl 0 rfl) ?_
  by_cases hs0 : x0 = (0 : Int32)
  · rw [if_pos hs0] at h
    refine lv_tableIn (off := 27) (tgt := 28) hx hb d_ES_isServer_1 (by rw [hs0]; decide +kernel) (by rw [hs0]; decide +kernel) (by rw [hs0]; decide +kernel) (by decide +kernel) ?_
    refine lv_iload_n hx hb d_ES_isServer_28 rfl (lv_at hl 1 rfl) ?_
    replace h := xpb h
    obtain ⟨r2, K1, hv, h⟩ := h
    refine xr_ki (va_runS (As := [.int x1]) (rest := []) C.1 (kc_ES_isCoordinator l E hv) (cwS 1 C.1.2.2.2.2 (xw_S m_368 m_369 m_106 m_370) rfl rfl rfl ky_ES_isCoordinator ⟨(Nat.le_of_ble_eq_true rfl), (Nat.le_of_ble_eq_true rfl)⟩) (xr_pS C X) rfl rfl hl.1 rfl (lv_room (Nat.le_of_ble_eq_true rfl)) d_ES_isServer_29 ⟨(Nat.le_of_ble_eq_true rfl), (Nat.le_of_ble_eq_true rfl)⟩) X (fun H locs X => ?_)
    replace h := xb h
    obtain ⟨z3, hz, h⟩ := h
    obtain ⟨rfl, rfl⟩ := Prod.mk.inj (Option.some.inj h)
    exact xr_zret C X hlk hr d_ES_isServer_32 hz (Nat.le_of_ble_eq_true rfl) (Nat.le_of_ble_eq_true rfl)
  rw [if_neg hs0] at h
  by_cases hs1 : x0 = (1 : Int32)
  · rw [if_pos hs1] at h
    refine lv_tableIn (off := 32) (tgt := 33) hx hb d_ES_isServer_1 (by rw [hs1]; decide +kernel) (by rw [hs1]; decide +kernel) (by rw [hs1]; decide +kernel) (by decide +kernel) ?_
    refine lv_iload_n hx hb d_ES_isServer_33 rfl (lv_at hl 1 rfl) ?_
    replace h := xpb h
    obtain ⟨r5, K4, hv, h⟩ := h
    refine xr_ki (va_runS (As := [.int x1]) (rest := []) C.1 (kc_ES_isLog l E hv) (cwS 1 C.1.2.2.2.2 (xw_S m_371 m_372 m_106 m_373) rfl rfl rfl ky_ES_isLog ⟨(Nat.le_of_ble_eq_true rfl), (Nat.le_of_ble_eq_true rfl)⟩) (xr_pS C X) rfl rfl hl.1 rfl (lv_room (Nat.le_of_ble_eq_true rfl)) d_ES_isServer_34 ⟨(Nat.le_of_ble_eq_true rfl), (Nat.le_of_ble_eq_true rfl)⟩) X (fun H locs X => ?_)
    replace h := xb h
    obtain ⟨z6, hz, h⟩ := h
    obtain ⟨rfl, rfl⟩ := Prod.mk.inj (Option.some.inj h)
    exact xr_zret C X hlk hr d_ES_isServer_37 hz (Nat.le_of_ble_eq_true rfl) (Nat.le_of_ble_eq_true rfl)
  rw [if_neg hs1] at h
  by_cases hs2 : x0 = (2 : Int32)
  · rw [if_pos hs2] at h
    refine lv_tableIn (off := 37) (tgt := 38) hx hb d_ES_isServer_1 (by rw [hs2]; decide +kernel) (by rw [hs2]; decide +kernel) (by rw [hs2]; decide +kernel) (by decide +kernel) ?_
    refine lv_iload_n hx hb d_ES_isServer_38 rfl (lv_at hl 1 rfl) ?_
    replace h := xpb h
    obtain ⟨r8, K7, hv, h⟩ := h
    refine xr_ki (va_runS (As := [.int x1]) (rest := []) C.1 (kc_ES_isStorage l E hv) (cwS 1 C.1.2.2.2.2 (xw_S m_374 m_375 m_106 m_376) rfl rfl rfl ky_ES_isStorage ⟨(Nat.le_of_ble_eq_true rfl), (Nat.le_of_ble_eq_true rfl)⟩) (xr_pS C X) rfl rfl hl.1 rfl (lv_room (Nat.le_of_ble_eq_true rfl)) d_ES_isServer_39 ⟨(Nat.le_of_ble_eq_true rfl), (Nat.le_of_ble_eq_true rfl)⟩) X (fun H locs X => ?_)
    replace h := xb h
    obtain ⟨z9, hz, h⟩ := h
    obtain ⟨rfl, rfl⟩ := Prod.mk.inj (Option.some.inj h)
    exact xr_zret C X hlk hr d_ES_isServer_42 hz (Nat.le_of_ble_eq_true rfl) (Nat.le_of_ble_eq_true rfl)
  rw [if_neg hs2] at h
  have nhs0 := lv_neT hs0 (a := 0) (by decide +kernel)
  have nhs1 := lv_neT hs1 (a := 1) (by decide +kernel)
  have nhs2 := lv_neT hs2 (a := 2) (by decide +kernel)
  refine lv_tableOut (tgt := 43) hx hb d_ES_isServer_1 (by omega) (by decide +kernel) ?_
  refine lv_iconst hx hb d_ES_isServer_43 kn_i_0 ?_
  obtain ⟨rfl, rfl⟩ := Prod.mk.inj (Option.some.inj h)
  exact xr_zret C X hlk hr d_ES_isServer_44 rfl (Nat.le_of_ble_eq_true rfl) (Nat.le_of_ble_eq_true rfl)
theorem kc_ES_isServer (l : Launch) (E : xe) {x0 : Int32} {x1 : Int32} {r : Int32} (h : kf_ES_isServer_0 K x0 x1 = some (r, K')) : Met l y_ES_isServer (Cond.code y_ES_isServer b_ES_isServer 2 (some .boolean) :: w_all) { frames := 1, cells := 0, slots := 0, locals := 20 } (va_Pc [.int x0, .int x1] (fun U => xx_B E K M U)) (xq_i E K' M r) 0 0 (xe_A E) :=
  xr_met (by decide) (Nat.le_of_ble_eq_true rfl) fun p e s m below meth c ls C X hlk hr hin hl => kw_ES_isServer_0 C hlk hr hin X hl h
set_option maxHeartbeats 4000000 in
set_option maxRecDepth 100000 in
theorem kw_ES_isUp_0 {th : Nat} {x1 : Int32} {x2 : Int32} {r : Int32} (C : xx_C p m c b_ES_isUp 3 s args Rn_ES E) (hlk : meth.locks = false) (hr : meth.sig.returnType = (some .boolean)) (hin : meth.name = "isUp") (X : xx_S E K M s H locs) (hl : lv_has ls 3 [(0, .ref th), (1, .int x1), (2, .int x2)]) (h : kf_ES_isUp_0 K th x1 x2 = some (r, K')) : W p l e { frames := 0, cells := 0, slots := 0, locals := 0 } s m args below meth c H locs 0 0 (MQ below (xq_i E K' M r) args s 0 0 (xe_A E)) (F0 m 0 ls []) := by
  have hx := C.1.1
  have hb := C.1.2.1
  unfold kf_ES_isUp_0 at h
  refine lv_iload_n hx hb d_ES_isUp_0 rfl (lv_at hl 1 rfl) ?_
  by_cases hs0 : x1 = (0 : Int32)
  · rw [if_pos hs0] at h
    refine lv_lookup (off := 27) (tgt := 28) hx hb d_ES_isUp_1 (by decide +kernel) (by rw [hs0]; decide +kernel) (by decide +kernel) ?_
    refine lv_aload_n hx hb d_ES_isUp_28 rfl (lv_at hl 0 rfl) ?_
    replace h := xb h
    obtain ⟨v1, hv, h⟩ := h
    refine xr_gr C X xc_ES (by decide) 0 (by decide) (by decide) rfl m_57 d_ES_isUp_29 hv ?_
    refine lv_iload_n hx hb d_ES_isUp_32 rfl (lv_at hl 2 rfl) ?_
    replace h := xb h
    obtain ⟨a3, rfl, h⟩ := h
    replace h := xb h
    obtain ⟨v2, hv, h⟩ := h
    refine xr_aald C X 2 (by decide) rfl rfl d_ES_isUp_33 hv ?_
    replace h := xb h
    obtain ⟨a4, rfl, h⟩ := h
    replace h := xb h
    obtain ⟨v5, hv, h⟩ := h
    refine xr_gi C X xc_Coordinator (by decide) 0 (by decide) (by decide) rfl m_97 d_ES_isUp_34 hv ?_
    replace h := xb h
    obtain ⟨z6, hz, h⟩ := h
    obtain ⟨rfl, rfl⟩ := Prod.mk.inj (Option.some.inj h)
    exact xr_zret C X hlk hr d_ES_isUp_37 hz (Nat.le_of_ble_eq_true rfl) (Nat.le_of_ble_eq_true rfl)
  rw [if_neg hs0] at h
  by_cases hs1 : x1 = (1 : Int32)
  · rw [if_pos hs1] at h
    refine lv_lookup (off := 37) (tgt := 38) hx hb d_ES_isUp_1 (by decide +kernel) (by rw [hs1]; decide +kernel) (by decide +kernel) ?_
    refine lv_aload_n hx hb d_ES_isUp_38 rfl (lv_at hl 0 rfl) ?_
    replace h := xb h
    obtain ⟨v7, hv, h⟩ := h
    refine xr_gr C X xc_ES (by decide) 1 (by decide) (by decide) rfl m_59 d_ES_isUp_39 hv ?_
    refine lv_iload_n hx hb d_ES_isUp_42 rfl (lv_at hl 2 rfl) ?_
    replace h := xb h
    obtain ⟨a9, rfl, h⟩ := h
    replace h := xb h
    obtain ⟨v8, hv, h⟩ := h
    refine xr_aald C X 3 (by decide) rfl rfl d_ES_isUp_43 hv ?_
    replace h := xb h
    obtain ⟨a10, rfl, h⟩ := h
    replace h := xb h
    obtain ⟨v11, hv, h⟩ := h
    refine xr_gi C X xc_Log (by decide) 1 (by decide) (by decide) rfl m_377 d_ES_isUp_44 hv ?_
    replace h := xb h
    obtain ⟨z12, hz, h⟩ := h
    obtain ⟨rfl, rfl⟩ := Prod.mk.inj (Option.some.inj h)
    exact xr_zret C X hlk hr d_ES_isUp_47 hz (Nat.le_of_ble_eq_true rfl) (Nat.le_of_ble_eq_true rfl)
  rw [if_neg hs1] at h
  refine lv_lookup (off := 47) (tgt := 48) hx hb d_ES_isUp_1 (by decide +kernel) ((lv_osw hs0 (by decide +kernel)).trans ((lv_osw hs1 (by decide +kernel)).trans (rfl))) (by decide +kernel) ?_
  refine lv_aload_n hx hb d_ES_isUp_48 rfl (lv_at hl 0 rfl) ?_
  replace h := xb h
  obtain ⟨v13, hv, h⟩ := h
  refine xr_gr C X xc_ES (by decide) 2 (by decide) (by decide) rfl m_61 d_ES_isUp_49 hv ?_
  refine lv_iload_n hx hb d_ES_isUp_52 rfl (lv_at hl 2 rfl) ?_
  replace h := xb h
  obtain ⟨a15, rfl, h⟩ := h
  replace h := xb h
  obtain ⟨v14, hv, h⟩ := h
  refine xr_aald C X 4 (by decide) rfl rfl d_ES_isUp_53 hv ?_
  replace h := xb h
  obtain ⟨a16, rfl, h⟩ := h
  replace h := xb h
  obtain ⟨v17, hv, h⟩ := h
  refine xr_gi C X xc_Storage (by decide) 1 (by decide) (by decide) rfl m_378 d_ES_isUp_54 hv ?_
  replace h := xb h
  obtain ⟨z18, hz, h⟩ := h
  obtain ⟨rfl, rfl⟩ := Prod.mk.inj (Option.some.inj h)
  exact xr_zret C X hlk hr d_ES_isUp_57 hz (Nat.le_of_ble_eq_true rfl) (Nat.le_of_ble_eq_true rfl)
theorem kc_ES_isUp (l : Launch) (E : xe) {th : Nat} {x1 : Int32} {x2 : Int32} {r : Int32} (h : kf_ES_isUp_0 K th x1 x2 = some (r, K')) : Met l y_ES_isUp (Cond.code y_ES_isUp b_ES_isUp 3 (some .boolean) :: w_all) { frames := 0, cells := 0, slots := 0, locals := 0 } (va_Pc [.ref th, .int x1, .int x2] (fun U => xx_B E K M U)) (xq_i E K' M r) 0 0 (xe_A E) :=
  xr_met (by decide) (Nat.le_of_ble_eq_true rfl) fun p e s m below meth c ls C X hlk hr hin hl => kw_ES_isUp_0 C hlk hr hin X hl h
set_option maxHeartbeats 4000000 in
set_option maxRecDepth 100000 in
theorem kw_ES_setUp_0 {th : Nat} {x1 : Int32} {x2 : Int32} {x3 : Int32} (C : xx_C p m c b_ES_setUp 4 s args Rn_ES E) (hlk : meth.locks = false) (hr : meth.sig.returnType = none) (hin : meth.name = "setUp") (X : xx_S E K M s H locs) (hl : lv_has ls 4 [(0, .ref th), (1, .int x1), (2, .int x2), (3, .int x3)]) (h : kf_ES_setUp_0 K th x1 x2 x3 = some K') : W p l e { frames := 0, cells := 0, slots := 0, locals := 0 } s m args below meth c H locs 0 0 (MQ below (xq_v E K' M) args s 0 0 (xe_A E)) (F0 m 0 ls []) := by
  have hx := C.1.1
  have hb := C.1.2.1
  unfold kf_ES_setUp_0 at h
  refine lv_iload_n hx hb d_ES_setUp_0 rfl (lv_at hl 1 rfl) ?_
  by_cases hs0 : x1 = (0 : Int32)
  · rw [if_pos hs0] at h
    refine lv_lookup (off := 27) (tgt := 28) hx hb d_ES_setUp_1 (by decide +kernel) (by rw [hs0]; decide +kernel) (by decide +kernel) ?_
    refine lv_aload_n hx hb d_ES_setUp_28 rfl (lv_at hl 0 rfl) ?_
    replace h := xb h
    obtain ⟨v1, hv, h⟩ := h
    refine xr_gr C X xc_ES (by decide) 0 (by decide) (by decide) rfl m_57 d_ES_setUp_29 hv ?_
    refine lv_iload_n hx hb d_ES_setUp_32 rfl (lv_at hl 2 rfl) ?_
    replace h := xb h
    obtain ⟨a3, rfl, h⟩ := h
    replace h := xb h
    obtain ⟨v2, hv, h⟩ := h
    refine xr_aald C X 2 (by decide) rfl rfl d_ES_setUp_33 hv ?_
    refine lv_iload_n hx hb d_ES_setUp_34 rfl (lv_at hl 3 rfl) ?_
    replace h := xb h
    obtain ⟨a4, rfl, h⟩ := h
    replace h := xb h
    obtain ⟨K5, hv, h⟩ := h
    refine xr_pz C X xc_Coordinator (by decide) 0 (by decide) (by decide) rfl rfl rfl m_97 d_ES_setUp_35 hv (fun H locs X => ?_)
    refine lv_goto (tgt := 64) hx hb d_ES_setUp_38 (by decide +kernel) ?_
    obtain rfl := Option.some.inj h
    exact xr_vret C X hlk hr d_ES_setUp_64 (Nat.le_of_ble_eq_true rfl) (Nat.le_of_ble_eq_true rfl)
  rw [if_neg hs0] at h
  by_cases hs1 : x1 = (1 : Int32)
  · rw [if_pos hs1] at h
    refine lv_lookup (off := 40) (tgt := 41) hx hb d_ES_setUp_1 (by decide +kernel) (by rw [hs1]; decide +kernel) (by decide +kernel) ?_
    refine lv_aload_n hx hb d_ES_setUp_41 rfl (lv_at hl 0 rfl) ?_
    replace h := xb h
    obtain ⟨v6, hv, h⟩ := h
    refine xr_gr C X xc_ES (by decide) 1 (by decide) (by decide) rfl m_59 d_ES_setUp_42 hv ?_
    refine lv_iload_n hx hb d_ES_setUp_45 rfl (lv_at hl 2 rfl) ?_
    replace h := xb h
    obtain ⟨a8, rfl, h⟩ := h
    replace h := xb h
    obtain ⟨v7, hv, h⟩ := h
    refine xr_aald C X 3 (by decide) rfl rfl d_ES_setUp_46 hv ?_
    refine lv_iload_n hx hb d_ES_setUp_47 rfl (lv_at hl 3 rfl) ?_
    replace h := xb h
    obtain ⟨a9, rfl, h⟩ := h
    replace h := xb h
    obtain ⟨K10, hv, h⟩ := h
    refine xr_pz C X xc_Log (by decide) 1 (by decide) (by decide) rfl rfl rfl m_377 d_ES_setUp_48 hv (fun H locs X => ?_)
    refine lv_goto (tgt := 64) hx hb d_ES_setUp_51 (by decide +kernel) ?_
    obtain rfl := Option.some.inj h
    exact xr_vret C X hlk hr d_ES_setUp_64 (Nat.le_of_ble_eq_true rfl) (Nat.le_of_ble_eq_true rfl)
  rw [if_neg hs1] at h
  refine lv_lookup (off := 53) (tgt := 54) hx hb d_ES_setUp_1 (by decide +kernel) ((lv_osw hs0 (by decide +kernel)).trans ((lv_osw hs1 (by decide +kernel)).trans (rfl))) (by decide +kernel) ?_
  refine lv_aload_n hx hb d_ES_setUp_54 rfl (lv_at hl 0 rfl) ?_
  replace h := xb h
  obtain ⟨v11, hv, h⟩ := h
  refine xr_gr C X xc_ES (by decide) 2 (by decide) (by decide) rfl m_61 d_ES_setUp_55 hv ?_
  refine lv_iload_n hx hb d_ES_setUp_58 rfl (lv_at hl 2 rfl) ?_
  replace h := xb h
  obtain ⟨a13, rfl, h⟩ := h
  replace h := xb h
  obtain ⟨v12, hv, h⟩ := h
  refine xr_aald C X 4 (by decide) rfl rfl d_ES_setUp_59 hv ?_
  refine lv_iload_n hx hb d_ES_setUp_60 rfl (lv_at hl 3 rfl) ?_
  replace h := xb h
  obtain ⟨a14, rfl, h⟩ := h
  replace h := xb h
  obtain ⟨K15, hv, h⟩ := h
  refine xr_pz C X xc_Storage (by decide) 1 (by decide) (by decide) rfl rfl rfl m_378 d_ES_setUp_61 hv (fun H locs X => ?_)
  obtain rfl := Option.some.inj h
  exact xr_vret C X hlk hr d_ES_setUp_64 (Nat.le_of_ble_eq_true rfl) (Nat.le_of_ble_eq_true rfl)
theorem kc_ES_setUp (l : Launch) (E : xe) {th : Nat} {x1 : Int32} {x2 : Int32} {x3 : Int32} (h : kf_ES_setUp_0 K th x1 x2 x3 = some K') : Met l y_ES_setUp (Cond.code y_ES_setUp b_ES_setUp 4 none :: w_all) { frames := 0, cells := 0, slots := 0, locals := 0 } (va_Pc [.ref th, .int x1, .int x2, .int x3] (fun U => xx_B E K M U)) (xq_v E K' M) 0 0 (xe_A E) :=
  xr_met (by decide) (Nat.le_of_ble_eq_true rfl) fun p e s m below meth c ls C X hlk hr hin hl => kw_ES_setUp_0 C hlk hr hin X hl h
set_option maxHeartbeats 4000000 in
set_option maxRecDepth 100000 in
theorem kw_ES_stop_0 {th : Nat} {x1 : Int32} {x2 : Int32} {r : Int32} (C : xx_C p m c b_ES_stop 3 s args Rn_ES E) (hlk : meth.locks = false) (hr : meth.sig.returnType = (some .boolean)) (hin : meth.name = "stop") (X : xx_S E K M s H locs) (hl : lv_has ls 3 [(0, .ref th), (1, .int x1), (2, .int x2)]) (h : kf_ES_stop_0 K th x1 x2 = some (r, K')) : W p l e { frames := 2, cells := 0, slots := 0, locals := 42 } s m args below meth c H locs 0 0 (MQ below (xq_i E K' M r) args s 0 0 (xe_A E)) (F0 m 0 ls []) := by
  have hx := C.1.1
  have hb := C.1.2.1
  unfold kf_ES_stop_0 at h
  refine lv_iload_n hx hb d_ES_stop_0 rfl (lv_at hl 1 rfl) ?_
  refine lv_iconst hx hb d_ES_stop_1 kn_i_3 ?_
  refine lv_icmp_ne (tgt := 11) hx hb d_ES_stop_2 (by decide +kernel) (fun hc => ?_) (fun hc => ?_)
  · rw [if_neg hc] at h
    refine lv_iload_n hx hb d_ES_stop_11 rfl (lv_at hl 1 rfl) ?_
    refine lv_iload_n hx hb d_ES_stop_12 rfl (lv_at hl 2 rfl) ?_
    replace h := xpb h
    obtain ⟨r2, K1, hv, h⟩ := h
    refine xr_ki (va_runS (As := [.int x1, .int x2]) (rest := []) C.1 (kc_ES_isServer l E hv) (cwS 2 C.1.2.2.2.2 (xw_S m_379 m_380 m_106 m_381) rfl rfl rfl ky_ES_isServer ⟨(Nat.le_of_ble_eq_true rfl), (Nat.le_of_ble_eq_true rfl)⟩) (xr_pS C X) rfl rfl hl.1 rfl (lv_room (Nat.le_of_ble_eq_true rfl)) d_ES_stop_13 ⟨(Nat.le_of_ble_eq_true rfl), (Nat.le_of_ble_eq_true rfl)⟩) X (fun H locs X => ?_)
    refine lv_if_eq (tgt := 28) hx hb d_ES_stop_16 (by decide +kernel) (fun hc => ?_) (fun hc => ?_)
    · rw [if_pos hc] at h
      refine lv_iconst hx hb d_ES_stop_28 kn_i_0 ?_
      obtain ⟨rfl, rfl⟩ := Prod.mk.inj (Option.some.inj h)
      exact xr_zret C X hlk hr d_ES_stop_29 rfl (Nat.le_of_ble_eq_true rfl) (Nat.le_of_ble_eq_true rfl)
    · rw [if_neg hc] at h
      refine lv_aload_n hx hb d_ES_stop_19 rfl (lv_at hl 0 rfl) ?_
      refine lv_iload_n hx hb d_ES_stop_20 rfl (lv_at hl 1 rfl) ?_
      refine lv_iload_n hx hb d_ES_stop_21 rfl (lv_at hl 2 rfl) ?_
      replace h := xb h
      obtain ⟨_, hO4, h⟩ := h
      replace h := xpb h
      obtain ⟨r5, K3, hv, h⟩ := h
      refine xr_ki (va_runV (As := [.int x1, .int x2]) (rest := []) C.1 (kc_ES_isUp l E hv) (cwV 2 C.1.2.2.2.2 (xw_V m_382 m_383 m_384 m_106 m_385) rfl rfl rfl ky_ES_isUp ⟨(Nat.le_of_ble_eq_true rfl), (Nat.le_of_ble_eq_true rfl)⟩) (xr_pV C X xc_ES.1 (xk_Xo (xOk hO4) (by decide))) rfl rfl hl.1 rfl (lv_room (Nat.le_of_ble_eq_true rfl)) d_ES_stop_22 ⟨(Nat.le_of_ble_eq_true rfl), (Nat.le_of_ble_eq_true rfl)⟩) X (fun H locs X => ?_)
      refine lv_if_ne (tgt := 30) hx hb d_ES_stop_25 (by decide +kernel) (fun hc => ?_) (fun hc => ?_)
      · rw [if_neg hc] at h
        refine lv_aload_n hx hb d_ES_stop_30 rfl (lv_at hl 0 rfl) ?_
        refine lv_iload_n hx hb d_ES_stop_31 rfl (lv_at hl 1 rfl) ?_
        refine lv_iload_n hx hb d_ES_stop_32 rfl (lv_at hl 2 rfl) ?_
        refine lv_iconst hx hb d_ES_stop_33 kn_i_0 ?_
        replace h := xb h
        obtain ⟨_, hO7, h⟩ := h
        replace h := xb h
        obtain ⟨K6, hv, h⟩ := h
        refine xr_kv (va_runV (As := [.int x1, .int x2, .int (0 : Int32)]) (rest := []) C.1 (kc_ES_setUp l E hv) (cwV 3 C.1.2.2.2.2 (xw_V m_386 m_387 m_388 m_106 m_389) rfl rfl rfl ky_ES_setUp ⟨(Nat.le_of_ble_eq_true rfl), (Nat.le_of_ble_eq_true rfl)⟩) (xr_pV C X xc_ES.1 (xk_Xo (xOk hO7) (by decide))) rfl rfl hl.1 rfl (lv_room (Nat.le_of_ble_eq_true rfl)) d_ES_stop_34 ⟨(Nat.le_of_ble_eq_true rfl), (Nat.le_of_ble_eq_true rfl)⟩) X (fun H locs X => ?_)
        refine lv_iconst hx hb d_ES_stop_37 kn_i_1 ?_
        obtain ⟨rfl, rfl⟩ := Prod.mk.inj (Option.some.inj h)
        exact xr_zret C X hlk hr d_ES_stop_38 rfl (Nat.le_of_ble_eq_true rfl) (Nat.le_of_ble_eq_true rfl)
      · rw [if_pos hc] at h
        refine lv_iconst hx hb d_ES_stop_28 kn_i_0 ?_
        obtain ⟨rfl, rfl⟩ := Prod.mk.inj (Option.some.inj h)
        exact xr_zret C X hlk hr d_ES_stop_29 rfl (Nat.le_of_ble_eq_true rfl) (Nat.le_of_ble_eq_true rfl)
  · rw [if_pos hc] at h
    refine lv_aload_n hx hb d_ES_stop_5 rfl (lv_at hl 0 rfl) ?_
    refine lv_iload_n hx hb d_ES_stop_6 rfl (lv_at hl 2 rfl) ?_
    replace h := xb h
    obtain ⟨_, hO9, h⟩ := h
    replace h := xpb h
    obtain ⟨r10, K8, hv, h⟩ := h
    refine xr_ki (va_runV (As := [.int x2]) (rest := []) C.1 (kc_ES_stopMaster l E hv) (cwV 1 C.1.2.2.2.2 (xw_V m_390 m_391 m_392 m_106 m_393) rfl rfl rfl ky_ES_stopMaster ⟨(Nat.le_of_ble_eq_true rfl), (Nat.le_of_ble_eq_true rfl)⟩) (xr_pV C X xc_ES.1 (xk_Xo (xOk hO9) (by decide))) rfl rfl hl.1 rfl (lv_room (Nat.le_of_ble_eq_true rfl)) d_ES_stop_7 ⟨(Nat.le_of_ble_eq_true rfl), (Nat.le_of_ble_eq_true rfl)⟩) X (fun H locs X => ?_)
    replace h := xb h
    obtain ⟨z11, hz, h⟩ := h
    obtain ⟨rfl, rfl⟩ := Prod.mk.inj (Option.some.inj h)
    exact xr_zret C X hlk hr d_ES_stop_10 hz (Nat.le_of_ble_eq_true rfl) (Nat.le_of_ble_eq_true rfl)
theorem kc_ES_stop (l : Launch) (E : xe) {th : Nat} {x1 : Int32} {x2 : Int32} {r : Int32} (h : kf_ES_stop_0 K th x1 x2 = some (r, K')) : Met l y_ES_stop (Cond.code y_ES_stop b_ES_stop 3 (some .boolean) :: w_all) { frames := 2, cells := 0, slots := 0, locals := 42 } (va_Pc [.ref th, .int x1, .int x2] (fun U => xx_B E K M U)) (xq_i E K' M r) 0 0 (xe_A E) :=
  xr_met (by decide) (Nat.le_of_ble_eq_true rfl) fun p e s m below meth c ls C X hlk hr hin hl => kw_ES_stop_0 C hlk hr hin X hl h
set_option maxHeartbeats 4000000 in
set_option maxRecDepth 100000 in
theorem kw_ES_start_0 {th : Nat} {x1 : Int32} {x2 : Int32} {r : Int32} (C : xx_C p m c b_ES_start 3 s args Rn_ES E) (hlk : meth.locks = false) (hr : meth.sig.returnType = (some .boolean)) (hin : meth.name = "start") (X : xx_S E K M s H locs) (hl : lv_has ls 3 [(0, .ref th), (1, .int x1), (2, .int x2)]) (h : kf_ES_start_0 K th x1 x2 = some (r, K')) : W p l e { frames := 2, cells := 0, slots := 0, locals := 41 } s m args below meth c H locs 0 0 (MQ below (xq_i E K' M r) args s 0 0 (xe_A E)) (F0 m 0 ls []) := by
  have hx := C.1.1
  have hb := C.1.2.1
  unfold kf_ES_start_0 at h
  refine lv_iload_n hx hb d_ES_start_0 rfl (lv_at hl 1 rfl) ?_
  refine lv_iload_n hx hb d_ES_start_1 rfl (lv_at hl 2 rfl) ?_
  replace h := xpb h
  obtain ⟨r2, K1, hv, h⟩ := h
  refine xr_ki (va_runS (As := [.int x1, .int x2]) (rest := []) C.1 (kc_ES_isServer l E hv) (cwS 2 C.1.2.2.2.2 (xw_S m_379 m_380 m_106 m_381) rfl rfl rfl ky_ES_isServer ⟨(Nat.le_of_ble_eq_true rfl), (Nat.le_of_ble_eq_true rfl)⟩) (xr_pS C X) rfl rfl hl.1 rfl (lv_room (Nat.le_of_ble_eq_true rfl)) d_ES_start_2 ⟨(Nat.le_of_ble_eq_true rfl), (Nat.le_of_ble_eq_true rfl)⟩) X (fun H locs X => ?_)
  refine lv_if_eq (tgt := 17) hx hb d_ES_start_5 (by decide +kernel) (fun hc => ?_) (fun hc => ?_)
  · rw [if_pos hc] at h
    refine lv_iconst hx hb d_ES_start_17 kn_i_0 ?_
    obtain ⟨rfl, rfl⟩ := Prod.mk.inj (Option.some.inj h)
    exact xr_zret C X hlk hr d_ES_start_18 rfl (Nat.le_of_ble_eq_true rfl) (Nat.le_of_ble_eq_true rfl)
  · rw [if_neg hc] at h
    refine lv_aload_n hx hb d_ES_start_8 rfl (lv_at hl 0 rfl) ?_
    refine lv_iload_n hx hb d_ES_start_9 rfl (lv_at hl 1 rfl) ?_
    refine lv_iload_n hx hb d_ES_start_10 rfl (lv_at hl 2 rfl) ?_
    replace h := xb h
    obtain ⟨_, hO4, h⟩ := h
    replace h := xpb h
    obtain ⟨r5, K3, hv, h⟩ := h
    refine xr_ki (va_runV (As := [.int x1, .int x2]) (rest := []) C.1 (kc_ES_isUp l E hv) (cwV 2 C.1.2.2.2.2 (xw_V m_382 m_383 m_384 m_106 m_385) rfl rfl rfl ky_ES_isUp ⟨(Nat.le_of_ble_eq_true rfl), (Nat.le_of_ble_eq_true rfl)⟩) (xr_pV C X xc_ES.1 (xk_Xo (xOk hO4) (by decide))) rfl rfl hl.1 rfl (lv_room (Nat.le_of_ble_eq_true rfl)) d_ES_start_11 ⟨(Nat.le_of_ble_eq_true rfl), (Nat.le_of_ble_eq_true rfl)⟩) X (fun H locs X => ?_)
    refine lv_if_eq (tgt := 19) hx hb d_ES_start_14 (by decide +kernel) (fun hc => ?_) (fun hc => ?_)
    · rw [if_pos hc] at h
      refine lv_aload_n hx hb d_ES_start_19 rfl (lv_at hl 0 rfl) ?_
      refine lv_iload_n hx hb d_ES_start_20 rfl (lv_at hl 1 rfl) ?_
      refine lv_iload_n hx hb d_ES_start_21 rfl (lv_at hl 2 rfl) ?_
      refine lv_iconst hx hb d_ES_start_22 kn_i_1 ?_
      replace h := xb h
      obtain ⟨_, hO7, h⟩ := h
      replace h := xb h
      obtain ⟨K6, hv, h⟩ := h
      refine xr_kv (va_runV (As := [.int x1, .int x2, .int (1 : Int32)]) (rest := []) C.1 (kc_ES_setUp l E hv) (cwV 3 C.1.2.2.2.2 (xw_V m_386 m_387 m_388 m_106 m_389) rfl rfl rfl ky_ES_setUp ⟨(Nat.le_of_ble_eq_true rfl), (Nat.le_of_ble_eq_true rfl)⟩) (xr_pV C X xc_ES.1 (xk_Xo (xOk hO7) (by decide))) rfl rfl hl.1 rfl (lv_room (Nat.le_of_ble_eq_true rfl)) d_ES_start_23 ⟨(Nat.le_of_ble_eq_true rfl), (Nat.le_of_ble_eq_true rfl)⟩) X (fun H locs X => ?_)
      refine lv_iconst hx hb d_ES_start_26 kn_i_1 ?_
      obtain ⟨rfl, rfl⟩ := Prod.mk.inj (Option.some.inj h)
      exact xr_zret C X hlk hr d_ES_start_27 rfl (Nat.le_of_ble_eq_true rfl) (Nat.le_of_ble_eq_true rfl)
    · rw [if_neg hc] at h
      refine lv_iconst hx hb d_ES_start_17 kn_i_0 ?_
      obtain ⟨rfl, rfl⟩ := Prod.mk.inj (Option.some.inj h)
      exact xr_zret C X hlk hr d_ES_start_18 rfl (Nat.le_of_ble_eq_true rfl) (Nat.le_of_ble_eq_true rfl)
theorem kc_ES_start (l : Launch) (E : xe) {th : Nat} {x1 : Int32} {x2 : Int32} {r : Int32} (h : kf_ES_start_0 K th x1 x2 = some (r, K')) : Met l y_ES_start (Cond.code y_ES_start b_ES_start 3 (some .boolean) :: w_all) { frames := 2, cells := 0, slots := 0, locals := 41 } (va_Pc [.ref th, .int x1, .int x2] (fun U => xx_B E K M U)) (xq_i E K' M r) 0 0 (xe_A E) :=
  xr_met (by decide) (Nat.le_of_ble_eq_true rfl) fun p e s m below meth c ls C X hlk hr hin hl => kw_ES_start_0 C hlk hr hin X hl h
end KW9
