/-! EpochStore.beginEpoch(ILEpochStore$Log;)V -/
def kf_ES_beginEpoch_70 (rec17 : xk → Nat → Int32 → Nat → Int32 → Int32 → Int32 → Int32 → Option xk) (K : xk) (th : Nat) (x1 : Int32) (x2 : Nat) (x3 : Int32) (x4 : Int32) (x5 : Int32) (x6 : Int32) : Option xk := rec17 K th x1 x2 x3 x4 x5 (x6 + (1 : Int32))
def kb_ES_beginEpoch_17 (rec17 : xk → Nat → Int32 → Nat → Int32 → Int32 → Int32 → Int32 → Option xk) (K : xk) (th : Nat) (x1 : Int32) (x2 : Nat) (x3 : Int32) (x4 : Int32) (x5 : Int32) (x6 : Int32) : Option xk := if (3 : Int32) ≤ x6 then ((xR K 0 4 th).bind fun v1 => xp (xNw K 9 0) fun q2 K3 => (kf_Master_init_0 K3 q2 x1 x5 x4).bind fun K4 => (v1).bind fun a6 => (xRt K4 6 8 a6 x1 (some q2)).bind fun K5 => some K5) else (xR K 0 1 th).bind fun v7 => (v7).bind fun a9 => (xRa K 3 a9 x6).bind fun v8 => (v8).bind fun a10 => (xI K 9 1 a10).bind fun v11 => if v11 = 0 then (kf_ES_beginEpoch_70 rec17 K th x1 x2 x3 x4 x5 x6) else (xR K 0 1 th).bind fun v12 => (v12).bind fun a14 => (xRa K 3 a14 x6).bind fun v13 => (v13).bind fun a15 => (xO K 9 a15).bind fun _ => (kf_Log_copyFrom_0 K a15 x2).bind fun K16 => (xR K16 0 1 th).bind fun v18 => (v18).bind fun a20 => (xRa K16 3 a20 x6).bind fun v19 => (v19).bind fun a21 => (xO K16 9 a21).bind fun _ => (kf_Log_enter_0 K16 a21 x1 x3 x4).bind fun K22 => kf_ES_beginEpoch_70 rec17 K22 th x1 x2 x3 x4 (x5 ||| ((1 : Int32) <<< (x6 &&& 31))) x6
def kf_ES_beginEpoch_17 : Nat → xk → Nat → Int32 → Nat → Int32 → Int32 → Int32 → Int32 → Option xk
  | 0 => fun _ _ _ _ _ _ _ _ => none
  | n + 1 => kb_ES_beginEpoch_17 (kf_ES_beginEpoch_17 n)
def kf_ES_beginEpoch_0 (K : xk) (th : Nat) (x1 : Int32) (x2 : Nat) : Option xk := (xI K 9 3 x2).bind fun v1 => kf_ES_beginEpoch_17 1000 K th x1 x2 v1 (v1 + (10 : Int32)) (0 : Int32) (0 : Int32)
/-! EpochStore.recover(I)I -/
def kf_ES_recover_48 (K : xk) : Option (Int32 × xk) := some ((-1 : Int32), K)
def kf_ES_recover_0 (K : xk) (th : Nat) (x1 : Int32) : Option (Int32 × xk) := (xO K 0 th).bind fun _ => xp (kf_ES_epochOfMajority_0 K th) fun r3 K1 => if r3 = (-1 : Int32) then (kf_ES_recover_48 K1) else if (9 : Int32) ≤ r3 then (kf_ES_recover_48 K1) else xp (kf_ES_isLog_0 K1 x1) fun r5 K4 => if r5 = 0 then (kf_ES_recover_48 K4) else (xR K4 0 1 th).bind fun v6 => (v6).bind fun a8 => (xRa K4 3 a8 x1).bind fun v7 => (v7).bind fun a9 => (xI K4 9 1 a9).bind fun v10 => if v10 = 0 then (kf_ES_recover_48 K4) else (xR K4 0 1 th).bind fun v11 => (v11).bind fun a13 => (xRa K4 3 a13 x1).bind fun v12 => (v12).bind fun a14 => (xI K4 9 2 a14).bind fun v15 => if v15 = r3 then ((xO K4 0 th).bind fun _ => (kf_ES_raiseCoordinators_0 K4 th (r3 + (1 : Int32))).bind fun K16 => (xR K16 0 1 th).bind fun v18 => (v18).bind fun a20 => (xRa K16 3 a20 x1).bind fun v19 => (v19).bind fun a21 => (xO K16 0 th).bind fun _ => (kf_ES_beginEpoch_0 K16 th (r3 + (1 : Int32)) a21).bind fun K22 => some ((r3 + (1 : Int32)), K22)) else kf_ES_recover_48 K4
/-! EpochStore$Log.code()I -/
def kf_Log_code_0 (K : xk) (th : Nat) : Option (Int32 × xk) := (xI K 9 6 th).bind fun v1 => (xI K 9 2 th).bind fun v2 => (xI K 9 3 th).bind fun v3 => (xI K 9 1 th).bind fun v4 => if v4 = 0 then (some ((((v1 + ((128 : Int32) * v2)) + ((2048 : Int32) * v3)) + (0 : Int32)), K)) else some ((((v1 + ((128 : Int32) * v2)) + ((2048 : Int32) * v3)) + (1073741824 : Int32)), K)
/-! EpochStore.log(I)I -/
def kf_ES_log_0 (K : xk) (th : Nat) (x1 : Int32) : Option (Int32 × xk) := xp (kf_ES_isLog_0 K x1) fun r2 K1 => if r2 = 0 then (some ((-1 : Int32), K1)) else (xR K1 0 1 th).bind fun v3 => (v3).bind fun a5 => (xRa K1 3 a5 x1).bind fun v4 => (v4).bind fun a6 => (xO K1 9 a6).bind fun _ => xp (kf_Log_code_0 K1 a6) fun r9 K7 => some (r9, K7)
/-! EpochStore$Storage.code()I -/
def kf_Storage_code_0 (K : xk) (th : Nat) : Option (Int32 × xk) := (xI K 10 5 th).bind fun v1 => (xI K 10 2 th).bind fun v2 => (xI K 10 3 th).bind fun v3 => (xI K 10 1 th).bind fun v4 => if v4 = 0 then (some ((((v1 + ((128 : Int32) * v2)) + ((2048 : Int32) * v3)) + (0 : Int32)), K)) else some ((((v1 + ((128 : Int32) * v2)) + ((2048 : Int32) * v3)) + (1073741824 : Int32)), K)
/-! EpochStore.storage(I)I -/
def kf_ES_storage_0 (K : xk) (th : Nat) (x1 : Int32) : Option (Int32 × xk) := xp (kf_ES_isStorage_0 K x1) fun r2 K1 => if r2 = 0 then (some ((-1 : Int32), K1)) else (xR K1 0 2 th).bind fun v3 => (v3).bind fun a5 => (xRa K1 4 a5 x1).bind fun v4 => (v4).bind fun a6 => (xO K1 10 a6).bind fun _ => xp (kf_Storage_code_0 K1 a6) fun r9 K7 => some (r9, K7)
/-! EpochStore$Master.code()I -/
def kf_Master_code_0 (K : xk) (th : Nat) : Option (Int32 × xk) := (xI K 8 8 th).bind fun v1 => (xI K 8 11 th).bind fun v2 => (xI K 8 3 th).bind fun v3 => some (((v1 + ((16 : Int32) * v2)) + ((256 : Int32) * v3)), K)
/-! EpochStore.master(I)I -/
def kf_ES_master_0 (K : xk) (th : Nat) (x1 : Int32) : Option (Int32 × xk) := (xO K 0 th).bind fun _ => xp (kf_ES_isMaster_0 K th x1) fun r3 K1 => if r3 = 0 then (some ((-1 : Int32), K1)) else (xR K1 0 4 th).bind fun v4 => (v4).bind fun a6 => (xRa K1 6 a6 x1).bind fun v5 => (v5).bind fun a7 => (xO K1 8 a7).bind fun _ => xp (kf_Master_code_0 K1 a7) fun r10 K8 => some (r10, K8)
/-! EpochStore.committed(I)I -/
def kf_ES_committed_0 (K : xk) (th : Nat) (x1 : Int32) : Option (Int32 × xk) := (xO K 0 th).bind fun _ => xp (kf_ES_isMaster_0 K th x1) fun r3 K1 => if r3 = 0 then (some ((-1 : Int32), K1)) else (xR K1 0 4 th).bind fun v4 => (v4).bind fun a6 => (xRa K1 6 a6 x1).bind fun v5 => (v5).bind fun a7 => (xI K1 8 5 a7).bind fun v8 => some (v8, K1)
/-! EpochStore$Coordinator.code()I -/
def kf_Coordinator_code_0 (K : xk) (th : Nat) : Option (Int32 × xk) := (xI K 1 1 th).bind fun v1 => (xI K 1 0 th).bind fun v2 => if v2 = 0 then (some ((v1 + (0 : Int32)), K)) else some ((v1 + (16 : Int32)), K)
/-! EpochStore.coordinator(I)I -/
def kf_ES_coordinator_0 (K : xk) (th : Nat) (x1 : Int32) : Option (Int32 × xk) := xp (kf_ES_isCoordinator_0 K x1) fun r2 K1 => if r2 = 0 then (some ((-1 : Int32), K1)) else (xR K1 0 0 th).bind fun v3 => (v3).bind fun a5 => (xRa K1 2 a5 x1).bind fun v4 => (v4).bind fun a6 => (xO K1 1 a6).bind fun _ => xp (kf_Coordinator_code_0 K1 a6) fun r9 K7 => some (r9, K7)
section KW11
variable {p : Program} {l : Launch} {e : Env} {s : State} {m : MethodId} {args : Array Value} {below : List Frame} {meth : Method} {c : Code} {H : Heap} {locs : List Loc} {ls : Array Slot} {E : xe} {K K' : xk} {M M' : xm}
set_option maxHeartbeats 4000000 in
set_option maxRecDepth 100000 in
theorem kw_ES_beginEpoch_70 {rec17 : xk → Nat → Int32 → Nat → Int32 → Int32 → Int32 → Int32 → Option xk} {th : Nat} {x1 : Int32} {x2 : Nat} {x3 : Int32} {x4 : Int32} {x5 : Int32} {x6 : Int32} (C : xx_C p m c b_ES_beginEpoch 7 s args Rn_ES E) (hlk : meth.locks = false) (hr : meth.sig.returnType = none) (hin : meth.name = "beginEpoch") (hrec17 : ∀ {H : Heap} {locs : List Loc} {ls : Array Slot} {K : xk} {th : Nat} {x1 : Int32} {x2 : Nat} {x3 : Int32} {x4 : Int32} {x5 : Int32} {x6 : Int32}, xx_S E K M s H locs → lv_has ls 7 [(0, .ref th), (1, .int x1), (2, .ref x2), (3, .int x3), (4, .int x4), (5, .int x5), (6, .int x6)] → rec17 K th x1 x2 x3 x4 x5 x6 = some K' → W p l e { frames := 2, cells := 4, slots := 36, locals := 44 } s m args below meth c H locs 0 0 (MQ below (xq_v E K' M) args s 4 36 (xe_A E)) (F0 m 17 ls [])) (X : xx_S E K M s H locs) (hl : lv_has ls 7 [(0, .ref th), (1, .int x1), (2, .ref x2), (3, .int x3), (4, .int x4), (5, .int x5), (6, .int x6)]) (h : kf_ES_beginEpoch_70 rec17 K th x1 x2 x3 x4 x5 x6 = some K') : W p l e { frames := 2, cells := 4, slots := 36, locals := 44 } s m args below meth c H locs 0 0 (MQ below (xq_v E K' M) args s 4 36 (xe_A E)) (F0 m 70 ls []) := by
  have hx := C.1.1
  have hb := C.1.2.1
  unfold kf_ES_beginEpoch_70 at h
  refine lv_iinc (k := 6) (v := (x6 + (1 : Int32))) hx hb d_ES_beginEpoch_70 hl rfl (congrArg (fun y : Int32 => x6 + y) kn_i_1) (by decide) rfl (fun ls hl => ?_)
  have hl : lv_has ls 7 [(6, .int (x6 + (1 : Int32))), (0, .ref th), (1, .int x1), (2, .ref x2), (3, .int x3), (4, .int x4), (5, .int x5)] := hl
  refine lv_goto (tgt := 17) hx hb d_ES_beginEpoch_73 (by decide +kernel) ?_
  exact hrec17 (th := th) (x1 := x1) (x2 := x2) (x3 := x3) (x4 := x4) (x5 := x5) (x6 := (x6 + (1 : Int32))) X (lv_sub hl [1, 2, 3, 4, 5, 6, 0] rfl) h
set_option maxHeartbeats 4000000 in
set_option maxRecDepth 100000 in
theorem kwb_ES_beginEpoch_17 {rec17 : xk → Nat → Int32 → Nat → Int32 → Int32 → Int32 → Int32 → Option xk} {th : Nat} {x1 : Int32} {x2 : Nat} {x3 : Int32} {x4 : Int32} {x5 : Int32} {x6 : Int32} (C : xx_C p m c b_ES_beginEpoch 7 s args Rn_ES E) (hlk : meth.locks = false) (hr : meth.sig.returnType = none) (hin : meth.name = "beginEpoch") (hrec17 : ∀ {H : Heap} {locs : List Loc} {ls : Array Slot} {K : xk} {th : Nat} {x1 : Int32} {x2 : Nat} {x3 : Int32} {x4 : Int32} {x5 : Int32} {x6 : Int32}, xx_S E K M s H locs → lv_has ls 7 [(0, .ref th), (1, .int x1), (2, .ref x2), (3, .int x3), (4, .int x4), (5, .int x5), (6, .int x6)] → rec17 K th x1 x2 x3 x4 x5 x6 = some K' → W p l e { frames := 2, cells := 4, slots := 36, locals := 44 } s m args below meth c H locs 0 0 (MQ below (xq_v E K' M) args s 4 36 (xe_A E)) (F0 m 17 ls [])) (X : xx_S E K M s H locs) (hl : lv_has ls 7 [(0, .ref th), (1, .int x1), (2, .ref x2), (3, .int x3), (4, .int x4), (5, .int x5), (6, .int x6)]) (h : kb_ES_beginEpoch_17 rec17 K th x1 x2 x3 x4 x5 x6 = some K') : W p l e { frames := 2, cells := 4, slots := 36, locals := 44 } s m args below meth c H locs 0 0 (MQ below (xq_v E K' M) args s 4 36 (xe_A E)) (F0 m 17 ls []) := by
  have hx := C.1.1
  have hb := C.1.2.1
  unfold kb_ES_beginEpoch_17 at h
  refine lv_iload hx hb d_ES_beginEpoch_17 (lv_at hl 6 rfl) ?_
  refine lv_iconst hx hb d_ES_beginEpoch_19 kn_i_3 ?_
  refine lv_icmp_ge (tgt := 76) hx hb d_ES_beginEpoch_20 (by decide +kernel) (fun hc => ?_) (fun hc => ?_)
  · rw [if_pos hc] at h
    refine lv_aload_n hx hb d_ES_beginEpoch_76 rfl (lv_at hl 0 rfl) ?_
    replace h := xb h
    obtain ⟨v1, hv, h⟩ := h
    refine xr_gr C X xc_ES (by decide) 4 (by decide) (by decide) rfl m_65 d_ES_beginEpoch_77 hv ?_
    refine lv_iload_n hx hb d_ES_beginEpoch_80 rfl (lv_at hl 1 rfl) ?_
    replace h := xpb h
    obtain ⟨q2, K3, hv, h⟩ := h
    refine xr_new C X xc_Master (by decide) rfl xdf_Master m_64 m_92 m_93 d_ES_beginEpoch_81 (Nat.le_of_ble_eq_true rfl) (Nat.le_of_ble_eq_true rfl) hv (fun H X => ?_)
    refine lv_dup hx hb d_ES_beginEpoch_84 rfl ?_
    refine lv_iload_n hx hb d_ES_beginEpoch_85 rfl (lv_at hl 1 rfl) ?_
    refine lv_iload hx hb d_ES_beginEpoch_86 (lv_at hl 5 rfl) ?_
    refine lv_iload hx hb d_ES_beginEpoch_88 (lv_at hl 4 rfl) ?_
    replace h := xb h
    obtain ⟨K4, hv, h⟩ := h
    refine xr_kv (va_runI (As := [.int x1, .int x5, .int x4]) (rest := [.ref q2, .int x1, va_rf v1]) C.1 (kc_Master_init l E hv) (cwI 3 C.1.2.2.2.2 (xw_in m_95) rfl rfl rfl (C.1.2.2.2.2 _ m_93) (C.1.2.2.2.2 _ m_94) (C.1.2.2.2.2 _ m_96) rfl ky_Master_init ⟨(Nat.le_of_ble_eq_true rfl), (Nat.le_of_ble_eq_true rfl)⟩) (xr_pS C X) rfl rfl hl.1 rfl (lv_room (by simp [xr_cat, xr_c_i, xr_c_a, xr_c_l])) d_ES_beginEpoch_90 ⟨(Nat.le_of_ble_eq_true rfl), (Nat.le_of_ble_eq_true rfl)⟩) X (fun H locs X => ?_)
    replace h := xb h
    obtain ⟨a6, rfl, h⟩ := h
    replace h := xb h
    obtain ⟨K5, hv, h⟩ := h
    refine xr_aast (v := (some q2)) C X 6 8 (by decide) (by decide) rfl rfl rfl d_ES_beginEpoch_93 hv (fun H locs X => ?_)
    obtain rfl := Option.some.inj h
    exact xr_vret C X hlk hr d_ES_beginEpoch_94 (Nat.le_of_ble_eq_true rfl) (Nat.le_of_ble_eq_true rfl)
  · rw [if_neg hc] at h
    refine lv_aload_n hx hb d_ES_beginEpoch_23 rfl (lv_at hl 0 rfl) ?_
    replace h := xb h
    obtain ⟨v7, hv, h⟩ := h
    refine xr_gr C X xc_ES (by decide) 1 (by decide) (by decide) rfl m_59 d_ES_beginEpoch_24 hv ?_
    refine lv_iload hx hb d_ES_beginEpoch_27 (lv_at hl 6 rfl) ?_
    replace h := xb h
    obtain ⟨a9, rfl, h⟩ := h
    replace h := xb h
    obtain ⟨v8, hv, h⟩ := h
    refine xr_aald C X 3 (by decide) rfl rfl d_ES_beginEpoch_29 hv ?_
    replace h := xb h
    obtain ⟨a10, rfl, h⟩ := h
    replace h := xb h
    obtain ⟨v11, hv, h⟩ := h
    refine xr_gi C X xc_Log (by decide) 1 (by decide) (by decide) rfl m_377 d_ES_beginEpoch_30 hv ?_
    refine lv_if_eq (tgt := 70) hx hb d_ES_beginEpoch_33 (by decide +kernel) (fun hc => ?_) (fun hc => ?_)
    · rw [if_pos hc] at h
      exact kw_ES_beginEpoch_70 (th := th) (x1 := x1) (x2 := x2) (x3 := x3) (x4 := x4) (x5 := x5) (x6 := x6) C hlk hr hin hrec17  X (lv_sub hl [0, 1, 2, 3, 4, 5, 6] rfl) h
    · rw [if_neg hc] at h
      refine lv_aload_n hx hb d_ES_beginEpoch_36 rfl (lv_at hl 0 rfl) ?_
      replace h := xb h
      obtain ⟨v12, hv, h⟩ := h
      refine xr_gr C X xc_ES (by decide) 1 (by decide) (by decide) rfl m_59 d_ES_beginEpoch_37 hv ?_
      refine lv_iload hx hb d_ES_beginEpoch_40 (lv_at hl 6 rfl) ?_
      replace h := xb h
      obtain ⟨a14, rfl, h⟩ := h
      replace h := xb h
      obtain ⟨v13, hv, h⟩ := h
      refine xr_aald C X 3 (by decide) rfl rfl d_ES_beginEpoch_42 hv ?_
      refine lv_aload_n hx hb d_ES_beginEpoch_43 rfl (lv_at hl 2 rfl) ?_
      replace h := xb h
      obtain ⟨a15, rfl, h⟩ := h
      replace h := xb h
      obtain ⟨_, hO17, h⟩ := h
      replace h := xb h
      obtain ⟨K16, hv, h⟩ := h
      refine xr_kv (va_runV (As := [.ref x2]) (rest := []) C.1 (kc_Log_copyFrom l E hv) (cwV 1 C.1.2.2.2.2 (xw_V m_424 m_425 m_426 m_78 m_427) rfl rfl rfl ky_Log_copyFrom ⟨(Nat.le_of_ble_eq_true rfl), (Nat.le_of_ble_eq_true rfl)⟩) (xr_pV C X xc_Log.1 (xk_Xo (xOk hO17) (by decide))) rfl rfl hl.1 rfl (lv_room (Nat.le_of_ble_eq_true rfl)) d_ES_beginEpoch_44 ⟨(Nat.le_of_ble_eq_true rfl), (Nat.le_of_ble_eq_true rfl)⟩) X (fun H locs X => ?_)
      refine lv_aload_n hx hb d_ES_beginEpoch_47 rfl (lv_at hl 0 rfl) ?_
      replace h := xb h
      obtain ⟨v18, hv, h⟩ := h
      refine xr_gr C X xc_ES (by decide) 1 (by decide) (by decide) rfl m_59 d_ES_beginEpoch_48 hv ?_
      refine lv_iload hx hb d_ES_beginEpoch_51 (lv_at hl 6 rfl) ?_
      replace h := xb h
      obtain ⟨a20, rfl, h⟩ := h
      replace h := xb h
      obtain ⟨v19, hv, h⟩ := h
      refine xr_aald C X 3 (by decide) rfl rfl d_ES_beginEpoch_53 hv ?_
      refine lv_iload_n hx hb d_ES_beginEpoch_54 rfl (lv_at hl 1 rfl) ?_
      refine lv_iload_n hx hb d_ES_beginEpoch_55 rfl (lv_at hl 3 rfl) ?_
      refine lv_iload hx hb d_ES_beginEpoch_56 (lv_at hl 4 rfl) ?_
      replace h := xb h
      obtain ⟨a21, rfl, h⟩ := h
      replace h := xb h
      obtain ⟨_, hO23, h⟩ := h
      replace h := xb h
      obtain ⟨K22, hv, h⟩ := h
      refine xr_kv (va_runV (As := [.int x1, .int x3, .int x4]) (rest := []) C.1 (kc_Log_enter l E hv) (cwV 3 C.1.2.2.2.2 (xw_V m_428 m_429 m_430 m_78 m_431) rfl rfl rfl ky_Log_enter ⟨(Nat.le_of_ble_eq_true rfl), (Nat.le_of_ble_eq_true rfl)⟩) (xr_pV C X xc_Log.1 (xk_Xo (xOk hO23) (by decide))) rfl rfl hl.1 rfl (lv_room (Nat.le_of_ble_eq_true rfl)) d_ES_beginEpoch_58 ⟨(Nat.le_of_ble_eq_true rfl), (Nat.le_of_ble_eq_true rfl)⟩) X (fun H locs X => ?_)
      refine lv_iload hx hb d_ES_beginEpoch_61 (lv_at hl 5 rfl) ?_
      refine lv_iconst hx hb d_ES_beginEpoch_63 kn_i_1 ?_
      refine lv_iload hx hb d_ES_beginEpoch_64 (lv_at hl 6 rfl) ?_
      refine lv_ishl hx hb d_ES_beginEpoch_66 ?_
      refine lv_ior hx hb d_ES_beginEpoch_67 ?_
      refine lv_istore hx hb d_ES_beginEpoch_68 hl (by decide) rfl (fun ls hl => ?_)
      have hl : lv_has ls 7 [(5, .int (x5 ||| ((1 : Int32) <<< (x6 &&& 31)))), (0, .ref th), (1, .int x1), (2, .ref x2), (3, .int x3), (4, .int x4), (6, .int x6)] := hl
      exact kw_ES_beginEpoch_70 (th := th) (x1 := x1) (x2 := x2) (x3 := x3) (x4 := x4) (x5 := (x5 ||| ((1 : Int32) <<< (x6 &&& 31)))) (x6 := x6) C hlk hr hin hrec17  X (lv_sub hl [1, 2, 3, 4, 5, 0, 6] rfl) h
theorem kw_ES_beginEpoch_17 (C : xx_C p m c b_ES_beginEpoch 7 s args Rn_ES E) (hlk : meth.locks = false) (hr : meth.sig.returnType = none) (hin : meth.name = "beginEpoch") : ∀ (n : Nat) {H : Heap} {locs : List Loc} {ls : Array Slot} {K : xk} {th : Nat} {x1 : Int32} {x2 : Nat} {x3 : Int32} {x4 : Int32} {x5 : Int32} {x6 : Int32}, xx_S E K M s H locs → lv_has ls 7 [(0, .ref th), (1, .int x1), (2, .ref x2), (3, .int x3), (4, .int x4), (5, .int x5), (6, .int x6)] → kf_ES_beginEpoch_17 n K th x1 x2 x3 x4 x5 x6 = some K' → W p l e { frames := 2, cells := 4, slots := 36, locals := 44 } s m args below meth c H locs 0 0 (MQ below (xq_v E K' M) args s 4 36 (xe_A E)) (F0 m 17 ls []) := by
  intro n
  induction n with
  | zero => intro H locs ls K th x1 x2 x3 x4 x5 x6 X hl h; exact nomatch (show (none : Option xk) = some _ from h)
  | succ n ih => intro H locs ls K th x1 x2 x3 x4 x5 x6 X hl h; exact kwb_ES_beginEpoch_17 C hlk hr hin ih X hl h
set_option maxHeartbeats 4000000 in
set_option maxRecDepth 100000 in
theorem kw_ES_beginEpoch_0 {th : Nat} {x1 : Int32} {x2 : Nat} (C : xx_C p m c b_ES_beginEpoch 7 s args Rn_ES E) (hlk : meth.locks = false) (hr : meth.sig.returnType = none) (hin : meth.name = "beginEpoch") (X : xx_S E K M s H locs) (hl : lv_has ls 7 [(0, .ref th), (1, .int x1), (2, .ref x2)]) (h : kf_ES_beginEpoch_0 K th x1 x2 = some K') : W p l e { frames := 2, cells := 4, slots := 36, locals := 44 } s m args below meth c H locs 0 0 (MQ below (xq_v E K' M) args s 4 36 (xe_A E)) (F0 m 0 ls []) := by
  have hx := C.1.1
  have hb := C.1.2.1
  unfold kf_ES_beginEpoch_0 at h
  refine lv_aload_n hx hb d_ES_beginEpoch_0 rfl (lv_at hl 2 rfl) ?_
  replace h := xb h
  obtain ⟨v1, hv, h⟩ := h
  refine xr_gi C X xc_Log (by decide) 3 (by decide) (by decide) rfl m_423 d_ES_beginEpoch_1 hv ?_
  refine lv_istore_n hx hb d_ES_beginEpoch_4 rfl hl (by decide) rfl (fun ls hl => ?_)
  have hl : lv_has ls 7 [(3, .int v1), (0, .ref th), (1, .int x1), (2, .ref x2)] := hl
  refine lv_iload_n hx hb d_ES_beginEpoch_5 rfl (lv_at hl 0 rfl) ?_
  refine lv_bipush hx hb d_ES_beginEpoch_6 kn_b_10 ?_
  refine lv_iadd hx hb d_ES_beginEpoch_8 ?_
  refine lv_istore hx hb d_ES_beginEpoch_9 hl (by decide) rfl (fun ls hl => ?_)
  have hl : lv_has ls 7 [(4, .int (v1 + (10 : Int32))), (3, .int v1), (0, .ref th), (1, .int x1), (2, .ref x2)] := hl
  refine lv_iconst hx hb d_ES_beginEpoch_11 kn_i_0 ?_
  refine lv_istore hx hb d_ES_beginEpoch_12 hl (by decide) rfl (fun ls hl => ?_)
  have hl : lv_has ls 7 [(5, .int (0 : Int32)), (4, .int (v1 + (10 : Int32))), (3, .int v1), (0, .ref th), (1, .int x1), (2, .ref x2)] := hl
  refine lv_iconst hx hb d_ES_beginEpoch_14 kn_i_0 ?_
  refine lv_istore hx hb d_ES_beginEpoch_15 hl (by decide) rfl (fun ls hl => ?_)
  have hl : lv_has ls 7 [(6, .int (0 : Int32)), (5, .int (0 : Int32)), (4, .int (v1 + (10 : Int32))), (3, .int v1), (0, .ref th), (1, .int x1), (2, .ref x2)] := hl
  exact kw_ES_beginEpoch_17 C hlk hr hin 1000 X (lv_sub hl [4, 5, 6, 3, 2, 1, 0] rfl) h
theorem kc_ES_beginEpoch (l : Launch) (E : xe) {th : Nat} {x1 : Int32} {x2 : Nat} (h : kf_ES_beginEpoch_0 K th x1 x2 = some K') : Met l y_ES_beginEpoch (Cond.code y_ES_beginEpoch b_ES_beginEpoch 7 none :: w_all) { frames := 2, cells := 4, slots := 36, locals := 44 } (va_Pc [.ref th, .int x1, .ref x2] (fun U => xx_B E K M U)) (xq_v E K' M) 4 36 (xe_A E) :=
  xr_met (by decide) (Nat.le_of_ble_eq_true rfl) fun p e s m below meth c ls C X hlk hr hin hl => kw_ES_beginEpoch_0 C hlk hr hin X hl h
set_option maxHeartbeats 4000000 in
set_option maxRecDepth 100000 in
theorem kw_ES_recover_48 {r : Int32} (C : xx_C p m c b_ES_recover 3 s args Rn_ES E) (hlk : meth.locks = false) (hr : meth.sig.returnType = (some .int)) (hin : meth.name = "recover") (X : xx_S E K M s H locs) (hl : lv_has ls 3 []) (h : kf_ES_recover_48 K = some (r, K')) : W p l e { frames := 3, cells := 4, slots := 36, locals := 70 } s m args below meth c H locs 0 0 (MQ below (xq_i E K' M r) args s 4 36 (xe_A E)) (F0 m 48 ls []) := by
  have hx := C.1.1
  have hb := C.1.2.1
  unfold kf_ES_recover_48 at h
  refine lv_iconst hx hb d_ES_recover_48 kn_i_m1 ?_
  obtain ⟨rfl, rfl⟩ := Prod.mk.inj (Option.some.inj h)
  exact xr_iret C X hlk hr d_ES_recover_49 rfl (Nat.le_of_ble_eq_true rfl) (Nat.le_of_ble_eq_true rfl)
set_option maxHeartbeats 4000000 in
set_option maxRecDepth 100000 in
theorem kw_ES_recover_0 {th : Nat} {x1 : Int32} {r : Int32} (C : xx_C p m c b_ES_recover 3 s args Rn_ES E) (hlk : meth.locks = false) (hr : meth.sig.returnType = (some .int)) (hin : meth.name = "recover") (X : xx_S E K M s H locs) (hl : lv_has ls 3 [(0, .ref th), (1, .int x1)]) (h : kf_ES_recover_0 K th x1 = some (r, K')) : W p l e { frames := 3, cells := 4, slots := 36, locals := 70 } s m args below meth c H locs 0 0 (MQ below (xq_i E K' M r) args s 4 36 (xe_A E)) (F0 m 0 ls []) := by
  have hx := C.1.1
  have hb := C.1.2.1
  unfold kf_ES_recover_0 at h
  refine lv_aload_n hx hb d_ES_recover_0 rfl (lv_at hl 0 rfl) ?_
  replace h := xb h
  obtain ⟨_, hO2, h⟩ := h
  replace h := xpb h
  obtain ⟨r3, K1, hv, h⟩ := h
  refine xr_ki (va_runV (As := []) (rest := []) C.1 (kc_ES_epochOfMajority l E hv) (cwV 0 C.1.2.2.2.2 (xw_V m_103 m_104 m_105 m_106 m_107) rfl rfl rfl ky_ES_epochOfMajority ⟨(Nat.le_of_ble_eq_true rfl), (Nat.le_of_ble_eq_true rfl)⟩) (xr_pV C X xc_ES.1 (xk_Xo (xOk hO2) (by decide))) rfl rfl hl.1 rfl (lv_room (Nat.le_of_ble_eq_true rfl)) d_ES_recover_1 ⟨(Nat.le_of_ble_eq_true rfl), (Nat.le_of_ble_eq_true rfl)⟩) X (fun H locs X => ?_)
  refine lv_istore_n hx hb d_ES_recover_4 rfl hl (by decide) rfl (fun ls hl => ?_)
  have hl : lv_has ls 3 [(2, .int r3), (0, .ref th), (1, .int x1)] := hl
  refine lv_iload_n hx hb d_ES_recover_5 rfl (lv_at hl 0 rfl) ?_
  refine lv_iconst hx hb d_ES_recover_6 kn_i_m1 ?_
  refine lv_icmp_eq (tgt := 48) hx hb d_ES_recover_7 (by decide +kernel) (fun hc => ?_) (fun hc => ?_)
  · rw [if_pos hc] at h
    exact kw_ES_recover_48 C hlk hr hin  X (lv_sub hl [] rfl) h
  · rw [if_neg hc] at h
    refine lv_iload_n hx hb d_ES_recover_10 rfl (lv_at hl 0 rfl) ?_
    refine lv_bipush hx hb d_ES_recover_11 kn_b_9 ?_
    refine lv_icmp_ge (tgt := 48) hx hb d_ES_recover_13 (by decide +kernel) (fun hc => ?_) (fun hc => ?_)
    · rw [if_pos hc] at h
      exact kw_ES_recover_48 C hlk hr hin  X (lv_sub hl [] rfl) h
    · rw [if_neg hc] at h
      refine lv_iload_n hx hb d_ES_recover_16 rfl (lv_at hl 2 rfl) ?_
      replace h := xpb h
      obtain ⟨r5, K4, hv, h⟩ := h
      refine xr_ki (va_runS (As := [.int x1]) (rest := []) C.1 (kc_ES_isLog l E hv) (cwS 1 C.1.2.2.2.2 (xw_S m_371 m_372 m_106 m_373) rfl rfl rfl ky_ES_isLog ⟨(Nat.le_of_ble_eq_true rfl), (Nat.le_of_ble_eq_true rfl)⟩) (xr_pS C X) rfl rfl hl.1 rfl (lv_room (Nat.le_of_ble_eq_true rfl)) d_ES_recover_17 ⟨(Nat.le_of_ble_eq_true rfl), (Nat.le_of_ble_eq_true rfl)⟩) X (fun H locs X => ?_)
      refine lv_if_eq (tgt := 48) hx hb d_ES_recover_20 (by decide +kernel) (fun hc => ?_) (fun hc => ?_)
      · rw [if_pos hc] at h
        exact kw_ES_recover_48 C hlk hr hin  X (lv_sub hl [] rfl) h
      · rw [if_neg hc] at h
        refine lv_aload_n hx hb d_ES_recover_23 rfl (lv_at hl 1 rfl) ?_
        replace h := xb h
        obtain ⟨v6, hv, h⟩ := h
        refine xr_gr C X xc_ES (by decide) 1 (by decide) (by decide) rfl m_59 d_ES_recover_24 hv ?_
        refine lv_iload_n hx hb d_ES_recover_27 rfl (lv_at hl 2 rfl) ?_
        replace h := xb h
        obtain ⟨a8, rfl, h⟩ := h
        replace h := xb h
        obtain ⟨v7, hv, h⟩ := h
        refine xr_aald C X 3 (by decide) rfl rfl d_ES_recover_28 hv ?_
        replace h := xb h
        obtain ⟨a9, rfl, h⟩ := h
        replace h := xb h
        obtain ⟨v10, hv, h⟩ := h
        refine xr_gi C X xc_Log (by decide) 1 (by decide) (by decide) rfl m_377 d_ES_recover_29 hv ?_
        refine lv_if_eq (tgt := 48) hx hb d_ES_recover_32 (by decide +kernel) (fun hc => ?_) (fun hc => ?_)
        · rw [if_pos hc] at h
          exact kw_ES_recover_48 C hlk hr hin  X (lv_sub hl [] rfl) h
        · rw [if_neg hc] at h
          refine lv_aload_n hx hb d_ES_recover_35 rfl (lv_at hl 1 rfl) ?_
          replace h := xb h
          obtain ⟨v11, hv, h⟩ := h
          refine xr_gr C X xc_ES (by decide) 1 (by decide) (by decide) rfl m_59 d_ES_recover_36 hv ?_
          refine lv_iload_n hx hb d_ES_recover_39 rfl (lv_at hl 2 rfl) ?_
          replace h := xb h
          obtain ⟨a13, rfl, h⟩ := h
          replace h := xb h
          obtain ⟨v12, hv, h⟩ := h
          refine xr_aald C X 3 (by decide) rfl rfl d_ES_recover_40 hv ?_
          replace h := xb h
          obtain ⟨a14, rfl, h⟩ := h
          replace h := xb h
          obtain ⟨v15, hv, h⟩ := h
          refine xr_gi C X xc_Log (by decide) 2 (by decide) (by decide) rfl m_432 d_ES_recover_41 hv ?_
          refine lv_iload_n hx hb d_ES_recover_44 rfl (lv_at hl 0 rfl) ?_
          refine lv_icmp_eq (tgt := 50) hx hb d_ES_recover_45 (by decide +kernel) (fun hc => ?_) (fun hc => ?_)
          · rw [if_pos hc] at h
            refine lv_aload_n hx hb d_ES_recover_50 rfl (lv_at hl 1 rfl) ?_
            refine lv_iload_n hx hb d_ES_recover_51 rfl (lv_at hl 0 rfl) ?_
            refine lv_iconst hx hb d_ES_recover_52 kn_i_1 ?_
            refine lv_iadd hx hb d_ES_recover_53 ?_
            replace h := xb h
            obtain ⟨_, hO17, h⟩ := h
            replace h := xb h
            obtain ⟨K16, hv, h⟩ := h
            refine xr_kv (va_runV (As := [.int (r3 + (1 : Int32))]) (rest := []) C.1 (kc_ES_raiseCoordinators l E hv) (cwV 1 C.1.2.2.2.2 (xw_V m_433 m_434 m_435 m_106 m_436) rfl rfl rfl ky_ES_raiseCoordinators ⟨(Nat.le_of_ble_eq_true rfl), (Nat.le_of_ble_eq_true rfl)⟩) (xr_pV C X xc_ES.1 (xk_Xo (xOk hO17) (by decide))) rfl rfl hl.1 rfl (lv_room (Nat.le_of_ble_eq_true rfl)) d_ES_recover_54 ⟨(Nat.le_of_ble_eq_true rfl), (Nat.le_of_ble_eq_true rfl)⟩) X (fun H locs X => ?_)
            refine lv_aload_n hx hb d_ES_recover_57 rfl (lv_at hl 1 rfl) ?_
            refine lv_iload_n hx hb d_ES_recover_58 rfl (lv_at hl 0 rfl) ?_
            refine lv_iconst hx hb d_ES_recover_59 kn_i_1 ?_
            refine lv_iadd hx hb d_ES_recover_60 ?_
            refine lv_aload_n hx hb d_ES_recover_61 rfl (lv_at hl 1 rfl) ?_
            replace h := xb h
            obtain ⟨v18, hv, h⟩ := h
            refine xr_gr C X xc_ES (by decide) 1 (by decide) (by decide) rfl m_59 d_ES_recover_62 hv ?_
            refine lv_iload_n hx hb d_ES_recover_65 rfl (lv_at hl 2 rfl) ?_
            replace h := xb h
            obtain ⟨a20, rfl, h⟩ := h
            replace h := xb h
            obtain ⟨v19, hv, h⟩ := h
            refine xr_aald C X 3 (by decide) rfl rfl d_ES_recover_66 hv ?_
            replace h := xb h
            obtain ⟨a21, rfl, h⟩ := h
            replace h := xb h
            obtain ⟨_, hO23, h⟩ := h
            replace h := xb h
            obtain ⟨K22, hv, h⟩ := h
            refine xr_kv (va_runV (As := [.int (r3 + (1 : Int32)), .ref a21]) (rest := []) C.1 (kc_ES_beginEpoch l E hv) (cwV 2 C.1.2.2.2.2 (xw_V m_437 m_438 m_439 m_106 m_440) rfl rfl rfl ky_ES_beginEpoch ⟨(Nat.le_of_ble_eq_true rfl), (Nat.le_of_ble_eq_true rfl)⟩) (xr_pV C X xc_ES.1 (xk_Xo (xOk hO23) (by decide))) rfl rfl hl.1 rfl (lv_room (Nat.le_of_ble_eq_true rfl)) d_ES_recover_67 ⟨(Nat.le_of_ble_eq_true rfl), (Nat.le_of_ble_eq_true rfl)⟩) X (fun H locs X => ?_)
            refine lv_iload_n hx hb d_ES_recover_70 rfl (lv_at hl 0 rfl) ?_
            refine lv_iconst hx hb d_ES_recover_71 kn_i_1 ?_
            refine lv_iadd hx hb d_ES_recover_72 ?_
            obtain ⟨rfl, rfl⟩ := Prod.mk.inj (Option.some.inj h)
            exact xr_iret C X hlk hr d_ES_recover_73 rfl (Nat.le_of_ble_eq_true rfl) (Nat.le_of_ble_eq_true rfl)
          · rw [if_neg hc] at h
            exact kw_ES_recover_48 C hlk hr hin  X (lv_sub hl [] rfl) h
theorem kc_ES_recover (l : Launch) (E : xe) {th : Nat} {x1 : Int32} {r : Int32} (h : kf_ES_recover_0 K th x1 = some (r, K')) : Met l y_ES_recover (Cond.code y_ES_recover b_ES_recover 3 (some .int) :: w_all) { frames := 3, cells := 4, slots := 36, locals := 70 } (va_Pc [.ref th, .int x1] (fun U => xx_B E K M U)) (xq_i E K' M r) 4 36 (xe_A E) :=
  xr_met (by decide) (Nat.le_of_ble_eq_true rfl) fun p e s m below meth c ls C X hlk hr hin hl => kw_ES_recover_0 C hlk hr hin X hl h
set_option maxHeartbeats 4000000 in
set_option maxRecDepth 100000 in
theorem kw_Log_code_0 {th : Nat} {r : Int32} (C : xx_C p m c b_Log_code 1 s args Rn_Log E) (hlk : meth.locks = false) (hr : meth.sig.returnType = (some .int)) (hin : meth.name = "code") (X : xx_S E K M s H locs) (hl : lv_has ls 1 [(0, .ref th)]) (h : kf_Log_code_0 K th = some (r, K')) : W p l e { frames := 0, cells := 0, slots := 0, locals := 0 } s m args below meth c H locs 0 0 (MQ below (xq_i E K' M r) args s 0 0 (xe_A E)) (F0 m 0 ls []) := by
  have hx := C.1.1
  have hb := C.1.2.1
  unfold kf_Log_code_0 at h
  refine lv_aload_n hx hb d_Log_code_0 rfl (lv_at hl 0 rfl) ?_
  replace h := xb h
  obtain ⟨v1, hv, h⟩ := h
  refine xr_gi C X xc_Log (by decide) 6 (by decide) (by decide) rfl m_220 d_Log_code_1 hv ?_
  refine lv_sipush hx hb d_Log_code_4 kn_s_128 ?_
  refine lv_aload_n hx hb d_Log_code_7 rfl (lv_at hl 0 rfl) ?_
  replace h := xb h
  obtain ⟨v2, hv, h⟩ := h
  refine xr_gi C X xc_Log (by decide) 2 (by decide) (by decide) rfl m_16 d_Log_code_8 hv ?_
  refine lv_imul hx hb d_Log_code_11 ?_
  refine lv_iadd hx hb d_Log_code_12 ?_
  refine lv_sipush hx hb d_Log_code_13 kn_s_2048 ?_
  refine lv_aload_n hx hb d_Log_code_16 rfl (lv_at hl 0 rfl) ?_
  replace h := xb h
  obtain ⟨v3, hv, h⟩ := h
  refine xr_gi C X xc_Log (by decide) 3 (by decide) (by decide) rfl m_17 d_Log_code_17 hv ?_
  refine lv_imul hx hb d_Log_code_20 ?_
  refine lv_iadd hx hb d_Log_code_21 ?_
  refine lv_aload_n hx hb d_Log_code_22 rfl (lv_at hl 0 rfl) ?_
  replace h := xb h
  obtain ⟨v4, hv, h⟩ := h
  refine xr_gi C X xc_Log (by decide) 1 (by decide) (by decide) rfl m_15 d_Log_code_23 hv ?_
  refine lv_if_eq (tgt := 34) hx hb d_Log_code_26 (by decide +kernel) (fun hc => ?_) (fun hc => ?_)
  · rw [if_pos hc] at h
    refine lv_iconst hx hb d_Log_code_34 kn_i_0 ?_
    refine lv_iadd hx hb d_Log_code_35 ?_
    obtain ⟨rfl, rfl⟩ := Prod.mk.inj (Option.some.inj h)
    exact xr_iret C X hlk hr d_Log_code_36 rfl (Nat.le_of_ble_eq_true rfl) (Nat.le_of_ble_eq_true rfl)
  · rw [if_neg hc] at h
    refine lv_ldc hx hb C.1.2.2.2.1 (C.1.2.2.2.2 _ m_441) d_Log_code_29 ?_
    refine lv_goto (tgt := 35) hx hb d_Log_code_31 (by decide +kernel) ?_
    refine lv_iadd hx hb d_Log_code_35 ?_
    obtain ⟨rfl, rfl⟩ := Prod.mk.inj (Option.some.inj h)
    exact xr_iret C X hlk hr d_Log_code_36 rfl (Nat.le_of_ble_eq_true rfl) (Nat.le_of_ble_eq_true rfl)
theorem kc_Log_code (l : Launch) (E : xe) {th : Nat} {r : Int32} (h : kf_Log_code_0 K th = some (r, K')) : Met l y_Log_code (Cond.code y_Log_code b_Log_code 1 (some .int) :: w_all) { frames := 0, cells := 0, slots := 0, locals := 0 } (va_Pc [.ref th] (fun U => xx_B E K M U)) (xq_i E K' M r) 0 0 (xe_A E) :=
  xr_met (by decide) (Nat.le_of_ble_eq_true rfl) fun p e s m below meth c ls C X hlk hr hin hl => kw_Log_code_0 C hlk hr hin X hl h
set_option maxHeartbeats 4000000 in
set_option maxRecDepth 100000 in
theorem kw_ES_log_0 {th : Nat} {x1 : Int32} {r : Int32} (C : xx_C p m c b_ES_log 2 s args Rn_ES E) (hlk : meth.locks = false) (hr : meth.sig.returnType = (some .int)) (hin : meth.name = "log") (X : xx_S E K M s H locs) (hl : lv_has ls 2 [(0, .ref th), (1, .int x1)]) (h : kf_ES_log_0 K th x1 = some (r, K')) : W p l e { frames := 1, cells := 0, slots := 0, locals := 20 } s m args below meth c H locs 0 0 (MQ below (xq_i E K' M r) args s 0 0 (xe_A E)) (F0 m 0 ls []) := by
  have hx := C.1.1
  have hb := C.1.2.1
  unfold kf_ES_log_0 at h
  refine lv_iload_n hx hb d_ES_log_0 rfl (lv_at hl 1 rfl) ?_
  replace h := xpb h
  obtain ⟨r2, K1, hv, h⟩ := h
  refine xr_ki (va_runS (As := [.int x1]) (rest := []) C.1 (kc_ES_isLog l E hv) (cwS 1 C.1.2.2.2.2 (xw_S m_371 m_372 m_106 m_373) rfl rfl rfl ky_ES_isLog ⟨(Nat.le_of_ble_eq_true rfl), (Nat.le_of_ble_eq_true rfl)⟩) (xr_pS C X) rfl rfl hl.1 rfl (lv_room (Nat.le_of_ble_eq_true rfl)) d_ES_log_1 ⟨(Nat.le_of_ble_eq_true rfl), (Nat.le_of_ble_eq_true rfl)⟩) X (fun H locs X => ?_)
  refine lv_if_eq (tgt := 19) hx hb d_ES_log_4 (by decide +kernel) (fun hc => ?_) (fun hc => ?_)
  · rw [if_pos hc] at h
    refine lv_iconst hx hb d_ES_log_19 kn_i_m1 ?_
    obtain ⟨rfl, rfl⟩ := Prod.mk.inj (Option.some.inj h)
    exact xr_iret C X hlk hr d_ES_log_20 rfl (Nat.le_of_ble_eq_true rfl) (Nat.le_of_ble_eq_true rfl)
  · rw [if_neg hc] at h
    refine lv_aload_n hx hb d_ES_log_7 rfl (lv_at hl 0 rfl) ?_
    replace h := xb h
    obtain ⟨v3, hv, h⟩ := h
    refine xr_gr C X xc_ES (by decide) 1 (by decide) (by decide) rfl m_59 d_ES_log_8 hv ?_
    refine lv_iload_n hx hb d_ES_log_11 rfl (lv_at hl 1 rfl) ?_
    replace h := xb h
    obtain ⟨a5, rfl, h⟩ := h
    replace h := xb h
    obtain ⟨v4, hv, h⟩ := h
    refine xr_aald C X 3 (by decide) rfl rfl d_ES_log_12 hv ?_
    replace h := xb h
    obtain ⟨a6, rfl, h⟩ := h
    replace h := xb h
    obtain ⟨_, hO8, h⟩ := h
    replace h := xpb h
    obtain ⟨r9, K7, hv, h⟩ := h
    refine xr_ki (va_runV (As := []) (rest := []) C.1 (kc_Log_code l E hv) (cwV 0 C.1.2.2.2.2 (xw_V m_442 m_443 m_444 m_78 m_445) rfl rfl rfl ky_Log_code ⟨(Nat.le_of_ble_eq_true rfl), (Nat.le_of_ble_eq_true rfl)⟩) (xr_pV C X xc_Log.1 (xk_Xo (xOk hO8) (by decide))) rfl rfl hl.1 rfl (lv_room (Nat.le_of_ble_eq_true rfl)) d_ES_log_13 ⟨(Nat.le_of_ble_eq_true rfl), (Nat.le_of_ble_eq_true rfl)⟩) X (fun H locs X => ?_)
    refine lv_goto (tgt := 20) hx hb d_ES_log_16 (by decide +kernel) ?_
    obtain ⟨rfl, rfl⟩ := Prod.mk.inj (Option.some.inj h)
    exact xr_iret C X hlk hr d_ES_log_20 rfl (Nat.le_of_ble_eq_true rfl) (Nat.le_of_ble_eq_true rfl)
theorem kc_ES_log (l : Launch) (E : xe) {th : Nat} {x1 : Int32} {r : Int32} (h : kf_ES_log_0 K th x1 = some (r, K')) : Met l y_ES_log (Cond.code y_ES_log b_ES_log 2 (some .int) :: w_all) { frames := 1, cells := 0, slots := 0, locals := 20 } (va_Pc [.ref th, .int x1] (fun U => xx_B E K M U)) (xq_i E K' M r) 0 0 (xe_A E) :=
  xr_met (by decide) (Nat.le_of_ble_eq_true rfl) fun p e s m below meth c ls C X hlk hr hin hl => kw_ES_log_0 C hlk hr hin X hl h
set_option maxHeartbeats 4000000 in
set_option maxRecDepth 100000 in
theorem kw_Storage_code_0 {th : Nat} {r : Int32} (C : xx_C p m c b_Storage_code 1 s args Rn_Storage E) (hlk : meth.locks = false) (hr : meth.sig.returnType = (some .int)) (hin : meth.name = "code") (X : xx_S E K M s H locs) (hl : lv_has ls 1 [(0, .ref th)]) (h : kf_Storage_code_0 K th = some (r, K')) : W p l e { frames := 0, cells := 0, slots := 0, locals := 0 } s m args below meth c H locs 0 0 (MQ below (xq_i E K' M r) args s 0 0 (xe_A E)) (F0 m 0 ls []) := by
  have hx := C.1.1
  have hb := C.1.2.1
  unfold kf_Storage_code_0 at h
  refine lv_aload_n hx hb d_Storage_code_0 rfl (lv_at hl 0 rfl) ?_
  replace h := xb h
  obtain ⟨v1, hv, h⟩ := h
  refine xr_gi C X xc_Storage (by decide) 5 (by decide) (by decide) rfl m_147 d_Storage_code_1 hv ?_
  refine lv_sipush hx hb d_Storage_code_4 kn_s_128 ?_
  refine lv_aload_n hx hb d_Storage_code_7 rfl (lv_at hl 0 rfl) ?_
  replace h := xb h
  obtain ⟨v2, hv, h⟩ := h
  refine xr_gi C X xc_Storage (by decide) 2 (by decide) (by decide) rfl m_25 d_Storage_code_8 hv ?_
  refine lv_imul hx hb d_Storage_code_11 ?_
  refine lv_iadd hx hb d_Storage_code_12 ?_
  refine lv_sipush hx hb d_Storage_code_13 kn_s_2048 ?_
  refine lv_aload_n hx hb d_Storage_code_16 rfl (lv_at hl 0 rfl) ?_
  replace h := xb h
  obtain ⟨v3, hv, h⟩ := h
  refine xr_gi C X xc_Storage (by decide) 3 (by decide) (by decide) rfl m_26 d_Storage_code_17 hv ?_
  refine lv_imul hx hb d_Storage_code_20 ?_
  refine lv_iadd hx hb d_Storage_code_21 ?_
  refine lv_aload_n hx hb d_Storage_code_22 rfl (lv_at hl 0 rfl) ?_
  replace h := xb h
  obtain ⟨v4, hv, h⟩ := h
  refine xr_gi C X xc_Storage (by decide) 1 (by decide) (by decide) rfl m_24 d_Storage_code_23 hv ?_
  refine lv_if_eq (tgt := 34) hx hb d_Storage_code_26 (by decide +kernel) (fun hc => ?_) (fun hc => ?_)
  · rw [if_pos hc] at h
    refine lv_iconst hx hb d_Storage_code_34 kn_i_0 ?_
    refine lv_iadd hx hb d_Storage_code_35 ?_
    obtain ⟨rfl, rfl⟩ := Prod.mk.inj (Option.some.inj h)
    exact xr_iret C X hlk hr d_Storage_code_36 rfl (Nat.le_of_ble_eq_true rfl) (Nat.le_of_ble_eq_true rfl)
  · rw [if_neg hc] at h
    refine lv_ldc hx hb C.1.2.2.2.1 (C.1.2.2.2.2 _ m_446) d_Storage_code_29 ?_
    refine lv_goto (tgt := 35) hx hb d_Storage_code_31 (by decide +kernel) ?_
    refine lv_iadd hx hb d_Storage_code_35 ?_
    obtain ⟨rfl, rfl⟩ := Prod.mk.inj (Option.some.inj h)
    exact xr_iret C X hlk hr d_Storage_code_36 rfl (Nat.le_of_ble_eq_true rfl) (Nat.le_of_ble_eq_true rfl)
theorem kc_Storage_code (l : Launch) (E : xe) {th : Nat} {r : Int32} (h : kf_Storage_code_0 K th = some (r, K')) : Met l y_Storage_code (Cond.code y_Storage_code b_Storage_code 1 (some .int) :: w_all) { frames := 0, cells := 0, slots := 0, locals := 0 } (va_Pc [.ref th] (fun U => xx_B E K M U)) (xq_i E K' M r) 0 0 (xe_A E) :=
  xr_met (by decide) (Nat.le_of_ble_eq_true rfl) fun p e s m below meth c ls C X hlk hr hin hl => kw_Storage_code_0 C hlk hr hin X hl h
set_option maxHeartbeats 4000000 in
set_option maxRecDepth 100000 in
theorem kw_ES_storage_0 {th : Nat} {x1 : Int32} {r : Int32} (C : xx_C p m c b_ES_storage 2 s args Rn_ES E) (hlk : meth.locks = false) (hr : meth.sig.returnType = (some .int)) (hin : meth.name = "storage") (X : xx_S E K M s H locs) (hl : lv_has ls 2 [(0, .ref th), (1, .int x1)]) (h : kf_ES_storage_0 K th x1 = some (r, K')) : W p l e { frames := 1, cells := 0, slots := 0, locals := 20 } s m args below meth c H locs 0 0 (MQ below (xq_i E K' M r) args s 0 0 (xe_A E)) (F0 m 0 ls []) := by
  have hx := C.1.1
  have hb := C.1.2.1
  unfold kf_ES_storage_0 at h
  refine lv_iload_n hx hb d_ES_storage_0 rfl (lv_at hl 1 rfl) ?_
  replace h := xpb h
  obtain ⟨r2, K1, hv, h⟩ := h
  refine xr_ki (va_runS (As := [.int x1]) (rest := []) C.1 (kc_ES_isStorage l E hv) (cwS 1 C.1.2.2.2.2 (xw_S m_374 m_375 m_106 m_376) rfl rfl rfl ky_ES_isStorage ⟨(Nat.le_of_ble_eq_true rfl), (Nat.le_of_ble_eq_true rfl)⟩) (xr_pS C X) rfl rfl hl.1 rfl (lv_room (Nat.le_of_ble_eq_true rfl)) d_ES_storage_1 ⟨(Nat.le_of_ble_eq_true rfl), (Nat.le_of_ble_eq_true rfl)⟩) X (fun H locs X => ?_)
  refine lv_if_eq (tgt := 19) hx hb d_ES_storage_4 (by decide +kernel) (fun hc => ?_) (fun hc => ?_)
  · rw [if_pos hc] at h
    refine lv_iconst hx hb d_ES_storage_19 kn_i_m1 ?_
    obtain ⟨rfl, rfl⟩ := Prod.mk.inj (Option.some.inj h)
    exact xr_iret C X hlk hr d_ES_storage_20 rfl (Nat.le_of_ble_eq_true rfl) (Nat.le_of_ble_eq_true rfl)
  · rw [if_neg hc] at h
    refine lv_aload_n hx hb d_ES_storage_7 rfl (lv_at hl 0 rfl) ?_
    replace h := xb h
    obtain ⟨v3, hv, h⟩ := h
    refine xr_gr C X xc_ES (by decide) 2 (by decide) (by decide) rfl m_61 d_ES_storage_8 hv ?_
    refine lv_iload_n hx hb d_ES_storage_11 rfl (lv_at hl 1 rfl) ?_
    replace h := xb h
    obtain ⟨a5, rfl, h⟩ := h
    replace h := xb h
    obtain ⟨v4, hv, h⟩ := h
    refine xr_aald C X 4 (by decide) rfl rfl d_ES_storage_12 hv ?_
    replace h := xb h
    obtain ⟨a6, rfl, h⟩ := h
    replace h := xb h
    obtain ⟨_, hO8, h⟩ := h
    replace h := xpb h
    obtain ⟨r9, K7, hv, h⟩ := h
    refine xr_ki (va_runV (As := []) (rest := []) C.1 (kc_Storage_code l E hv) (cwV 0 C.1.2.2.2.2 (xw_V m_447 m_448 m_449 m_83 m_450) rfl rfl rfl ky_Storage_code ⟨(Nat.le_of_ble_eq_true rfl), (Nat.le_of_ble_eq_true rfl)⟩) (xr_pV C X xc_Storage.1 (xk_Xo (xOk hO8) (by decide))) rfl rfl hl.1 rfl (lv_room (Nat.le_of_ble_eq_true rfl)) d_ES_storage_13 ⟨(Nat.le_of_ble_eq_true rfl), (Nat.le_of_ble_eq_true rfl)⟩) X (fun H locs X => ?_)
    refine lv_goto (tgt := 20) hx hb d_ES_storage_16 (by decide +kernel) ?_
    obtain ⟨rfl, rfl⟩ := Prod.mk.inj (Option.some.inj h)
    exact xr_iret C X hlk hr d_ES_storage_20 rfl (Nat.le_of_ble_eq_true rfl) (Nat.le_of_ble_eq_true rfl)
theorem kc_ES_storage (l : Launch) (E : xe) {th : Nat} {x1 : Int32} {r : Int32} (h : kf_ES_storage_0 K th x1 = some (r, K')) : Met l y_ES_storage (Cond.code y_ES_storage b_ES_storage 2 (some .int) :: w_all) { frames := 1, cells := 0, slots := 0, locals := 20 } (va_Pc [.ref th, .int x1] (fun U => xx_B E K M U)) (xq_i E K' M r) 0 0 (xe_A E) :=
  xr_met (by decide) (Nat.le_of_ble_eq_true rfl) fun p e s m below meth c ls C X hlk hr hin hl => kw_ES_storage_0 C hlk hr hin X hl h
set_option maxHeartbeats 4000000 in
set_option maxRecDepth 100000 in
theorem kw_Master_code_0 {th : Nat} {r : Int32} (C : xx_C p m c b_Master_code 1 s args Rn_Master E) (hlk : meth.locks = false) (hr : meth.sig.returnType = (some .int)) (hin : meth.name = "code") (X : xx_S E K M s H locs) (hl : lv_has ls 1 [(0, .ref th)]) (h : kf_Master_code_0 K th = some (r, K')) : W p l e { frames := 0, cells := 0, slots := 0, locals := 0 } s m args below meth c H locs 0 0 (MQ below (xq_i E K' M r) args s 0 0 (xe_A E)) (F0 m 0 ls []) := by
  have hx := C.1.1
  have hb := C.1.2.1
  unfold kf_Master_code_0 at h
  refine lv_aload_n hx hb d_Master_code_0 rfl (lv_at hl 0 rfl) ?_
  replace h := xb h
  obtain ⟨v1, hv, h⟩ := h
  refine xr_gi C X xc_Master (by decide) 8 (by decide) (by decide) rfl m_238 d_Master_code_1 hv ?_
  refine lv_bipush hx hb d_Master_code_4 kn_b_16 ?_
  refine lv_aload_n hx hb d_Master_code_6 rfl (lv_at hl 0 rfl) ?_
  replace h := xb h
  obtain ⟨v2, hv, h⟩ := h
  refine xr_gi C X xc_Master (by decide) 11 (by decide) (by decide) rfl m_301 d_Master_code_7 hv ?_
  refine lv_imul hx hb d_Master_code_10 ?_
  refine lv_iadd hx hb d_Master_code_11 ?_
  refine lv_sipush hx hb d_Master_code_12 kn_s_256 ?_
  refine lv_aload_n hx hb d_Master_code_15 rfl (lv_at hl 0 rfl) ?_
  replace h := xb h
  obtain ⟨v3, hv, h⟩ := h
  refine xr_gi C X xc_Master (by decide) 3 (by decide) (by decide) rfl m_52 d_Master_code_16 hv ?_
  refine lv_imul hx hb d_Master_code_19 ?_
  refine lv_iadd hx hb d_Master_code_20 ?_
  obtain ⟨rfl, rfl⟩ := Prod.mk.inj (Option.some.inj h)
  exact xr_iret C X hlk hr d_Master_code_21 rfl (Nat.le_of_ble_eq_true rfl) (Nat.le_of_ble_eq_true rfl)
theorem kc_Master_code (l : Launch) (E : xe) {th : Nat} {r : Int32} (h : kf_Master_code_0 K th = some (r, K')) : Met l y_Master_code (Cond.code y_Master_code b_Master_code 1 (some .int) :: w_all) { frames := 0, cells := 0, slots := 0, locals := 0 } (va_Pc [.ref th] (fun U => xx_B E K M U)) (xq_i E K' M r) 0 0 (xe_A E) :=
  xr_met (by decide) (Nat.le_of_ble_eq_true rfl) fun p e s m below meth c ls C X hlk hr hin hl => kw_Master_code_0 C hlk hr hin X hl h
set_option maxHeartbeats 4000000 in
set_option maxRecDepth 100000 in
theorem kw_ES_master_0 {th : Nat} {x1 : Int32} {r : Int32} (C : xx_C p m c b_ES_master 2 s args Rn_ES E) (hlk : meth.locks = false) (hr : meth.sig.returnType = (some .int)) (hin : meth.name = "master") (X : xx_S E K M s H locs) (hl : lv_has ls 2 [(0, .ref th), (1, .int x1)]) (h : kf_ES_master_0 K th x1 = some (r, K')) : W p l e { frames := 1, cells := 0, slots := 0, locals := 21 } s m args below meth c H locs 0 0 (MQ below (xq_i E K' M r) args s 0 0 (xe_A E)) (F0 m 0 ls []) := by
  have hx := C.1.1
  have hb := C.1.2.1
  unfold kf_ES_master_0 at h
  refine lv_aload_n hx hb d_ES_master_0 rfl (lv_at hl 0 rfl) ?_
  refine lv_iload_n hx hb d_ES_master_1 rfl (lv_at hl 1 rfl) ?_
  replace h := xb h
  obtain ⟨_, hO2, h⟩ := h
  replace h := xpb h
  obtain ⟨r3, K1, hv, h⟩ := h
  refine xr_ki (va_runV (As := [.int x1]) (rest := []) C.1 (kc_ES_isMaster l E hv) (cwV 1 C.1.2.2.2.2 (xw_V m_356 m_357 m_358 m_106 m_359) rfl rfl rfl ky_ES_isMaster ⟨(Nat.le_of_ble_eq_true rfl), (Nat.le_of_ble_eq_true rfl)⟩) (xr_pV C X xc_ES.1 (xk_Xo (xOk hO2) (by decide))) rfl rfl hl.1 rfl (lv_room (Nat.le_of_ble_eq_true rfl)) d_ES_master_2 ⟨(Nat.le_of_ble_eq_true rfl), (Nat.le_of_ble_eq_true rfl)⟩) X (fun H locs X => ?_)
  refine lv_if_eq (tgt := 20) hx hb d_ES_master_5 (by decide +kernel) (fun hc => ?_) (fun hc => ?_)
  · rw [if_pos hc] at h
    refine lv_iconst hx hb d_ES_master_20 kn_i_m1 ?_
    obtain ⟨rfl, rfl⟩ := Prod.mk.inj (Option.some.inj h)
    exact xr_iret C X hlk hr d_ES_master_21 rfl (Nat.le_of_ble_eq_true rfl) (Nat.le_of_ble_eq_true rfl)
  · rw [if_neg hc] at h
    refine lv_aload_n hx hb d_ES_master_8 rfl (lv_at hl 0 rfl) ?_
    replace h := xb h
    obtain ⟨v4, hv, h⟩ := h
    refine xr_gr C X xc_ES (by decide) 4 (by decide) (by decide) rfl m_65 d_ES_master_9 hv ?_
    refine lv_iload_n hx hb d_ES_master_12 rfl (lv_at hl 1 rfl) ?_
    replace h := xb h
    obtain ⟨a6, rfl, h⟩ := h
    replace h := xb h
    obtain ⟨v5, hv, h⟩ := h
    refine xr_aald C X 6 (by decide) rfl rfl d_ES_master_13 hv ?_
    replace h := xb h
    obtain ⟨a7, rfl, h⟩ := h
    replace h := xb h
    obtain ⟨_, hO9, h⟩ := h
    replace h := xpb h
    obtain ⟨r10, K8, hv, h⟩ := h
    refine xr_ki (va_runV (As := []) (rest := []) C.1 (kc_Master_code l E hv) (cwV 0 C.1.2.2.2.2 (xw_V m_451 m_452 m_453 m_93 m_454) rfl rfl rfl ky_Master_code ⟨(Nat.le_of_ble_eq_true rfl), (Nat.le_of_ble_eq_true rfl)⟩) (xr_pV C X xc_Master.1 (xk_Xo (xOk hO9) (by decide))) rfl rfl hl.1 rfl (lv_room (Nat.le_of_ble_eq_true rfl)) d_ES_master_14 ⟨(Nat.le_of_ble_eq_true rfl), (Nat.le_of_ble_eq_true rfl)⟩) X (fun H locs X => ?_)
    refine lv_goto (tgt := 21) hx hb d_ES_master_17 (by decide +kernel) ?_
    obtain ⟨rfl, rfl⟩ := Prod.mk.inj (Option.some.inj h)
    exact xr_iret C X hlk hr d_ES_master_21 rfl (Nat.le_of_ble_eq_true rfl) (Nat.le_of_ble_eq_true rfl)
theorem kc_ES_master (l : Launch) (E : xe) {th : Nat} {x1 : Int32} {r : Int32} (h : kf_ES_master_0 K th x1 = some (r, K')) : Met l y_ES_master (Cond.code y_ES_master b_ES_master 2 (some .int) :: w_all) { frames := 1, cells := 0, slots := 0, locals := 21 } (va_Pc [.ref th, .int x1] (fun U => xx_B E K M U)) (xq_i E K' M r) 0 0 (xe_A E) :=
  xr_met (by decide) (Nat.le_of_ble_eq_true rfl) fun p e s m below meth c ls C X hlk hr hin hl => kw_ES_master_0 C hlk hr hin X hl h
set_option maxHeartbeats 4000000 in
set_option maxRecDepth 100000 in
theorem kw_ES_committed_0 {th : Nat} {x1 : Int32} {r : Int32} (C : xx_C p m c b_ES_committed 2 s args Rn_ES E) (hlk : meth.locks = false) (hr : meth.sig.returnType = (some .int)) (hin : meth.name = "committed") (X : xx_S E K M s H locs) (hl : lv_has ls 2 [(0, .ref th), (1, .int x1)]) (h : kf_ES_committed_0 K th x1 = some (r, K')) : W p l e { frames := 1, cells := 0, slots := 0, locals := 21 } s m args below meth c H locs 0 0 (MQ below (xq_i E K' M r) args s 0 0 (xe_A E)) (F0 m 0 ls []) := by
  have hx := C.1.1
  have hb := C.1.2.1
  unfold kf_ES_committed_0 at h
  refine lv_aload_n hx hb d_ES_committed_0 rfl (lv_at hl 0 rfl) ?_
  refine lv_iload_n hx hb d_ES_committed_1 rfl (lv_at hl 1 rfl) ?_
  replace h := xb h
  obtain ⟨_, hO2, h⟩ := h
  replace h := xpb h
  obtain ⟨r3, K1, hv, h⟩ := h
  refine xr_ki (va_runV (As := [.int x1]) (rest := []) C.1 (kc_ES_isMaster l E hv) (cwV 1 C.1.2.2.2.2 (xw_V m_356 m_357 m_358 m_106 m_359) rfl rfl rfl ky_ES_isMaster ⟨(Nat.le_of_ble_eq_true rfl), (Nat.le_of_ble_eq_true rfl)⟩) (xr_pV C X xc_ES.1 (xk_Xo (xOk hO2) (by decide))) rfl rfl hl.1 rfl (lv_room (Nat.le_of_ble_eq_true rfl)) d_ES_committed_2 ⟨(Nat.le_of_ble_eq_true rfl), (Nat.le_of_ble_eq_true rfl)⟩) X (fun H locs X => ?_)
  refine lv_if_eq (tgt := 20) hx hb d_ES_committed_5 (by decide +kernel) (fun hc => ?_) (fun hc => ?_)
  · rw [if_pos hc] at h
    refine lv_iconst hx hb d_ES_committed_20 kn_i_m1 ?_
    obtain ⟨rfl, rfl⟩ := Prod.mk.inj (Option.some.inj h)
    exact xr_iret C X hlk hr d_ES_committed_21 rfl (Nat.le_of_ble_eq_true rfl) (Nat.le_of_ble_eq_true rfl)
  · rw [if_neg hc] at h
    refine lv_aload_n hx hb d_ES_committed_8 rfl (lv_at hl 0 rfl) ?_
    replace h := xb h
    obtain ⟨v4, hv, h⟩ := h
    refine xr_gr C X xc_ES (by decide) 4 (by decide) (by decide) rfl m_65 d_ES_committed_9 hv ?_
    refine lv_iload_n hx hb d_ES_committed_12 rfl (lv_at hl 1 rfl) ?_
    replace h := xb h
    obtain ⟨a6, rfl, h⟩ := h
    replace h := xb h
    obtain ⟨v5, hv, h⟩ := h
    refine xr_aald C X 6 (by decide) rfl rfl d_ES_committed_13 hv ?_
    replace h := xb h
    obtain ⟨a7, rfl, h⟩ := h
    replace h := xb h
    obtain ⟨v8, hv, h⟩ := h
    refine xr_gi C X xc_Master (by decide) 5 (by decide) (by decide) rfl m_455 d_ES_committed_14 hv ?_
    refine lv_goto (tgt := 21) hx hb d_ES_committed_17 (by decide +kernel) ?_
    obtain ⟨rfl, rfl⟩ := Prod.mk.inj (Option.some.inj h)
    exact xr_iret C X hlk hr d_ES_committed_21 rfl (Nat.le_of_ble_eq_true rfl) (Nat.le_of_ble_eq_true rfl)
theorem kc_ES_committed (l : Launch) (E : xe) {th : Nat} {x1 : Int32} {r : Int32} (h : kf_ES_committed_0 K th x1 = some (r, K')) : Met l y_ES_committed (Cond.code y_ES_committed b_ES_committed 2 (some .int) :: w_all) { frames := 1, cells := 0, slots := 0, locals := 21 } (va_Pc [.ref th, .int x1] (fun U => xx_B E K M U)) (xq_i E K' M r) 0 0 (xe_A E) :=
  xr_met (by decide) (Nat.le_of_ble_eq_true rfl) fun p e s m below meth c ls C X hlk hr hin hl => kw_ES_committed_0 C hlk hr hin X hl h
set_option maxHeartbeats 4000000 in
set_option maxRecDepth 100000 in
theorem kw_Coordinator_code_0 {th : Nat} {r : Int32} (C : xx_C p m c b_Coordinator_code 1 s args Rn_Coordinator E) (hlk : meth.locks = false) (hr : meth.sig.returnType = (some .int)) (hin : meth.name = "code") (X : xx_S E K M s H locs) (hl : lv_has ls 1 [(0, .ref th)]) (h : kf_Coordinator_code_0 K th = some (r, K')) : W p l e { frames := 0, cells := 0, slots := 0, locals := 0 } s m args below meth c H locs 0 0 (MQ below (xq_i E K' M r) args s 0 0 (xe_A E)) (F0 m 0 ls []) := by
  have hx := C.1.1
  have hb := C.1.2.1
  unfold kf_Coordinator_code_0 at h
  refine lv_aload_n hx hb d_Coordinator_code_0 rfl (lv_at hl 0 rfl) ?_
  replace h := xb h
  obtain ⟨v1, hv, h⟩ := h
  refine xr_gi C X xc_Coordinator (by decide) 1 (by decide) (by decide) rfl m_13 d_Coordinator_code_1 hv ?_
  refine lv_aload_n hx hb d_Coordinator_code_4 rfl (lv_at hl 0 rfl) ?_
  replace h := xb h
  obtain ⟨v2, hv, h⟩ := h
  refine xr_gi C X xc_Coordinator (by decide) 0 (by decide) (by decide) rfl m_12 d_Coordinator_code_5 hv ?_
  refine lv_if_eq (tgt := 16) hx hb d_Coordinator_code_8 (by decide +kernel) (fun hc => ?_) (fun hc => ?_)
  · rw [if_pos hc] at h
    refine lv_iconst hx hb d_Coordinator_code_16 kn_i_0 ?_
    refine lv_iadd hx hb d_Coordinator_code_17 ?_
    obtain ⟨rfl, rfl⟩ := Prod.mk.inj (Option.some.inj h)
    exact xr_iret C X hlk hr d_Coordinator_code_18 rfl (Nat.le_of_ble_eq_true rfl) (Nat.le_of_ble_eq_true rfl)
  · rw [if_neg hc] at h
    refine lv_bipush hx hb d_Coordinator_code_11 kn_b_16 ?_
    refine lv_goto (tgt := 17) hx hb d_Coordinator_code_13 (by decide +kernel) ?_
    refine lv_iadd hx hb d_Coordinator_code_17 ?_
    obtain ⟨rfl, rfl⟩ := Prod.mk.inj (Option.some.inj h)
    exact xr_iret C X hlk hr d_Coordinator_code_18 rfl (Nat.le_of_ble_eq_true rfl) (Nat.le_of_ble_eq_true rfl)
theorem kc_Coordinator_code (l : Launch) (E : xe) {th : Nat} {r : Int32} (h : kf_Coordinator_code_0 K th = some (r, K')) : Met l y_Coordinator_code (Cond.code y_Coordinator_code b_Coordinator_code 1 (some .int) :: w_all) { frames := 0, cells := 0, slots := 0, locals := 0 } (va_Pc [.ref th] (fun U => xx_B E K M U)) (xq_i E K' M r) 0 0 (xe_A E) :=
  xr_met (by decide) (Nat.le_of_ble_eq_true rfl) fun p e s m below meth c ls C X hlk hr hin hl => kw_Coordinator_code_0 C hlk hr hin X hl h
set_option maxHeartbeats 4000000 in
set_option maxRecDepth 100000 in
theorem kw_ES_coordinator_0 {th : Nat} {x1 : Int32} {r : Int32} (C : xx_C p m c b_ES_coordinator 2 s args Rn_ES E) (hlk : meth.locks = false) (hr : meth.sig.returnType = (some .int)) (hin : meth.name = "coordinator") (X : xx_S E K M s H locs) (hl : lv_has ls 2 [(0, .ref th), (1, .int x1)]) (h : kf_ES_coordinator_0 K th x1 = some (r, K')) : W p l e { frames := 1, cells := 0, slots := 0, locals := 20 } s m args below meth c H locs 0 0 (MQ below (xq_i E K' M r) args s 0 0 (xe_A E)) (F0 m 0 ls []) := by
  have hx := C.1.1
  have hb := C.1.2.1
  unfold kf_ES_coordinator_0 at h
  refine lv_iload_n hx hb d_ES_coordinator_0 rfl (lv_at hl 1 rfl) ?_
  replace h := xpb h
  obtain ⟨r2, K1, hv, h⟩ := h
  refine xr_ki (va_runS (As := [.int x1]) (rest := []) C.1 (kc_ES_isCoordinator l E hv) (cwS 1 C.1.2.2.2.2 (xw_S m_368 m_369 m_106 m_370) rfl rfl rfl ky_ES_isCoordinator ⟨(Nat.le_of_ble_eq_true rfl), (Nat.le_of_ble_eq_true rfl)⟩) (xr_pS C X) rfl rfl hl.1 rfl (lv_room (Nat.le_of_ble_eq_true rfl)) d_ES_coordinator_1 ⟨(Nat.le_of_ble_eq_true rfl), (Nat.le_of_ble_eq_true rfl)⟩) X (fun H locs X => ?_)
  refine lv_if_eq (tgt := 19) hx hb d_ES_coordinator_4 (by decide +kernel) (fun hc => ?_) (fun hc => ?_)
  · rw [if_pos hc] at h
    refine lv_iconst hx hb d_ES_coordinator_19 kn_i_m1 ?_
    obtain ⟨rfl, rfl⟩ := Prod.mk.inj (Option.some.inj h)
    exact xr_iret C X hlk hr d_ES_coordinator_20 rfl (Nat.le_of_ble_eq_true rfl) (Nat.le_of_ble_eq_true rfl)
  · rw [if_neg hc] at h
    refine lv_aload_n hx hb d_ES_coordinator_7 rfl (lv_at hl 0 rfl) ?_
    replace h := xb h
    obtain ⟨v3, hv, h⟩ := h
    refine xr_gr C X xc_ES (by decide) 0 (by decide) (by decide) rfl m_57 d_ES_coordinator_8 hv ?_
    refine lv_iload_n hx hb d_ES_coordinator_11 rfl (lv_at hl 1 rfl) ?_
    replace h := xb h
    obtain ⟨a5, rfl, h⟩ := h
    replace h := xb h
    obtain ⟨v4, hv, h⟩ := h
    refine xr_aald C X 2 (by decide) rfl rfl d_ES_coordinator_12 hv ?_
    replace h := xb h
    obtain ⟨a6, rfl, h⟩ := h
    replace h := xb h
    obtain ⟨_, hO8, h⟩ := h
    replace h := xpb h
    obtain ⟨r9, K7, hv, h⟩ := h
    refine xr_ki (va_runV (As := []) (rest := []) C.1 (kc_Coordinator_code l E hv) (cwV 0 C.1.2.2.2.2 (xw_V m_456 m_457 m_458 m_74 m_459) rfl rfl rfl ky_Coordinator_code ⟨(Nat.le_of_ble_eq_true rfl), (Nat.le_of_ble_eq_true rfl)⟩) (xr_pV C X xc_Coordinator.1 (xk_Xo (xOk hO8) (by decide))) rfl rfl hl.1 rfl (lv_room (Nat.le_of_ble_eq_true rfl)) d_ES_coordinator_13 ⟨(Nat.le_of_ble_eq_true rfl), (Nat.le_of_ble_eq_true rfl)⟩) X (fun H locs X => ?_)
    refine lv_goto (tgt := 20) hx hb d_ES_coordinator_16 (by decide +kernel) ?_
    obtain ⟨rfl, rfl⟩ := Prod.mk.inj (Option.some.inj h)
    exact xr_iret C X hlk hr d_ES_coordinator_20 rfl (Nat.le_of_ble_eq_true rfl) (Nat.le_of_ble_eq_true rfl)
theorem kc_ES_coordinator (l : Launch) (E : xe) {th : Nat} {x1 : Int32} {r : Int32} (h : kf_ES_coordinator_0 K th x1 = some (r, K')) : Met l y_ES_coordinator (Cond.code y_ES_coordinator b_ES_coordinator 2 (some .int) :: w_all) { frames := 1, cells := 0, slots := 0, locals := 20 } (va_Pc [.ref th, .int x1] (fun U => xx_B E K M U)) (xq_i E K' M r) 0 0 (xe_A E) :=
  xr_met (by decide) (Nat.le_of_ble_eq_true rfl) fun p e s m below meth c ls C X hlk hr hin hl => kw_ES_coordinator_0 C hlk hr hin X hl h
end KW11
