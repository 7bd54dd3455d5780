/-! EpochStore$Message.reset(III)V -/
def kf_Message_reset_40 (K : xk) (th : Nat) : Option xk := (xRs K 4 8 th none).bind fun K1 => (xRs K1 4 9 th none).bind fun K2 => some K2
def kf_Message_reset_0 (K : xk) (th : Nat) (x1 : Int32) (x2 : Int32) (x3 : Int32) : Option xk := (xIs K 4 0 th x1).bind fun K1 => (xIs K1 4 1 th x2).bind fun K2 => (xIs K2 4 2 th x3).bind fun K3 => (xIs K3 4 3 th (0 : Int32)).bind fun K4 => (xIs K4 4 4 th (0 : Int32)).bind fun K5 => (xIs K5 4 5 th (0 : Int32)).bind fun K6 => (xIs K6 4 6 th (0 : Int32)).bind fun K7 => (xIs K7 4 7 th (0 : Int32)).bind fun K8 => kf_Message_reset_40 K8 th
/-! EpochStore$Line.send(III)LEpochStore$Message; -/
def kf_Line_send_36 (K : xk) (x1 : Int32) (x2 : Int32) (x3 : Int32) (x4 : Option Nat) : Option (Option Nat × xk) := (x4).bind fun a1 => (xO K 4 a1).bind fun _ => (kf_Message_reset_0 K a1 x1 x2 x3).bind fun K2 => some ((some a1), K2)
def kf_Line_send_0 (K : xk) (th : Nat) (x1 : Int32) (x2 : Int32) (x3 : Int32) : Option (Option Nat × xk) := (xR K 5 1 th).bind fun v1 => (xI K 5 2 th).bind fun v2 => if (24 : Int32) ≤ v2 then (kf_Line_send_36 K x1 x2 x3 v1) else (xR K 5 0 th).bind fun v3 => (xI K 5 2 th).bind fun v4 => (v3).bind fun a6 => (xRa K 7 a6 v4).bind fun v5 => (xI K 5 2 th).bind fun v7 => (xIs K 5 2 th (v7 + (1 : Int32))).bind fun K8 => kf_Line_send_36 K8 x1 x2 x3 v5
/-! EpochStore$Client.ask(LEpochStore$Line;)V -/
def kf_Client_ask_49 (K : xk) (th : Nat) (x1 : Nat) : Option xk := (xI K 11 0 th).bind fun v1 => (xI K 11 1 th).bind fun v2 => (xO K 5 x1).bind fun _ => xp (kf_Line_send_0 K x1 (1 : Int32) v1 v2) fun r5 K3 => (xI K3 11 2 th).bind fun v6 => (r5).bind fun a7 => (xIs K3 4 4 a7 v6).bind fun K8 => some K8
def kf_Client_ask_0 (K : xk) (th : Nat) (x1 : Nat) : Option xk := (xI K 11 2 th).bind fun v1 => (xIs K 11 2 th (v1 + (1 : Int32))).bind fun K2 => (xIs K2 11 3 th (1 : Int32)).bind fun K3 => (xI K3 11 1 th).bind fun v4 => (xIs K3 11 4 th v4).bind fun K5 => (xIs K5 11 5 th (0 : Int32)).bind fun K6 => (xIs K6 11 6 th (0 : Int32)).bind fun K7 => (xIs K7 11 7 th (0 : Int32)).bind fun K8 => xp (xNw K8 3 0) fun q9 K10 => (kf_Writes_init_0 K10 q9).bind fun K11 => (xRs K11 11 8 th (some q9)).bind fun K12 => kf_Client_ask_49 K12 th x1
/-! EpochStore.begin(I)Z -/
def kf_ES_begin_0 (K : xk) (th : Nat) (x1 : Int32) : Option (Int32 × xk) := xp (kf_ES_isClient_0 K x1) fun r2 K1 => if r2 = 0 then (some ((0 : Int32), K1)) else (xR K1 0 3 th).bind fun v3 => (v3).bind fun a5 => (xRa K1 5 a5 x1).bind fun v4 => (v4).bind fun a6 => (xO K1 11 a6).bind fun _ => xp (kf_Client_isBusy_0 K1 a6) fun r9 K7 => if r9 = 0 then ((xR K7 0 3 th).bind fun v10 => (v10).bind fun a12 => (xRa K7 5 a12 x1).bind fun v11 => (xR K7 0 5 th).bind fun v13 => (v11).bind fun a14 => (v13).bind fun a15 => (xO K7 11 a14).bind fun _ => (kf_Client_ask_0 K7 a14 a15).bind fun K16 => some ((1 : Int32), K16)) else some ((0 : Int32), K7)
/-! EpochStore.isOpen(I)Z -/
def kf_ES_isOpen_0 (K : xk) (th : Nat) (x1 : Int32) : Option (Int32 × xk) := xp (kf_ES_isClient_0 K x1) fun r2 K1 => if r2 = 0 then (some ((0 : Int32), K1)) else (xR K1 0 3 th).bind fun v3 => (v3).bind fun a5 => (xRa K1 5 a5 x1).bind fun v4 => (v4).bind fun a6 => (xI K1 11 3 a6).bind fun v7 => if v7 = (2 : Int32) then (some ((1 : Int32), K1)) else some ((0 : Int32), K1)
/-! EpochStore.isKey(I)Z -/
def kf_ES_isKey_0 (K : xk) (x0 : Int32) : Option (Int32 × xk) := if x0 < 0 then (some ((0 : Int32), K)) else if (8 : Int32) ≤ x0 then (some ((0 : Int32), K)) else some ((1 : Int32), K)
/-! EpochStore$Writes.has(I)Z -/
def kf_Writes_has_0 (K : xk) (th : Nat) (x1 : Int32) : Option (Int32 × xk) := (xI K 2 0 th).bind fun v1 => if (v1 &&& ((1 : Int32) <<< (x1 &&& 31))) = 0 then (some ((0 : Int32), K)) else some ((1 : Int32), K)
/-! EpochStore$Storage.valueAt(III)J -/
def kf_Storage_valueAt_107 (rec54 : xk → Nat → Int32 → Int32 → Int32 → Option (Int64 × xk)) (K : xk) (th : Nat) (x1 : Int32) (x2 : Int32) (x4 : Int32) : Option (Int64 × xk) := rec54 K th x1 x2 (x4 + (-1 : Int32))
def kb_Storage_valueAt_54 (rec54 : xk → Nat → Int32 → Int32 → Int32 → Option (Int64 × xk)) (K : xk) (th : Nat) (x1 : Int32) (x2 : Int32) (x4 : Int32) : Option (Int64 × xk) := if x4 < 0 then (some ((0 : Int64), K)) else (xR K 10 4 th).bind fun v1 => (v1).bind fun a3 => (xRa K 8 a3 x4).bind fun v2 => (v2).bind fun a4 => (xI K 3 0 a4).bind fun v5 => if x2 < v5 then (kf_Storage_valueAt_107 rec54 K th x1 x2 x4) else (xR K 10 4 th).bind fun v6 => (v6).bind fun a8 => (xRa K 8 a8 x4).bind fun v7 => (v7).bind fun a9 => (xR K 3 2 a9).bind fun v10 => (v10).bind fun a11 => (xO K 2 a11).bind fun _ => xp (kf_Writes_has_0 K a11 x1) fun r14 K12 => if r14 = 0 then (kf_Storage_valueAt_107 rec54 K12 th x1 x2 x4) else (xR K12 10 4 th).bind fun v15 => (v15).bind fun a17 => (xRa K12 8 a17 x4).bind fun v16 => (v16).bind fun a18 => (xR K12 3 2 a18).bind fun v19 => (v19).bind fun a20 => (xR K12 2 1 a20).bind fun v21 => (v21).bind fun a23 => (xIa K12 0 a23 x1).bind fun v22 => some ((Int32.toInt64 v22), K12)
def kf_Storage_valueAt_54 : Nat → xk → Nat → Int32 → Int32 → Int32 → Option (Int64 × xk)
  | 0 => fun _ _ _ _ _ => none
  | n + 1 => kb_Storage_valueAt_54 (kf_Storage_valueAt_54 n)
def kf_Storage_valueAt_0 (K : xk) (th : Nat) (x1 : Int32) (x2 : Int32) (x3 : Int32) : Option (Int64 × xk) := (xI K 10 1 th).bind fun v1 => if v1 = 0 then (some ((1099511627776 : Int64), K)) else (xI K 10 3 th).bind fun v2 => if v2 < x2 then (some ((1099511627777 : Int64), K)) else (xI K 10 2 th).bind fun v3 => if x3 ≤ v3 then ((xI K 10 3 th).bind fun v4 => if (v4 - (12 : Int32)) ≤ x2 then ((xI K 10 5 th).bind fun v5 => kf_Storage_valueAt_54 1000 K th x1 x2 (v5 - (1 : Int32))) else some ((1099511627778 : Int64), K)) else some ((1099511627777 : Int64), K)
/-! EpochStore.valueFor(LEpochStore$Client;I)J -/
def kf_ES_valueFor_0 (K : xk) (th : Nat) (x1 : Nat) (x2 : Int32) : Option (Int64 × xk) := (xR K 11 8 x1).bind fun v1 => (v1).bind fun a2 => (xO K 2 a2).bind fun _ => xp (kf_Writes_has_0 K a2 x2) fun r5 K3 => if r5 = 0 then ((xR K3 0 2 th).bind fun v6 => (v6).bind fun a8 => (xRa K3 4 a8 (x2 / (4 : Int32))).bind fun v7 => (xI K3 11 5 x1).bind fun v9 => (xI K3 11 4 x1).bind fun v10 => (v7).bind fun a11 => (xO K3 10 a11).bind fun _ => xp (kf_Storage_valueAt_0 K3 a11 x2 v9 v10) fun r14 K12 => some (r14, K12)) else (xR K3 11 8 x1).bind fun v15 => (v15).bind fun a16 => (xR K3 2 1 a16).bind fun v17 => (v17).bind fun a19 => (xIa K3 0 a19 x2).bind fun v18 => some ((Int32.toInt64 v18), K3)
/-! EpochStore.isValue(J)Z -/
def kf_ES_isValue_0 (K : xk) (x0 : Int64) : Option (Int32 × xk) := if 0 ≤ (lg_cmp x0 (1099511627776 : Int64)) then (some ((0 : Int32), K)) else some ((1 : Int32), K)
/-! EpochStore$Client.noteUnwritten(I)V -/
def kf_Client_noteUnwritten_0 (K : xk) (th : Nat) (x1 : Int32) : Option xk := (xR K 11 8 th).bind fun v1 => (v1).bind fun a2 => (xO K 2 a2).bind fun _ => xp (kf_Writes_has_0 K a2 x1) fun r5 K3 => if r5 = 0 then ((xI K3 11 7 th).bind fun v6 => (xIs K3 11 7 th (v6 ||| ((1 : Int32) <<< (x1 &&& 31)))).bind fun K7 => some K7) else some K3
/-! EpochStore.read(II)J -/
def kf_ES_read_48 (K : xk) (x3 : Int64) : Option (Int64 × xk) := some (x3, K)
def kf_ES_read_0 (K : xk) (th : Nat) (x1 : Int32) (x2 : Int32) : Option (Int64 × xk) := (xO K 0 th).bind fun _ => xp (kf_ES_isOpen_0 K th x1) fun r3 K1 => if r3 = 0 then (some ((-1 : Int64), K1)) else xp (kf_ES_isKey_0 K1 x2) fun r5 K4 => if r5 = 0 then (some ((-1 : Int64), K4)) else (xR K4 0 3 th).bind fun v6 => (v6).bind fun a8 => (xRa K4 5 a8 x1).bind fun v7 => (v7).bind fun a9 => (xO K4 0 th).bind fun _ => xp (kf_ES_valueFor_0 K4 th a9 x2) fun r12 K10 => xp (kf_ES_isValue_0 K10 r12) fun r14 K13 => if r14 = 0 then (kf_ES_read_48 K13 r12) else (xR K13 0 3 th).bind fun v15 => (v15).bind fun a17 => (xRa K13 5 a17 x1).bind fun v16 => (v16).bind fun a18 => (xO K13 11 a18).bind fun _ => (kf_Client_noteUnwritten_0 K13 a18 x2).bind fun K19 => kf_ES_read_48 K19 r12
section KW4
variable {p : Program} {l : Launch} {e : Env} {s : State} {m : MethodId} {args : Array Value} {below : List Frame} {meth : Method} {c : Code} {H : Heap} {locs : List Loc} {ls : Array Slot} {E : xe} {K K' : xk} {M M' : xm}
set_option maxHeartbeats 4000000 in
set_option maxRecDepth 100000 in
theorem kw_Message_reset_40 {th : Nat} (C : xx_C p m c b_Message_reset 4 s args Rn_Message E) (hlk : meth.locks = false) (hr : meth.sig.returnType = none) (hin : meth.name = "reset") (X : xx_S E K M s H locs) (hl : lv_has ls 4 [(0, .ref th)]) (h : kf_Message_reset_40 K th = some K') : W p l e { frames := 0, cells := 0, slots := 0, locals := 0 } s m args below meth c H locs 0 0 (MQ below (xq_v E K' M) args s 0 0 (xe_A E)) (F0 m 40 ls []) := by
  have hx := C.1.1
  have hb := C.1.2.1
  unfold kf_Message_reset_40 at h
  refine lv_aload_n hx hb d_Message_reset_40 rfl (lv_at hl 0 rfl) ?_
  refine lv_null hx hb d_Message_reset_41 ?_
  refine W.eq (g2 := F0 m 42 ls [va_rf none, .ref th]) rfl ?_
  replace h := xb h
  obtain ⟨K1, hv, h⟩ := h
  refine xr_pr (v := none) C X xc_Message (by decide) 8 (by decide) (by decide) rfl (Or.inl ⟨_, rfl⟩) rfl m_120 d_Message_reset_42 hv (fun H locs X => ?_)
  refine lv_aload_n hx hb d_Message_reset_45 rfl (lv_at hl 0 rfl) ?_
  refine lv_null hx hb d_Message_reset_46 ?_
  refine W.eq (g2 := F0 m 47 ls [va_rf none, .ref th]) rfl ?_
  replace h := xb h
  obtain ⟨K2, hv, h⟩ := h
  refine xr_pr (v := none) C X xc_Message (by decide) 9 (by decide) (by decide) rfl (Or.inl ⟨_, rfl⟩) rfl m_121 d_Message_reset_47 hv (fun H locs X => ?_)
  obtain rfl := Option.some.inj h
  exact xr_vret C X hlk hr d_Message_reset_50 (Nat.le_of_ble_eq_true rfl) (Nat.le_of_ble_eq_true rfl)
set_option maxHeartbeats 4000000 in
set_option maxRecDepth 100000 in
theorem kw_Message_reset_0 {th : Nat} {x1 : Int32} {x2 : Int32} {x3 : Int32} (C : xx_C p m c b_Message_reset 4 s args Rn_Message E) (hlk : meth.locks = false) (hr : meth.sig.returnType = none) (hin : meth.name = "reset") (X : xx_S E K M s H locs) (hl : lv_has ls 4 [(0, .ref th), (1, .int x1), (2, .int x2), (3, .int x3)]) (h : kf_Message_reset_0 K th x1 x2 x3 = some K') : W p l e { frames := 0, cells := 0, slots := 0, locals := 0 } s m args below meth c H locs 0 0 (MQ below (xq_v E K' M) args s 0 0 (xe_A E)) (F0 m 0 ls []) := by
  have hx := C.1.1
  have hb := C.1.2.1
  unfold kf_Message_reset_0 at h
  refine lv_aload_n hx hb d_Message_reset_0 rfl (lv_at hl 0 rfl) ?_
  refine lv_iload_n hx hb d_Message_reset_1 rfl (lv_at hl 1 rfl) ?_
  replace h := xb h
  obtain ⟨K1, hv, h⟩ := h
  refine xr_pi C X xc_Message (by decide) 0 (by decide) (by decide) rfl rfl rfl m_112 d_Message_reset_2 hv (fun H locs X => ?_)
  refine lv_aload_n hx hb d_Message_reset_5 rfl (lv_at hl 0 rfl) ?_
  refine lv_iload_n hx hb d_Message_reset_6 rfl (lv_at hl 2 rfl) ?_
  replace h := xb h
  obtain ⟨K2, hv, h⟩ := h
  refine xr_pi C X xc_Message (by decide) 1 (by decide) (by decide) rfl rfl rfl m_113 d_Message_reset_7 hv (fun H locs X => ?_)
  refine lv_aload_n hx hb d_Message_reset_10 rfl (lv_at hl 0 rfl) ?_
  refine lv_iload_n hx hb d_Message_reset_11 rfl (lv_at hl 3 rfl) ?_
  replace h := xb h
  obtain ⟨K3, hv, h⟩ := h
  refine xr_pi C X xc_Message (by decide) 2 (by decide) (by decide) rfl rfl rfl m_114 d_Message_reset_12 hv (fun H locs X => ?_)
  refine lv_aload_n hx hb d_Message_reset_15 rfl (lv_at hl 0 rfl) ?_
  refine lv_iconst hx hb d_Message_reset_16 kn_i_0 ?_
  replace h := xb h
  obtain ⟨K4, hv, h⟩ := h
  refine xr_pi C X xc_Message (by decide) 3 (by decide) (by decide) rfl rfl rfl m_115 d_Message_reset_17 hv (fun H locs X => ?_)
  refine lv_aload_n hx hb d_Message_reset_20 rfl (lv_at hl 0 rfl) ?_
  refine lv_iconst hx hb d_Message_reset_21 kn_i_0 ?_
  replace h := xb h
  obtain ⟨K5, hv, h⟩ := h
  refine xr_pi C X xc_Message (by decide) 4 (by decide) (by decide) rfl rfl rfl m_116 d_Message_reset_22 hv (fun H locs X => ?_)
  refine lv_aload_n hx hb d_Message_reset_25 rfl (lv_at hl 0 rfl) ?_
  refine lv_iconst hx hb d_Message_reset_26 kn_i_0 ?_
  replace h := xb h
  obtain ⟨K6, hv, h⟩ := h
  refine xr_pi C X xc_Message (by decide) 5 (by decide) (by decide) rfl rfl rfl m_117 d_Message_reset_27 hv (fun H locs X => ?_)
  refine lv_aload_n hx hb d_Message_reset_30 rfl (lv_at hl 0 rfl) ?_
  refine lv_iconst hx hb d_Message_reset_31 kn_i_0 ?_
  replace h := xb h
  obtain ⟨K7, hv, h⟩ := h
  refine xr_pi C X xc_Message (by decide) 6 (by decide) (by decide) rfl rfl rfl m_118 d_Message_reset_32 hv (fun H locs X => ?_)
  refine lv_aload_n hx hb d_Message_reset_35 rfl (lv_at hl 0 rfl) ?_
  refine lv_iconst hx hb d_Message_reset_36 kn_i_0 ?_
  replace h := xb h
  obtain ⟨K8, hv, h⟩ := h
  refine xr_pi C X xc_Message (by decide) 7 (by decide) (by decide) rfl rfl rfl m_119 d_Message_reset_37 hv (fun H locs X => ?_)
  exact kw_Message_reset_40 (th := th) C hlk hr hin  X (lv_sub hl [0] rfl) h
theorem kc_Message_reset (l : Launch) (E : xe) {th : Nat} {x1 : Int32} {x2 : Int32} {x3 : Int32} (h : kf_Message_reset_0 K th x1 x2 x3 = some K') : Met l y_Message_reset (Cond.code y_Message_reset b_Message_reset 4 none :: w_all) { frames := 0, cells := 0, slots := 0, locals := 0 } (va_Pc [.ref th, .int x1, .int x2, .int x3] (fun U => xx_B E K M U)) (xq_v E K' M) 0 0 (xe_A E) :=
  xr_met (by decide) (Nat.le_of_ble_eq_true rfl) fun p e s m below meth c ls C X hlk hr hin hl => kw_Message_reset_0 C hlk hr hin X hl h
set_option maxHeartbeats 4000000 in
set_option maxRecDepth 100000 in
theorem kw_Line_send_36 {x1 : Int32} {x2 : Int32} {x3 : Int32} {x4 : Option Nat} {r : Option Nat} (C : xx_C p m c b_Line_send 5 s args Rn_Line E) (hlk : meth.locks = false) (hr : meth.sig.returnType = (some (.object "EpochStore$Message"))) (hin : meth.name = "send") (X : xx_S E K M s H locs) (hl : lv_has ls 5 [(1, .int x1), (2, .int x2), (3, .int x3), (4, va_rf x4)]) (h : kf_Line_send_36 K x1 x2 x3 x4 = some (r, K')) : W p l e { frames := 1, cells := 0, slots := 0, locals := 23 } s m args below meth c H locs 0 0 (MQ below (xq_r E K' M r) args s 0 0 (xe_A E)) (F0 m 36 ls []) := by
  have hx := C.1.1
  have hb := C.1.2.1
  unfold kf_Line_send_36 at h
  refine xr_aload hx hb d_Line_send_36 (lv_at hl 3 rfl) ?_
  refine lv_iload_n hx hb d_Line_send_38 rfl (lv_at hl 0 rfl) ?_
  refine lv_iload_n hx hb d_Line_send_39 rfl (lv_at hl 1 rfl) ?_
  refine lv_iload_n hx hb d_Line_send_40 rfl (lv_at hl 2 rfl) ?_
  replace h := xb h
  obtain ⟨a1, rfl, h⟩ := h
  replace h := xb h
  obtain ⟨_, hO3, h⟩ := h
  replace h := xb h
  obtain ⟨K2, hv, h⟩ := h
  refine xr_kv (va_runV (As := [.int x1, .int x2, .int x3]) (rest := []) C.1 (kc_Message_reset l E hv) (cwV 3 C.1.2.2.2.2 (xw_V m_123 m_124 m_125 m_7 m_126) rfl rfl rfl ky_Message_reset ⟨(Nat.le_of_ble_eq_true rfl), (Nat.le_of_ble_eq_true rfl)⟩) (xr_pV C X xc_Message.1 (xk_Xo (xOk hO3) (by decide))) rfl rfl hl.1 rfl (lv_room (Nat.le_of_ble_eq_true rfl)) d_Line_send_41 ⟨(Nat.le_of_ble_eq_true rfl), (Nat.le_of_ble_eq_true rfl)⟩) X (fun H locs X => ?_)
  refine lv_aload hx hb d_Line_send_44 (lv_at hl 3 rfl) ?_
  obtain ⟨rfl, rfl⟩ := Prod.mk.inj (Option.some.inj h)
  exact xr_aret (v := (some a1)) C X hlk hr d_Line_send_46 rfl (Nat.le_of_ble_eq_true rfl) (Nat.le_of_ble_eq_true rfl)
set_option maxHeartbeats 4000000 in
set_option maxRecDepth 100000 in
theorem kw_Line_send_0 {th : Nat} {x1 : Int32} {x2 : Int32} {x3 : Int32} {r : Option Nat} (C : xx_C p m c b_Line_send 5 s args Rn_Line E) (hlk : meth.locks = false) (hr : meth.sig.returnType = (some (.object "EpochStore$Message"))) (hin : meth.name = "send") (X : xx_S E K M s H locs) (hl : lv_has ls 5 [(0, .ref th), (1, .int x1), (2, .int x2), (3, .int x3)]) (h : kf_Line_send_0 K th x1 x2 x3 = some (r, K')) : W p l e { frames := 1, cells := 0, slots := 0, locals := 23 } s m args below meth c H locs 0 0 (MQ below (xq_r E K' M r) args s 0 0 (xe_A E)) (F0 m 0 ls []) := by
  have hx := C.1.1
  have hb := C.1.2.1
  unfold kf_Line_send_0 at h
  refine lv_aload_n hx hb d_Line_send_0 rfl (lv_at hl 0 rfl) ?_
  replace h := xb h
  obtain ⟨v1, hv, h⟩ := h
  refine xr_gr C X xc_Line (by decide) 1 (by decide) (by decide) rfl m_10 d_Line_send_1 hv ?_
  refine xr_astore hx hb d_Line_send_4 hl (by decide) rfl (fun ls hl => ?_)
  have hl : lv_has ls 5 [(4, va_rf v1), (0, .ref th), (1, .int x1), (2, .int x2), (3, .int x3)] := hl
  refine lv_aload_n hx hb d_Line_send_6 rfl (lv_at hl 1 rfl) ?_
  replace h := xb h
  obtain ⟨v2, hv, h⟩ := h
  refine xr_gi C X xc_Line (by decide) 2 (by decide) (by decide) rfl m_122 d_Line_send_7 hv ?_
  refine lv_bipush hx hb d_Line_send_10 kn_b_24 ?_
  refine lv_icmp_ge (tgt := 36) hx hb d_Line_send_12 (by decide +kernel) (fun hc => ?_) (fun hc => ?_)
  · rw [if_pos hc] at h
    exact kw_Line_send_36 (x1 := x1) (x2 := x2) (x3 := x3) (x4 := v1) C hlk hr hin  X (lv_sub hl [2, 3, 4, 0] rfl) h
  · rw [if_neg hc] at h
    refine lv_aload_n hx hb d_Line_send_15 rfl (lv_at hl 1 rfl) ?_
    replace h := xb h
    obtain ⟨v3, hv, h⟩ := h
    refine xr_gr C X xc_Line (by decide) 0 (by decide) (by decide) rfl m_5 d_Line_send_16 hv ?_
    refine lv_aload_n hx hb d_Line_send_19 rfl (lv_at hl 1 rfl) ?_
    replace h := xb h
    obtain ⟨v4, hv, h⟩ := h
    refine xr_gi C X xc_Line (by decide) 2 (by decide) (by decide) rfl m_122 d_Line_send_20 hv ?_
    replace h := xb h
    obtain ⟨a6, rfl, h⟩ := h
    replace h := xb h
    obtain ⟨v5, hv, h⟩ := h
    refine xr_aald C X 7 (by decide) rfl rfl d_Line_send_23 hv ?_
    refine xr_astore hx hb d_Line_send_24 hl (by decide) rfl (fun ls hl => ?_)
    have hl : lv_has ls 5 [(4, va_rf v5), (0, .ref th), (1, .int x1), (2, .int x2), (3, .int x3)] := hl
    refine lv_aload_n hx hb d_Line_send_26 rfl (lv_at hl 1 rfl) ?_
    refine lv_dup hx hb d_Line_send_27 rfl ?_
    replace h := xb h
    obtain ⟨v7, hv, h⟩ := h
    refine xr_gi C X xc_Line (by decide) 2 (by decide) (by decide) rfl m_122 d_Line_send_28 hv ?_
    refine lv_iconst hx hb d_Line_send_31 kn_i_1 ?_
    refine lv_iadd hx hb d_Line_send_32 ?_
    replace h := xb h
    obtain ⟨K8, hv, h⟩ := h
    refine xr_pi C X xc_Line (by decide) 2 (by decide) (by decide) rfl rfl rfl m_122 d_Line_send_33 hv (fun H locs X => ?_)
    exact kw_Line_send_36 (x1 := x1) (x2 := x2) (x3 := x3) (x4 := v5) C hlk hr hin  X (lv_sub hl [2, 3, 4, 0] rfl) h
theorem kc_Line_send (l : Launch) (E : xe) {th : Nat} {x1 : Int32} {x2 : Int32} {x3 : Int32} {r : Option Nat} (h : kf_Line_send_0 K th x1 x2 x3 = some (r, K')) : Met l y_Line_send (Cond.code y_Line_send b_Line_send 5 (some (.object "EpochStore$Message")) :: w_all) { frames := 1, cells := 0, slots := 0, locals := 23 } (va_Pc [.ref th, .int x1, .int x2, .int x3] (fun U => xx_B E K M U)) (xq_r E K' M r) 0 0 (xe_A E) :=
  xr_met (by decide) (Nat.le_of_ble_eq_true rfl) fun p e s m below meth c ls C X hlk hr hin hl => kw_Line_send_0 C hlk hr hin X hl h
set_option maxHeartbeats 4000000 in
set_option maxRecDepth 100000 in
theorem kw_Client_ask_49 {th : Nat} {x1 : Nat} (C : xx_C p m c b_Client_ask 2 s args Rn_Client E) (hlk : meth.locks = false) (hr : meth.sig.returnType = none) (hin : meth.name = "ask") (X : xx_S E K M s H locs) (hl : lv_has ls 2 [(0, .ref th), (1, .ref x1)]) (h : kf_Client_ask_49 K th x1 = some K') : W p l e { frames := 2, cells := 2, slots := 10, locals := 47 } s m args below meth c H locs 2 10 (MQ below (xq_v E K' M) args s 2 10 (xe_A E)) (F0 m 49 ls []) := by
  have hx := C.1.1
  have hb := C.1.2.1
  unfold kf_Client_ask_49 at h
  refine lv_aload_n hx hb d_Client_ask_49 rfl (lv_at hl 1 rfl) ?_
  refine lv_iconst hx hb d_Client_ask_50 kn_i_1 ?_
  refine lv_aload_n hx hb d_Client_ask_51 rfl (lv_at hl 0 rfl) ?_
  replace h := xb h
  obtain ⟨v1, hv, h⟩ := h
  refine xr_gi C X xc_Client (by decide) 0 (by decide) (by decide) rfl m_42 d_Client_ask_52 hv ?_
  refine lv_aload_n hx hb d_Client_ask_55 rfl (lv_at hl 0 rfl) ?_
  replace h := xb h
  obtain ⟨v2, hv, h⟩ := h
  refine xr_gi C X xc_Client (by decide) 1 (by decide) (by decide) rfl m_33 d_Client_ask_56 hv ?_
  replace h := xb h
  obtain ⟨_, hO4, h⟩ := h
  replace h := xpb h
  obtain ⟨r5, K3, hv, h⟩ := h
  refine xr_kr (va_runV (As := [.int (1 : Int32), .int v1, .int v2]) (rest := []) C.1 (kc_Line_send l E hv) (cwV 3 C.1.2.2.2.2 (xw_V m_131 m_132 m_133 m_68 m_134) rfl rfl rfl ky_Line_send ⟨(Nat.le_of_ble_eq_true rfl), (Nat.le_of_ble_eq_true rfl)⟩) (xr_pV C X xc_Line.1 (xk_Xo (xOk hO4) (by decide))) rfl rfl hl.1 rfl (lv_room (Nat.le_of_ble_eq_true rfl)) d_Client_ask_59 ⟨(Nat.le_of_ble_eq_true rfl), (Nat.le_of_ble_eq_true rfl)⟩) X (fun H locs X => ?_)
  refine lv_aload_n hx hb d_Client_ask_62 rfl (lv_at hl 0 rfl) ?_
  replace h := xb h
  obtain ⟨v6, hv, h⟩ := h
  refine xr_gi C X xc_Client (by decide) 2 (by decide) (by decide) rfl m_127 d_Client_ask_63 hv ?_
  replace h := xb h
  obtain ⟨a7, rfl, h⟩ := h
  replace h := xb h
  obtain ⟨K8, hv, h⟩ := h
  refine xr_pi C X xc_Message (by decide) 4 (by decide) (by decide) rfl rfl rfl m_135 d_Client_ask_66 hv (fun H locs X => ?_)
  obtain rfl := Option.some.inj h
  exact xr_vret C X hlk hr d_Client_ask_69 (Nat.le_of_ble_eq_true rfl) (Nat.le_of_ble_eq_true rfl)
set_option maxHeartbeats 4000000 in
set_option maxRecDepth 100000 in
theorem kw_Client_ask_0 {th : Nat} {x1 : Nat} (C : xx_C p m c b_Client_ask 2 s args Rn_Client E) (hlk : meth.locks = false) (hr : meth.sig.returnType = none) (hin : meth.name = "ask") (X : xx_S E K M s H locs) (hl : lv_has ls 2 [(0, .ref th), (1, .ref x1)]) (h : kf_Client_ask_0 K th x1 = some K') : W p l e { frames := 2, cells := 2, slots := 10, locals := 47 } s m args below meth c H locs 0 0 (MQ below (xq_v E K' M) args s 2 10 (xe_A E)) (F0 m 0 ls []) := by
  have hx := C.1.1
  have hb := C.1.2.1
  unfold kf_Client_ask_0 at h
  refine lv_aload_n hx hb d_Client_ask_0 rfl (lv_at hl 0 rfl) ?_
  refine lv_dup hx hb d_Client_ask_1 rfl ?_
  replace h := xb h
  obtain ⟨v1, hv, h⟩ := h
  refine xr_gi C X xc_Client (by decide) 2 (by decide) (by decide) rfl m_127 d_Client_ask_2 hv ?_
  refine lv_iconst hx hb d_Client_ask_5 kn_i_1 ?_
  refine lv_iadd hx hb d_Client_ask_6 ?_
  replace h := xb h
  obtain ⟨K2, hv, h⟩ := h
  refine xr_pi C X xc_Client (by decide) 2 (by decide) (by decide) rfl rfl rfl m_127 d_Client_ask_7 hv (fun H locs X => ?_)
  refine lv_aload_n hx hb d_Client_ask_10 rfl (lv_at hl 0 rfl) ?_
  refine lv_iconst hx hb d_Client_ask_11 kn_i_1 ?_
  replace h := xb h
  obtain ⟨K3, hv, h⟩ := h
  refine xr_pi C X xc_Client (by decide) 3 (by decide) (by decide) rfl rfl rfl m_34 d_Client_ask_12 hv (fun H locs X => ?_)
  refine lv_aload_n hx hb d_Client_ask_15 rfl (lv_at hl 0 rfl) ?_
  refine lv_aload_n hx hb d_Client_ask_16 rfl (lv_at hl 0 rfl) ?_
  replace h := xb h
  obtain ⟨v4, hv, h⟩ := h
  refine xr_gi C X xc_Client (by decide) 1 (by decide) (by decide) rfl m_33 d_Client_ask_17 hv ?_
  replace h := xb h
  obtain ⟨K5, hv, h⟩ := h
  refine xr_pi C X xc_Client (by decide) 4 (by decide) (by decide) rfl rfl rfl m_35 d_Client_ask_20 hv (fun H locs X => ?_)
  refine lv_aload_n hx hb d_Client_ask_23 rfl (lv_at hl 0 rfl) ?_
  refine lv_iconst hx hb d_Client_ask_24 kn_i_0 ?_
  replace h := xb h
  obtain ⟨K6, hv, h⟩ := h
  refine xr_pi C X xc_Client (by decide) 5 (by decide) (by decide) rfl rfl rfl m_128 d_Client_ask_25 hv (fun H locs X => ?_)
  refine lv_aload_n hx hb d_Client_ask_28 rfl (lv_at hl 0 rfl) ?_
  refine lv_iconst hx hb d_Client_ask_29 kn_i_0 ?_
  replace h := xb h
  obtain ⟨K7, hv, h⟩ := h
  refine xr_pi C X xc_Client (by decide) 6 (by decide) (by decide) rfl rfl rfl m_129 d_Client_ask_30 hv (fun H locs X => ?_)
  refine lv_aload_n hx hb d_Client_ask_33 rfl (lv_at hl 0 rfl) ?_
  refine lv_iconst hx hb d_Client_ask_34 kn_i_0 ?_
  replace h := xb h
  obtain ⟨K8, hv, h⟩ := h
  refine xr_pi C X xc_Client (by decide) 7 (by decide) (by decide) rfl rfl rfl m_130 d_Client_ask_35 hv (fun H locs X => ?_)
  refine lv_aload_n hx hb d_Client_ask_38 rfl (lv_at hl 0 rfl) ?_
  replace h := xpb h
  obtain ⟨q9, K10, hv, h⟩ := h
  refine xr_new C X xc_Writes (by decide) rfl xdf_Writes m_36 m_37 m_38 d_Client_ask_39 (Nat.le_of_ble_eq_true rfl) (Nat.le_of_ble_eq_true rfl) hv (fun H X => ?_)
  refine lv_dup hx hb d_Client_ask_42 rfl ?_
  replace h := xb h
  obtain ⟨K11, hv, h⟩ := h
  refine xr_kv (va_runIN (As := []) (rest := [.ref q9, .ref th]) C.1 (kc_Writes_init l E hv) ⟨va_cnB 0 C.1.2.2.2.2 (xw_in m_39) rfl rfl rfl (C.2.2.1 (Rn_Client, 23, y_Writes_init, "EpochStore") (List.mem_of_getElem? (i := 2) rfl)) (C.1.2.2.2.2 _ m_38) ky_Writes_init ⟨(Nat.le_of_ble_eq_true rfl), (Nat.le_of_ble_eq_true rfl)⟩, rfl, C.1.2.2.2.2 _ m_40⟩ (xr_pS C X) rfl rfl hl.1 rfl (lv_room (Nat.le_of_ble_eq_true rfl)) d_Client_ask_43 ⟨(Nat.le_of_ble_eq_true rfl), (Nat.le_of_ble_eq_true rfl)⟩) X (fun H locs X => ?_)
  replace h := xb h
  obtain ⟨K12, hv, h⟩ := h
  refine xr_pr (v := (some q9)) C X xc_Client (by decide) 8 (by decide) (by decide) rfl (Or.inl ⟨_, rfl⟩) rfl m_41 d_Client_ask_46 hv (fun H locs X => ?_)
  exact kw_Client_ask_49 (th := th) (x1 := x1) C hlk hr hin  X (lv_sub hl [0, 1] rfl) h
theorem kc_Client_ask (l : Launch) (E : xe) {th : Nat} {x1 : Nat} (h : kf_Client_ask_0 K th x1 = some K') : Met l y_Client_ask (Cond.code y_Client_ask b_Client_ask 2 none :: w_all) { frames := 2, cells := 2, slots := 10, locals := 47 } (va_Pc [.ref th, .ref x1] (fun U => xx_B E K M U)) (xq_v E K' M) 2 10 (xe_A E) :=
  xr_met (by decide) (Nat.le_of_ble_eq_true rfl) fun p e s m below meth c ls C X hlk hr hin hl => kw_Client_ask_0 C hlk hr hin X hl h
set_option maxHeartbeats 4000000 in
set_option maxRecDepth 100000 in
theorem kw_ES_begin_0 {th : Nat} {x1 : Int32} {r : Int32} (C : xx_C p m c b_ES_begin 2 s args Rn_ES E) (hlk : meth.locks = false) (hr : meth.sig.returnType = (some .boolean)) (hin : meth.name = "begin") (X : xx_S E K M s H locs) (hl : lv_has ls 2 [(0, .ref th), (1, .int x1)]) (h : kf_ES_begin_0 K th x1 = some (r, K')) : W p l e { frames := 3, cells := 2, slots := 10, locals := 68 } s m args below meth c H locs 0 0 (MQ below (xq_i E K' M r) args s 2 10 (xe_A E)) (F0 m 0 ls []) := by
  have hx := C.1.1
  have hb := C.1.2.1
  unfold kf_ES_begin_0 at h
  refine lv_iload_n hx hb d_ES_begin_0 rfl (lv_at hl 1 rfl) ?_
  replace h := xpb h
  obtain ⟨r2, K1, hv, h⟩ := h
  refine xr_ki (va_runS (As := [.int x1]) (rest := []) C.1 (kc_ES_isClient l E hv) (cwS 1 C.1.2.2.2.2 (xw_S m_108 m_109 m_106 m_110) rfl rfl rfl ky_ES_isClient ⟨(Nat.le_of_ble_eq_true rfl), (Nat.le_of_ble_eq_true rfl)⟩) (xr_pS C X) rfl rfl hl.1 rfl (lv_room (Nat.le_of_ble_eq_true rfl)) d_ES_begin_1 ⟨(Nat.le_of_ble_eq_true rfl), (Nat.le_of_ble_eq_true rfl)⟩) X (fun H locs X => ?_)
  refine lv_if_eq (tgt := 19) hx hb d_ES_begin_4 (by decide +kernel) (fun hc => ?_) (fun hc => ?_)
  · rw [if_pos hc] at h
    refine lv_iconst hx hb d_ES_begin_19 kn_i_0 ?_
    obtain ⟨rfl, rfl⟩ := Prod.mk.inj (Option.some.inj h)
    exact xr_zret C X hlk hr d_ES_begin_20 rfl (Nat.le_of_ble_eq_true rfl) (Nat.le_of_ble_eq_true rfl)
  · rw [if_neg hc] at h
    refine lv_aload_n hx hb d_ES_begin_7 rfl (lv_at hl 0 rfl) ?_
    replace h := xb h
    obtain ⟨v3, hv, h⟩ := h
    refine xr_gr C X xc_ES (by decide) 3 (by decide) (by decide) rfl m_63 d_ES_begin_8 hv ?_
    refine lv_iload_n hx hb d_ES_begin_11 rfl (lv_at hl 1 rfl) ?_
    replace h := xb h
    obtain ⟨a5, rfl, h⟩ := h
    replace h := xb h
    obtain ⟨v4, hv, h⟩ := h
    refine xr_aald C X 5 (by decide) rfl rfl d_ES_begin_12 hv ?_
    replace h := xb h
    obtain ⟨a6, rfl, h⟩ := h
    replace h := xb h
    obtain ⟨_, hO8, h⟩ := h
    replace h := xpb h
    obtain ⟨r9, K7, hv, h⟩ := h
    refine xr_ki (va_runV (As := []) (rest := []) C.1 (kc_Client_isBusy l E hv) (cwV 0 C.1.2.2.2.2 (xw_V m_136 m_137 m_138 m_88 m_139) rfl rfl rfl ky_Client_isBusy ⟨(Nat.le_of_ble_eq_true rfl), (Nat.le_of_ble_eq_true rfl)⟩) (xr_pV C X xc_Client.1 (xk_Xo (xOk hO8) (by decide))) rfl rfl hl.1 rfl (lv_room (Nat.le_of_ble_eq_true rfl)) d_ES_begin_13 ⟨(Nat.le_of_ble_eq_true rfl), (Nat.le_of_ble_eq_true rfl)⟩) X (fun H locs X => ?_)
    refine lv_if_eq (tgt := 21) hx hb d_ES_begin_16 (by decide +kernel) (fun hc => ?_) (fun hc => ?_)
    · rw [if_pos hc] at h
      refine lv_aload_n hx hb d_ES_begin_21 rfl (lv_at hl 0 rfl) ?_
      replace h := xb h
      obtain ⟨v10, hv, h⟩ := h
      refine xr_gr C X xc_ES (by decide) 3 (by decide) (by decide) rfl m_63 d_ES_begin_22 hv ?_
      refine lv_iload_n hx hb d_ES_begin_25 rfl (lv_at hl 1 rfl) ?_
      replace h := xb h
      obtain ⟨a12, rfl, h⟩ := h
      replace h := xb h
      obtain ⟨v11, hv, h⟩ := h
      refine xr_aald C X 5 (by decide) rfl rfl d_ES_begin_26 hv ?_
      refine lv_aload_n hx hb d_ES_begin_27 rfl (lv_at hl 0 rfl) ?_
      replace h := xb h
      obtain ⟨v13, hv, h⟩ := h
      refine xr_gr C X xc_ES (by decide) 5 (by decide) (by decide) rfl m_72 d_ES_begin_28 hv ?_
      replace h := xb h
      obtain ⟨a14, rfl, h⟩ := h
      replace h := xb h
      obtain ⟨a15, rfl, h⟩ := h
      replace h := xb h
      obtain ⟨_, hO17, h⟩ := h
      replace h := xb h
      obtain ⟨K16, hv, h⟩ := h
      refine xr_kv (va_runV (As := [.ref a15]) (rest := []) C.1 (kc_Client_ask l E hv) (cwV 1 C.1.2.2.2.2 (xw_V m_140 m_141 m_142 m_88 m_143) rfl rfl rfl ky_Client_ask ⟨(Nat.le_of_ble_eq_true rfl), (Nat.le_of_ble_eq_true rfl)⟩) (xr_pV C X xc_Client.1 (xk_Xo (xOk hO17) (by decide))) rfl rfl hl.1 rfl (lv_room (Nat.le_of_ble_eq_true rfl)) d_ES_begin_31 ⟨(Nat.le_of_ble_eq_true rfl), (Nat.le_of_ble_eq_true rfl)⟩) X (fun H locs X => ?_)
      refine lv_iconst hx hb d_ES_begin_34 kn_i_1 ?_
      obtain ⟨rfl, rfl⟩ := Prod.mk.inj (Option.some.inj h)
      exact xr_zret C X hlk hr d_ES_begin_35 rfl (Nat.le_of_ble_eq_true rfl) (Nat.le_of_ble_eq_true rfl)
    · rw [if_neg hc] at h
      refine lv_iconst hx hb d_ES_begin_19 kn_i_0 ?_
      obtain ⟨rfl, rfl⟩ := Prod.mk.inj (Option.some.inj h)
      exact xr_zret C X hlk hr d_ES_begin_20 rfl (Nat.le_of_ble_eq_true rfl) (Nat.le_of_ble_eq_true rfl)
theorem kc_ES_begin (l : Launch) (E : xe) {th : Nat} {x1 : Int32} {r : Int32} (h : kf_ES_begin_0 K th x1 = some (r, K')) : Met l y_ES_begin (Cond.code y_ES_begin b_ES_begin 2 (some .boolean) :: w_all) { frames := 3, cells := 2, slots := 10, locals := 68 } (va_Pc [.ref th, .int x1] (fun U => xx_B E K M U)) (xq_i E K' M r) 2 10 (xe_A E) :=
  xr_met (by decide) (Nat.le_of_ble_eq_true rfl) fun p e s m below meth c ls C X hlk hr hin hl => kw_ES_begin_0 C hlk hr hin X hl h
set_option maxHeartbeats 4000000 in
set_option maxRecDepth 100000 in
theorem kw_ES_isOpen_0 {th : Nat} {x1 : Int32} {r : Int32} (C : xx_C p m c b_ES_isOpen 2 s args Rn_ES E) (hlk : meth.locks = false) (hr : meth.sig.returnType = (some .boolean)) (hin : meth.name = "isOpen") (X : xx_S E K M s H locs) (hl : lv_has ls 2 [(0, .ref th), (1, .int x1)]) (h : kf_ES_isOpen_0 K th x1 = some (r, K')) : W p l e { frames := 1, cells := 0, slots := 0, locals := 20 } s m args below meth c H locs 0 0 (MQ below (xq_i E K' M r) args s 0 0 (xe_A E)) (F0 m 0 ls []) := by
  have hx := C.1.1
  have hb := C.1.2.1
  unfold kf_ES_isOpen_0 at h
  refine lv_iload_n hx hb d_ES_isOpen_0 rfl (lv_at hl 1 rfl) ?_
  replace h := xpb h
  obtain ⟨r2, K1, hv, h⟩ := h
  refine xr_ki (va_runS (As := [.int x1]) (rest := []) C.1 (kc_ES_isClient l E hv) (cwS 1 C.1.2.2.2.2 (xw_S m_108 m_109 m_106 m_110) rfl rfl rfl ky_ES_isClient ⟨(Nat.le_of_ble_eq_true rfl), (Nat.le_of_ble_eq_true rfl)⟩) (xr_pS C X) rfl rfl hl.1 rfl (lv_room (Nat.le_of_ble_eq_true rfl)) d_ES_isOpen_1 ⟨(Nat.le_of_ble_eq_true rfl), (Nat.le_of_ble_eq_true rfl)⟩) X (fun H locs X => ?_)
  refine lv_if_eq (tgt := 24) hx hb d_ES_isOpen_4 (by decide +kernel) (fun hc => ?_) (fun hc => ?_)
  · rw [if_pos hc] at h
    refine lv_iconst hx hb d_ES_isOpen_24 kn_i_0 ?_
    obtain ⟨rfl, rfl⟩ := Prod.mk.inj (Option.some.inj h)
    exact xr_zret C X hlk hr d_ES_isOpen_25 rfl (Nat.le_of_ble_eq_true rfl) (Nat.le_of_ble_eq_true rfl)
  · rw [if_neg hc] at h
    refine lv_aload_n hx hb d_ES_isOpen_7 rfl (lv_at hl 0 rfl) ?_
    replace h := xb h
    obtain ⟨v3, hv, h⟩ := h
    refine xr_gr C X xc_ES (by decide) 3 (by decide) (by decide) rfl m_63 d_ES_isOpen_8 hv ?_
    refine lv_iload_n hx hb d_ES_isOpen_11 rfl (lv_at hl 1 rfl) ?_
    replace h := xb h
    obtain ⟨a5, rfl, h⟩ := h
    replace h := xb h
    obtain ⟨v4, hv, h⟩ := h
    refine xr_aald C X 5 (by decide) rfl rfl d_ES_isOpen_12 hv ?_
    replace h := xb h
    obtain ⟨a6, rfl, h⟩ := h
    replace h := xb h
    obtain ⟨v7, hv, h⟩ := h
    refine xr_gi C X xc_Client (by decide) 3 (by decide) (by decide) rfl m_144 d_ES_isOpen_13 hv ?_
    refine lv_iconst hx hb d_ES_isOpen_16 kn_i_2 ?_
    refine lv_icmp_ne (tgt := 24) hx hb d_ES_isOpen_17 (by decide +kernel) (fun hc => ?_) (fun hc => ?_)
    · rw [if_neg hc] at h
      refine lv_iconst hx hb d_ES_isOpen_24 kn_i_0 ?_
      obtain ⟨rfl, rfl⟩ := Prod.mk.inj (Option.some.inj h)
      exact xr_zret C X hlk hr d_ES_isOpen_25 rfl (Nat.le_of_ble_eq_true rfl) (Nat.le_of_ble_eq_true rfl)
    · rw [if_pos hc] at h
      refine lv_iconst hx hb d_ES_isOpen_20 kn_i_1 ?_
      refine lv_goto (tgt := 25) hx hb d_ES_isOpen_21 (by decide +kernel) ?_
      obtain ⟨rfl, rfl⟩ := Prod.mk.inj (Option.some.inj h)
      exact xr_zret C X hlk hr d_ES_isOpen_25 rfl (Nat.le_of_ble_eq_true rfl) (Nat.le_of_ble_eq_true rfl)
theorem kc_ES_isOpen (l : Launch) (E : xe) {th : Nat} {x1 : Int32} {r : Int32} (h : kf_ES_isOpen_0 K th x1 = some (r, K')) : Met l y_ES_isOpen (Cond.code y_ES_isOpen b_ES_isOpen 2 (some .boolean) :: w_all) { frames := 1, cells := 0, slots := 0, locals := 20 } (va_Pc [.ref th, .int x1] (fun U => xx_B E K M U)) (xq_i E K' M r) 0 0 (xe_A E) :=
  xr_met (by decide) (Nat.le_of_ble_eq_true rfl) fun p e s m below meth c ls C X hlk hr hin hl => kw_ES_isOpen_0 C hlk hr hin X hl h
set_option maxHeartbeats 4000000 in
set_option maxRecDepth 100000 in
theorem kw_ES_isKey_0 {x0 : Int32} {r : Int32} (C : xx_C p m c b_ES_isKey 1 s args Rn_ES E) (hlk : meth.locks = false) (hr : meth.sig.returnType = (some .boolean)) (hin : meth.name = "isKey") (X : xx_S E K M s H locs) (hl : lv_has ls 1 [(0, .int x0)]) (h : kf_ES_isKey_0 K x0 = some (r, K')) : W p l e { frames := 0, cells := 0, slots := 0, locals := 0 } s m args below meth c H locs 0 0 (MQ below (xq_i E K' M r) args s 0 0 (xe_A E)) (F0 m 0 ls []) := by
  have hx := C.1.1
  have hb := C.1.2.1
  unfold kf_ES_isKey_0 at h
  refine lv_iload_n hx hb d_ES_isKey_0 rfl (lv_at hl 0 rfl) ?_
  refine lv_if_lt (tgt := 14) hx hb d_ES_isKey_1 (by decide +kernel) (fun hc => ?_) (fun hc => ?_)
  · rw [if_pos hc] at h
    refine lv_iconst hx hb d_ES_isKey_14 kn_i_0 ?_
    obtain ⟨rfl, rfl⟩ := Prod.mk.inj (Option.some.inj h)
    exact xr_zret C X hlk hr d_ES_isKey_15 rfl (Nat.le_of_ble_eq_true rfl) (Nat.le_of_ble_eq_true rfl)
  · rw [if_neg hc] at h
    refine lv_iload_n hx hb d_ES_isKey_4 rfl (lv_at hl 0 rfl) ?_
    refine lv_bipush hx hb d_ES_isKey_5 kn_b_8 ?_
    refine lv_icmp_ge (tgt := 14) hx hb d_ES_isKey_7 (by decide +kernel) (fun hc => ?_) (fun hc => ?_)
    · rw [if_pos hc] at h
      refine lv_iconst hx hb d_ES_isKey_14 kn_i_0 ?_
      obtain ⟨rfl, rfl⟩ := Prod.mk.inj (Option.some.inj h)
      exact xr_zret C X hlk hr d_ES_isKey_15 rfl (Nat.le_of_ble_eq_true rfl) (Nat.le_of_ble_eq_true rfl)
    · rw [if_neg hc] at h
      refine lv_iconst hx hb d_ES_isKey_10 kn_i_1 ?_
      refine lv_goto (tgt := 15) hx hb d_ES_isKey_11 (by decide +kernel) ?_
      obtain ⟨rfl, rfl⟩ := Prod.mk.inj (Option.some.inj h)
      exact xr_zret C X hlk hr d_ES_isKey_15 rfl (Nat.le_of_ble_eq_true rfl) (Nat.le_of_ble_eq_true rfl)
theorem kc_ES_isKey (l : Launch) (E : xe) {x0 : Int32} {r : Int32} (h : kf_ES_isKey_0 K x0 = some (r, K')) : Met l y_ES_isKey (Cond.code y_ES_isKey b_ES_isKey 1 (some .boolean) :: w_all) { frames := 0, cells := 0, slots := 0, locals := 0 } (va_Pc [.int x0] (fun U => xx_B E K M U)) (xq_i E K' M r) 0 0 (xe_A E) :=
  xr_met (by decide) (Nat.le_of_ble_eq_true rfl) fun p e s m below meth c ls C X hlk hr hin hl => kw_ES_isKey_0 C hlk hr hin X hl h
set_option maxHeartbeats 4000000 in
set_option maxRecDepth 100000 in
theorem kw_Writes_has_0 {th : Nat} {x1 : Int32} {r : Int32} (C : xx_C p m c b_Writes_has 2 s args Rn_Writes E) (hlk : meth.locks = false) (hr : meth.sig.returnType = (some .boolean)) (hin : meth.name = "has") (X : xx_S E K M s H locs) (hl : lv_has ls 2 [(0, .ref th), (1, .int x1)]) (h : kf_Writes_has_0 K th x1 = some (r, K')) : W p l e { frames := 0, cells := 0, slots := 0, locals := 0 } s m args below meth c H locs 0 0 (MQ below (xq_i E K' M r) args s 0 0 (xe_A E)) (F0 m 0 ls []) := by
  have hx := C.1.1
  have hb := C.1.2.1
  unfold kf_Writes_has_0 at h
  refine lv_aload_n hx hb d_Writes_has_0 rfl (lv_at hl 0 rfl) ?_
  replace h := xb h
  obtain ⟨v1, hv, h⟩ := h
  refine xr_gi C X xc_Writes (by decide) 0 (by decide) (by decide) rfl m_145 d_Writes_has_1 hv ?_
  refine lv_iconst hx hb d_Writes_has_4 kn_i_1 ?_
  refine lv_iload_n hx hb d_Writes_has_5 rfl (lv_at hl 1 rfl) ?_
  refine lv_ishl hx hb d_Writes_has_6 ?_
  refine lv_iand hx hb d_Writes_has_7 ?_
  refine lv_if_eq (tgt := 15) hx hb d_Writes_has_8 (by decide +kernel) (fun hc => ?_) (fun hc => ?_)
  · rw [if_pos hc] at h
    refine lv_iconst hx hb d_Writes_has_15 kn_i_0 ?_
    obtain ⟨rfl, rfl⟩ := Prod.mk.inj (Option.some.inj h)
    exact xr_zret C X hlk hr d_Writes_has_16 rfl (Nat.le_of_ble_eq_true rfl) (Nat.le_of_ble_eq_true rfl)
  · rw [if_neg hc] at h
    refine lv_iconst hx hb d_Writes_has_11 kn_i_1 ?_
    refine lv_goto (tgt := 16) hx hb d_Writes_has_12 (by decide +kernel) ?_
    obtain ⟨rfl, rfl⟩ := Prod.mk.inj (Option.some.inj h)
    exact xr_zret C X hlk hr d_Writes_has_16 rfl (Nat.le_of_ble_eq_true rfl) (Nat.le_of_ble_eq_true rfl)
theorem kc_Writes_has (l : Launch) (E : xe) {th : Nat} {x1 : Int32} {r : Int32} (h : kf_Writes_has_0 K th x1 = some (r, K')) : Met l y_Writes_has (Cond.code y_Writes_has b_Writes_has 2 (some .boolean) :: w_all) { frames := 0, cells := 0, slots := 0, locals := 0 } (va_Pc [.ref th, .int x1] (fun U => xx_B E K M U)) (xq_i E K' M r) 0 0 (xe_A E) :=
  xr_met (by decide) (Nat.le_of_ble_eq_true rfl) fun p e s m below meth c ls C X hlk hr hin hl => kw_Writes_has_0 C hlk hr hin X hl h
set_option maxHeartbeats 4000000 in
set_option maxRecDepth 100000 in
theorem kw_Storage_valueAt_107 {rec54 : xk → Nat → Int32 → Int32 → Int32 → Option (Int64 × xk)} {th : Nat} {x1 : Int32} {x2 : Int32} {x4 : Int32} {r : Int64} (C : xx_C p m c b_Storage_valueAt 5 s args Rn_Storage E) (hlk : meth.locks = false) (hr : meth.sig.returnType = (some .long)) (hin : meth.name = "valueAt") (hrec54 : ∀ {H : Heap} {locs : List Loc} {ls : Array Slot} {K : xk} {th : Nat} {x1 : Int32} {x2 : Int32} {x4 : Int32}, xx_S E K M s H locs → lv_has ls 5 [(0, .ref th), (1, .int x1), (2, .int x2), (4, .int x4)] → rec54 K th x1 x2 x4 = some (r, K') → W p l e { frames := 1, cells := 0, slots := 0, locals := 21 } s m args below meth c H locs 0 0 (MQ below (xq_l E K' M r) args s 0 0 (xe_A E)) (F0 m 54 ls [])) (X : xx_S E K M s H locs) (hl : lv_has ls 5 [(0, .ref th), (1, .int x1), (2, .int x2), (4, .int x4)]) (h : kf_Storage_valueAt_107 rec54 K th x1 x2 x4 = some (r, K')) : W p l e { frames := 1, cells := 0, slots := 0, locals := 21 } s m args below meth c H locs 0 0 (MQ below (xq_l E K' M r) args s 0 0 (xe_A E)) (F0 m 107 ls []) := by
  have hx := C.1.1
  have hb := C.1.2.1
  unfold kf_Storage_valueAt_107 at h
  refine lv_iinc (k := 3) (v := (x4 + (-1 : Int32))) hx hb d_Storage_valueAt_107 hl rfl (congrArg (fun y : Int32 => x4 + y) kn_i_m1) (by decide) rfl (fun ls hl => ?_)
  have hl : lv_has ls 5 [(4, .int (x4 + (-1 : Int32))), (0, .ref th), (1, .int x1), (2, .int x2)] := hl
  refine lv_goto (tgt := 54) hx hb d_Storage_valueAt_110 (by decide +kernel) ?_
  exact hrec54 (th := th) (x1 := x1) (x2 := x2) (x4 := (x4 + (-1 : Int32))) X (lv_sub hl [1, 2, 3, 0] rfl) h
set_option maxHeartbeats 4000000 in
set_option maxRecDepth 100000 in
theorem kwb_Storage_valueAt_54 {rec54 : xk → Nat → Int32 → Int32 → Int32 → Option (Int64 × xk)} {th : Nat} {x1 : Int32} {x2 : Int32} {x4 : Int32} {r : Int64} (C : xx_C p m c b_Storage_valueAt 5 s args Rn_Storage E) (hlk : meth.locks = false) (hr : meth.sig.returnType = (some .long)) (hin : meth.name = "valueAt") (hrec54 : ∀ {H : Heap} {locs : List Loc} {ls : Array Slot} {K : xk} {th : Nat} {x1 : Int32} {x2 : Int32} {x4 : Int32}, xx_S E K M s H locs → lv_has ls 5 [(0, .ref th), (1, .int x1), (2, .int x2), (4, .int x4)] → rec54 K th x1 x2 x4 = some (r, K') → W p l e { frames := 1, cells := 0, slots := 0, locals := 21 } s m args below meth c H locs 0 0 (MQ below (xq_l E K' M r) args s 0 0 (xe_A E)) (F0 m 54 ls [])) (X : xx_S E K M s H locs) (hl : lv_has ls 5 [(0, .ref th), (1, .int x1), (2, .int x2), (4, .int x4)]) (h : kb_Storage_valueAt_54 rec54 K th x1 x2 x4 = some (r, K')) : W p l e { frames := 1, cells := 0, slots := 0, locals := 21 } s m args below meth c H locs 0 0 (MQ below (xq_l E K' M r) args s 0 0 (xe_A E)) (F0 m 54 ls []) := by
  have hx := C.1.1
  have hb := C.1.2.1
  unfold kb_Storage_valueAt_54 at h
  refine lv_iload hx hb d_Storage_valueAt_54 (lv_at hl 3 rfl) ?_
  refine lv_if_lt (tgt := 113) hx hb d_Storage_valueAt_56 (by decide +kernel) (fun hc => ?_) (fun hc => ?_)
  · rw [if_pos hc] at h
    refine lv_lconst hx hb d_Storage_valueAt_113 kn_l_0 ?_
    obtain ⟨rfl, rfl⟩ := Prod.mk.inj (Option.some.inj h)
    exact xr_lret C X hlk hr d_Storage_valueAt_114 rfl (Nat.le_of_ble_eq_true rfl) (Nat.le_of_ble_eq_true rfl)
  · rw [if_neg hc] at h
    refine lv_aload_n hx hb d_Storage_valueAt_59 rfl (lv_at hl 0 rfl) ?_
    replace h := xb h
    obtain ⟨v1, hv, h⟩ := h
    refine xr_gr C X xc_Storage (by decide) 4 (by decide) (by decide) rfl m_28 d_Storage_valueAt_60 hv ?_
    refine lv_iload hx hb d_Storage_valueAt_63 (lv_at hl 3 rfl) ?_
    replace h := xb h
    obtain ⟨a3, rfl, h⟩ := h
    replace h := xb h
    obtain ⟨v2, hv, h⟩ := h
    refine xr_aald C X 8 (by decide) rfl rfl d_Storage_valueAt_65 hv ?_
    replace h := xb h
    obtain ⟨a4, rfl, h⟩ := h
    replace h := xb h
    obtain ⟨v5, hv, h⟩ := h
    refine xr_gi C X xc_Entry (by decide) 0 (by decide) (by decide) rfl m_150 d_Storage_valueAt_66 hv ?_
    refine lv_iload_n hx hb d_Storage_valueAt_69 rfl (lv_at hl 2 rfl) ?_
    refine lv_icmp_gt (tgt := 107) hx hb d_Storage_valueAt_70 (by decide +kernel) (fun hc => ?_) (fun hc => ?_)
    · rw [if_pos hc] at h
      exact kw_Storage_valueAt_107 (th := th) (x1 := x1) (x2 := x2) (x4 := x4) C hlk hr hin hrec54  X (lv_sub hl [0, 1, 2, 3] rfl) h
    · rw [if_neg hc] at h
      refine lv_aload_n hx hb d_Storage_valueAt_73 rfl (lv_at hl 0 rfl) ?_
      replace h := xb h
      obtain ⟨v6, hv, h⟩ := h
      refine xr_gr C X xc_Storage (by decide) 4 (by decide) (by decide) rfl m_28 d_Storage_valueAt_74 hv ?_
      refine lv_iload hx hb d_Storage_valueAt_77 (lv_at hl 3 rfl) ?_
      replace h := xb h
      obtain ⟨a8, rfl, h⟩ := h
      replace h := xb h
      obtain ⟨v7, hv, h⟩ := h
      refine xr_aald C X 8 (by decide) rfl rfl d_Storage_valueAt_79 hv ?_
      replace h := xb h
      obtain ⟨a9, rfl, h⟩ := h
      replace h := xb h
      obtain ⟨v10, hv, h⟩ := h
      refine xr_gr C X xc_Entry (by decide) 2 (by decide) (by decide) rfl m_151 d_Storage_valueAt_80 hv ?_
      refine lv_iload_n hx hb d_Storage_valueAt_83 rfl (lv_at hl 1 rfl) ?_
      replace h := xb h
      obtain ⟨a11, rfl, h⟩ := h
      replace h := xb h
      obtain ⟨_, hO13, h⟩ := h
      replace h := xpb h
      obtain ⟨r14, K12, hv, h⟩ := h
      refine xr_ki (va_runV (As := [.int x1]) (rest := []) C.1 (kc_Writes_has l E hv) (cwV 1 C.1.2.2.2.2 (xw_V m_152 m_153 m_154 m_38 m_155) rfl rfl rfl ky_Writes_has ⟨(Nat.le_of_ble_eq_true rfl), (Nat.le_of_ble_eq_true rfl)⟩) (xr_pV C X xc_Writes.1 (xk_Xo (xOk hO13) (by decide))) rfl rfl hl.1 rfl (lv_room (Nat.le_of_ble_eq_true rfl)) d_Storage_valueAt_84 ⟨(Nat.le_of_ble_eq_true rfl), (Nat.le_of_ble_eq_true rfl)⟩) X (fun H locs X => ?_)
      refine lv_if_eq (tgt := 107) hx hb d_Storage_valueAt_87 (by decide +kernel) (fun hc => ?_) (fun hc => ?_)
      · rw [if_pos hc] at h
        exact kw_Storage_valueAt_107 (th := th) (x1 := x1) (x2 := x2) (x4 := x4) C hlk hr hin hrec54  X (lv_sub hl [0, 1, 2, 3] rfl) h
      · rw [if_neg hc] at h
        refine lv_aload_n hx hb d_Storage_valueAt_90 rfl (lv_at hl 0 rfl) ?_
        replace h := xb h
        obtain ⟨v15, hv, h⟩ := h
        refine xr_gr C X xc_Storage (by decide) 4 (by decide) (by decide) rfl m_28 d_Storage_valueAt_91 hv ?_
        refine lv_iload hx hb d_Storage_valueAt_94 (lv_at hl 3 rfl) ?_
        replace h := xb h
        obtain ⟨a17, rfl, h⟩ := h
        replace h := xb h
        obtain ⟨v16, hv, h⟩ := h
        refine xr_aald C X 8 (by decide) rfl rfl d_Storage_valueAt_96 hv ?_
        replace h := xb h
        obtain ⟨a18, rfl, h⟩ := h
        replace h := xb h
        obtain ⟨v19, hv, h⟩ := h
        refine xr_gr C X xc_Entry (by decide) 2 (by decide) (by decide) rfl m_151 d_Storage_valueAt_97 hv ?_
        replace h := xb h
        obtain ⟨a20, rfl, h⟩ := h
        replace h := xb h
        obtain ⟨v21, hv, h⟩ := h
        refine xr_gr C X xc_Writes (by decide) 1 (by decide) (by decide) rfl m_156 d_Storage_valueAt_100 hv ?_
        refine lv_iload_n hx hb d_Storage_valueAt_103 rfl (lv_at hl 1 rfl) ?_
        replace h := xb h
        obtain ⟨a23, rfl, h⟩ := h
        replace h := xb h
        obtain ⟨v22, hv, h⟩ := h
        refine xr_iald C X 0 (by decide) rfl rfl d_Storage_valueAt_104 hv ?_
        refine lv_i2l hx hb d_Storage_valueAt_105 rfl ?_
        obtain ⟨rfl, rfl⟩ := Prod.mk.inj (Option.some.inj h)
        exact xr_lret C X hlk hr d_Storage_valueAt_106 rfl (Nat.le_of_ble_eq_true rfl) (Nat.le_of_ble_eq_true rfl)
theorem kw_Storage_valueAt_54 {r : Int64} (C : xx_C p m c b_Storage_valueAt 5 s args Rn_Storage E) (hlk : meth.locks = false) (hr : meth.sig.returnType = (some .long)) (hin : meth.name = "valueAt") : ∀ (n : Nat) {H : Heap} {locs : List Loc} {ls : Array Slot} {K : xk} {th : Nat} {x1 : Int32} {x2 : Int32} {x4 : Int32}, xx_S E K M s H locs → lv_has ls 5 [(0, .ref th), (1, .int x1), (2, .int x2), (4, .int x4)] → kf_Storage_valueAt_54 n K th x1 x2 x4 = some (r, K') → W p l e { frames := 1, cells := 0, slots := 0, locals := 21 } s m args below meth c H locs 0 0 (MQ below (xq_l E K' M r) args s 0 0 (xe_A E)) (F0 m 54 ls []) := by
  intro n
  induction n with
  | zero => intro H locs ls K th x1 x2 x4 X hl h; exact nomatch (show (none : Option (Int64 × xk)) = some _ from h)
  | succ n ih => intro H locs ls K th x1 x2 x4 X hl h; exact kwb_Storage_valueAt_54 C hlk hr hin ih X hl h
set_option maxHeartbeats 4000000 in
set_option maxRecDepth 100000 in
theorem kw_Storage_valueAt_0 {th : Nat} {x1 : Int32} {x2 : Int32} {x3 : Int32} {r : Int64} (C : xx_C p m c b_Storage_valueAt 5 s args Rn_Storage E) (hlk : meth.locks = false) (hr : meth.sig.returnType = (some .long)) (hin : meth.name = "valueAt") (X : xx_S E K M s H locs) (hl : lv_has ls 5 [(0, .ref th), (1, .int x1), (2, .int x2), (3, .int x3)]) (h : kf_Storage_valueAt_0 K th x1 x2 x3 = some (r, K')) : W p l e { frames := 1, cells := 0, slots := 0, locals := 21 } s m args below meth c H locs 0 0 (MQ below (xq_l E K' M r) args s 0 0 (xe_A E)) (F0 m 0 ls []) := by
  have hx := C.1.1
  have hb := C.1.2.1
  unfold kf_Storage_valueAt_0 at h
  refine lv_aload_n hx hb d_Storage_valueAt_0 rfl (lv_at hl 0 rfl) ?_
  replace h := xb h
  obtain ⟨v1, hv, h⟩ := h
  refine xr_gi C X xc_Storage (by decide) 1 (by decide) (by decide) rfl m_24 d_Storage_valueAt_1 hv ?_
  refine lv_if_ne (tgt := 11) hx hb d_Storage_valueAt_4 (by decide +kernel) (fun hc => ?_) (fun hc => ?_)
  · rw [if_neg hc] at h
    refine lv_aload_n hx hb d_Storage_valueAt_11 rfl (lv_at hl 0 rfl) ?_
    replace h := xb h
    obtain ⟨v2, hv, h⟩ := h
    refine xr_gi C X xc_Storage (by decide) 3 (by decide) (by decide) rfl m_26 d_Storage_valueAt_12 hv ?_
    refine lv_iload_n hx hb d_Storage_valueAt_15 rfl (lv_at hl 2 rfl) ?_
    refine lv_icmp_lt (tgt := 27) hx hb d_Storage_valueAt_16 (by decide +kernel) (fun hc => ?_) (fun hc => ?_)
    · rw [if_pos hc] at h
      refine lv_ldc2 hx hb C.1.2.2.2.1 (C.1.2.2.2.2 _ m_146) d_Storage_valueAt_27 ?_
      obtain ⟨rfl, rfl⟩ := Prod.mk.inj (Option.some.inj h)
      exact xr_lret C X hlk hr d_Storage_valueAt_30 rfl (Nat.le_of_ble_eq_true rfl) (Nat.le_of_ble_eq_true rfl)
    · rw [if_neg hc] at h
      refine lv_aload_n hx hb d_Storage_valueAt_19 rfl (lv_at hl 0 rfl) ?_
      replace h := xb h
      obtain ⟨v3, hv, h⟩ := h
      refine xr_gi C X xc_Storage (by decide) 2 (by decide) (by decide) rfl m_25 d_Storage_valueAt_20 hv ?_
      refine lv_iload_n hx hb d_Storage_valueAt_23 rfl (lv_at hl 3 rfl) ?_
      refine lv_icmp_ge (tgt := 31) hx hb d_Storage_valueAt_24 (by decide +kernel) (fun hc => ?_) (fun hc => ?_)
      · rw [if_pos hc] at h
        refine lv_iload_n hx hb d_Storage_valueAt_31 rfl (lv_at hl 2 rfl) ?_
        refine lv_aload_n hx hb d_Storage_valueAt_32 rfl (lv_at hl 0 rfl) ?_
        replace h := xb h
        obtain ⟨v4, hv, h⟩ := h
        refine xr_gi C X xc_Storage (by decide) 3 (by decide) (by decide) rfl m_26 d_Storage_valueAt_33 hv ?_
        refine lv_bipush hx hb d_Storage_valueAt_36 kn_b_12 ?_
        refine lv_isub hx hb d_Storage_valueAt_38 ?_
        refine lv_icmp_ge (tgt := 46) hx hb d_Storage_valueAt_39 (by decide +kernel) (fun hc => ?_) (fun hc => ?_)
        · rw [if_pos hc] at h
          refine lv_aload_n hx hb d_Storage_valueAt_46 rfl (lv_at hl 0 rfl) ?_
          replace h := xb h
          obtain ⟨v5, hv, h⟩ := h
          refine xr_gi C X xc_Storage (by decide) 5 (by decide) (by decide) rfl m_147 d_Storage_valueAt_47 hv ?_
          refine lv_iconst hx hb d_Storage_valueAt_50 kn_i_1 ?_
          refine lv_isub hx hb d_Storage_valueAt_51 ?_
          refine lv_istore hx hb d_Storage_valueAt_52 hl (by decide) rfl (fun ls hl => ?_)
          have hl : lv_has ls 5 [(4, .int (v5 - (1 : Int32))), (0, .ref th), (1, .int x1), (2, .int x2), (3, .int x3)] := hl
          exact kw_Storage_valueAt_54 C hlk hr hin 1000 X (lv_sub hl [1, 2, 3, 0] rfl) h
        · rw [if_neg hc] at h
          refine lv_ldc2 hx hb C.1.2.2.2.1 (C.1.2.2.2.2 _ m_148) d_Storage_valueAt_42 ?_
          obtain ⟨rfl, rfl⟩ := Prod.mk.inj (Option.some.inj h)
          exact xr_lret C X hlk hr d_Storage_valueAt_45 rfl (Nat.le_of_ble_eq_true rfl) (Nat.le_of_ble_eq_true rfl)
      · rw [if_neg hc] at h
        refine lv_ldc2 hx hb C.1.2.2.2.1 (C.1.2.2.2.2 _ m_146) d_Storage_valueAt_27 ?_
        obtain ⟨rfl, rfl⟩ := Prod.mk.inj (Option.some.inj h)
        exact xr_lret C X hlk hr d_Storage_valueAt_30 rfl (Nat.le_of_ble_eq_true rfl) (Nat.le_of_ble_eq_true rfl)
  · rw [if_pos hc] at h
    refine lv_ldc2 hx hb C.1.2.2.2.1 (C.1.2.2.2.2 _ m_149) d_Storage_valueAt_7 ?_
    obtain ⟨rfl, rfl⟩ := Prod.mk.inj (Option.some.inj h)
    exact xr_lret C X hlk hr d_Storage_valueAt_10 rfl (Nat.le_of_ble_eq_true rfl) (Nat.le_of_ble_eq_true rfl)
theorem kc_Storage_valueAt (l : Launch) (E : xe) {th : Nat} {x1 : Int32} {x2 : Int32} {x3 : Int32} {r : Int64} (h : kf_Storage_valueAt_0 K th x1 x2 x3 = some (r, K')) : Met l y_Storage_valueAt (Cond.code y_Storage_valueAt b_Storage_valueAt 5 (some .long) :: w_all) { frames := 1, cells := 0, slots := 0, locals := 21 } (va_Pc [.ref th, .int x1, .int x2, .int x3] (fun U => xx_B E K M U)) (xq_l E K' M r) 0 0 (xe_A E) :=
  xr_met (by decide) (Nat.le_of_ble_eq_true rfl) fun p e s m below meth c ls C X hlk hr hin hl => kw_Storage_valueAt_0 C hlk hr hin X hl h
set_option maxHeartbeats 4000000 in
set_option maxRecDepth 100000 in
theorem kw_ES_valueFor_0 {th : Nat} {x1 : Nat} {x2 : Int32} {r : Int64} (C : xx_C p m c b_ES_valueFor 3 s args Rn_ES E) (hlk : meth.locks = false) (hr : meth.sig.returnType = (some .long)) (hin : meth.name = "valueFor") (X : xx_S E K M s H locs) (hl : lv_has ls 3 [(0, .ref th), (1, .ref x1), (2, .int x2)]) (h : kf_ES_valueFor_0 K th x1 x2 = some (r, K')) : W p l e { frames := 2, cells := 0, slots := 0, locals := 45 } s m args below meth c H locs 0 0 (MQ below (xq_l E K' M r) args s 0 0 (xe_A E)) (F0 m 0 ls []) := by
  have hx := C.1.1
  have hb := C.1.2.1
  unfold kf_ES_valueFor_0 at h
  refine lv_aload_n hx hb d_ES_valueFor_0 rfl (lv_at hl 1 rfl) ?_
  replace h := xb h
  obtain ⟨v1, hv, h⟩ := h
  refine xr_gr C X xc_Client (by decide) 8 (by decide) (by decide) rfl m_157 d_ES_valueFor_1 hv ?_
  refine lv_iload_n hx hb d_ES_valueFor_4 rfl (lv_at hl 2 rfl) ?_
  replace h := xb h
  obtain ⟨a2, rfl, h⟩ := h
  replace h := xb h
  obtain ⟨_, hO4, h⟩ := h
  replace h := xpb h
  obtain ⟨r5, K3, hv, h⟩ := h
  refine xr_ki (va_runV (As := [.int x2]) (rest := []) C.1 (kc_Writes_has l E hv) (cwV 1 C.1.2.2.2.2 (xw_V m_158 m_153 m_154 m_38 m_155) rfl rfl rfl ky_Writes_has ⟨(Nat.le_of_ble_eq_true rfl), (Nat.le_of_ble_eq_true rfl)⟩) (xr_pV C X xc_Writes.1 (xk_Xo (xOk hO4) (by decide))) rfl rfl hl.1 rfl (lv_room (Nat.le_of_ble_eq_true rfl)) d_ES_valueFor_5 ⟨(Nat.le_of_ble_eq_true rfl), (Nat.le_of_ble_eq_true rfl)⟩) X (fun H locs X => ?_)
  refine lv_if_eq (tgt := 22) hx hb d_ES_valueFor_8 (by decide +kernel) (fun hc => ?_) (fun hc => ?_)
  · rw [if_pos hc] at h
    refine lv_aload_n hx hb d_ES_valueFor_22 rfl (lv_at hl 0 rfl) ?_
    replace h := xb h
    obtain ⟨v6, hv, h⟩ := h
    refine xr_gr C X xc_ES (by decide) 2 (by decide) (by decide) rfl m_61 d_ES_valueFor_23 hv ?_
    refine lv_iload_n hx hb d_ES_valueFor_26 rfl (lv_at hl 2 rfl) ?_
    refine lv_iconst hx hb d_ES_valueFor_27 kn_i_4 ?_
    refine lv_idiv hx hb d_ES_valueFor_28 (by decide +kernel) ?_
    replace h := xb h
    obtain ⟨a8, rfl, h⟩ := h
    replace h := xb h
    obtain ⟨v7, hv, h⟩ := h
    refine xr_aald C X 4 (by decide) rfl rfl d_ES_valueFor_29 hv ?_
    refine lv_iload_n hx hb d_ES_valueFor_30 rfl (lv_at hl 2 rfl) ?_
    refine lv_aload_n hx hb d_ES_valueFor_31 rfl (lv_at hl 1 rfl) ?_
    replace h := xb h
    obtain ⟨v9, hv, h⟩ := h
    refine xr_gi C X xc_Client (by decide) 5 (by decide) (by decide) rfl m_159 d_ES_valueFor_32 hv ?_
    refine lv_aload_n hx hb d_ES_valueFor_35 rfl (lv_at hl 1 rfl) ?_
    replace h := xb h
    obtain ⟨v10, hv, h⟩ := h
    refine xr_gi C X xc_Client (by decide) 4 (by decide) (by decide) rfl m_160 d_ES_valueFor_36 hv ?_
    replace h := xb h
    obtain ⟨a11, rfl, h⟩ := h
    replace h := xb h
    obtain ⟨_, hO13, h⟩ := h
    replace h := xpb h
    obtain ⟨r14, K12, hv, h⟩ := h
    refine xr_kl (va_runV (As := [.int x2, .int v9, .int v10]) (rest := []) C.1 (kc_Storage_valueAt l E hv) (cwV 3 C.1.2.2.2.2 (xw_V m_161 m_162 m_163 m_83 m_164) rfl rfl rfl ky_Storage_valueAt ⟨(Nat.le_of_ble_eq_true rfl), (Nat.le_of_ble_eq_true rfl)⟩) (xr_pV C X xc_Storage.1 (xk_Xo (xOk hO13) (by decide))) rfl rfl hl.1 rfl (lv_room (Nat.le_of_ble_eq_true rfl)) d_ES_valueFor_39 ⟨(Nat.le_of_ble_eq_true rfl), (Nat.le_of_ble_eq_true rfl)⟩) X (fun H locs X => ?_)
    obtain ⟨rfl, rfl⟩ := Prod.mk.inj (Option.some.inj h)
    exact xr_lret C X hlk hr d_ES_valueFor_42 rfl (Nat.le_of_ble_eq_true rfl) (Nat.le_of_ble_eq_true rfl)
  · rw [if_neg hc] at h
    refine lv_aload_n hx hb d_ES_valueFor_11 rfl (lv_at hl 1 rfl) ?_
    replace h := xb h
    obtain ⟨v15, hv, h⟩ := h
    refine xr_gr C X xc_Client (by decide) 8 (by decide) (by decide) rfl m_157 d_ES_valueFor_12 hv ?_
    replace h := xb h
    obtain ⟨a16, rfl, h⟩ := h
    replace h := xb h
    obtain ⟨v17, hv, h⟩ := h
    refine xr_gr C X xc_Writes (by decide) 1 (by decide) (by decide) rfl m_165 d_ES_valueFor_15 hv ?_
    refine lv_iload_n hx hb d_ES_valueFor_18 rfl (lv_at hl 2 rfl) ?_
    replace h := xb h
    obtain ⟨a19, rfl, h⟩ := h
    replace h := xb h
    obtain ⟨v18, hv, h⟩ := h
    refine xr_iald C X 0 (by decide) rfl rfl d_ES_valueFor_19 hv ?_
    refine lv_i2l hx hb d_ES_valueFor_20 rfl ?_
    obtain ⟨rfl, rfl⟩ := Prod.mk.inj (Option.some.inj h)
    exact xr_lret C X hlk hr d_ES_valueFor_21 rfl (Nat.le_of_ble_eq_true rfl) (Nat.le_of_ble_eq_true rfl)
theorem kc_ES_valueFor (l : Launch) (E : xe) {th : Nat} {x1 : Nat} {x2 : Int32} {r : Int64} (h : kf_ES_valueFor_0 K th x1 x2 = some (r, K')) : Met l y_ES_valueFor (Cond.code y_ES_valueFor b_ES_valueFor 3 (some .long) :: w_all) { frames := 2, cells := 0, slots := 0, locals := 45 } (va_Pc [.ref th, .ref x1, .int x2] (fun U => xx_B E K M U)) (xq_l E K' M r) 0 0 (xe_A E) :=
  xr_met (by decide) (Nat.le_of_ble_eq_true rfl) fun p e s m below meth c ls C X hlk hr hin hl => kw_ES_valueFor_0 C hlk hr hin X hl h
set_option maxHeartbeats 4000000 in
set_option maxRecDepth 100000 in
theorem kw_ES_isValue_0 {x0 : Int64} {r : Int32} (C : xx_C p m c b_ES_isValue 2 s args Rn_ES E) (hlk : meth.locks = false) (hr : meth.sig.returnType = (some .boolean)) (hin : meth.name = "isValue") (X : xx_S E K M s H locs) (hl : lv_has ls 2 [(0, .long x0)]) (h : kf_ES_isValue_0 K x0 = some (r, K')) : W p l e { frames := 0, cells := 0, slots := 0, locals := 0 } s m args below meth c H locs 0 0 (MQ below (xq_i E K' M r) args s 0 0 (xe_A E)) (F0 m 0 ls []) := by
  have hx := C.1.1
  have hb := C.1.2.1
  unfold kf_ES_isValue_0 at h
  refine lv_lload_n hx hb d_ES_isValue_0 rfl (lv_at hl 0 rfl) ?_
  refine lv_ldc2 hx hb C.1.2.2.2.1 (C.1.2.2.2.2 _ m_166) d_ES_isValue_1 ?_
  refine W.lcmp hx hb d_ES_isValue_4 ?_
  refine lv_if_ge (tgt := 12) hx hb d_ES_isValue_5 (by decide +kernel) (fun hc => ?_) (fun hc => ?_)
  · rw [if_pos hc] at h
    refine lv_iconst hx hb d_ES_isValue_12 kn_i_0 ?_
    obtain ⟨rfl, rfl⟩ := Prod.mk.inj (Option.some.inj h)
    exact xr_zret C X hlk hr d_ES_isValue_13 rfl (Nat.le_of_ble_eq_true rfl) (Nat.le_of_ble_eq_true rfl)
  · rw [if_neg hc] at h
    refine lv_iconst hx hb d_ES_isValue_8 kn_i_1 ?_
    refine lv_goto (tgt := 13) hx hb d_ES_isValue_9 (by decide +kernel) ?_
    obtain ⟨rfl, rfl⟩ := Prod.mk.inj (Option.some.inj h)
    exact xr_zret C X hlk hr d_ES_isValue_13 rfl (Nat.le_of_ble_eq_true rfl) (Nat.le_of_ble_eq_true rfl)
theorem kc_ES_isValue (l : Launch) (E : xe) {x0 : Int64} {r : Int32} (h : kf_ES_isValue_0 K x0 = some (r, K')) : Met l y_ES_isValue (Cond.code y_ES_isValue b_ES_isValue 2 (some .boolean) :: w_all) { frames := 0, cells := 0, slots := 0, locals := 0 } (va_Pc [.long x0] (fun U => xx_B E K M U)) (xq_i E K' M r) 0 0 (xe_A E) :=
  xr_met (by decide) (Nat.le_of_ble_eq_true rfl) fun p e s m below meth c ls C X hlk hr hin hl => kw_ES_isValue_0 C hlk hr hin X hl h
set_option maxHeartbeats 4000000 in
set_option maxRecDepth 100000 in
theorem kw_Client_noteUnwritten_0 {th : Nat} {x1 : Int32} (C : xx_C p m c b_Client_noteUnwritten 2 s args Rn_Client E) (hlk : meth.locks = false) (hr : meth.sig.returnType = none) (hin : meth.name = "noteUnwritten") (X : xx_S E K M s H locs) (hl : lv_has ls 2 [(0, .ref th), (1, .int x1)]) (h : kf_Client_noteUnwritten_0 K th x1 = some K') : W p l e { frames := 1, cells := 0, slots := 0, locals := 21 } s m args below meth c H locs 0 0 (MQ below (xq_v E K' M) args s 0 0 (xe_A E)) (F0 m 0 ls []) := by
  have hx := C.1.1
  have hb := C.1.2.1
  unfold kf_Client_noteUnwritten_0 at h
  refine lv_aload_n hx hb d_Client_noteUnwritten_0 rfl (lv_at hl 0 rfl) ?_
  replace h := xb h
  obtain ⟨v1, hv, h⟩ := h
  refine xr_gr C X xc_Client (by decide) 8 (by decide) (by decide) rfl m_41 d_Client_noteUnwritten_1 hv ?_
  refine lv_iload_n hx hb d_Client_noteUnwritten_4 rfl (lv_at hl 1 rfl) ?_
  replace h := xb h
  obtain ⟨a2, rfl, h⟩ := h
  replace h := xb h
  obtain ⟨_, hO4, h⟩ := h
  replace h := xpb h
  obtain ⟨r5, K3, hv, h⟩ := h
  refine xr_ki (va_runV (As := [.int x1]) (rest := []) C.1 (kc_Writes_has l E hv) (cwV 1 C.1.2.2.2.2 (xw_V m_167 m_153 m_154 m_38 m_155) rfl rfl rfl ky_Writes_has ⟨(Nat.le_of_ble_eq_true rfl), (Nat.le_of_ble_eq_true rfl)⟩) (xr_pV C X xc_Writes.1 (xk_Xo (xOk hO4) (by decide))) rfl rfl hl.1 rfl (lv_room (Nat.le_of_ble_eq_true rfl)) d_Client_noteUnwritten_5 ⟨(Nat.le_of_ble_eq_true rfl), (Nat.le_of_ble_eq_true rfl)⟩) X (fun H locs X => ?_)
  refine lv_if_ne (tgt := 23) hx hb d_Client_noteUnwritten_8 (by decide +kernel) (fun hc => ?_) (fun hc => ?_)
  · rw [if_neg hc] at h
    obtain rfl := Option.some.inj h
    exact xr_vret C X hlk hr d_Client_noteUnwritten_23 (Nat.le_of_ble_eq_true rfl) (Nat.le_of_ble_eq_true rfl)
  · rw [if_pos hc] at h
    refine lv_aload_n hx hb d_Client_noteUnwritten_11 rfl (lv_at hl 0 rfl) ?_
    refine lv_dup hx hb d_Client_noteUnwritten_12 rfl ?_
    replace h := xb h
    obtain ⟨v6, hv, h⟩ := h
    refine xr_gi C X xc_Client (by decide) 7 (by decide) (by decide) rfl m_130 d_Client_noteUnwritten_13 hv ?_
    refine lv_iconst hx hb d_Client_noteUnwritten_16 kn_i_1 ?_
    refine lv_iload_n hx hb d_Client_noteUnwritten_17 rfl (lv_at hl 1 rfl) ?_
    refine lv_ishl hx hb d_Client_noteUnwritten_18 ?_
    refine lv_ior hx hb d_Client_noteUnwritten_19 ?_
    replace h := xb h
    obtain ⟨K7, hv, h⟩ := h
    refine xr_pi C X xc_Client (by decide) 7 (by decide) (by decide) rfl rfl rfl m_130 d_Client_noteUnwritten_20 hv (fun H locs X => ?_)
    obtain rfl := Option.some.inj h
    exact xr_vret C X hlk hr d_Client_noteUnwritten_23 (Nat.le_of_ble_eq_true rfl) (Nat.le_of_ble_eq_true rfl)
theorem kc_Client_noteUnwritten (l : Launch) (E : xe) {th : Nat} {x1 : Int32} (h : kf_Client_noteUnwritten_0 K th x1 = some K') : Met l y_Client_noteUnwritten (Cond.code y_Client_noteUnwritten b_Client_noteUnwritten 2 none :: w_all) { frames := 1, cells := 0, slots := 0, locals := 21 } (va_Pc [.ref th, .int x1] (fun U => xx_B E K M U)) (xq_v E K' M) 0 0 (xe_A E) :=
  xr_met (by decide) (Nat.le_of_ble_eq_true rfl) fun p e s m below meth c ls C X hlk hr hin hl => kw_Client_noteUnwritten_0 C hlk hr hin X hl h
set_option maxHeartbeats 4000000 in
set_option maxRecDepth 100000 in
theorem kw_ES_read_48 {x3 : Int64} {r : Int64} (C : xx_C p m c b_ES_read 5 s args Rn_ES E) (hlk : meth.locks = false) (hr : meth.sig.returnType = (some .long)) (hin : meth.name = "read") (X : xx_S E K M s H locs) (hl : lv_has ls 5 [(3, .long x3)]) (h : kf_ES_read_48 K x3 = some (r, K')) : W p l e { frames := 3, cells := 0, slots := 0, locals := 67 } s m args below meth c H locs 0 0 (MQ below (xq_l E K' M r) args s 0 0 (xe_A E)) (F0 m 48 ls []) := by
  have hx := C.1.1
  have hb := C.1.2.1
  unfold kf_ES_read_48 at h
  refine lv_lload_n hx hb d_ES_read_48 rfl (lv_at hl 0 rfl) ?_
  obtain ⟨rfl, rfl⟩ := Prod.mk.inj (Option.some.inj h)
  exact xr_lret C X hlk hr d_ES_read_49 rfl (Nat.le_of_ble_eq_true rfl) (Nat.le_of_ble_eq_true rfl)
set_option maxHeartbeats 4000000 in
set_option maxRecDepth 100000 in
theorem kw_ES_read_0 {th : Nat} {x1 : Int32} {x2 : Int32} {r : Int64} (C : xx_C p m c b_ES_read 5 s args Rn_ES E) (hlk : meth.locks = false) (hr : meth.sig.returnType = (some .long)) (hin : meth.name = "read") (X : xx_S E K M s H locs) (hl : lv_has ls 5 [(0, .ref th), (1, .int x1), (2, .int x2)]) (h : kf_ES_read_0 K th x1 x2 = some (r, K')) : W p l e { frames := 3, cells := 0, slots := 0, locals := 67 } s m args below meth c H locs 0 0 (MQ below (xq_l E K' M r) args s 0 0 (xe_A E)) (F0 m 0 ls []) := by
  have hx := C.1.1
  have hb := C.1.2.1
  unfold kf_ES_read_0 at h
  refine lv_aload_n hx hb d_ES_read_0 rfl (lv_at hl 0 rfl) ?_
  refine lv_iload_n hx hb d_ES_read_1 rfl (lv_at hl 1 rfl) ?_
  replace h := xb h
  obtain ⟨_, hO2, h⟩ := h
  replace h := xpb h
  obtain ⟨r3, K1, hv, h⟩ := h
  refine xr_ki (va_runV (As := [.int x1]) (rest := []) C.1 (kc_ES_isOpen l E hv) (cwV 1 C.1.2.2.2.2 (xw_V m_168 m_169 m_170 m_106 m_171) rfl rfl rfl ky_ES_isOpen ⟨(Nat.le_of_ble_eq_true rfl), (Nat.le_of_ble_eq_true rfl)⟩) (xr_pV C X xc_ES.1 (xk_Xo (xOk hO2) (by decide))) rfl rfl hl.1 rfl (lv_room (Nat.le_of_ble_eq_true rfl)) d_ES_read_2 ⟨(Nat.le_of_ble_eq_true rfl), (Nat.le_of_ble_eq_true rfl)⟩) X (fun H locs X => ?_)
  refine lv_if_eq (tgt := 15) hx hb d_ES_read_5 (by decide +kernel) (fun hc => ?_) (fun hc => ?_)
  · rw [if_pos hc] at h
    refine lv_ldc2 hx hb C.1.2.2.2.1 (C.1.2.2.2.2 _ m_172) d_ES_read_15 ?_
    obtain ⟨rfl, rfl⟩ := Prod.mk.inj (Option.some.inj h)
    exact xr_lret C X hlk hr d_ES_read_18 rfl (Nat.le_of_ble_eq_true rfl) (Nat.le_of_ble_eq_true rfl)
  · rw [if_neg hc] at h
    refine lv_iload_n hx hb d_ES_read_8 rfl (lv_at hl 2 rfl) ?_
    replace h := xpb h
    obtain ⟨r5, K4, hv, h⟩ := h
    refine xr_ki (va_runS (As := [.int x2]) (rest := []) C.1 (kc_ES_isKey l E hv) (cwS 1 C.1.2.2.2.2 (xw_S m_173 m_174 m_106 m_175) rfl rfl rfl ky_ES_isKey ⟨(Nat.le_of_ble_eq_true rfl), (Nat.le_of_ble_eq_true rfl)⟩) (xr_pS C X) rfl rfl hl.1 rfl (lv_room (Nat.le_of_ble_eq_true rfl)) d_ES_read_9 ⟨(Nat.le_of_ble_eq_true rfl), (Nat.le_of_ble_eq_true rfl)⟩) X (fun H locs X => ?_)
    refine lv_if_ne (tgt := 19) hx hb d_ES_read_12 (by decide +kernel) (fun hc => ?_) (fun hc => ?_)
    · rw [if_neg hc] at h
      refine lv_aload_n hx hb d_ES_read_19 rfl (lv_at hl 0 rfl) ?_
      refine lv_aload_n hx hb d_ES_read_20 rfl (lv_at hl 0 rfl) ?_
      replace h := xb h
      obtain ⟨v6, hv, h⟩ := h
      refine xr_gr C X xc_ES (by decide) 3 (by decide) (by decide) rfl m_63 d_ES_read_21 hv ?_
      refine lv_iload_n hx hb d_ES_read_24 rfl (lv_at hl 1 rfl) ?_
      replace h := xb h
      obtain ⟨a8, rfl, h⟩ := h
      replace h := xb h
      obtain ⟨v7, hv, h⟩ := h
      refine xr_aald C X 5 (by decide) rfl rfl d_ES_read_25 hv ?_
      refine lv_iload_n hx hb d_ES_read_26 rfl (lv_at hl 2 rfl) ?_
      replace h := xb h
      obtain ⟨a9, rfl, h⟩ := h
      replace h := xb h
      obtain ⟨_, hO11, h⟩ := h
      replace h := xpb h
      obtain ⟨r12, K10, hv, h⟩ := h
      refine xr_kl (va_runV (As := [.ref a9, .int x2]) (rest := []) C.1 (kc_ES_valueFor l E hv) (cwV 2 C.1.2.2.2.2 (xw_V m_176 m_177 m_178 m_106 m_179) rfl rfl rfl ky_ES_valueFor ⟨(Nat.le_of_ble_eq_true rfl), (Nat.le_of_ble_eq_true rfl)⟩) (xr_pV C X xc_ES.1 (xk_Xo (xOk hO11) (by decide))) rfl rfl hl.1 rfl (lv_room (Nat.le_of_ble_eq_true rfl)) d_ES_read_27 ⟨(Nat.le_of_ble_eq_true rfl), (Nat.le_of_ble_eq_true rfl)⟩) X (fun H locs X => ?_)
      refine lv_lstore_n hx hb d_ES_read_30 rfl hl (by decide) rfl (fun ls hl => ?_)
      have hl : lv_has ls 5 [(3, .long r12), (0, .ref th), (1, .int x1), (2, .int x2)] := hl
      refine lv_lload_n hx hb d_ES_read_31 rfl (lv_at hl 0 rfl) ?_
      replace h := xpb h
      obtain ⟨r14, K13, hv, h⟩ := h
      refine xr_ki (va_runS (As := [.long r12]) (rest := []) C.1 (kc_ES_isValue l E hv) (cwS 1 C.1.2.2.2.2 (xw_S m_180 m_181 m_106 m_182) rfl rfl rfl ky_ES_isValue ⟨(Nat.le_of_ble_eq_true rfl), (Nat.le_of_ble_eq_true rfl)⟩) (xr_pS C X) rfl rfl hl.1 rfl (lv_room (Nat.le_of_ble_eq_true rfl)) d_ES_read_32 ⟨(Nat.le_of_ble_eq_true rfl), (Nat.le_of_ble_eq_true rfl)⟩) X (fun H locs X => ?_)
      refine lv_if_eq (tgt := 48) hx hb d_ES_read_35 (by decide +kernel) (fun hc => ?_) (fun hc => ?_)
      · rw [if_pos hc] at h
        exact kw_ES_read_48 (x3 := r12) C hlk hr hin  X (lv_sub hl [0] rfl) h
      · rw [if_neg hc] at h
        refine lv_aload_n hx hb d_ES_read_38 rfl (lv_at hl 1 rfl) ?_
        replace h := xb h
        obtain ⟨v15, hv, h⟩ := h
        refine xr_gr C X xc_ES (by decide) 3 (by decide) (by decide) rfl m_63 d_ES_read_39 hv ?_
        refine lv_iload_n hx hb d_ES_read_42 rfl (lv_at hl 2 rfl) ?_
        replace h := xb h
        obtain ⟨a17, rfl, h⟩ := h
        replace h := xb h
        obtain ⟨v16, hv, h⟩ := h
        refine xr_aald C X 5 (by decide) rfl rfl d_ES_read_43 hv ?_
        refine lv_iload_n hx hb d_ES_read_44 rfl (lv_at hl 3 rfl) ?_
        replace h := xb h
        obtain ⟨a18, rfl, h⟩ := h
        replace h := xb h
        obtain ⟨_, hO20, h⟩ := h
        replace h := xb h
        obtain ⟨K19, hv, h⟩ := h
        refine xr_kv (va_runV (As := [.int x2]) (rest := []) C.1 (kc_Client_noteUnwritten l E hv) (cwV 1 C.1.2.2.2.2 (xw_V m_183 m_184 m_185 m_88 m_186) rfl rfl rfl ky_Client_noteUnwritten ⟨(Nat.le_of_ble_eq_true rfl), (Nat.le_of_ble_eq_true rfl)⟩) (xr_pV C X xc_Client.1 (xk_Xo (xOk hO20) (by decide))) rfl rfl hl.1 rfl (lv_room (Nat.le_of_ble_eq_true rfl)) d_ES_read_45 ⟨(Nat.le_of_ble_eq_true rfl), (Nat.le_of_ble_eq_true rfl)⟩) X (fun H locs X => ?_)
        exact kw_ES_read_48 (x3 := r12) C hlk hr hin  X (lv_sub hl [0] rfl) h
    · rw [if_pos hc] at h
      refine lv_ldc2 hx hb C.1.2.2.2.1 (C.1.2.2.2.2 _ m_172) d_ES_read_15 ?_
      obtain ⟨rfl, rfl⟩ := Prod.mk.inj (Option.some.inj h)
      exact xr_lret C X hlk hr d_ES_read_18 rfl (Nat.le_of_ble_eq_true rfl) (Nat.le_of_ble_eq_true rfl)
theorem kc_ES_read (l : Launch) (E : xe) {th : Nat} {x1 : Int32} {x2 : Int32} {r : Int64} (h : kf_ES_read_0 K th x1 x2 = some (r, K')) : Met l y_ES_read (Cond.code y_ES_read b_ES_read 5 (some .long) :: w_all) { frames := 3, cells := 0, slots := 0, locals := 67 } (va_Pc [.ref th, .int x1, .int x2] (fun U => xx_B E K M U)) (xq_l E K' M r) 0 0 (xe_A E) :=
  xr_met (by decide) (Nat.le_of_ble_eq_true rfl) fun p e s m below meth c ls C X hlk hr hin hl => kw_ES_read_0 C hlk hr hin X hl h
end KW4
