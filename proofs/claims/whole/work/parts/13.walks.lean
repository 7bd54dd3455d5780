/-! EpochStore$Line.<init>()V -/
def kf_Line_init_26025 (K : xk) (th : Nat) : Option xk := some K
def kf_Line_init_26024 (K : xk) (th : Nat) : Option xk := (xR K 5 0 th).bind fun v1 => xp (xNw K 5 0) fun q2 K3 => (kf_Message_init_0 K3 q2).bind fun K4 => (v1).bind fun a6 => (xRt K4 7 4 a6 (24 : Int32) (some q2)).bind fun K5 => kf_Line_init_26025 K5 th
def kf_Line_init_26023 (K : xk) (th : Nat) : Option xk := (xR K 5 0 th).bind fun v1 => xp (xNw K 5 0) fun q2 K3 => (kf_Message_init_0 K3 q2).bind fun K4 => (v1).bind fun a6 => (xRt K4 7 4 a6 (23 : Int32) (some q2)).bind fun K5 => kf_Line_init_26024 K5 th
def kf_Line_init_26022 (K : xk) (th : Nat) : Option xk := (xR K 5 0 th).bind fun v1 => xp (xNw K 5 0) fun q2 K3 => (kf_Message_init_0 K3 q2).bind fun K4 => (v1).bind fun a6 => (xRt K4 7 4 a6 (22 : Int32) (some q2)).bind fun K5 => kf_Line_init_26023 K5 th
def kf_Line_init_26021 (K : xk) (th : Nat) : Option xk := (xR K 5 0 th).bind fun v1 => xp (xNw K 5 0) fun q2 K3 => (kf_Message_init_0 K3 q2).bind fun K4 => (v1).bind fun a6 => (xRt K4 7 4 a6 (21 : Int32) (some q2)).bind fun K5 => kf_Line_init_26022 K5 th
def kf_Line_init_26020 (K : xk) (th : Nat) : Option xk := (xR K 5 0 th).bind fun v1 => xp (xNw K 5 0) fun q2 K3 => (kf_Message_init_0 K3 q2).bind fun K4 => (v1).bind fun a6 => (xRt K4 7 4 a6 (20 : Int32) (some q2)).bind fun K5 => kf_Line_init_26021 K5 th
def kf_Line_init_26019 (K : xk) (th : Nat) : Option xk := (xR K 5 0 th).bind fun v1 => xp (xNw K 5 0) fun q2 K3 => (kf_Message_init_0 K3 q2).bind fun K4 => (v1).bind fun a6 => (xRt K4 7 4 a6 (19 : Int32) (some q2)).bind fun K5 => kf_Line_init_26020 K5 th
def kf_Line_init_26018 (K : xk) (th : Nat) : Option xk := (xR K 5 0 th).bind fun v1 => xp (xNw K 5 0) fun q2 K3 => (kf_Message_init_0 K3 q2).bind fun K4 => (v1).bind fun a6 => (xRt K4 7 4 a6 (18 : Int32) (some q2)).bind fun K5 => kf_Line_init_26019 K5 th
def kf_Line_init_26017 (K : xk) (th : Nat) : Option xk := (xR K 5 0 th).bind fun v1 => xp (xNw K 5 0) fun q2 K3 => (kf_Message_init_0 K3 q2).bind fun K4 => (v1).bind fun a6 => (xRt K4 7 4 a6 (17 : Int32) (some q2)).bind fun K5 => kf_Line_init_26018 K5 th
def kf_Line_init_26016 (K : xk) (th : Nat) : Option xk := (xR K 5 0 th).bind fun v1 => xp (xNw K 5 0) fun q2 K3 => (kf_Message_init_0 K3 q2).bind fun K4 => (v1).bind fun a6 => (xRt K4 7 4 a6 (16 : Int32) (some q2)).bind fun K5 => kf_Line_init_26017 K5 th
def kf_Line_init_26015 (K : xk) (th : Nat) : Option xk := (xR K 5 0 th).bind fun v1 => xp (xNw K 5 0) fun q2 K3 => (kf_Message_init_0 K3 q2).bind fun K4 => (v1).bind fun a6 => (xRt K4 7 4 a6 (15 : Int32) (some q2)).bind fun K5 => kf_Line_init_26016 K5 th
def kf_Line_init_26014 (K : xk) (th : Nat) : Option xk := (xR K 5 0 th).bind fun v1 => xp (xNw K 5 0) fun q2 K3 => (kf_Message_init_0 K3 q2).bind fun K4 => (v1).bind fun a6 => (xRt K4 7 4 a6 (14 : Int32) (some q2)).bind fun K5 => kf_Line_init_26015 K5 th
def kf_Line_init_26013 (K : xk) (th : Nat) : Option xk := (xR K 5 0 th).bind fun v1 => xp (xNw K 5 0) fun q2 K3 => (kf_Message_init_0 K3 q2).bind fun K4 => (v1).bind fun a6 => (xRt K4 7 4 a6 (13 : Int32) (some q2)).bind fun K5 => kf_Line_init_26014 K5 th
def kf_Line_init_26012 (K : xk) (th : Nat) : Option xk := (xR K 5 0 th).bind fun v1 => xp (xNw K 5 0) fun q2 K3 => (kf_Message_init_0 K3 q2).bind fun K4 => (v1).bind fun a6 => (xRt K4 7 4 a6 (12 : Int32) (some q2)).bind fun K5 => kf_Line_init_26013 K5 th
def kf_Line_init_26011 (K : xk) (th : Nat) : Option xk := (xR K 5 0 th).bind fun v1 => xp (xNw K 5 0) fun q2 K3 => (kf_Message_init_0 K3 q2).bind fun K4 => (v1).bind fun a6 => (xRt K4 7 4 a6 (11 : Int32) (some q2)).bind fun K5 => kf_Line_init_26012 K5 th
def kf_Line_init_26010 (K : xk) (th : Nat) : Option xk := (xR K 5 0 th).bind fun v1 => xp (xNw K 5 0) fun q2 K3 => (kf_Message_init_0 K3 q2).bind fun K4 => (v1).bind fun a6 => (xRt K4 7 4 a6 (10 : Int32) (some q2)).bind fun K5 => kf_Line_init_26011 K5 th
def kf_Line_init_26009 (K : xk) (th : Nat) : Option xk := (xR K 5 0 th).bind fun v1 => xp (xNw K 5 0) fun q2 K3 => (kf_Message_init_0 K3 q2).bind fun K4 => (v1).bind fun a6 => (xRt K4 7 4 a6 (9 : Int32) (some q2)).bind fun K5 => kf_Line_init_26010 K5 th
def kf_Line_init_26008 (K : xk) (th : Nat) : Option xk := (xR K 5 0 th).bind fun v1 => xp (xNw K 5 0) fun q2 K3 => (kf_Message_init_0 K3 q2).bind fun K4 => (v1).bind fun a6 => (xRt K4 7 4 a6 (8 : Int32) (some q2)).bind fun K5 => kf_Line_init_26009 K5 th
def kf_Line_init_26007 (K : xk) (th : Nat) : Option xk := (xR K 5 0 th).bind fun v1 => xp (xNw K 5 0) fun q2 K3 => (kf_Message_init_0 K3 q2).bind fun K4 => (v1).bind fun a6 => (xRt K4 7 4 a6 (7 : Int32) (some q2)).bind fun K5 => kf_Line_init_26008 K5 th
def kf_Line_init_26006 (K : xk) (th : Nat) : Option xk := (xR K 5 0 th).bind fun v1 => xp (xNw K 5 0) fun q2 K3 => (kf_Message_init_0 K3 q2).bind fun K4 => (v1).bind fun a6 => (xRt K4 7 4 a6 (6 : Int32) (some q2)).bind fun K5 => kf_Line_init_26007 K5 th
def kf_Line_init_26005 (K : xk) (th : Nat) : Option xk := (xR K 5 0 th).bind fun v1 => xp (xNw K 5 0) fun q2 K3 => (kf_Message_init_0 K3 q2).bind fun K4 => (v1).bind fun a6 => (xRt K4 7 4 a6 (5 : Int32) (some q2)).bind fun K5 => kf_Line_init_26006 K5 th
def kf_Line_init_26004 (K : xk) (th : Nat) : Option xk := (xR K 5 0 th).bind fun v1 => xp (xNw K 5 0) fun q2 K3 => (kf_Message_init_0 K3 q2).bind fun K4 => (v1).bind fun a6 => (xRt K4 7 4 a6 (4 : Int32) (some q2)).bind fun K5 => kf_Line_init_26005 K5 th
def kf_Line_init_26003 (K : xk) (th : Nat) : Option xk := (xR K 5 0 th).bind fun v1 => xp (xNw K 5 0) fun q2 K3 => (kf_Message_init_0 K3 q2).bind fun K4 => (v1).bind fun a6 => (xRt K4 7 4 a6 (3 : Int32) (some q2)).bind fun K5 => kf_Line_init_26004 K5 th
def kf_Line_init_26002 (K : xk) (th : Nat) : Option xk := (xR K 5 0 th).bind fun v1 => xp (xNw K 5 0) fun q2 K3 => (kf_Message_init_0 K3 q2).bind fun K4 => (v1).bind fun a6 => (xRt K4 7 4 a6 (2 : Int32) (some q2)).bind fun K5 => kf_Line_init_26003 K5 th
def kf_Line_init_26001 (K : xk) (th : Nat) : Option xk := (xR K 5 0 th).bind fun v1 => xp (xNw K 5 0) fun q2 K3 => (kf_Message_init_0 K3 q2).bind fun K4 => (v1).bind fun a6 => (xRt K4 7 4 a6 (1 : Int32) (some q2)).bind fun K5 => kf_Line_init_26002 K5 th
def kf_Line_init_26000 (K : xk) (th : Nat) : Option xk := (xR K 5 0 th).bind fun v1 => xp (xNw K 5 0) fun q2 K3 => (kf_Message_init_0 K3 q2).bind fun K4 => (v1).bind fun a6 => (xRt K4 7 4 a6 (0 : Int32) (some q2)).bind fun K5 => kf_Line_init_26001 K5 th
def kf_Line_init_0 (K : xk) (th : Nat) : Option xk := xp (xNw K 107 25) fun q1 K2 => (xRs K2 5 0 th (some q1)).bind fun K3 => xp (xNw K3 5 0) fun q4 K5 => (kf_Message_init_0 K5 q4).bind fun K6 => (xRs K6 5 1 th (some q4)).bind fun K7 => kf_Line_init_26000 K7 th
section KW1
variable {p : Program} {l : Launch} {e : Env} {s : State} {m : MethodId} {args : Array Value} {below : List Frame} {meth : Method} {c : Code} {H : Heap} {locs : List Loc} {ls : Array Slot} {E : xe} {K K' : xk} {M M' : xm}
set_option maxHeartbeats 4000000 in
set_option maxRecDepth 100000 in
theorem kw_Line_init_26025 {th : Nat} (C : xx_C p m c b_Line_init 2 s args Rn_Line E) (hlk : meth.locks = false) (hr : meth.sig.returnType = none) (hin : meth.name = "<init>") (X : xx_S E K M s H locs) (hl : lv_has ls 2 [(0, .ref th), (1, .int (25 : Int32))]) (h : kf_Line_init_26025 K th = some K') : W p l e { frames := 2, cells := 27, slots := 285, locals := 40 } s m args below meth c H locs 27 285 (MQ below (xq_v E K' M) args s 27 285 (xe_A E)) (F0 m 26 ls []) := by
  have hx := C.1.1
  have hb := C.1.2.1
  unfold kf_Line_init_26025 at h
  refine lv_iload_n hx hb d_Line_init_26 rfl (lv_at hl 1 rfl) ?_
  refine lv_bipush hx hb d_Line_init_27 kn_b_24 ?_
  refine lv_icmp_gt (tgt := 51) hx hb d_Line_init_29 (by decide +kernel) (fun _ => ?_) (fun hc => absurd hc (by decide +kernel))
  obtain rfl := Option.some.inj h
  exact xr_vret C X hlk hr d_Line_init_51 (Nat.le_of_ble_eq_true rfl) (Nat.le_of_ble_eq_true rfl)
set_option maxHeartbeats 4000000 in
set_option maxRecDepth 100000 in
theorem kw_Line_init_26024 {th : Nat} (C : xx_C p m c b_Line_init 2 s args Rn_Line E) (hlk : meth.locks = false) (hr : meth.sig.returnType = none) (hin : meth.name = "<init>") (X : xx_S E K M s H locs) (hl : lv_has ls 2 [(0, .ref th), (1, .int (24 : Int32))]) (h : kf_Line_init_26024 K th = some K') : W p l e { frames := 2, cells := 27, slots := 285, locals := 40 } s m args below meth c H locs 26 275 (MQ below (xq_v E K' M) args s 27 285 (xe_A E)) (F0 m 26 ls []) := by
  have hx := C.1.1
  have hb := C.1.2.1
  unfold kf_Line_init_26024 at h
  refine lv_iload_n hx hb d_Line_init_26 rfl (lv_at hl 1 rfl) ?_
  refine lv_bipush hx hb d_Line_init_27 kn_b_24 ?_
  refine lv_icmp_gt (tgt := 51) hx hb d_Line_init_29 (by decide +kernel) (fun hc => absurd hc (by decide +kernel)) (fun _ => ?_)
  refine lv_aload_n hx hb d_Line_init_32 rfl (lv_at hl 0 rfl) ?_
  replace h := xb h
  obtain ⟨v1, hv, h⟩ := h
  refine xr_gr C X xc_Line (by decide) 0 (by decide) (by decide) rfl m_5 d_Line_init_33 hv ?_
  refine lv_iload_n hx hb d_Line_init_36 rfl (lv_at hl 1 rfl) ?_
  replace h := xpb h
  obtain ⟨q2, K3, hv, h⟩ := h
  refine xr_new C X xc_Message (by decide) rfl xdf_Message m_4 m_6 m_7 d_Line_init_37 (Nat.le_of_ble_eq_true rfl) (Nat.le_of_ble_eq_true rfl) hv (fun H X => ?_)
  refine lv_dup hx hb d_Line_init_40 rfl ?_
  replace h := xb h
  obtain ⟨K4, hv, h⟩ := h
  refine xr_kv (va_runIN (As := []) (rest := [.ref q2, .int (24 : Int32), va_rf v1]) C.1 (kc_Message_init l E hv) ⟨va_cnB 0 C.1.2.2.2.2 (xw_in m_8) rfl rfl rfl (C.2.2.1 (Rn_Line, 17, y_Message_init, "EpochStore") (List.mem_of_getElem? (i := 0) rfl)) (C.1.2.2.2.2 _ m_7) ky_Message_init ⟨(Nat.le_of_ble_eq_true rfl), (Nat.le_of_ble_eq_true rfl)⟩, rfl, C.1.2.2.2.2 _ m_9⟩ (xr_pS C X) rfl rfl hl.1 rfl (lv_room (by simp [xr_cat, xr_c_i, xr_c_a, xr_c_l])) d_Line_init_41 ⟨(Nat.le_of_ble_eq_true rfl), (Nat.le_of_ble_eq_true rfl)⟩) X (fun H locs X => ?_)
  replace h := xb h
  obtain ⟨a6, rfl, h⟩ := h
  replace h := xb h
  obtain ⟨K5, hv, h⟩ := h
  refine xr_aast (v := (some q2)) C X 7 4 (by decide) (by decide) rfl rfl rfl d_Line_init_44 hv (fun H locs X => ?_)
  refine lv_iinc (k := 1) (v := (25 : Int32)) hx hb d_Line_init_45 hl rfl (by decide +kernel) (by decide) rfl (fun ls hl => ?_)
  have hl : lv_has ls 2 [(1, .int (25 : Int32)), (0, .ref th)] := hl
  refine lv_goto (tgt := 26) hx hb d_Line_init_48 (by decide +kernel) ?_
  exact kw_Line_init_26025 (th := th) C hlk hr hin  X (lv_sub hl [1, 0] rfl) h
set_option maxHeartbeats 4000000 in
set_option maxRecDepth 100000 in
theorem kw_Line_init_26023 {th : Nat} (C : xx_C p m c b_Line_init 2 s args Rn_Line E) (hlk : meth.locks = false) (hr : meth.sig.returnType = none) (hin : meth.name = "<init>") (X : xx_S E K M s H locs) (hl : lv_has ls 2 [(0, .ref th), (1, .int (23 : Int32))]) (h : kf_Line_init_26023 K th = some K') : W p l e { frames := 2, cells := 27, slots := 285, locals := 40 } s m args below meth c H locs 25 265 (MQ below (xq_v E K' M) args s 27 285 (xe_A E)) (F0 m 26 ls []) := by
  have hx := C.1.1
  have hb := C.1.2.1
  unfold kf_Line_init_26023 at h
  refine lv_iload_n hx hb d_Line_init_26 rfl (lv_at hl 1 rfl) ?_
  refine lv_bipush hx hb d_Line_init_27 kn_b_24 ?_
  refine lv_icmp_gt (tgt := 51) hx hb d_Line_init_29 (by decide +kernel) (fun hc => absurd hc (by decide +kernel)) (fun _ => ?_)
  refine lv_aload_n hx hb d_Line_init_32 rfl (lv_at hl 0 rfl) ?_
  replace h := xb h
  obtain ⟨v1, hv, h⟩ := h
  refine xr_gr C X xc_Line (by decide) 0 (by decide) (by decide) rfl m_5 d_Line_init_33 hv ?_
  refine lv_iload_n hx hb d_Line_init_36 rfl (lv_at hl 1 rfl) ?_
  replace h := xpb h
  obtain ⟨q2, K3, hv, h⟩ := h
  refine xr_new C X xc_Message (by decide) rfl xdf_Message m_4 m_6 m_7 d_Line_init_37 (Nat.le_of_ble_eq_true rfl) (Nat.le_of_ble_eq_true rfl) hv (fun H X => ?_)
  refine lv_dup hx hb d_Line_init_40 rfl ?_
  replace h := xb h
  obtain ⟨K4, hv, h⟩ := h
  refine xr_kv (va_runIN (As := []) (rest := [.ref q2, .int (23 : Int32), va_rf v1]) C.1 (kc_Message_init l E hv) ⟨va_cnB 0 C.1.2.2.2.2 (xw_in m_8) rfl rfl rfl (C.2.2.1 (Rn_Line, 17, y_Message_init, "EpochStore") (List.mem_of_getElem? (i := 0) rfl)) (C.1.2.2.2.2 _ m_7) ky_Message_init ⟨(Nat.le_of_ble_eq_true rfl), (Nat.le_of_ble_eq_true rfl)⟩, rfl, C.1.2.2.2.2 _ m_9⟩ (xr_pS C X) rfl rfl hl.1 rfl (lv_room (by simp [xr_cat, xr_c_i, xr_c_a, xr_c_l])) d_Line_init_41 ⟨(Nat.le_of_ble_eq_true rfl), (Nat.le_of_ble_eq_true rfl)⟩) X (fun H locs X => ?_)
  replace h := xb h
  obtain ⟨a6, rfl, h⟩ := h
  replace h := xb h
  obtain ⟨K5, hv, h⟩ := h
  refine xr_aast (v := (some q2)) C X 7 4 (by decide) (by decide) rfl rfl rfl d_Line_init_44 hv (fun H locs X => ?_)
  refine lv_iinc (k := 1) (v := (24 : Int32)) hx hb d_Line_init_45 hl rfl (by decide +kernel) (by decide) rfl (fun ls hl => ?_)
  have hl : lv_has ls 2 [(1, .int (24 : Int32)), (0, .ref th)] := hl
  refine lv_goto (tgt := 26) hx hb d_Line_init_48 (by decide +kernel) ?_
  exact kw_Line_init_26024 (th := th) C hlk hr hin  X (lv_sub hl [1, 0] rfl) h
set_option maxHeartbeats 4000000 in
set_option maxRecDepth 100000 in
theorem kw_Line_init_26022 {th : Nat} (C : xx_C p m c b_Line_init 2 s args Rn_Line E) (hlk : meth.locks = false) (hr : meth.sig.returnType = none) (hin : meth.name = "<init>") (X : xx_S E K M s H locs) (hl : lv_has ls 2 [(0, .ref th), (1, .int (22 : Int32))]) (h : kf_Line_init_26022 K th = some K') : W p l e { frames := 2, cells := 27, slots := 285, locals := 40 } s m args below meth c H locs 24 255 (MQ below (xq_v E K' M) args s 27 285 (xe_A E)) (F0 m 26 ls []) := by
  have hx := C.1.1
  have hb := C.1.2.1
  unfold kf_Line_init_26022 at h
  refine lv_iload_n hx hb d_Line_init_26 rfl (lv_at hl 1 rfl) ?_
  refine lv_bipush hx hb d_Line_init_27 kn_b_24 ?_
  refine lv_icmp_gt (tgt := 51) hx hb d_Line_init_29 (by decide +kernel) (fun hc => absurd hc (by decide +kernel)) (fun _ => ?_)
  refine lv_aload_n hx hb d_Line_init_32 rfl (lv_at hl 0 rfl) ?_
  replace h := xb h
  obtain ⟨v1, hv, h⟩ := h
  refine xr_gr C X xc_Line (by decide) 0 (by decide) (by decide) rfl m_5 d_Line_init_33 hv ?_
  refine lv_iload_n hx hb d_Line_init_36 rfl (lv_at hl 1 rfl) ?_
  replace h := xpb h
  obtain ⟨q2, K3, hv, h⟩ := h
  refine xr_new C X xc_Message (by decide) rfl xdf_Message m_4 m_6 m_7 d_Line_init_37 (Nat.le_of_ble_eq_true rfl) (Nat.le_of_ble_eq_true rfl) hv (fun H X => ?_)
  refine lv_dup hx hb d_Line_init_40 rfl ?_
  replace h := xb h
  obtain ⟨K4, hv, h⟩ := h
  refine xr_kv (va_runIN (As := []) (rest := [.ref q2, .int (22 : Int32), va_rf v1]) C.1 (kc_Message_init l E hv) ⟨va_cnB 0 C.1.2.2.2.2 (xw_in m_8) rfl rfl rfl (C.2.2.1 (Rn_Line, 17, y_Message_init, "EpochStore") (List.mem_of_getElem? (i := 0) rfl)) (C.1.2.2.2.2 _ m_7) ky_Message_init ⟨(Nat.le_of_ble_eq_true rfl), (Nat.le_of_ble_eq_true rfl)⟩, rfl, C.1.2.2.2.2 _ m_9⟩ (xr_pS C X) rfl rfl hl.1 rfl (lv_room (by simp [xr_cat, xr_c_i, xr_c_a, xr_c_l])) d_Line_init_41 ⟨(Nat.le_of_ble_eq_true rfl), (Nat.le_of_ble_eq_true rfl)⟩) X (fun H locs X => ?_)
  replace h := xb h
  obtain ⟨a6, rfl, h⟩ := h
  replace h := xb h
  obtain ⟨K5, hv, h⟩ := h
  refine xr_aast (v := (some q2)) C X 7 4 (by decide) (by decide) rfl rfl rfl d_Line_init_44 hv (fun H locs X => ?_)
  refine lv_iinc (k := 1) (v := (23 : Int32)) hx hb d_Line_init_45 hl rfl (by decide +kernel) (by decide) rfl (fun ls hl => ?_)
  have hl : lv_has ls 2 [(1, .int (23 : Int32)), (0, .ref th)] := hl
  refine lv_goto (tgt := 26) hx hb d_Line_init_48 (by decide +kernel) ?_
  exact kw_Line_init_26023 (th := th) C hlk hr hin  X (lv_sub hl [1, 0] rfl) h
set_option maxHeartbeats 4000000 in
set_option maxRecDepth 100000 in
theorem kw_Line_init_26021 {th : Nat} (C : xx_C p m c b_Line_init 2 s args Rn_Line E) (hlk : meth.locks = false) (hr : meth.sig.returnType = none) (hin : meth.name = "<init>") (X : xx_S E K M s H locs) (hl : lv_has ls 2 [(0, .ref th), (1, .int (21 : Int32))]) (h : kf_Line_init_26021 K th = some K') : W p l e { frames := 2, cells := 27, slots := 285, locals := 40 } s m args below meth c H locs 23 245 (MQ below (xq_v E K' M) args s 27 285 (xe_A E)) (F0 m 26 ls []) := by
  have hx := C.1.1
  have hb := C.1.2.1
  unfold kf_Line_init_26021 at h
  refine lv_iload_n hx hb d_Line_init_26 rfl (lv_at hl 1 rfl) ?_
  refine lv_bipush hx hb d_Line_init_27 kn_b_24 ?_
  refine lv_icmp_gt (tgt := 51) hx hb d_Line_init_29 (by decide +kernel) (fun hc => absurd hc (by decide +kernel)) (fun _ => ?_)
  refine lv_aload_n hx hb d_Line_init_32 rfl (lv_at hl 0 rfl) ?_
  replace h := xb h
  obtain ⟨v1, hv, h⟩ := h
  refine xr_gr C X xc_Line (by decide) 0 (by decide) (by decide) rfl m_5 d_Line_init_33 hv ?_
  refine lv_iload_n hx hb d_Line_init_36 rfl (lv_at hl 1 rfl) ?_
  replace h := xpb h
  obtain ⟨q2, K3, hv, h⟩ := h
  refine xr_new C X xc_Message (by decide) rfl xdf_Message m_4 m_6 m_7 d_Line_init_37 (Nat.le_of_ble_eq_true rfl) (Nat.le_of_ble_eq_true rfl) hv (fun H X => ?_)
  refine lv_dup hx hb d_Line_init_40 rfl ?_
  replace h := xb h
  obtain ⟨K4, hv, h⟩ := h
  refine xr_kv (va_runIN (As := []) (rest := [.ref q2, .int (21 : Int32), va_rf v1]) C.1 (kc_Message_init l E hv) ⟨va_cnB 0 C.1.2.2.2.2 (xw_in m_8) rfl rfl rfl (C.2.2.1 (Rn_Line, 17, y_Message_init, "EpochStore") (List.mem_of_getElem? (i := 0) rfl)) (C.1.2.2.2.2 _ m_7) ky_Message_init ⟨(Nat.le_of_ble_eq_true rfl), (Nat.le_of_ble_eq_true rfl)⟩, rfl, C.1.2.2.2.2 _ m_9⟩ (xr_pS C X) rfl rfl hl.1 rfl (lv_room (by simp [xr_cat, xr_c_i, xr_c_a, xr_c_l])) d_Line_init_41 ⟨(Nat.le_of_ble_eq_true rfl), (Nat.le_of_ble_eq_true rfl)⟩) X (fun H locs X => ?_)
  replace h := xb h
  obtain ⟨a6, rfl, h⟩ := h
  replace h := xb h
  obtain ⟨K5, hv, h⟩ := h
  refine xr_aast (v := (some q2)) C X 7 4 (by decide) (by decide) rfl rfl rfl d_Line_init_44 hv (fun H locs X => ?_)
  refine lv_iinc (k := 1) (v := (22 : Int32)) hx hb d_Line_init_45 hl rfl (by decide +kernel) (by decide) rfl (fun ls hl => ?_)
  have hl : lv_has ls 2 [(1, .int (22 : Int32)), (0, .ref th)] := hl
  refine lv_goto (tgt := 26) hx hb d_Line_init_48 (by decide +kernel) ?_
  exact kw_Line_init_26022 (th := th) C hlk hr hin  X (lv_sub hl [1, 0] rfl) h
set_option maxHeartbeats 4000000 in
set_option maxRecDepth 100000 in
theorem kw_Line_init_26020 {th : Nat} (C : xx_C p m c b_Line_init 2 s args Rn_Line E) (hlk : meth.locks = false) (hr : meth.sig.returnType = none) (hin : meth.name = "<init>") (X : xx_S E K M s H locs) (hl : lv_has ls 2 [(0, .ref th), (1, .int (20 : Int32))]) (h : kf_Line_init_26020 K th = some K') : W p l e { frames := 2, cells := 27, slots := 285, locals := 40 } s m args below meth c H locs 22 235 (MQ below (xq_v E K' M) args s 27 285 (xe_A E)) (F0 m 26 ls []) := by
  have hx := C.1.1
  have hb := C.1.2.1
  unfold kf_Line_init_26020 at h
  refine lv_iload_n hx hb d_Line_init_26 rfl (lv_at hl 1 rfl) ?_
  refine lv_bipush hx hb d_Line_init_27 kn_b_24 ?_
  refine lv_icmp_gt (tgt := 51) hx hb d_Line_init_29 (by decide +kernel) (fun hc => absurd hc (by decide +kernel)) (fun _ => ?_)
  refine lv_aload_n hx hb d_Line_init_32 rfl (lv_at hl 0 rfl) ?_
  replace h := xb h
  obtain ⟨v1, hv, h⟩ := h
  refine xr_gr C X xc_Line (by decide) 0 (by decide) (by decide) rfl m_5 d_Line_init_33 hv ?_
  refine lv_iload_n hx hb d_Line_init_36 rfl (lv_at hl 1 rfl) ?_
  replace h := xpb h
  obtain ⟨q2, K3, hv, h⟩ := h
  refine xr_new C X xc_Message (by decide) rfl xdf_Message m_4 m_6 m_7 d_Line_init_37 (Nat.le_of_ble_eq_true rfl) (Nat.le_of_ble_eq_true rfl) hv (fun H X => ?_)
  refine lv_dup hx hb d_Line_init_40 rfl ?_
  replace h := xb h
  obtain ⟨K4, hv, h⟩ := h
  refine xr_kv (va_runIN (As := []) (rest := [.ref q2, .int (20 : Int32), va_rf v1]) C.1 (kc_Message_init l E hv) ⟨va_cnB 0 C.1.2.2.2.2 (xw_in m_8) rfl rfl rfl (C.2.2.1 (Rn_Line, 17, y_Message_init, "EpochStore") (List.mem_of_getElem? (i := 0) rfl)) (C.1.2.2.2.2 _ m_7) ky_Message_init ⟨(Nat.le_of_ble_eq_true rfl), (Nat.le_of_ble_eq_true rfl)⟩, rfl, C.1.2.2.2.2 _ m_9⟩ (xr_pS C X) rfl rfl hl.1 rfl (lv_room (by simp [xr_cat, xr_c_i, xr_c_a, xr_c_l])) d_Line_init_41 ⟨(Nat.le_of_ble_eq_true rfl), (Nat.le_of_ble_eq_true rfl)⟩) X (fun H locs X => ?_)
  replace h := xb h
  obtain ⟨a6, rfl, h⟩ := h
  replace h := xb h
  obtain ⟨K5, hv, h⟩ := h
  refine xr_aast (v := (some q2)) C X 7 4 (by decide) (by decide) rfl rfl rfl d_Line_init_44 hv (fun H locs X => ?_)
  refine lv_iinc (k := 1) (v := (21 : Int32)) hx hb d_Line_init_45 hl rfl (by decide +kernel) (by decide) rfl (fun ls hl => ?_)
  have hl : lv_has ls 2 [(1, .int (21 : Int32)), (0, .ref th)] := hl
  refine lv_goto (tgt := 26) hx hb d_Line_init_48 (by decide +kernel) ?_
  exact kw_Line_init_26021 (th := th) C hlk hr hin  X (lv_sub hl [1, 0] rfl) h
set_option maxHeartbeats 4000000 in
set_option maxRecDepth 100000 in
theorem kw_Line_init_26019 {th : Nat} (C : xx_C p m c b_Line_init 2 s args Rn_Line E) (hlk : meth.locks = false) (hr : meth.sig.returnType = none) (hin : meth.name = "<init>") (X : xx_S E K M s H locs) (hl : lv_has ls 2 [(0, .ref th), (1, .int (19 : Int32))]) (h : kf_Line_init_26019 K th = some K') : W p l e { frames := 2, cells := 27, slots := 285, locals := 40 } s m args below meth c H locs 21 225 (MQ below (xq_v E K' M) args s 27 285 (xe_A E)) (F0 m 26 ls []) := by
  have hx := C.1.1
  have hb := C.1.2.1
  unfold kf_Line_init_26019 at h
  refine lv_iload_n hx hb d_Line_init_26 rfl (lv_at hl 1 rfl) ?_
  refine lv_bipush hx hb d_Line_init_27 kn_b_24 ?_
  refine lv_icmp_gt (tgt := 51) hx hb d_Line_init_29 (by decide +kernel) (fun hc => absurd hc (by decide +kernel)) (fun _ => ?_)
  refine lv_aload_n hx hb d_Line_init_32 rfl (lv_at hl 0 rfl) ?_
  replace h := xb h
  obtain ⟨v1, hv, h⟩ := h
  refine xr_gr C X xc_Line (by decide) 0 (by decide) (by decide) rfl m_5 d_Line_init_33 hv ?_
  refine lv_iload_n hx hb d_Line_init_36 rfl (lv_at hl 1 rfl) ?_
  replace h := xpb h
  obtain ⟨q2, K3, hv, h⟩ := h
  refine xr_new C X xc_Message (by decide) rfl xdf_Message m_4 m_6 m_7 d_Line_init_37 (Nat.le_of_ble_eq_true rfl) (Nat.le_of_ble_eq_true rfl) hv (fun H X => ?_)
  refine lv_dup hx hb d_Line_init_40 rfl ?_
  replace h := xb h
  obtain ⟨K4, hv, h⟩ := h
  refine xr_kv (va_runIN (As := []) (rest := [.ref q2, .int (19 : Int32), va_rf v1]) C.1 (kc_Message_init l E hv) ⟨va_cnB 0 C.1.2.2.2.2 (xw_in m_8) rfl rfl rfl (C.2.2.1 (Rn_Line, 17, y_Message_init, "EpochStore") (List.mem_of_getElem? (i := 0) rfl)) (C.1.2.2.2.2 _ m_7) ky_Message_init ⟨(Nat.le_of_ble_eq_true rfl), (Nat.le_of_ble_eq_true rfl)⟩, rfl, C.1.2.2.2.2 _ m_9⟩ (xr_pS C X) rfl rfl hl.1 rfl (lv_room (by simp [xr_cat, xr_c_i, xr_c_a, xr_c_l])) d_Line_init_41 ⟨(Nat.le_of_ble_eq_true rfl), (Nat.le_of_ble_eq_true rfl)⟩) X (fun H locs X => ?_)
  replace h := xb h
  obtain ⟨a6, rfl, h⟩ := h
  replace h := xb h
  obtain ⟨K5, hv, h⟩ := h
  refine xr_aast (v := (some q2)) C X 7 4 (by decide) (by decide) rfl rfl rfl d_Line_init_44 hv (fun H locs X => ?_)
  refine lv_iinc (k := 1) (v := (20 : Int32)) hx hb d_Line_init_45 hl rfl (by decide +kernel) (by decide) rfl (fun ls hl => ?_)
  have hl : lv_has ls 2 [(1, .int (20 : Int32)), (0, .ref th)] := hl
  refine lv_goto (tgt := 26) hx hb d_Line_init_48 (by decide +kernel) ?_
  exact kw_Line_init_26020 (th := th) C hlk hr hin  X (lv_sub hl [1, 0] rfl) h
set_option maxHeartbeats 4000000 in
set_option maxRecDepth 100000 in
theorem kw_Line_init_26018 {th : Nat} (C : xx_C p m c b_Line_init 2 s args Rn_Line E) (hlk : meth.locks = false) (hr : meth.sig.returnType = none) (hin : meth.name = "<init>") (X : xx_S E K M s H locs) (hl : lv_has ls 2 [(0, .ref th), (1, .int (18 : Int32))]) (h : kf_Line_init_26018 K th = some K') : W p l e { frames := 2, cells := 27, slots := 285, locals := 40 } s m args below meth c H locs 20 215 (MQ below (xq_v E K' M) args s 27 285 (xe_A E)) (F0 m 26 ls []) := by
  have hx := C.1.1
  have hb := C.1.2.1
  unfold kf_Line_init_26018 at h
  refine lv_iload_n hx hb d_Line_init_26 rfl (lv_at hl 1 rfl) ?_
  refine lv_bipush hx hb d_Line_init_27 kn_b_24 ?_
  refine lv_icmp_gt (tgt := 51) hx hb d_Line_init_29 (by decide +kernel) (fun hc => absurd hc (by decide +kernel)) (fun _ => ?_)
  refine lv_aload_n hx hb d_Line_init_32 rfl (lv_at hl 0 rfl) ?_
  replace h := xb h
  obtain ⟨v1, hv, h⟩ := h
  refine xr_gr C X xc_Line (by decide) 0 (by decide) (by decide) rfl m_5 d_Line_init_33 hv ?_
  refine lv_iload_n hx hb d_Line_init_36 rfl (lv_at hl 1 rfl) ?_
  replace h := xpb h
  obtain ⟨q2, K3, hv, h⟩ := h
  refine xr_new C X xc_Message (by decide) rfl xdf_Message m_4 m_6 m_7 d_Line_init_37 (Nat.le_of_ble_eq_true rfl) (Nat.le_of_ble_eq_true rfl) hv (fun H X => ?_)
  refine lv_dup hx hb d_Line_init_40 rfl ?_
  replace h := xb h
  obtain ⟨K4, hv, h⟩ := h
  refine xr_kv (va_runIN (As := []) (rest := [.ref q2, .int (18 : Int32), va_rf v1]) C.1 (kc_Message_init l E hv) ⟨va_cnB 0 C.1.2.2.2.2 (xw_in m_8) rfl rfl rfl (C.2.2.1 (Rn_Line, 17, y_Message_init, "EpochStore") (List.mem_of_getElem? (i := 0) rfl)) (C.1.2.2.2.2 _ m_7) ky_Message_init ⟨(Nat.le_of_ble_eq_true rfl), (Nat.le_of_ble_eq_true rfl)⟩, rfl, C.1.2.2.2.2 _ m_9⟩ (xr_pS C X) rfl rfl hl.1 rfl (lv_room (by simp [xr_cat, xr_c_i, xr_c_a, xr_c_l])) d_Line_init_41 ⟨(Nat.le_of_ble_eq_true rfl), (Nat.le_of_ble_eq_true rfl)⟩) X (fun H locs X => ?_)
  replace h := xb h
  obtain ⟨a6, rfl, h⟩ := h
  replace h := xb h
  obtain ⟨K5, hv, h⟩ := h
  refine xr_aast (v := (some q2)) C X 7 4 (by decide) (by decide) rfl rfl rfl d_Line_init_44 hv (fun H locs X => ?_)
  refine lv_iinc (k := 1) (v := (19 : Int32)) hx hb d_Line_init_45 hl rfl (by decide +kernel) (by decide) rfl (fun ls hl => ?_)
  have hl : lv_has ls 2 [(1, .int (19 : Int32)), (0, .ref th)] := hl
  refine lv_goto (tgt := 26) hx hb d_Line_init_48 (by decide +kernel) ?_
  exact kw_Line_init_26019 (th := th) C hlk hr hin  X (lv_sub hl [1, 0] rfl) h
set_option maxHeartbeats 4000000 in
set_option maxRecDepth 100000 in
theorem kw_Line_init_26017 {th : Nat} (C : xx_C p m c b_Line_init 2 s args Rn_Line E) (hlk : meth.locks = false) (hr : meth.sig.returnType = none) (hin : meth.name = "<init>") (X : xx_S E K M s H locs) (hl : lv_has ls 2 [(0, .ref th), (1, .int (17 : Int32))]) (h : kf_Line_init_26017 K th = some K') : W p l e { frames := 2, cells := 27, slots := 285, locals := 40 } s m args below meth c H locs 19 205 (MQ below (xq_v E K' M) args s 27 285 (xe_A E)) (F0 m 26 ls []) := by
  have hx := C.1.1
  have hb := C.1.2.1
  unfold kf_Line_init_26017 at h
  refine lv_iload_n hx hb d_Line_init_26 rfl (lv_at hl 1 rfl) ?_
  refine lv_bipush hx hb d_Line_init_27 kn_b_24 ?_
  refine lv_icmp_gt (tgt := 51) hx hb d_Line_init_29 (by decide +kernel) (fun hc => absurd hc (by decide +kernel)) (fun _ => ?_)
  refine lv_aload_n hx hb d_Line_init_32 rfl (lv_at hl 0 rfl) ?_
  replace h := xb h
  obtain ⟨v1, hv, h⟩ := h
  refine xr_gr C X xc_Line (by decide) 0 (by decide) (by decide) rfl m_5 d_Line_init_33 hv ?_
  refine lv_iload_n hx hb d_Line_init_36 rfl (lv_at hl 1 rfl) ?_
  replace h := xpb h
  obtain ⟨q2, K3, hv, h⟩ := h
  refine xr_new C X xc_Message (by decide) rfl xdf_Message m_4 m_6 m_7 d_Line_init_37 (Nat.le_of_ble_eq_true rfl) (Nat.le_of_ble_eq_true rfl) hv (fun H X => ?_)
  refine lv_dup hx hb d_Line_init_40 rfl ?_
  replace h := xb h
  obtain ⟨K4, hv, h⟩ := h
  refine xr_kv (va_runIN (As := []) (rest := [.ref q2, .int (17 : Int32), va_rf v1]) C.1 (kc_Message_init l E hv) ⟨va_cnB 0 C.1.2.2.2.2 (xw_in m_8) rfl rfl rfl (C.2.2.1 (Rn_Line, 17, y_Message_init, "EpochStore") (List.mem_of_getElem? (i := 0) rfl)) (C.1.2.2.2.2 _ m_7) ky_Message_init ⟨(Nat.le_of_ble_eq_true rfl), (Nat.le_of_ble_eq_true rfl)⟩, rfl, C.1.2.2.2.2 _ m_9⟩ (xr_pS C X) rfl rfl hl.1 rfl (lv_room (by simp [xr_cat, xr_c_i, xr_c_a, xr_c_l])) d_Line_init_41 ⟨(Nat.le_of_ble_eq_true rfl), (Nat.le_of_ble_eq_true rfl)⟩) X (fun H locs X => ?_)
  replace h := xb h
  obtain ⟨a6, rfl, h⟩ := h
  replace h := xb h
  obtain ⟨K5, hv, h⟩ := h
  refine xr_aast (v := (some q2)) C X 7 4 (by decide) (by decide) rfl rfl rfl d_Line_init_44 hv (fun H locs X => ?_)
  refine lv_iinc (k := 1) (v := (18 : Int32)) hx hb d_Line_init_45 hl rfl (by decide +kernel) (by decide) rfl (fun ls hl => ?_)
  have hl : lv_has ls 2 [(1, .int (18 : Int32)), (0, .ref th)] := hl
  refine lv_goto (tgt := 26) hx hb d_Line_init_48 (by decide +kernel) ?_
  exact kw_Line_init_26018 (th := th) C hlk hr hin  X (lv_sub hl [1, 0] rfl) h
set_option maxHeartbeats 4000000 in
set_option maxRecDepth 100000 in
theorem kw_Line_init_26016 {th : Nat} (C : xx_C p m c b_Line_init 2 s args Rn_Line E) (hlk : meth.locks = false) (hr : meth.sig.returnType = none) (hin : meth.name = "<init>") (X : xx_S E K M s H locs) (hl : lv_has ls 2 [(0, .ref th), (1, .int (16 : Int32))]) (h : kf_Line_init_26016 K th = some K') : W p l e { frames := 2, cells := 27, slots := 285, locals := 40 } s m args below meth c H locs 18 195 (MQ below (xq_v E K' M) args s 27 285 (xe_A E)) (F0 m 26 ls []) := by
  have hx := C.1.1
  have hb := C.1.2.1
  unfold kf_Line_init_26016 at h
  refine lv_iload_n hx hb d_Line_init_26 rfl (lv_at hl 1 rfl) ?_
  refine lv_bipush hx hb d_Line_init_27 kn_b_24 ?_
  refine lv_icmp_gt (tgt := 51) hx hb d_Line_init_29 (by decide +kernel) (fun hc => absurd hc (by decide +kernel)) (fun _ => ?_)
  refine lv_aload_n hx hb d_Line_init_32 rfl (lv_at hl 0 rfl) ?_
  replace h := xb h
  obtain ⟨v1, hv, h⟩ := h
  refine xr_gr C X xc_Line (by decide) 0 (by decide) (by decide) rfl m_5 d_Line_init_33 hv ?_
  refine lv_iload_n hx hb d_Line_init_36 rfl (lv_at hl 1 rfl) ?_
  replace h := xpb h
  obtain ⟨q2, K3, hv, h⟩ := h
  refine xr_new C X xc_Message (by decide) rfl xdf_Message m_4 m_6 m_7 d_Line_init_37 (Nat.le_of_ble_eq_true rfl) (Nat.le_of_ble_eq_true rfl) hv (fun H X => ?_)
  refine lv_dup hx hb d_Line_init_40 rfl ?_
  replace h := xb h
  obtain ⟨K4, hv, h⟩ := h
  refine xr_kv (va_runIN (As := []) (rest := [.ref q2, .int (16 : Int32), va_rf v1]) C.1 (kc_Message_init l E hv) ⟨va_cnB 0 C.1.2.2.2.2 (xw_in m_8) rfl rfl rfl (C.2.2.1 (Rn_Line, 17, y_Message_init, "EpochStore") (List.mem_of_getElem? (i := 0) rfl)) (C.1.2.2.2.2 _ m_7) ky_Message_init ⟨(Nat.le_of_ble_eq_true rfl), (Nat.le_of_ble_eq_true rfl)⟩, rfl, C.1.2.2.2.2 _ m_9⟩ (xr_pS C X) rfl rfl hl.1 rfl (lv_room (by simp [xr_cat, xr_c_i, xr_c_a, xr_c_l])) d_Line_init_41 ⟨(Nat.le_of_ble_eq_true rfl), (Nat.le_of_ble_eq_true rfl)⟩) X (fun H locs X => ?_)
  replace h := xb h
  obtain ⟨a6, rfl, h⟩ := h
  replace h := xb h
  obtain ⟨K5, hv, h⟩ := h
  refine xr_aast (v := (some q2)) C X 7 4 (by decide) (by decide) rfl rfl rfl d_Line_init_44 hv (fun H locs X => ?_)
  refine lv_iinc (k := 1) (v := (17 : Int32)) hx hb d_Line_init_45 hl rfl (by decide +kernel) (by decide) rfl (fun ls hl => ?_)
  have hl : lv_has ls 2 [(1, .int (17 : Int32)), (0, .ref th)] := hl
  refine lv_goto (tgt := 26) hx hb d_Line_init_48 (by decide +kernel) ?_
  exact kw_Line_init_26017 (th := th) C hlk hr hin  X (lv_sub hl [1, 0] rfl) h
set_option maxHeartbeats 4000000 in
set_option maxRecDepth 100000 in
theorem kw_Line_init_26015 {th : Nat} (C : xx_C p m c b_Line_init 2 s args Rn_Line E) (hlk : meth.locks = false) (hr : meth.sig.returnType = none) (hin : meth.name = "<init>") (X : xx_S E K M s H locs) (hl : lv_has ls 2 [(0, .ref th), (1, .int (15 : Int32))]) (h : kf_Line_init_26015 K th = some K') : W p l e { frames := 2, cells := 27, slots := 285, locals := 40 } s m args below meth c H locs 17 185 (MQ below (xq_v E K' M) args s 27 285 (xe_A E)) (F0 m 26 ls []) := by
  have hx := C.1.1
  have hb := C.1.2.1
  unfold kf_Line_init_26015 at h
  refine lv_iload_n hx hb d_Line_init_26 rfl (lv_at hl 1 rfl) ?_
  refine lv_bipush hx hb d_Line_init_27 kn_b_24 ?_
  refine lv_icmp_gt (tgt := 51) hx hb d_Line_init_29 (by decide +kernel) (fun hc => absurd hc (by decide +kernel)) (fun _ => ?_)
  refine lv_aload_n hx hb d_Line_init_32 rfl (lv_at hl 0 rfl) ?_
  replace h := xb h
  obtain ⟨v1, hv, h⟩ := h
  refine xr_gr C X xc_Line (by decide) 0 (by decide) (by decide) rfl m_5 d_Line_init_33 hv ?_
  refine lv_iload_n hx hb d_Line_init_36 rfl (lv_at hl 1 rfl) ?_
  replace h := xpb h
  obtain ⟨q2, K3, hv, h⟩ := h
  refine xr_new C X xc_Message (by decide) rfl xdf_Message m_4 m_6 m_7 d_Line_init_37 (Nat.le_of_ble_eq_true rfl) (Nat.le_of_ble_eq_true rfl) hv (fun H X => ?_)
  refine lv_dup hx hb d_Line_init_40 rfl ?_
  replace h := xb h
  obtain ⟨K4, hv, h⟩ := h
  refine xr_kv (va_runIN (As := []) (rest := [.ref q2, .int (15 : Int32), va_rf v1]) C.1 (kc_Message_init l E hv) ⟨va_cnB 0 C.1.2.2.2.2 (xw_in m_8) rfl rfl rfl (C.2.2.1 (Rn_Line, 17, y_Message_init, "EpochStore") (List.mem_of_getElem? (i := 0) rfl)) (C.1.2.2.2.2 _ m_7) ky_Message_init ⟨(Nat.le_of_ble_eq_true rfl), (Nat.le_of_ble_eq_true rfl)⟩, rfl, C.1.2.2.2.2 _ m_9⟩ (xr_pS C X) rfl rfl hl.1 rfl (lv_room (by simp [xr_cat, xr_c_i, xr_c_a, xr_c_l])) d_Line_init_41 ⟨(Nat.le_of_ble_eq_true rfl), (Nat.le_of_ble_eq_true rfl)⟩) X (fun H locs X => ?_)
  replace h := xb h
  obtain ⟨a6, rfl, h⟩ := h
  replace h := xb h
  obtain ⟨K5, hv, h⟩ := h
  refine xr_aast (v := (some q2)) C X 7 4 (by decide) (by decide) rfl rfl rfl d_Line_init_44 hv (fun H locs X => ?_)
  refine lv_iinc (k := 1) (v := (16 : Int32)) hx hb d_Line_init_45 hl rfl (by decide +kernel) (by decide) rfl (fun ls hl => ?_)
  have hl : lv_has ls 2 [(1, .int (16 : Int32)), (0, .ref th)] := hl
  refine lv_goto (tgt := 26) hx hb d_Line_init_48 (by decide +kernel) ?_
  exact kw_Line_init_26016 (th := th) C hlk hr hin  X (lv_sub hl [1, 0] rfl) h
set_option maxHeartbeats 4000000 in
set_option maxRecDepth 100000 in
theorem kw_Line_init_26014 {th : Nat} (C : xx_C p m c b_Line_init 2 s args Rn_Line E) (hlk : meth.locks = false) (hr : meth.sig.returnType = none) (hin : meth.name = "<init>") (X : xx_S E K M s H locs) (hl : lv_has ls 2 [(0, .ref th), (1, .int (14 : Int32))]) (h : kf_Line_init_26014 K th = some K') : W p l e { frames := 2, cells := 27, slots := 285, locals := 40 } s m args below meth c H locs 16 175 (MQ below (xq_v E K' M) args s 27 285 (xe_A E)) (F0 m 26 ls []) := by
  have hx := C.1.1
  have hb := C.1.2.1
  unfold kf_Line_init_26014 at h
  refine lv_iload_n hx hb d_Line_init_26 rfl (lv_at hl 1 rfl) ?_
  refine lv_bipush hx hb d_Line_init_27 kn_b_24 ?_
  refine lv_icmp_gt (tgt := 51) hx hb d_Line_init_29 (by decide +kernel) (fun hc => absurd hc (by decide +kernel)) (fun _ => ?_)
  refine lv_aload_n hx hb d_Line_init_32 rfl (lv_at hl 0 rfl) ?_
  replace h := xb h
  obtain ⟨v1, hv, h⟩ := h
  refine xr_gr C X xc_Line (by decide) 0 (by decide) (by decide) rfl m_5 d_Line_init_33 hv ?_
  refine lv_iload_n hx hb d_Line_init_36 rfl (lv_at hl 1 rfl) ?_
  replace h := xpb h
  obtain ⟨q2, K3, hv, h⟩ := h
  refine xr_new C X xc_Message (by decide) rfl xdf_Message m_4 m_6 m_7 d_Line_init_37 (Nat.le_of_ble_eq_true rfl) (Nat.le_of_ble_eq_true rfl) hv (fun H X => ?_)
  refine lv_dup hx hb d_Line_init_40 rfl ?_
  replace h := xb h
  obtain ⟨K4, hv, h⟩ := h
  refine xr_kv (va_runIN (As := []) (rest := [.ref q2, .int (14 : Int32), va_rf v1]) C.1 (kc_Message_init l E hv) ⟨va_cnB 0 C.1.2.2.2.2 (xw_in m_8) rfl rfl rfl (C.2.2.1 (Rn_Line, 17, y_Message_init, "EpochStore") (List.mem_of_getElem? (i := 0) rfl)) (C.1.2.2.2.2 _ m_7) ky_Message_init ⟨(Nat.le_of_ble_eq_true rfl), (Nat.le_of_ble_eq_true rfl)⟩, rfl, C.1.2.2.2.2 _ m_9⟩ (xr_pS C X) rfl rfl hl.1 rfl (lv_room (by simp [xr_cat, xr_c_i, xr_c_a, xr_c_l])) d_Line_init_41 ⟨(Nat.le_of_ble_eq_true rfl), (Nat.le_of_ble_eq_true rfl)⟩) X (fun H locs X => ?_)
  replace h := xb h
  obtain ⟨a6, rfl, h⟩ := h
  replace h := xb h
  obtain ⟨K5, hv, h⟩ := h
  refine xr_aast (v := (some q2)) C X 7 4 (by decide) (by decide) rfl rfl rfl d_Line_init_44 hv (fun H locs X => ?_)
  refine lv_iinc (k := 1) (v := (15 : Int32)) hx hb d_Line_init_45 hl rfl (by decide +kernel) (by decide) rfl (fun ls hl => ?_)
  have hl : lv_has ls 2 [(1, .int (15 : Int32)), (0, .ref th)] := hl
  refine lv_goto (tgt := 26) hx hb d_Line_init_48 (by decide +kernel) ?_
  exact kw_Line_init_26015 (th := th) C hlk hr hin  X (lv_sub hl [1, 0] rfl) h
set_option maxHeartbeats 4000000 in
set_option maxRecDepth 100000 in
theorem kw_Line_init_26013 {th : Nat} (C : xx_C p m c b_Line_init 2 s args Rn_Line E) (hlk : meth.locks = false) (hr : meth.sig.returnType = none) (hin : meth.name = "<init>") (X : xx_S E K M s H locs) (hl : lv_has ls 2 [(0, .ref th), (1, .int (13 : Int32))]) (h : kf_Line_init_26013 K th = some K') : W p l e { frames := 2, cells := 27, slots := 285, locals := 40 } s m args below meth c H locs 15 165 (MQ below (xq_v E K' M) args s 27 285 (xe_A E)) (F0 m 26 ls []) := by
  have hx := C.1.1
  have hb := C.1.2.1
  unfold kf_Line_init_26013 at h
  refine lv_iload_n hx hb d_Line_init_26 rfl (lv_at hl 1 rfl) ?_
  refine lv_bipush hx hb d_Line_init_27 kn_b_24 ?_
  refine lv_icmp_gt (tgt := 51) hx hb d_Line_init_29 (by decide +kernel) (fun hc => absurd hc (by decide +kernel)) (fun _ => ?_)
  refine lv_aload_n hx hb d_Line_init_32 rfl (lv_at hl 0 rfl) ?_
  replace h := xb h
  obtain ⟨v1, hv, h⟩ := h
  refine xr_gr C X xc_Line (by decide) 0 (by decide) (by decide) rfl m_5 d_Line_init_33 hv ?_
  refine lv_iload_n hx hb d_Line_init_36 rfl (lv_at hl 1 rfl) ?_
  replace h := xpb h
  obtain ⟨q2, K3, hv, h⟩ := h
  refine xr_new C X xc_Message (by decide) rfl xdf_Message m_4 m_6 m_7 d_Line_init_37 (Nat.le_of_ble_eq_true rfl) (Nat.le_of_ble_eq_true rfl) hv (fun H X => ?_)
  refine lv_dup hx hb d_Line_init_40 rfl ?_
  replace h := xb h
  obtain ⟨K4, hv, h⟩ := h
  refine xr_kv (va_runIN (As := []) (rest := [.ref q2, .int (13 : Int32), va_rf v1]) C.1 (kc_Message_init l E hv) ⟨va_cnB 0 C.1.2.2.2.2 (xw_in m_8) rfl rfl rfl (C.2.2.1 (Rn_Line, 17, y_Message_init, "EpochStore") (List.mem_of_getElem? (i := 0) rfl)) (C.1.2.2.2.2 _ m_7) ky_Message_init ⟨(Nat.le_of_ble_eq_true rfl), (Nat.le_of_ble_eq_true rfl)⟩, rfl, C.1.2.2.2.2 _ m_9⟩ (xr_pS C X) rfl rfl hl.1 rfl (lv_room (by simp [xr_cat, xr_c_i, xr_c_a, xr_c_l])) d_Line_init_41 ⟨(Nat.le_of_ble_eq_true rfl), (Nat.le_of_ble_eq_true rfl)⟩) X (fun H locs X => ?_)
  replace h := xb h
  obtain ⟨a6, rfl, h⟩ := h
  replace h := xb h
  obtain ⟨K5, hv, h⟩ := h
  refine xr_aast (v := (some q2)) C X 7 4 (by decide) (by decide) rfl rfl rfl d_Line_init_44 hv (fun H locs X => ?_)
  refine lv_iinc (k := 1) (v := (14 : Int32)) hx hb d_Line_init_45 hl rfl (by decide +kernel) (by decide) rfl (fun ls hl => ?_)
  have hl : lv_has ls 2 [(1, .int (14 : Int32)), (0, .ref th)] := hl
  refine lv_goto (tgt := 26) hx hb d_Line_init_48 (by decide +kernel) ?_
  exact kw_Line_init_26014 (th := th) C hlk hr hin  X (lv_sub hl [1, 0] rfl) h
set_option maxHeartbeats 4000000 in
set_option maxRecDepth 100000 in
theorem kw_Line_init_26012 {th : Nat} (C : xx_C p m c b_Line_init 2 s args Rn_Line E) (hlk : meth.locks = false) (hr : meth.sig.returnType = none) (hin : meth.name = "<init>") (X : xx_S E K M s H locs) (hl : lv_has ls 2 [(0, .ref th), (1, .int (12 : Int32))]) (h : kf_Line_init_26012 K th = some K') : W p l e { frames := 2, cells := 27, slots := 285, locals := 40 } s m args below meth c H locs 14 155 (MQ below (xq_v E K' M) args s 27 285 (xe_A E)) (F0 m 26 ls []) := by
  have hx := C.1.1
  have hb := C.1.2.1
  unfold kf_Line_init_26012 at h
  refine lv_iload_n hx hb d_Line_init_26 rfl (lv_at hl 1 rfl) ?_
  refine lv_bipush hx hb d_Line_init_27 kn_b_24 ?_
  refine lv_icmp_gt (tgt := 51) hx hb d_Line_init_29 (by decide +kernel) (fun hc => absurd hc (by decide +kernel)) (fun _ => ?_)
  refine lv_aload_n hx hb d_Line_init_32 rfl (lv_at hl 0 rfl) ?_
  replace h := xb h
  obtain ⟨v1, hv, h⟩ := h
  refine xr_gr C X xc_Line (by decide) 0 (by decide) (by decide) rfl m_5 d_Line_init_33 hv ?_
  refine lv_iload_n hx hb d_Line_init_36 rfl (lv_at hl 1 rfl) ?_
  replace h := xpb h
  obtain ⟨q2, K3, hv, h⟩ := h
  refine xr_new C X xc_Message (by decide) rfl xdf_Message m_4 m_6 m_7 d_Line_init_37 (Nat.le_of_ble_eq_true rfl) (Nat.le_of_ble_eq_true rfl) hv (fun H X => ?_)
  refine lv_dup hx hb d_Line_init_40 rfl ?_
  replace h := xb h
  obtain ⟨K4, hv, h⟩ := h
  refine xr_kv (va_runIN (As := []) (rest := [.ref q2, .int (12 : Int32), va_rf v1]) C.1 (kc_Message_init l E hv) ⟨va_cnB 0 C.1.2.2.2.2 (xw_in m_8) rfl rfl rfl (C.2.2.1 (Rn_Line, 17, y_Message_init, "EpochStore") (List.mem_of_getElem? (i := 0) rfl)) (C.1.2.2.2.2 _ m_7) ky_Message_init ⟨(Nat.le_of_ble_eq_true rfl), (Nat.le_of_ble_eq_true rfl)⟩, rfl, C.1.2.2.2.2 _ m_9⟩ (xr_pS C X) rfl rfl hl.1 rfl (lv_room (by simp [xr_cat, xr_c_i, xr_c_a, xr_c_l])) d_Line_init_41 ⟨(Nat.le_of_ble_eq_true rfl), (Nat.le_of_ble_eq_true rfl)⟩) X (fun H locs X => ?_)
  replace h := xb h
  obtain ⟨a6, rfl, h⟩ := h
  replace h := xb h
  obtain ⟨K5, hv, h⟩ := h
  refine xr_aast (v := (some q2)) C X 7 4 (by decide) (by decide) rfl rfl rfl d_Line_init_44 hv (fun H locs X => ?_)
  refine lv_iinc (k := 1) (v := (13 : Int32)) hx hb d_Line_init_45 hl rfl (by decide +kernel) (by decide) rfl (fun ls hl => ?_)
  have hl : lv_has ls 2 [(1, .int (13 : Int32)), (0, .ref th)] := hl
  refine lv_goto (tgt := 26) hx hb d_Line_init_48 (by decide +kernel) ?_
  exact kw_Line_init_26013 (th := th) C hlk hr hin  X (lv_sub hl [1, 0] rfl) h
set_option maxHeartbeats 4000000 in
set_option maxRecDepth 100000 in
theorem kw_Line_init_26011 {th : Nat} (C : xx_C p m c b_Line_init 2 s args Rn_Line E) (hlk : meth.locks = false) (hr : meth.sig.returnType = none) (hin : meth.name = "<init>") (X : xx_S E K M s H locs) (hl : lv_has ls 2 [(0, .ref th), (1, .int (11 : Int32))]) (h : kf_Line_init_26011 K th = some K') : W p l e { frames := 2, cells := 27, slots := 285, locals := 40 } s m args below meth c H locs 13 145 (MQ below (xq_v E K' M) args s 27 285 (xe_A E)) (F0 m 26 ls []) := by
  have hx := C.1.1
  have hb := C.1.2.1
  unfold kf_Line_init_26011 at h
  refine lv_iload_n hx hb d_Line_init_26 rfl (lv_at hl 1 rfl) ?_
  refine lv_bipush hx hb d_Line_init_27 kn_b_24 ?_
  refine lv_icmp_gt (tgt := 51) hx hb d_Line_init_29 (by decide +kernel) (fun hc => absurd hc (by decide +kernel)) (fun _ => ?_)
  refine lv_aload_n hx hb d_Line_init_32 rfl (lv_at hl 0 rfl) ?_
  replace h := xb h
  obtain ⟨v1, hv, h⟩ := h
  refine xr_gr C X xc_Line (by decide) 0 (by decide) (by decide) rfl m_5 d_Line_init_33 hv ?_
  refine lv_iload_n hx hb d_Line_init_36 rfl (lv_at hl 1 rfl) ?_
  replace h := xpb h
  obtain ⟨q2, K3, hv, h⟩ := h
  refine xr_new C X xc_Message (by decide) rfl xdf_Message m_4 m_6 m_7 d_Line_init_37 (Nat.le_of_ble_eq_true rfl) (Nat.le_of_ble_eq_true rfl) hv (fun H X => ?_)
  refine lv_dup hx hb d_Line_init_40 rfl ?_
  replace h := xb h
  obtain ⟨K4, hv, h⟩ := h
  refine xr_kv (va_runIN (As := []) (rest := [.ref q2, .int (11 : Int32), va_rf v1]) C.1 (kc_Message_init l E hv) ⟨va_cnB 0 C.1.2.2.2.2 (xw_in m_8) rfl rfl rfl (C.2.2.1 (Rn_Line, 17, y_Message_init, "EpochStore") (List.mem_of_getElem? (i := 0) rfl)) (C.1.2.2.2.2 _ m_7) ky_Message_init ⟨(Nat.le_of_ble_eq_true rfl), (Nat.le_of_ble_eq_true rfl)⟩, rfl, C.1.2.2.2.2 _ m_9⟩ (xr_pS C X) rfl rfl hl.1 rfl (lv_room (by simp [xr_cat, xr_c_i, xr_c_a, xr_c_l])) d_Line_init_41 ⟨(Nat.le_of_ble_eq_true rfl), (Nat.le_of_ble_eq_true rfl)⟩) X (fun H locs X => ?_)
  replace h := xb h
  obtain ⟨a6, rfl, h⟩ := h
  replace h := xb h
  obtain ⟨K5, hv, h⟩ := h
  refine xr_aast (v := (some q2)) C X 7 4 (by decide) (by decide) rfl rfl rfl d_Line_init_44 hv (fun H locs X => ?_)
  refine lv_iinc (k := 1) (v := (12 : Int32)) hx hb d_Line_init_45 hl rfl (by decide +kernel) (by decide) rfl (fun ls hl => ?_)
  have hl : lv_has ls 2 [(1, .int (12 : Int32)), (0, .ref th)] := hl
  refine lv_goto (tgt := 26) hx hb d_Line_init_48 (by decide +kernel) ?_
  exact kw_Line_init_26012 (th := th) C hlk hr hin  X (lv_sub hl [1, 0] rfl) h
set_option maxHeartbeats 4000000 in
set_option maxRecDepth 100000 in
theorem kw_Line_init_26010 {th : Nat} (C : xx_C p m c b_Line_init 2 s args Rn_Line E) (hlk : meth.locks = false) (hr : meth.sig.returnType = none) (hin : meth.name = "<init>") (X : xx_S E K M s H locs) (hl : lv_has ls 2 [(0, .ref th), (1, .int (10 : Int32))]) (h : kf_Line_init_26010 K th = some K') : W p l e { frames := 2, cells := 27, slots := 285, locals := 40 } s m args below meth c H locs 12 135 (MQ below (xq_v E K' M) args s 27 285 (xe_A E)) (F0 m 26 ls []) := by
  have hx := C.1.1
  have hb := C.1.2.1
  unfold kf_Line_init_26010 at h
  refine lv_iload_n hx hb d_Line_init_26 rfl (lv_at hl 1 rfl) ?_
  refine lv_bipush hx hb d_Line_init_27 kn_b_24 ?_
  refine lv_icmp_gt (tgt := 51) hx hb d_Line_init_29 (by decide +kernel) (fun hc => absurd hc (by decide +kernel)) (fun _ => ?_)
  refine lv_aload_n hx hb d_Line_init_32 rfl (lv_at hl 0 rfl) ?_
  replace h := xb h
  obtain ⟨v1, hv, h⟩ := h
  refine xr_gr C X xc_Line (by decide) 0 (by decide) (by decide) rfl m_5 d_Line_init_33 hv ?_
  refine lv_iload_n hx hb d_Line_init_36 rfl (lv_at hl 1 rfl) ?_
  replace h := xpb h
  obtain ⟨q2, K3, hv, h⟩ := h
  refine xr_new C X xc_Message (by decide) rfl xdf_Message m_4 m_6 m_7 d_Line_init_37 (Nat.le_of_ble_eq_true rfl) (Nat.le_of_ble_eq_true rfl) hv (fun H X => ?_)
  refine lv_dup hx hb d_Line_init_40 rfl ?_
  replace h := xb h
  obtain ⟨K4, hv, h⟩ := h
  refine xr_kv (va_runIN (As := []) (rest := [.ref q2, .int (10 : Int32), va_rf v1]) C.1 (kc_Message_init l E hv) ⟨va_cnB 0 C.1.2.2.2.2 (xw_in m_8) rfl rfl rfl (C.2.2.1 (Rn_Line, 17, y_Message_init, "EpochStore") (List.mem_of_getElem? (i := 0) rfl)) (C.1.2.2.2.2 _ m_7) ky_Message_init ⟨(Nat.le_of_ble_eq_true rfl), (Nat.le_of_ble_eq_true rfl)⟩, rfl, C.1.2.2.2.2 _ m_9⟩ (xr_pS C X) rfl rfl hl.1 rfl (lv_room (by simp [xr_cat, xr_c_i, xr_c_a, xr_c_l])) d_Line_init_41 ⟨(Nat.le_of_ble_eq_true rfl), (Nat.le_of_ble_eq_true rfl)⟩) X (fun H locs X => ?_)
  replace h := xb h
  obtain ⟨a6, rfl, h⟩ := h
  replace h := xb h
  obtain ⟨K5, hv, h⟩ := h
  refine xr_aast (v := (some q2)) C X 7 4 (by decide) (by decide) rfl rfl rfl d_Line_init_44 hv (fun H locs X => ?_)
  refine lv_iinc (k := 1) (v := (11 : Int32)) hx hb d_Line_init_45 hl rfl (by decide +kernel) (by decide) rfl (fun ls hl => ?_)
  have hl : lv_has ls 2 [(1, .int (11 : Int32)), (0, .ref th)] := hl
  refine lv_goto (tgt := 26) hx hb d_Line_init_48 (by decide +kernel) ?_
  exact kw_Line_init_26011 (th := th) C hlk hr hin  X (lv_sub hl [1, 0] rfl) h
set_option maxHeartbeats 4000000 in
set_option maxRecDepth 100000 in
theorem kw_Line_init_26009 {th : Nat} (C : xx_C p m c b_Line_init 2 s args Rn_Line E) (hlk : meth.locks = false) (hr : meth.sig.returnType = none) (hin : meth.name = "<init>") (X : xx_S E K M s H locs) (hl : lv_has ls 2 [(0, .ref th), (1, .int (9 : Int32))]) (h : kf_Line_init_26009 K th = some K') : W p l e { frames := 2, cells := 27, slots := 285, locals := 40 } s m args below meth c H locs 11 125 (MQ below (xq_v E K' M) args s 27 285 (xe_A E)) (F0 m 26 ls []) := by
  have hx := C.1.1
  have hb := C.1.2.1
  unfold kf_Line_init_26009 at h
  refine lv_iload_n hx hb d_Line_init_26 rfl (lv_at hl 1 rfl) ?_
  refine lv_bipush hx hb d_Line_init_27 kn_b_24 ?_
  refine lv_icmp_gt (tgt := 51) hx hb d_Line_init_29 (by decide +kernel) (fun hc => absurd hc (by decide +kernel)) (fun _ => ?_)
  refine lv_aload_n hx hb d_Line_init_32 rfl (lv_at hl 0 rfl) ?_
  replace h := xb h
  obtain ⟨v1, hv, h⟩ := h
  refine xr_gr C X xc_Line (by decide) 0 (by decide) (by decide) rfl m_5 d_Line_init_33 hv ?_
  refine lv_iload_n hx hb d_Line_init_36 rfl (lv_at hl 1 rfl) ?_
  replace h := xpb h
  obtain ⟨q2, K3, hv, h⟩ := h
  refine xr_new C X xc_Message (by decide) rfl xdf_Message m_4 m_6 m_7 d_Line_init_37 (Nat.le_of_ble_eq_true rfl) (Nat.le_of_ble_eq_true rfl) hv (fun H X => ?_)
  refine lv_dup hx hb d_Line_init_40 rfl ?_
  replace h := xb h
  obtain ⟨K4, hv, h⟩ := h
  refine xr_kv (va_runIN (As := []) (rest := [.ref q2, .int (9 : Int32), va_rf v1]) C.1 (kc_Message_init l E hv) ⟨va_cnB 0 C.1.2.2.2.2 (xw_in m_8) rfl rfl rfl (C.2.2.1 (Rn_Line, 17, y_Message_init, "EpochStore") (List.mem_of_getElem? (i := 0) rfl)) (C.1.2.2.2.2 _ m_7) ky_Message_init ⟨(Nat.le_of_ble_eq_true rfl), (Nat.le_of_ble_eq_true rfl)⟩, rfl, C.1.2.2.2.2 _ m_9⟩ (xr_pS C X) rfl rfl hl.1 rfl (lv_room (by simp [xr_cat, xr_c_i, xr_c_a, xr_c_l])) d_Line_init_41 ⟨(Nat.le_of_ble_eq_true rfl), (Nat.le_of_ble_eq_true rfl)⟩) X (fun H locs X => ?_)
  replace h := xb h
  obtain ⟨a6, rfl, h⟩ := h
  replace h := xb h
  obtain ⟨K5, hv, h⟩ := h
  refine xr_aast (v := (some q2)) C X 7 4 (by decide) (by decide) rfl rfl rfl d_Line_init_44 hv (fun H locs X => ?_)
  refine lv_iinc (k := 1) (v := (10 : Int32)) hx hb d_Line_init_45 hl rfl (by decide +kernel) (by decide) rfl (fun ls hl => ?_)
  have hl : lv_has ls 2 [(1, .int (10 : Int32)), (0, .ref th)] := hl
  refine lv_goto (tgt := 26) hx hb d_Line_init_48 (by decide +kernel) ?_
  exact kw_Line_init_26010 (th := th) C hlk hr hin  X (lv_sub hl [1, 0] rfl) h
set_option maxHeartbeats 4000000 in
set_option maxRecDepth 100000 in
theorem kw_Line_init_26008 {th : Nat} (C : xx_C p m c b_Line_init 2 s args Rn_Line E) (hlk : meth.locks = false) (hr : meth.sig.returnType = none) (hin : meth.name = "<init>") (X : xx_S E K M s H locs) (hl : lv_has ls 2 [(0, .ref th), (1, .int (8 : Int32))]) (h : kf_Line_init_26008 K th = some K') : W p l e { frames := 2, cells := 27, slots := 285, locals := 40 } s m args below meth c H locs 10 115 (MQ below (xq_v E K' M) args s 27 285 (xe_A E)) (F0 m 26 ls []) := by
  have hx := C.1.1
  have hb := C.1.2.1
  unfold kf_Line_init_26008 at h
  refine lv_iload_n hx hb d_Line_init_26 rfl (lv_at hl 1 rfl) ?_
  refine lv_bipush hx hb d_Line_init_27 kn_b_24 ?_
  refine lv_icmp_gt (tgt := 51) hx hb d_Line_init_29 (by decide +kernel) (fun hc => absurd hc (by decide +kernel)) (fun _ => ?_)
  refine lv_aload_n hx hb d_Line_init_32 rfl (lv_at hl 0 rfl) ?_
  replace h := xb h
  obtain ⟨v1, hv, h⟩ := h
  refine xr_gr C X xc_Line (by decide) 0 (by decide) (by decide) rfl m_5 d_Line_init_33 hv ?_
  refine lv_iload_n hx hb d_Line_init_36 rfl (lv_at hl 1 rfl) ?_
  replace h := xpb h
  obtain ⟨q2, K3, hv, h⟩ := h
  refine xr_new C X xc_Message (by decide) rfl xdf_Message m_4 m_6 m_7 d_Line_init_37 (Nat.le_of_ble_eq_true rfl) (Nat.le_of_ble_eq_true rfl) hv (fun H X => ?_)
  refine lv_dup hx hb d_Line_init_40 rfl ?_
  replace h := xb h
  obtain ⟨K4, hv, h⟩ := h
  refine xr_kv (va_runIN (As := []) (rest := [.ref q2, .int (8 : Int32), va_rf v1]) C.1 (kc_Message_init l E hv) ⟨va_cnB 0 C.1.2.2.2.2 (xw_in m_8) rfl rfl rfl (C.2.2.1 (Rn_Line, 17, y_Message_init, "EpochStore") (List.mem_of_getElem? (i := 0) rfl)) (C.1.2.2.2.2 _ m_7) ky_Message_init ⟨(Nat.le_of_ble_eq_true rfl), (Nat.le_of_ble_eq_true rfl)⟩, rfl, C.1.2.2.2.2 _ m_9⟩ (xr_pS C X) rfl rfl hl.1 rfl (lv_room (by simp [xr_cat, xr_c_i, xr_c_a, xr_c_l])) d_Line_init_41 ⟨(Nat.le_of_ble_eq_true rfl), (Nat.le_of_ble_eq_true rfl)⟩) X (fun H locs X => ?_)
  replace h := xb h
  obtain ⟨a6, rfl, h⟩ := h
  replace h := xb h
  obtain ⟨K5, hv, h⟩ := h
  refine xr_aast (v := (some q2)) C X 7 4 (by decide) (by decide) rfl rfl rfl d_Line_init_44 hv (fun H locs X => ?_)
  refine lv_iinc (k := 1) (v := (9 : Int32)) hx hb d_Line_init_45 hl rfl (by decide +kernel) (by decide) rfl (fun ls hl => ?_)
  have hl : lv_has ls 2 [(1, .int (9 : Int32)), (0, .ref th)] := hl
  refine lv_goto (tgt := 26) hx hb d_Line_init_48 (by decide +kernel) ?_
  exact kw_Line_init_26009 (th := th) C hlk hr hin  X (lv_sub hl [1, 0] rfl) h
set_option maxHeartbeats 4000000 in
set_option maxRecDepth 100000 in
theorem kw_Line_init_26007 {th : Nat} (C : xx_C p m c b_Line_init 2 s args Rn_Line E) (hlk : meth.locks = false) (hr : meth.sig.returnType = none) (hin : meth.name = "<init>") (X : xx_S E K M s H locs) (hl : lv_has ls 2 [(0, .ref th), (1, .int (7 : Int32))]) (h : kf_Line_init_26007 K th = some K') : W p l e { frames := 2, cells := 27, slots := 285, locals := 40 } s m args below meth c H locs 9 105 (MQ below (xq_v E K' M) args s 27 285 (xe_A E)) (F0 m 26 ls []) := by
  have hx := C.1.1
  have hb := C.1.2.1
  unfold kf_Line_init_26007 at h
  refine lv_iload_n hx hb d_Line_init_26 rfl (lv_at hl 1 rfl) ?_
  refine lv_bipush hx hb d_Line_init_27 kn_b_24 ?_
  refine lv_icmp_gt (tgt := 51) hx hb d_Line_init_29 (by decide +kernel) (fun hc => absurd hc (by decide +kernel)) (fun _ => ?_)
  refine lv_aload_n hx hb d_Line_init_32 rfl (lv_at hl 0 rfl) ?_
  replace h := xb h
  obtain ⟨v1, hv, h⟩ := h
  refine xr_gr C X xc_Line (by decide) 0 (by decide) (by decide) rfl m_5 d_Line_init_33 hv ?_
  refine lv_iload_n hx hb d_Line_init_36 rfl (lv_at hl 1 rfl) ?_
  replace h := xpb h
  obtain ⟨q2, K3, hv, h⟩ := h
  refine xr_new C X xc_Message (by decide) rfl xdf_Message m_4 m_6 m_7 d_Line_init_37 (Nat.le_of_ble_eq_true rfl) (Nat.le_of_ble_eq_true rfl) hv (fun H X => ?_)
  refine lv_dup hx hb d_Line_init_40 rfl ?_
  replace h := xb h
  obtain ⟨K4, hv, h⟩ := h
  refine xr_kv (va_runIN (As := []) (rest := [.ref q2, .int (7 : Int32), va_rf v1]) C.1 (kc_Message_init l E hv) ⟨va_cnB 0 C.1.2.2.2.2 (xw_in m_8) rfl rfl rfl (C.2.2.1 (Rn_Line, 17, y_Message_init, "EpochStore") (List.mem_of_getElem? (i := 0) rfl)) (C.1.2.2.2.2 _ m_7) ky_Message_init ⟨(Nat.le_of_ble_eq_true rfl), (Nat.le_of_ble_eq_true rfl)⟩, rfl, C.1.2.2.2.2 _ m_9⟩ (xr_pS C X) rfl rfl hl.1 rfl (lv_room (by simp [xr_cat, xr_c_i, xr_c_a, xr_c_l])) d_Line_init_41 ⟨(Nat.le_of_ble_eq_true rfl), (Nat.le_of_ble_eq_true rfl)⟩) X (fun H locs X => ?_)
  replace h := xb h
  obtain ⟨a6, rfl, h⟩ := h
  replace h := xb h
  obtain ⟨K5, hv, h⟩ := h
  refine xr_aast (v := (some q2)) C X 7 4 (by decide) (by decide) rfl rfl rfl d_Line_init_44 hv (fun H locs X => ?_)
  refine lv_iinc (k := 1) (v := (8 : Int32)) hx hb d_Line_init_45 hl rfl (by decide +kernel) (by decide) rfl (fun ls hl => ?_)
  have hl : lv_has ls 2 [(1, .int (8 : Int32)), (0, .ref th)] := hl
  refine lv_goto (tgt := 26) hx hb d_Line_init_48 (by decide +kernel) ?_
  exact kw_Line_init_26008 (th := th) C hlk hr hin  X (lv_sub hl [1, 0] rfl) h
set_option maxHeartbeats 4000000 in
set_option maxRecDepth 100000 in
theorem kw_Line_init_26006 {th : Nat} (C : xx_C p m c b_Line_init 2 s args Rn_Line E) (hlk : meth.locks = false) (hr : meth.sig.returnType = none) (hin : meth.name = "<init>") (X : xx_S E K M s H locs) (hl : lv_has ls 2 [(0, .ref th), (1, .int (6 : Int32))]) (h : kf_Line_init_26006 K th = some K') : W p l e { frames := 2, cells := 27, slots := 285, locals := 40 } s m args below meth c H locs 8 95 (MQ below (xq_v E K' M) args s 27 285 (xe_A E)) (F0 m 26 ls []) := by
  have hx := C.1.1
  have hb := C.1.2.1
  unfold kf_Line_init_26006 at h
  refine lv_iload_n hx hb d_Line_init_26 rfl (lv_at hl 1 rfl) ?_
  refine lv_bipush hx hb d_Line_init_27 kn_b_24 ?_
  refine lv_icmp_gt (tgt := 51) hx hb d_Line_init_29 (by decide +kernel) (fun hc => absurd hc (by decide +kernel)) (fun _ => ?_)
  refine lv_aload_n hx hb d_Line_init_32 rfl (lv_at hl 0 rfl) ?_
  replace h := xb h
  obtain ⟨v1, hv, h⟩ := h
  refine xr_gr C X xc_Line (by decide) 0 (by decide) (by decide) rfl m_5 d_Line_init_33 hv ?_
  refine lv_iload_n hx hb d_Line_init_36 rfl (lv_at hl 1 rfl) ?_
  replace h := xpb h
  obtain ⟨q2, K3, hv, h⟩ := h
  refine xr_new C X xc_Message (by decide) rfl xdf_Message m_4 m_6 m_7 d_Line_init_37 (Nat.le_of_ble_eq_true rfl) (Nat.le_of_ble_eq_true rfl) hv (fun H X => ?_)
  refine lv_dup hx hb d_Line_init_40 rfl ?_
  replace h := xb h
  obtain ⟨K4, hv, h⟩ := h
  refine xr_kv (va_runIN (As := []) (rest := [.ref q2, .int (6 : Int32), va_rf v1]) C.1 (kc_Message_init l E hv) ⟨va_cnB 0 C.1.2.2.2.2 (xw_in m_8) rfl rfl rfl (C.2.2.1 (Rn_Line, 17, y_Message_init, "EpochStore") (List.mem_of_getElem? (i := 0) rfl)) (C.1.2.2.2.2 _ m_7) ky_Message_init ⟨(Nat.le_of_ble_eq_true rfl), (Nat.le_of_ble_eq_true rfl)⟩, rfl, C.1.2.2.2.2 _ m_9⟩ (xr_pS C X) rfl rfl hl.1 rfl (lv_room (by simp [xr_cat, xr_c_i, xr_c_a, xr_c_l])) d_Line_init_41 ⟨(Nat.le_of_ble_eq_true rfl), (Nat.le_of_ble_eq_true rfl)⟩) X (fun H locs X => ?_)
  replace h := xb h
  obtain ⟨a6, rfl, h⟩ := h
  replace h := xb h
  obtain ⟨K5, hv, h⟩ := h
  refine xr_aast (v := (some q2)) C X 7 4 (by decide) (by decide) rfl rfl rfl d_Line_init_44 hv (fun H locs X => ?_)
  refine lv_iinc (k := 1) (v := (7 : Int32)) hx hb d_Line_init_45 hl rfl (by decide +kernel) (by decide) rfl (fun ls hl => ?_)
  have hl : lv_has ls 2 [(1, .int (7 : Int32)), (0, .ref th)] := hl
  refine lv_goto (tgt := 26) hx hb d_Line_init_48 (by decide +kernel) ?_
  exact kw_Line_init_26007 (th := th) C hlk hr hin  X (lv_sub hl [1, 0] rfl) h
set_option maxHeartbeats 4000000 in
set_option maxRecDepth 100000 in
theorem kw_Line_init_26005 {th : Nat} (C : xx_C p m c b_Line_init 2 s args Rn_Line E) (hlk : meth.locks = false) (hr : meth.sig.returnType = none) (hin : meth.name = "<init>") (X : xx_S E K M s H locs) (hl : lv_has ls 2 [(0, .ref th), (1, .int (5 : Int32))]) (h : kf_Line_init_26005 K th = some K') : W p l e { frames := 2, cells := 27, slots := 285, locals := 40 } s m args below meth c H locs 7 85 (MQ below (xq_v E K' M) args s 27 285 (xe_A E)) (F0 m 26 ls []) := by
  have hx := C.1.1
  have hb := C.1.2.1
  unfold kf_Line_init_26005 at h
  refine lv_iload_n hx hb d_Line_init_26 rfl (lv_at hl 1 rfl) ?_
  refine lv_bipush hx hb d_Line_init_27 kn_b_24 ?_
  refine lv_icmp_gt (tgt := 51) hx hb d_Line_init_29 (by decide +kernel) (fun hc => absurd hc (by decide +kernel)) (fun _ => ?_)
  refine lv_aload_n hx hb d_Line_init_32 rfl (lv_at hl 0 rfl) ?_
  replace h := xb h
  obtain ⟨v1, hv, h⟩ := h
  refine xr_gr C X xc_Line (by decide) 0 (by decide) (by decide) rfl m_5 d_Line_init_33 hv ?_
  refine lv_iload_n hx hb d_Line_init_36 rfl (lv_at hl 1 rfl) ?_
  replace h := xpb h
  obtain ⟨q2, K3, hv, h⟩ := h
  refine xr_new C X xc_Message (by decide) rfl xdf_Message m_4 m_6 m_7 d_Line_init_37 (Nat.le_of_ble_eq_true rfl) (Nat.le_of_ble_eq_true rfl) hv (fun H X => ?_)
  refine lv_dup hx hb d_Line_init_40 rfl ?_
  replace h := xb h
  obtain ⟨K4, hv, h⟩ := h
  refine xr_kv (va_runIN (As := []) (rest := [.ref q2, .int (5 : Int32), va_rf v1]) C.1 (kc_Message_init l E hv) ⟨va_cnB 0 C.1.2.2.2.2 (xw_in m_8) rfl rfl rfl (C.2.2.1 (Rn_Line, 17, y_Message_init, "EpochStore") (List.mem_of_getElem? (i := 0) rfl)) (C.1.2.2.2.2 _ m_7) ky_Message_init ⟨(Nat.le_of_ble_eq_true rfl), (Nat.le_of_ble_eq_true rfl)⟩, rfl, C.1.2.2.2.2 _ m_9⟩ (xr_pS C X) rfl rfl hl.1 rfl (lv_room (by simp [xr_cat, xr_c_i, xr_c_a, xr_c_l])) d_Line_init_41 ⟨(Nat.le_of_ble_eq_true rfl), (Nat.le_of_ble_eq_true rfl)⟩) X (fun H locs X => ?_)
  replace h := xb h
  obtain ⟨a6, rfl, h⟩ := h
  replace h := xb h
  obtain ⟨K5, hv, h⟩ := h
  refine xr_aast (v := (some q2)) C X 7 4 (by decide) (by decide) rfl rfl rfl d_Line_init_44 hv (fun H locs X => ?_)
  refine lv_iinc (k := 1) (v := (6 : Int32)) hx hb d_Line_init_45 hl rfl (by decide +kernel) (by decide) rfl (fun ls hl => ?_)
  have hl : lv_has ls 2 [(1, .int (6 : Int32)), (0, .ref th)] := hl
  refine lv_goto (tgt := 26) hx hb d_Line_init_48 (by decide +kernel) ?_
  exact kw_Line_init_26006 (th := th) C hlk hr hin  X (lv_sub hl [1, 0] rfl) h
set_option maxHeartbeats 4000000 in
set_option maxRecDepth 100000 in
theorem kw_Line_init_26004 {th : Nat} (C : xx_C p m c b_Line_init 2 s args Rn_Line E) (hlk : meth.locks = false) (hr : meth.sig.returnType = none) (hin : meth.name = "<init>") (X : xx_S E K M s H locs) (hl : lv_has ls 2 [(0, .ref th), (1, .int (4 : Int32))]) (h : kf_Line_init_26004 K th = some K') : W p l e { frames := 2, cells := 27, slots := 285, locals := 40 } s m args below meth c H locs 6 75 (MQ below (xq_v E K' M) args s 27 285 (xe_A E)) (F0 m 26 ls []) := by
  have hx := C.1.1
  have hb := C.1.2.1
  unfold kf_Line_init_26004 at h
  refine lv_iload_n hx hb d_Line_init_26 rfl (lv_at hl 1 rfl) ?_
  refine lv_bipush hx hb d_Line_init_27 kn_b_24 ?_
  refine lv_icmp_gt (tgt := 51) hx hb d_Line_init_29 (by decide +kernel) (fun hc => absurd hc (by decide +kernel)) (fun _ => ?_)
  refine lv_aload_n hx hb d_Line_init_32 rfl (lv_at hl 0 rfl) ?_
  replace h := xb h
  obtain ⟨v1, hv, h⟩ := h
  refine xr_gr C X xc_Line (by decide) 0 (by decide) (by decide) rfl m_5 d_Line_init_33 hv ?_
  refine lv_iload_n hx hb d_Line_init_36 rfl (lv_at hl 1 rfl) ?_
  replace h := xpb h
  obtain ⟨q2, K3, hv, h⟩ := h
  refine xr_new C X xc_Message (by decide) rfl xdf_Message m_4 m_6 m_7 d_Line_init_37 (Nat.le_of_ble_eq_true rfl) (Nat.le_of_ble_eq_true rfl) hv (fun H X => ?_)
  refine lv_dup hx hb d_Line_init_40 rfl ?_
  replace h := xb h
  obtain ⟨K4, hv, h⟩ := h
  refine xr_kv (va_runIN (As := []) (rest := [.ref q2, .int (4 : Int32), va_rf v1]) C.1 (kc_Message_init l E hv) ⟨va_cnB 0 C.1.2.2.2.2 (xw_in m_8) rfl rfl rfl (C.2.2.1 (Rn_Line, 17, y_Message_init, "EpochStore") (List.mem_of_getElem? (i := 0) rfl)) (C.1.2.2.2.2 _ m_7) ky_Message_init ⟨(Nat.le_of_ble_eq_true rfl), (Nat.le_of_ble_eq_true rfl)⟩, rfl, C.1.2.2.2.2 _ m_9⟩ (xr_pS C X) rfl rfl hl.1 rfl (lv_room (by simp [xr_cat, xr_c_i, xr_c_a, xr_c_l])) d_Line_init_41 ⟨(Nat.le_of_ble_eq_true rfl), (Nat.le_of_ble_eq_true rfl)⟩) X (fun H locs X => ?_)
  replace h := xb h
  obtain ⟨a6, rfl, h⟩ := h
  replace h := xb h
  obtain ⟨K5, hv, h⟩ := h
  refine xr_aast (v := (some q2)) C X 7 4 (by decide) (by decide) rfl rfl rfl d_Line_init_44 hv (fun H locs X => ?_)
  refine lv_iinc (k := 1) (v := (5 : Int32)) hx hb d_Line_init_45 hl rfl (by decide +kernel) (by decide) rfl (fun ls hl => ?_)
  have hl : lv_has ls 2 [(1, .int (5 : Int32)), (0, .ref th)] := hl
  refine lv_goto (tgt := 26) hx hb d_Line_init_48 (by decide +kernel) ?_
  exact kw_Line_init_26005 (th := th) C hlk hr hin  X (lv_sub hl [1, 0] rfl) h
set_option maxHeartbeats 4000000 in
set_option maxRecDepth 100000 in
theorem kw_Line_init_26003 {th : Nat} (C : xx_C p m c b_Line_init 2 s args Rn_Line E) (hlk : meth.locks = false) (hr : meth.sig.returnType = none) (hin : meth.name = "<init>") (X : xx_S E K M s H locs) (hl : lv_has ls 2 [(0, .ref th), (1, .int (3 : Int32))]) (h : kf_Line_init_26003 K th = some K') : W p l e { frames := 2, cells := 27, slots := 285, locals := 40 } s m args below meth c H locs 5 65 (MQ below (xq_v E K' M) args s 27 285 (xe_A E)) (F0 m 26 ls []) := by
  have hx := C.1.1
  have hb := C.1.2.1
  unfold kf_Line_init_26003 at h
  refine lv_iload_n hx hb d_Line_init_26 rfl (lv_at hl 1 rfl) ?_
  refine lv_bipush hx hb d_Line_init_27 kn_b_24 ?_
  refine lv_icmp_gt (tgt := 51) hx hb d_Line_init_29 (by decide +kernel) (fun hc => absurd hc (by decide +kernel)) (fun _ => ?_)
  refine lv_aload_n hx hb d_Line_init_32 rfl (lv_at hl 0 rfl) ?_
  replace h := xb h
  obtain ⟨v1, hv, h⟩ := h
  refine xr_gr C X xc_Line (by decide) 0 (by decide) (by decide) rfl m_5 d_Line_init_33 hv ?_
  refine lv_iload_n hx hb d_Line_init_36 rfl (lv_at hl 1 rfl) ?_
  replace h := xpb h
  obtain ⟨q2, K3, hv, h⟩ := h
  refine xr_new C X xc_Message (by decide) rfl xdf_Message m_4 m_6 m_7 d_Line_init_37 (Nat.le_of_ble_eq_true rfl) (Nat.le_of_ble_eq_true rfl) hv (fun H X => ?_)
  refine lv_dup hx hb d_Line_init_40 rfl ?_
  replace h := xb h
  obtain ⟨K4, hv, h⟩ := h
  refine xr_kv (va_runIN (As := []) (rest := [.ref q2, .int (3 : Int32), va_rf v1]) C.1 (kc_Message_init l E hv) ⟨va_cnB 0 C.1.2.2.2.2 (xw_in m_8) rfl rfl rfl (C.2.2.1 (Rn_Line, 17, y_Message_init, "EpochStore") (List.mem_of_getElem? (i := 0) rfl)) (C.1.2.2.2.2 _ m_7) ky_Message_init ⟨(Nat.le_of_ble_eq_true rfl), (Nat.le_of_ble_eq_true rfl)⟩, rfl, C.1.2.2.2.2 _ m_9⟩ (xr_pS C X) rfl rfl hl.1 rfl (lv_room (by simp [xr_cat, xr_c_i, xr_c_a, xr_c_l])) d_Line_init_41 ⟨(Nat.le_of_ble_eq_true rfl), (Nat.le_of_ble_eq_true rfl)⟩) X (fun H locs X => ?_)
  replace h := xb h
  obtain ⟨a6, rfl, h⟩ := h
  replace h := xb h
  obtain ⟨K5, hv, h⟩ := h
  refine xr_aast (v := (some q2)) C X 7 4 (by decide) (by decide) rfl rfl rfl d_Line_init_44 hv (fun H locs X => ?_)
  refine lv_iinc (k := 1) (v := (4 : Int32)) hx hb d_Line_init_45 hl rfl (by decide +kernel) (by decide) rfl (fun ls hl => ?_)
  have hl : lv_has ls 2 [(1, .int (4 : Int32)), (0, .ref th)] := hl
  refine lv_goto (tgt := 26) hx hb d_Line_init_48 (by decide +kernel) ?_
  exact kw_Line_init_26004 (th := th) C hlk hr hin  X (lv_sub hl [1, 0] rfl) h
set_option maxHeartbeats 4000000 in
set_option maxRecDepth 100000 in
theorem kw_Line_init_26002 {th : Nat} (C : xx_C p m c b_Line_init 2 s args Rn_Line E) (hlk : meth.locks = false) (hr : meth.sig.returnType = none) (hin : meth.name = "<init>") (X : xx_S E K M s H locs) (hl : lv_has ls 2 [(0, .ref th), (1, .int (2 : Int32))]) (h : kf_Line_init_26002 K th = some K') : W p l e { frames := 2, cells := 27, slots := 285, locals := 40 } s m args below meth c H locs 4 55 (MQ below (xq_v E K' M) args s 27 285 (xe_A E)) (F0 m 26 ls []) := by
  have hx := C.1.1
  have hb := C.1.2.1
  unfold kf_Line_init_26002 at h
  refine lv_iload_n hx hb d_Line_init_26 rfl (lv_at hl 1 rfl) ?_
  refine lv_bipush hx hb d_Line_init_27 kn_b_24 ?_
  refine lv_icmp_gt (tgt := 51) hx hb d_Line_init_29 (by decide +kernel) (fun hc => absurd hc (by decide +kernel)) (fun _ => ?_)
  refine lv_aload_n hx hb d_Line_init_32 rfl (lv_at hl 0 rfl) ?_
  replace h := xb h
  obtain ⟨v1, hv, h⟩ := h
  refine xr_gr C X xc_Line (by decide) 0 (by decide) (by decide) rfl m_5 d_Line_init_33 hv ?_
  refine lv_iload_n hx hb d_Line_init_36 rfl (lv_at hl 1 rfl) ?_
  replace h := xpb h
  obtain ⟨q2, K3, hv, h⟩ := h
  refine xr_new C X xc_Message (by decide) rfl xdf_Message m_4 m_6 m_7 d_Line_init_37 (Nat.le_of_ble_eq_true rfl) (Nat.le_of_ble_eq_true rfl) hv (fun H X => ?_)
  refine lv_dup hx hb d_Line_init_40 rfl ?_
  replace h := xb h
  obtain ⟨K4, hv, h⟩ := h
  refine xr_kv (va_runIN (As := []) (rest := [.ref q2, .int (2 : Int32), va_rf v1]) C.1 (kc_Message_init l E hv) ⟨va_cnB 0 C.1.2.2.2.2 (xw_in m_8) rfl rfl rfl (C.2.2.1 (Rn_Line, 17, y_Message_init, "EpochStore") (List.mem_of_getElem? (i := 0) rfl)) (C.1.2.2.2.2 _ m_7) ky_Message_init ⟨(Nat.le_of_ble_eq_true rfl), (Nat.le_of_ble_eq_true rfl)⟩, rfl, C.1.2.2.2.2 _ m_9⟩ (xr_pS C X) rfl rfl hl.1 rfl (lv_room (by simp [xr_cat, xr_c_i, xr_c_a, xr_c_l])) d_Line_init_41 ⟨(Nat.le_of_ble_eq_true rfl), (Nat.le_of_ble_eq_true rfl)⟩) X (fun H locs X => ?_)
  replace h := xb h
  obtain ⟨a6, rfl, h⟩ := h
  replace h := xb h
  obtain ⟨K5, hv, h⟩ := h
  refine xr_aast (v := (some q2)) C X 7 4 (by decide) (by decide) rfl rfl rfl d_Line_init_44 hv (fun H locs X => ?_)
  refine lv_iinc (k := 1) (v := (3 : Int32)) hx hb d_Line_init_45 hl rfl (by decide +kernel) (by decide) rfl (fun ls hl => ?_)
  have hl : lv_has ls 2 [(1, .int (3 : Int32)), (0, .ref th)] := hl
  refine lv_goto (tgt := 26) hx hb d_Line_init_48 (by decide +kernel) ?_
  exact kw_Line_init_26003 (th := th) C hlk hr hin  X (lv_sub hl [1, 0] rfl) h
set_option maxHeartbeats 4000000 in
set_option maxRecDepth 100000 in
theorem kw_Line_init_26001 {th : Nat} (C : xx_C p m c b_Line_init 2 s args Rn_Line E) (hlk : meth.locks = false) (hr : meth.sig.returnType = none) (hin : meth.name = "<init>") (X : xx_S E K M s H locs) (hl : lv_has ls 2 [(0, .ref th), (1, .int (1 : Int32))]) (h : kf_Line_init_26001 K th = some K') : W p l e { frames := 2, cells := 27, slots := 285, locals := 40 } s m args below meth c H locs 3 45 (MQ below (xq_v E K' M) args s 27 285 (xe_A E)) (F0 m 26 ls []) := by
  have hx := C.1.1
  have hb := C.1.2.1
  unfold kf_Line_init_26001 at h
  refine lv_iload_n hx hb d_Line_init_26 rfl (lv_at hl 1 rfl) ?_
  refine lv_bipush hx hb d_Line_init_27 kn_b_24 ?_
  refine lv_icmp_gt (tgt := 51) hx hb d_Line_init_29 (by decide +kernel) (fun hc => absurd hc (by decide +kernel)) (fun _ => ?_)
  refine lv_aload_n hx hb d_Line_init_32 rfl (lv_at hl 0 rfl) ?_
  replace h := xb h
  obtain ⟨v1, hv, h⟩ := h
  refine xr_gr C X xc_Line (by decide) 0 (by decide) (by decide) rfl m_5 d_Line_init_33 hv ?_
  refine lv_iload_n hx hb d_Line_init_36 rfl (lv_at hl 1 rfl) ?_
  replace h := xpb h
  obtain ⟨q2, K3, hv, h⟩ := h
  refine xr_new C X xc_Message (by decide) rfl xdf_Message m_4 m_6 m_7 d_Line_init_37 (Nat.le_of_ble_eq_true rfl) (Nat.le_of_ble_eq_true rfl) hv (fun H X => ?_)
  refine lv_dup hx hb d_Line_init_40 rfl ?_
  replace h := xb h
  obtain ⟨K4, hv, h⟩ := h
  refine xr_kv (va_runIN (As := []) (rest := [.ref q2, .int (1 : Int32), va_rf v1]) C.1 (kc_Message_init l E hv) ⟨va_cnB 0 C.1.2.2.2.2 (xw_in m_8) rfl rfl rfl (C.2.2.1 (Rn_Line, 17, y_Message_init, "EpochStore") (List.mem_of_getElem? (i := 0) rfl)) (C.1.2.2.2.2 _ m_7) ky_Message_init ⟨(Nat.le_of_ble_eq_true rfl), (Nat.le_of_ble_eq_true rfl)⟩, rfl, C.1.2.2.2.2 _ m_9⟩ (xr_pS C X) rfl rfl hl.1 rfl (lv_room (by simp [xr_cat, xr_c_i, xr_c_a, xr_c_l])) d_Line_init_41 ⟨(Nat.le_of_ble_eq_true rfl), (Nat.le_of_ble_eq_true rfl)⟩) X (fun H locs X => ?_)
  replace h := xb h
  obtain ⟨a6, rfl, h⟩ := h
  replace h := xb h
  obtain ⟨K5, hv, h⟩ := h
  refine xr_aast (v := (some q2)) C X 7 4 (by decide) (by decide) rfl rfl rfl d_Line_init_44 hv (fun H locs X => ?_)
  refine lv_iinc (k := 1) (v := (2 : Int32)) hx hb d_Line_init_45 hl rfl (by decide +kernel) (by decide) rfl (fun ls hl => ?_)
  have hl : lv_has ls 2 [(1, .int (2 : Int32)), (0, .ref th)] := hl
  refine lv_goto (tgt := 26) hx hb d_Line_init_48 (by decide +kernel) ?_
  exact kw_Line_init_26002 (th := th) C hlk hr hin  X (lv_sub hl [1, 0] rfl) h
set_option maxHeartbeats 4000000 in
set_option maxRecDepth 100000 in
theorem kw_Line_init_26000 {th : Nat} (C : xx_C p m c b_Line_init 2 s args Rn_Line E) (hlk : meth.locks = false) (hr : meth.sig.returnType = none) (hin : meth.name = "<init>") (X : xx_S E K M s H locs) (hl : lv_has ls 2 [(0, .ref th), (1, .int (0 : Int32))]) (h : kf_Line_init_26000 K th = some K') : W p l e { frames := 2, cells := 27, slots := 285, locals := 40 } s m args below meth c H locs 2 35 (MQ below (xq_v E K' M) args s 27 285 (xe_A E)) (F0 m 26 ls []) := by
  have hx := C.1.1
  have hb := C.1.2.1
  unfold kf_Line_init_26000 at h
  refine lv_iload_n hx hb d_Line_init_26 rfl (lv_at hl 1 rfl) ?_
  refine lv_bipush hx hb d_Line_init_27 kn_b_24 ?_
  refine lv_icmp_gt (tgt := 51) hx hb d_Line_init_29 (by decide +kernel) (fun hc => absurd hc (by decide +kernel)) (fun _ => ?_)
  refine lv_aload_n hx hb d_Line_init_32 rfl (lv_at hl 0 rfl) ?_
  replace h := xb h
  obtain ⟨v1, hv, h⟩ := h
  refine xr_gr C X xc_Line (by decide) 0 (by decide) (by decide) rfl m_5 d_Line_init_33 hv ?_
  refine lv_iload_n hx hb d_Line_init_36 rfl (lv_at hl 1 rfl) ?_
  replace h := xpb h
  obtain ⟨q2, K3, hv, h⟩ := h
  refine xr_new C X xc_Message (by decide) rfl xdf_Message m_4 m_6 m_7 d_Line_init_37 (Nat.le_of_ble_eq_true rfl) (Nat.le_of_ble_eq_true rfl) hv (fun H X => ?_)
  refine lv_dup hx hb d_Line_init_40 rfl ?_
  replace h := xb h
  obtain ⟨K4, hv, h⟩ := h
  refine xr_kv (va_runIN (As := []) (rest := [.ref q2, .int (0 : Int32), va_rf v1]) C.1 (kc_Message_init l E hv) ⟨va_cnB 0 C.1.2.2.2.2 (xw_in m_8) rfl rfl rfl (C.2.2.1 (Rn_Line, 17, y_Message_init, "EpochStore") (List.mem_of_getElem? (i := 0) rfl)) (C.1.2.2.2.2 _ m_7) ky_Message_init ⟨(Nat.le_of_ble_eq_true rfl), (Nat.le_of_ble_eq_true rfl)⟩, rfl, C.1.2.2.2.2 _ m_9⟩ (xr_pS C X) rfl rfl hl.1 rfl (lv_room (by simp [xr_cat, xr_c_i, xr_c_a, xr_c_l])) d_Line_init_41 ⟨(Nat.le_of_ble_eq_true rfl), (Nat.le_of_ble_eq_true rfl)⟩) X (fun H locs X => ?_)
  replace h := xb h
  obtain ⟨a6, rfl, h⟩ := h
  replace h := xb h
  obtain ⟨K5, hv, h⟩ := h
  refine xr_aast (v := (some q2)) C X 7 4 (by decide) (by decide) rfl rfl rfl d_Line_init_44 hv (fun H locs X => ?_)
  refine lv_iinc (k := 1) (v := (1 : Int32)) hx hb d_Line_init_45 hl rfl (by decide +kernel) (by decide) rfl (fun ls hl => ?_)
  have hl : lv_has ls 2 [(1, .int (1 : Int32)), (0, .ref th)] := hl
  refine lv_goto (tgt := 26) hx hb d_Line_init_48 (by decide +kernel) ?_
  exact kw_Line_init_26001 (th := th) C hlk hr hin  X (lv_sub hl [1, 0] rfl) h
set_option maxHeartbeats 4000000 in
set_option maxRecDepth 100000 in
theorem kw_Line_init_0 {th : Nat} (C : xx_C p m c b_Line_init 2 s args Rn_Line E) (hlk : meth.locks = false) (hr : meth.sig.returnType = none) (hin : meth.name = "<init>") (X : xx_S E K M s H locs) (hl : lv_has ls 2 [(0, .ref th)]) (h : kf_Line_init_0 K th = some K') : W p l e { frames := 2, cells := 27, slots := 285, locals := 40 } s m args below meth c H locs 0 0 (MQ below (xq_v E K' M) args s 27 285 (xe_A E)) (F0 m 0 ls []) := by
  have hx := C.1.1
  have hb := C.1.2.1
  unfold kf_Line_init_0 at h
  refine lv_aload_n hx hb d_Line_init_0 rfl (lv_at hl 0 rfl) ?_
  refine W.objInit hx hb C.1.2.2.2.1 (C.1.2.2.2.2 _ m_3) (C.1.2.2.2.2 _ m_1) (C.1.2.2.2.2 _ m_2) rfl (by rw [C.1.2.2.1]; exact hl.1) rfl d_Line_init_1 (Nat.le_of_ble_eq_true rfl) (Nat.le_of_ble_eq_true rfl) ?_
  refine W.eq (g2 := F0 m 4 ls []) rfl ?_
  refine lv_aload_n hx hb d_Line_init_4 rfl (lv_at hl 0 rfl) ?_
  refine lv_bipush hx hb d_Line_init_5 kn_b_25 ?_
  replace h := xpb h
  obtain ⟨q1, K2, hv, h⟩ := h
  refine xr_newq C X 7 (N := 25) (by decide) rfl rfl m_4 (List.mem_of_getElem? (i := 5) rfl) (by decide +kernel) (by decide +kernel) (by decide +kernel) d_Line_init_7 (Nat.le_of_ble_eq_true rfl) (Nat.le_of_ble_eq_true rfl) hv (fun H X => ?_)
  replace h := xb h
  obtain ⟨K3, hv, h⟩ := h
  refine xr_prF (v := (some q1)) C X xc_Line (by decide) 0 (by decide) (by decide) rfl (Or.inr ⟨_, rfl⟩) rfl hin rfl m_5 d_Line_init_10 hv (fun H locs X => ?_)
  refine lv_aload_n hx hb d_Line_init_13 rfl (lv_at hl 0 rfl) ?_
  replace h := xpb h
  obtain ⟨q4, K5, hv, h⟩ := h
  refine xr_new C X xc_Message (by decide) rfl xdf_Message m_4 m_6 m_7 d_Line_init_14 (Nat.le_of_ble_eq_true rfl) (Nat.le_of_ble_eq_true rfl) hv (fun H X => ?_)
  refine lv_dup hx hb d_Line_init_17 rfl ?_
  replace h := xb h
  obtain ⟨K6, hv, h⟩ := h
  refine xr_kv (va_runIN (As := []) (rest := [.ref q4, .ref th]) C.1 (kc_Message_init l E hv) ⟨va_cnB 0 C.1.2.2.2.2 (xw_in m_8) rfl rfl rfl (C.2.2.1 (Rn_Line, 17, y_Message_init, "EpochStore") (List.mem_of_getElem? (i := 0) rfl)) (C.1.2.2.2.2 _ m_7) ky_Message_init ⟨(Nat.le_of_ble_eq_true rfl), (Nat.le_of_ble_eq_true rfl)⟩, rfl, C.1.2.2.2.2 _ m_9⟩ (xr_pS C X) rfl rfl hl.1 rfl (lv_room (Nat.le_of_ble_eq_true rfl)) d_Line_init_18 ⟨(Nat.le_of_ble_eq_true rfl), (Nat.le_of_ble_eq_true rfl)⟩) X (fun H locs X => ?_)
  replace h := xb h
  obtain ⟨K7, hv, h⟩ := h
  refine xr_prF (v := (some q4)) C X xc_Line (by decide) 1 (by decide) (by decide) rfl (Or.inl ⟨_, rfl⟩) rfl hin rfl m_10 d_Line_init_21 hv (fun H locs X => ?_)
  refine lv_iconst hx hb d_Line_init_24 kn_i_0 ?_
  refine lv_istore_n hx hb d_Line_init_25 rfl hl (by decide) rfl (fun ls hl => ?_)
  have hl : lv_has ls 2 [(1, .int (0 : Int32)), (0, .ref th)] := hl
  exact kw_Line_init_26000 (th := th) C hlk hr hin  X (lv_sub hl [1, 0] rfl) h
theorem kc_Line_init (l : Launch) (E : xe) {th : Nat} (h : kf_Line_init_0 K th = some K') : Met l y_Line_init (Cond.code y_Line_init b_Line_init 2 none :: w_all) { frames := 2, cells := 27, slots := 285, locals := 40 } (va_Pc [.ref th] (fun U => xx_B E K M U)) (xq_v E K' M) 27 285 (xe_A E) :=
  xr_met (by decide) (Nat.le_of_ble_eq_true rfl) fun p e s m below meth c ls C X hlk hr hin hl => kw_Line_init_0 C hlk hr hin X hl h
end KW1
