/-! EpochStoreModel.send(IIIII)I -/
def kf_EM_send_67 (M : xm) (x6 : Int32) : Option (Int32 × xm) := (xMt M 53 x6 (0 : Int32)).bind fun M1 => (xMt M1 54 x6 (0 : Int32)).bind fun M2 => some (x6, M2)
def kf_EM_send_25 (M : xm) (x1 : Int32) (x2 : Int32) (x3 : Int32) (x4 : Int32) (x5 : Int32) (x6 : Int32) : Option (Int32 × xm) := (xMt M 48 x6 x1).bind fun M1 => (xMt M1 49 x6 x2).bind fun M2 => (xMt M2 50 x6 x3).bind fun M3 => (xMt M3 51 x6 x4).bind fun M4 => (xMt M4 52 x6 x5).bind fun M5 => kf_EM_send_67 M5 x6
def kf_EM_send_0 (M : xm) (x1 : Int32) (x2 : Int32) (x3 : Int32) (x4 : Int32) (x5 : Int32) : Option (Int32 × xm) := if (24 : Int32) ≤ (M xm_l 0) then (kf_EM_send_25 M x1 x2 x3 x4 x5 (M xm_l 0)) else (xMl M ((M xm_l 0) + (1 : Int32))).bind fun M1 => kf_EM_send_25 M1 x1 x2 x3 x4 x5 (M xm_l 0)
/-! EpochStoreModel.copyMessage(II)V -/
def kb_EM_copyMessage_86 (rec86 : xm → Int32 → Int32 → Int32 → Option xm) (M : xm) (x1 : Int32) (x2 : Int32) (x3 : Int32) : Option xm := if (8 : Int32) ≤ x3 then (some M) else (xMi M 55 (((8 : Int32) * x1) + x3)).bind fun v1 => (xMt M 55 (((8 : Int32) * x2) + x3) v1).bind fun M2 => rec86 M2 x1 x2 (x3 + (1 : Int32))
def kf_EM_copyMessage_86 : Nat → xm → Int32 → Int32 → Int32 → Option xm
  | 0 => fun _ _ _ _ => none
  | n + 1 => kb_EM_copyMessage_86 (kf_EM_copyMessage_86 n)
def kf_EM_copyMessage_72 (M : xm) (x1 : Int32) (x2 : Int32) : Option xm := (xMi M 54 x1).bind fun v1 => (xMt M 54 x2 v1).bind fun M2 => kf_EM_copyMessage_86 1000 M2 x1 x2 (0 : Int32)
def kf_EM_copyMessage_36 (M : xm) (x1 : Int32) (x2 : Int32) : Option xm := (xMi M 51 x1).bind fun v1 => (xMt M 51 x2 v1).bind fun M2 => (xMi M2 52 x1).bind fun v3 => (xMt M2 52 x2 v3).bind fun M4 => (xMi M4 53 x1).bind fun v5 => (xMt M4 53 x2 v5).bind fun M6 => kf_EM_copyMessage_72 M6 x1 x2
def kf_EM_copyMessage_0 (M : xm) (x1 : Int32) (x2 : Int32) : Option xm := (xMi M 48 x1).bind fun v1 => (xMt M 48 x2 v1).bind fun M2 => (xMi M2 49 x1).bind fun v3 => (xMt M2 49 x2 v3).bind fun M4 => (xMi M4 50 x1).bind fun v5 => (xMt M4 50 x2 v5).bind fun M6 => kf_EM_copyMessage_36 M6 x1 x2
/-! EpochStoreModel.take(I)V -/
def kb_EM_take_19 (rec19 : xm → Int32 → Option xm) (M : xm) (x2 : Int32) : Option xm := if (M xm_l 0) ≤ x2 then (some M) else (kf_EM_copyMessage_0 M (x2 + (1 : Int32)) x2).bind fun M1 => rec19 M1 (x2 + (1 : Int32))
def kf_EM_take_19 : Nat → xm → Int32 → Option xm
  | 0 => fun _ _ => none
  | n + 1 => kb_EM_take_19 (kf_EM_take_19 n)
def kf_EM_take_0 (M : xm) (x1 : Int32) : Option xm := (kf_EM_copyMessage_0 M x1 (24 : Int32)).bind fun M1 => (xMl M1 ((M1 xm_l 0) - (1 : Int32))).bind fun M2 => kf_EM_take_19 1000 M2 x1
/-! EpochStoreModel.messages()I -/
def kf_EM_messages_0 (M : xm) : Option (Int32 × xm) := some ((M xm_l 0), M)
/-! EpochStoreModel.message(I)I -/
def kf_EM_message_36 (M : xm) (x1 : Int32) (x2 : Int32) (s0 : Int32) : Option (Int32 × xm) := (xMi M 49 x1).bind fun v1 => (xMi M 50 x1).bind fun v2 => if s0 = 0 then (some ((((x2 + ((16 : Int32) * v1)) + ((256 : Int32) * v2)) + (0 : Int32)), M)) else (xMi M 51 x1).bind fun v3 => some ((((x2 + ((16 : Int32) * v1)) + ((256 : Int32) * v2)) + ((65536 : Int32) * v3)), M)
def kf_EM_message_0 (M : xm) (x1 : Int32) : Option (Int32 × xm) := if x1 < 0 then (some ((-1 : Int32), M)) else if x1 < (M xm_l 0) then ((xMi M 48 x1).bind fun v1 => if v1 = (4 : Int32) then (kf_EM_message_36 M x1 v1 (1 : Int32)) else if v1 < (5 : Int32) then (kf_EM_message_36 M x1 v1 (0 : Int32)) else kf_EM_message_36 M x1 v1 (1 : Int32)) else some ((-1 : Int32), M)
/-! EpochStoreModel.lose(I)Z -/
def kf_EM_lose_0 (M : xm) (x1 : Int32) : Option (Int32 × xm) := if x1 < 0 then (some ((0 : Int32), M)) else if x1 < (M xm_l 0) then ((kf_EM_take_0 M x1).bind fun M1 => some ((1 : Int32), M1)) else some ((0 : Int32), M)
/-! EpochStoreModel.pushed(III)V -/
def kf_EM_pushed_119 (M : xm) (x1 : Int32) (x2 : Int32) (x3 : Int32) : Option xm := xp (kf_EM_send_0 M (7 : Int32) x1 x2 x3 (0 : Int32)) fun r2 M1 => some M1
def kb_EM_pushed_75 (rec75 : xm → Int32 → Int32 → Int32 → Int32 → Int32 → Option xm) (M : xm) (x1 : Int32) (x2 : Int32) (x3 : Int32) (x4 : Int32) (x5 : Int32) : Option xm := if (8 : Int32) ≤ x5 then ((xMt M 4 x1 x3).bind fun M1 => kf_EM_pushed_119 M1 x1 x2 x3) else (xMi M 55 ((192 : Int32) + x5)).bind fun v2 => (xMt M 8 (((8 : Int32) * x4) + x5) v2).bind fun M3 => rec75 M3 x1 x2 x3 x4 (x5 + (1 : Int32))
def kf_EM_pushed_75 : Nat → xm → Int32 → Int32 → Int32 → Int32 → Int32 → Option xm
  | 0 => fun _ _ _ _ _ _ => none
  | n + 1 => kb_EM_pushed_75 (kf_EM_pushed_75 n)
def kf_EM_pushed_40 (M : xm) (x1 : Int32) (x2 : Int32) (x3 : Int32) (x4 : Int32) : Option xm := (xMi M 5 x1).bind fun v1 => (xMt M 5 x1 (v1 + (1 : Int32))).bind fun M2 => (xMt M2 6 x4 x3).bind fun M3 => (xMi M3 54 (24 : Int32)).bind fun v4 => (xMt M3 7 x4 v4).bind fun M5 => kf_EM_pushed_75 1000 M5 x1 x2 x3 x4 (0 : Int32)
def kf_EM_pushed_133 (M : xm) (x1 : Int32) (x2 : Int32) (x3 : Int32) : Option xm := (xMi M 4 x1).bind fun v1 => if v1 < x3 then (some M) else xp (kf_EM_send_0 M (7 : Int32) x1 x2 x3 (0 : Int32)) fun r3 M2 => some M2
def kf_EM_pushed_0 (M : xm) (x1 : Int32) (x2 : Int32) (x3 : Int32) : Option xm := (xMi M 53 (24 : Int32)).bind fun v1 => (xMi M 4 x1).bind fun v2 => if v1 = v2 then ((xMi M 5 x1).bind fun v3 => if (100 : Int32) ≤ v3 then (kf_EM_pushed_133 M x1 x2 x3) else (xMi M 5 x1).bind fun v4 => kf_EM_pushed_40 M x1 x2 x3 (((100 : Int32) * x1) + v4)) else kf_EM_pushed_133 M x1 x2 x3
section KW13
variable {p : Program} {l : Launch} {e : Env} {s : State} {m : MethodId} {args : Array Value} {below : List Frame} {meth : Method} {c : Code} {H : Heap} {locs : List Loc} {ls : Array Slot} {E : xe} {K K' : xk} {M M' : xm}
set_option maxHeartbeats 4000000 in
set_option maxRecDepth 100000 in
theorem kw_EM_send_67 {x6 : Int32} {r : Int32} (C : xx_C p m c b_EM_send 7 s args Rn_EM E) (hlk : meth.locks = false) (hr : meth.sig.returnType = (some .int)) (hin : meth.name = "send") (hg : xe_g E = true) (X : xx_S E K M s H locs) (hl : lv_has ls 7 [(0, .ref (xe_om E)), (6, .int x6)]) (h : kf_EM_send_67 M x6 = some (r, M')) : W p l e { frames := 0, cells := 0, slots := 0, locals := 0 } s m args below meth c H locs 0 0 (MQ below (xq_i E K M' r) args s 0 0 (xe_A E)) (F0 m 67 ls []) := by
  have hx := C.1.1
  have hb := C.1.2.1
  unfold kf_EM_send_67 at h
  refine lv_aload_n hx hb d_EM_send_67 rfl (lv_at hl 0 rfl) ?_
  refine xr_mga C X hg xc_EM 53 (by decide) (by decide) (by decide) m_514 d_EM_send_68 ?_
  refine lv_iload hx hb d_EM_send_71 (lv_at hl 1 rfl) ?_
  refine lv_iconst hx hb d_EM_send_73 kn_i_0 ?_
  replace h := xb h
  obtain ⟨M1, hv, h⟩ := h
  refine xr_mst C X hg 53 (by decide) (by decide) rfl d_EM_send_74 hv (fun H locs X => ?_)
  refine lv_aload_n hx hb d_EM_send_75 rfl (lv_at hl 0 rfl) ?_
  refine xr_mga C X hg xc_EM 54 (by decide) (by decide) (by decide) m_515 d_EM_send_76 ?_
  refine lv_iload hx hb d_EM_send_79 (lv_at hl 1 rfl) ?_
  refine lv_iconst hx hb d_EM_send_81 kn_i_0 ?_
  replace h := xb h
  obtain ⟨M2, hv, h⟩ := h
  refine xr_mst C X hg 54 (by decide) (by decide) rfl d_EM_send_82 hv (fun H locs X => ?_)
  refine lv_iload hx hb d_EM_send_83 (lv_at hl 1 rfl) ?_
  obtain ⟨rfl, rfl⟩ := Prod.mk.inj (Option.some.inj h)
  exact xr_iret C X hlk hr d_EM_send_85 rfl (Nat.le_of_ble_eq_true rfl) (Nat.le_of_ble_eq_true rfl)
set_option maxHeartbeats 4000000 in
set_option maxRecDepth 100000 in
theorem kw_EM_send_25 {x1 : Int32} {x2 : Int32} {x3 : Int32} {x4 : Int32} {x5 : Int32} {x6 : Int32} {r : Int32} (C : xx_C p m c b_EM_send 7 s args Rn_EM E) (hlk : meth.locks = false) (hr : meth.sig.returnType = (some .int)) (hin : meth.name = "send") (hg : xe_g E = true) (X : xx_S E K M s H locs) (hl : lv_has ls 7 [(0, .ref (xe_om E)), (1, .int x1), (2, .int x2), (3, .int x3), (4, .int x4), (5, .int x5), (6, .int x6)]) (h : kf_EM_send_25 M x1 x2 x3 x4 x5 x6 = some (r, M')) : W p l e { frames := 0, cells := 0, slots := 0, locals := 0 } s m args below meth c H locs 0 0 (MQ below (xq_i E K M' r) args s 0 0 (xe_A E)) (F0 m 25 ls []) := by
  have hx := C.1.1
  have hb := C.1.2.1
  unfold kf_EM_send_25 at h
  refine lv_aload_n hx hb d_EM_send_25 rfl (lv_at hl 0 rfl) ?_
  refine xr_mga C X hg xc_EM 48 (by decide) (by decide) (by decide) m_509 d_EM_send_26 ?_
  refine lv_iload hx hb d_EM_send_29 (lv_at hl 6 rfl) ?_
  refine lv_iload_n hx hb d_EM_send_31 rfl (lv_at hl 1 rfl) ?_
  replace h := xb h
  obtain ⟨M1, hv, h⟩ := h
  refine xr_mst C X hg 48 (by decide) (by decide) rfl d_EM_send_32 hv (fun H locs X => ?_)
  refine lv_aload_n hx hb d_EM_send_33 rfl (lv_at hl 0 rfl) ?_
  refine xr_mga C X hg xc_EM 49 (by decide) (by decide) (by decide) m_510 d_EM_send_34 ?_
  refine lv_iload hx hb d_EM_send_37 (lv_at hl 6 rfl) ?_
  refine lv_iload_n hx hb d_EM_send_39 rfl (lv_at hl 2 rfl) ?_
  replace h := xb h
  obtain ⟨M2, hv, h⟩ := h
  refine xr_mst C X hg 49 (by decide) (by decide) rfl d_EM_send_40 hv (fun H locs X => ?_)
  refine lv_aload_n hx hb d_EM_send_41 rfl (lv_at hl 0 rfl) ?_
  refine xr_mga C X hg xc_EM 50 (by decide) (by decide) (by decide) m_511 d_EM_send_42 ?_
  refine lv_iload hx hb d_EM_send_45 (lv_at hl 6 rfl) ?_
  refine lv_iload_n hx hb d_EM_send_47 rfl (lv_at hl 3 rfl) ?_
  replace h := xb h
  obtain ⟨M3, hv, h⟩ := h
  refine xr_mst C X hg 50 (by decide) (by decide) rfl d_EM_send_48 hv (fun H locs X => ?_)
  refine lv_aload_n hx hb d_EM_send_49 rfl (lv_at hl 0 rfl) ?_
  refine xr_mga C X hg xc_EM 51 (by decide) (by decide) (by decide) m_512 d_EM_send_50 ?_
  refine lv_iload hx hb d_EM_send_53 (lv_at hl 6 rfl) ?_
  refine lv_iload hx hb d_EM_send_55 (lv_at hl 4 rfl) ?_
  replace h := xb h
  obtain ⟨M4, hv, h⟩ := h
  refine xr_mst C X hg 51 (by decide) (by decide) rfl d_EM_send_57 hv (fun H locs X => ?_)
  refine lv_aload_n hx hb d_EM_send_58 rfl (lv_at hl 0 rfl) ?_
  refine xr_mga C X hg xc_EM 52 (by decide) (by decide) (by decide) m_513 d_EM_send_59 ?_
  refine lv_iload hx hb d_EM_send_62 (lv_at hl 6 rfl) ?_
  refine lv_iload hx hb d_EM_send_64 (lv_at hl 5 rfl) ?_
  replace h := xb h
  obtain ⟨M5, hv, h⟩ := h
  refine xr_mst C X hg 52 (by decide) (by decide) rfl d_EM_send_66 hv (fun H locs X => ?_)
  exact kw_EM_send_67 (x6 := x6) C hlk hr hin hg  X (lv_sub hl [0, 6] rfl) h
set_option maxHeartbeats 4000000 in
set_option maxRecDepth 100000 in
theorem kw_EM_send_0 {x1 : Int32} {x2 : Int32} {x3 : Int32} {x4 : Int32} {x5 : Int32} {r : Int32} (C : xx_C p m c b_EM_send 7 s args Rn_EM E) (hlk : meth.locks = false) (hr : meth.sig.returnType = (some .int)) (hin : meth.name = "send") (hg : xe_g E = true) (X : xx_S E K M s H locs) (hl : lv_has ls 7 [(0, .ref (xe_om E)), (1, .int x1), (2, .int x2), (3, .int x3), (4, .int x4), (5, .int x5)]) (h : kf_EM_send_0 M x1 x2 x3 x4 x5 = some (r, M')) : W p l e { frames := 0, cells := 0, slots := 0, locals := 0 } s m args below meth c H locs 0 0 (MQ below (xq_i E K M' r) args s 0 0 (xe_A E)) (F0 m 0 ls []) := by
  have hx := C.1.1
  have hb := C.1.2.1
  unfold kf_EM_send_0 at h
  refine lv_aload_n hx hb d_EM_send_0 rfl (lv_at hl 0 rfl) ?_
  refine xr_mgl C X hg xc_EM (by decide) (by decide) m_517 d_EM_send_1 ?_
  refine lv_istore hx hb d_EM_send_4 hl (by decide) rfl (fun ls hl => ?_)
  have hl : lv_has ls 7 [(6, .int (M xm_l 0)), (0, .ref (xe_om E)), (1, .int x1), (2, .int x2), (3, .int x3), (4, .int x4), (5, .int x5)] := hl
  refine lv_aload_n hx hb d_EM_send_6 rfl (lv_at hl 1 rfl) ?_
  refine xr_mgl C X hg xc_EM (by decide) (by decide) m_517 d_EM_send_7 ?_
  refine lv_bipush hx hb d_EM_send_10 kn_b_24 ?_
  refine lv_icmp_ge (tgt := 25) hx hb d_EM_send_12 (by decide +kernel) (fun hc => ?_) (fun hc => ?_)
  · rw [if_pos hc] at h
    exact kw_EM_send_25 (x1 := x1) (x2 := x2) (x3 := x3) (x4 := x4) (x5 := x5) (x6 := (M xm_l 0)) C hlk hr hin hg  X (lv_sub hl [1, 2, 3, 4, 5, 6, 0] rfl) h
  · rw [if_neg hc] at h
    refine lv_aload_n hx hb d_EM_send_15 rfl (lv_at hl 1 rfl) ?_
    refine lv_dup hx hb d_EM_send_16 rfl ?_
    refine xr_mgl C X hg xc_EM (by decide) (by decide) m_517 d_EM_send_17 ?_
    refine lv_iconst hx hb d_EM_send_20 kn_i_1 ?_
    refine lv_iadd hx hb d_EM_send_21 ?_
    replace h := xb h
    obtain ⟨M1, hv, h⟩ := h
    refine xr_mpl C X hg xc_EM (by decide) (by decide) rfl rfl m_517 d_EM_send_22 hv (fun H locs X => ?_)
    exact kw_EM_send_25 (x1 := x1) (x2 := x2) (x3 := x3) (x4 := x4) (x5 := x5) (x6 := (M xm_l 0)) C hlk hr hin hg  X (lv_sub hl [1, 2, 3, 4, 5, 6, 0] rfl) h
theorem kc_EM_send (l : Launch) (E : xe) (hg : xe_g E = true) {x1 : Int32} {x2 : Int32} {x3 : Int32} {x4 : Int32} {x5 : Int32} {r : Int32} (h : kf_EM_send_0 M x1 x2 x3 x4 x5 = some (r, M')) : Met l y_EM_send (Cond.code y_EM_send b_EM_send 7 (some .int) :: w_all) { frames := 0, cells := 0, slots := 0, locals := 0 } (va_Pc [.ref (xe_om E), .int x1, .int x2, .int x3, .int x4, .int x5] (fun U => xx_B E K M U)) (xq_i E K M' r) 0 0 (xe_A E) :=
  xr_met (by decide) (Nat.le_of_ble_eq_true rfl) fun p e s m below meth c ls C X hlk hr hin hl => kw_EM_send_0 C hlk hr hin hg X hl h
set_option maxHeartbeats 4000000 in
set_option maxRecDepth 100000 in
theorem kwb_EM_copyMessage_86 {rec86 : xm → Int32 → Int32 → Int32 → Option xm} {x1 : Int32} {x2 : Int32} {x3 : Int32} (C : xx_C p m c b_EM_copyMessage 4 s args Rn_EM E) (hlk : meth.locks = false) (hr : meth.sig.returnType = none) (hin : meth.name = "copyMessage") (hg : xe_g E = true) (hrec86 : ∀ {H : Heap} {locs : List Loc} {ls : Array Slot} {M : xm} {x1 : Int32} {x2 : Int32} {x3 : Int32}, xx_S E K M s H locs → lv_has ls 4 [(0, .ref (xe_om E)), (1, .int x1), (2, .int x2), (3, .int x3)] → rec86 M x1 x2 x3 = some M' → W p l e { frames := 0, cells := 0, slots := 0, locals := 0 } s m args below meth c H locs 0 0 (MQ below (xq_v E K M') args s 0 0 (xe_A E)) (F0 m 86 ls [])) (X : xx_S E K M s H locs) (hl : lv_has ls 4 [(0, .ref (xe_om E)), (1, .int x1), (2, .int x2), (3, .int x3)]) (h : kb_EM_copyMessage_86 rec86 M x1 x2 x3 = some M') : W p l e { frames := 0, cells := 0, slots := 0, locals := 0 } s m args below meth c H locs 0 0 (MQ below (xq_v E K M') args s 0 0 (xe_A E)) (F0 m 86 ls []) := by
  have hx := C.1.1
  have hb := C.1.2.1
  unfold kb_EM_copyMessage_86 at h
  refine lv_iload_n hx hb d_EM_copyMessage_86 rfl (lv_at hl 3 rfl) ?_
  refine lv_bipush hx hb d_EM_copyMessage_87 kn_b_8 ?_
  refine lv_icmp_ge (tgt := 120) hx hb d_EM_copyMessage_89 (by decide +kernel) (fun hc => ?_) (fun hc => ?_)
  · rw [if_pos hc] at h
    obtain rfl := Option.some.inj h
    exact xr_vret C X hlk hr d_EM_copyMessage_120 (Nat.le_of_ble_eq_true rfl) (Nat.le_of_ble_eq_true rfl)
  · rw [if_neg hc] at h
    refine lv_aload_n hx hb d_EM_copyMessage_92 rfl (lv_at hl 0 rfl) ?_
    refine xr_mga C X hg xc_EM 55 (by decide) (by decide) (by decide) m_516 d_EM_copyMessage_93 ?_
    refine lv_bipush hx hb d_EM_copyMessage_96 kn_b_8 ?_
    refine lv_iload_n hx hb d_EM_copyMessage_98 rfl (lv_at hl 2 rfl) ?_
    refine lv_imul hx hb d_EM_copyMessage_99 ?_
    refine lv_iload_n hx hb d_EM_copyMessage_100 rfl (lv_at hl 3 rfl) ?_
    refine lv_iadd hx hb d_EM_copyMessage_101 ?_
    refine lv_aload_n hx hb d_EM_copyMessage_102 rfl (lv_at hl 0 rfl) ?_
    refine xr_mga C X hg xc_EM 55 (by decide) (by decide) (by decide) m_516 d_EM_copyMessage_103 ?_
    refine lv_bipush hx hb d_EM_copyMessage_106 kn_b_8 ?_
    refine lv_iload_n hx hb d_EM_copyMessage_108 rfl (lv_at hl 1 rfl) ?_
    refine lv_imul hx hb d_EM_copyMessage_109 ?_
    refine lv_iload_n hx hb d_EM_copyMessage_110 rfl (lv_at hl 3 rfl) ?_
    refine lv_iadd hx hb d_EM_copyMessage_111 ?_
    replace h := xb h
    obtain ⟨v1, hv, h⟩ := h
    refine xr_mld C X hg 55 (by decide) (by decide) rfl d_EM_copyMessage_112 hv ?_
    replace h := xb h
    obtain ⟨M2, hv, h⟩ := h
    refine xr_mst C X hg 55 (by decide) (by decide) rfl d_EM_copyMessage_113 hv (fun H locs X => ?_)
    refine lv_iinc (k := 3) (v := (x3 + (1 : Int32))) hx hb d_EM_copyMessage_114 hl rfl (congrArg (fun y : Int32 => x3 + y) kn_i_1) (by decide) rfl (fun ls hl => ?_)
    have hl : lv_has ls 4 [(3, .int (x3 + (1 : Int32))), (0, .ref (xe_om E)), (1, .int x1), (2, .int x2)] := hl
    refine lv_goto (tgt := 86) hx hb d_EM_copyMessage_117 (by decide +kernel) ?_
    exact hrec86 (x1 := x1) (x2 := x2) (x3 := (x3 + (1 : Int32))) X (lv_sub hl [1, 2, 3, 0] rfl) h
theorem kw_EM_copyMessage_86 (C : xx_C p m c b_EM_copyMessage 4 s args Rn_EM E) (hlk : meth.locks = false) (hr : meth.sig.returnType = none) (hin : meth.name = "copyMessage") (hg : xe_g E = true) : ∀ (n : Nat) {H : Heap} {locs : List Loc} {ls : Array Slot} {M : xm} {x1 : Int32} {x2 : Int32} {x3 : Int32}, xx_S E K M s H locs → lv_has ls 4 [(0, .ref (xe_om E)), (1, .int x1), (2, .int x2), (3, .int x3)] → kf_EM_copyMessage_86 n M x1 x2 x3 = some M' → W p l e { frames := 0, cells := 0, slots := 0, locals := 0 } s m args below meth c H locs 0 0 (MQ below (xq_v E K M') args s 0 0 (xe_A E)) (F0 m 86 ls []) := by
  intro n
  induction n with
  | zero => intro H locs ls M x1 x2 x3 X hl h; exact nomatch (show (none : Option xm) = some _ from h)
  | succ n ih => intro H locs ls M x1 x2 x3 X hl h; exact kwb_EM_copyMessage_86 C hlk hr hin hg ih X hl h
set_option maxHeartbeats 4000000 in
set_option maxRecDepth 100000 in
theorem kw_EM_copyMessage_72 {x1 : Int32} {x2 : Int32} (C : xx_C p m c b_EM_copyMessage 4 s args Rn_EM E) (hlk : meth.locks = false) (hr : meth.sig.returnType = none) (hin : meth.name = "copyMessage") (hg : xe_g E = true) (X : xx_S E K M s H locs) (hl : lv_has ls 4 [(0, .ref (xe_om E)), (1, .int x1), (2, .int x2)]) (h : kf_EM_copyMessage_72 M x1 x2 = some M') : W p l e { frames := 0, cells := 0, slots := 0, locals := 0 } s m args below meth c H locs 0 0 (MQ below (xq_v E K M') args s 0 0 (xe_A E)) (F0 m 72 ls []) := by
  have hx := C.1.1
  have hb := C.1.2.1
  unfold kf_EM_copyMessage_72 at h
  refine lv_aload_n hx hb d_EM_copyMessage_72 rfl (lv_at hl 0 rfl) ?_
  refine xr_mga C X hg xc_EM 54 (by decide) (by decide) (by decide) m_515 d_EM_copyMessage_73 ?_
  refine lv_iload_n hx hb d_EM_copyMessage_76 rfl (lv_at hl 2 rfl) ?_
  refine lv_aload_n hx hb d_EM_copyMessage_77 rfl (lv_at hl 0 rfl) ?_
  refine xr_mga C X hg xc_EM 54 (by decide) (by decide) (by decide) m_515 d_EM_copyMessage_78 ?_
  refine lv_iload_n hx hb d_EM_copyMessage_81 rfl (lv_at hl 1 rfl) ?_
  replace h := xb h
  obtain ⟨v1, hv, h⟩ := h
  refine xr_mld C X hg 54 (by decide) (by decide) rfl d_EM_copyMessage_82 hv ?_
  replace h := xb h
  obtain ⟨M2, hv, h⟩ := h
  refine xr_mst C X hg 54 (by decide) (by decide) rfl d_EM_copyMessage_83 hv (fun H locs X => ?_)
  refine lv_iconst hx hb d_EM_copyMessage_84 kn_i_0 ?_
  refine lv_istore_n hx hb d_EM_copyMessage_85 rfl hl (by decide) rfl (fun ls hl => ?_)
  have hl : lv_has ls 4 [(3, .int (0 : Int32)), (0, .ref (xe_om E)), (1, .int x1), (2, .int x2)] := hl
  exact kw_EM_copyMessage_86 C hlk hr hin hg 1000 X (lv_sub hl [1, 2, 3, 0] rfl) h
set_option maxHeartbeats 4000000 in
set_option maxRecDepth 100000 in
theorem kw_EM_copyMessage_36 {x1 : Int32} {x2 : Int32} (C : xx_C p m c b_EM_copyMessage 4 s args Rn_EM E) (hlk : meth.locks = false) (hr : meth.sig.returnType = none) (hin : meth.name = "copyMessage") (hg : xe_g E = true) (X : xx_S E K M s H locs) (hl : lv_has ls 4 [(0, .ref (xe_om E)), (1, .int x1), (2, .int x2)]) (h : kf_EM_copyMessage_36 M x1 x2 = some M') : W p l e { frames := 0, cells := 0, slots := 0, locals := 0 } s m args below meth c H locs 0 0 (MQ below (xq_v E K M') args s 0 0 (xe_A E)) (F0 m 36 ls []) := by
  have hx := C.1.1
  have hb := C.1.2.1
  unfold kf_EM_copyMessage_36 at h
  refine lv_aload_n hx hb d_EM_copyMessage_36 rfl (lv_at hl 0 rfl) ?_
  refine xr_mga C X hg xc_EM 51 (by decide) (by decide) (by decide) m_512 d_EM_copyMessage_37 ?_
  refine lv_iload_n hx hb d_EM_copyMessage_40 rfl (lv_at hl 2 rfl) ?_
  refine lv_aload_n hx hb d_EM_copyMessage_41 rfl (lv_at hl 0 rfl) ?_
  refine xr_mga C X hg xc_EM 51 (by decide) (by decide) (by decide) m_512 d_EM_copyMessage_42 ?_
  refine lv_iload_n hx hb d_EM_copyMessage_45 rfl (lv_at hl 1 rfl) ?_
  replace h := xb h
  obtain ⟨v1, hv, h⟩ := h
  refine xr_mld C X hg 51 (by decide) (by decide) rfl d_EM_copyMessage_46 hv ?_
  replace h := xb h
  obtain ⟨M2, hv, h⟩ := h
  refine xr_mst C X hg 51 (by decide) (by decide) rfl d_EM_copyMessage_47 hv (fun H locs X => ?_)
  refine lv_aload_n hx hb d_EM_copyMessage_48 rfl (lv_at hl 0 rfl) ?_
  refine xr_mga C X hg xc_EM 52 (by decide) (by decide) (by decide) m_513 d_EM_copyMessage_49 ?_
  refine lv_iload_n hx hb d_EM_copyMessage_52 rfl (lv_at hl 2 rfl) ?_
  refine lv_aload_n hx hb d_EM_copyMessage_53 rfl (lv_at hl 0 rfl) ?_
  refine xr_mga C X hg xc_EM 52 (by decide) (by decide) (by decide) m_513 d_EM_copyMessage_54 ?_
  refine lv_iload_n hx hb d_EM_copyMessage_57 rfl (lv_at hl 1 rfl) ?_
  replace h := xb h
  obtain ⟨v3, hv, h⟩ := h
  refine xr_mld C X hg 52 (by decide) (by decide) rfl d_EM_copyMessage_58 hv ?_
  replace h := xb h
  obtain ⟨M4, hv, h⟩ := h
  refine xr_mst C X hg 52 (by decide) (by decide) rfl d_EM_copyMessage_59 hv (fun H locs X => ?_)
  refine lv_aload_n hx hb d_EM_copyMessage_60 rfl (lv_at hl 0 rfl) ?_
  refine xr_mga C X hg xc_EM 53 (by decide) (by decide) (by decide) m_514 d_EM_copyMessage_61 ?_
  refine lv_iload_n hx hb d_EM_copyMessage_64 rfl (lv_at hl 2 rfl) ?_
  refine lv_aload_n hx hb d_EM_copyMessage_65 rfl (lv_at hl 0 rfl) ?_
  refine xr_mga C X hg xc_EM 53 (by decide) (by decide) (by decide) m_514 d_EM_copyMessage_66 ?_
  refine lv_iload_n hx hb d_EM_copyMessage_69 rfl (lv_at hl 1 rfl) ?_
  replace h := xb h
  obtain ⟨v5, hv, h⟩ := h
  refine xr_mld C X hg 53 (by decide) (by decide) rfl d_EM_copyMessage_70 hv ?_
  replace h := xb h
  obtain ⟨M6, hv, h⟩ := h
  refine xr_mst C X hg 53 (by decide) (by decide) rfl d_EM_copyMessage_71 hv (fun H locs X => ?_)
  exact kw_EM_copyMessage_72 (x1 := x1) (x2 := x2) C hlk hr hin hg  X (lv_sub hl [0, 1, 2] rfl) h
set_option maxHeartbeats 4000000 in
set_option maxRecDepth 100000 in
theorem kw_EM_copyMessage_0 {x1 : Int32} {x2 : Int32} (C : xx_C p m c b_EM_copyMessage 4 s args Rn_EM E) (hlk : meth.locks = false) (hr : meth.sig.returnType = none) (hin : meth.name = "copyMessage") (hg : xe_g E = true) (X : xx_S E K M s H locs) (hl : lv_has ls 4 [(0, .ref (xe_om E)), (1, .int x1), (2, .int x2)]) (h : kf_EM_copyMessage_0 M x1 x2 = some M') : W p l e { frames := 0, cells := 0, slots := 0, locals := 0 } s m args below meth c H locs 0 0 (MQ below (xq_v E K M') args s 0 0 (xe_A E)) (F0 m 0 ls []) := by
  have hx := C.1.1
  have hb := C.1.2.1
  unfold kf_EM_copyMessage_0 at h
  refine lv_aload_n hx hb d_EM_copyMessage_0 rfl (lv_at hl 0 rfl) ?_
  refine xr_mga C X hg xc_EM 48 (by decide) (by decide) (by decide) m_509 d_EM_copyMessage_1 ?_
  refine lv_iload_n hx hb d_EM_copyMessage_4 rfl (lv_at hl 2 rfl) ?_
  refine lv_aload_n hx hb d_EM_copyMessage_5 rfl (lv_at hl 0 rfl) ?_
  refine xr_mga C X hg xc_EM 48 (by decide) (by decide) (by decide) m_509 d_EM_copyMessage_6 ?_
  refine lv_iload_n hx hb d_EM_copyMessage_9 rfl (lv_at hl 1 rfl) ?_
  replace h := xb h
  obtain ⟨v1, hv, h⟩ := h
  refine xr_mld C X hg 48 (by decide) (by decide) rfl d_EM_copyMessage_10 hv ?_
  replace h := xb h
  obtain ⟨M2, hv, h⟩ := h
  refine xr_mst C X hg 48 (by decide) (by decide) rfl d_EM_copyMessage_11 hv (fun H locs X => ?_)
  refine lv_aload_n hx hb d_EM_copyMessage_12 rfl (lv_at hl 0 rfl) ?_
  refine xr_mga C X hg xc_EM 49 (by decide) (by decide) (by decide) m_510 d_EM_copyMessage_13 ?_
  refine lv_iload_n hx hb d_EM_copyMessage_16 rfl (lv_at hl 2 rfl) ?_
  refine lv_aload_n hx hb d_EM_copyMessage_17 rfl (lv_at hl 0 rfl) ?_
  refine xr_mga C X hg xc_EM 49 (by decide) (by decide) (by decide) m_510 d_EM_copyMessage_18 ?_
  refine lv_iload_n hx hb d_EM_copyMessage_21 rfl (lv_at hl 1 rfl) ?_
  replace h := xb h
  obtain ⟨v3, hv, h⟩ := h
  refine xr_mld C X hg 49 (by decide) (by decide) rfl d_EM_copyMessage_22 hv ?_
  replace h := xb h
  obtain ⟨M4, hv, h⟩ := h
  refine xr_mst C X hg 49 (by decide) (by decide) rfl d_EM_copyMessage_23 hv (fun H locs X => ?_)
  refine lv_aload_n hx hb d_EM_copyMessage_24 rfl (lv_at hl 0 rfl) ?_
  refine xr_mga C X hg xc_EM 50 (by decide) (by decide) (by decide) m_511 d_EM_copyMessage_25 ?_
  refine lv_iload_n hx hb d_EM_copyMessage_28 rfl (lv_at hl 2 rfl) ?_
  refine lv_aload_n hx hb d_EM_copyMessage_29 rfl (lv_at hl 0 rfl) ?_
  refine xr_mga C X hg xc_EM 50 (by decide) (by decide) (by decide) m_511 d_EM_copyMessage_30 ?_
  refine lv_iload_n hx hb d_EM_copyMessage_33 rfl (lv_at hl 1 rfl) ?_
  replace h := xb h
  obtain ⟨v5, hv, h⟩ := h
  refine xr_mld C X hg 50 (by decide) (by decide) rfl d_EM_copyMessage_34 hv ?_
  replace h := xb h
  obtain ⟨M6, hv, h⟩ := h
  refine xr_mst C X hg 50 (by decide) (by decide) rfl d_EM_copyMessage_35 hv (fun H locs X => ?_)
  exact kw_EM_copyMessage_36 (x1 := x1) (x2 := x2) C hlk hr hin hg  X (lv_sub hl [0, 1, 2] rfl) h
theorem kc_EM_copyMessage (l : Launch) (E : xe) (hg : xe_g E = true) {x1 : Int32} {x2 : Int32} (h : kf_EM_copyMessage_0 M x1 x2 = some M') : Met l y_EM_copyMessage (Cond.code y_EM_copyMessage b_EM_copyMessage 4 none :: w_all) { frames := 0, cells := 0, slots := 0, locals := 0 } (va_Pc [.ref (xe_om E), .int x1, .int x2] (fun U => xx_B E K M U)) (xq_v E K M') 0 0 (xe_A E) :=
  xr_met (by decide) (Nat.le_of_ble_eq_true rfl) fun p e s m below meth c ls C X hlk hr hin hl => kw_EM_copyMessage_0 C hlk hr hin hg X hl h
set_option maxHeartbeats 4000000 in
set_option maxRecDepth 100000 in
theorem kwb_EM_take_19 {rec19 : xm → Int32 → Option xm} {x2 : Int32} (C : xx_C p m c b_EM_take 3 s args Rn_EM E) (hlk : meth.locks = false) (hr : meth.sig.returnType = none) (hin : meth.name = "take") (hg : xe_g E = true) (hrec19 : ∀ {H : Heap} {locs : List Loc} {ls : Array Slot} {M : xm} {x2 : Int32}, xx_S E K M s H locs → lv_has ls 3 [(0, .ref (xe_om E)), (2, .int x2)] → rec19 M x2 = some M' → W p l e { frames := 1, cells := 0, slots := 0, locals := 23 } s m args below meth c H locs 0 0 (MQ below (xq_v E K M') args s 0 0 (xe_A E)) (F0 m 19 ls [])) (X : xx_S E K M s H locs) (hl : lv_has ls 3 [(0, .ref (xe_om E)), (2, .int x2)]) (h : kb_EM_take_19 rec19 M x2 = some M') : W p l e { frames := 1, cells := 0, slots := 0, locals := 23 } s m args below meth c H locs 0 0 (MQ below (xq_v E K M') args s 0 0 (xe_A E)) (F0 m 19 ls []) := by
  have hx := C.1.1
  have hb := C.1.2.1
  unfold kb_EM_take_19 at h
  refine lv_iload_n hx hb d_EM_take_19 rfl (lv_at hl 1 rfl) ?_
  refine lv_aload_n hx hb d_EM_take_20 rfl (lv_at hl 0 rfl) ?_
  refine xr_mgl C X hg xc_EM (by decide) (by decide) m_517 d_EM_take_21 ?_
  refine lv_icmp_ge (tgt := 41) hx hb d_EM_take_24 (by decide +kernel) (fun hc => ?_) (fun hc => ?_)
  · rw [if_pos hc] at h
    obtain rfl := Option.some.inj h
    exact xr_vret C X hlk hr d_EM_take_41 (Nat.le_of_ble_eq_true rfl) (Nat.le_of_ble_eq_true rfl)
  · rw [if_neg hc] at h
    refine lv_aload_n hx hb d_EM_take_27 rfl (lv_at hl 0 rfl) ?_
    refine lv_iload_n hx hb d_EM_take_28 rfl (lv_at hl 1 rfl) ?_
    refine lv_iconst hx hb d_EM_take_29 kn_i_1 ?_
    refine lv_iadd hx hb d_EM_take_30 ?_
    refine lv_iload_n hx hb d_EM_take_31 rfl (lv_at hl 1 rfl) ?_
    replace h := xb h
    obtain ⟨M1, hv, h⟩ := h
    refine xr_kv (va_runV (As := [.int (x2 + (1 : Int32)), .int x2]) (rest := []) C.1 (kc_EM_copyMessage l E hg hv) (cwV 2 C.1.2.2.2.2 (xw_V m_518 m_519 m_520 m_521 m_522) rfl rfl rfl ky_EM_copyMessage ⟨(Nat.le_of_ble_eq_true rfl), (Nat.le_of_ble_eq_true rfl)⟩) (xr_pV C X xc_EM.1 (xk_Xw (X.1.2.2.2.2.2 hg).1)) rfl rfl hl.1 rfl (lv_room (Nat.le_of_ble_eq_true rfl)) d_EM_take_32 ⟨(Nat.le_of_ble_eq_true rfl), (Nat.le_of_ble_eq_true rfl)⟩) X (fun H locs X => ?_)
    refine lv_iinc (k := 1) (v := (x2 + (1 : Int32))) hx hb d_EM_take_35 hl rfl (congrArg (fun y : Int32 => x2 + y) kn_i_1) (by decide) rfl (fun ls hl => ?_)
    have hl : lv_has ls 3 [(2, .int (x2 + (1 : Int32))), (0, .ref (xe_om E))] := hl
    refine lv_goto (tgt := 19) hx hb d_EM_take_38 (by decide +kernel) ?_
    exact hrec19 (x2 := (x2 + (1 : Int32))) X (lv_sub hl [1, 0] rfl) h
theorem kw_EM_take_19 (C : xx_C p m c b_EM_take 3 s args Rn_EM E) (hlk : meth.locks = false) (hr : meth.sig.returnType = none) (hin : meth.name = "take") (hg : xe_g E = true) : ∀ (n : Nat) {H : Heap} {locs : List Loc} {ls : Array Slot} {M : xm} {x2 : Int32}, xx_S E K M s H locs → lv_has ls 3 [(0, .ref (xe_om E)), (2, .int x2)] → kf_EM_take_19 n M x2 = some M' → W p l e { frames := 1, cells := 0, slots := 0, locals := 23 } s m args below meth c H locs 0 0 (MQ below (xq_v E K M') args s 0 0 (xe_A E)) (F0 m 19 ls []) := by
  intro n
  induction n with
  | zero => intro H locs ls M x2 X hl h; exact nomatch (show (none : Option xm) = some _ from h)
  | succ n ih => intro H locs ls M x2 X hl h; exact kwb_EM_take_19 C hlk hr hin hg ih X hl h
set_option maxHeartbeats 4000000 in
set_option maxRecDepth 100000 in
theorem kw_EM_take_0 {x1 : Int32} (C : xx_C p m c b_EM_take 3 s args Rn_EM E) (hlk : meth.locks = false) (hr : meth.sig.returnType = none) (hin : meth.name = "take") (hg : xe_g E = true) (X : xx_S E K M s H locs) (hl : lv_has ls 3 [(0, .ref (xe_om E)), (1, .int x1)]) (h : kf_EM_take_0 M x1 = some M') : W p l e { frames := 1, cells := 0, slots := 0, locals := 23 } s m args below meth c H locs 0 0 (MQ below (xq_v E K M') args s 0 0 (xe_A E)) (F0 m 0 ls []) := by
  have hx := C.1.1
  have hb := C.1.2.1
  unfold kf_EM_take_0 at h
  refine lv_aload_n hx hb d_EM_take_0 rfl (lv_at hl 0 rfl) ?_
  refine lv_iload_n hx hb d_EM_take_1 rfl (lv_at hl 1 rfl) ?_
  refine lv_bipush hx hb d_EM_take_2 kn_b_24 ?_
  replace h := xb h
  obtain ⟨M1, hv, h⟩ := h
  refine xr_kv (va_runV (As := [.int x1, .int (24 : Int32)]) (rest := []) C.1 (kc_EM_copyMessage l E hg hv) (cwV 2 C.1.2.2.2.2 (xw_V m_518 m_519 m_520 m_521 m_522) rfl rfl rfl ky_EM_copyMessage ⟨(Nat.le_of_ble_eq_true rfl), (Nat.le_of_ble_eq_true rfl)⟩) (xr_pV C X xc_EM.1 (xk_Xw (X.1.2.2.2.2.2 hg).1)) rfl rfl hl.1 rfl (lv_room (Nat.le_of_ble_eq_true rfl)) d_EM_take_4 ⟨(Nat.le_of_ble_eq_true rfl), (Nat.le_of_ble_eq_true rfl)⟩) X (fun H locs X => ?_)
  refine lv_aload_n hx hb d_EM_take_7 rfl (lv_at hl 0 rfl) ?_
  refine lv_dup hx hb d_EM_take_8 rfl ?_
  refine xr_mgl C X hg xc_EM (by decide) (by decide) m_517 d_EM_take_9 ?_
  refine lv_iconst hx hb d_EM_take_12 kn_i_1 ?_
  refine lv_isub hx hb d_EM_take_13 ?_
  replace h := xb h
  obtain ⟨M2, hv, h⟩ := h
  refine xr_mpl C X hg xc_EM (by decide) (by decide) rfl rfl m_517 d_EM_take_14 hv (fun H locs X => ?_)
  refine lv_iload_n hx hb d_EM_take_17 rfl (lv_at hl 1 rfl) ?_
  refine lv_istore_n hx hb d_EM_take_18 rfl hl (by decide) rfl (fun ls hl => ?_)
  have hl : lv_has ls 3 [(2, .int x1), (0, .ref (xe_om E)), (1, .int x1)] := hl
  exact kw_EM_take_19 C hlk hr hin hg 1000 X (lv_sub hl [1, 0] rfl) h
theorem kc_EM_take (l : Launch) (E : xe) (hg : xe_g E = true) {x1 : Int32} (h : kf_EM_take_0 M x1 = some M') : Met l y_EM_take (Cond.code y_EM_take b_EM_take 3 none :: w_all) { frames := 1, cells := 0, slots := 0, locals := 23 } (va_Pc [.ref (xe_om E), .int x1] (fun U => xx_B E K M U)) (xq_v E K M') 0 0 (xe_A E) :=
  xr_met (by decide) (Nat.le_of_ble_eq_true rfl) fun p e s m below meth c ls C X hlk hr hin hl => kw_EM_take_0 C hlk hr hin hg X hl h
set_option maxHeartbeats 4000000 in
set_option maxRecDepth 100000 in
theorem kw_EM_messages_0 {r : Int32} (C : xx_C p m c b_EM_messages 1 s args Rn_EM E) (hlk : meth.locks = false) (hr : meth.sig.returnType = (some .int)) (hin : meth.name = "messages") (hg : xe_g E = true) (X : xx_S E K M s H locs) (hl : lv_has ls 1 [(0, .ref (xe_om E))]) (h : kf_EM_messages_0 M = some (r, M')) : W p l e { frames := 0, cells := 0, slots := 0, locals := 0 } s m args below meth c H locs 0 0 (MQ below (xq_i E K M' r) args s 0 0 (xe_A E)) (F0 m 0 ls []) := by
  have hx := C.1.1
  have hb := C.1.2.1
  unfold kf_EM_messages_0 at h
  refine lv_aload_n hx hb d_EM_messages_0 rfl (lv_at hl 0 rfl) ?_
  refine xr_mgl C X hg xc_EM (by decide) (by decide) m_517 d_EM_messages_1 ?_
  obtain ⟨rfl, rfl⟩ := Prod.mk.inj (Option.some.inj h)
  exact xr_iret C X hlk hr d_EM_messages_4 rfl (Nat.le_of_ble_eq_true rfl) (Nat.le_of_ble_eq_true rfl)
theorem kc_EM_messages (l : Launch) (E : xe) (hg : xe_g E = true) {r : Int32} (h : kf_EM_messages_0 M = some (r, M')) : Met l y_EM_messages (Cond.code y_EM_messages b_EM_messages 1 (some .int) :: w_all) { frames := 0, cells := 0, slots := 0, locals := 0 } (va_Pc [.ref (xe_om E)] (fun U => xx_B E K M U)) (xq_i E K M' r) 0 0 (xe_A E) :=
  xr_met (by decide) (Nat.le_of_ble_eq_true rfl) fun p e s m below meth c ls C X hlk hr hin hl => kw_EM_messages_0 C hlk hr hin hg X hl h
set_option maxHeartbeats 4000000 in
set_option maxRecDepth 100000 in
theorem kw_EM_message_36 {x1 : Int32} {x2 : Int32} {s0 : Int32} {r : Int32} (C : xx_C p m c b_EM_message 4 s args Rn_EM E) (hlk : meth.locks = false) (hr : meth.sig.returnType = (some .int)) (hin : meth.name = "message") (hg : xe_g E = true) (X : xx_S E K M s H locs) (hl : lv_has ls 4 [(0, .ref (xe_om E)), (1, .int x1), (2, .int x2)]) (h : kf_EM_message_36 M x1 x2 s0 = some (r, M')) : W p l e { frames := 0, cells := 0, slots := 0, locals := 0 } s m args below meth c H locs 0 0 (MQ below (xq_i E K M' r) args s 0 0 (xe_A E)) (F0 m 36 ls [.int s0]) := by
  have hx := C.1.1
  have hb := C.1.2.1
  unfold kf_EM_message_36 at h
  refine lv_istore_n hx hb d_EM_message_36 rfl hl (by decide) rfl (fun ls hl => ?_)
  have hl : lv_has ls 4 [(3, .int s0), (0, .ref (xe_om E)), (1, .int x1), (2, .int x2)] := hl
  refine lv_iload_n hx hb d_EM_message_37 rfl (lv_at hl 3 rfl) ?_
  refine lv_bipush hx hb d_EM_message_38 kn_b_16 ?_
  refine lv_aload_n hx hb d_EM_message_40 rfl (lv_at hl 1 rfl) ?_
  refine xr_mga C X hg xc_EM 49 (by decide) (by decide) (by decide) m_510 d_EM_message_41 ?_
  refine lv_iload_n hx hb d_EM_message_44 rfl (lv_at hl 2 rfl) ?_
  replace h := xb h
  obtain ⟨v1, hv, h⟩ := h
  refine xr_mld C X hg 49 (by decide) (by decide) rfl d_EM_message_45 hv ?_
  refine lv_imul hx hb d_EM_message_46 ?_
  refine lv_iadd hx hb d_EM_message_47 ?_
  refine lv_sipush hx hb d_EM_message_48 kn_s_256 ?_
  refine lv_aload_n hx hb d_EM_message_51 rfl (lv_at hl 1 rfl) ?_
  refine xr_mga C X hg xc_EM 50 (by decide) (by decide) (by decide) m_511 d_EM_message_52 ?_
  refine lv_iload_n hx hb d_EM_message_55 rfl (lv_at hl 2 rfl) ?_
  replace h := xb h
  obtain ⟨v2, hv, h⟩ := h
  refine xr_mld C X hg 50 (by decide) (by decide) rfl d_EM_message_56 hv ?_
  refine lv_imul hx hb d_EM_message_57 ?_
  refine lv_iadd hx hb d_EM_message_58 ?_
  refine lv_iload_n hx hb d_EM_message_59 rfl (lv_at hl 0 rfl) ?_
  refine lv_if_eq (tgt := 75) hx hb d_EM_message_60 (by decide +kernel) (fun hc => ?_) (fun hc => ?_)
  · rw [if_pos hc] at h
    refine lv_iconst hx hb d_EM_message_75 kn_i_0 ?_
    refine lv_iadd hx hb d_EM_message_76 ?_
    obtain ⟨rfl, rfl⟩ := Prod.mk.inj (Option.some.inj h)
    exact xr_iret C X hlk hr d_EM_message_77 rfl (Nat.le_of_ble_eq_true rfl) (Nat.le_of_ble_eq_true rfl)
  · rw [if_neg hc] at h
    refine lv_ldc hx hb C.1.2.2.2.1 (C.1.2.2.2.2 _ m_523) d_EM_message_63 ?_
    refine lv_aload_n hx hb d_EM_message_65 rfl (lv_at hl 1 rfl) ?_
    refine xr_mga C X hg xc_EM 51 (by decide) (by decide) (by decide) m_512 d_EM_message_66 ?_
    refine lv_iload_n hx hb d_EM_message_69 rfl (lv_at hl 2 rfl) ?_
    replace h := xb h
    obtain ⟨v3, hv, h⟩ := h
    refine xr_mld C X hg 51 (by decide) (by decide) rfl d_EM_message_70 hv ?_
    refine lv_imul hx hb d_EM_message_71 ?_
    refine lv_goto (tgt := 76) hx hb d_EM_message_72 (by decide +kernel) ?_
    refine lv_iadd hx hb d_EM_message_76 ?_
    obtain ⟨rfl, rfl⟩ := Prod.mk.inj (Option.some.inj h)
    exact xr_iret C X hlk hr d_EM_message_77 rfl (Nat.le_of_ble_eq_true rfl) (Nat.le_of_ble_eq_true rfl)
set_option maxHeartbeats 4000000 in
set_option maxRecDepth 100000 in
theorem kw_EM_message_0 {x1 : Int32} {r : Int32} (C : xx_C p m c b_EM_message 4 s args Rn_EM E) (hlk : meth.locks = false) (hr : meth.sig.returnType = (some .int)) (hin : meth.name = "message") (hg : xe_g E = true) (X : xx_S E K M s H locs) (hl : lv_has ls 4 [(0, .ref (xe_om E)), (1, .int x1)]) (h : kf_EM_message_0 M x1 = some (r, M')) : W p l e { frames := 0, cells := 0, slots := 0, locals := 0 } s m args below meth c H locs 0 0 (MQ below (xq_i E K M' r) args s 0 0 (xe_A E)) (F0 m 0 ls []) := by
  have hx := C.1.1
  have hb := C.1.2.1
  unfold kf_EM_message_0 at h
  refine lv_iload_n hx hb d_EM_message_0 rfl (lv_at hl 1 rfl) ?_
  refine lv_if_lt (tgt := 12) hx hb d_EM_message_1 (by decide +kernel) (fun hc => ?_) (fun hc => ?_)
  · rw [if_pos hc] at h
    refine lv_iconst hx hb d_EM_message_12 kn_i_m1 ?_
    obtain ⟨rfl, rfl⟩ := Prod.mk.inj (Option.some.inj h)
    exact xr_iret C X hlk hr d_EM_message_13 rfl (Nat.le_of_ble_eq_true rfl) (Nat.le_of_ble_eq_true rfl)
  · rw [if_neg hc] at h
    refine lv_iload_n hx hb d_EM_message_4 rfl (lv_at hl 1 rfl) ?_
    refine lv_aload_n hx hb d_EM_message_5 rfl (lv_at hl 0 rfl) ?_
    refine xr_mgl C X hg xc_EM (by decide) (by decide) m_517 d_EM_message_6 ?_
    refine lv_icmp_lt (tgt := 14) hx hb d_EM_message_9 (by decide +kernel) (fun hc => ?_) (fun hc => ?_)
    · rw [if_pos hc] at h
      refine lv_aload_n hx hb d_EM_message_14 rfl (lv_at hl 0 rfl) ?_
      refine xr_mga C X hg xc_EM 48 (by decide) (by decide) (by decide) m_509 d_EM_message_15 ?_
      refine lv_iload_n hx hb d_EM_message_18 rfl (lv_at hl 1 rfl) ?_
      replace h := xb h
      obtain ⟨v1, hv, h⟩ := h
      refine xr_mld C X hg 48 (by decide) (by decide) rfl d_EM_message_19 hv ?_
      refine lv_istore_n hx hb d_EM_message_20 rfl hl (by decide) rfl (fun ls hl => ?_)
      have hl : lv_has ls 4 [(2, .int v1), (0, .ref (xe_om E)), (1, .int x1)] := hl
      refine lv_iload_n hx hb d_EM_message_21 rfl (lv_at hl 0 rfl) ?_
      refine lv_iconst hx hb d_EM_message_22 kn_i_4 ?_
      refine lv_icmp_eq (tgt := 31) hx hb d_EM_message_23 (by decide +kernel) (fun hc => ?_) (fun hc => ?_)
      · rw [if_pos hc] at h
        refine lv_iconst hx hb d_EM_message_31 kn_i_1 ?_
        refine lv_goto (tgt := 36) hx hb d_EM_message_32 (by decide +kernel) ?_
        exact kw_EM_message_36 (x1 := x1) (x2 := v1) (s0 := (1 : Int32)) C hlk hr hin hg  X (lv_sub hl [1, 2, 0] rfl) h
      · rw [if_neg hc] at h
        refine lv_iload_n hx hb d_EM_message_26 rfl (lv_at hl 0 rfl) ?_
        refine lv_iconst hx hb d_EM_message_27 kn_i_5 ?_
        refine lv_icmp_lt (tgt := 35) hx hb d_EM_message_28 (by decide +kernel) (fun hc => ?_) (fun hc => ?_)
        · rw [if_pos hc] at h
          refine lv_iconst hx hb d_EM_message_35 kn_i_0 ?_
          exact kw_EM_message_36 (x1 := x1) (x2 := v1) (s0 := (0 : Int32)) C hlk hr hin hg  X (lv_sub hl [1, 2, 0] rfl) h
        · rw [if_neg hc] at h
          refine lv_iconst hx hb d_EM_message_31 kn_i_1 ?_
          refine lv_goto (tgt := 36) hx hb d_EM_message_32 (by decide +kernel) ?_
          exact kw_EM_message_36 (x1 := x1) (x2 := v1) (s0 := (1 : Int32)) C hlk hr hin hg  X (lv_sub hl [1, 2, 0] rfl) h
    · rw [if_neg hc] at h
      refine lv_iconst hx hb d_EM_message_12 kn_i_m1 ?_
      obtain ⟨rfl, rfl⟩ := Prod.mk.inj (Option.some.inj h)
      exact xr_iret C X hlk hr d_EM_message_13 rfl (Nat.le_of_ble_eq_true rfl) (Nat.le_of_ble_eq_true rfl)
theorem kc_EM_message (l : Launch) (E : xe) (hg : xe_g E = true) {x1 : Int32} {r : Int32} (h : kf_EM_message_0 M x1 = some (r, M')) : Met l y_EM_message (Cond.code y_EM_message b_EM_message 4 (some .int) :: w_all) { frames := 0, cells := 0, slots := 0, locals := 0 } (va_Pc [.ref (xe_om E), .int x1] (fun U => xx_B E K M U)) (xq_i E K M' r) 0 0 (xe_A E) :=
  xr_met (by decide) (Nat.le_of_ble_eq_true rfl) fun p e s m below meth c ls C X hlk hr hin hl => kw_EM_message_0 C hlk hr hin hg X hl h
set_option maxHeartbeats 4000000 in
set_option maxRecDepth 100000 in
theorem kw_EM_lose_0 {x1 : Int32} {r : Int32} (C : xx_C p m c b_EM_lose 2 s args Rn_EM E) (hlk : meth.locks = false) (hr : meth.sig.returnType = (some .boolean)) (hin : meth.name = "lose") (hg : xe_g E = true) (X : xx_S E K M s H locs) (hl : lv_has ls 2 [(0, .ref (xe_om E)), (1, .int x1)]) (h : kf_EM_lose_0 M x1 = some (r, M')) : W p l e { frames := 2, cells := 0, slots := 0, locals := 45 } s m args below meth c H locs 0 0 (MQ below (xq_i E K M' r) args s 0 0 (xe_A E)) (F0 m 0 ls []) := by
  have hx := C.1.1
  have hb := C.1.2.1
  unfold kf_EM_lose_0 at h
  refine lv_iload_n hx hb d_EM_lose_0 rfl (lv_at hl 1 rfl) ?_
  refine lv_if_lt (tgt := 12) hx hb d_EM_lose_1 (by decide +kernel) (fun hc => ?_) (fun hc => ?_)
  · rw [if_pos hc] at h
    refine lv_iconst hx hb d_EM_lose_12 kn_i_0 ?_
    obtain ⟨rfl, rfl⟩ := Prod.mk.inj (Option.some.inj h)
    exact xr_zret C X hlk hr d_EM_lose_13 rfl (Nat.le_of_ble_eq_true rfl) (Nat.le_of_ble_eq_true rfl)
  · rw [if_neg hc] at h
    refine lv_iload_n hx hb d_EM_lose_4 rfl (lv_at hl 1 rfl) ?_
    refine lv_aload_n hx hb d_EM_lose_5 rfl (lv_at hl 0 rfl) ?_
    refine xr_mgl C X hg xc_EM (by decide) (by decide) m_517 d_EM_lose_6 ?_
    refine lv_icmp_lt (tgt := 14) hx hb d_EM_lose_9 (by decide +kernel) (fun hc => ?_) (fun hc => ?_)
    · rw [if_pos hc] at h
      refine lv_aload_n hx hb d_EM_lose_14 rfl (lv_at hl 0 rfl) ?_
      refine lv_iload_n hx hb d_EM_lose_15 rfl (lv_at hl 1 rfl) ?_
      replace h := xb h
      obtain ⟨M1, hv, h⟩ := h
      refine xr_kv (va_runV (As := [.int x1]) (rest := []) C.1 (kc_EM_take l E hg hv) (cwV 1 C.1.2.2.2.2 (xw_V m_524 m_525 m_526 m_521 m_527) rfl rfl rfl ky_EM_take ⟨(Nat.le_of_ble_eq_true rfl), (Nat.le_of_ble_eq_true rfl)⟩) (xr_pV C X xc_EM.1 (xk_Xw (X.1.2.2.2.2.2 hg).1)) rfl rfl hl.1 rfl (lv_room (Nat.le_of_ble_eq_true rfl)) d_EM_lose_16 ⟨(Nat.le_of_ble_eq_true rfl), (Nat.le_of_ble_eq_true rfl)⟩) X (fun H locs X => ?_)
      refine lv_iconst hx hb d_EM_lose_19 kn_i_1 ?_
      obtain ⟨rfl, rfl⟩ := Prod.mk.inj (Option.some.inj h)
      exact xr_zret C X hlk hr d_EM_lose_20 rfl (Nat.le_of_ble_eq_true rfl) (Nat.le_of_ble_eq_true rfl)
    · rw [if_neg hc] at h
      refine lv_iconst hx hb d_EM_lose_12 kn_i_0 ?_
      obtain ⟨rfl, rfl⟩ := Prod.mk.inj (Option.some.inj h)
      exact xr_zret C X hlk hr d_EM_lose_13 rfl (Nat.le_of_ble_eq_true rfl) (Nat.le_of_ble_eq_true rfl)
theorem kc_EM_lose (l : Launch) (E : xe) (hg : xe_g E = true) {x1 : Int32} {r : Int32} (h : kf_EM_lose_0 M x1 = some (r, M')) : Met l y_EM_lose (Cond.code y_EM_lose b_EM_lose 2 (some .boolean) :: w_all) { frames := 2, cells := 0, slots := 0, locals := 45 } (va_Pc [.ref (xe_om E), .int x1] (fun U => xx_B E K M U)) (xq_i E K M' r) 0 0 (xe_A E) :=
  xr_met (by decide) (Nat.le_of_ble_eq_true rfl) fun p e s m below meth c ls C X hlk hr hin hl => kw_EM_lose_0 C hlk hr hin hg X hl h
set_option maxHeartbeats 4000000 in
set_option maxRecDepth 100000 in
theorem kw_EM_pushed_119 {x1 : Int32} {x2 : Int32} {x3 : Int32} (C : xx_C p m c b_EM_pushed 6 s args Rn_EM E) (hlk : meth.locks = false) (hr : meth.sig.returnType = none) (hin : meth.name = "pushed") (hg : xe_g E = true) (X : xx_S E K M s H locs) (hl : lv_has ls 6 [(0, .ref (xe_om E)), (1, .int x1), (2, .int x2), (3, .int x3)]) (h : kf_EM_pushed_119 M x1 x2 x3 = some M') : W p l e { frames := 1, cells := 0, slots := 0, locals := 26 } s m args below meth c H locs 0 0 (MQ below (xq_v E K M') args s 0 0 (xe_A E)) (F0 m 119 ls []) := by
  have hx := C.1.1
  have hb := C.1.2.1
  unfold kf_EM_pushed_119 at h
  refine lv_aload_n hx hb d_EM_pushed_119 rfl (lv_at hl 0 rfl) ?_
  refine lv_bipush hx hb d_EM_pushed_120 kn_b_7 ?_
  refine lv_iload_n hx hb d_EM_pushed_122 rfl (lv_at hl 1 rfl) ?_
  refine lv_iload_n hx hb d_EM_pushed_123 rfl (lv_at hl 2 rfl) ?_
  refine lv_iload_n hx hb d_EM_pushed_124 rfl (lv_at hl 3 rfl) ?_
  refine lv_iconst hx hb d_EM_pushed_125 kn_i_0 ?_
  replace h := xpb h
  obtain ⟨r2, M1, hv, h⟩ := h
  refine xr_ki (va_runV (As := [.int (7 : Int32), .int x1, .int x2, .int x3, .int (0 : Int32)]) (rest := []) C.1 (kc_EM_send l E hg hv) (cwV 5 C.1.2.2.2.2 (xw_V m_528 m_529 m_530 m_521 m_531) rfl rfl rfl ky_EM_send ⟨(Nat.le_of_ble_eq_true rfl), (Nat.le_of_ble_eq_true rfl)⟩) (xr_pV C X xc_EM.1 (xk_Xw (X.1.2.2.2.2.2 hg).1)) rfl rfl hl.1 rfl (lv_room (Nat.le_of_ble_eq_true rfl)) d_EM_pushed_126 ⟨(Nat.le_of_ble_eq_true rfl), (Nat.le_of_ble_eq_true rfl)⟩) X (fun H locs X => ?_)
  refine lv_pop hx hb d_EM_pushed_129 rfl ?_
  refine lv_goto (tgt := 154) hx hb d_EM_pushed_130 (by decide +kernel) ?_
  obtain rfl := Option.some.inj h
  exact xr_vret C X hlk hr d_EM_pushed_154 (Nat.le_of_ble_eq_true rfl) (Nat.le_of_ble_eq_true rfl)
set_option maxHeartbeats 4000000 in
set_option maxRecDepth 100000 in
theorem kwb_EM_pushed_75 {rec75 : xm → Int32 → Int32 → Int32 → Int32 → Int32 → Option xm} {x1 : Int32} {x2 : Int32} {x3 : Int32} {x4 : Int32} {x5 : Int32} (C : xx_C p m c b_EM_pushed 6 s args Rn_EM E) (hlk : meth.locks = false) (hr : meth.sig.returnType = none) (hin : meth.name = "pushed") (hg : xe_g E = true) (hrec75 : ∀ {H : Heap} {locs : List Loc} {ls : Array Slot} {M : xm} {x1 : Int32} {x2 : Int32} {x3 : Int32} {x4 : Int32} {x5 : Int32}, xx_S E K M s H locs → lv_has ls 6 [(0, .ref (xe_om E)), (1, .int x1), (2, .int x2), (3, .int x3), (4, .int x4), (5, .int x5)] → rec75 M x1 x2 x3 x4 x5 = some M' → W p l e { frames := 1, cells := 0, slots := 0, locals := 26 } s m args below meth c H locs 0 0 (MQ below (xq_v E K M') args s 0 0 (xe_A E)) (F0 m 75 ls [])) (X : xx_S E K M s H locs) (hl : lv_has ls 6 [(0, .ref (xe_om E)), (1, .int x1), (2, .int x2), (3, .int x3), (4, .int x4), (5, .int x5)]) (h : kb_EM_pushed_75 rec75 M x1 x2 x3 x4 x5 = some M') : W p l e { frames := 1, cells := 0, slots := 0, locals := 26 } s m args below meth c H locs 0 0 (MQ below (xq_v E K M') args s 0 0 (xe_A E)) (F0 m 75 ls []) := by
  have hx := C.1.1
  have hb := C.1.2.1
  unfold kb_EM_pushed_75 at h
  refine lv_iload hx hb d_EM_pushed_75 (lv_at hl 5 rfl) ?_
  refine lv_bipush hx hb d_EM_pushed_77 kn_b_8 ?_
  refine lv_icmp_ge (tgt := 112) hx hb d_EM_pushed_79 (by decide +kernel) (fun hc => ?_) (fun hc => ?_)
  · rw [if_pos hc] at h
    refine lv_aload_n hx hb d_EM_pushed_112 rfl (lv_at hl 0 rfl) ?_
    refine xr_mga C X hg xc_EM 4 (by decide) (by decide) (by decide) m_466 d_EM_pushed_113 ?_
    refine lv_iload_n hx hb d_EM_pushed_116 rfl (lv_at hl 1 rfl) ?_
    refine lv_iload_n hx hb d_EM_pushed_117 rfl (lv_at hl 3 rfl) ?_
    replace h := xb h
    obtain ⟨M1, hv, h⟩ := h
    refine xr_mst C X hg 4 (by decide) (by decide) rfl d_EM_pushed_118 hv (fun H locs X => ?_)
    exact kw_EM_pushed_119 (x1 := x1) (x2 := x2) (x3 := x3) C hlk hr hin hg  X (lv_sub hl [0, 1, 2, 3] rfl) h
  · rw [if_neg hc] at h
    refine lv_aload_n hx hb d_EM_pushed_82 rfl (lv_at hl 0 rfl) ?_
    refine xr_mga C X hg xc_EM 8 (by decide) (by decide) (by decide) m_470 d_EM_pushed_83 ?_
    refine lv_bipush hx hb d_EM_pushed_86 kn_b_8 ?_
    refine lv_iload hx hb d_EM_pushed_88 (lv_at hl 4 rfl) ?_
    refine lv_imul hx hb d_EM_pushed_90 ?_
    refine lv_iload hx hb d_EM_pushed_91 (lv_at hl 5 rfl) ?_
    refine lv_iadd hx hb d_EM_pushed_93 ?_
    refine lv_aload_n hx hb d_EM_pushed_94 rfl (lv_at hl 0 rfl) ?_
    refine xr_mga C X hg xc_EM 55 (by decide) (by decide) (by decide) m_516 d_EM_pushed_95 ?_
    refine lv_sipush hx hb d_EM_pushed_98 kn_s_192 ?_
    refine lv_iload hx hb d_EM_pushed_101 (lv_at hl 5 rfl) ?_
    refine lv_iadd hx hb d_EM_pushed_103 ?_
    replace h := xb h
    obtain ⟨v2, hv, h⟩ := h
    refine xr_mld C X hg 55 (by decide) (by decide) rfl d_EM_pushed_104 hv ?_
    replace h := xb h
    obtain ⟨M3, hv, h⟩ := h
    refine xr_mst C X hg 8 (by decide) (by decide) rfl d_EM_pushed_105 hv (fun H locs X => ?_)
    refine lv_iinc (k := 5) (v := (x5 + (1 : Int32))) hx hb d_EM_pushed_106 hl rfl (congrArg (fun y : Int32 => x5 + y) kn_i_1) (by decide) rfl (fun ls hl => ?_)
    have hl : lv_has ls 6 [(5, .int (x5 + (1 : Int32))), (0, .ref (xe_om E)), (1, .int x1), (2, .int x2), (3, .int x3), (4, .int x4)] := hl
    refine lv_goto (tgt := 75) hx hb d_EM_pushed_109 (by decide +kernel) ?_
    exact hrec75 (x1 := x1) (x2 := x2) (x3 := x3) (x4 := x4) (x5 := (x5 + (1 : Int32))) X (lv_sub hl [1, 2, 3, 4, 5, 0] rfl) h
theorem kw_EM_pushed_75 (C : xx_C p m c b_EM_pushed 6 s args Rn_EM E) (hlk : meth.locks = false) (hr : meth.sig.returnType = none) (hin : meth.name = "pushed") (hg : xe_g E = true) : ∀ (n : Nat) {H : Heap} {locs : List Loc} {ls : Array Slot} {M : xm} {x1 : Int32} {x2 : Int32} {x3 : Int32} {x4 : Int32} {x5 : Int32}, xx_S E K M s H locs → lv_has ls 6 [(0, .ref (xe_om E)), (1, .int x1), (2, .int x2), (3, .int x3), (4, .int x4), (5, .int x5)] → kf_EM_pushed_75 n M x1 x2 x3 x4 x5 = some M' → W p l e { frames := 1, cells := 0, slots := 0, locals := 26 } s m args below meth c H locs 0 0 (MQ below (xq_v E K M') args s 0 0 (xe_A E)) (F0 m 75 ls []) := by
  intro n
  induction n with
  | zero => intro H locs ls M x1 x2 x3 x4 x5 X hl h; exact nomatch (show (none : Option xm) = some _ from h)
  | succ n ih => intro H locs ls M x1 x2 x3 x4 x5 X hl h; exact kwb_EM_pushed_75 C hlk hr hin hg ih X hl h
set_option maxHeartbeats 4000000 in
set_option maxRecDepth 100000 in
theorem kw_EM_pushed_40 {x1 : Int32} {x2 : Int32} {x3 : Int32} {x4 : Int32} (C : xx_C p m c b_EM_pushed 6 s args Rn_EM E) (hlk : meth.locks = false) (hr : meth.sig.returnType = none) (hin : meth.name = "pushed") (hg : xe_g E = true) (X : xx_S E K M s H locs) (hl : lv_has ls 6 [(0, .ref (xe_om E)), (1, .int x1), (2, .int x2), (3, .int x3), (4, .int x4)]) (h : kf_EM_pushed_40 M x1 x2 x3 x4 = some M') : W p l e { frames := 1, cells := 0, slots := 0, locals := 26 } s m args below meth c H locs 0 0 (MQ below (xq_v E K M') args s 0 0 (xe_A E)) (F0 m 40 ls []) := by
  have hx := C.1.1
  have hb := C.1.2.1
  unfold kf_EM_pushed_40 at h
  refine lv_aload_n hx hb d_EM_pushed_40 rfl (lv_at hl 0 rfl) ?_
  refine xr_mga C X hg xc_EM 5 (by decide) (by decide) (by decide) m_467 d_EM_pushed_41 ?_
  refine lv_iload_n hx hb d_EM_pushed_44 rfl (lv_at hl 1 rfl) ?_
  refine lv_dup2_11 hx hb d_EM_pushed_45 rfl rfl ?_
  replace h := xb h
  obtain ⟨v1, hv, h⟩ := h
  refine xr_mld C X hg 5 (by decide) (by decide) rfl d_EM_pushed_46 hv ?_
  refine lv_iconst hx hb d_EM_pushed_47 kn_i_1 ?_
  refine lv_iadd hx hb d_EM_pushed_48 ?_
  replace h := xb h
  obtain ⟨M2, hv, h⟩ := h
  refine xr_mst C X hg 5 (by decide) (by decide) rfl d_EM_pushed_49 hv (fun H locs X => ?_)
  refine lv_aload_n hx hb d_EM_pushed_50 rfl (lv_at hl 0 rfl) ?_
  refine xr_mga C X hg xc_EM 6 (by decide) (by decide) (by decide) m_468 d_EM_pushed_51 ?_
  refine lv_iload hx hb d_EM_pushed_54 (lv_at hl 4 rfl) ?_
  refine lv_iload_n hx hb d_EM_pushed_56 rfl (lv_at hl 3 rfl) ?_
  replace h := xb h
  obtain ⟨M3, hv, h⟩ := h
  refine xr_mst C X hg 6 (by decide) (by decide) rfl d_EM_pushed_57 hv (fun H locs X => ?_)
  refine lv_aload_n hx hb d_EM_pushed_58 rfl (lv_at hl 0 rfl) ?_
  refine xr_mga C X hg xc_EM 7 (by decide) (by decide) (by decide) m_469 d_EM_pushed_59 ?_
  refine lv_iload hx hb d_EM_pushed_62 (lv_at hl 4 rfl) ?_
  refine lv_aload_n hx hb d_EM_pushed_64 rfl (lv_at hl 0 rfl) ?_
  refine xr_mga C X hg xc_EM 54 (by decide) (by decide) (by decide) m_515 d_EM_pushed_65 ?_
  refine lv_bipush hx hb d_EM_pushed_68 kn_b_24 ?_
  replace h := xb h
  obtain ⟨v4, hv, h⟩ := h
  refine xr_mld C X hg 54 (by decide) (by decide) rfl d_EM_pushed_70 hv ?_
  replace h := xb h
  obtain ⟨M5, hv, h⟩ := h
  refine xr_mst C X hg 7 (by decide) (by decide) rfl d_EM_pushed_71 hv (fun H locs X => ?_)
  refine lv_iconst hx hb d_EM_pushed_72 kn_i_0 ?_
  refine lv_istore hx hb d_EM_pushed_73 hl (by decide) rfl (fun ls hl => ?_)
  have hl : lv_has ls 6 [(5, .int (0 : Int32)), (0, .ref (xe_om E)), (1, .int x1), (2, .int x2), (3, .int x3), (4, .int x4)] := hl
  exact kw_EM_pushed_75 C hlk hr hin hg 1000 X (lv_sub hl [1, 2, 3, 4, 5, 0] rfl) h
set_option maxHeartbeats 4000000 in
set_option maxRecDepth 100000 in
theorem kw_EM_pushed_133 {x1 : Int32} {x2 : Int32} {x3 : Int32} (C : xx_C p m c b_EM_pushed 6 s args Rn_EM E) (hlk : meth.locks = false) (hr : meth.sig.returnType = none) (hin : meth.name = "pushed") (hg : xe_g E = true) (X : xx_S E K M s H locs) (hl : lv_has ls 6 [(0, .ref (xe_om E)), (1, .int x1), (2, .int x2), (3, .int x3)]) (h : kf_EM_pushed_133 M x1 x2 x3 = some M') : W p l e { frames := 1, cells := 0, slots := 0, locals := 26 } s m args below meth c H locs 0 0 (MQ below (xq_v E K M') args s 0 0 (xe_A E)) (F0 m 133 ls []) := by
  have hx := C.1.1
  have hb := C.1.2.1
  unfold kf_EM_pushed_133 at h
  refine lv_iload_n hx hb d_EM_pushed_133 rfl (lv_at hl 3 rfl) ?_
  refine lv_aload_n hx hb d_EM_pushed_134 rfl (lv_at hl 0 rfl) ?_
  refine xr_mga C X hg xc_EM 4 (by decide) (by decide) (by decide) m_466 d_EM_pushed_135 ?_
  refine lv_iload_n hx hb d_EM_pushed_138 rfl (lv_at hl 1 rfl) ?_
  replace h := xb h
  obtain ⟨v1, hv, h⟩ := h
  refine xr_mld C X hg 4 (by decide) (by decide) rfl d_EM_pushed_139 hv ?_
  refine lv_icmp_gt (tgt := 154) hx hb d_EM_pushed_140 (by decide +kernel) (fun hc => ?_) (fun hc => ?_)
  · rw [if_pos hc] at h
    obtain rfl := Option.some.inj h
    exact xr_vret C X hlk hr d_EM_pushed_154 (Nat.le_of_ble_eq_true rfl) (Nat.le_of_ble_eq_true rfl)
  · rw [if_neg hc] at h
    refine lv_aload_n hx hb d_EM_pushed_143 rfl (lv_at hl 0 rfl) ?_
    refine lv_bipush hx hb d_EM_pushed_144 kn_b_7 ?_
    refine lv_iload_n hx hb d_EM_pushed_146 rfl (lv_at hl 1 rfl) ?_
    refine lv_iload_n hx hb d_EM_pushed_147 rfl (lv_at hl 2 rfl) ?_
    refine lv_iload_n hx hb d_EM_pushed_148 rfl (lv_at hl 3 rfl) ?_
    refine lv_iconst hx hb d_EM_pushed_149 kn_i_0 ?_
    replace h := xpb h
    obtain ⟨r3, M2, hv, h⟩ := h
    refine xr_ki (va_runV (As := [.int (7 : Int32), .int x1, .int x2, .int x3, .int (0 : Int32)]) (rest := []) C.1 (kc_EM_send l E hg hv) (cwV 5 C.1.2.2.2.2 (xw_V m_528 m_529 m_530 m_521 m_531) rfl rfl rfl ky_EM_send ⟨(Nat.le_of_ble_eq_true rfl), (Nat.le_of_ble_eq_true rfl)⟩) (xr_pV C X xc_EM.1 (xk_Xw (X.1.2.2.2.2.2 hg).1)) rfl rfl hl.1 rfl (lv_room (Nat.le_of_ble_eq_true rfl)) d_EM_pushed_150 ⟨(Nat.le_of_ble_eq_true rfl), (Nat.le_of_ble_eq_true rfl)⟩) X (fun H locs X => ?_)
    refine lv_pop hx hb d_EM_pushed_153 rfl ?_
    obtain rfl := Option.some.inj h
    exact xr_vret C X hlk hr d_EM_pushed_154 (Nat.le_of_ble_eq_true rfl) (Nat.le_of_ble_eq_true rfl)
set_option maxHeartbeats 4000000 in
set_option maxRecDepth 100000 in
theorem kw_EM_pushed_0 {x1 : Int32} {x2 : Int32} {x3 : Int32} (C : xx_C p m c b_EM_pushed 6 s args Rn_EM E) (hlk : meth.locks = false) (hr : meth.sig.returnType = none) (hin : meth.name = "pushed") (hg : xe_g E = true) (X : xx_S E K M s H locs) (hl : lv_has ls 6 [(0, .ref (xe_om E)), (1, .int x1), (2, .int x2), (3, .int x3)]) (h : kf_EM_pushed_0 M x1 x2 x3 = some M') : W p l e { frames := 1, cells := 0, slots := 0, locals := 26 } s m args below meth c H locs 0 0 (MQ below (xq_v E K M') args s 0 0 (xe_A E)) (F0 m 0 ls []) := by
  have hx := C.1.1
  have hb := C.1.2.1
  unfold kf_EM_pushed_0 at h
  refine lv_aload_n hx hb d_EM_pushed_0 rfl (lv_at hl 0 rfl) ?_
  refine xr_mga C X hg xc_EM 53 (by decide) (by decide) (by decide) m_514 d_EM_pushed_1 ?_
  refine lv_bipush hx hb d_EM_pushed_4 kn_b_24 ?_
  replace h := xb h
  obtain ⟨v1, hv, h⟩ := h
  refine xr_mld C X hg 53 (by decide) (by decide) rfl d_EM_pushed_6 hv ?_
  refine lv_aload_n hx hb d_EM_pushed_7 rfl (lv_at hl 0 rfl) ?_
  refine xr_mga C X hg xc_EM 4 (by decide) (by decide) (by decide) m_466 d_EM_pushed_8 ?_
  refine lv_iload_n hx hb d_EM_pushed_11 rfl (lv_at hl 1 rfl) ?_
  replace h := xb h
  obtain ⟨v2, hv, h⟩ := h
  refine xr_mld C X hg 4 (by decide) (by decide) rfl d_EM_pushed_12 hv ?_
  refine lv_icmp_ne (tgt := 133) hx hb d_EM_pushed_13 (by decide +kernel) (fun hc => ?_) (fun hc => ?_)
  · rw [if_neg hc] at h
    exact kw_EM_pushed_133 (x1 := x1) (x2 := x2) (x3 := x3) C hlk hr hin hg  X (lv_sub hl [0, 1, 2, 3] rfl) h
  · rw [if_pos hc] at h
    refine lv_aload_n hx hb d_EM_pushed_16 rfl (lv_at hl 0 rfl) ?_
    refine xr_mga C X hg xc_EM 5 (by decide) (by decide) (by decide) m_467 d_EM_pushed_17 ?_
    refine lv_iload_n hx hb d_EM_pushed_20 rfl (lv_at hl 1 rfl) ?_
    replace h := xb h
    obtain ⟨v3, hv, h⟩ := h
    refine xr_mld C X hg 5 (by decide) (by decide) rfl d_EM_pushed_21 hv ?_
    refine lv_bipush hx hb d_EM_pushed_22 kn_b_100 ?_
    refine lv_icmp_ge (tgt := 133) hx hb d_EM_pushed_24 (by decide +kernel) (fun hc => ?_) (fun hc => ?_)
    · rw [if_pos hc] at h
      exact kw_EM_pushed_133 (x1 := x1) (x2 := x2) (x3 := x3) C hlk hr hin hg  X (lv_sub hl [0, 1, 2, 3] rfl) h
    · rw [if_neg hc] at h
      refine lv_bipush hx hb d_EM_pushed_27 kn_b_100 ?_
      refine lv_iload_n hx hb d_EM_pushed_29 rfl (lv_at hl 1 rfl) ?_
      refine lv_imul hx hb d_EM_pushed_30 ?_
      refine lv_aload_n hx hb d_EM_pushed_31 rfl (lv_at hl 0 rfl) ?_
      refine xr_mga C X hg xc_EM 5 (by decide) (by decide) (by decide) m_467 d_EM_pushed_32 ?_
      refine lv_iload_n hx hb d_EM_pushed_35 rfl (lv_at hl 1 rfl) ?_
      replace h := xb h
      obtain ⟨v4, hv, h⟩ := h
      refine xr_mld C X hg 5 (by decide) (by decide) rfl d_EM_pushed_36 hv ?_
      refine lv_iadd hx hb d_EM_pushed_37 ?_
      refine lv_istore hx hb d_EM_pushed_38 hl (by decide) rfl (fun ls hl => ?_)
      have hl : lv_has ls 6 [(4, .int (((100 : Int32) * x1) + v4)), (0, .ref (xe_om E)), (1, .int x1), (2, .int x2), (3, .int x3)] := hl
      exact kw_EM_pushed_40 (x1 := x1) (x2 := x2) (x3 := x3) (x4 := (((100 : Int32) * x1) + v4)) C hlk hr hin hg  X (lv_sub hl [1, 2, 3, 4, 0] rfl) h
theorem kc_EM_pushed (l : Launch) (E : xe) (hg : xe_g E = true) {x1 : Int32} {x2 : Int32} {x3 : Int32} (h : kf_EM_pushed_0 M x1 x2 x3 = some M') : Met l y_EM_pushed (Cond.code y_EM_pushed b_EM_pushed 6 none :: w_all) { frames := 1, cells := 0, slots := 0, locals := 26 } (va_Pc [.ref (xe_om E), .int x1, .int x2, .int x3] (fun U => xx_B E K M U)) (xq_v E K M') 0 0 (xe_A E) :=
  xr_met (by decide) (Nat.le_of_ble_eq_true rfl) fun p e s m below meth c ls C X hlk hr hin hl => kw_EM_pushed_0 C hlk hr hin hg X hl h
end KW13
