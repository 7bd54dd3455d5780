/-! EpochStoreModel.acknowledged(III)V -/
def kf_EM_acknowledged_61 (rec6 : xm → Int32 → Int32 → Int32 → Int32 → Option xm) (M : xm) (x1 : Int32) (x2 : Int32) (x3 : Int32) (x4 : Int32) : Option xm := rec6 M x1 x2 x3 (x4 + (1 : Int32))
def kf_EM_acknowledged_198 (rec67 : xm → Int32 → Option xm) (M : xm) (x2 : Int32) : Option xm := rec67 M x2
def kb_EM_acknowledged_154 (rec67 : xm → Int32 → Option xm) (rec154 : xm → Int32 → Int32 → Int32 → Int32 → Option xm) (M : xm) (x2 : Int32) (x4 : Int32) (x5 : Int32) (x6 : Int32) : Option xm := (xMi M 30 x2).bind fun v1 => if (((8 : Int32) * x2) + v1) ≤ x6 then ((xMi M 22 x2).bind fun v2 => (kf_EM_result_0 M x4 x2 v2 x5 (4 : Int32)).bind fun M3 => kf_EM_acknowledged_198 rec67 M3 x2) else (kf_EM_copyWay_0 M x6).bind fun M4 => rec154 M4 x2 x4 x5 (x6 + (1 : Int32))
def kf_EM_acknowledged_154 (rec67 : xm → Int32 → Option xm) : Nat → xm → Int32 → Int32 → Int32 → Int32 → Option xm
  | 0 => fun _ _ _ _ _ => none
  | n + 1 => kb_EM_acknowledged_154 rec67 (kf_EM_acknowledged_154 rec67 n)
def kf_EM_acknowledged_148 (rec67 : xm → Int32 → Option xm) (M : xm) (x2 : Int32) (x4 : Int32) (x5 : Int32) : Option xm := kf_EM_acknowledged_154 rec67 1000 M x2 x4 x5 ((8 : Int32) * x2)
def kf_EM_acknowledged_112 (rec67 : xm → Int32 → Option xm) (M : xm) (x2 : Int32) (x4 : Int32) : Option xm := (xMi M 37 ((8 : Int32) * x2)).bind fun v1 => (xMi M 31 ((8 : Int32) * x2)).bind fun v2 => (xMt M 22 x2 v2).bind fun M3 => (xMi M3 30 x2).bind fun v4 => (xMt M3 30 x2 (v4 - (1 : Int32))).bind fun M5 => kf_EM_acknowledged_148 rec67 M5 x2 x4 v1
def kb_EM_acknowledged_67 (rec67 : xm → Int32 → Option xm) (M : xm) (x2 : Int32) : Option xm := (xMi M 30 x2).bind fun v1 => if v1 ≤ 0 then (some M) else (xMi M 35 ((8 : Int32) * x2)).bind fun v2 => (xMi M 18 x2).bind fun v3 => (xMi M 18 x2).bind fun v4 => if (v2 &&& v3) = v4 then ((xMi M 36 ((8 : Int32) * x2)).bind fun v5 => kf_EM_acknowledged_112 rec67 M x2 v5) else some M
def kf_EM_acknowledged_67 : Nat → xm → Int32 → Option xm
  | 0 => fun _ _ => none
  | n + 1 => kb_EM_acknowledged_67 (kf_EM_acknowledged_67 n)
def kb_EM_acknowledged_6 (rec6 : xm → Int32 → Int32 → Int32 → Int32 → Option xm) (M : xm) (x1 : Int32) (x2 : Int32) (x3 : Int32) (x4 : Int32) : Option xm := (xMi M 30 x2).bind fun v1 => if (((8 : Int32) * x2) + v1) ≤ x4 then (kf_EM_acknowledged_67 1000 M x2) else (xMi M 31 x4).bind fun v2 => if v2 = x3 then ((xMi M 35 x4).bind fun v5 => (xMt M 35 x4 (v5 ||| ((1 : Int32) <<< (x1 &&& 31)))).bind fun M6 => kf_EM_acknowledged_61 rec6 M6 x1 x2 x3 x4) else (xMi M 35 x4).bind fun v3 => (xMt M 35 x4 v3).bind fun M4 => kf_EM_acknowledged_61 rec6 M4 x1 x2 x3 x4
def kf_EM_acknowledged_6 : Nat → xm → Int32 → Int32 → Int32 → Int32 → Option xm
  | 0 => fun _ _ _ _ _ => none
  | n + 1 => kb_EM_acknowledged_6 (kf_EM_acknowledged_6 n)
def kf_EM_acknowledged_0 (M : xm) (x1 : Int32) (x2 : Int32) (x3 : Int32) : Option xm := kf_EM_acknowledged_6 1000 M x1 x2 x3 ((8 : Int32) * x2)
/-! EpochStoreModel.toMaster(IIIII)V -/
def kf_EM_toMaster_47 (M : xm) : Option xm := some M
def kf_EM_toMaster_0 (M : xm) (x1 : Int32) (x2 : Int32) (x3 : Int32) (x4 : Int32) (x5 : Int32) : Option xm := if x1 = (1 : Int32) then ((kf_EM_ask_0 M x2 x3 x5).bind fun M4 => some M4) else if x1 = (3 : Int32) then ((kf_EM_confirmed_0 M x2 x3 x5).bind fun M3 => some M3) else if x1 = (5 : Int32) then ((kf_EM_judge_0 M x2 x3 x4 x5).bind fun M2 => kf_EM_toMaster_47 M2) else (kf_EM_acknowledged_0 M x2 x3 x4).bind fun M1 => some M1
/-! EpochStoreModel.hand(III)V -/
def kf_EM_hand_222 (M : xm) : Option xm := some M
def kf_EM_hand_42 (M : xm) (x2 : Int32) (x3 : Int32) (x4 : Int32) : Option xm := xp (kf_EM_send_0 M (3 : Int32) x2 x3 (0 : Int32) x4) fun r2 M1 => kf_EM_hand_222 M1
def kf_EM_hand_89 (M : xm) : Option xm := kf_EM_hand_222 M
def kf_EM_hand_133 (M : xm) : Option xm := kf_EM_hand_222 M
def kf_EM_hand_176 (M : xm) (x2 : Int32) (x5 : Int32) : Option xm := (xMi M 54 (24 : Int32)).bind fun v1 => if v1 = (4 : Int32) then ((xMt M 46 x2 x5).bind fun M3 => kf_EM_hand_222 M3) else (xMt M 46 x2 (0 : Int32)).bind fun M2 => kf_EM_hand_222 M2
def kf_EM_hand_0 (M : xm) (x1 : Int32) (x2 : Int32) (x3 : Int32) : Option xm := (xMi M 52 (24 : Int32)).bind fun v1 => (xMi M 51 (24 : Int32)).bind fun v2 => if x1 = (2 : Int32) then ((xMi M 3 x2).bind fun v16 => if v16 = 0 then (kf_EM_hand_222 M) else (xMi M 2 x2).bind fun v17 => if v17 = x3 then (kf_EM_hand_42 M x2 x3 v1) else kf_EM_hand_222 M) else if x1 = (6 : Int32) then ((xMi M 3 x2).bind fun v13 => if v13 = 0 then (kf_EM_hand_222 M) else (xMi M 2 x2).bind fun v14 => if v14 = x3 then ((kf_EM_pushed_0 M x2 x3 v2).bind fun M15 => kf_EM_hand_89 M15) else kf_EM_hand_222 M) else if x1 = (4 : Int32) then ((xMi M 39 x2).bind fun v9 => if v9 = v1 then ((xMi M 40 x2).bind fun v10 => if v10 = (1 : Int32) then ((xMt M 40 x2 (2 : Int32)).bind fun M11 => (xMt M11 41 x2 v2).bind fun M12 => kf_EM_hand_133 M12) else kf_EM_hand_222 M) else kf_EM_hand_222 M) else if x1 = (8 : Int32) then ((xMi M 39 x2).bind fun v5 => if v5 = v1 then ((xMi M 40 x2).bind fun v6 => if v6 = (3 : Int32) then ((xMi M 54 (24 : Int32)).bind fun v7 => (xMt M 40 x2 v7).bind fun M8 => kf_EM_hand_176 M8 x2 v2) else kf_EM_hand_222 M) else kf_EM_hand_222 M) else (xMi M 17 x3).bind fun v3 => if v3 = 0 then (kf_EM_hand_222 M) else (kf_EM_toMaster_0 M x1 x2 x3 v2 v1).bind fun M4 => kf_EM_hand_222 M4
/-! EpochStoreModel.deliver(I)I -/
def kf_EM_deliver_46 (M : xm) (x2 : Int32) : Option (Int32 × xm) := some (x2, M)
def kf_EM_deliver_0 (M : xm) (x1 : Int32) : Option (Int32 × xm) := if x1 < 0 then (some ((-1 : Int32), M)) else if x1 < (M xm_l 0) then ((kf_EM_take_0 M x1).bind fun M1 => (xMi M1 48 (24 : Int32)).bind fun v2 => (xMi M1 49 (24 : Int32)).bind fun v3 => (xMi M1 50 (24 : Int32)).bind fun v4 => (kf_EM_hand_0 M1 v2 v3 v4).bind fun M5 => kf_EM_deliver_46 M5 v2) else some ((-1 : Int32), M)
/-! EpochStoreModel.isMaster(I)Z -/
def kf_EM_isMaster_0 (M : xm) (x1 : Int32) : Option (Int32 × xm) := if x1 < (1 : Int32) then (some ((0 : Int32), M)) else if (9 : Int32) < x1 then (some ((0 : Int32), M)) else (xMi M 17 x1).bind fun v1 => if v1 = 0 then (some ((0 : Int32), M)) else some ((1 : Int32), M)
section KW16
variable {p : Program} {l : Launch} {e : Env} {s : State} {m : MethodId} {args : Array Value} {below : List Frame} {meth : Method} {c : Code} {H : Heap} {locs : List Loc} {ls : Array Slot} {E : xe} {K K' : xk} {M M' : xm}
set_option maxHeartbeats 4000000 in
set_option maxRecDepth 100000 in
theorem kw_EM_acknowledged_61 {rec6 : xm → Int32 → Int32 → Int32 → Int32 → Option xm} {x1 : Int32} {x2 : Int32} {x3 : Int32} {x4 : Int32} (C : xx_C p m c b_EM_acknowledged 7 s args Rn_EM E) (hlk : meth.locks = false) (hr : meth.sig.returnType = none) (hin : meth.name = "acknowledged") (hg : xe_g E = true) (hrec6 : ∀ {H : Heap} {locs : List Loc} {ls : Array Slot} {M : xm} {x1 : Int32} {x2 : Int32} {x3 : Int32} {x4 : Int32}, xx_S E K M s H locs → lv_has ls 7 [(0, .ref (xe_om E)), (1, .int x1), (2, .int x2), (3, .int x3), (4, .int x4)] → rec6 M x1 x2 x3 x4 = some M' → W p l e { frames := 2, cells := 0, slots := 0, locals := 52 } s m args below meth c H locs 0 0 (MQ below (xq_v E K M') args s 0 0 (xe_A E)) (F0 m 6 ls [])) (X : xx_S E K M s H locs) (hl : lv_has ls 7 [(0, .ref (xe_om E)), (1, .int x1), (2, .int x2), (3, .int x3), (4, .int x4)]) (h : kf_EM_acknowledged_61 rec6 M x1 x2 x3 x4 = some M') : W p l e { frames := 2, cells := 0, slots := 0, locals := 52 } s m args below meth c H locs 0 0 (MQ below (xq_v E K M') args s 0 0 (xe_A E)) (F0 m 61 ls []) := by
  have hx := C.1.1
  have hb := C.1.2.1
  unfold kf_EM_acknowledged_61 at h
  refine lv_iinc (k := 4) (v := (x4 + (1 : Int32))) hx hb d_EM_acknowledged_61 hl rfl (congrArg (fun y : Int32 => x4 + y) kn_i_1) (by decide) rfl (fun ls hl => ?_)
  have hl : lv_has ls 7 [(4, .int (x4 + (1 : Int32))), (0, .ref (xe_om E)), (1, .int x1), (2, .int x2), (3, .int x3)] := hl
  refine lv_goto (tgt := 6) hx hb d_EM_acknowledged_64 (by decide +kernel) ?_
  exact hrec6 (x1 := x1) (x2 := x2) (x3 := x3) (x4 := (x4 + (1 : Int32))) X (lv_sub hl [1, 2, 3, 4, 0] rfl) h
set_option maxHeartbeats 4000000 in
set_option maxRecDepth 100000 in
theorem kw_EM_acknowledged_198 {rec67 : xm → Int32 → Option xm} {x2 : Int32} (C : xx_C p m c b_EM_acknowledged 7 s args Rn_EM E) (hlk : meth.locks = false) (hr : meth.sig.returnType = none) (hin : meth.name = "acknowledged") (hg : xe_g E = true) (hrec67 : ∀ {H : Heap} {locs : List Loc} {ls : Array Slot} {M : xm} {x2 : Int32}, xx_S E K M s H locs → lv_has ls 7 [(0, .ref (xe_om E)), (2, .int x2)] → rec67 M x2 = some M' → W p l e { frames := 2, cells := 0, slots := 0, locals := 52 } s m args below meth c H locs 0 0 (MQ below (xq_v E K M') args s 0 0 (xe_A E)) (F0 m 67 ls [])) (X : xx_S E K M s H locs) (hl : lv_has ls 7 [(0, .ref (xe_om E)), (2, .int x2)]) (h : kf_EM_acknowledged_198 rec67 M x2 = some M') : W p l e { frames := 2, cells := 0, slots := 0, locals := 52 } s m args below meth c H locs 0 0 (MQ below (xq_v E K M') args s 0 0 (xe_A E)) (F0 m 198 ls []) := by
  have hx := C.1.1
  have hb := C.1.2.1
  unfold kf_EM_acknowledged_198 at h
  refine lv_goto (tgt := 67) hx hb d_EM_acknowledged_198 (by decide +kernel) ?_
  exact hrec67 (x2 := x2) X (lv_sub hl [0, 1] rfl) h
set_option maxHeartbeats 4000000 in
set_option maxRecDepth 100000 in
theorem kwb_EM_acknowledged_154 {rec67 : xm → Int32 → Option xm} {rec154 : xm → Int32 → Int32 → Int32 → Int32 → Option xm} {x2 : Int32} {x4 : Int32} {x5 : Int32} {x6 : Int32} (C : xx_C p m c b_EM_acknowledged 7 s args Rn_EM E) (hlk : meth.locks = false) (hr : meth.sig.returnType = none) (hin : meth.name = "acknowledged") (hg : xe_g E = true) (hrec67 : ∀ {H : Heap} {locs : List Loc} {ls : Array Slot} {M : xm} {x2 : Int32}, xx_S E K M s H locs → lv_has ls 7 [(0, .ref (xe_om E)), (2, .int x2)] → rec67 M x2 = some M' → W p l e { frames := 2, cells := 0, slots := 0, locals := 52 } s m args below meth c H locs 0 0 (MQ below (xq_v E K M') args s 0 0 (xe_A E)) (F0 m 67 ls [])) (hrec154 : ∀ {H : Heap} {locs : List Loc} {ls : Array Slot} {M : xm} {x2 : Int32} {x4 : Int32} {x5 : Int32} {x6 : Int32}, xx_S E K M s H locs → lv_has ls 7 [(0, .ref (xe_om E)), (2, .int x2), (4, .int x4), (5, .int x5), (6, .int x6)] → rec154 M x2 x4 x5 x6 = some M' → W p l e { frames := 2, cells := 0, slots := 0, locals := 52 } s m args below meth c H locs 0 0 (MQ below (xq_v E K M') args s 0 0 (xe_A E)) (F0 m 154 ls [])) (X : xx_S E K M s H locs) (hl : lv_has ls 7 [(0, .ref (xe_om E)), (2, .int x2), (4, .int x4), (5, .int x5), (6, .int x6)]) (h : kb_EM_acknowledged_154 rec67 rec154 M x2 x4 x5 x6 = some M') : W p l e { frames := 2, cells := 0, slots := 0, locals := 52 } s m args below meth c H locs 0 0 (MQ below (xq_v E K M') args s 0 0 (xe_A E)) (F0 m 154 ls []) := by
  have hx := C.1.1
  have hb := C.1.2.1
  unfold kb_EM_acknowledged_154 at h
  refine lv_iload hx hb d_EM_acknowledged_154 (lv_at hl 4 rfl) ?_
  refine lv_bipush hx hb d_EM_acknowledged_156 kn_b_8 ?_
  refine lv_iload_n hx hb d_EM_acknowledged_158 rfl (lv_at hl 1 rfl) ?_
  refine lv_imul hx hb d_EM_acknowledged_159 ?_
  refine lv_aload_n hx hb d_EM_acknowledged_160 rfl (lv_at hl 0 rfl) ?_
  refine xr_mga C X hg xc_EM 30 (by decide) (by decide) (by decide) m_492 d_EM_acknowledged_161 ?_
  refine lv_iload_n hx hb d_EM_acknowledged_164 rfl (lv_at hl 1 rfl) ?_
  replace h := xb h
  obtain ⟨v1, hv, h⟩ := h
  refine xr_mld C X hg 30 (by decide) (by decide) rfl d_EM_acknowledged_165 hv ?_
  refine lv_iadd hx hb d_EM_acknowledged_166 ?_
  refine lv_icmp_ge (tgt := 182) hx hb d_EM_acknowledged_167 (by decide +kernel) (fun hc => ?_) (fun hc => ?_)
  · rw [if_pos hc] at h
    refine lv_aload_n hx hb d_EM_acknowledged_182 rfl (lv_at hl 0 rfl) ?_
    refine lv_iload hx hb d_EM_acknowledged_183 (lv_at hl 2 rfl) ?_
    refine lv_iload_n hx hb d_EM_acknowledged_185 rfl (lv_at hl 1 rfl) ?_
    refine lv_aload_n hx hb d_EM_acknowledged_186 rfl (lv_at hl 0 rfl) ?_
    refine xr_mga C X hg xc_EM 22 (by decide) (by decide) (by decide) m_484 d_EM_acknowledged_187 ?_
    refine lv_iload_n hx hb d_EM_acknowledged_190 rfl (lv_at hl 1 rfl) ?_
    replace h := xb h
    obtain ⟨v2, hv, h⟩ := h
    refine xr_mld C X hg 22 (by decide) (by decide) rfl d_EM_acknowledged_191 hv ?_
    refine lv_iload hx hb d_EM_acknowledged_192 (lv_at hl 3 rfl) ?_
    refine lv_iconst hx hb d_EM_acknowledged_194 kn_i_4 ?_
    replace h := xb h
    obtain ⟨M3, hv, h⟩ := h
    refine xr_kv (va_runV (As := [.int x4, .int x2, .int v2, .int x5, .int (4 : Int32)]) (rest := []) C.1 (kc_EM_result l E hg hv) (cwV 5 C.1.2.2.2.2 (xw_V m_540 m_541 m_542 m_521 m_543) rfl rfl rfl ky_EM_result ⟨(Nat.le_of_ble_eq_true rfl), (Nat.le_of_ble_eq_true rfl)⟩) (xr_pV C X xc_EM.1 (xk_Xw (X.1.2.2.2.2.2 hg).1)) rfl rfl hl.1 rfl (lv_room (Nat.le_of_ble_eq_true rfl)) d_EM_acknowledged_195 ⟨(Nat.le_of_ble_eq_true rfl), (Nat.le_of_ble_eq_true rfl)⟩) X (fun H locs X => ?_)
    exact kw_EM_acknowledged_198 (x2 := x2) C hlk hr hin hg hrec67  X (lv_sub hl [0, 1] rfl) h
  · rw [if_neg hc] at h
    refine lv_aload_n hx hb d_EM_acknowledged_170 rfl (lv_at hl 0 rfl) ?_
    refine lv_iload hx hb d_EM_acknowledged_171 (lv_at hl 4 rfl) ?_
    replace h := xb h
    obtain ⟨M4, hv, h⟩ := h
    refine xr_kv (va_runV (As := [.int x6]) (rest := []) C.1 (kc_EM_copyWay l E hg hv) (cwV 1 C.1.2.2.2.2 (xw_V m_544 m_545 m_546 m_521 m_547) rfl rfl rfl ky_EM_copyWay ⟨(Nat.le_of_ble_eq_true rfl), (Nat.le_of_ble_eq_true rfl)⟩) (xr_pV C X xc_EM.1 (xk_Xw (X.1.2.2.2.2.2 hg).1)) rfl rfl hl.1 rfl (lv_room (Nat.le_of_ble_eq_true rfl)) d_EM_acknowledged_173 ⟨(Nat.le_of_ble_eq_true rfl), (Nat.le_of_ble_eq_true rfl)⟩) X (fun H locs X => ?_)
    refine lv_iinc (k := 4) (v := (x6 + (1 : Int32))) hx hb d_EM_acknowledged_176 hl rfl (congrArg (fun y : Int32 => x6 + y) kn_i_1) (by decide) rfl (fun ls hl => ?_)
    have hl : lv_has ls 7 [(6, .int (x6 + (1 : Int32))), (0, .ref (xe_om E)), (2, .int x2), (4, .int x4), (5, .int x5)] := hl
    refine lv_goto (tgt := 154) hx hb d_EM_acknowledged_179 (by decide +kernel) ?_
    exact hrec154 (x2 := x2) (x4 := x4) (x5 := x5) (x6 := (x6 + (1 : Int32))) X (lv_sub hl [1, 2, 3, 4, 0] rfl) h
theorem kw_EM_acknowledged_154 {rec67 : xm → Int32 → Option xm} (C : xx_C p m c b_EM_acknowledged 7 s args Rn_EM E) (hlk : meth.locks = false) (hr : meth.sig.returnType = none) (hin : meth.name = "acknowledged") (hg : xe_g E = true) (hrec67 : ∀ {H : Heap} {locs : List Loc} {ls : Array Slot} {M : xm} {x2 : Int32}, xx_S E K M s H locs → lv_has ls 7 [(0, .ref (xe_om E)), (2, .int x2)] → rec67 M x2 = some M' → W p l e { frames := 2, cells := 0, slots := 0, locals := 52 } s m args below meth c H locs 0 0 (MQ below (xq_v E K M') args s 0 0 (xe_A E)) (F0 m 67 ls [])) : ∀ (n : Nat) {H : Heap} {locs : List Loc} {ls : Array Slot} {M : xm} {x2 : Int32} {x4 : Int32} {x5 : Int32} {x6 : Int32}, xx_S E K M s H locs → lv_has ls 7 [(0, .ref (xe_om E)), (2, .int x2), (4, .int x4), (5, .int x5), (6, .int x6)] → kf_EM_acknowledged_154 rec67 n M x2 x4 x5 x6 = some M' → W p l e { frames := 2, cells := 0, slots := 0, locals := 52 } s m args below meth c H locs 0 0 (MQ below (xq_v E K M') args s 0 0 (xe_A E)) (F0 m 154 ls []) := by
  intro n
  induction n with
  | zero => intro H locs ls M x2 x4 x5 x6 X hl h; exact nomatch (show (none : Option xm) = some _ from h)
  | succ n ih => intro H locs ls M x2 x4 x5 x6 X hl h; exact kwb_EM_acknowledged_154 C hlk hr hin hg hrec67 ih X hl h
set_option maxHeartbeats 4000000 in
set_option maxRecDepth 100000 in
theorem kw_EM_acknowledged_148 {rec67 : xm → Int32 → Option xm} {x2 : Int32} {x4 : Int32} {x5 : Int32} (C : xx_C p m c b_EM_acknowledged 7 s args Rn_EM E) (hlk : meth.locks = false) (hr : meth.sig.returnType = none) (hin : meth.name = "acknowledged") (hg : xe_g E = true) (hrec67 : ∀ {H : Heap} {locs : List Loc} {ls : Array Slot} {M : xm} {x2 : Int32}, xx_S E K M s H locs → lv_has ls 7 [(0, .ref (xe_om E)), (2, .int x2)] → rec67 M x2 = some M' → W p l e { frames := 2, cells := 0, slots := 0, locals := 52 } s m args below meth c H locs 0 0 (MQ below (xq_v E K M') args s 0 0 (xe_A E)) (F0 m 67 ls [])) (X : xx_S E K M s H locs) (hl : lv_has ls 7 [(0, .ref (xe_om E)), (2, .int x2), (4, .int x4), (5, .int x5)]) (h : kf_EM_acknowledged_148 rec67 M x2 x4 x5 = some M') : W p l e { frames := 2, cells := 0, slots := 0, locals := 52 } s m args below meth c H locs 0 0 (MQ below (xq_v E K M') args s 0 0 (xe_A E)) (F0 m 148 ls []) := by
  have hx := C.1.1
  have hb := C.1.2.1
  unfold kf_EM_acknowledged_148 at h
  refine lv_bipush hx hb d_EM_acknowledged_148 kn_b_8 ?_
  refine lv_iload_n hx hb d_EM_acknowledged_150 rfl (lv_at hl 1 rfl) ?_
  refine lv_imul hx hb d_EM_acknowledged_151 ?_
  refine lv_istore hx hb d_EM_acknowledged_152 hl (by decide) rfl (fun ls hl => ?_)
  have hl : lv_has ls 7 [(6, .int ((8 : Int32) * x2)), (0, .ref (xe_om E)), (2, .int x2), (4, .int x4), (5, .int x5)] := hl
  exact kw_EM_acknowledged_154 C hlk hr hin hg hrec67 1000 X (lv_sub hl [1, 2, 3, 4, 0] rfl) h
set_option maxHeartbeats 4000000 in
set_option maxRecDepth 100000 in
theorem kw_EM_acknowledged_112 {rec67 : xm → Int32 → Option xm} {x2 : Int32} {x4 : Int32} (C : xx_C p m c b_EM_acknowledged 7 s args Rn_EM E) (hlk : meth.locks = false) (hr : meth.sig.returnType = none) (hin : meth.name = "acknowledged") (hg : xe_g E = true) (hrec67 : ∀ {H : Heap} {locs : List Loc} {ls : Array Slot} {M : xm} {x2 : Int32}, xx_S E K M s H locs → lv_has ls 7 [(0, .ref (xe_om E)), (2, .int x2)] → rec67 M x2 = some M' → W p l e { frames := 2, cells := 0, slots := 0, locals := 52 } s m args below meth c H locs 0 0 (MQ below (xq_v E K M') args s 0 0 (xe_A E)) (F0 m 67 ls [])) (X : xx_S E K M s H locs) (hl : lv_has ls 7 [(0, .ref (xe_om E)), (2, .int x2), (4, .int x4)]) (h : kf_EM_acknowledged_112 rec67 M x2 x4 = some M') : W p l e { frames := 2, cells := 0, slots := 0, locals := 52 } s m args below meth c H locs 0 0 (MQ below (xq_v E K M') args s 0 0 (xe_A E)) (F0 m 112 ls []) := by
  have hx := C.1.1
  have hb := C.1.2.1
  unfold kf_EM_acknowledged_112 at h
  refine lv_aload_n hx hb d_EM_acknowledged_112 rfl (lv_at hl 0 rfl) ?_
  refine xr_mga C X hg xc_EM 37 (by decide) (by decide) (by decide) m_499 d_EM_acknowledged_113 ?_
  refine lv_bipush hx hb d_EM_acknowledged_116 kn_b_8 ?_
  refine lv_iload_n hx hb d_EM_acknowledged_118 rfl (lv_at hl 1 rfl) ?_
  refine lv_imul hx hb d_EM_acknowledged_119 ?_
  replace h := xb h
  obtain ⟨v1, hv, h⟩ := h
  refine xr_mld C X hg 37 (by decide) (by decide) rfl d_EM_acknowledged_120 hv ?_
  refine lv_istore hx hb d_EM_acknowledged_121 hl (by decide) rfl (fun ls hl => ?_)
  have hl : lv_has ls 7 [(5, .int v1), (0, .ref (xe_om E)), (2, .int x2), (4, .int x4)] := hl
  refine lv_aload_n hx hb d_EM_acknowledged_123 rfl (lv_at hl 1 rfl) ?_
  refine xr_mga C X hg xc_EM 22 (by decide) (by decide) (by decide) m_484 d_EM_acknowledged_124 ?_
  refine lv_iload_n hx hb d_EM_acknowledged_127 rfl (lv_at hl 2 rfl) ?_
  refine lv_aload_n hx hb d_EM_acknowledged_128 rfl (lv_at hl 1 rfl) ?_
  refine xr_mga C X hg xc_EM 31 (by decide) (by decide) (by decide) m_493 d_EM_acknowledged_129 ?_
  refine lv_bipush hx hb d_EM_acknowledged_132 kn_b_8 ?_
  refine lv_iload_n hx hb d_EM_acknowledged_134 rfl (lv_at hl 2 rfl) ?_
  refine lv_imul hx hb d_EM_acknowledged_135 ?_
  replace h := xb h
  obtain ⟨v2, hv, h⟩ := h
  refine xr_mld C X hg 31 (by decide) (by decide) rfl d_EM_acknowledged_136 hv ?_
  replace h := xb h
  obtain ⟨M3, hv, h⟩ := h
  refine xr_mst C X hg 22 (by decide) (by decide) rfl d_EM_acknowledged_137 hv (fun H locs X => ?_)
  refine lv_aload_n hx hb d_EM_acknowledged_138 rfl (lv_at hl 1 rfl) ?_
  refine xr_mga C X hg xc_EM 30 (by decide) (by decide) (by decide) m_492 d_EM_acknowledged_139 ?_
  refine lv_iload_n hx hb d_EM_acknowledged_142 rfl (lv_at hl 2 rfl) ?_
  refine lv_dup2_11 hx hb d_EM_acknowledged_143 rfl rfl ?_
  replace h := xb h
  obtain ⟨v4, hv, h⟩ := h
  refine xr_mld C X hg 30 (by decide) (by decide) rfl d_EM_acknowledged_144 hv ?_
  refine lv_iconst hx hb d_EM_acknowledged_145 kn_i_1 ?_
  refine lv_isub hx hb d_EM_acknowledged_146 ?_
  replace h := xb h
  obtain ⟨M5, hv, h⟩ := h
  refine xr_mst C X hg 30 (by decide) (by decide) rfl d_EM_acknowledged_147 hv (fun H locs X => ?_)
  exact kw_EM_acknowledged_148 (x2 := x2) (x4 := x4) (x5 := v1) C hlk hr hin hg hrec67  X (lv_sub hl [1, 2, 3, 0] rfl) h
set_option maxHeartbeats 4000000 in
set_option maxRecDepth 100000 in
theorem kwb_EM_acknowledged_67 {rec67 : xm → Int32 → Option xm} {x2 : Int32} (C : xx_C p m c b_EM_acknowledged 7 s args Rn_EM E) (hlk : meth.locks = false) (hr : meth.sig.returnType = none) (hin : meth.name = "acknowledged") (hg : xe_g E = true) (hrec67 : ∀ {H : Heap} {locs : List Loc} {ls : Array Slot} {M : xm} {x2 : Int32}, xx_S E K M s H locs → lv_has ls 7 [(0, .ref (xe_om E)), (2, .int x2)] → rec67 M x2 = some M' → W p l e { frames := 2, cells := 0, slots := 0, locals := 52 } s m args below meth c H locs 0 0 (MQ below (xq_v E K M') args s 0 0 (xe_A E)) (F0 m 67 ls [])) (X : xx_S E K M s H locs) (hl : lv_has ls 7 [(0, .ref (xe_om E)), (2, .int x2)]) (h : kb_EM_acknowledged_67 rec67 M x2 = some M') : W p l e { frames := 2, cells := 0, slots := 0, locals := 52 } s m args below meth c H locs 0 0 (MQ below (xq_v E K M') args s 0 0 (xe_A E)) (F0 m 67 ls []) := by
  have hx := C.1.1
  have hb := C.1.2.1
  unfold kb_EM_acknowledged_67 at h
  refine lv_aload_n hx hb d_EM_acknowledged_67 rfl (lv_at hl 0 rfl) ?_
  refine xr_mga C X hg xc_EM 30 (by decide) (by decide) (by decide) m_492 d_EM_acknowledged_68 ?_
  refine lv_iload_n hx hb d_EM_acknowledged_71 rfl (lv_at hl 1 rfl) ?_
  replace h := xb h
  obtain ⟨v1, hv, h⟩ := h
  refine xr_mld C X hg 30 (by decide) (by decide) rfl d_EM_acknowledged_72 hv ?_
  refine lv_if_le (tgt := 201) hx hb d_EM_acknowledged_73 (by decide +kernel) (fun hc => ?_) (fun hc => ?_)
  · rw [if_pos hc] at h
    obtain rfl := Option.some.inj h
    exact xr_vret C X hlk hr d_EM_acknowledged_201 (Nat.le_of_ble_eq_true rfl) (Nat.le_of_ble_eq_true rfl)
  · rw [if_neg hc] at h
    refine lv_aload_n hx hb d_EM_acknowledged_76 rfl (lv_at hl 0 rfl) ?_
    refine xr_mga C X hg xc_EM 35 (by decide) (by decide) (by decide) m_497 d_EM_acknowledged_77 ?_
    refine lv_bipush hx hb d_EM_acknowledged_80 kn_b_8 ?_
    refine lv_iload_n hx hb d_EM_acknowledged_82 rfl (lv_at hl 1 rfl) ?_
    refine lv_imul hx hb d_EM_acknowledged_83 ?_
    replace h := xb h
    obtain ⟨v2, hv, h⟩ := h
    refine xr_mld C X hg 35 (by decide) (by decide) rfl d_EM_acknowledged_84 hv ?_
    refine lv_aload_n hx hb d_EM_acknowledged_85 rfl (lv_at hl 0 rfl) ?_
    refine xr_mga C X hg xc_EM 18 (by decide) (by decide) (by decide) m_480 d_EM_acknowledged_86 ?_
    refine lv_iload_n hx hb d_EM_acknowledged_89 rfl (lv_at hl 1 rfl) ?_
    replace h := xb h
    obtain ⟨v3, hv, h⟩ := h
    refine xr_mld C X hg 18 (by decide) (by decide) rfl d_EM_acknowledged_90 hv ?_
    refine lv_iand hx hb d_EM_acknowledged_91 ?_
    refine lv_aload_n hx hb d_EM_acknowledged_92 rfl (lv_at hl 0 rfl) ?_
    refine xr_mga C X hg xc_EM 18 (by decide) (by decide) (by decide) m_480 d_EM_acknowledged_93 ?_
    refine lv_iload_n hx hb d_EM_acknowledged_96 rfl (lv_at hl 1 rfl) ?_
    replace h := xb h
    obtain ⟨v4, hv, h⟩ := h
    refine xr_mld C X hg 18 (by decide) (by decide) rfl d_EM_acknowledged_97 hv ?_
    refine lv_icmp_ne (tgt := 201) hx hb d_EM_acknowledged_98 (by decide +kernel) (fun hc => ?_) (fun hc => ?_)
    · rw [if_neg hc] at h
      obtain rfl := Option.some.inj h
      exact xr_vret C X hlk hr d_EM_acknowledged_201 (Nat.le_of_ble_eq_true rfl) (Nat.le_of_ble_eq_true rfl)
    · rw [if_pos hc] at h
      refine lv_aload_n hx hb d_EM_acknowledged_101 rfl (lv_at hl 0 rfl) ?_
      refine xr_mga C X hg xc_EM 36 (by decide) (by decide) (by decide) m_498 d_EM_acknowledged_102 ?_
      refine lv_bipush hx hb d_EM_acknowledged_105 kn_b_8 ?_
      refine lv_iload_n hx hb d_EM_acknowledged_107 rfl (lv_at hl 1 rfl) ?_
      refine lv_imul hx hb d_EM_acknowledged_108 ?_
      replace h := xb h
      obtain ⟨v5, hv, h⟩ := h
      refine xr_mld C X hg 36 (by decide) (by decide) rfl d_EM_acknowledged_109 hv ?_
      refine lv_istore hx hb d_EM_acknowledged_110 hl (by decide) rfl (fun ls hl => ?_)
      have hl : lv_has ls 7 [(4, .int v5), (0, .ref (xe_om E)), (2, .int x2)] := hl
      exact kw_EM_acknowledged_112 (x2 := x2) (x4 := v5) C hlk hr hin hg hrec67  X (lv_sub hl [1, 2, 0] rfl) h
theorem kw_EM_acknowledged_67 (C : xx_C p m c b_EM_acknowledged 7 s args Rn_EM E) (hlk : meth.locks = false) (hr : meth.sig.returnType = none) (hin : meth.name = "acknowledged") (hg : xe_g E = true) : ∀ (n : Nat) {H : Heap} {locs : List Loc} {ls : Array Slot} {M : xm} {x2 : Int32}, xx_S E K M s H locs → lv_has ls 7 [(0, .ref (xe_om E)), (2, .int x2)] → kf_EM_acknowledged_67 n M x2 = some M' → W p l e { frames := 2, cells := 0, slots := 0, locals := 52 } s m args below meth c H locs 0 0 (MQ below (xq_v E K M') args s 0 0 (xe_A E)) (F0 m 67 ls []) := by
  intro n
  induction n with
  | zero => intro H locs ls M x2 X hl h; exact nomatch (show (none : Option xm) = some _ from h)
  | succ n ih => intro H locs ls M x2 X hl h; exact kwb_EM_acknowledged_67 C hlk hr hin hg ih X hl h
set_option maxHeartbeats 4000000 in
set_option maxRecDepth 100000 in
theorem kwb_EM_acknowledged_6 {rec6 : xm → Int32 → Int32 → Int32 → Int32 → Option xm} {x1 : Int32} {x2 : Int32} {x3 : Int32} {x4 : Int32} (C : xx_C p m c b_EM_acknowledged 7 s args Rn_EM E) (hlk : meth.locks = false) (hr : meth.sig.returnType = none) (hin : meth.name = "acknowledged") (hg : xe_g E = true) (hrec6 : ∀ {H : Heap} {locs : List Loc} {ls : Array Slot} {M : xm} {x1 : Int32} {x2 : Int32} {x3 : Int32} {x4 : Int32}, xx_S E K M s H locs → lv_has ls 7 [(0, .ref (xe_om E)), (1, .int x1), (2, .int x2), (3, .int x3), (4, .int x4)] → rec6 M x1 x2 x3 x4 = some M' → W p l e { frames := 2, cells := 0, slots := 0, locals := 52 } s m args below meth c H locs 0 0 (MQ below (xq_v E K M') args s 0 0 (xe_A E)) (F0 m 6 ls [])) (X : xx_S E K M s H locs) (hl : lv_has ls 7 [(0, .ref (xe_om E)), (1, .int x1), (2, .int x2), (3, .int x3), (4, .int x4)]) (h : kb_EM_acknowledged_6 rec6 M x1 x2 x3 x4 = some M') : W p l e { frames := 2, cells := 0, slots := 0, locals := 52 } s m args below meth c H locs 0 0 (MQ below (xq_v E K M') args s 0 0 (xe_A E)) (F0 m 6 ls []) := by
  have hx := C.1.1
  have hb := C.1.2.1
  unfold kb_EM_acknowledged_6 at h
  refine lv_iload hx hb d_EM_acknowledged_6 (lv_at hl 4 rfl) ?_
  refine lv_bipush hx hb d_EM_acknowledged_8 kn_b_8 ?_
  refine lv_iload_n hx hb d_EM_acknowledged_10 rfl (lv_at hl 2 rfl) ?_
  refine lv_imul hx hb d_EM_acknowledged_11 ?_
  refine lv_aload_n hx hb d_EM_acknowledged_12 rfl (lv_at hl 0 rfl) ?_
  refine xr_mga C X hg xc_EM 30 (by decide) (by decide) (by decide) m_492 d_EM_acknowledged_13 ?_
  refine lv_iload_n hx hb d_EM_acknowledged_16 rfl (lv_at hl 2 rfl) ?_
  replace h := xb h
  obtain ⟨v1, hv, h⟩ := h
  refine xr_mld C X hg 30 (by decide) (by decide) rfl d_EM_acknowledged_17 hv ?_
  refine lv_iadd hx hb d_EM_acknowledged_18 ?_
  refine lv_icmp_ge (tgt := 67) hx hb d_EM_acknowledged_19 (by decide +kernel) (fun hc => ?_) (fun hc => ?_)
  · rw [if_pos hc] at h
    exact kw_EM_acknowledged_67 C hlk hr hin hg 1000 X (lv_sub hl [0, 2] rfl) h
  · rw [if_neg hc] at h
    refine lv_aload_n hx hb d_EM_acknowledged_22 rfl (lv_at hl 0 rfl) ?_
    refine xr_mga C X hg xc_EM 35 (by decide) (by decide) (by decide) m_497 d_EM_acknowledged_23 ?_
    refine lv_iload hx hb d_EM_acknowledged_26 (lv_at hl 4 rfl) ?_
    refine lv_aload_n hx hb d_EM_acknowledged_28 rfl (lv_at hl 0 rfl) ?_
    refine xr_mga C X hg xc_EM 31 (by decide) (by decide) (by decide) m_493 d_EM_acknowledged_29 ?_
    refine lv_iload hx hb d_EM_acknowledged_32 (lv_at hl 4 rfl) ?_
    replace h := xb h
    obtain ⟨v2, hv, h⟩ := h
    refine xr_mld C X hg 31 (by decide) (by decide) rfl d_EM_acknowledged_34 hv ?_
    refine lv_iload_n hx hb d_EM_acknowledged_35 rfl (lv_at hl 3 rfl) ?_
    refine lv_icmp_ne (tgt := 53) hx hb d_EM_acknowledged_36 (by decide +kernel) (fun hc => ?_) (fun hc => ?_)
    · rw [if_neg hc] at h
      refine lv_aload_n hx hb d_EM_acknowledged_53 rfl (lv_at hl 0 rfl) ?_
      refine xr_mga C X hg xc_EM 35 (by decide) (by decide) (by decide) m_497 d_EM_acknowledged_54 ?_
      refine lv_iload hx hb d_EM_acknowledged_57 (lv_at hl 4 rfl) ?_
      replace h := xb h
      obtain ⟨v3, hv, h⟩ := h
      refine xr_mld C X hg 35 (by decide) (by decide) rfl d_EM_acknowledged_59 hv ?_
      replace h := xb h
      obtain ⟨M4, hv, h⟩ := h
      refine xr_mst C X hg 35 (by decide) (by decide) rfl d_EM_acknowledged_60 hv (fun H locs X => ?_)
      exact kw_EM_acknowledged_61 (x1 := x1) (x2 := x2) (x3 := x3) (x4 := x4) C hlk hr hin hg hrec6  X (lv_sub hl [0, 1, 2, 3, 4] rfl) h
    · rw [if_pos hc] at h
      refine lv_aload_n hx hb d_EM_acknowledged_39 rfl (lv_at hl 0 rfl) ?_
      refine xr_mga C X hg xc_EM 35 (by decide) (by decide) (by decide) m_497 d_EM_acknowledged_40 ?_
      refine lv_iload hx hb d_EM_acknowledged_43 (lv_at hl 4 rfl) ?_
      replace h := xb h
      obtain ⟨v5, hv, h⟩ := h
      refine xr_mld C X hg 35 (by decide) (by decide) rfl d_EM_acknowledged_45 hv ?_
      refine lv_iconst hx hb d_EM_acknowledged_46 kn_i_1 ?_
      refine lv_iload_n hx hb d_EM_acknowledged_47 rfl (lv_at hl 1 rfl) ?_
      refine lv_ishl hx hb d_EM_acknowledged_48 ?_
      refine lv_ior hx hb d_EM_acknowledged_49 ?_
      refine lv_goto (tgt := 60) hx hb d_EM_acknowledged_50 (by decide +kernel) ?_
      replace h := xb h
      obtain ⟨M6, hv, h⟩ := h
      refine xr_mst C X hg 35 (by decide) (by decide) rfl d_EM_acknowledged_60 hv (fun H locs X => ?_)
      exact kw_EM_acknowledged_61 (x1 := x1) (x2 := x2) (x3 := x3) (x4 := x4) C hlk hr hin hg hrec6  X (lv_sub hl [0, 1, 2, 3, 4] rfl) h
theorem kw_EM_acknowledged_6 (C : xx_C p m c b_EM_acknowledged 7 s args Rn_EM E) (hlk : meth.locks = false) (hr : meth.sig.returnType = none) (hin : meth.name = "acknowledged") (hg : xe_g E = true) : ∀ (n : Nat) {H : Heap} {locs : List Loc} {ls : Array Slot} {M : xm} {x1 : Int32} {x2 : Int32} {x3 : Int32} {x4 : Int32}, xx_S E K M s H locs → lv_has ls 7 [(0, .ref (xe_om E)), (1, .int x1), (2, .int x2), (3, .int x3), (4, .int x4)] → kf_EM_acknowledged_6 n M x1 x2 x3 x4 = some M' → W p l e { frames := 2, cells := 0, slots := 0, locals := 52 } s m args below meth c H locs 0 0 (MQ below (xq_v E K M') args s 0 0 (xe_A E)) (F0 m 6 ls []) := by
  intro n
  induction n with
  | zero => intro H locs ls M x1 x2 x3 x4 X hl h; exact nomatch (show (none : Option xm) = some _ from h)
  | succ n ih => intro H locs ls M x1 x2 x3 x4 X hl h; exact kwb_EM_acknowledged_6 C hlk hr hin hg ih X hl h
set_option maxHeartbeats 4000000 in
set_option maxRecDepth 100000 in
theorem kw_EM_acknowledged_0 {x1 : Int32} {x2 : Int32} {x3 : Int32} (C : xx_C p m c b_EM_acknowledged 7 s args Rn_EM E) (hlk : meth.locks = false) (hr : meth.sig.returnType = none) (hin : meth.name = "acknowledged") (hg : xe_g E = true) (X : xx_S E K M s H locs) (hl : lv_has ls 7 [(0, .ref (xe_om E)), (1, .int x1), (2, .int x2), (3, .int x3)]) (h : kf_EM_acknowledged_0 M x1 x2 x3 = some M') : W p l e { frames := 2, cells := 0, slots := 0, locals := 52 } s m args below meth c H locs 0 0 (MQ below (xq_v E K M') args s 0 0 (xe_A E)) (F0 m 0 ls []) := by
  have hx := C.1.1
  have hb := C.1.2.1
  unfold kf_EM_acknowledged_0 at h
  refine lv_bipush hx hb d_EM_acknowledged_0 kn_b_8 ?_
  refine lv_iload_n hx hb d_EM_acknowledged_2 rfl (lv_at hl 2 rfl) ?_
  refine lv_imul hx hb d_EM_acknowledged_3 ?_
  refine lv_istore hx hb d_EM_acknowledged_4 hl (by decide) rfl (fun ls hl => ?_)
  have hl : lv_has ls 7 [(4, .int ((8 : Int32) * x2)), (0, .ref (xe_om E)), (1, .int x1), (2, .int x2), (3, .int x3)] := hl
  exact kw_EM_acknowledged_6 C hlk hr hin hg 1000 X (lv_sub hl [1, 2, 3, 4, 0] rfl) h
theorem kc_EM_acknowledged (l : Launch) (E : xe) (hg : xe_g E = true) {x1 : Int32} {x2 : Int32} {x3 : Int32} (h : kf_EM_acknowledged_0 M x1 x2 x3 = some M') : Met l y_EM_acknowledged (Cond.code y_EM_acknowledged b_EM_acknowledged 7 none :: w_all) { frames := 2, cells := 0, slots := 0, locals := 52 } (va_Pc [.ref (xe_om E), .int x1, .int x2, .int x3] (fun U => xx_B E K M U)) (xq_v E K M') 0 0 (xe_A E) :=
  xr_met (by decide) (Nat.le_of_ble_eq_true rfl) fun p e s m below meth c ls C X hlk hr hin hl => kw_EM_acknowledged_0 C hlk hr hin hg X hl h
set_option maxHeartbeats 4000000 in
set_option maxRecDepth 100000 in
theorem kw_EM_toMaster_47 (C : xx_C p m c b_EM_toMaster 6 s args Rn_EM E) (hlk : meth.locks = false) (hr : meth.sig.returnType = none) (hin : meth.name = "toMaster") (hg : xe_g E = true) (X : xx_S E K M s H locs) (hl : lv_has ls 6 []) (h : kf_EM_toMaster_47 M = some M') : W p l e { frames := 3, cells := 0, slots := 0, locals := 80 } s m args below meth c H locs 0 0 (MQ below (xq_v E K M') args s 0 0 (xe_A E)) (F0 m 47 ls []) := by
  have hx := C.1.1
  have hb := C.1.2.1
  unfold kf_EM_toMaster_47 at h
  refine lv_goto (tgt := 58) hx hb d_EM_toMaster_47 (by decide +kernel) ?_
  obtain rfl := Option.some.inj h
  exact xr_vret C X hlk hr d_EM_toMaster_58 (Nat.le_of_ble_eq_true rfl) (Nat.le_of_ble_eq_true rfl)
set_option maxHeartbeats 4000000 in
set_option maxRecDepth 100000 in
theorem kw_EM_toMaster_0 {x1 : Int32} {x2 : Int32} {x3 : Int32} {x4 : Int32} {x5 : Int32} (C : xx_C p m c b_EM_toMaster 6 s args Rn_EM E) (hlk : meth.locks = false) (hr : meth.sig.returnType = none) (hin : meth.name = "toMaster") (hg : xe_g E = true) (X : xx_S E K M s H locs) (hl : lv_has ls 6 [(0, .ref (xe_om E)), (1, .int x1), (2, .int x2), (3, .int x3), (4, .int x4), (5, .int x5)]) (h : kf_EM_toMaster_0 M x1 x2 x3 x4 x5 = some M') : W p l e { frames := 3, cells := 0, slots := 0, locals := 80 } s m args below meth c H locs 0 0 (MQ below (xq_v E K M') args s 0 0 (xe_A E)) (F0 m 0 ls []) := by
  have hx := C.1.1
  have hb := C.1.2.1
  unfold kf_EM_toMaster_0 at h
  refine lv_iload_n hx hb d_EM_toMaster_0 rfl (lv_at hl 1 rfl) ?_
  refine lv_iconst hx hb d_EM_toMaster_1 kn_i_1 ?_
  refine lv_icmp_ne (tgt := 16) hx hb d_EM_toMaster_2 (by decide +kernel) (fun hc => ?_) (fun hc => ?_)
  · rw [if_neg hc] at h
    refine lv_iload_n hx hb d_EM_toMaster_16 rfl (lv_at hl 1 rfl) ?_
    refine lv_iconst hx hb d_EM_toMaster_17 kn_i_3 ?_
    refine lv_icmp_ne (tgt := 32) hx hb d_EM_toMaster_18 (by decide +kernel) (fun hc => ?_) (fun hc => ?_)
    · rw [if_neg hc] at h
      refine lv_iload_n hx hb d_EM_toMaster_32 rfl (lv_at hl 1 rfl) ?_
      refine lv_iconst hx hb d_EM_toMaster_33 kn_i_5 ?_
      refine lv_icmp_ne (tgt := 50) hx hb d_EM_toMaster_34 (by decide +kernel) (fun hc => ?_) (fun hc => ?_)
      · rw [if_neg hc] at h
        refine lv_aload_n hx hb d_EM_toMaster_50 rfl (lv_at hl 0 rfl) ?_
        refine lv_iload_n hx hb d_EM_toMaster_51 rfl (lv_at hl 2 rfl) ?_
        refine lv_iload_n hx hb d_EM_toMaster_52 rfl (lv_at hl 3 rfl) ?_
        refine lv_iload hx hb d_EM_toMaster_53 (lv_at hl 4 rfl) ?_
        replace h := xb h
        obtain ⟨M1, hv, h⟩ := h
        refine xr_kv (va_runV (As := [.int x2, .int x3, .int x4]) (rest := []) C.1 (kc_EM_acknowledged l E hg hv) (cwV 3 C.1.2.2.2.2 (xw_V m_548 m_549 m_550 m_521 m_551) rfl rfl rfl ky_EM_acknowledged ⟨(Nat.le_of_ble_eq_true rfl), (Nat.le_of_ble_eq_true rfl)⟩) (xr_pV C X xc_EM.1 (xk_Xw (X.1.2.2.2.2.2 hg).1)) rfl rfl hl.1 rfl (lv_room (Nat.le_of_ble_eq_true rfl)) d_EM_toMaster_55 ⟨(Nat.le_of_ble_eq_true rfl), (Nat.le_of_ble_eq_true rfl)⟩) X (fun H locs X => ?_)
        obtain rfl := Option.some.inj h
        exact xr_vret C X hlk hr d_EM_toMaster_58 (Nat.le_of_ble_eq_true rfl) (Nat.le_of_ble_eq_true rfl)
      · rw [if_pos hc] at h
        refine lv_aload_n hx hb d_EM_toMaster_37 rfl (lv_at hl 0 rfl) ?_
        refine lv_iload_n hx hb d_EM_toMaster_38 rfl (lv_at hl 2 rfl) ?_
        refine lv_iload_n hx hb d_EM_toMaster_39 rfl (lv_at hl 3 rfl) ?_
        refine lv_iload hx hb d_EM_toMaster_40 (lv_at hl 4 rfl) ?_
        refine lv_iload hx hb d_EM_toMaster_42 (lv_at hl 5 rfl) ?_
        replace h := xb h
        obtain ⟨M2, hv, h⟩ := h
        refine xr_kv (va_runV (As := [.int x2, .int x3, .int x4, .int x5]) (rest := []) C.1 (kc_EM_judge l E hg hv) (cwV 4 C.1.2.2.2.2 (xw_V m_552 m_553 m_554 m_521 m_555) rfl rfl rfl ky_EM_judge ⟨(Nat.le_of_ble_eq_true rfl), (Nat.le_of_ble_eq_true rfl)⟩) (xr_pV C X xc_EM.1 (xk_Xw (X.1.2.2.2.2.2 hg).1)) rfl rfl hl.1 rfl (lv_room (Nat.le_of_ble_eq_true rfl)) d_EM_toMaster_44 ⟨(Nat.le_of_ble_eq_true rfl), (Nat.le_of_ble_eq_true rfl)⟩) X (fun H locs X => ?_)
        exact kw_EM_toMaster_47 C hlk hr hin hg  X (lv_sub hl [] rfl) h
    · rw [if_pos hc] at h
      refine lv_aload_n hx hb d_EM_toMaster_21 rfl (lv_at hl 0 rfl) ?_
      refine lv_iload_n hx hb d_EM_toMaster_22 rfl (lv_at hl 2 rfl) ?_
      refine lv_iload_n hx hb d_EM_toMaster_23 rfl (lv_at hl 3 rfl) ?_
      refine lv_iload hx hb d_EM_toMaster_24 (lv_at hl 5 rfl) ?_
      replace h := xb h
      obtain ⟨M3, hv, h⟩ := h
      refine xr_kv (va_runV (As := [.int x2, .int x3, .int x5]) (rest := []) C.1 (kc_EM_confirmed l E hg hv) (cwV 3 C.1.2.2.2.2 (xw_V m_556 m_557 m_558 m_521 m_559) rfl rfl rfl ky_EM_confirmed ⟨(Nat.le_of_ble_eq_true rfl), (Nat.le_of_ble_eq_true rfl)⟩) (xr_pV C X xc_EM.1 (xk_Xw (X.1.2.2.2.2.2 hg).1)) rfl rfl hl.1 rfl (lv_room (Nat.le_of_ble_eq_true rfl)) d_EM_toMaster_26 ⟨(Nat.le_of_ble_eq_true rfl), (Nat.le_of_ble_eq_true rfl)⟩) X (fun H locs X => ?_)
      refine lv_goto (tgt := 58) hx hb d_EM_toMaster_29 (by decide +kernel) ?_
      obtain rfl := Option.some.inj h
      exact xr_vret C X hlk hr d_EM_toMaster_58 (Nat.le_of_ble_eq_true rfl) (Nat.le_of_ble_eq_true rfl)
  · rw [if_pos hc] at h
    refine lv_aload_n hx hb d_EM_toMaster_5 rfl (lv_at hl 0 rfl) ?_
    refine lv_iload_n hx hb d_EM_toMaster_6 rfl (lv_at hl 2 rfl) ?_
    refine lv_iload_n hx hb d_EM_toMaster_7 rfl (lv_at hl 3 rfl) ?_
    refine lv_iload hx hb d_EM_toMaster_8 (lv_at hl 5 rfl) ?_
    replace h := xb h
    obtain ⟨M4, hv, h⟩ := h
    refine xr_kv (va_runV (As := [.int x2, .int x3, .int x5]) (rest := []) C.1 (kc_EM_ask l E hg hv) (cwV 3 C.1.2.2.2.2 (xw_V m_560 m_561 m_562 m_521 m_563) rfl rfl rfl ky_EM_ask ⟨(Nat.le_of_ble_eq_true rfl), (Nat.le_of_ble_eq_true rfl)⟩) (xr_pV C X xc_EM.1 (xk_Xw (X.1.2.2.2.2.2 hg).1)) rfl rfl hl.1 rfl (lv_room (Nat.le_of_ble_eq_true rfl)) d_EM_toMaster_10 ⟨(Nat.le_of_ble_eq_true rfl), (Nat.le_of_ble_eq_true rfl)⟩) X (fun H locs X => ?_)
    refine lv_goto (tgt := 58) hx hb d_EM_toMaster_13 (by decide +kernel) ?_
    obtain rfl := Option.some.inj h
    exact xr_vret C X hlk hr d_EM_toMaster_58 (Nat.le_of_ble_eq_true rfl) (Nat.le_of_ble_eq_true rfl)
theorem kc_EM_toMaster (l : Launch) (E : xe) (hg : xe_g E = true) {x1 : Int32} {x2 : Int32} {x3 : Int32} {x4 : Int32} {x5 : Int32} (h : kf_EM_toMaster_0 M x1 x2 x3 x4 x5 = some M') : Met l y_EM_toMaster (Cond.code y_EM_toMaster b_EM_toMaster 6 none :: w_all) { frames := 3, cells := 0, slots := 0, locals := 80 } (va_Pc [.ref (xe_om E), .int x1, .int x2, .int x3, .int x4, .int x5] (fun U => xx_B E K M U)) (xq_v E K M') 0 0 (xe_A E) :=
  xr_met (by decide) (Nat.le_of_ble_eq_true rfl) fun p e s m below meth c ls C X hlk hr hin hl => kw_EM_toMaster_0 C hlk hr hin hg X hl h
set_option maxHeartbeats 4000000 in
set_option maxRecDepth 100000 in
theorem kw_EM_hand_222 (C : xx_C p m c b_EM_hand 6 s args Rn_EM E) (hlk : meth.locks = false) (hr : meth.sig.returnType = none) (hin : meth.name = "hand") (hg : xe_g E = true) (X : xx_S E K M s H locs) (hl : lv_has ls 6 []) (h : kf_EM_hand_222 M = some M') : W p l e { frames := 4, cells := 0, slots := 0, locals := 105 } s m args below meth c H locs 0 0 (MQ below (xq_v E K M') args s 0 0 (xe_A E)) (F0 m 222 ls []) := by
  have hx := C.1.1
  have hb := C.1.2.1
  unfold kf_EM_hand_222 at h
  obtain rfl := Option.some.inj h
  exact xr_vret C X hlk hr d_EM_hand_222 (Nat.le_of_ble_eq_true rfl) (Nat.le_of_ble_eq_true rfl)
set_option maxHeartbeats 4000000 in
set_option maxRecDepth 100000 in
theorem kw_EM_hand_42 {x2 : Int32} {x3 : Int32} {x4 : Int32} (C : xx_C p m c b_EM_hand 6 s args Rn_EM E) (hlk : meth.locks = false) (hr : meth.sig.returnType = none) (hin : meth.name = "hand") (hg : xe_g E = true) (X : xx_S E K M s H locs) (hl : lv_has ls 6 [(0, .ref (xe_om E)), (2, .int x2), (3, .int x3), (4, .int x4)]) (h : kf_EM_hand_42 M x2 x3 x4 = some M') : W p l e { frames := 4, cells := 0, slots := 0, locals := 105 } s m args below meth c H locs 0 0 (MQ below (xq_v E K M') args s 0 0 (xe_A E)) (F0 m 42 ls []) := by
  have hx := C.1.1
  have hb := C.1.2.1
  unfold kf_EM_hand_42 at h
  refine lv_aload_n hx hb d_EM_hand_42 rfl (lv_at hl 0 rfl) ?_
  refine lv_iconst hx hb d_EM_hand_43 kn_i_3 ?_
  refine lv_iload_n hx hb d_EM_hand_44 rfl (lv_at hl 1 rfl) ?_
  refine lv_iload_n hx hb d_EM_hand_45 rfl (lv_at hl 2 rfl) ?_
  refine lv_iconst hx hb d_EM_hand_46 kn_i_0 ?_
  refine lv_iload hx hb d_EM_hand_47 (lv_at hl 3 rfl) ?_
  replace h := xpb h
  obtain ⟨r2, M1, hv, h⟩ := h
  refine xr_ki (va_runV (As := [.int (3 : Int32), .int x2, .int x3, .int (0 : Int32), .int x4]) (rest := []) C.1 (kc_EM_send l E hg hv) (cwV 5 C.1.2.2.2.2 (xw_V m_528 m_529 m_530 m_521 m_531) rfl rfl rfl ky_EM_send ⟨(Nat.le_of_ble_eq_true rfl), (Nat.le_of_ble_eq_true rfl)⟩) (xr_pV C X xc_EM.1 (xk_Xw (X.1.2.2.2.2.2 hg).1)) rfl rfl hl.1 rfl (lv_room (Nat.le_of_ble_eq_true rfl)) d_EM_hand_49 ⟨(Nat.le_of_ble_eq_true rfl), (Nat.le_of_ble_eq_true rfl)⟩) X (fun H locs X => ?_)
  refine lv_pop hx hb d_EM_hand_52 rfl ?_
  refine lv_goto (tgt := 222) hx hb d_EM_hand_53 (by decide +kernel) ?_
  exact kw_EM_hand_222 C hlk hr hin hg  X (lv_sub hl [] rfl) h
set_option maxHeartbeats 4000000 in
set_option maxRecDepth 100000 in
theorem kw_EM_hand_89 (C : xx_C p m c b_EM_hand 6 s args Rn_EM E) (hlk : meth.locks = false) (hr : meth.sig.returnType = none) (hin : meth.name = "hand") (hg : xe_g E = true) (X : xx_S E K M s H locs) (hl : lv_has ls 6 []) (h : kf_EM_hand_89 M = some M') : W p l e { frames := 4, cells := 0, slots := 0, locals := 105 } s m args below meth c H locs 0 0 (MQ below (xq_v E K M') args s 0 0 (xe_A E)) (F0 m 89 ls []) := by
  have hx := C.1.1
  have hb := C.1.2.1
  unfold kf_EM_hand_89 at h
  refine lv_goto (tgt := 222) hx hb d_EM_hand_89 (by decide +kernel) ?_
  exact kw_EM_hand_222 C hlk hr hin hg  X (lv_sub hl [] rfl) h
set_option maxHeartbeats 4000000 in
set_option maxRecDepth 100000 in
theorem kw_EM_hand_133 (C : xx_C p m c b_EM_hand 6 s args Rn_EM E) (hlk : meth.locks = false) (hr : meth.sig.returnType = none) (hin : meth.name = "hand") (hg : xe_g E = true) (X : xx_S E K M s H locs) (hl : lv_has ls 6 []) (h : kf_EM_hand_133 M = some M') : W p l e { frames := 4, cells := 0, slots := 0, locals := 105 } s m args below meth c H locs 0 0 (MQ below (xq_v E K M') args s 0 0 (xe_A E)) (F0 m 133 ls []) := by
  have hx := C.1.1
  have hb := C.1.2.1
  unfold kf_EM_hand_133 at h
  refine lv_goto (tgt := 222) hx hb d_EM_hand_133 (by decide +kernel) ?_
  exact kw_EM_hand_222 C hlk hr hin hg  X (lv_sub hl [] rfl) h
set_option maxHeartbeats 4000000 in
set_option maxRecDepth 100000 in
theorem kw_EM_hand_176 {x2 : Int32} {x5 : Int32} (C : xx_C p m c b_EM_hand 6 s args Rn_EM E) (hlk : meth.locks = false) (hr : meth.sig.returnType = none) (hin : meth.name = "hand") (hg : xe_g E = true) (X : xx_S E K M s H locs) (hl : lv_has ls 6 [(0, .ref (xe_om E)), (2, .int x2), (5, .int x5)]) (h : kf_EM_hand_176 M x2 x5 = some M') : W p l e { frames := 4, cells := 0, slots := 0, locals := 105 } s m args below meth c H locs 0 0 (MQ below (xq_v E K M') args s 0 0 (xe_A E)) (F0 m 176 ls []) := by
  have hx := C.1.1
  have hb := C.1.2.1
  unfold kf_EM_hand_176 at h
  refine lv_aload_n hx hb d_EM_hand_176 rfl (lv_at hl 0 rfl) ?_
  refine xr_mga C X hg xc_EM 46 (by decide) (by decide) (by decide) m_508 d_EM_hand_177 ?_
  refine lv_iload_n hx hb d_EM_hand_180 rfl (lv_at hl 1 rfl) ?_
  refine lv_aload_n hx hb d_EM_hand_181 rfl (lv_at hl 0 rfl) ?_
  refine xr_mga C X hg xc_EM 54 (by decide) (by decide) (by decide) m_515 d_EM_hand_182 ?_
  refine lv_bipush hx hb d_EM_hand_185 kn_b_24 ?_
  replace h := xb h
  obtain ⟨v1, hv, h⟩ := h
  refine xr_mld C X hg 54 (by decide) (by decide) rfl d_EM_hand_187 hv ?_
  refine lv_iconst hx hb d_EM_hand_188 kn_i_4 ?_
  refine lv_icmp_ne (tgt := 197) hx hb d_EM_hand_189 (by decide +kernel) (fun hc => ?_) (fun hc => ?_)
  · rw [if_neg hc] at h
    refine lv_iconst hx hb d_EM_hand_197 kn_i_0 ?_
    replace h := xb h
    obtain ⟨M2, hv, h⟩ := h
    refine xr_mst C X hg 46 (by decide) (by decide) rfl d_EM_hand_198 hv (fun H locs X => ?_)
    refine lv_goto (tgt := 222) hx hb d_EM_hand_199 (by decide +kernel) ?_
    exact kw_EM_hand_222 C hlk hr hin hg  X (lv_sub hl [] rfl) h
  · rw [if_pos hc] at h
    refine lv_iload hx hb d_EM_hand_192 (lv_at hl 2 rfl) ?_
    refine lv_goto (tgt := 198) hx hb d_EM_hand_194 (by decide +kernel) ?_
    replace h := xb h
    obtain ⟨M3, hv, h⟩ := h
    refine xr_mst C X hg 46 (by decide) (by decide) rfl d_EM_hand_198 hv (fun H locs X => ?_)
    refine lv_goto (tgt := 222) hx hb d_EM_hand_199 (by decide +kernel) ?_
    exact kw_EM_hand_222 C hlk hr hin hg  X (lv_sub hl [] rfl) h
set_option maxHeartbeats 4000000 in
set_option maxRecDepth 100000 in
theorem kw_EM_hand_0 {x1 : Int32} {x2 : Int32} {x3 : Int32} (C : xx_C p m c b_EM_hand 6 s args Rn_EM E) (hlk : meth.locks = false) (hr : meth.sig.returnType = none) (hin : meth.name = "hand") (hg : xe_g E = true) (X : xx_S E K M s H locs) (hl : lv_has ls 6 [(0, .ref (xe_om E)), (1, .int x1), (2, .int x2), (3, .int x3)]) (h : kf_EM_hand_0 M x1 x2 x3 = some M') : W p l e { frames := 4, cells := 0, slots := 0, locals := 105 } s m args below meth c H locs 0 0 (MQ below (xq_v E K M') args s 0 0 (xe_A E)) (F0 m 0 ls []) := by
  have hx := C.1.1
  have hb := C.1.2.1
  unfold kf_EM_hand_0 at h
  refine lv_aload_n hx hb d_EM_hand_0 rfl (lv_at hl 0 rfl) ?_
  refine xr_mga C X hg xc_EM 52 (by decide) (by decide) (by decide) m_513 d_EM_hand_1 ?_
  refine lv_bipush hx hb d_EM_hand_4 kn_b_24 ?_
  replace h := xb h
  obtain ⟨v1, hv, h⟩ := h
  refine xr_mld C X hg 52 (by decide) (by decide) rfl d_EM_hand_6 hv ?_
  refine lv_istore hx hb d_EM_hand_7 hl (by decide) rfl (fun ls hl => ?_)
  have hl : lv_has ls 6 [(4, .int v1), (0, .ref (xe_om E)), (1, .int x1), (2, .int x2), (3, .int x3)] := hl
  refine lv_aload_n hx hb d_EM_hand_9 rfl (lv_at hl 1 rfl) ?_
  refine xr_mga C X hg xc_EM 51 (by decide) (by decide) (by decide) m_512 d_EM_hand_10 ?_
  refine lv_bipush hx hb d_EM_hand_13 kn_b_24 ?_
  replace h := xb h
  obtain ⟨v2, hv, h⟩ := h
  refine xr_mld C X hg 51 (by decide) (by decide) rfl d_EM_hand_15 hv ?_
  refine lv_istore hx hb d_EM_hand_16 hl (by decide) rfl (fun ls hl => ?_)
  have hl : lv_has ls 6 [(5, .int v2), (4, .int v1), (0, .ref (xe_om E)), (1, .int x1), (2, .int x2), (3, .int x3)] := hl
  refine lv_iload_n hx hb d_EM_hand_18 rfl (lv_at hl 3 rfl) ?_
  refine lv_iconst hx hb d_EM_hand_19 kn_i_2 ?_
  refine lv_icmp_ne (tgt := 56) hx hb d_EM_hand_20 (by decide +kernel) (fun hc => ?_) (fun hc => ?_)
  · rw [if_neg hc] at h
    refine lv_iload_n hx hb d_EM_hand_56 rfl (lv_at hl 3 rfl) ?_
    refine lv_bipush hx hb d_EM_hand_57 kn_b_6 ?_
    refine lv_icmp_ne (tgt := 92) hx hb d_EM_hand_59 (by decide +kernel) (fun hc => ?_) (fun hc => ?_)
    · rw [if_neg hc] at h
      refine lv_iload_n hx hb d_EM_hand_92 rfl (lv_at hl 3 rfl) ?_
      refine lv_iconst hx hb d_EM_hand_93 kn_i_4 ?_
      refine lv_icmp_ne (tgt := 136) hx hb d_EM_hand_94 (by decide +kernel) (fun hc => ?_) (fun hc => ?_)
      · rw [if_neg hc] at h
        refine lv_iload_n hx hb d_EM_hand_136 rfl (lv_at hl 3 rfl) ?_
        refine lv_bipush hx hb d_EM_hand_137 kn_b_8 ?_
        refine lv_icmp_ne (tgt := 202) hx hb d_EM_hand_139 (by decide +kernel) (fun hc => ?_) (fun hc => ?_)
        · rw [if_neg hc] at h
          refine lv_aload_n hx hb d_EM_hand_202 rfl (lv_at hl 2 rfl) ?_
          refine xr_mga C X hg xc_EM 17 (by decide) (by decide) (by decide) m_479 d_EM_hand_203 ?_
          refine lv_iload_n hx hb d_EM_hand_206 rfl (lv_at hl 5 rfl) ?_
          replace h := xb h
          obtain ⟨v3, hv, h⟩ := h
          refine xr_mldz C X hg 17 (by decide) (by decide) rfl d_EM_hand_207 hv ?_
          refine lv_if_eq (tgt := 222) hx hb d_EM_hand_208 (by decide +kernel) (fun hc => ?_) (fun hc => ?_)
          · rw [if_pos hc] at h
            exact kw_EM_hand_222 C hlk hr hin hg  X (lv_sub hl [] rfl) h
          · rw [if_neg hc] at h
            refine lv_aload_n hx hb d_EM_hand_211 rfl (lv_at hl 2 rfl) ?_
            refine lv_iload_n hx hb d_EM_hand_212 rfl (lv_at hl 3 rfl) ?_
            refine lv_iload_n hx hb d_EM_hand_213 rfl (lv_at hl 4 rfl) ?_
            refine lv_iload_n hx hb d_EM_hand_214 rfl (lv_at hl 5 rfl) ?_
            refine lv_iload hx hb d_EM_hand_215 (lv_at hl 0 rfl) ?_
            refine lv_iload hx hb d_EM_hand_217 (lv_at hl 1 rfl) ?_
            replace h := xb h
            obtain ⟨M4, hv, h⟩ := h
            refine xr_kv (va_runV (As := [.int x1, .int x2, .int x3, .int v2, .int v1]) (rest := []) C.1 (kc_EM_toMaster l E hg hv) (cwV 5 C.1.2.2.2.2 (xw_V m_564 m_565 m_566 m_521 m_567) rfl rfl rfl ky_EM_toMaster ⟨(Nat.le_of_ble_eq_true rfl), (Nat.le_of_ble_eq_true rfl)⟩) (xr_pV C X xc_EM.1 (xk_Xw (X.1.2.2.2.2.2 hg).1)) rfl rfl hl.1 rfl (lv_room (Nat.le_of_ble_eq_true rfl)) d_EM_hand_219 ⟨(Nat.le_of_ble_eq_true rfl), (Nat.le_of_ble_eq_true rfl)⟩) X (fun H locs X => ?_)
            exact kw_EM_hand_222 C hlk hr hin hg  X (lv_sub hl [] rfl) h
        · rw [if_pos hc] at h
          refine lv_aload_n hx hb d_EM_hand_142 rfl (lv_at hl 2 rfl) ?_
          refine xr_mga C X hg xc_EM 39 (by decide) (by decide) (by decide) m_501 d_EM_hand_143 ?_
          refine lv_iload_n hx hb d_EM_hand_146 rfl (lv_at hl 4 rfl) ?_
          replace h := xb h
          obtain ⟨v5, hv, h⟩ := h
          refine xr_mld C X hg 39 (by decide) (by decide) rfl d_EM_hand_147 hv ?_
          refine lv_iload hx hb d_EM_hand_148 (lv_at hl 1 rfl) ?_
          refine lv_icmp_ne (tgt := 222) hx hb d_EM_hand_150 (by decide +kernel) (fun hc => ?_) (fun hc => ?_)
          · rw [if_neg hc] at h
            exact kw_EM_hand_222 C hlk hr hin hg  X (lv_sub hl [] rfl) h
          · rw [if_pos hc] at h
            refine lv_aload_n hx hb d_EM_hand_153 rfl (lv_at hl 2 rfl) ?_
            refine xr_mga C X hg xc_EM 40 (by decide) (by decide) (by decide) m_502 d_EM_hand_154 ?_
            refine lv_iload_n hx hb d_EM_hand_157 rfl (lv_at hl 4 rfl) ?_
            replace h := xb h
            obtain ⟨v6, hv, h⟩ := h
            refine xr_mld C X hg 40 (by decide) (by decide) rfl d_EM_hand_158 hv ?_
            refine lv_iconst hx hb d_EM_hand_159 kn_i_3 ?_
            refine lv_icmp_ne (tgt := 222) hx hb d_EM_hand_160 (by decide +kernel) (fun hc => ?_) (fun hc => ?_)
            · rw [if_neg hc] at h
              exact kw_EM_hand_222 C hlk hr hin hg  X (lv_sub hl [] rfl) h
            · rw [if_pos hc] at h
              refine lv_aload_n hx hb d_EM_hand_163 rfl (lv_at hl 2 rfl) ?_
              refine xr_mga C X hg xc_EM 40 (by decide) (by decide) (by decide) m_502 d_EM_hand_164 ?_
              refine lv_iload_n hx hb d_EM_hand_167 rfl (lv_at hl 4 rfl) ?_
              refine lv_aload_n hx hb d_EM_hand_168 rfl (lv_at hl 2 rfl) ?_
              refine xr_mga C X hg xc_EM 54 (by decide) (by decide) (by decide) m_515 d_EM_hand_169 ?_
              refine lv_bipush hx hb d_EM_hand_172 kn_b_24 ?_
              replace h := xb h
              obtain ⟨v7, hv, h⟩ := h
              refine xr_mld C X hg 54 (by decide) (by decide) rfl d_EM_hand_174 hv ?_
              replace h := xb h
              obtain ⟨M8, hv, h⟩ := h
              refine xr_mst C X hg 40 (by decide) (by decide) rfl d_EM_hand_175 hv (fun H locs X => ?_)
              exact kw_EM_hand_176 (x2 := x2) (x5 := v2) C hlk hr hin hg  X (lv_sub hl [2, 4, 0] rfl) h
      · rw [if_pos hc] at h
        refine lv_aload_n hx hb d_EM_hand_97 rfl (lv_at hl 2 rfl) ?_
        refine xr_mga C X hg xc_EM 39 (by decide) (by decide) (by decide) m_501 d_EM_hand_98 ?_
        refine lv_iload_n hx hb d_EM_hand_101 rfl (lv_at hl 4 rfl) ?_
        replace h := xb h
        obtain ⟨v9, hv, h⟩ := h
        refine xr_mld C X hg 39 (by decide) (by decide) rfl d_EM_hand_102 hv ?_
        refine lv_iload hx hb d_EM_hand_103 (lv_at hl 1 rfl) ?_
        refine lv_icmp_ne (tgt := 222) hx hb d_EM_hand_105 (by decide +kernel) (fun hc => ?_) (fun hc => ?_)
        · rw [if_neg hc] at h
          exact kw_EM_hand_222 C hlk hr hin hg  X (lv_sub hl [] rfl) h
        · rw [if_pos hc] at h
          refine lv_aload_n hx hb d_EM_hand_108 rfl (lv_at hl 2 rfl) ?_
          refine xr_mga C X hg xc_EM 40 (by decide) (by decide) (by decide) m_502 d_EM_hand_109 ?_
          refine lv_iload_n hx hb d_EM_hand_112 rfl (lv_at hl 4 rfl) ?_
          replace h := xb h
          obtain ⟨v10, hv, h⟩ := h
          refine xr_mld C X hg 40 (by decide) (by decide) rfl d_EM_hand_113 hv ?_
          refine lv_iconst hx hb d_EM_hand_114 kn_i_1 ?_
          refine lv_icmp_ne (tgt := 222) hx hb d_EM_hand_115 (by decide +kernel) (fun hc => ?_) (fun hc => ?_)
          · rw [if_neg hc] at h
            exact kw_EM_hand_222 C hlk hr hin hg  X (lv_sub hl [] rfl) h
          · rw [if_pos hc] at h
            refine lv_aload_n hx hb d_EM_hand_118 rfl (lv_at hl 2 rfl) ?_
            refine xr_mga C X hg xc_EM 40 (by decide) (by decide) (by decide) m_502 d_EM_hand_119 ?_
            refine lv_iload_n hx hb d_EM_hand_122 rfl (lv_at hl 4 rfl) ?_
            refine lv_iconst hx hb d_EM_hand_123 kn_i_2 ?_
            replace h := xb h
            obtain ⟨M11, hv, h⟩ := h
            refine xr_mst C X hg 40 (by decide) (by decide) rfl d_EM_hand_124 hv (fun H locs X => ?_)
            refine lv_aload_n hx hb d_EM_hand_125 rfl (lv_at hl 2 rfl) ?_
            refine xr_mga C X hg xc_EM 41 (by decide) (by decide) (by decide) m_503 d_EM_hand_126 ?_
            refine lv_iload_n hx hb d_EM_hand_129 rfl (lv_at hl 4 rfl) ?_
            refine lv_iload hx hb d_EM_hand_130 (lv_at hl 0 rfl) ?_
            replace h := xb h
            obtain ⟨M12, hv, h⟩ := h
            refine xr_mst C X hg 41 (by decide) (by decide) rfl d_EM_hand_132 hv (fun H locs X => ?_)
            exact kw_EM_hand_133 C hlk hr hin hg  X (lv_sub hl [] rfl) h
    · rw [if_pos hc] at h
      refine lv_aload_n hx hb d_EM_hand_62 rfl (lv_at hl 2 rfl) ?_
      refine xr_mga C X hg xc_EM 3 (by decide) (by decide) (by decide) m_465 d_EM_hand_63 ?_
      refine lv_iload_n hx hb d_EM_hand_66 rfl (lv_at hl 4 rfl) ?_
      replace h := xb h
      obtain ⟨v13, hv, h⟩ := h
      refine xr_mldz C X hg 3 (by decide) (by decide) rfl d_EM_hand_67 hv ?_
      refine lv_if_eq (tgt := 222) hx hb d_EM_hand_68 (by decide +kernel) (fun hc => ?_) (fun hc => ?_)
      · rw [if_pos hc] at h
        exact kw_EM_hand_222 C hlk hr hin hg  X (lv_sub hl [] rfl) h
      · rw [if_neg hc] at h
        refine lv_aload_n hx hb d_EM_hand_71 rfl (lv_at hl 2 rfl) ?_
        refine xr_mga C X hg xc_EM 2 (by decide) (by decide) (by decide) m_464 d_EM_hand_72 ?_
        refine lv_iload_n hx hb d_EM_hand_75 rfl (lv_at hl 4 rfl) ?_
        replace h := xb h
        obtain ⟨v14, hv, h⟩ := h
        refine xr_mld C X hg 2 (by decide) (by decide) rfl d_EM_hand_76 hv ?_
        refine lv_iload_n hx hb d_EM_hand_77 rfl (lv_at hl 5 rfl) ?_
        refine lv_icmp_ne (tgt := 222) hx hb d_EM_hand_78 (by decide +kernel) (fun hc => ?_) (fun hc => ?_)
        · rw [if_neg hc] at h
          exact kw_EM_hand_222 C hlk hr hin hg  X (lv_sub hl [] rfl) h
        · rw [if_pos hc] at h
          refine lv_aload_n hx hb d_EM_hand_81 rfl (lv_at hl 2 rfl) ?_
          refine lv_iload_n hx hb d_EM_hand_82 rfl (lv_at hl 4 rfl) ?_
          refine lv_iload_n hx hb d_EM_hand_83 rfl (lv_at hl 5 rfl) ?_
          refine lv_iload hx hb d_EM_hand_84 (lv_at hl 0 rfl) ?_
          replace h := xb h
          obtain ⟨M15, hv, h⟩ := h
          refine xr_kv (va_runV (As := [.int x2, .int x3, .int v2]) (rest := []) C.1 (kc_EM_pushed l E hg hv) (cwV 3 C.1.2.2.2.2 (xw_V m_568 m_569 m_570 m_521 m_571) rfl rfl rfl ky_EM_pushed ⟨(Nat.le_of_ble_eq_true rfl), (Nat.le_of_ble_eq_true rfl)⟩) (xr_pV C X xc_EM.1 (xk_Xw (X.1.2.2.2.2.2 hg).1)) rfl rfl hl.1 rfl (lv_room (Nat.le_of_ble_eq_true rfl)) d_EM_hand_86 ⟨(Nat.le_of_ble_eq_true rfl), (Nat.le_of_ble_eq_true rfl)⟩) X (fun H locs X => ?_)
          exact kw_EM_hand_89 C hlk hr hin hg  X (lv_sub hl [] rfl) h
  · rw [if_pos hc] at h
    refine lv_aload_n hx hb d_EM_hand_23 rfl (lv_at hl 2 rfl) ?_
    refine xr_mga C X hg xc_EM 3 (by decide) (by decide) (by decide) m_465 d_EM_hand_24 ?_
    refine lv_iload_n hx hb d_EM_hand_27 rfl (lv_at hl 4 rfl) ?_
    replace h := xb h
    obtain ⟨v16, hv, h⟩ := h
    refine xr_mldz C X hg 3 (by decide) (by decide) rfl d_EM_hand_28 hv ?_
    refine lv_if_eq (tgt := 222) hx hb d_EM_hand_29 (by decide +kernel) (fun hc => ?_) (fun hc => ?_)
    · rw [if_pos hc] at h
      exact kw_EM_hand_222 C hlk hr hin hg  X (lv_sub hl [] rfl) h
    · rw [if_neg hc] at h
      refine lv_aload_n hx hb d_EM_hand_32 rfl (lv_at hl 2 rfl) ?_
      refine xr_mga C X hg xc_EM 2 (by decide) (by decide) (by decide) m_464 d_EM_hand_33 ?_
      refine lv_iload_n hx hb d_EM_hand_36 rfl (lv_at hl 4 rfl) ?_
      replace h := xb h
      obtain ⟨v17, hv, h⟩ := h
      refine xr_mld C X hg 2 (by decide) (by decide) rfl d_EM_hand_37 hv ?_
      refine lv_iload_n hx hb d_EM_hand_38 rfl (lv_at hl 5 rfl) ?_
      refine lv_icmp_ne (tgt := 222) hx hb d_EM_hand_39 (by decide +kernel) (fun hc => ?_) (fun hc => ?_)
      · rw [if_neg hc] at h
        exact kw_EM_hand_222 C hlk hr hin hg  X (lv_sub hl [] rfl) h
      · rw [if_pos hc] at h
        exact kw_EM_hand_42 (x2 := x2) (x3 := x3) (x4 := v1) C hlk hr hin hg  X (lv_sub hl [2, 4, 5, 1] rfl) h
theorem kc_EM_hand (l : Launch) (E : xe) (hg : xe_g E = true) {x1 : Int32} {x2 : Int32} {x3 : Int32} (h : kf_EM_hand_0 M x1 x2 x3 = some M') : Met l y_EM_hand (Cond.code y_EM_hand b_EM_hand 6 none :: w_all) { frames := 4, cells := 0, slots := 0, locals := 105 } (va_Pc [.ref (xe_om E), .int x1, .int x2, .int x3] (fun U => xx_B E K M U)) (xq_v E K M') 0 0 (xe_A E) :=
  xr_met (by decide) (Nat.le_of_ble_eq_true rfl) fun p e s m below meth c ls C X hlk hr hin hl => kw_EM_hand_0 C hlk hr hin hg X hl h
set_option maxHeartbeats 4000000 in
set_option maxRecDepth 100000 in
theorem kw_EM_deliver_46 {x2 : Int32} {r : Int32} (C : xx_C p m c b_EM_deliver 3 s args Rn_EM E) (hlk : meth.locks = false) (hr : meth.sig.returnType = (some .int)) (hin : meth.name = "deliver") (hg : xe_g E = true) (X : xx_S E K M s H locs) (hl : lv_has ls 3 [(2, .int x2)]) (h : kf_EM_deliver_46 M x2 = some (r, M')) : W p l e { frames := 5, cells := 0, slots := 0, locals := 130 } s m args below meth c H locs 0 0 (MQ below (xq_i E K M' r) args s 0 0 (xe_A E)) (F0 m 46 ls []) := by
  have hx := C.1.1
  have hb := C.1.2.1
  unfold kf_EM_deliver_46 at h
  refine lv_iload_n hx hb d_EM_deliver_46 rfl (lv_at hl 0 rfl) ?_
  obtain ⟨rfl, rfl⟩ := Prod.mk.inj (Option.some.inj h)
  exact xr_iret C X hlk hr d_EM_deliver_47 rfl (Nat.le_of_ble_eq_true rfl) (Nat.le_of_ble_eq_true rfl)
set_option maxHeartbeats 4000000 in
set_option maxRecDepth 100000 in
theorem kw_EM_deliver_0 {x1 : Int32} {r : Int32} (C : xx_C p m c b_EM_deliver 3 s args Rn_EM E) (hlk : meth.locks = false) (hr : meth.sig.returnType = (some .int)) (hin : meth.name = "deliver") (hg : xe_g E = true) (X : xx_S E K M s H locs) (hl : lv_has ls 3 [(0, .ref (xe_om E)), (1, .int x1)]) (h : kf_EM_deliver_0 M x1 = some (r, M')) : W p l e { frames := 5, cells := 0, slots := 0, locals := 130 } s m args below meth c H locs 0 0 (MQ below (xq_i E K M' r) args s 0 0 (xe_A E)) (F0 m 0 ls []) := by
  have hx := C.1.1
  have hb := C.1.2.1
  unfold kf_EM_deliver_0 at h
  refine lv_iload_n hx hb d_EM_deliver_0 rfl (lv_at hl 1 rfl) ?_
  refine lv_if_lt (tgt := 12) hx hb d_EM_deliver_1 (by decide +kernel) (fun hc => ?_) (fun hc => ?_)
  · rw [if_pos hc] at h
    refine lv_iconst hx hb d_EM_deliver_12 kn_i_m1 ?_
    obtain ⟨rfl, rfl⟩ := Prod.mk.inj (Option.some.inj h)
    exact xr_iret C X hlk hr d_EM_deliver_13 rfl (Nat.le_of_ble_eq_true rfl) (Nat.le_of_ble_eq_true rfl)
  · rw [if_neg hc] at h
    refine lv_iload_n hx hb d_EM_deliver_4 rfl (lv_at hl 1 rfl) ?_
    refine lv_aload_n hx hb d_EM_deliver_5 rfl (lv_at hl 0 rfl) ?_
    refine xr_mgl C X hg xc_EM (by decide) (by decide) m_517 d_EM_deliver_6 ?_
    refine lv_icmp_lt (tgt := 14) hx hb d_EM_deliver_9 (by decide +kernel) (fun hc => ?_) (fun hc => ?_)
    · rw [if_pos hc] at h
      refine lv_aload_n hx hb d_EM_deliver_14 rfl (lv_at hl 0 rfl) ?_
      refine lv_iload_n hx hb d_EM_deliver_15 rfl (lv_at hl 1 rfl) ?_
      replace h := xb h
      obtain ⟨M1, hv, h⟩ := h
      refine xr_kv (va_runV (As := [.int x1]) (rest := []) C.1 (kc_EM_take l E hg hv) (cwV 1 C.1.2.2.2.2 (xw_V m_524 m_525 m_526 m_521 m_527) rfl rfl rfl ky_EM_take ⟨(Nat.le_of_ble_eq_true rfl), (Nat.le_of_ble_eq_true rfl)⟩) (xr_pV C X xc_EM.1 (xk_Xw (X.1.2.2.2.2.2 hg).1)) rfl rfl hl.1 rfl (lv_room (Nat.le_of_ble_eq_true rfl)) d_EM_deliver_16 ⟨(Nat.le_of_ble_eq_true rfl), (Nat.le_of_ble_eq_true rfl)⟩) X (fun H locs X => ?_)
      refine lv_aload_n hx hb d_EM_deliver_19 rfl (lv_at hl 0 rfl) ?_
      refine xr_mga C X hg xc_EM 48 (by decide) (by decide) (by decide) m_509 d_EM_deliver_20 ?_
      refine lv_bipush hx hb d_EM_deliver_23 kn_b_24 ?_
      replace h := xb h
      obtain ⟨v2, hv, h⟩ := h
      refine xr_mld C X hg 48 (by decide) (by decide) rfl d_EM_deliver_25 hv ?_
      refine lv_istore_n hx hb d_EM_deliver_26 rfl hl (by decide) rfl (fun ls hl => ?_)
      have hl : lv_has ls 3 [(2, .int v2), (0, .ref (xe_om E)), (1, .int x1)] := hl
      refine lv_aload_n hx hb d_EM_deliver_27 rfl (lv_at hl 1 rfl) ?_
      refine lv_iload_n hx hb d_EM_deliver_28 rfl (lv_at hl 0 rfl) ?_
      refine lv_aload_n hx hb d_EM_deliver_29 rfl (lv_at hl 1 rfl) ?_
      refine xr_mga C X hg xc_EM 49 (by decide) (by decide) (by decide) m_510 d_EM_deliver_30 ?_
      refine lv_bipush hx hb d_EM_deliver_33 kn_b_24 ?_
      replace h := xb h
      obtain ⟨v3, hv, h⟩ := h
      refine xr_mld C X hg 49 (by decide) (by decide) rfl d_EM_deliver_35 hv ?_
      refine lv_aload_n hx hb d_EM_deliver_36 rfl (lv_at hl 1 rfl) ?_
      refine xr_mga C X hg xc_EM 50 (by decide) (by decide) (by decide) m_511 d_EM_deliver_37 ?_
      refine lv_bipush hx hb d_EM_deliver_40 kn_b_24 ?_
      replace h := xb h
      obtain ⟨v4, hv, h⟩ := h
      refine xr_mld C X hg 50 (by decide) (by decide) rfl d_EM_deliver_42 hv ?_
      replace h := xb h
      obtain ⟨M5, hv, h⟩ := h
      refine xr_kv (va_runV (As := [.int v2, .int v3, .int v4]) (rest := []) C.1 (kc_EM_hand l E hg hv) (cwV 3 C.1.2.2.2.2 (xw_V m_572 m_573 m_574 m_521 m_575) rfl rfl rfl ky_EM_hand ⟨(Nat.le_of_ble_eq_true rfl), (Nat.le_of_ble_eq_true rfl)⟩) (xr_pV C X xc_EM.1 (xk_Xw (X.1.2.2.2.2.2 hg).1)) rfl rfl hl.1 rfl (lv_room (Nat.le_of_ble_eq_true rfl)) d_EM_deliver_43 ⟨(Nat.le_of_ble_eq_true rfl), (Nat.le_of_ble_eq_true rfl)⟩) X (fun H locs X => ?_)
      exact kw_EM_deliver_46 (x2 := v2) C hlk hr hin hg  X (lv_sub hl [0] rfl) h
    · rw [if_neg hc] at h
      refine lv_iconst hx hb d_EM_deliver_12 kn_i_m1 ?_
      obtain ⟨rfl, rfl⟩ := Prod.mk.inj (Option.some.inj h)
      exact xr_iret C X hlk hr d_EM_deliver_13 rfl (Nat.le_of_ble_eq_true rfl) (Nat.le_of_ble_eq_true rfl)
theorem kc_EM_deliver (l : Launch) (E : xe) (hg : xe_g E = true) {x1 : Int32} {r : Int32} (h : kf_EM_deliver_0 M x1 = some (r, M')) : Met l y_EM_deliver (Cond.code y_EM_deliver b_EM_deliver 3 (some .int) :: w_all) { frames := 5, cells := 0, slots := 0, locals := 130 } (va_Pc [.ref (xe_om E), .int x1] (fun U => xx_B E K M U)) (xq_i E K M' r) 0 0 (xe_A E) :=
  xr_met (by decide) (Nat.le_of_ble_eq_true rfl) fun p e s m below meth c ls C X hlk hr hin hl => kw_EM_deliver_0 C hlk hr hin hg X hl h
set_option maxHeartbeats 4000000 in
set_option maxRecDepth 100000 in
theorem kw_EM_isMaster_0 {x1 : Int32} {r : Int32} (C : xx_C p m c b_EM_isMaster 2 s args Rn_EM E) (hlk : meth.locks = false) (hr : meth.sig.returnType = (some .boolean)) (hin : meth.name = "isMaster") (hg : xe_g E = true) (X : xx_S E K M s H locs) (hl : lv_has ls 2 [(0, .ref (xe_om E)), (1, .int x1)]) (h : kf_EM_isMaster_0 M x1 = some (r, M')) : W p l e { frames := 0, cells := 0, slots := 0, locals := 0 } s m args below meth c H locs 0 0 (MQ below (xq_i E K M' r) args s 0 0 (xe_A E)) (F0 m 0 ls []) := by
  have hx := C.1.1
  have hb := C.1.2.1
  unfold kf_EM_isMaster_0 at h
  refine lv_iload_n hx hb d_EM_isMaster_0 rfl (lv_at hl 1 rfl) ?_
  refine lv_iconst hx hb d_EM_isMaster_1 kn_i_1 ?_
  refine lv_icmp_lt (tgt := 24) hx hb d_EM_isMaster_2 (by decide +kernel) (fun hc => ?_) (fun hc => ?_)
  · rw [if_pos hc] at h
    refine lv_iconst hx hb d_EM_isMaster_24 kn_i_0 ?_
    obtain ⟨rfl, rfl⟩ := Prod.mk.inj (Option.some.inj h)
    exact xr_zret C X hlk hr d_EM_isMaster_25 rfl (Nat.le_of_ble_eq_true rfl) (Nat.le_of_ble_eq_true rfl)
  · rw [if_neg hc] at h
    refine lv_iload_n hx hb d_EM_isMaster_5 rfl (lv_at hl 1 rfl) ?_
    refine lv_bipush hx hb d_EM_isMaster_6 kn_b_9 ?_
    refine lv_icmp_gt (tgt := 24) hx hb d_EM_isMaster_8 (by decide +kernel) (fun hc => ?_) (fun hc => ?_)
    · rw [if_pos hc] at h
      refine lv_iconst hx hb d_EM_isMaster_24 kn_i_0 ?_
      obtain ⟨rfl, rfl⟩ := Prod.mk.inj (Option.some.inj h)
      exact xr_zret C X hlk hr d_EM_isMaster_25 rfl (Nat.le_of_ble_eq_true rfl) (Nat.le_of_ble_eq_true rfl)
    · rw [if_neg hc] at h
      refine lv_aload_n hx hb d_EM_isMaster_11 rfl (lv_at hl 0 rfl) ?_
      refine xr_mga C X hg xc_EM 17 (by decide) (by decide) (by decide) m_479 d_EM_isMaster_12 ?_
      refine lv_iload_n hx hb d_EM_isMaster_15 rfl (lv_at hl 1 rfl) ?_
      replace h := xb h
      obtain ⟨v1, hv, h⟩ := h
      refine xr_mldz C X hg 17 (by decide) (by decide) rfl d_EM_isMaster_16 hv ?_
      refine lv_if_eq (tgt := 24) hx hb d_EM_isMaster_17 (by decide +kernel) (fun hc => ?_) (fun hc => ?_)
      · rw [if_pos hc] at h
        refine lv_iconst hx hb d_EM_isMaster_24 kn_i_0 ?_
        obtain ⟨rfl, rfl⟩ := Prod.mk.inj (Option.some.inj h)
        exact xr_zret C X hlk hr d_EM_isMaster_25 rfl (Nat.le_of_ble_eq_true rfl) (Nat.le_of_ble_eq_true rfl)
      · rw [if_neg hc] at h
        refine lv_iconst hx hb d_EM_isMaster_20 kn_i_1 ?_
        refine lv_goto (tgt := 25) hx hb d_EM_isMaster_21 (by decide +kernel) ?_
        obtain ⟨rfl, rfl⟩ := Prod.mk.inj (Option.some.inj h)
        exact xr_zret C X hlk hr d_EM_isMaster_25 rfl (Nat.le_of_ble_eq_true rfl) (Nat.le_of_ble_eq_true rfl)
theorem kc_EM_isMaster (l : Launch) (E : xe) (hg : xe_g E = true) {x1 : Int32} {r : Int32} (h : kf_EM_isMaster_0 M x1 = some (r, M')) : Met l y_EM_isMaster (Cond.code y_EM_isMaster b_EM_isMaster 2 (some .boolean) :: w_all) { frames := 0, cells := 0, slots := 0, locals := 0 } (va_Pc [.ref (xe_om E), .int x1] (fun U => xx_B E K M U)) (xq_i E K M' r) 0 0 (xe_A E) :=
  xr_met (by decide) (Nat.le_of_ble_eq_true rfl) fun p e s m below meth c ls C X hlk hr hin hl => kw_EM_isMaster_0 C hlk hr hin hg X hl h
end KW16
