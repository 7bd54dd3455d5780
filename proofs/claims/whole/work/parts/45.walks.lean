/-! EpochStoreModel.push(I)I -/
def kb_EM_push_17 (rec17 : xm → Int32 → Int32 → Int32 → Option (Int32 × xm)) (M : xm) (x1 : Int32) (x2 : Int32) (x3 : Int32) : Option (Int32 × xm) := (xMi M 30 x1).bind fun v1 => if (((8 : Int32) * x1) + v1) ≤ x3 then (some (x2, M)) else xp (kf_EM_pushOut_0 M x1 x3) fun r3 M2 => rec17 M2 x1 (x2 + r3) (x3 + (1 : Int32))
def kf_EM_push_17 : Nat → xm → Int32 → Int32 → Int32 → Option (Int32 × xm)
  | 0 => fun _ _ _ _ => none
  | n + 1 => kb_EM_push_17 (kf_EM_push_17 n)
def kf_EM_push_0 (M : xm) (x1 : Int32) : Option (Int32 × xm) := xp (kf_EM_isMaster_0 M x1) fun r2 M1 => if r2 = 0 then (some ((-1 : Int32), M1)) else kf_EM_push_17 1000 M1 x1 (0 : Int32) ((8 : Int32) * x1)
/-! EpochStoreModel.master(I)I -/
def kf_EM_master_0 (M : xm) (x1 : Int32) : Option (Int32 × xm) := xp (kf_EM_isMaster_0 M x1) fun r2 M1 => if r2 = 0 then (some ((-1 : Int32), M1)) else (xMi M1 25 x1).bind fun v3 => (xMi M1 30 x1).bind fun v4 => (xMi M1 20 x1).bind fun v5 => some (((v3 + ((16 : Int32) * v4)) + ((256 : Int32) * v5)), M1)
/-! EpochStoreModel.committed(I)I -/
def kf_EM_committed_0 (M : xm) (x1 : Int32) : Option (Int32 × xm) := xp (kf_EM_isMaster_0 M x1) fun r2 M1 => if r2 = 0 then (some ((-1 : Int32), M1)) else (xMi M1 22 x1).bind fun v3 => some (v3, M1)
/-! EpochStoreModel.isClient(I)Z -/
def kf_EM_isClient_0 (M : xm) (x0 : Int32) : Option (Int32 × xm) := if x0 < 0 then (some ((0 : Int32), M)) else if (2 : Int32) < x0 then (some ((0 : Int32), M)) else some ((1 : Int32), M)
/-! EpochStoreModel.isOpen(I)Z -/
def kf_EM_isOpen_0 (M : xm) (x1 : Int32) : Option (Int32 × xm) := xp (kf_EM_isClient_0 M x1) fun r2 M1 => if r2 = 0 then (some ((0 : Int32), M1)) else (xMi M1 40 x1).bind fun v3 => if v3 = (2 : Int32) then (some ((1 : Int32), M1)) else some ((0 : Int32), M1)
/-! EpochStoreModel.coordinatorsUp()I -/
def kb_EM_coordinatorsUp_4 (rec4 : xm → Int32 → Int32 → Option (Int32 × xm)) (M : xm) (x1 : Int32) (x2 : Int32) : Option (Int32 × xm) := if (3 : Int32) ≤ x2 then (some (x1, M)) else (xMi M 1 x2).bind fun v1 => if v1 = 0 then (rec4 M x1 (x2 + (1 : Int32))) else rec4 M (x1 + (1 : Int32)) (x2 + (1 : Int32))
def kf_EM_coordinatorsUp_4 : Nat → xm → Int32 → Int32 → Option (Int32 × xm)
  | 0 => fun _ _ _ => none
  | n + 1 => kb_EM_coordinatorsUp_4 (kf_EM_coordinatorsUp_4 n)
def kf_EM_coordinatorsUp_0 (M : xm) : Option (Int32 × xm) := kf_EM_coordinatorsUp_4 1000 M (0 : Int32) (0 : Int32)
/-! EpochStoreModel.greatest()I -/
def kb_EM_greatest_4 (rec4 : xm → Int32 → Int32 → Option (Int32 × xm)) (M : xm) (x1 : Int32) (x2 : Int32) : Option (Int32 × xm) := if (3 : Int32) ≤ x2 then (some (x1, M)) else (xMi M 1 x2).bind fun v1 => if v1 = 0 then (rec4 M x1 (x2 + (1 : Int32))) else (xMi M 0 x2).bind fun v2 => if v2 ≤ x1 then (rec4 M x1 (x2 + (1 : Int32))) else (xMi M 0 x2).bind fun v3 => rec4 M v3 (x2 + (1 : Int32))
def kf_EM_greatest_4 : Nat → xm → Int32 → Int32 → Option (Int32 × xm)
  | 0 => fun _ _ _ => none
  | n + 1 => kb_EM_greatest_4 (kf_EM_greatest_4 n)
def kf_EM_greatest_0 (M : xm) : Option (Int32 × xm) := kf_EM_greatest_4 1000 M (0 : Int32) (0 : Int32)
/-! EpochStoreModel.find(I)I -/
def kf_EM_find_0 (M : xm) (x1 : Int32) : Option (Int32 × xm) := xp (kf_EM_isClient_0 M x1) fun r2 M1 => if r2 = 0 then (some ((-1 : Int32), M1)) else xp (kf_EM_coordinatorsUp_0 M1) fun r4 M3 => if (2 : Int32) ≤ r4 then (xp (kf_EM_greatest_0 M3) fun r6 M5 => (xMt M5 38 x1 r6).bind fun M7 => (xMi M7 38 x1).bind fun v8 => some (v8, M7)) else some ((-1 : Int32), M3)
/-! EpochStoreModel.begin(I)Z -/
def kf_EM_begin_106 (M : xm) : Option (Int32 × xm) := some ((1 : Int32), M)
def kf_EM_begin_65 (M : xm) (x1 : Int32) : Option (Int32 × xm) := (xMt M 43 x1 (0 : Int32)).bind fun M1 => (xMt M1 44 x1 (0 : Int32)).bind fun M2 => (xMt M2 46 x1 (0 : Int32)).bind fun M3 => (xMi M3 38 x1).bind fun v4 => (xMi M3 39 x1).bind fun v5 => xp (kf_EM_send_0 M3 (1 : Int32) x1 v4 (0 : Int32) v5) fun r7 M6 => kf_EM_begin_106 M6
def kf_EM_begin_29 (M : xm) (x1 : Int32) : Option (Int32 × xm) := (xMi M 39 x1).bind fun v1 => (xMt M 39 x1 (v1 + (1 : Int32))).bind fun M2 => (xMi M2 38 x1).bind fun v3 => (xMt M2 42 x1 v3).bind fun M4 => (xMt M4 40 x1 (1 : Int32)).bind fun M5 => (xMt M5 41 x1 (0 : Int32)).bind fun M6 => kf_EM_begin_65 M6 x1
def kf_EM_begin_0 (M : xm) (x1 : Int32) : Option (Int32 × xm) := xp (kf_EM_isClient_0 M x1) fun r2 M1 => if r2 = 0 then (some ((0 : Int32), M1)) else (xMi M1 40 x1).bind fun v3 => if v3 < (1 : Int32) then (kf_EM_begin_29 M1 x1) else (xMi M1 40 x1).bind fun v4 => if (3 : Int32) < v4 then (kf_EM_begin_29 M1 x1) else some ((0 : Int32), M1)
/-! EpochStoreModel.reading(II)J -/
def kf_EM_reading_51 (M : xm) : Option (Int64 × xm) := some ((1099511627777 : Int64), M)
def kf_EM_reading_127 (rec83 : xm → Int32 → Int32 → Int32 → Int32 → Int32 → Option (Int64 × xm)) (M : xm) (x1 : Int32) (x3 : Int32) (x4 : Int32) (x6 : Int32) : Option (Int64 × xm) := (xMi M 16 (((8 : Int32) * x6) + x1)).bind fun v1 => rec83 M x1 x3 x4 v1 (x6 + (1 : Int32))
def kb_EM_reading_83 (rec83 : xm → Int32 → Int32 → Int32 → Int32 → Int32 → Option (Int64 × xm)) (M : xm) (x1 : Int32) (x3 : Int32) (x4 : Int32) (x5 : Int32) (x6 : Int32) : Option (Int64 × xm) := (xMi M 13 x3).bind fun v1 => if (((128 : Int32) * x3) + v1) ≤ x6 then (some ((Int32.toInt64 x5), M)) else (xMi M 14 x6).bind fun v2 => if x4 < v2 then (rec83 M x1 x3 x4 x5 (x6 + (1 : Int32))) else (xMi M 15 x6).bind fun v3 => if ((v3 >>> (x1 &&& 31)) &&& (1 : Int32)) = (1 : Int32) then (kf_EM_reading_127 rec83 M x1 x3 x4 x6) else rec83 M x1 x3 x4 x5 (x6 + (1 : Int32))
def kf_EM_reading_83 : Nat → xm → Int32 → Int32 → Int32 → Int32 → Int32 → Option (Int64 × xm)
  | 0 => fun _ _ _ _ _ _ => none
  | n + 1 => kb_EM_reading_83 (kf_EM_reading_83 n)
def kf_EM_reading_0 (M : xm) (x1 : Int32) (x2 : Int32) : Option (Int64 × xm) := (xMi M 41 x2).bind fun v1 => (xMi M 11 (x1 / (4 : Int32))).bind fun v2 => if v2 = 0 then (some ((1099511627776 : Int64), M)) else (xMi M 12 (x1 / (4 : Int32))).bind fun v3 => if v3 < v1 then (kf_EM_reading_51 M) else (xMi M 10 (x1 / (4 : Int32))).bind fun v4 => (xMi M 42 x2).bind fun v5 => if v5 ≤ v4 then ((xMi M 12 (x1 / (4 : Int32))).bind fun v6 => if (v6 - (12 : Int32)) ≤ v1 then (kf_EM_reading_83 1000 M x1 (x1 / (4 : Int32)) v1 (0 : Int32) ((128 : Int32) * (x1 / (4 : Int32)))) else some ((1099511627778 : Int64), M)) else kf_EM_reading_51 M
section KW17
variable {p : Program} {l : Launch} {e : Env} {s : State} {m : MethodId} {args : Array Value} {below : List Frame} {meth : Method} {c : Code} {H : Heap} {locs : List Loc} {ls : Array Slot} {E : xe} {K K' : xk} {M M' : xm}
set_option maxHeartbeats 4000000 in
set_option maxRecDepth 100000 in
theorem kwb_EM_push_17 {rec17 : xm → Int32 → Int32 → Int32 → Option (Int32 × xm)} {x1 : Int32} {x2 : Int32} {x3 : Int32} {r : Int32} (C : xx_C p m c b_EM_push 4 s args Rn_EM E) (hlk : meth.locks = false) (hr : meth.sig.returnType = (some .int)) (hin : meth.name = "push") (hg : xe_g E = true) (hrec17 : ∀ {H : Heap} {locs : List Loc} {ls : Array Slot} {M : xm} {x1 : Int32} {x2 : Int32} {x3 : Int32}, xx_S E K M s H locs → lv_has ls 4 [(0, .ref (xe_om E)), (1, .int x1), (2, .int x2), (3, .int x3)] → rec17 M x1 x2 x3 = some (r, M') → W p l e { frames := 2, cells := 0, slots := 0, locals := 52 } s m args below meth c H locs 0 0 (MQ below (xq_i E K M' r) args s 0 0 (xe_A E)) (F0 m 17 ls [])) (X : xx_S E K M s H locs) (hl : lv_has ls 4 [(0, .ref (xe_om E)), (1, .int x1), (2, .int x2), (3, .int x3)]) (h : kb_EM_push_17 rec17 M x1 x2 x3 = some (r, M')) : W p l e { frames := 2, cells := 0, slots := 0, locals := 52 } s m args below meth c H locs 0 0 (MQ below (xq_i E K M' r) args s 0 0 (xe_A E)) (F0 m 17 ls []) := by
  have hx := C.1.1
  have hb := C.1.2.1
  unfold kb_EM_push_17 at h
  refine lv_iload_n hx hb d_EM_push_17 rfl (lv_at hl 3 rfl) ?_
  refine lv_bipush hx hb d_EM_push_18 kn_b_8 ?_
  refine lv_iload_n hx hb d_EM_push_20 rfl (lv_at hl 1 rfl) ?_
  refine lv_imul hx hb d_EM_push_21 ?_
  refine lv_aload_n hx hb d_EM_push_22 rfl (lv_at hl 0 rfl) ?_
  refine xr_mga C X hg xc_EM 30 (by decide) (by decide) (by decide) m_492 d_EM_push_23 ?_
  refine lv_iload_n hx hb d_EM_push_26 rfl (lv_at hl 1 rfl) ?_
  replace h := xb h
  obtain ⟨v1, hv, h⟩ := h
  refine xr_mld C X hg 30 (by decide) (by decide) rfl d_EM_push_27 hv ?_
  refine lv_iadd hx hb d_EM_push_28 ?_
  refine lv_icmp_ge (tgt := 47) hx hb d_EM_push_29 (by decide +kernel) (fun hc => ?_) (fun hc => ?_)
  · rw [if_pos hc] at h
    refine lv_iload_n hx hb d_EM_push_47 rfl (lv_at hl 2 rfl) ?_
    obtain ⟨rfl, rfl⟩ := Prod.mk.inj (Option.some.inj h)
    exact xr_iret C X hlk hr d_EM_push_48 rfl (Nat.le_of_ble_eq_true rfl) (Nat.le_of_ble_eq_true rfl)
  · rw [if_neg hc] at h
    refine lv_iload_n hx hb d_EM_push_32 rfl (lv_at hl 2 rfl) ?_
    refine lv_aload_n hx hb d_EM_push_33 rfl (lv_at hl 0 rfl) ?_
    refine lv_iload_n hx hb d_EM_push_34 rfl (lv_at hl 1 rfl) ?_
    refine lv_iload_n hx hb d_EM_push_35 rfl (lv_at hl 3 rfl) ?_
    replace h := xpb h
    obtain ⟨r3, M2, hv, h⟩ := h
    refine xr_ki (va_runV (As := [.int x1, .int x3]) (rest := [.int x2]) C.1 (kc_EM_pushOut l E hg hv) (cwV 2 C.1.2.2.2.2 (xw_V m_536 m_537 m_538 m_521 m_539) rfl rfl rfl ky_EM_pushOut ⟨(Nat.le_of_ble_eq_true rfl), (Nat.le_of_ble_eq_true rfl)⟩) (xr_pV C X xc_EM.1 (xk_Xw (X.1.2.2.2.2.2 hg).1)) rfl rfl hl.1 rfl (lv_room (Nat.le_of_ble_eq_true rfl)) d_EM_push_36 ⟨(Nat.le_of_ble_eq_true rfl), (Nat.le_of_ble_eq_true rfl)⟩) X (fun H locs X => ?_)
    refine lv_iadd hx hb d_EM_push_39 ?_
    refine lv_istore_n hx hb d_EM_push_40 rfl hl (by decide) rfl (fun ls hl => ?_)
    have hl : lv_has ls 4 [(2, .int (x2 + r3)), (0, .ref (xe_om E)), (1, .int x1), (3, .int x3)] := hl
    refine lv_iinc (k := 3) (v := (x3 + (1 : Int32))) hx hb d_EM_push_41 hl rfl (congrArg (fun y : Int32 => x3 + y) kn_i_1) (by decide) rfl (fun ls hl => ?_)
    have hl : lv_has ls 4 [(3, .int (x3 + (1 : Int32))), (2, .int (x2 + r3)), (0, .ref (xe_om E)), (1, .int x1)] := hl
    refine lv_goto (tgt := 17) hx hb d_EM_push_44 (by decide +kernel) ?_
    exact hrec17 (x1 := x1) (x2 := (x2 + r3)) (x3 := (x3 + (1 : Int32))) X (lv_sub hl [2, 3, 1, 0] rfl) h
theorem kw_EM_push_17 {r : Int32} (C : xx_C p m c b_EM_push 4 s args Rn_EM E) (hlk : meth.locks = false) (hr : meth.sig.returnType = (some .int)) (hin : meth.name = "push") (hg : xe_g E = true) : ∀ (n : Nat) {H : Heap} {locs : List Loc} {ls : Array Slot} {M : xm} {x1 : Int32} {x2 : Int32} {x3 : Int32}, xx_S E K M s H locs → lv_has ls 4 [(0, .ref (xe_om E)), (1, .int x1), (2, .int x2), (3, .int x3)] → kf_EM_push_17 n M x1 x2 x3 = some (r, M') → W p l e { frames := 2, cells := 0, slots := 0, locals := 52 } s m args below meth c H locs 0 0 (MQ below (xq_i E K M' r) args s 0 0 (xe_A E)) (F0 m 17 ls []) := by
  intro n
  induction n with
  | zero => intro H locs ls M x1 x2 x3 X hl h; exact nomatch (show (none : Option (Int32 × xm)) = some _ from h)
  | succ n ih => intro H locs ls M x1 x2 x3 X hl h; exact kwb_EM_push_17 C hlk hr hin hg ih X hl h
set_option maxHeartbeats 4000000 in
set_option maxRecDepth 100000 in
theorem kw_EM_push_0 {x1 : Int32} {r : Int32} (C : xx_C p m c b_EM_push 4 s args Rn_EM E) (hlk : meth.locks = false) (hr : meth.sig.returnType = (some .int)) (hin : meth.name = "push") (hg : xe_g E = true) (X : xx_S E K M s H locs) (hl : lv_has ls 4 [(0, .ref (xe_om E)), (1, .int x1)]) (h : kf_EM_push_0 M x1 = some (r, M')) : W p l e { frames := 2, cells := 0, slots := 0, locals := 52 } s m args below meth c H locs 0 0 (MQ below (xq_i E K M' r) args s 0 0 (xe_A E)) (F0 m 0 ls []) := by
  have hx := C.1.1
  have hb := C.1.2.1
  unfold kf_EM_push_0 at h
  refine lv_aload_n hx hb d_EM_push_0 rfl (lv_at hl 0 rfl) ?_
  refine lv_iload_n hx hb d_EM_push_1 rfl (lv_at hl 1 rfl) ?_
  replace h := xpb h
  obtain ⟨r2, M1, hv, h⟩ := h
  refine xr_ki (va_runV (As := [.int x1]) (rest := []) C.1 (kc_EM_isMaster l E hg hv) (cwV 1 C.1.2.2.2.2 (xw_V m_576 m_577 m_578 m_521 m_579) rfl rfl rfl ky_EM_isMaster ⟨(Nat.le_of_ble_eq_true rfl), (Nat.le_of_ble_eq_true rfl)⟩) (xr_pV C X xc_EM.1 (xk_Xw (X.1.2.2.2.2.2 hg).1)) rfl rfl hl.1 rfl (lv_room (Nat.le_of_ble_eq_true rfl)) d_EM_push_2 ⟨(Nat.le_of_ble_eq_true rfl), (Nat.le_of_ble_eq_true rfl)⟩) X (fun H locs X => ?_)
  refine lv_if_ne (tgt := 10) hx hb d_EM_push_5 (by decide +kernel) (fun hc => ?_) (fun hc => ?_)
  · rw [if_neg hc] at h
    refine lv_iconst hx hb d_EM_push_10 kn_i_0 ?_
    refine lv_istore_n hx hb d_EM_push_11 rfl hl (by decide) rfl (fun ls hl => ?_)
    have hl : lv_has ls 4 [(2, .int (0 : Int32)), (0, .ref (xe_om E)), (1, .int x1)] := hl
    refine lv_bipush hx hb d_EM_push_12 kn_b_8 ?_
    refine lv_iload_n hx hb d_EM_push_14 rfl (lv_at hl 2 rfl) ?_
    refine lv_imul hx hb d_EM_push_15 ?_
    refine lv_istore_n hx hb d_EM_push_16 rfl hl (by decide) rfl (fun ls hl => ?_)
    have hl : lv_has ls 4 [(3, .int ((8 : Int32) * x1)), (2, .int (0 : Int32)), (0, .ref (xe_om E)), (1, .int x1)] := hl
    exact kw_EM_push_17 C hlk hr hin hg 1000 X (lv_sub hl [2, 3, 1, 0] rfl) h
  · rw [if_pos hc] at h
    refine lv_iconst hx hb d_EM_push_8 kn_i_m1 ?_
    obtain ⟨rfl, rfl⟩ := Prod.mk.inj (Option.some.inj h)
    exact xr_iret C X hlk hr d_EM_push_9 rfl (Nat.le_of_ble_eq_true rfl) (Nat.le_of_ble_eq_true rfl)
theorem kc_EM_push (l : Launch) (E : xe) (hg : xe_g E = true) {x1 : Int32} {r : Int32} (h : kf_EM_push_0 M x1 = some (r, M')) : Met l y_EM_push (Cond.code y_EM_push b_EM_push 4 (some .int) :: w_all) { frames := 2, cells := 0, slots := 0, locals := 52 } (va_Pc [.ref (xe_om E), .int x1] (fun U => xx_B E K M U)) (xq_i E K M' r) 0 0 (xe_A E) :=
  xr_met (by decide) (Nat.le_of_ble_eq_true rfl) fun p e s m below meth c ls C X hlk hr hin hl => kw_EM_push_0 C hlk hr hin hg X hl h
set_option maxHeartbeats 4000000 in
set_option maxRecDepth 100000 in
theorem kw_EM_master_0 {x1 : Int32} {r : Int32} (C : xx_C p m c b_EM_master 2 s args Rn_EM E) (hlk : meth.locks = false) (hr : meth.sig.returnType = (some .int)) (hin : meth.name = "master") (hg : xe_g E = true) (X : xx_S E K M s H locs) (hl : lv_has ls 2 [(0, .ref (xe_om E)), (1, .int x1)]) (h : kf_EM_master_0 M x1 = some (r, M')) : W p l e { frames := 1, cells := 0, slots := 0, locals := 21 } s m args below meth c H locs 0 0 (MQ below (xq_i E K M' r) args s 0 0 (xe_A E)) (F0 m 0 ls []) := by
  have hx := C.1.1
  have hb := C.1.2.1
  unfold kf_EM_master_0 at h
  refine lv_aload_n hx hb d_EM_master_0 rfl (lv_at hl 0 rfl) ?_
  refine lv_iload_n hx hb d_EM_master_1 rfl (lv_at hl 1 rfl) ?_
  replace h := xpb h
  obtain ⟨r2, M1, hv, h⟩ := h
  refine xr_ki (va_runV (As := [.int x1]) (rest := []) C.1 (kc_EM_isMaster l E hg hv) (cwV 1 C.1.2.2.2.2 (xw_V m_576 m_577 m_578 m_521 m_579) rfl rfl rfl ky_EM_isMaster ⟨(Nat.le_of_ble_eq_true rfl), (Nat.le_of_ble_eq_true rfl)⟩) (xr_pV C X xc_EM.1 (xk_Xw (X.1.2.2.2.2.2 hg).1)) rfl rfl hl.1 rfl (lv_room (Nat.le_of_ble_eq_true rfl)) d_EM_master_2 ⟨(Nat.le_of_ble_eq_true rfl), (Nat.le_of_ble_eq_true rfl)⟩) X (fun H locs X => ?_)
  refine lv_if_eq (tgt := 38) hx hb d_EM_master_5 (by decide +kernel) (fun hc => ?_) (fun hc => ?_)
  · rw [if_pos hc] at h
    refine lv_iconst hx hb d_EM_master_38 kn_i_m1 ?_
    obtain ⟨rfl, rfl⟩ := Prod.mk.inj (Option.some.inj h)
    exact xr_iret C X hlk hr d_EM_master_39 rfl (Nat.le_of_ble_eq_true rfl) (Nat.le_of_ble_eq_true rfl)
  · rw [if_neg hc] at h
    refine lv_aload_n hx hb d_EM_master_8 rfl (lv_at hl 0 rfl) ?_
    refine xr_mga C X hg xc_EM 25 (by decide) (by decide) (by decide) m_487 d_EM_master_9 ?_
    refine lv_iload_n hx hb d_EM_master_12 rfl (lv_at hl 1 rfl) ?_
    replace h := xb h
    obtain ⟨v3, hv, h⟩ := h
    refine xr_mld C X hg 25 (by decide) (by decide) rfl d_EM_master_13 hv ?_
    refine lv_bipush hx hb d_EM_master_14 kn_b_16 ?_
    refine lv_aload_n hx hb d_EM_master_16 rfl (lv_at hl 0 rfl) ?_
    refine xr_mga C X hg xc_EM 30 (by decide) (by decide) (by decide) m_492 d_EM_master_17 ?_
    refine lv_iload_n hx hb d_EM_master_20 rfl (lv_at hl 1 rfl) ?_
    replace h := xb h
    obtain ⟨v4, hv, h⟩ := h
    refine xr_mld C X hg 30 (by decide) (by decide) rfl d_EM_master_21 hv ?_
    refine lv_imul hx hb d_EM_master_22 ?_
    refine lv_iadd hx hb d_EM_master_23 ?_
    refine lv_sipush hx hb d_EM_master_24 kn_s_256 ?_
    refine lv_aload_n hx hb d_EM_master_27 rfl (lv_at hl 0 rfl) ?_
    refine xr_mga C X hg xc_EM 20 (by decide) (by decide) (by decide) m_482 d_EM_master_28 ?_
    refine lv_iload_n hx hb d_EM_master_31 rfl (lv_at hl 1 rfl) ?_
    replace h := xb h
    obtain ⟨v5, hv, h⟩ := h
    refine xr_mld C X hg 20 (by decide) (by decide) rfl d_EM_master_32 hv ?_
    refine lv_imul hx hb d_EM_master_33 ?_
    refine lv_iadd hx hb d_EM_master_34 ?_
    refine lv_goto (tgt := 39) hx hb d_EM_master_35 (by decide +kernel) ?_
    obtain ⟨rfl, rfl⟩ := Prod.mk.inj (Option.some.inj h)
    exact xr_iret C X hlk hr d_EM_master_39 rfl (Nat.le_of_ble_eq_true rfl) (Nat.le_of_ble_eq_true rfl)
theorem kc_EM_master (l : Launch) (E : xe) (hg : xe_g E = true) {x1 : Int32} {r : Int32} (h : kf_EM_master_0 M x1 = some (r, M')) : Met l y_EM_master (Cond.code y_EM_master b_EM_master 2 (some .int) :: w_all) { frames := 1, cells := 0, slots := 0, locals := 21 } (va_Pc [.ref (xe_om E), .int x1] (fun U => xx_B E K M U)) (xq_i E K M' r) 0 0 (xe_A E) :=
  xr_met (by decide) (Nat.le_of_ble_eq_true rfl) fun p e s m below meth c ls C X hlk hr hin hl => kw_EM_master_0 C hlk hr hin hg X hl h
set_option maxHeartbeats 4000000 in
set_option maxRecDepth 100000 in
theorem kw_EM_committed_0 {x1 : Int32} {r : Int32} (C : xx_C p m c b_EM_committed 2 s args Rn_EM E) (hlk : meth.locks = false) (hr : meth.sig.returnType = (some .int)) (hin : meth.name = "committed") (hg : xe_g E = true) (X : xx_S E K M s H locs) (hl : lv_has ls 2 [(0, .ref (xe_om E)), (1, .int x1)]) (h : kf_EM_committed_0 M x1 = some (r, M')) : W p l e { frames := 1, cells := 0, slots := 0, locals := 21 } s m args below meth c H locs 0 0 (MQ below (xq_i E K M' r) args s 0 0 (xe_A E)) (F0 m 0 ls []) := by
  have hx := C.1.1
  have hb := C.1.2.1
  unfold kf_EM_committed_0 at h
  refine lv_aload_n hx hb d_EM_committed_0 rfl (lv_at hl 0 rfl) ?_
  refine lv_iload_n hx hb d_EM_committed_1 rfl (lv_at hl 1 rfl) ?_
  replace h := xpb h
  obtain ⟨r2, M1, hv, h⟩ := h
  refine xr_ki (va_runV (As := [.int x1]) (rest := []) C.1 (kc_EM_isMaster l E hg hv) (cwV 1 C.1.2.2.2.2 (xw_V m_576 m_577 m_578 m_521 m_579) rfl rfl rfl ky_EM_isMaster ⟨(Nat.le_of_ble_eq_true rfl), (Nat.le_of_ble_eq_true rfl)⟩) (xr_pV C X xc_EM.1 (xk_Xw (X.1.2.2.2.2.2 hg).1)) rfl rfl hl.1 rfl (lv_room (Nat.le_of_ble_eq_true rfl)) d_EM_committed_2 ⟨(Nat.le_of_ble_eq_true rfl), (Nat.le_of_ble_eq_true rfl)⟩) X (fun H locs X => ?_)
  refine lv_if_eq (tgt := 17) hx hb d_EM_committed_5 (by decide +kernel) (fun hc => ?_) (fun hc => ?_)
  · rw [if_pos hc] at h
    refine lv_iconst hx hb d_EM_committed_17 kn_i_m1 ?_
    obtain ⟨rfl, rfl⟩ := Prod.mk.inj (Option.some.inj h)
    exact xr_iret C X hlk hr d_EM_committed_18 rfl (Nat.le_of_ble_eq_true rfl) (Nat.le_of_ble_eq_true rfl)
  · rw [if_neg hc] at h
    refine lv_aload_n hx hb d_EM_committed_8 rfl (lv_at hl 0 rfl) ?_
    refine xr_mga C X hg xc_EM 22 (by decide) (by decide) (by decide) m_484 d_EM_committed_9 ?_
    refine lv_iload_n hx hb d_EM_committed_12 rfl (lv_at hl 1 rfl) ?_
    replace h := xb h
    obtain ⟨v3, hv, h⟩ := h
    refine xr_mld C X hg 22 (by decide) (by decide) rfl d_EM_committed_13 hv ?_
    refine lv_goto (tgt := 18) hx hb d_EM_committed_14 (by decide +kernel) ?_
    obtain ⟨rfl, rfl⟩ := Prod.mk.inj (Option.some.inj h)
    exact xr_iret C X hlk hr d_EM_committed_18 rfl (Nat.le_of_ble_eq_true rfl) (Nat.le_of_ble_eq_true rfl)
theorem kc_EM_committed (l : Launch) (E : xe) (hg : xe_g E = true) {x1 : Int32} {r : Int32} (h : kf_EM_committed_0 M x1 = some (r, M')) : Met l y_EM_committed (Cond.code y_EM_committed b_EM_committed 2 (some .int) :: w_all) { frames := 1, cells := 0, slots := 0, locals := 21 } (va_Pc [.ref (xe_om E), .int x1] (fun U => xx_B E K M U)) (xq_i E K M' r) 0 0 (xe_A E) :=
  xr_met (by decide) (Nat.le_of_ble_eq_true rfl) fun p e s m below meth c ls C X hlk hr hin hl => kw_EM_committed_0 C hlk hr hin hg X hl h
set_option maxHeartbeats 4000000 in
set_option maxRecDepth 100000 in
theorem kw_EM_isClient_0 {x0 : Int32} {r : Int32} (C : xx_C p m c b_EM_isClient 1 s args Rn_EM E) (hlk : meth.locks = false) (hr : meth.sig.returnType = (some .boolean)) (hin : meth.name = "isClient") (hg : xe_g E = true) (X : xx_S E K M s H locs) (hl : lv_has ls 1 [(0, .int x0)]) (h : kf_EM_isClient_0 M x0 = some (r, M')) : W p l e { frames := 0, cells := 0, slots := 0, locals := 0 } s m args below meth c H locs 0 0 (MQ below (xq_i E K M' r) args s 0 0 (xe_A E)) (F0 m 0 ls []) := by
  have hx := C.1.1
  have hb := C.1.2.1
  unfold kf_EM_isClient_0 at h
  refine lv_iload_n hx hb d_EM_isClient_0 rfl (lv_at hl 0 rfl) ?_
  refine lv_if_lt (tgt := 13) hx hb d_EM_isClient_1 (by decide +kernel) (fun hc => ?_) (fun hc => ?_)
  · rw [if_pos hc] at h
    refine lv_iconst hx hb d_EM_isClient_13 kn_i_0 ?_
    obtain ⟨rfl, rfl⟩ := Prod.mk.inj (Option.some.inj h)
    exact xr_zret C X hlk hr d_EM_isClient_14 rfl (Nat.le_of_ble_eq_true rfl) (Nat.le_of_ble_eq_true rfl)
  · rw [if_neg hc] at h
    refine lv_iload_n hx hb d_EM_isClient_4 rfl (lv_at hl 0 rfl) ?_
    refine lv_iconst hx hb d_EM_isClient_5 kn_i_2 ?_
    refine lv_icmp_gt (tgt := 13) hx hb d_EM_isClient_6 (by decide +kernel) (fun hc => ?_) (fun hc => ?_)
    · rw [if_pos hc] at h
      refine lv_iconst hx hb d_EM_isClient_13 kn_i_0 ?_
      obtain ⟨rfl, rfl⟩ := Prod.mk.inj (Option.some.inj h)
      exact xr_zret C X hlk hr d_EM_isClient_14 rfl (Nat.le_of_ble_eq_true rfl) (Nat.le_of_ble_eq_true rfl)
    · rw [if_neg hc] at h
      refine lv_iconst hx hb d_EM_isClient_9 kn_i_1 ?_
      refine lv_goto (tgt := 14) hx hb d_EM_isClient_10 (by decide +kernel) ?_
      obtain ⟨rfl, rfl⟩ := Prod.mk.inj (Option.some.inj h)
      exact xr_zret C X hlk hr d_EM_isClient_14 rfl (Nat.le_of_ble_eq_true rfl) (Nat.le_of_ble_eq_true rfl)
theorem kc_EM_isClient (l : Launch) (E : xe) (hg : xe_g E = true) {x0 : Int32} {r : Int32} (h : kf_EM_isClient_0 M x0 = some (r, M')) : Met l y_EM_isClient (Cond.code y_EM_isClient b_EM_isClient 1 (some .boolean) :: w_all) { frames := 0, cells := 0, slots := 0, locals := 0 } (va_Pc [.int x0] (fun U => xx_B E K M U)) (xq_i E K M' r) 0 0 (xe_A E) :=
  xr_met (by decide) (Nat.le_of_ble_eq_true rfl) fun p e s m below meth c ls C X hlk hr hin hl => kw_EM_isClient_0 C hlk hr hin hg X hl h
set_option maxHeartbeats 4000000 in
set_option maxRecDepth 100000 in
theorem kw_EM_isOpen_0 {x1 : Int32} {r : Int32} (C : xx_C p m c b_EM_isOpen 2 s args Rn_EM E) (hlk : meth.locks = false) (hr : meth.sig.returnType = (some .boolean)) (hin : meth.name = "isOpen") (hg : xe_g E = true) (X : xx_S E K M s H locs) (hl : lv_has ls 2 [(0, .ref (xe_om E)), (1, .int x1)]) (h : kf_EM_isOpen_0 M x1 = some (r, M')) : W p l e { frames := 1, cells := 0, slots := 0, locals := 20 } s m args below meth c H locs 0 0 (MQ below (xq_i E K M' r) args s 0 0 (xe_A E)) (F0 m 0 ls []) := by
  have hx := C.1.1
  have hb := C.1.2.1
  unfold kf_EM_isOpen_0 at h
  refine lv_iload_n hx hb d_EM_isOpen_0 rfl (lv_at hl 1 rfl) ?_
  replace h := xpb h
  obtain ⟨r2, M1, hv, h⟩ := h
  refine xr_ki (va_runS (As := [.int x1]) (rest := []) C.1 (kc_EM_isClient l E hg hv) (cwS 1 C.1.2.2.2.2 (xw_S m_580 m_581 m_521 m_582) rfl rfl rfl ky_EM_isClient ⟨(Nat.le_of_ble_eq_true rfl), (Nat.le_of_ble_eq_true rfl)⟩) (xr_pS C X) rfl rfl hl.1 rfl (lv_room (Nat.le_of_ble_eq_true rfl)) d_EM_isOpen_1 ⟨(Nat.le_of_ble_eq_true rfl), (Nat.le_of_ble_eq_true rfl)⟩) X (fun H locs X => ?_)
  refine lv_if_eq (tgt := 21) hx hb d_EM_isOpen_4 (by decide +kernel) (fun hc => ?_) (fun hc => ?_)
  · rw [if_pos hc] at h
    refine lv_iconst hx hb d_EM_isOpen_21 kn_i_0 ?_
    obtain ⟨rfl, rfl⟩ := Prod.mk.inj (Option.some.inj h)
    exact xr_zret C X hlk hr d_EM_isOpen_22 rfl (Nat.le_of_ble_eq_true rfl) (Nat.le_of_ble_eq_true rfl)
  · rw [if_neg hc] at h
    refine lv_aload_n hx hb d_EM_isOpen_7 rfl (lv_at hl 0 rfl) ?_
    refine xr_mga C X hg xc_EM 40 (by decide) (by decide) (by decide) m_502 d_EM_isOpen_8 ?_
    refine lv_iload_n hx hb d_EM_isOpen_11 rfl (lv_at hl 1 rfl) ?_
    replace h := xb h
    obtain ⟨v3, hv, h⟩ := h
    refine xr_mld C X hg 40 (by decide) (by decide) rfl d_EM_isOpen_12 hv ?_
    refine lv_iconst hx hb d_EM_isOpen_13 kn_i_2 ?_
    refine lv_icmp_ne (tgt := 21) hx hb d_EM_isOpen_14 (by decide +kernel) (fun hc => ?_) (fun hc => ?_)
    · rw [if_neg hc] at h
      refine lv_iconst hx hb d_EM_isOpen_21 kn_i_0 ?_
      obtain ⟨rfl, rfl⟩ := Prod.mk.inj (Option.some.inj h)
      exact xr_zret C X hlk hr d_EM_isOpen_22 rfl (Nat.le_of_ble_eq_true rfl) (Nat.le_of_ble_eq_true rfl)
    · rw [if_pos hc] at h
      refine lv_iconst hx hb d_EM_isOpen_17 kn_i_1 ?_
      refine lv_goto (tgt := 22) hx hb d_EM_isOpen_18 (by decide +kernel) ?_
      obtain ⟨rfl, rfl⟩ := Prod.mk.inj (Option.some.inj h)
      exact xr_zret C X hlk hr d_EM_isOpen_22 rfl (Nat.le_of_ble_eq_true rfl) (Nat.le_of_ble_eq_true rfl)
theorem kc_EM_isOpen (l : Launch) (E : xe) (hg : xe_g E = true) {x1 : Int32} {r : Int32} (h : kf_EM_isOpen_0 M x1 = some (r, M')) : Met l y_EM_isOpen (Cond.code y_EM_isOpen b_EM_isOpen 2 (some .boolean) :: w_all) { frames := 1, cells := 0, slots := 0, locals := 20 } (va_Pc [.ref (xe_om E), .int x1] (fun U => xx_B E K M U)) (xq_i E K M' r) 0 0 (xe_A E) :=
  xr_met (by decide) (Nat.le_of_ble_eq_true rfl) fun p e s m below meth c ls C X hlk hr hin hl => kw_EM_isOpen_0 C hlk hr hin hg X hl h
set_option maxHeartbeats 4000000 in
set_option maxRecDepth 100000 in
theorem kwb_EM_coordinatorsUp_4 {rec4 : xm → Int32 → Int32 → Option (Int32 × xm)} {x1 : Int32} {x2 : Int32} {r : Int32} (C : xx_C p m c b_EM_coordinatorsUp 3 s args Rn_EM E) (hlk : meth.locks = false) (hr : meth.sig.returnType = (some .int)) (hin : meth.name = "coordinatorsUp") (hg : xe_g E = true) (hrec4 : ∀ {H : Heap} {locs : List Loc} {ls : Array Slot} {M : xm} {x1 : Int32} {x2 : Int32}, xx_S E K M s H locs → lv_has ls 3 [(0, .ref (xe_om E)), (1, .int x1), (2, .int x2)] → rec4 M x1 x2 = some (r, M') → W p l e { frames := 0, cells := 0, slots := 0, locals := 0 } s m args below meth c H locs 0 0 (MQ below (xq_i E K M' r) args s 0 0 (xe_A E)) (F0 m 4 ls [])) (X : xx_S E K M s H locs) (hl : lv_has ls 3 [(0, .ref (xe_om E)), (1, .int x1), (2, .int x2)]) (h : kb_EM_coordinatorsUp_4 rec4 M x1 x2 = some (r, M')) : W p l e { frames := 0, cells := 0, slots := 0, locals := 0 } s m args below meth c H locs 0 0 (MQ below (xq_i E K M' r) args s 0 0 (xe_A E)) (F0 m 4 ls []) := by
  have hx := C.1.1
  have hb := C.1.2.1
  unfold kb_EM_coordinatorsUp_4 at h
  refine lv_iload_n hx hb d_EM_coordinatorsUp_4 rfl (lv_at hl 2 rfl) ?_
  refine lv_iconst hx hb d_EM_coordinatorsUp_5 kn_i_3 ?_
  refine lv_icmp_ge (tgt := 32) hx hb d_EM_coordinatorsUp_6 (by decide +kernel) (fun hc => ?_) (fun hc => ?_)
  · rw [if_pos hc] at h
    refine lv_iload_n hx hb d_EM_coordinatorsUp_32 rfl (lv_at hl 1 rfl) ?_
    obtain ⟨rfl, rfl⟩ := Prod.mk.inj (Option.some.inj h)
    exact xr_iret C X hlk hr d_EM_coordinatorsUp_33 rfl (Nat.le_of_ble_eq_true rfl) (Nat.le_of_ble_eq_true rfl)
  · rw [if_neg hc] at h
    refine lv_aload_n hx hb d_EM_coordinatorsUp_9 rfl (lv_at hl 0 rfl) ?_
    refine xr_mga C X hg xc_EM 1 (by decide) (by decide) (by decide) m_463 d_EM_coordinatorsUp_10 ?_
    refine lv_iload_n hx hb d_EM_coordinatorsUp_13 rfl (lv_at hl 2 rfl) ?_
    replace h := xb h
    obtain ⟨v1, hv, h⟩ := h
    refine xr_mldz C X hg 1 (by decide) (by decide) rfl d_EM_coordinatorsUp_14 hv ?_
    refine lv_if_eq (tgt := 24) hx hb d_EM_coordinatorsUp_15 (by decide +kernel) (fun hc => ?_) (fun hc => ?_)
    · rw [if_pos hc] at h
      refine lv_iload_n hx hb d_EM_coordinatorsUp_24 rfl (lv_at hl 1 rfl) ?_
      refine lv_istore_n hx hb d_EM_coordinatorsUp_25 rfl hl (by decide) rfl (fun ls hl => ?_)
      have hl : lv_has ls 3 [(1, .int x1), (0, .ref (xe_om E)), (2, .int x2)] := hl
      refine lv_iinc (k := 2) (v := (x2 + (1 : Int32))) hx hb d_EM_coordinatorsUp_26 hl rfl (congrArg (fun y : Int32 => x2 + y) kn_i_1) (by decide) rfl (fun ls hl => ?_)
      have hl : lv_has ls 3 [(2, .int (x2 + (1 : Int32))), (1, .int x1), (0, .ref (xe_om E))] := hl
      refine lv_goto (tgt := 4) hx hb d_EM_coordinatorsUp_29 (by decide +kernel) ?_
      exact hrec4 (x1 := x1) (x2 := (x2 + (1 : Int32))) X (lv_sub hl [2, 1, 0] rfl) h
    · rw [if_neg hc] at h
      refine lv_iload_n hx hb d_EM_coordinatorsUp_18 rfl (lv_at hl 1 rfl) ?_
      refine lv_iconst hx hb d_EM_coordinatorsUp_19 kn_i_1 ?_
      refine lv_iadd hx hb d_EM_coordinatorsUp_20 ?_
      refine lv_goto (tgt := 25) hx hb d_EM_coordinatorsUp_21 (by decide +kernel) ?_
      refine lv_istore_n hx hb d_EM_coordinatorsUp_25 rfl hl (by decide) rfl (fun ls hl => ?_)
      have hl : lv_has ls 3 [(1, .int (x1 + (1 : Int32))), (0, .ref (xe_om E)), (2, .int x2)] := hl
      refine lv_iinc (k := 2) (v := (x2 + (1 : Int32))) hx hb d_EM_coordinatorsUp_26 hl rfl (congrArg (fun y : Int32 => x2 + y) kn_i_1) (by decide) rfl (fun ls hl => ?_)
      have hl : lv_has ls 3 [(2, .int (x2 + (1 : Int32))), (1, .int (x1 + (1 : Int32))), (0, .ref (xe_om E))] := hl
      refine lv_goto (tgt := 4) hx hb d_EM_coordinatorsUp_29 (by decide +kernel) ?_
      exact hrec4 (x1 := (x1 + (1 : Int32))) (x2 := (x2 + (1 : Int32))) X (lv_sub hl [2, 1, 0] rfl) h
theorem kw_EM_coordinatorsUp_4 {r : Int32} (C : xx_C p m c b_EM_coordinatorsUp 3 s args Rn_EM E) (hlk : meth.locks = false) (hr : meth.sig.returnType = (some .int)) (hin : meth.name = "coordinatorsUp") (hg : xe_g E = true) : ∀ (n : Nat) {H : Heap} {locs : List Loc} {ls : Array Slot} {M : xm} {x1 : Int32} {x2 : Int32}, xx_S E K M s H locs → lv_has ls 3 [(0, .ref (xe_om E)), (1, .int x1), (2, .int x2)] → kf_EM_coordinatorsUp_4 n M x1 x2 = some (r, M') → W p l e { frames := 0, cells := 0, slots := 0, locals := 0 } s m args below meth c H locs 0 0 (MQ below (xq_i E K M' r) args s 0 0 (xe_A E)) (F0 m 4 ls []) := by
  intro n
  induction n with
  | zero => intro H locs ls M x1 x2 X hl h; exact nomatch (show (none : Option (Int32 × xm)) = some _ from h)
  | succ n ih => intro H locs ls M x1 x2 X hl h; exact kwb_EM_coordinatorsUp_4 C hlk hr hin hg ih X hl h
set_option maxHeartbeats 4000000 in
set_option maxRecDepth 100000 in
theorem kw_EM_coordinatorsUp_0 {r : Int32} (C : xx_C p m c b_EM_coordinatorsUp 3 s args Rn_EM E) (hlk : meth.locks = false) (hr : meth.sig.returnType = (some .int)) (hin : meth.name = "coordinatorsUp") (hg : xe_g E = true) (X : xx_S E K M s H locs) (hl : lv_has ls 3 [(0, .ref (xe_om E))]) (h : kf_EM_coordinatorsUp_0 M = some (r, M')) : W p l e { frames := 0, cells := 0, slots := 0, locals := 0 } s m args below meth c H locs 0 0 (MQ below (xq_i E K M' r) args s 0 0 (xe_A E)) (F0 m 0 ls []) := by
  have hx := C.1.1
  have hb := C.1.2.1
  unfold kf_EM_coordinatorsUp_0 at h
  refine lv_iconst hx hb d_EM_coordinatorsUp_0 kn_i_0 ?_
  refine lv_istore_n hx hb d_EM_coordinatorsUp_1 rfl hl (by decide) rfl (fun ls hl => ?_)
  have hl : lv_has ls 3 [(1, .int (0 : Int32)), (0, .ref (xe_om E))] := hl
  refine lv_iconst hx hb d_EM_coordinatorsUp_2 kn_i_0 ?_
  refine lv_istore_n hx hb d_EM_coordinatorsUp_3 rfl hl (by decide) rfl (fun ls hl => ?_)
  have hl : lv_has ls 3 [(2, .int (0 : Int32)), (1, .int (0 : Int32)), (0, .ref (xe_om E))] := hl
  exact kw_EM_coordinatorsUp_4 C hlk hr hin hg 1000 X (lv_sub hl [2, 1, 0] rfl) h
theorem kc_EM_coordinatorsUp (l : Launch) (E : xe) (hg : xe_g E = true) {r : Int32} (h : kf_EM_coordinatorsUp_0 M = some (r, M')) : Met l y_EM_coordinatorsUp (Cond.code y_EM_coordinatorsUp b_EM_coordinatorsUp 3 (some .int) :: w_all) { frames := 0, cells := 0, slots := 0, locals := 0 } (va_Pc [.ref (xe_om E)] (fun U => xx_B E K M U)) (xq_i E K M' r) 0 0 (xe_A E) :=
  xr_met (by decide) (Nat.le_of_ble_eq_true rfl) fun p e s m below meth c ls C X hlk hr hin hl => kw_EM_coordinatorsUp_0 C hlk hr hin hg X hl h
set_option maxHeartbeats 4000000 in
set_option maxRecDepth 100000 in
theorem kwb_EM_greatest_4 {rec4 : xm → Int32 → Int32 → Option (Int32 × xm)} {x1 : Int32} {x2 : Int32} {r : Int32} (C : xx_C p m c b_EM_greatest 3 s args Rn_EM E) (hlk : meth.locks = false) (hr : meth.sig.returnType = (some .int)) (hin : meth.name = "greatest") (hg : xe_g E = true) (hrec4 : ∀ {H : Heap} {locs : List Loc} {ls : Array Slot} {M : xm} {x1 : Int32} {x2 : Int32}, xx_S E K M s H locs → lv_has ls 3 [(0, .ref (xe_om E)), (1, .int x1), (2, .int x2)] → rec4 M x1 x2 = some (r, M') → W p l e { frames := 0, cells := 0, slots := 0, locals := 0 } s m args below meth c H locs 0 0 (MQ below (xq_i E K M' r) args s 0 0 (xe_A E)) (F0 m 4 ls [])) (X : xx_S E K M s H locs) (hl : lv_has ls 3 [(0, .ref (xe_om E)), (1, .int x1), (2, .int x2)]) (h : kb_EM_greatest_4 rec4 M x1 x2 = some (r, M')) : W p l e { frames := 0, cells := 0, slots := 0, locals := 0 } s m args below meth c H locs 0 0 (MQ below (xq_i E K M' r) args s 0 0 (xe_A E)) (F0 m 4 ls []) := by
  have hx := C.1.1
  have hb := C.1.2.1
  unfold kb_EM_greatest_4 at h
  refine lv_iload_n hx hb d_EM_greatest_4 rfl (lv_at hl 2 rfl) ?_
  refine lv_iconst hx hb d_EM_greatest_5 kn_i_3 ?_
  refine lv_icmp_ge (tgt := 45) hx hb d_EM_greatest_6 (by decide +kernel) (fun hc => ?_) (fun hc => ?_)
  · rw [if_pos hc] at h
    refine lv_iload_n hx hb d_EM_greatest_45 rfl (lv_at hl 1 rfl) ?_
    obtain ⟨rfl, rfl⟩ := Prod.mk.inj (Option.some.inj h)
    exact xr_iret C X hlk hr d_EM_greatest_46 rfl (Nat.le_of_ble_eq_true rfl) (Nat.le_of_ble_eq_true rfl)
  · rw [if_neg hc] at h
    refine lv_aload_n hx hb d_EM_greatest_9 rfl (lv_at hl 0 rfl) ?_
    refine xr_mga C X hg xc_EM 1 (by decide) (by decide) (by decide) m_463 d_EM_greatest_10 ?_
    refine lv_iload_n hx hb d_EM_greatest_13 rfl (lv_at hl 2 rfl) ?_
    replace h := xb h
    obtain ⟨v1, hv, h⟩ := h
    refine xr_mldz C X hg 1 (by decide) (by decide) rfl d_EM_greatest_14 hv ?_
    refine lv_if_eq (tgt := 37) hx hb d_EM_greatest_15 (by decide +kernel) (fun hc => ?_) (fun hc => ?_)
    · rw [if_pos hc] at h
      refine lv_iload_n hx hb d_EM_greatest_37 rfl (lv_at hl 1 rfl) ?_
      refine lv_istore_n hx hb d_EM_greatest_38 rfl hl (by decide) rfl (fun ls hl => ?_)
      have hl : lv_has ls 3 [(1, .int x1), (0, .ref (xe_om E)), (2, .int x2)] := hl
      refine lv_iinc (k := 2) (v := (x2 + (1 : Int32))) hx hb d_EM_greatest_39 hl rfl (congrArg (fun y : Int32 => x2 + y) kn_i_1) (by decide) rfl (fun ls hl => ?_)
      have hl : lv_has ls 3 [(2, .int (x2 + (1 : Int32))), (1, .int x1), (0, .ref (xe_om E))] := hl
      refine lv_goto (tgt := 4) hx hb d_EM_greatest_42 (by decide +kernel) ?_
      exact hrec4 (x1 := x1) (x2 := (x2 + (1 : Int32))) X (lv_sub hl [2, 1, 0] rfl) h
    · rw [if_neg hc] at h
      refine lv_aload_n hx hb d_EM_greatest_18 rfl (lv_at hl 0 rfl) ?_
      refine xr_mga C X hg xc_EM 0 (by decide) (by decide) (by decide) m_461 d_EM_greatest_19 ?_
      refine lv_iload_n hx hb d_EM_greatest_22 rfl (lv_at hl 2 rfl) ?_
      replace h := xb h
      obtain ⟨v2, hv, h⟩ := h
      refine xr_mld C X hg 0 (by decide) (by decide) rfl d_EM_greatest_23 hv ?_
      refine lv_iload_n hx hb d_EM_greatest_24 rfl (lv_at hl 1 rfl) ?_
      refine lv_icmp_le (tgt := 37) hx hb d_EM_greatest_25 (by decide +kernel) (fun hc => ?_) (fun hc => ?_)
      · rw [if_pos hc] at h
        refine lv_iload_n hx hb d_EM_greatest_37 rfl (lv_at hl 1 rfl) ?_
        refine lv_istore_n hx hb d_EM_greatest_38 rfl hl (by decide) rfl (fun ls hl => ?_)
        have hl : lv_has ls 3 [(1, .int x1), (0, .ref (xe_om E)), (2, .int x2)] := hl
        refine lv_iinc (k := 2) (v := (x2 + (1 : Int32))) hx hb d_EM_greatest_39 hl rfl (congrArg (fun y : Int32 => x2 + y) kn_i_1) (by decide) rfl (fun ls hl => ?_)
        have hl : lv_has ls 3 [(2, .int (x2 + (1 : Int32))), (1, .int x1), (0, .ref (xe_om E))] := hl
        refine lv_goto (tgt := 4) hx hb d_EM_greatest_42 (by decide +kernel) ?_
        exact hrec4 (x1 := x1) (x2 := (x2 + (1 : Int32))) X (lv_sub hl [2, 1, 0] rfl) h
      · rw [if_neg hc] at h
        refine lv_aload_n hx hb d_EM_greatest_28 rfl (lv_at hl 0 rfl) ?_
        refine xr_mga C X hg xc_EM 0 (by decide) (by decide) (by decide) m_461 d_EM_greatest_29 ?_
        refine lv_iload_n hx hb d_EM_greatest_32 rfl (lv_at hl 2 rfl) ?_
        replace h := xb h
        obtain ⟨v3, hv, h⟩ := h
        refine xr_mld C X hg 0 (by decide) (by decide) rfl d_EM_greatest_33 hv ?_
        refine lv_goto (tgt := 38) hx hb d_EM_greatest_34 (by decide +kernel) ?_
        refine lv_istore_n hx hb d_EM_greatest_38 rfl hl (by decide) rfl (fun ls hl => ?_)
        have hl : lv_has ls 3 [(1, .int v3), (0, .ref (xe_om E)), (2, .int x2)] := hl
        refine lv_iinc (k := 2) (v := (x2 + (1 : Int32))) hx hb d_EM_greatest_39 hl rfl (congrArg (fun y : Int32 => x2 + y) kn_i_1) (by decide) rfl (fun ls hl => ?_)
        have hl : lv_has ls 3 [(2, .int (x2 + (1 : Int32))), (1, .int v3), (0, .ref (xe_om E))] := hl
        refine lv_goto (tgt := 4) hx hb d_EM_greatest_42 (by decide +kernel) ?_
        exact hrec4 (x1 := v3) (x2 := (x2 + (1 : Int32))) X (lv_sub hl [2, 1, 0] rfl) h
theorem kw_EM_greatest_4 {r : Int32} (C : xx_C p m c b_EM_greatest 3 s args Rn_EM E) (hlk : meth.locks = false) (hr : meth.sig.returnType = (some .int)) (hin : meth.name = "greatest") (hg : xe_g E = true) : ∀ (n : Nat) {H : Heap} {locs : List Loc} {ls : Array Slot} {M : xm} {x1 : Int32} {x2 : Int32}, xx_S E K M s H locs → lv_has ls 3 [(0, .ref (xe_om E)), (1, .int x1), (2, .int x2)] → kf_EM_greatest_4 n M x1 x2 = some (r, M') → W p l e { frames := 0, cells := 0, slots := 0, locals := 0 } s m args below meth c H locs 0 0 (MQ below (xq_i E K M' r) args s 0 0 (xe_A E)) (F0 m 4 ls []) := by
  intro n
  induction n with
  | zero => intro H locs ls M x1 x2 X hl h; exact nomatch (show (none : Option (Int32 × xm)) = some _ from h)
  | succ n ih => intro H locs ls M x1 x2 X hl h; exact kwb_EM_greatest_4 C hlk hr hin hg ih X hl h
set_option maxHeartbeats 4000000 in
set_option maxRecDepth 100000 in
theorem kw_EM_greatest_0 {r : Int32} (C : xx_C p m c b_EM_greatest 3 s args Rn_EM E) (hlk : meth.locks = false) (hr : meth.sig.returnType = (some .int)) (hin : meth.name = "greatest") (hg : xe_g E = true) (X : xx_S E K M s H locs) (hl : lv_has ls 3 [(0, .ref (xe_om E))]) (h : kf_EM_greatest_0 M = some (r, M')) : W p l e { frames := 0, cells := 0, slots := 0, locals := 0 } s m args below meth c H locs 0 0 (MQ below (xq_i E K M' r) args s 0 0 (xe_A E)) (F0 m 0 ls []) := by
  have hx := C.1.1
  have hb := C.1.2.1
  unfold kf_EM_greatest_0 at h
  refine lv_iconst hx hb d_EM_greatest_0 kn_i_0 ?_
  refine lv_istore_n hx hb d_EM_greatest_1 rfl hl (by decide) rfl (fun ls hl => ?_)
  have hl : lv_has ls 3 [(1, .int (0 : Int32)), (0, .ref (xe_om E))] := hl
  refine lv_iconst hx hb d_EM_greatest_2 kn_i_0 ?_
  refine lv_istore_n hx hb d_EM_greatest_3 rfl hl (by decide) rfl (fun ls hl => ?_)
  have hl : lv_has ls 3 [(2, .int (0 : Int32)), (1, .int (0 : Int32)), (0, .ref (xe_om E))] := hl
  exact kw_EM_greatest_4 C hlk hr hin hg 1000 X (lv_sub hl [2, 1, 0] rfl) h
theorem kc_EM_greatest (l : Launch) (E : xe) (hg : xe_g E = true) {r : Int32} (h : kf_EM_greatest_0 M = some (r, M')) : Met l y_EM_greatest (Cond.code y_EM_greatest b_EM_greatest 3 (some .int) :: w_all) { frames := 0, cells := 0, slots := 0, locals := 0 } (va_Pc [.ref (xe_om E)] (fun U => xx_B E K M U)) (xq_i E K M' r) 0 0 (xe_A E) :=
  xr_met (by decide) (Nat.le_of_ble_eq_true rfl) fun p e s m below meth c ls C X hlk hr hin hl => kw_EM_greatest_0 C hlk hr hin hg X hl h
set_option maxHeartbeats 4000000 in
set_option maxRecDepth 100000 in
theorem kw_EM_find_0 {x1 : Int32} {r : Int32} (C : xx_C p m c b_EM_find 2 s args Rn_EM E) (hlk : meth.locks = false) (hr : meth.sig.returnType = (some .int)) (hin : meth.name = "find") (hg : xe_g E = true) (X : xx_S E K M s H locs) (hl : lv_has ls 2 [(0, .ref (xe_om E)), (1, .int x1)]) (h : kf_EM_find_0 M x1 = some (r, M')) : W p l e { frames := 1, cells := 0, slots := 0, locals := 22 } s m args below meth c H locs 0 0 (MQ below (xq_i E K M' r) args s 0 0 (xe_A E)) (F0 m 0 ls []) := by
  have hx := C.1.1
  have hb := C.1.2.1
  unfold kf_EM_find_0 at h
  refine lv_iload_n hx hb d_EM_find_0 rfl (lv_at hl 1 rfl) ?_
  replace h := xpb h
  obtain ⟨r2, M1, hv, h⟩ := h
  refine xr_ki (va_runS (As := [.int x1]) (rest := []) C.1 (kc_EM_isClient l E hg hv) (cwS 1 C.1.2.2.2.2 (xw_S m_580 m_581 m_521 m_582) rfl rfl rfl ky_EM_isClient ⟨(Nat.le_of_ble_eq_true rfl), (Nat.le_of_ble_eq_true rfl)⟩) (xr_pS C X) rfl rfl hl.1 rfl (lv_room (Nat.le_of_ble_eq_true rfl)) d_EM_find_1 ⟨(Nat.le_of_ble_eq_true rfl), (Nat.le_of_ble_eq_true rfl)⟩) X (fun H locs X => ?_)
  refine lv_if_eq (tgt := 15) hx hb d_EM_find_4 (by decide +kernel) (fun hc => ?_) (fun hc => ?_)
  · rw [if_pos hc] at h
    refine lv_iconst hx hb d_EM_find_15 kn_i_m1 ?_
    obtain ⟨rfl, rfl⟩ := Prod.mk.inj (Option.some.inj h)
    exact xr_iret C X hlk hr d_EM_find_16 rfl (Nat.le_of_ble_eq_true rfl) (Nat.le_of_ble_eq_true rfl)
  · rw [if_neg hc] at h
    refine lv_aload_n hx hb d_EM_find_7 rfl (lv_at hl 0 rfl) ?_
    replace h := xpb h
    obtain ⟨r4, M3, hv, h⟩ := h
    refine xr_ki (va_runV (As := []) (rest := []) C.1 (kc_EM_coordinatorsUp l E hg hv) (cwV 0 C.1.2.2.2.2 (xw_V m_583 m_584 m_585 m_521 m_586) rfl rfl rfl ky_EM_coordinatorsUp ⟨(Nat.le_of_ble_eq_true rfl), (Nat.le_of_ble_eq_true rfl)⟩) (xr_pV C X xc_EM.1 (xk_Xw (X.1.2.2.2.2.2 hg).1)) rfl rfl hl.1 rfl (lv_room (Nat.le_of_ble_eq_true rfl)) d_EM_find_8 ⟨(Nat.le_of_ble_eq_true rfl), (Nat.le_of_ble_eq_true rfl)⟩) X (fun H locs X => ?_)
    refine lv_iconst hx hb d_EM_find_11 kn_i_2 ?_
    refine lv_icmp_ge (tgt := 17) hx hb d_EM_find_12 (by decide +kernel) (fun hc => ?_) (fun hc => ?_)
    · rw [if_pos hc] at h
      refine lv_aload_n hx hb d_EM_find_17 rfl (lv_at hl 0 rfl) ?_
      refine xr_mga C X hg xc_EM 38 (by decide) (by decide) (by decide) m_500 d_EM_find_18 ?_
      refine lv_iload_n hx hb d_EM_find_21 rfl (lv_at hl 1 rfl) ?_
      refine lv_aload_n hx hb d_EM_find_22 rfl (lv_at hl 0 rfl) ?_
      replace h := xpb h
      obtain ⟨r6, M5, hv, h⟩ := h
      refine xr_ki (va_runV (As := []) (rest := [.int x1, .ref (xe_ad E 38)]) C.1 (kc_EM_greatest l E hg hv) (cwV 0 C.1.2.2.2.2 (xw_V m_587 m_588 m_589 m_521 m_590) rfl rfl rfl ky_EM_greatest ⟨(Nat.le_of_ble_eq_true rfl), (Nat.le_of_ble_eq_true rfl)⟩) (xr_pV C X xc_EM.1 (xk_Xw (X.1.2.2.2.2.2 hg).1)) rfl rfl hl.1 rfl (lv_room (Nat.le_of_ble_eq_true rfl)) d_EM_find_23 ⟨(Nat.le_of_ble_eq_true rfl), (Nat.le_of_ble_eq_true rfl)⟩) X (fun H locs X => ?_)
      replace h := xb h
      obtain ⟨M7, hv, h⟩ := h
      refine xr_mst C X hg 38 (by decide) (by decide) rfl d_EM_find_26 hv (fun H locs X => ?_)
      refine lv_aload_n hx hb d_EM_find_27 rfl (lv_at hl 0 rfl) ?_
      refine xr_mga C X hg xc_EM 38 (by decide) (by decide) (by decide) m_500 d_EM_find_28 ?_
      refine lv_iload_n hx hb d_EM_find_31 rfl (lv_at hl 1 rfl) ?_
      replace h := xb h
      obtain ⟨v8, hv, h⟩ := h
      refine xr_mld C X hg 38 (by decide) (by decide) rfl d_EM_find_32 hv ?_
      obtain ⟨rfl, rfl⟩ := Prod.mk.inj (Option.some.inj h)
      exact xr_iret C X hlk hr d_EM_find_33 rfl (Nat.le_of_ble_eq_true rfl) (Nat.le_of_ble_eq_true rfl)
    · rw [if_neg hc] at h
      refine lv_iconst hx hb d_EM_find_15 kn_i_m1 ?_
      obtain ⟨rfl, rfl⟩ := Prod.mk.inj (Option.some.inj h)
      exact xr_iret C X hlk hr d_EM_find_16 rfl (Nat.le_of_ble_eq_true rfl) (Nat.le_of_ble_eq_true rfl)
theorem kc_EM_find (l : Launch) (E : xe) (hg : xe_g E = true) {x1 : Int32} {r : Int32} (h : kf_EM_find_0 M x1 = some (r, M')) : Met l y_EM_find (Cond.code y_EM_find b_EM_find 2 (some .int) :: w_all) { frames := 1, cells := 0, slots := 0, locals := 22 } (va_Pc [.ref (xe_om E), .int x1] (fun U => xx_B E K M U)) (xq_i E K M' r) 0 0 (xe_A E) :=
  xr_met (by decide) (Nat.le_of_ble_eq_true rfl) fun p e s m below meth c ls C X hlk hr hin hl => kw_EM_find_0 C hlk hr hin hg X hl h
set_option maxHeartbeats 4000000 in
set_option maxRecDepth 100000 in
theorem kw_EM_begin_106 {r : Int32} (C : xx_C p m c b_EM_begin 2 s args Rn_EM E) (hlk : meth.locks = false) (hr : meth.sig.returnType = (some .boolean)) (hin : meth.name = "begin") (hg : xe_g E = true) (X : xx_S E K M s H locs) (hl : lv_has ls 2 []) (h : kf_EM_begin_106 M = some (r, M')) : W p l e { frames := 1, cells := 0, slots := 0, locals := 26 } s m args below meth c H locs 0 0 (MQ below (xq_i E K M' r) args s 0 0 (xe_A E)) (F0 m 106 ls []) := by
  have hx := C.1.1
  have hb := C.1.2.1
  unfold kf_EM_begin_106 at h
  refine lv_iconst hx hb d_EM_begin_106 kn_i_1 ?_
  obtain ⟨rfl, rfl⟩ := Prod.mk.inj (Option.some.inj h)
  exact xr_zret C X hlk hr d_EM_begin_107 rfl (Nat.le_of_ble_eq_true rfl) (Nat.le_of_ble_eq_true rfl)
set_option maxHeartbeats 4000000 in
set_option maxRecDepth 100000 in
theorem kw_EM_begin_65 {x1 : Int32} {r : Int32} (C : xx_C p m c b_EM_begin 2 s args Rn_EM E) (hlk : meth.locks = false) (hr : meth.sig.returnType = (some .boolean)) (hin : meth.name = "begin") (hg : xe_g E = true) (X : xx_S E K M s H locs) (hl : lv_has ls 2 [(0, .ref (xe_om E)), (1, .int x1)]) (h : kf_EM_begin_65 M x1 = some (r, M')) : W p l e { frames := 1, cells := 0, slots := 0, locals := 26 } s m args below meth c H locs 0 0 (MQ below (xq_i E K M' r) args s 0 0 (xe_A E)) (F0 m 65 ls []) := by
  have hx := C.1.1
  have hb := C.1.2.1
  unfold kf_EM_begin_65 at h
  refine lv_aload_n hx hb d_EM_begin_65 rfl (lv_at hl 0 rfl) ?_
  refine xr_mga C X hg xc_EM 43 (by decide) (by decide) (by decide) m_505 d_EM_begin_66 ?_
  refine lv_iload_n hx hb d_EM_begin_69 rfl (lv_at hl 1 rfl) ?_
  refine lv_iconst hx hb d_EM_begin_70 kn_i_0 ?_
  replace h := xb h
  obtain ⟨M1, hv, h⟩ := h
  refine xr_mst C X hg 43 (by decide) (by decide) rfl d_EM_begin_71 hv (fun H locs X => ?_)
  refine lv_aload_n hx hb d_EM_begin_72 rfl (lv_at hl 0 rfl) ?_
  refine xr_mga C X hg xc_EM 44 (by decide) (by decide) (by decide) m_506 d_EM_begin_73 ?_
  refine lv_iload_n hx hb d_EM_begin_76 rfl (lv_at hl 1 rfl) ?_
  refine lv_iconst hx hb d_EM_begin_77 kn_i_0 ?_
  replace h := xb h
  obtain ⟨M2, hv, h⟩ := h
  refine xr_mst C X hg 44 (by decide) (by decide) rfl d_EM_begin_78 hv (fun H locs X => ?_)
  refine lv_aload_n hx hb d_EM_begin_79 rfl (lv_at hl 0 rfl) ?_
  refine xr_mga C X hg xc_EM 46 (by decide) (by decide) (by decide) m_508 d_EM_begin_80 ?_
  refine lv_iload_n hx hb d_EM_begin_83 rfl (lv_at hl 1 rfl) ?_
  refine lv_iconst hx hb d_EM_begin_84 kn_i_0 ?_
  replace h := xb h
  obtain ⟨M3, hv, h⟩ := h
  refine xr_mst C X hg 46 (by decide) (by decide) rfl d_EM_begin_85 hv (fun H locs X => ?_)
  refine lv_aload_n hx hb d_EM_begin_86 rfl (lv_at hl 0 rfl) ?_
  refine lv_iconst hx hb d_EM_begin_87 kn_i_1 ?_
  refine lv_iload_n hx hb d_EM_begin_88 rfl (lv_at hl 1 rfl) ?_
  refine lv_aload_n hx hb d_EM_begin_89 rfl (lv_at hl 0 rfl) ?_
  refine xr_mga C X hg xc_EM 38 (by decide) (by decide) (by decide) m_500 d_EM_begin_90 ?_
  refine lv_iload_n hx hb d_EM_begin_93 rfl (lv_at hl 1 rfl) ?_
  replace h := xb h
  obtain ⟨v4, hv, h⟩ := h
  refine xr_mld C X hg 38 (by decide) (by decide) rfl d_EM_begin_94 hv ?_
  refine lv_iconst hx hb d_EM_begin_95 kn_i_0 ?_
  refine lv_aload_n hx hb d_EM_begin_96 rfl (lv_at hl 0 rfl) ?_
  refine xr_mga C X hg xc_EM 39 (by decide) (by decide) (by decide) m_501 d_EM_begin_97 ?_
  refine lv_iload_n hx hb d_EM_begin_100 rfl (lv_at hl 1 rfl) ?_
  replace h := xb h
  obtain ⟨v5, hv, h⟩ := h
  refine xr_mld C X hg 39 (by decide) (by decide) rfl d_EM_begin_101 hv ?_
  replace h := xpb h
  obtain ⟨r7, M6, hv, h⟩ := h
  refine xr_ki (va_runV (As := [.int (1 : Int32), .int x1, .int v4, .int (0 : Int32), .int v5]) (rest := []) C.1 (kc_EM_send l E hg hv) (cwV 5 C.1.2.2.2.2 (xw_V m_528 m_529 m_530 m_521 m_531) rfl rfl rfl ky_EM_send ⟨(Nat.le_of_ble_eq_true rfl), (Nat.le_of_ble_eq_true rfl)⟩) (xr_pV C X xc_EM.1 (xk_Xw (X.1.2.2.2.2.2 hg).1)) rfl rfl hl.1 rfl (lv_room (Nat.le_of_ble_eq_true rfl)) d_EM_begin_102 ⟨(Nat.le_of_ble_eq_true rfl), (Nat.le_of_ble_eq_true rfl)⟩) X (fun H locs X => ?_)
  refine lv_pop hx hb d_EM_begin_105 rfl ?_
  exact kw_EM_begin_106 C hlk hr hin hg  X (lv_sub hl [] rfl) h
set_option maxHeartbeats 4000000 in
set_option maxRecDepth 100000 in
theorem kw_EM_begin_29 {x1 : Int32} {r : Int32} (C : xx_C p m c b_EM_begin 2 s args Rn_EM E) (hlk : meth.locks = false) (hr : meth.sig.returnType = (some .boolean)) (hin : meth.name = "begin") (hg : xe_g E = true) (X : xx_S E K M s H locs) (hl : lv_has ls 2 [(0, .ref (xe_om E)), (1, .int x1)]) (h : kf_EM_begin_29 M x1 = some (r, M')) : W p l e { frames := 1, cells := 0, slots := 0, locals := 26 } s m args below meth c H locs 0 0 (MQ below (xq_i E K M' r) args s 0 0 (xe_A E)) (F0 m 29 ls []) := by
  have hx := C.1.1
  have hb := C.1.2.1
  unfold kf_EM_begin_29 at h
  refine lv_aload_n hx hb d_EM_begin_29 rfl (lv_at hl 0 rfl) ?_
  refine xr_mga C X hg xc_EM 39 (by decide) (by decide) (by decide) m_501 d_EM_begin_30 ?_
  refine lv_iload_n hx hb d_EM_begin_33 rfl (lv_at hl 1 rfl) ?_
  refine lv_dup2_11 hx hb d_EM_begin_34 rfl rfl ?_
  replace h := xb h
  obtain ⟨v1, hv, h⟩ := h
  refine xr_mld C X hg 39 (by decide) (by decide) rfl d_EM_begin_35 hv ?_
  refine lv_iconst hx hb d_EM_begin_36 kn_i_1 ?_
  refine lv_iadd hx hb d_EM_begin_37 ?_
  replace h := xb h
  obtain ⟨M2, hv, h⟩ := h
  refine xr_mst C X hg 39 (by decide) (by decide) rfl d_EM_begin_38 hv (fun H locs X => ?_)
  refine lv_aload_n hx hb d_EM_begin_39 rfl (lv_at hl 0 rfl) ?_
  refine xr_mga C X hg xc_EM 42 (by decide) (by decide) (by decide) m_504 d_EM_begin_40 ?_
  refine lv_iload_n hx hb d_EM_begin_43 rfl (lv_at hl 1 rfl) ?_
  refine lv_aload_n hx hb d_EM_begin_44 rfl (lv_at hl 0 rfl) ?_
  refine xr_mga C X hg xc_EM 38 (by decide) (by decide) (by decide) m_500 d_EM_begin_45 ?_
  refine lv_iload_n hx hb d_EM_begin_48 rfl (lv_at hl 1 rfl) ?_
  replace h := xb h
  obtain ⟨v3, hv, h⟩ := h
  refine xr_mld C X hg 38 (by decide) (by decide) rfl d_EM_begin_49 hv ?_
  replace h := xb h
  obtain ⟨M4, hv, h⟩ := h
  refine xr_mst C X hg 42 (by decide) (by decide) rfl d_EM_begin_50 hv (fun H locs X => ?_)
  refine lv_aload_n hx hb d_EM_begin_51 rfl (lv_at hl 0 rfl) ?_
  refine xr_mga C X hg xc_EM 40 (by decide) (by decide) (by decide) m_502 d_EM_begin_52 ?_
  refine lv_iload_n hx hb d_EM_begin_55 rfl (lv_at hl 1 rfl) ?_
  refine lv_iconst hx hb d_EM_begin_56 kn_i_1 ?_
  replace h := xb h
  obtain ⟨M5, hv, h⟩ := h
  refine xr_mst C X hg 40 (by decide) (by decide) rfl d_EM_begin_57 hv (fun H locs X => ?_)
  refine lv_aload_n hx hb d_EM_begin_58 rfl (lv_at hl 0 rfl) ?_
  refine xr_mga C X hg xc_EM 41 (by decide) (by decide) (by decide) m_503 d_EM_begin_59 ?_
  refine lv_iload_n hx hb d_EM_begin_62 rfl (lv_at hl 1 rfl) ?_
  refine lv_iconst hx hb d_EM_begin_63 kn_i_0 ?_
  replace h := xb h
  obtain ⟨M6, hv, h⟩ := h
  refine xr_mst C X hg 41 (by decide) (by decide) rfl d_EM_begin_64 hv (fun H locs X => ?_)
  exact kw_EM_begin_65 (x1 := x1) C hlk hr hin hg  X (lv_sub hl [0, 1] rfl) h
set_option maxHeartbeats 4000000 in
set_option maxRecDepth 100000 in
theorem kw_EM_begin_0 {x1 : Int32} {r : Int32} (C : xx_C p m c b_EM_begin 2 s args Rn_EM E) (hlk : meth.locks = false) (hr : meth.sig.returnType = (some .boolean)) (hin : meth.name = "begin") (hg : xe_g E = true) (X : xx_S E K M s H locs) (hl : lv_has ls 2 [(0, .ref (xe_om E)), (1, .int x1)]) (h : kf_EM_begin_0 M x1 = some (r, M')) : W p l e { frames := 1, cells := 0, slots := 0, locals := 26 } s m args below meth c H locs 0 0 (MQ below (xq_i E K M' r) args s 0 0 (xe_A E)) (F0 m 0 ls []) := by
  have hx := C.1.1
  have hb := C.1.2.1
  unfold kf_EM_begin_0 at h
  refine lv_iload_n hx hb d_EM_begin_0 rfl (lv_at hl 1 rfl) ?_
  replace h := xpb h
  obtain ⟨r2, M1, hv, h⟩ := h
  refine xr_ki (va_runS (As := [.int x1]) (rest := []) C.1 (kc_EM_isClient l E hg hv) (cwS 1 C.1.2.2.2.2 (xw_S m_580 m_581 m_521 m_582) rfl rfl rfl ky_EM_isClient ⟨(Nat.le_of_ble_eq_true rfl), (Nat.le_of_ble_eq_true rfl)⟩) (xr_pS C X) rfl rfl hl.1 rfl (lv_room (Nat.le_of_ble_eq_true rfl)) d_EM_begin_1 ⟨(Nat.le_of_ble_eq_true rfl), (Nat.le_of_ble_eq_true rfl)⟩) X (fun H locs X => ?_)
  refine lv_if_eq (tgt := 27) hx hb d_EM_begin_4 (by decide +kernel) (fun hc => ?_) (fun hc => ?_)
  · rw [if_pos hc] at h
    refine lv_iconst hx hb d_EM_begin_27 kn_i_0 ?_
    obtain ⟨rfl, rfl⟩ := Prod.mk.inj (Option.some.inj h)
    exact xr_zret C X hlk hr d_EM_begin_28 rfl (Nat.le_of_ble_eq_true rfl) (Nat.le_of_ble_eq_true rfl)
  · rw [if_neg hc] at h
    refine lv_aload_n hx hb d_EM_begin_7 rfl (lv_at hl 0 rfl) ?_
    refine xr_mga C X hg xc_EM 40 (by decide) (by decide) (by decide) m_502 d_EM_begin_8 ?_
    refine lv_iload_n hx hb d_EM_begin_11 rfl (lv_at hl 1 rfl) ?_
    replace h := xb h
    obtain ⟨v3, hv, h⟩ := h
    refine xr_mld C X hg 40 (by decide) (by decide) rfl d_EM_begin_12 hv ?_
    refine lv_iconst hx hb d_EM_begin_13 kn_i_1 ?_
    refine lv_icmp_lt (tgt := 29) hx hb d_EM_begin_14 (by decide +kernel) (fun hc => ?_) (fun hc => ?_)
    · rw [if_pos hc] at h
      exact kw_EM_begin_29 (x1 := x1) C hlk hr hin hg  X (lv_sub hl [0, 1] rfl) h
    · rw [if_neg hc] at h
      refine lv_aload_n hx hb d_EM_begin_17 rfl (lv_at hl 0 rfl) ?_
      refine xr_mga C X hg xc_EM 40 (by decide) (by decide) (by decide) m_502 d_EM_begin_18 ?_
      refine lv_iload_n hx hb d_EM_begin_21 rfl (lv_at hl 1 rfl) ?_
      replace h := xb h
      obtain ⟨v4, hv, h⟩ := h
      refine xr_mld C X hg 40 (by decide) (by decide) rfl d_EM_begin_22 hv ?_
      refine lv_iconst hx hb d_EM_begin_23 kn_i_3 ?_
      refine lv_icmp_gt (tgt := 29) hx hb d_EM_begin_24 (by decide +kernel) (fun hc => ?_) (fun hc => ?_)
      · rw [if_pos hc] at h
        exact kw_EM_begin_29 (x1 := x1) C hlk hr hin hg  X (lv_sub hl [0, 1] rfl) h
      · rw [if_neg hc] at h
        refine lv_iconst hx hb d_EM_begin_27 kn_i_0 ?_
        obtain ⟨rfl, rfl⟩ := Prod.mk.inj (Option.some.inj h)
        exact xr_zret C X hlk hr d_EM_begin_28 rfl (Nat.le_of_ble_eq_true rfl) (Nat.le_of_ble_eq_true rfl)
theorem kc_EM_begin (l : Launch) (E : xe) (hg : xe_g E = true) {x1 : Int32} {r : Int32} (h : kf_EM_begin_0 M x1 = some (r, M')) : Met l y_EM_begin (Cond.code y_EM_begin b_EM_begin 2 (some .boolean) :: w_all) { frames := 1, cells := 0, slots := 0, locals := 26 } (va_Pc [.ref (xe_om E), .int x1] (fun U => xx_B E K M U)) (xq_i E K M' r) 0 0 (xe_A E) :=
  xr_met (by decide) (Nat.le_of_ble_eq_true rfl) fun p e s m below meth c ls C X hlk hr hin hl => kw_EM_begin_0 C hlk hr hin hg X hl h
set_option maxHeartbeats 4000000 in
set_option maxRecDepth 100000 in
theorem kw_EM_reading_51 {r : Int64} (C : xx_C p m c b_EM_reading 7 s args Rn_EM E) (hlk : meth.locks = false) (hr : meth.sig.returnType = (some .long)) (hin : meth.name = "reading") (hg : xe_g E = true) (X : xx_S E K M s H locs) (hl : lv_has ls 7 []) (h : kf_EM_reading_51 M = some (r, M')) : W p l e { frames := 0, cells := 0, slots := 0, locals := 0 } s m args below meth c H locs 0 0 (MQ below (xq_l E K M' r) args s 0 0 (xe_A E)) (F0 m 51 ls []) := by
  have hx := C.1.1
  have hb := C.1.2.1
  unfold kf_EM_reading_51 at h
  refine lv_ldc2 hx hb C.1.2.2.2.1 (C.1.2.2.2.2 _ m_591) d_EM_reading_51 ?_
  obtain ⟨rfl, rfl⟩ := Prod.mk.inj (Option.some.inj h)
  exact xr_lret C X hlk hr d_EM_reading_54 rfl (Nat.le_of_ble_eq_true rfl) (Nat.le_of_ble_eq_true rfl)
set_option maxHeartbeats 4000000 in
set_option maxRecDepth 100000 in
theorem kw_EM_reading_127 {rec83 : xm → Int32 → Int32 → Int32 → Int32 → Int32 → Option (Int64 × xm)} {x1 : Int32} {x3 : Int32} {x4 : Int32} {x6 : Int32} {r : Int64} (C : xx_C p m c b_EM_reading 7 s args Rn_EM E) (hlk : meth.locks = false) (hr : meth.sig.returnType = (some .long)) (hin : meth.name = "reading") (hg : xe_g E = true) (hrec83 : ∀ {H : Heap} {locs : List Loc} {ls : Array Slot} {M : xm} {x1 : Int32} {x3 : Int32} {x4 : Int32} {x5 : Int32} {x6 : Int32}, xx_S E K M s H locs → lv_has ls 7 [(0, .ref (xe_om E)), (1, .int x1), (3, .int x3), (4, .int x4), (5, .int x5), (6, .int x6)] → rec83 M x1 x3 x4 x5 x6 = some (r, M') → W p l e { frames := 0, cells := 0, slots := 0, locals := 0 } s m args below meth c H locs 0 0 (MQ below (xq_l E K M' r) args s 0 0 (xe_A E)) (F0 m 83 ls [])) (X : xx_S E K M s H locs) (hl : lv_has ls 7 [(0, .ref (xe_om E)), (1, .int x1), (3, .int x3), (4, .int x4), (6, .int x6)]) (h : kf_EM_reading_127 rec83 M x1 x3 x4 x6 = some (r, M')) : W p l e { frames := 0, cells := 0, slots := 0, locals := 0 } s m args below meth c H locs 0 0 (MQ below (xq_l E K M' r) args s 0 0 (xe_A E)) (F0 m 127 ls []) := by
  have hx := C.1.1
  have hb := C.1.2.1
  unfold kf_EM_reading_127 at h
  refine lv_aload_n hx hb d_EM_reading_127 rfl (lv_at hl 0 rfl) ?_
  refine xr_mga C X hg xc_EM 16 (by decide) (by decide) (by decide) m_478 d_EM_reading_128 ?_
  refine lv_bipush hx hb d_EM_reading_131 kn_b_8 ?_
  refine lv_iload hx hb d_EM_reading_133 (lv_at hl 4 rfl) ?_
  refine lv_imul hx hb d_EM_reading_135 ?_
  refine lv_iload_n hx hb d_EM_reading_136 rfl (lv_at hl 1 rfl) ?_
  refine lv_iadd hx hb d_EM_reading_137 ?_
  replace h := xb h
  obtain ⟨v1, hv, h⟩ := h
  refine xr_mld C X hg 16 (by decide) (by decide) rfl d_EM_reading_138 hv ?_
  refine lv_istore hx hb d_EM_reading_139 hl (by decide) rfl (fun ls hl => ?_)
  have hl : lv_has ls 7 [(5, .int v1), (0, .ref (xe_om E)), (1, .int x1), (3, .int x3), (4, .int x4), (6, .int x6)] := hl
  refine lv_iinc (k := 5) (v := (x6 + (1 : Int32))) hx hb d_EM_reading_141 hl rfl (congrArg (fun y : Int32 => x6 + y) kn_i_1) (by decide) rfl (fun ls hl => ?_)
  have hl : lv_has ls 7 [(6, .int (x6 + (1 : Int32))), (5, .int v1), (0, .ref (xe_om E)), (1, .int x1), (3, .int x3), (4, .int x4)] := hl
  refine lv_goto (tgt := 83) hx hb d_EM_reading_144 (by decide +kernel) ?_
  exact hrec83 (x1 := x1) (x3 := x3) (x4 := x4) (x5 := v1) (x6 := (x6 + (1 : Int32))) X (lv_sub hl [2, 3, 4, 5, 1, 0] rfl) h
set_option maxHeartbeats 4000000 in
set_option maxRecDepth 100000 in
theorem kwb_EM_reading_83 {rec83 : xm → Int32 → Int32 → Int32 → Int32 → Int32 → Option (Int64 × xm)} {x1 : Int32} {x3 : Int32} {x4 : Int32} {x5 : Int32} {x6 : Int32} {r : Int64} (C : xx_C p m c b_EM_reading 7 s args Rn_EM E) (hlk : meth.locks = false) (hr : meth.sig.returnType = (some .long)) (hin : meth.name = "reading") (hg : xe_g E = true) (hrec83 : ∀ {H : Heap} {locs : List Loc} {ls : Array Slot} {M : xm} {x1 : Int32} {x3 : Int32} {x4 : Int32} {x5 : Int32} {x6 : Int32}, xx_S E K M s H locs → lv_has ls 7 [(0, .ref (xe_om E)), (1, .int x1), (3, .int x3), (4, .int x4), (5, .int x5), (6, .int x6)] → rec83 M x1 x3 x4 x5 x6 = some (r, M') → W p l e { frames := 0, cells := 0, slots := 0, locals := 0 } s m args below meth c H locs 0 0 (MQ below (xq_l E K M' r) args s 0 0 (xe_A E)) (F0 m 83 ls [])) (X : xx_S E K M s H locs) (hl : lv_has ls 7 [(0, .ref (xe_om E)), (1, .int x1), (3, .int x3), (4, .int x4), (5, .int x5), (6, .int x6)]) (h : kb_EM_reading_83 rec83 M x1 x3 x4 x5 x6 = some (r, M')) : W p l e { frames := 0, cells := 0, slots := 0, locals := 0 } s m args below meth c H locs 0 0 (MQ below (xq_l E K M' r) args s 0 0 (xe_A E)) (F0 m 83 ls []) := by
  have hx := C.1.1
  have hb := C.1.2.1
  unfold kb_EM_reading_83 at h
  refine lv_iload hx hb d_EM_reading_83 (lv_at hl 5 rfl) ?_
  refine lv_sipush hx hb d_EM_reading_85 kn_s_128 ?_
  refine lv_iload_n hx hb d_EM_reading_88 rfl (lv_at hl 2 rfl) ?_
  refine lv_imul hx hb d_EM_reading_89 ?_
  refine lv_aload_n hx hb d_EM_reading_90 rfl (lv_at hl 0 rfl) ?_
  refine xr_mga C X hg xc_EM 13 (by decide) (by decide) (by decide) m_475 d_EM_reading_91 ?_
  refine lv_iload_n hx hb d_EM_reading_94 rfl (lv_at hl 2 rfl) ?_
  replace h := xb h
  obtain ⟨v1, hv, h⟩ := h
  refine xr_mld C X hg 13 (by decide) (by decide) rfl d_EM_reading_95 hv ?_
  refine lv_iadd hx hb d_EM_reading_96 ?_
  refine lv_icmp_ge (tgt := 147) hx hb d_EM_reading_97 (by decide +kernel) (fun hc => ?_) (fun hc => ?_)
  · rw [if_pos hc] at h
    refine lv_iload hx hb d_EM_reading_147 (lv_at hl 4 rfl) ?_
    refine lv_i2l hx hb d_EM_reading_149 rfl ?_
    obtain ⟨rfl, rfl⟩ := Prod.mk.inj (Option.some.inj h)
    exact xr_lret C X hlk hr d_EM_reading_150 rfl (Nat.le_of_ble_eq_true rfl) (Nat.le_of_ble_eq_true rfl)
  · rw [if_neg hc] at h
    refine lv_aload_n hx hb d_EM_reading_100 rfl (lv_at hl 0 rfl) ?_
    refine xr_mga C X hg xc_EM 14 (by decide) (by decide) (by decide) m_476 d_EM_reading_101 ?_
    refine lv_iload hx hb d_EM_reading_104 (lv_at hl 5 rfl) ?_
    replace h := xb h
    obtain ⟨v2, hv, h⟩ := h
    refine xr_mld C X hg 14 (by decide) (by decide) rfl d_EM_reading_106 hv ?_
    refine lv_iload hx hb d_EM_reading_107 (lv_at hl 3 rfl) ?_
    refine lv_icmp_gt (tgt := 141) hx hb d_EM_reading_109 (by decide +kernel) (fun hc => ?_) (fun hc => ?_)
    · rw [if_pos hc] at h
      refine lv_iinc (k := 5) (v := (x6 + (1 : Int32))) hx hb d_EM_reading_141 hl rfl (congrArg (fun y : Int32 => x6 + y) kn_i_1) (by decide) rfl (fun ls hl => ?_)
      have hl : lv_has ls 7 [(6, .int (x6 + (1 : Int32))), (0, .ref (xe_om E)), (1, .int x1), (3, .int x3), (4, .int x4), (5, .int x5)] := hl
      refine lv_goto (tgt := 83) hx hb d_EM_reading_144 (by decide +kernel) ?_
      exact hrec83 (x1 := x1) (x3 := x3) (x4 := x4) (x5 := x5) (x6 := (x6 + (1 : Int32))) X (lv_sub hl [1, 2, 3, 4, 5, 0] rfl) h
    · rw [if_neg hc] at h
      refine lv_aload_n hx hb d_EM_reading_112 rfl (lv_at hl 0 rfl) ?_
      refine xr_mga C X hg xc_EM 15 (by decide) (by decide) (by decide) m_477 d_EM_reading_113 ?_
      refine lv_iload hx hb d_EM_reading_116 (lv_at hl 5 rfl) ?_
      replace h := xb h
      obtain ⟨v3, hv, h⟩ := h
      refine xr_mld C X hg 15 (by decide) (by decide) rfl d_EM_reading_118 hv ?_
      refine lv_iload_n hx hb d_EM_reading_119 rfl (lv_at hl 1 rfl) ?_
      refine lv_ishr hx hb d_EM_reading_120 ?_
      refine lv_iconst hx hb d_EM_reading_121 kn_i_1 ?_
      refine lv_iand hx hb d_EM_reading_122 ?_
      refine lv_iconst hx hb d_EM_reading_123 kn_i_1 ?_
      refine lv_icmp_ne (tgt := 141) hx hb d_EM_reading_124 (by decide +kernel) (fun hc => ?_) (fun hc => ?_)
      · rw [if_neg hc] at h
        refine lv_iinc (k := 5) (v := (x6 + (1 : Int32))) hx hb d_EM_reading_141 hl rfl (congrArg (fun y : Int32 => x6 + y) kn_i_1) (by decide) rfl (fun ls hl => ?_)
        have hl : lv_has ls 7 [(6, .int (x6 + (1 : Int32))), (0, .ref (xe_om E)), (1, .int x1), (3, .int x3), (4, .int x4), (5, .int x5)] := hl
        refine lv_goto (tgt := 83) hx hb d_EM_reading_144 (by decide +kernel) ?_
        exact hrec83 (x1 := x1) (x3 := x3) (x4 := x4) (x5 := x5) (x6 := (x6 + (1 : Int32))) X (lv_sub hl [1, 2, 3, 4, 5, 0] rfl) h
      · rw [if_pos hc] at h
        exact kw_EM_reading_127 (x1 := x1) (x3 := x3) (x4 := x4) (x6 := x6) C hlk hr hin hg hrec83  X (lv_sub hl [0, 1, 2, 3, 5] rfl) h
theorem kw_EM_reading_83 {r : Int64} (C : xx_C p m c b_EM_reading 7 s args Rn_EM E) (hlk : meth.locks = false) (hr : meth.sig.returnType = (some .long)) (hin : meth.name = "reading") (hg : xe_g E = true) : ∀ (n : Nat) {H : Heap} {locs : List Loc} {ls : Array Slot} {M : xm} {x1 : Int32} {x3 : Int32} {x4 : Int32} {x5 : Int32} {x6 : Int32}, xx_S E K M s H locs → lv_has ls 7 [(0, .ref (xe_om E)), (1, .int x1), (3, .int x3), (4, .int x4), (5, .int x5), (6, .int x6)] → kf_EM_reading_83 n M x1 x3 x4 x5 x6 = some (r, M') → W p l e { frames := 0, cells := 0, slots := 0, locals := 0 } s m args below meth c H locs 0 0 (MQ below (xq_l E K M' r) args s 0 0 (xe_A E)) (F0 m 83 ls []) := by
  intro n
  induction n with
  | zero => intro H locs ls M x1 x3 x4 x5 x6 X hl h; exact nomatch (show (none : Option (Int64 × xm)) = some _ from h)
  | succ n ih => intro H locs ls M x1 x3 x4 x5 x6 X hl h; exact kwb_EM_reading_83 C hlk hr hin hg ih X hl h
set_option maxHeartbeats 4000000 in
set_option maxRecDepth 100000 in
theorem kw_EM_reading_0 {x1 : Int32} {x2 : Int32} {r : Int64} (C : xx_C p m c b_EM_reading 7 s args Rn_EM E) (hlk : meth.locks = false) (hr : meth.sig.returnType = (some .long)) (hin : meth.name = "reading") (hg : xe_g E = true) (X : xx_S E K M s H locs) (hl : lv_has ls 7 [(0, .ref (xe_om E)), (1, .int x1), (2, .int x2)]) (h : kf_EM_reading_0 M x1 x2 = some (r, M')) : W p l e { frames := 0, cells := 0, slots := 0, locals := 0 } s m args below meth c H locs 0 0 (MQ below (xq_l E K M' r) args s 0 0 (xe_A E)) (F0 m 0 ls []) := by
  have hx := C.1.1
  have hb := C.1.2.1
  unfold kf_EM_reading_0 at h
  refine lv_iload_n hx hb d_EM_reading_0 rfl (lv_at hl 1 rfl) ?_
  refine lv_iconst hx hb d_EM_reading_1 kn_i_4 ?_
  refine lv_idiv hx hb d_EM_reading_2 (by decide +kernel) ?_
  refine lv_istore_n hx hb d_EM_reading_3 rfl hl (by decide) rfl (fun ls hl => ?_)
  have hl : lv_has ls 7 [(3, .int (x1 / (4 : Int32))), (0, .ref (xe_om E)), (1, .int x1), (2, .int x2)] := hl
  refine lv_aload_n hx hb d_EM_reading_4 rfl (lv_at hl 1 rfl) ?_
  refine xr_mga C X hg xc_EM 41 (by decide) (by decide) (by decide) m_503 d_EM_reading_5 ?_
  refine lv_iload_n hx hb d_EM_reading_8 rfl (lv_at hl 3 rfl) ?_
  replace h := xb h
  obtain ⟨v1, hv, h⟩ := h
  refine xr_mld C X hg 41 (by decide) (by decide) rfl d_EM_reading_9 hv ?_
  refine lv_istore hx hb d_EM_reading_10 hl (by decide) rfl (fun ls hl => ?_)
  have hl : lv_has ls 7 [(4, .int v1), (3, .int (x1 / (4 : Int32))), (0, .ref (xe_om E)), (1, .int x1), (2, .int x2)] := hl
  refine lv_aload_n hx hb d_EM_reading_12 rfl (lv_at hl 2 rfl) ?_
  refine xr_mga C X hg xc_EM 11 (by decide) (by decide) (by decide) m_473 d_EM_reading_13 ?_
  refine lv_iload_n hx hb d_EM_reading_16 rfl (lv_at hl 1 rfl) ?_
  replace h := xb h
  obtain ⟨v2, hv, h⟩ := h
  refine xr_mldz C X hg 11 (by decide) (by decide) rfl d_EM_reading_17 hv ?_
  refine lv_if_ne (tgt := 25) hx hb d_EM_reading_18 (by decide +kernel) (fun hc => ?_) (fun hc => ?_)
  · rw [if_neg hc] at h
    refine lv_aload_n hx hb d_EM_reading_25 rfl (lv_at hl 2 rfl) ?_
    refine xr_mga C X hg xc_EM 12 (by decide) (by decide) (by decide) m_474 d_EM_reading_26 ?_
    refine lv_iload_n hx hb d_EM_reading_29 rfl (lv_at hl 1 rfl) ?_
    replace h := xb h
    obtain ⟨v3, hv, h⟩ := h
    refine xr_mld C X hg 12 (by decide) (by decide) rfl d_EM_reading_30 hv ?_
    refine lv_iload hx hb d_EM_reading_31 (lv_at hl 0 rfl) ?_
    refine lv_icmp_lt (tgt := 51) hx hb d_EM_reading_33 (by decide +kernel) (fun hc => ?_) (fun hc => ?_)
    · rw [if_pos hc] at h
      exact kw_EM_reading_51 C hlk hr hin hg  X (lv_sub hl [] rfl) h
    · rw [if_neg hc] at h
      refine lv_aload_n hx hb d_EM_reading_36 rfl (lv_at hl 2 rfl) ?_
      refine xr_mga C X hg xc_EM 10 (by decide) (by decide) (by decide) m_472 d_EM_reading_37 ?_
      refine lv_iload_n hx hb d_EM_reading_40 rfl (lv_at hl 1 rfl) ?_
      replace h := xb h
      obtain ⟨v4, hv, h⟩ := h
      refine xr_mld C X hg 10 (by decide) (by decide) rfl d_EM_reading_41 hv ?_
      refine lv_aload_n hx hb d_EM_reading_42 rfl (lv_at hl 2 rfl) ?_
      refine xr_mga C X hg xc_EM 42 (by decide) (by decide) (by decide) m_504 d_EM_reading_43 ?_
      refine lv_iload_n hx hb d_EM_reading_46 rfl (lv_at hl 4 rfl) ?_
      replace h := xb h
      obtain ⟨v5, hv, h⟩ := h
      refine xr_mld C X hg 42 (by decide) (by decide) rfl d_EM_reading_47 hv ?_
      refine lv_icmp_ge (tgt := 55) hx hb d_EM_reading_48 (by decide +kernel) (fun hc => ?_) (fun hc => ?_)
      · rw [if_pos hc] at h
        refine lv_iload hx hb d_EM_reading_55 (lv_at hl 0 rfl) ?_
        refine lv_aload_n hx hb d_EM_reading_57 rfl (lv_at hl 2 rfl) ?_
        refine xr_mga C X hg xc_EM 12 (by decide) (by decide) (by decide) m_474 d_EM_reading_58 ?_
        refine lv_iload_n hx hb d_EM_reading_61 rfl (lv_at hl 1 rfl) ?_
        replace h := xb h
        obtain ⟨v6, hv, h⟩ := h
        refine xr_mld C X hg 12 (by decide) (by decide) rfl d_EM_reading_62 hv ?_
        refine lv_bipush hx hb d_EM_reading_63 kn_b_12 ?_
        refine lv_isub hx hb d_EM_reading_65 ?_
        refine lv_icmp_ge (tgt := 73) hx hb d_EM_reading_66 (by decide +kernel) (fun hc => ?_) (fun hc => ?_)
        · rw [if_pos hc] at h
          refine lv_iconst hx hb d_EM_reading_73 kn_i_0 ?_
          refine lv_istore hx hb d_EM_reading_74 hl (by decide) rfl (fun ls hl => ?_)
          have hl : lv_has ls 7 [(5, .int (0 : Int32)), (4, .int v1), (3, .int (x1 / (4 : Int32))), (0, .ref (xe_om E)), (1, .int x1), (2, .int x2)] := hl
          refine lv_sipush hx hb d_EM_reading_76 kn_s_128 ?_
          refine lv_iload_n hx hb d_EM_reading_79 rfl (lv_at hl 2 rfl) ?_
          refine lv_imul hx hb d_EM_reading_80 ?_
          refine lv_istore hx hb d_EM_reading_81 hl (by decide) rfl (fun ls hl => ?_)
          have hl : lv_has ls 7 [(6, .int ((128 : Int32) * (x1 / (4 : Int32)))), (5, .int (0 : Int32)), (4, .int v1), (3, .int (x1 / (4 : Int32))), (0, .ref (xe_om E)), (1, .int x1), (2, .int x2)] := hl
          exact kw_EM_reading_83 C hlk hr hin hg 1000 X (lv_sub hl [4, 5, 3, 2, 1, 0] rfl) h
        · rw [if_neg hc] at h
          refine lv_ldc2 hx hb C.1.2.2.2.1 (C.1.2.2.2.2 _ m_592) d_EM_reading_69 ?_
          obtain ⟨rfl, rfl⟩ := Prod.mk.inj (Option.some.inj h)
          exact xr_lret C X hlk hr d_EM_reading_72 rfl (Nat.le_of_ble_eq_true rfl) (Nat.le_of_ble_eq_true rfl)
      · rw [if_neg hc] at h
        exact kw_EM_reading_51 C hlk hr hin hg  X (lv_sub hl [] rfl) h
  · rw [if_pos hc] at h
    refine lv_ldc2 hx hb C.1.2.2.2.1 (C.1.2.2.2.2 _ m_593) d_EM_reading_21 ?_
    obtain ⟨rfl, rfl⟩ := Prod.mk.inj (Option.some.inj h)
    exact xr_lret C X hlk hr d_EM_reading_24 rfl (Nat.le_of_ble_eq_true rfl) (Nat.le_of_ble_eq_true rfl)
theorem kc_EM_reading (l : Launch) (E : xe) (hg : xe_g E = true) {x1 : Int32} {x2 : Int32} {r : Int64} (h : kf_EM_reading_0 M x1 x2 = some (r, M')) : Met l y_EM_reading (Cond.code y_EM_reading b_EM_reading 7 (some .long) :: w_all) { frames := 0, cells := 0, slots := 0, locals := 0 } (va_Pc [.ref (xe_om E), .int x1, .int x2] (fun U => xx_B E K M U)) (xq_l E K M' r) 0 0 (xe_A E) :=
  xr_met (by decide) (Nat.le_of_ble_eq_true rfl) fun p e s m below meth c ls C X hlk hr hin hl => kw_EM_reading_0 C hlk hr hin hg X hl h
end KW17
