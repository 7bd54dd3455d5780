/-! EpochStoreModel.wrote(II)Z -/
def kf_EM_wrote_0 (M : xm) (x1 : Int32) (x2 : Int32) : Option (Int32 × xm) := (xMi M 44 x1).bind fun v1 => if ((v1 >>> (x2 &&& 31)) &&& (1 : Int32)) = (1 : Int32) then (some ((1 : Int32), M)) else some ((0 : Int32), M)
/-! EpochStoreModel.read(II)J -/
def kf_EM_read_84 (M : xm) (x3 : Int64) : Option (Int64 × xm) := some (x3, M)
def kf_EM_read_44 (M : xm) (x1 : Int32) (x2 : Int32) : Option (Int64 × xm) := xp (kf_EM_reading_0 M x2 x1) fun r2 M1 => if 0 ≤ (lg_cmp r2 (1099511627776 : Int64)) then ((xMi M1 43 x1).bind fun v3 => (xMt M1 43 x1 v3).bind fun M4 => kf_EM_read_84 M4 r2) else (xMi M1 43 x1).bind fun v5 => (xMt M1 43 x1 (v5 ||| ((1 : Int32) <<< (x2 &&& 31)))).bind fun M6 => kf_EM_read_84 M6 r2
def kf_EM_read_0 (M : xm) (x1 : Int32) (x2 : Int32) : Option (Int64 × xm) := xp (kf_EM_isOpen_0 M x1) fun r2 M1 => if r2 = 0 then (some ((-1 : Int64), M1)) else if x2 < 0 then (some ((-1 : Int64), M1)) else if x2 ≤ (7 : Int32) then (xp (kf_EM_wrote_0 M1 x1 x2) fun r4 M3 => if r4 = 0 then (kf_EM_read_44 M3 x1 x2) else (xMi M3 45 (((8 : Int32) * x1) + x2)).bind fun v5 => some ((Int32.toInt64 v5), M3)) else some ((-1 : Int64), M1)
/-! EpochStoreModel.range(III)J -/
def kf_EM_range_105 (rec36 : xm → Int32 → Int32 → Int64 → Int32 → Int32 → Option (Int64 × xm)) (M : xm) (x1 : Int32) (x3 : Int32) (x6 : Int32) (x7 : Int32) (s0 : Int64) : Option (Int64 × xm) := xp (kf_EM_wrote_0 M x1 x7) fun r2 M1 => if r2 = 0 then (rec36 M1 x1 x3 s0 (x6 ||| ((1 : Int32) <<< (x7 &&& 31))) (x7 + (1 : Int32))) else rec36 M1 x1 x3 s0 x6 (x7 + (1 : Int32))
def kf_EM_range_75 (rec36 : xm → Int32 → Int32 → Int64 → Int32 → Int32 → Option (Int64 × xm)) (M : xm) (x1 : Int32) (x3 : Int32) (x4 : Int64) (x6 : Int32) (x7 : Int32) (s0 : Int64) : Option (Int64 × xm) := if (lg_cmp s0 (1099511627776 : Int64)) < 0 then (if (lg_cmp s0 (0 : Int64)) = 0 then (kf_EM_range_105 rec36 M x1 x3 x6 x7 x4) else kf_EM_range_105 rec36 M x1 x3 x6 x7 (x4 + (1 : Int64))) else some (s0, M)
def kf_EM_range_152 (M : xm) (x4 : Int64) : Option (Int64 × xm) := some (x4, M)
def kb_EM_range_36 (rec36 : xm → Int32 → Int32 → Int64 → Int32 → Int32 → Option (Int64 × xm)) (M : xm) (x1 : Int32) (x3 : Int32) (x4 : Int64) (x6 : Int32) (x7 : Int32) : Option (Int64 × xm) := if x3 < x7 then ((xMi M 43 x1).bind fun v1 => (xMt M 43 x1 (v1 ||| x6)).bind fun M2 => kf_EM_range_152 M2 x4) else xp (kf_EM_wrote_0 M x1 x7) fun r4 M3 => if r4 = 0 then (xp (kf_EM_reading_0 M3 x7 x1) fun r6 M5 => kf_EM_range_75 rec36 M5 x1 x3 x4 x6 x7 r6) else (xMi M3 45 (((8 : Int32) * x1) + x7)).bind fun v7 => kf_EM_range_75 rec36 M3 x1 x3 x4 x6 x7 (Int32.toInt64 v7)
def kf_EM_range_36 : Nat → xm → Int32 → Int32 → Int64 → Int32 → Int32 → Option (Int64 × xm)
  | 0 => fun _ _ _ _ _ _ => none
  | n + 1 => kb_EM_range_36 (kf_EM_range_36 n)
def kf_EM_range_0 (M : xm) (x1 : Int32) (x2 : Int32) (x3 : Int32) : Option (Int64 × xm) := xp (kf_EM_isOpen_0 M x1) fun r2 M1 => if r2 = 0 then (some ((-1 : Int64), M1)) else if x2 < 0 then (some ((-1 : Int64), M1)) else if (7 : Int32) < x3 then (some ((-1 : Int64), M1)) else if x2 ≤ x3 then (kf_EM_range_36 1000 M1 x1 x3 (0 : Int64) (0 : Int32) x2) else some ((-1 : Int64), M1)
/-! EpochStoreModel.write(III)Z -/
def kf_EM_write_48 (M : xm) : Option (Int32 × xm) := some ((1 : Int32), M)
def kf_EM_write_0 (M : xm) (x1 : Int32) (x2 : Int32) (x3 : Int32) : Option (Int32 × xm) := xp (kf_EM_isOpen_0 M x1) fun r2 M1 => if r2 = 0 then (some ((0 : Int32), M1)) else if x2 < 0 then (some ((0 : Int32), M1)) else if x2 ≤ (7 : Int32) then ((xMi M1 44 x1).bind fun v3 => (xMt M1 44 x1 (v3 ||| ((1 : Int32) <<< (x2 &&& 31)))).bind fun M4 => (xMt M4 45 (((8 : Int32) * x1) + x2) x3).bind fun M5 => kf_EM_write_48 M5) else some ((0 : Int32), M1)
/-! EpochStoreModel.commit(I)Z -/
def kb_EM_commit_86 (rec86 : xm → Int32 → Int32 → Int32 → Option (Int32 × xm)) (M : xm) (x1 : Int32) (x2 : Int32) (x3 : Int32) : Option (Int32 × xm) := if (8 : Int32) ≤ x3 then (some ((1 : Int32), M)) else (xMi M 45 (((8 : Int32) * x1) + x3)).bind fun v1 => (xMt M 55 (((8 : Int32) * x2) + x3) v1).bind fun M2 => rec86 M2 x1 x2 (x3 + (1 : Int32))
def kf_EM_commit_86 : Nat → xm → Int32 → Int32 → Int32 → Option (Int32 × xm)
  | 0 => fun _ _ _ _ => none
  | n + 1 => kb_EM_commit_86 (kf_EM_commit_86 n)
def kf_EM_commit_60 (M : xm) (x1 : Int32) (x2 : Int32) : Option (Int32 × xm) := (xMi M 43 x1).bind fun v1 => (xMt M 53 x2 v1).bind fun M2 => (xMi M2 44 x1).bind fun v3 => (xMt M2 54 x2 v3).bind fun M4 => kf_EM_commit_86 1000 M4 x1 x2 (0 : Int32)
def kf_EM_commit_0 (M : xm) (x1 : Int32) : Option (Int32 × xm) := xp (kf_EM_isOpen_0 M x1) fun r2 M1 => if r2 = 0 then (some ((0 : Int32), M1)) else (xMi M1 44 x1).bind fun v3 => if v3 = 0 then ((xMt M1 40 x1 (4 : Int32)).bind fun M10 => some ((1 : Int32), M10)) else (xMt M1 40 x1 (3 : Int32)).bind fun M4 => (xMi M4 38 x1).bind fun v5 => (xMi M4 41 x1).bind fun v6 => (xMi M4 39 x1).bind fun v7 => xp (kf_EM_send_0 M4 (5 : Int32) x1 v5 v6 v7) fun r9 M8 => kf_EM_commit_60 M8 x1 r9
/-! EpochStoreModel.giveUp(I)Z -/
def kf_EM_giveUp_52 (M : xm) : Option (Int32 × xm) := some ((1 : Int32), M)
def kf_EM_giveUp_0 (M : xm) (x1 : Int32) : Option (Int32 × xm) := xp (kf_EM_isClient_0 M x1) fun r2 M1 => if r2 = 0 then (some ((0 : Int32), M1)) else (xMi M1 40 x1).bind fun v3 => if v3 < (1 : Int32) then (some ((0 : Int32), M1)) else (xMi M1 40 x1).bind fun v4 => if v4 ≤ (3 : Int32) then ((xMi M1 40 x1).bind fun v5 => if v5 = (3 : Int32) then ((xMt M1 40 x1 (7 : Int32)).bind fun M7 => kf_EM_giveUp_52 M7) else (xMt M1 40 x1 (8 : Int32)).bind fun M6 => kf_EM_giveUp_52 M6) else some ((0 : Int32), M1)
/-! EpochStoreModel.status(I)I -/
def kf_EM_status_0 (M : xm) (x1 : Int32) : Option (Int32 × xm) := xp (kf_EM_isClient_0 M x1) fun r2 M1 => if r2 = 0 then (some ((-1 : Int32), M1)) else (xMi M1 40 x1).bind fun v3 => (xMi M1 41 x1).bind fun v4 => (xMi M1 46 x1).bind fun v5 => some (((v3 + ((16 : Int32) * v4)) + ((65536 : Int32) * v5)), M1)
section KW18
variable {p : Program} {l : Launch} {e : Env} {s : State} {m : MethodId} {args : Array Value} {below : List Frame} {meth : Method} {c : Code} {H : Heap} {locs : List Loc} {ls : Array Slot} {E : xe} {K K' : xk} {M M' : xm}
set_option maxHeartbeats 4000000 in
set_option maxRecDepth 100000 in
theorem kw_EM_wrote_0 {x1 : Int32} {x2 : Int32} {r : Int32} (C : xx_C p m c b_EM_wrote 3 s args Rn_EM E) (hlk : meth.locks = false) (hr : meth.sig.returnType = (some .boolean)) (hin : meth.name = "wrote") (hg : xe_g E = true) (X : xx_S E K M s H locs) (hl : lv_has ls 3 [(0, .ref (xe_om E)), (1, .int x1), (2, .int x2)]) (h : kf_EM_wrote_0 M x1 x2 = some (r, M')) : W p l e { frames := 0, cells := 0, slots := 0, locals := 0 } s m args below meth c H locs 0 0 (MQ below (xq_i E K M' r) args s 0 0 (xe_A E)) (F0 m 0 ls []) := by
  have hx := C.1.1
  have hb := C.1.2.1
  unfold kf_EM_wrote_0 at h
  refine lv_aload_n hx hb d_EM_wrote_0 rfl (lv_at hl 0 rfl) ?_
  refine xr_mga C X hg xc_EM 44 (by decide) (by decide) (by decide) m_506 d_EM_wrote_1 ?_
  refine lv_iload_n hx hb d_EM_wrote_4 rfl (lv_at hl 1 rfl) ?_
  replace h := xb h
  obtain ⟨v1, hv, h⟩ := h
  refine xr_mld C X hg 44 (by decide) (by decide) rfl d_EM_wrote_5 hv ?_
  refine lv_iload_n hx hb d_EM_wrote_6 rfl (lv_at hl 2 rfl) ?_
  refine lv_ishr hx hb d_EM_wrote_7 ?_
  refine lv_iconst hx hb d_EM_wrote_8 kn_i_1 ?_
  refine lv_iand hx hb d_EM_wrote_9 ?_
  refine lv_iconst hx hb d_EM_wrote_10 kn_i_1 ?_
  refine lv_icmp_ne (tgt := 18) hx hb d_EM_wrote_11 (by decide +kernel) (fun hc => ?_) (fun hc => ?_)
  · rw [if_neg hc] at h
    refine lv_iconst hx hb d_EM_wrote_18 kn_i_0 ?_
    obtain ⟨rfl, rfl⟩ := Prod.mk.inj (Option.some.inj h)
    exact xr_zret C X hlk hr d_EM_wrote_19 rfl (Nat.le_of_ble_eq_true rfl) (Nat.le_of_ble_eq_true rfl)
  · rw [if_pos hc] at h
    refine lv_iconst hx hb d_EM_wrote_14 kn_i_1 ?_
    refine lv_goto (tgt := 19) hx hb d_EM_wrote_15 (by decide +kernel) ?_
    obtain ⟨rfl, rfl⟩ := Prod.mk.inj (Option.some.inj h)
    exact xr_zret C X hlk hr d_EM_wrote_19 rfl (Nat.le_of_ble_eq_true rfl) (Nat.le_of_ble_eq_true rfl)
theorem kc_EM_wrote (l : Launch) (E : xe) (hg : xe_g E = true) {x1 : Int32} {x2 : Int32} {r : Int32} (h : kf_EM_wrote_0 M x1 x2 = some (r, M')) : Met l y_EM_wrote (Cond.code y_EM_wrote b_EM_wrote 3 (some .boolean) :: w_all) { frames := 0, cells := 0, slots := 0, locals := 0 } (va_Pc [.ref (xe_om E), .int x1, .int x2] (fun U => xx_B E K M U)) (xq_i E K M' r) 0 0 (xe_A E) :=
  xr_met (by decide) (Nat.le_of_ble_eq_true rfl) fun p e s m below meth c ls C X hlk hr hin hl => kw_EM_wrote_0 C hlk hr hin hg X hl h
set_option maxHeartbeats 4000000 in
set_option maxRecDepth 100000 in
theorem kw_EM_read_84 {x3 : Int64} {r : Int64} (C : xx_C p m c b_EM_read 5 s args Rn_EM E) (hlk : meth.locks = false) (hr : meth.sig.returnType = (some .long)) (hin : meth.name = "read") (hg : xe_g E = true) (X : xx_S E K M s H locs) (hl : lv_has ls 5 [(3, .long x3)]) (h : kf_EM_read_84 M x3 = some (r, M')) : W p l e { frames := 2, cells := 0, slots := 0, locals := 41 } s m args below meth c H locs 0 0 (MQ below (xq_l E K M' r) args s 0 0 (xe_A E)) (F0 m 84 ls []) := by
  have hx := C.1.1
  have hb := C.1.2.1
  unfold kf_EM_read_84 at h
  refine lv_lload_n hx hb d_EM_read_84 rfl (lv_at hl 0 rfl) ?_
  obtain ⟨rfl, rfl⟩ := Prod.mk.inj (Option.some.inj h)
  exact xr_lret C X hlk hr d_EM_read_85 rfl (Nat.le_of_ble_eq_true rfl) (Nat.le_of_ble_eq_true rfl)
set_option maxHeartbeats 4000000 in
set_option maxRecDepth 100000 in
theorem kw_EM_read_44 {x1 : Int32} {x2 : Int32} {r : Int64} (C : xx_C p m c b_EM_read 5 s args Rn_EM E) (hlk : meth.locks = false) (hr : meth.sig.returnType = (some .long)) (hin : meth.name = "read") (hg : xe_g E = true) (X : xx_S E K M s H locs) (hl : lv_has ls 5 [(0, .ref (xe_om E)), (1, .int x1), (2, .int x2)]) (h : kf_EM_read_44 M x1 x2 = some (r, M')) : W p l e { frames := 2, cells := 0, slots := 0, locals := 41 } s m args below meth c H locs 0 0 (MQ below (xq_l E K M' r) args s 0 0 (xe_A E)) (F0 m 44 ls []) := by
  have hx := C.1.1
  have hb := C.1.2.1
  unfold kf_EM_read_44 at h
  refine lv_aload_n hx hb d_EM_read_44 rfl (lv_at hl 0 rfl) ?_
  refine lv_iload_n hx hb d_EM_read_45 rfl (lv_at hl 2 rfl) ?_
  refine lv_iload_n hx hb d_EM_read_46 rfl (lv_at hl 1 rfl) ?_
  replace h := xpb h
  obtain ⟨r2, M1, hv, h⟩ := h
  refine xr_kl (va_runV (As := [.int x2, .int x1]) (rest := []) C.1 (kc_EM_reading l E hg hv) (cwV 2 C.1.2.2.2.2 (xw_V m_603 m_604 m_605 m_521 m_606) rfl rfl rfl ky_EM_reading ⟨(Nat.le_of_ble_eq_true rfl), (Nat.le_of_ble_eq_true rfl)⟩) (xr_pV C X xc_EM.1 (xk_Xw (X.1.2.2.2.2.2 hg).1)) rfl rfl hl.1 rfl (lv_room (Nat.le_of_ble_eq_true rfl)) d_EM_read_47 ⟨(Nat.le_of_ble_eq_true rfl), (Nat.le_of_ble_eq_true rfl)⟩) X (fun H locs X => ?_)
  refine lv_lstore_n hx hb d_EM_read_50 rfl hl (by decide) rfl (fun ls hl => ?_)
  have hl : lv_has ls 5 [(3, .long r2), (0, .ref (xe_om E)), (1, .int x1), (2, .int x2)] := hl
  refine lv_aload_n hx hb d_EM_read_51 rfl (lv_at hl 1 rfl) ?_
  refine xr_mga C X hg xc_EM 43 (by decide) (by decide) (by decide) m_505 d_EM_read_52 ?_
  refine lv_iload_n hx hb d_EM_read_55 rfl (lv_at hl 2 rfl) ?_
  refine lv_lload_n hx hb d_EM_read_56 rfl (lv_at hl 0 rfl) ?_
  refine lv_ldc2 hx hb C.1.2.2.2.1 (C.1.2.2.2.2 _ m_593) d_EM_read_57 ?_
  refine W.lcmp hx hb d_EM_read_60 ?_
  refine lv_if_ge (tgt := 77) hx hb d_EM_read_61 (by decide +kernel) (fun hc => ?_) (fun hc => ?_)
  · rw [if_pos hc] at h
    refine lv_aload_n hx hb d_EM_read_77 rfl (lv_at hl 1 rfl) ?_
    refine xr_mga C X hg xc_EM 43 (by decide) (by decide) (by decide) m_505 d_EM_read_78 ?_
    refine lv_iload_n hx hb d_EM_read_81 rfl (lv_at hl 2 rfl) ?_
    replace h := xb h
    obtain ⟨v3, hv, h⟩ := h
    refine xr_mld C X hg 43 (by decide) (by decide) rfl d_EM_read_82 hv ?_
    replace h := xb h
    obtain ⟨M4, hv, h⟩ := h
    refine xr_mst C X hg 43 (by decide) (by decide) rfl d_EM_read_83 hv (fun H locs X => ?_)
    exact kw_EM_read_84 (x3 := r2) C hlk hr hin hg  X (lv_sub hl [0] rfl) h
  · rw [if_neg hc] at h
    refine lv_aload_n hx hb d_EM_read_64 rfl (lv_at hl 1 rfl) ?_
    refine xr_mga C X hg xc_EM 43 (by decide) (by decide) (by decide) m_505 d_EM_read_65 ?_
    refine lv_iload_n hx hb d_EM_read_68 rfl (lv_at hl 2 rfl) ?_
    replace h := xb h
    obtain ⟨v5, hv, h⟩ := h
    refine xr_mld C X hg 43 (by decide) (by decide) rfl d_EM_read_69 hv ?_
    refine lv_iconst hx hb d_EM_read_70 kn_i_1 ?_
    refine lv_iload_n hx hb d_EM_read_71 rfl (lv_at hl 3 rfl) ?_
    refine lv_ishl hx hb d_EM_read_72 ?_
    refine lv_ior hx hb d_EM_read_73 ?_
    refine lv_goto (tgt := 83) hx hb d_EM_read_74 (by decide +kernel) ?_
    replace h := xb h
    obtain ⟨M6, hv, h⟩ := h
    refine xr_mst C X hg 43 (by decide) (by decide) rfl d_EM_read_83 hv (fun H locs X => ?_)
    exact kw_EM_read_84 (x3 := r2) C hlk hr hin hg  X (lv_sub hl [0] rfl) h
set_option maxHeartbeats 4000000 in
set_option maxRecDepth 100000 in
theorem kw_EM_read_0 {x1 : Int32} {x2 : Int32} {r : Int64} (C : xx_C p m c b_EM_read 5 s args Rn_EM E) (hlk : meth.locks = false) (hr : meth.sig.returnType = (some .long)) (hin : meth.name = "read") (hg : xe_g E = true) (X : xx_S E K M s H locs) (hl : lv_has ls 5 [(0, .ref (xe_om E)), (1, .int x1), (2, .int x2)]) (h : kf_EM_read_0 M x1 x2 = some (r, M')) : W p l e { frames := 2, cells := 0, slots := 0, locals := 41 } s m args below meth c H locs 0 0 (MQ below (xq_l E K M' r) args s 0 0 (xe_A E)) (F0 m 0 ls []) := by
  have hx := C.1.1
  have hb := C.1.2.1
  unfold kf_EM_read_0 at h
  refine lv_aload_n hx hb d_EM_read_0 rfl (lv_at hl 0 rfl) ?_
  refine lv_iload_n hx hb d_EM_read_1 rfl (lv_at hl 1 rfl) ?_
  replace h := xpb h
  obtain ⟨r2, M1, hv, h⟩ := h
  refine xr_ki (va_runV (As := [.int x1]) (rest := []) C.1 (kc_EM_isOpen l E hg hv) (cwV 1 C.1.2.2.2.2 (xw_V m_594 m_595 m_596 m_521 m_597) rfl rfl rfl ky_EM_isOpen ⟨(Nat.le_of_ble_eq_true rfl), (Nat.le_of_ble_eq_true rfl)⟩) (xr_pV C X xc_EM.1 (xk_Xw (X.1.2.2.2.2.2 hg).1)) rfl rfl hl.1 rfl (lv_room (Nat.le_of_ble_eq_true rfl)) d_EM_read_2 ⟨(Nat.le_of_ble_eq_true rfl), (Nat.le_of_ble_eq_true rfl)⟩) X (fun H locs X => ?_)
  refine lv_if_eq (tgt := 18) hx hb d_EM_read_5 (by decide +kernel) (fun hc => ?_) (fun hc => ?_)
  · rw [if_pos hc] at h
    refine lv_ldc2 hx hb C.1.2.2.2.1 (C.1.2.2.2.2 _ m_598) d_EM_read_18 ?_
    obtain ⟨rfl, rfl⟩ := Prod.mk.inj (Option.some.inj h)
    exact xr_lret C X hlk hr d_EM_read_21 rfl (Nat.le_of_ble_eq_true rfl) (Nat.le_of_ble_eq_true rfl)
  · rw [if_neg hc] at h
    refine lv_iload_n hx hb d_EM_read_8 rfl (lv_at hl 2 rfl) ?_
    refine lv_if_lt (tgt := 18) hx hb d_EM_read_9 (by decide +kernel) (fun hc => ?_) (fun hc => ?_)
    · rw [if_pos hc] at h
      refine lv_ldc2 hx hb C.1.2.2.2.1 (C.1.2.2.2.2 _ m_598) d_EM_read_18 ?_
      obtain ⟨rfl, rfl⟩ := Prod.mk.inj (Option.some.inj h)
      exact xr_lret C X hlk hr d_EM_read_21 rfl (Nat.le_of_ble_eq_true rfl) (Nat.le_of_ble_eq_true rfl)
    · rw [if_neg hc] at h
      refine lv_iload_n hx hb d_EM_read_12 rfl (lv_at hl 2 rfl) ?_
      refine lv_bipush hx hb d_EM_read_13 kn_b_7 ?_
      refine lv_icmp_le (tgt := 22) hx hb d_EM_read_15 (by decide +kernel) (fun hc => ?_) (fun hc => ?_)
      · rw [if_pos hc] at h
        refine lv_aload_n hx hb d_EM_read_22 rfl (lv_at hl 0 rfl) ?_
        refine lv_iload_n hx hb d_EM_read_23 rfl (lv_at hl 1 rfl) ?_
        refine lv_iload_n hx hb d_EM_read_24 rfl (lv_at hl 2 rfl) ?_
        replace h := xpb h
        obtain ⟨r4, M3, hv, h⟩ := h
        refine xr_ki (va_runV (As := [.int x1, .int x2]) (rest := []) C.1 (kc_EM_wrote l E hg hv) (cwV 2 C.1.2.2.2.2 (xw_V m_599 m_600 m_601 m_521 m_602) rfl rfl rfl ky_EM_wrote ⟨(Nat.le_of_ble_eq_true rfl), (Nat.le_of_ble_eq_true rfl)⟩) (xr_pV C X xc_EM.1 (xk_Xw (X.1.2.2.2.2.2 hg).1)) rfl rfl hl.1 rfl (lv_room (Nat.le_of_ble_eq_true rfl)) d_EM_read_25 ⟨(Nat.le_of_ble_eq_true rfl), (Nat.le_of_ble_eq_true rfl)⟩) X (fun H locs X => ?_)
        refine lv_if_eq (tgt := 44) hx hb d_EM_read_28 (by decide +kernel) (fun hc => ?_) (fun hc => ?_)
        · rw [if_pos hc] at h
          exact kw_EM_read_44 (x1 := x1) (x2 := x2) C hlk hr hin hg  X (lv_sub hl [0, 1, 2] rfl) h
        · rw [if_neg hc] at h
          refine lv_aload_n hx hb d_EM_read_31 rfl (lv_at hl 0 rfl) ?_
          refine xr_mga C X hg xc_EM 45 (by decide) (by decide) (by decide) m_507 d_EM_read_32 ?_
          refine lv_bipush hx hb d_EM_read_35 kn_b_8 ?_
          refine lv_iload_n hx hb d_EM_read_37 rfl (lv_at hl 1 rfl) ?_
          refine lv_imul hx hb d_EM_read_38 ?_
          refine lv_iload_n hx hb d_EM_read_39 rfl (lv_at hl 2 rfl) ?_
          refine lv_iadd hx hb d_EM_read_40 ?_
          replace h := xb h
          obtain ⟨v5, hv, h⟩ := h
          refine xr_mld C X hg 45 (by decide) (by decide) rfl d_EM_read_41 hv ?_
          refine lv_i2l hx hb d_EM_read_42 rfl ?_
          obtain ⟨rfl, rfl⟩ := Prod.mk.inj (Option.some.inj h)
          exact xr_lret C X hlk hr d_EM_read_43 rfl (Nat.le_of_ble_eq_true rfl) (Nat.le_of_ble_eq_true rfl)
      · rw [if_neg hc] at h
        refine lv_ldc2 hx hb C.1.2.2.2.1 (C.1.2.2.2.2 _ m_598) d_EM_read_18 ?_
        obtain ⟨rfl, rfl⟩ := Prod.mk.inj (Option.some.inj h)
        exact xr_lret C X hlk hr d_EM_read_21 rfl (Nat.le_of_ble_eq_true rfl) (Nat.le_of_ble_eq_true rfl)
theorem kc_EM_read (l : Launch) (E : xe) (hg : xe_g E = true) {x1 : Int32} {x2 : Int32} {r : Int64} (h : kf_EM_read_0 M x1 x2 = some (r, M')) : Met l y_EM_read (Cond.code y_EM_read b_EM_read 5 (some .long) :: w_all) { frames := 2, cells := 0, slots := 0, locals := 41 } (va_Pc [.ref (xe_om E), .int x1, .int x2] (fun U => xx_B E K M U)) (xq_l E K M' r) 0 0 (xe_A E) :=
  xr_met (by decide) (Nat.le_of_ble_eq_true rfl) fun p e s m below meth c ls C X hlk hr hin hl => kw_EM_read_0 C hlk hr hin hg X hl h
set_option maxHeartbeats 4000000 in
set_option maxRecDepth 100000 in
theorem kw_EM_range_105 {rec36 : xm → Int32 → Int32 → Int64 → Int32 → Int32 → Option (Int64 × xm)} {x1 : Int32} {x3 : Int32} {x6 : Int32} {x7 : Int32} {s0 : Int64} {r : Int64} (C : xx_C p m c b_EM_range 10 s args Rn_EM E) (hlk : meth.locks = false) (hr : meth.sig.returnType = (some .long)) (hin : meth.name = "range") (hg : xe_g E = true) (hrec36 : ∀ {H : Heap} {locs : List Loc} {ls : Array Slot} {M : xm} {x1 : Int32} {x3 : Int32} {x4 : Int64} {x6 : Int32} {x7 : Int32}, xx_S E K M s H locs → lv_has ls 10 [(0, .ref (xe_om E)), (1, .int x1), (3, .int x3), (4, .long x4), (6, .int x6), (7, .int x7)] → rec36 M x1 x3 x4 x6 x7 = some (r, M') → W p l e { frames := 2, cells := 0, slots := 0, locals := 41 } s m args below meth c H locs 0 0 (MQ below (xq_l E K M' r) args s 0 0 (xe_A E)) (F0 m 36 ls [])) (X : xx_S E K M s H locs) (hl : lv_has ls 10 [(0, .ref (xe_om E)), (1, .int x1), (3, .int x3), (6, .int x6), (7, .int x7)]) (h : kf_EM_range_105 rec36 M x1 x3 x6 x7 s0 = some (r, M')) : W p l e { frames := 2, cells := 0, slots := 0, locals := 41 } s m args below meth c H locs 0 0 (MQ below (xq_l E K M' r) args s 0 0 (xe_A E)) (F0 m 105 ls [.long s0]) := by
  have hx := C.1.1
  have hb := C.1.2.1
  unfold kf_EM_range_105 at h
  refine lv_lstore hx hb d_EM_range_105 hl (by decide) rfl (fun ls hl => ?_)
  have hl : lv_has ls 10 [(4, .long s0), (0, .ref (xe_om E)), (1, .int x1), (3, .int x3), (6, .int x6), (7, .int x7)] := hl
  refine lv_aload_n hx hb d_EM_range_107 rfl (lv_at hl 1 rfl) ?_
  refine lv_iload_n hx hb d_EM_range_108 rfl (lv_at hl 2 rfl) ?_
  refine lv_iload hx hb d_EM_range_109 (lv_at hl 5 rfl) ?_
  replace h := xpb h
  obtain ⟨r2, M1, hv, h⟩ := h
  refine xr_ki (va_runV (As := [.int x1, .int x7]) (rest := []) C.1 (kc_EM_wrote l E hg hv) (cwV 2 C.1.2.2.2.2 (xw_V m_599 m_600 m_601 m_521 m_602) rfl rfl rfl ky_EM_wrote ⟨(Nat.le_of_ble_eq_true rfl), (Nat.le_of_ble_eq_true rfl)⟩) (xr_pV C X xc_EM.1 (xk_Xw (X.1.2.2.2.2.2 hg).1)) rfl rfl hl.1 rfl (lv_room (Nat.le_of_ble_eq_true rfl)) d_EM_range_111 ⟨(Nat.le_of_ble_eq_true rfl), (Nat.le_of_ble_eq_true rfl)⟩) X (fun H locs X => ?_)
  refine lv_if_eq (tgt := 122) hx hb d_EM_range_114 (by decide +kernel) (fun hc => ?_) (fun hc => ?_)
  · rw [if_pos hc] at h
    refine lv_iload hx hb d_EM_range_122 (lv_at hl 4 rfl) ?_
    refine lv_iconst hx hb d_EM_range_124 kn_i_1 ?_
    refine lv_iload hx hb d_EM_range_125 (lv_at hl 5 rfl) ?_
    refine lv_ishl hx hb d_EM_range_127 ?_
    refine lv_ior hx hb d_EM_range_128 ?_
    refine lv_istore hx hb d_EM_range_129 hl (by decide) rfl (fun ls hl => ?_)
    have hl : lv_has ls 10 [(6, .int (x6 ||| ((1 : Int32) <<< (x7 &&& 31)))), (4, .long s0), (0, .ref (xe_om E)), (1, .int x1), (3, .int x3), (7, .int x7)] := hl
    refine lv_iinc (k := 5) (v := (x7 + (1 : Int32))) hx hb d_EM_range_131 hl rfl (congrArg (fun y : Int32 => x7 + y) kn_i_1) (by decide) rfl (fun ls hl => ?_)
    have hl : lv_has ls 10 [(7, .int (x7 + (1 : Int32))), (6, .int (x6 ||| ((1 : Int32) <<< (x7 &&& 31)))), (4, .long s0), (0, .ref (xe_om E)), (1, .int x1), (3, .int x3)] := hl
    refine lv_goto (tgt := 36) hx hb d_EM_range_134 (by decide +kernel) ?_
    exact hrec36 (x1 := x1) (x3 := x3) (x4 := s0) (x6 := (x6 ||| ((1 : Int32) <<< (x7 &&& 31)))) (x7 := (x7 + (1 : Int32))) X (lv_sub hl [3, 4, 5, 2, 1, 0] rfl) h
  · rw [if_neg hc] at h
    refine lv_iload hx hb d_EM_range_117 (lv_at hl 4 rfl) ?_
    refine lv_goto (tgt := 129) hx hb d_EM_range_119 (by decide +kernel) ?_
    refine lv_istore hx hb d_EM_range_129 hl (by decide) rfl (fun ls hl => ?_)
    have hl : lv_has ls 10 [(6, .int x6), (4, .long s0), (0, .ref (xe_om E)), (1, .int x1), (3, .int x3), (7, .int x7)] := hl
    refine lv_iinc (k := 5) (v := (x7 + (1 : Int32))) hx hb d_EM_range_131 hl rfl (congrArg (fun y : Int32 => x7 + y) kn_i_1) (by decide) rfl (fun ls hl => ?_)
    have hl : lv_has ls 10 [(7, .int (x7 + (1 : Int32))), (6, .int x6), (4, .long s0), (0, .ref (xe_om E)), (1, .int x1), (3, .int x3)] := hl
    refine lv_goto (tgt := 36) hx hb d_EM_range_134 (by decide +kernel) ?_
    exact hrec36 (x1 := x1) (x3 := x3) (x4 := s0) (x6 := x6) (x7 := (x7 + (1 : Int32))) X (lv_sub hl [3, 4, 5, 2, 1, 0] rfl) h
set_option maxHeartbeats 4000000 in
set_option maxRecDepth 100000 in
theorem kw_EM_range_75 {rec36 : xm → Int32 → Int32 → Int64 → Int32 → Int32 → Option (Int64 × xm)} {x1 : Int32} {x3 : Int32} {x4 : Int64} {x6 : Int32} {x7 : Int32} {s0 : Int64} {r : Int64} (C : xx_C p m c b_EM_range 10 s args Rn_EM E) (hlk : meth.locks = false) (hr : meth.sig.returnType = (some .long)) (hin : meth.name = "range") (hg : xe_g E = true) (hrec36 : ∀ {H : Heap} {locs : List Loc} {ls : Array Slot} {M : xm} {x1 : Int32} {x3 : Int32} {x4 : Int64} {x6 : Int32} {x7 : Int32}, xx_S E K M s H locs → lv_has ls 10 [(0, .ref (xe_om E)), (1, .int x1), (3, .int x3), (4, .long x4), (6, .int x6), (7, .int x7)] → rec36 M x1 x3 x4 x6 x7 = some (r, M') → W p l e { frames := 2, cells := 0, slots := 0, locals := 41 } s m args below meth c H locs 0 0 (MQ below (xq_l E K M' r) args s 0 0 (xe_A E)) (F0 m 36 ls [])) (X : xx_S E K M s H locs) (hl : lv_has ls 10 [(0, .ref (xe_om E)), (1, .int x1), (3, .int x3), (4, .long x4), (6, .int x6), (7, .int x7)]) (h : kf_EM_range_75 rec36 M x1 x3 x4 x6 x7 s0 = some (r, M')) : W p l e { frames := 2, cells := 0, slots := 0, locals := 41 } s m args below meth c H locs 0 0 (MQ below (xq_l E K M' r) args s 0 0 (xe_A E)) (F0 m 75 ls [.long s0]) := by
  have hx := C.1.1
  have hb := C.1.2.1
  unfold kf_EM_range_75 at h
  refine lv_lstore hx hb d_EM_range_75 hl (by decide) rfl (fun ls hl => ?_)
  have hl : lv_has ls 10 [(8, .long s0), (0, .ref (xe_om E)), (1, .int x1), (3, .int x3), (4, .long x4), (6, .int x6), (7, .int x7)] := hl
  refine lv_lload hx hb d_EM_range_77 (lv_at hl 0 rfl) ?_
  refine lv_ldc2 hx hb C.1.2.2.2.1 (C.1.2.2.2.2 _ m_593) d_EM_range_79 ?_
  refine W.lcmp hx hb d_EM_range_82 ?_
  refine lv_if_lt (tgt := 89) hx hb d_EM_range_83 (by decide +kernel) (fun hc => ?_) (fun hc => ?_)
  · rw [if_pos hc] at h
    refine lv_lload hx hb d_EM_range_89 (lv_at hl 0 rfl) ?_
    refine lv_lconst hx hb d_EM_range_91 kn_l_0 ?_
    refine W.lcmp hx hb d_EM_range_92 ?_
    refine lv_if_eq (tgt := 103) hx hb d_EM_range_93 (by decide +kernel) (fun hc => ?_) (fun hc => ?_)
    · rw [if_pos hc] at h
      refine lv_lload hx hb d_EM_range_103 (lv_at hl 4 rfl) ?_
      exact kw_EM_range_105 (x1 := x1) (x3 := x3) (x6 := x6) (x7 := x7) (s0 := x4) C hlk hr hin hg hrec36  X (lv_sub hl [1, 2, 3, 5, 6] rfl) h
    · rw [if_neg hc] at h
      refine lv_lload hx hb d_EM_range_96 (lv_at hl 4 rfl) ?_
      refine lv_lconst hx hb d_EM_range_98 kn_l_1 ?_
      refine lv_ladd hx hb d_EM_range_99 ?_
      refine lv_goto (tgt := 105) hx hb d_EM_range_100 (by decide +kernel) ?_
      exact kw_EM_range_105 (x1 := x1) (x3 := x3) (x6 := x6) (x7 := x7) (s0 := (x4 + (1 : Int64))) C hlk hr hin hg hrec36  X (lv_sub hl [1, 2, 3, 5, 6] rfl) h
  · rw [if_neg hc] at h
    refine lv_lload hx hb d_EM_range_86 (lv_at hl 0 rfl) ?_
    obtain ⟨rfl, rfl⟩ := Prod.mk.inj (Option.some.inj h)
    exact xr_lret C X hlk hr d_EM_range_88 rfl (Nat.le_of_ble_eq_true rfl) (Nat.le_of_ble_eq_true rfl)
set_option maxHeartbeats 4000000 in
set_option maxRecDepth 100000 in
theorem kw_EM_range_152 {x4 : Int64} {r : Int64} (C : xx_C p m c b_EM_range 10 s args Rn_EM E) (hlk : meth.locks = false) (hr : meth.sig.returnType = (some .long)) (hin : meth.name = "range") (hg : xe_g E = true) (X : xx_S E K M s H locs) (hl : lv_has ls 10 [(4, .long x4)]) (h : kf_EM_range_152 M x4 = some (r, M')) : W p l e { frames := 2, cells := 0, slots := 0, locals := 41 } s m args below meth c H locs 0 0 (MQ below (xq_l E K M' r) args s 0 0 (xe_A E)) (F0 m 152 ls []) := by
  have hx := C.1.1
  have hb := C.1.2.1
  unfold kf_EM_range_152 at h
  refine lv_lload hx hb d_EM_range_152 (lv_at hl 0 rfl) ?_
  obtain ⟨rfl, rfl⟩ := Prod.mk.inj (Option.some.inj h)
  exact xr_lret C X hlk hr d_EM_range_154 rfl (Nat.le_of_ble_eq_true rfl) (Nat.le_of_ble_eq_true rfl)
set_option maxHeartbeats 4000000 in
set_option maxRecDepth 100000 in
theorem kwb_EM_range_36 {rec36 : xm → Int32 → Int32 → Int64 → Int32 → Int32 → Option (Int64 × xm)} {x1 : Int32} {x3 : Int32} {x4 : Int64} {x6 : Int32} {x7 : Int32} {r : Int64} (C : xx_C p m c b_EM_range 10 s args Rn_EM E) (hlk : meth.locks = false) (hr : meth.sig.returnType = (some .long)) (hin : meth.name = "range") (hg : xe_g E = true) (hrec36 : ∀ {H : Heap} {locs : List Loc} {ls : Array Slot} {M : xm} {x1 : Int32} {x3 : Int32} {x4 : Int64} {x6 : Int32} {x7 : Int32}, xx_S E K M s H locs → lv_has ls 10 [(0, .ref (xe_om E)), (1, .int x1), (3, .int x3), (4, .long x4), (6, .int x6), (7, .int x7)] → rec36 M x1 x3 x4 x6 x7 = some (r, M') → W p l e { frames := 2, cells := 0, slots := 0, locals := 41 } s m args below meth c H locs 0 0 (MQ below (xq_l E K M' r) args s 0 0 (xe_A E)) (F0 m 36 ls [])) (X : xx_S E K M s H locs) (hl : lv_has ls 10 [(0, .ref (xe_om E)), (1, .int x1), (3, .int x3), (4, .long x4), (6, .int x6), (7, .int x7)]) (h : kb_EM_range_36 rec36 M x1 x3 x4 x6 x7 = some (r, M')) : W p l e { frames := 2, cells := 0, slots := 0, locals := 41 } s m args below meth c H locs 0 0 (MQ below (xq_l E K M' r) args s 0 0 (xe_A E)) (F0 m 36 ls []) := by
  have hx := C.1.1
  have hb := C.1.2.1
  unfold kb_EM_range_36 at h
  refine lv_iload hx hb d_EM_range_36 (lv_at hl 5 rfl) ?_
  refine lv_iload_n hx hb d_EM_range_38 rfl (lv_at hl 2 rfl) ?_
  refine lv_icmp_gt (tgt := 137) hx hb d_EM_range_39 (by decide +kernel) (fun hc => ?_) (fun hc => ?_)
  · rw [if_pos hc] at h
    refine lv_aload_n hx hb d_EM_range_137 rfl (lv_at hl 0 rfl) ?_
    refine xr_mga C X hg xc_EM 43 (by decide) (by decide) (by decide) m_505 d_EM_range_138 ?_
    refine lv_iload_n hx hb d_EM_range_141 rfl (lv_at hl 1 rfl) ?_
    refine lv_aload_n hx hb d_EM_range_142 rfl (lv_at hl 0 rfl) ?_
    refine xr_mga C X hg xc_EM 43 (by decide) (by decide) (by decide) m_505 d_EM_range_143 ?_
    refine lv_iload_n hx hb d_EM_range_146 rfl (lv_at hl 1 rfl) ?_
    replace h := xb h
    obtain ⟨v1, hv, h⟩ := h
    refine xr_mld C X hg 43 (by decide) (by decide) rfl d_EM_range_147 hv ?_
    refine lv_iload hx hb d_EM_range_148 (lv_at hl 4 rfl) ?_
    refine lv_ior hx hb d_EM_range_150 ?_
    replace h := xb h
    obtain ⟨M2, hv, h⟩ := h
    refine xr_mst C X hg 43 (by decide) (by decide) rfl d_EM_range_151 hv (fun H locs X => ?_)
    exact kw_EM_range_152 (x4 := x4) C hlk hr hin hg  X (lv_sub hl [3] rfl) h
  · rw [if_neg hc] at h
    refine lv_aload_n hx hb d_EM_range_42 rfl (lv_at hl 0 rfl) ?_
    refine lv_iload_n hx hb d_EM_range_43 rfl (lv_at hl 1 rfl) ?_
    refine lv_iload hx hb d_EM_range_44 (lv_at hl 5 rfl) ?_
    replace h := xpb h
    obtain ⟨r4, M3, hv, h⟩ := h
    refine xr_ki (va_runV (As := [.int x1, .int x7]) (rest := []) C.1 (kc_EM_wrote l E hg hv) (cwV 2 C.1.2.2.2.2 (xw_V m_599 m_600 m_601 m_521 m_602) rfl rfl rfl ky_EM_wrote ⟨(Nat.le_of_ble_eq_true rfl), (Nat.le_of_ble_eq_true rfl)⟩) (xr_pV C X xc_EM.1 (xk_Xw (X.1.2.2.2.2.2 hg).1)) rfl rfl hl.1 rfl (lv_room (Nat.le_of_ble_eq_true rfl)) d_EM_range_46 ⟨(Nat.le_of_ble_eq_true rfl), (Nat.le_of_ble_eq_true rfl)⟩) X (fun H locs X => ?_)
    refine lv_if_eq (tgt := 68) hx hb d_EM_range_49 (by decide +kernel) (fun hc => ?_) (fun hc => ?_)
    · rw [if_pos hc] at h
      refine lv_aload_n hx hb d_EM_range_68 rfl (lv_at hl 0 rfl) ?_
      refine lv_iload hx hb d_EM_range_69 (lv_at hl 5 rfl) ?_
      refine lv_iload_n hx hb d_EM_range_71 rfl (lv_at hl 1 rfl) ?_
      replace h := xpb h
      obtain ⟨r6, M5, hv, h⟩ := h
      refine xr_kl (va_runV (As := [.int x7, .int x1]) (rest := []) C.1 (kc_EM_reading l E hg hv) (cwV 2 C.1.2.2.2.2 (xw_V m_603 m_604 m_605 m_521 m_606) rfl rfl rfl ky_EM_reading ⟨(Nat.le_of_ble_eq_true rfl), (Nat.le_of_ble_eq_true rfl)⟩) (xr_pV C X xc_EM.1 (xk_Xw (X.1.2.2.2.2.2 hg).1)) rfl rfl hl.1 rfl (lv_room (Nat.le_of_ble_eq_true rfl)) d_EM_range_72 ⟨(Nat.le_of_ble_eq_true rfl), (Nat.le_of_ble_eq_true rfl)⟩) X (fun H locs X => ?_)
      exact kw_EM_range_75 (x1 := x1) (x3 := x3) (x4 := x4) (x6 := x6) (x7 := x7) (s0 := r6) C hlk hr hin hg hrec36  X (lv_sub hl [0, 1, 2, 3, 4, 5] rfl) h
    · rw [if_neg hc] at h
      refine lv_aload_n hx hb d_EM_range_52 rfl (lv_at hl 0 rfl) ?_
      refine xr_mga C X hg xc_EM 45 (by decide) (by decide) (by decide) m_507 d_EM_range_53 ?_
      refine lv_bipush hx hb d_EM_range_56 kn_b_8 ?_
      refine lv_iload_n hx hb d_EM_range_58 rfl (lv_at hl 1 rfl) ?_
      refine lv_imul hx hb d_EM_range_59 ?_
      refine lv_iload hx hb d_EM_range_60 (lv_at hl 5 rfl) ?_
      refine lv_iadd hx hb d_EM_range_62 ?_
      replace h := xb h
      obtain ⟨v7, hv, h⟩ := h
      refine xr_mld C X hg 45 (by decide) (by decide) rfl d_EM_range_63 hv ?_
      refine lv_i2l hx hb d_EM_range_64 rfl ?_
      refine lv_goto (tgt := 75) hx hb d_EM_range_65 (by decide +kernel) ?_
      exact kw_EM_range_75 (x1 := x1) (x3 := x3) (x4 := x4) (x6 := x6) (x7 := x7) (s0 := (Int32.toInt64 v7)) C hlk hr hin hg hrec36  X (lv_sub hl [0, 1, 2, 3, 4, 5] rfl) h
theorem kw_EM_range_36 {r : Int64} (C : xx_C p m c b_EM_range 10 s args Rn_EM E) (hlk : meth.locks = false) (hr : meth.sig.returnType = (some .long)) (hin : meth.name = "range") (hg : xe_g E = true) : ∀ (n : Nat) {H : Heap} {locs : List Loc} {ls : Array Slot} {M : xm} {x1 : Int32} {x3 : Int32} {x4 : Int64} {x6 : Int32} {x7 : Int32}, xx_S E K M s H locs → lv_has ls 10 [(0, .ref (xe_om E)), (1, .int x1), (3, .int x3), (4, .long x4), (6, .int x6), (7, .int x7)] → kf_EM_range_36 n M x1 x3 x4 x6 x7 = some (r, M') → W p l e { frames := 2, cells := 0, slots := 0, locals := 41 } s m args below meth c H locs 0 0 (MQ below (xq_l E K M' r) args s 0 0 (xe_A E)) (F0 m 36 ls []) := by
  intro n
  induction n with
  | zero => intro H locs ls M x1 x3 x4 x6 x7 X hl h; exact nomatch (show (none : Option (Int64 × xm)) = some _ from h)
  | succ n ih => intro H locs ls M x1 x3 x4 x6 x7 X hl h; exact kwb_EM_range_36 C hlk hr hin hg ih X hl h
set_option maxHeartbeats 4000000 in
set_option maxRecDepth 100000 in
theorem kw_EM_range_0 {x1 : Int32} {x2 : Int32} {x3 : Int32} {r : Int64} (C : xx_C p m c b_EM_range 10 s args Rn_EM E) (hlk : meth.locks = false) (hr : meth.sig.returnType = (some .long)) (hin : meth.name = "range") (hg : xe_g E = true) (X : xx_S E K M s H locs) (hl : lv_has ls 10 [(0, .ref (xe_om E)), (1, .int x1), (2, .int x2), (3, .int x3)]) (h : kf_EM_range_0 M x1 x2 x3 = some (r, M')) : W p l e { frames := 2, cells := 0, slots := 0, locals := 41 } s m args below meth c H locs 0 0 (MQ below (xq_l E K M' r) args s 0 0 (xe_A E)) (F0 m 0 ls []) := by
  have hx := C.1.1
  have hb := C.1.2.1
  unfold kf_EM_range_0 at h
  refine lv_aload_n hx hb d_EM_range_0 rfl (lv_at hl 0 rfl) ?_
  refine lv_iload_n hx hb d_EM_range_1 rfl (lv_at hl 1 rfl) ?_
  replace h := xpb h
  obtain ⟨r2, M1, hv, h⟩ := h
  refine xr_ki (va_runV (As := [.int x1]) (rest := []) C.1 (kc_EM_isOpen l E hg hv) (cwV 1 C.1.2.2.2.2 (xw_V m_594 m_595 m_596 m_521 m_597) rfl rfl rfl ky_EM_isOpen ⟨(Nat.le_of_ble_eq_true rfl), (Nat.le_of_ble_eq_true rfl)⟩) (xr_pV C X xc_EM.1 (xk_Xw (X.1.2.2.2.2.2 hg).1)) rfl rfl hl.1 rfl (lv_room (Nat.le_of_ble_eq_true rfl)) d_EM_range_2 ⟨(Nat.le_of_ble_eq_true rfl), (Nat.le_of_ble_eq_true rfl)⟩) X (fun H locs X => ?_)
  refine lv_if_eq (tgt := 23) hx hb d_EM_range_5 (by decide +kernel) (fun hc => ?_) (fun hc => ?_)
  · rw [if_pos hc] at h
    refine lv_ldc2 hx hb C.1.2.2.2.1 (C.1.2.2.2.2 _ m_598) d_EM_range_23 ?_
    obtain ⟨rfl, rfl⟩ := Prod.mk.inj (Option.some.inj h)
    exact xr_lret C X hlk hr d_EM_range_26 rfl (Nat.le_of_ble_eq_true rfl) (Nat.le_of_ble_eq_true rfl)
  · rw [if_neg hc] at h
    refine lv_iload_n hx hb d_EM_range_8 rfl (lv_at hl 2 rfl) ?_
    refine lv_if_lt (tgt := 23) hx hb d_EM_range_9 (by decide +kernel) (fun hc => ?_) (fun hc => ?_)
    · rw [if_pos hc] at h
      refine lv_ldc2 hx hb C.1.2.2.2.1 (C.1.2.2.2.2 _ m_598) d_EM_range_23 ?_
      obtain ⟨rfl, rfl⟩ := Prod.mk.inj (Option.some.inj h)
      exact xr_lret C X hlk hr d_EM_range_26 rfl (Nat.le_of_ble_eq_true rfl) (Nat.le_of_ble_eq_true rfl)
    · rw [if_neg hc] at h
      refine lv_iload_n hx hb d_EM_range_12 rfl (lv_at hl 3 rfl) ?_
      refine lv_bipush hx hb d_EM_range_13 kn_b_7 ?_
      refine lv_icmp_gt (tgt := 23) hx hb d_EM_range_15 (by decide +kernel) (fun hc => ?_) (fun hc => ?_)
      · rw [if_pos hc] at h
        refine lv_ldc2 hx hb C.1.2.2.2.1 (C.1.2.2.2.2 _ m_598) d_EM_range_23 ?_
        obtain ⟨rfl, rfl⟩ := Prod.mk.inj (Option.some.inj h)
        exact xr_lret C X hlk hr d_EM_range_26 rfl (Nat.le_of_ble_eq_true rfl) (Nat.le_of_ble_eq_true rfl)
      · rw [if_neg hc] at h
        refine lv_iload_n hx hb d_EM_range_18 rfl (lv_at hl 2 rfl) ?_
        refine lv_iload_n hx hb d_EM_range_19 rfl (lv_at hl 3 rfl) ?_
        refine lv_icmp_le (tgt := 27) hx hb d_EM_range_20 (by decide +kernel) (fun hc => ?_) (fun hc => ?_)
        · rw [if_pos hc] at h
          refine lv_lconst hx hb d_EM_range_27 kn_l_0 ?_
          refine lv_lstore hx hb d_EM_range_28 hl (by decide) rfl (fun ls hl => ?_)
          have hl : lv_has ls 10 [(4, .long (0 : Int64)), (0, .ref (xe_om E)), (1, .int x1), (2, .int x2), (3, .int x3)] := hl
          refine lv_iconst hx hb d_EM_range_30 kn_i_0 ?_
          refine lv_istore hx hb d_EM_range_31 hl (by decide) rfl (fun ls hl => ?_)
          have hl : lv_has ls 10 [(6, .int (0 : Int32)), (4, .long (0 : Int64)), (0, .ref (xe_om E)), (1, .int x1), (2, .int x2), (3, .int x3)] := hl
          refine lv_iload_n hx hb d_EM_range_33 rfl (lv_at hl 4 rfl) ?_
          refine lv_istore hx hb d_EM_range_34 hl (by decide) rfl (fun ls hl => ?_)
          have hl : lv_has ls 10 [(7, .int x2), (6, .int (0 : Int32)), (4, .long (0 : Int64)), (0, .ref (xe_om E)), (1, .int x1), (2, .int x2), (3, .int x3)] := hl
          exact kw_EM_range_36 C hlk hr hin hg 1000 X (lv_sub hl [3, 4, 6, 2, 1, 0] rfl) h
        · rw [if_neg hc] at h
          refine lv_ldc2 hx hb C.1.2.2.2.1 (C.1.2.2.2.2 _ m_598) d_EM_range_23 ?_
          obtain ⟨rfl, rfl⟩ := Prod.mk.inj (Option.some.inj h)
          exact xr_lret C X hlk hr d_EM_range_26 rfl (Nat.le_of_ble_eq_true rfl) (Nat.le_of_ble_eq_true rfl)
theorem kc_EM_range (l : Launch) (E : xe) (hg : xe_g E = true) {x1 : Int32} {x2 : Int32} {x3 : Int32} {r : Int64} (h : kf_EM_range_0 M x1 x2 x3 = some (r, M')) : Met l y_EM_range (Cond.code y_EM_range b_EM_range 10 (some .long) :: w_all) { frames := 2, cells := 0, slots := 0, locals := 41 } (va_Pc [.ref (xe_om E), .int x1, .int x2, .int x3] (fun U => xx_B E K M U)) (xq_l E K M' r) 0 0 (xe_A E) :=
  xr_met (by decide) (Nat.le_of_ble_eq_true rfl) fun p e s m below meth c ls C X hlk hr hin hl => kw_EM_range_0 C hlk hr hin hg X hl h
set_option maxHeartbeats 4000000 in
set_option maxRecDepth 100000 in
theorem kw_EM_write_48 {r : Int32} (C : xx_C p m c b_EM_write 4 s args Rn_EM E) (hlk : meth.locks = false) (hr : meth.sig.returnType = (some .boolean)) (hin : meth.name = "write") (hg : xe_g E = true) (X : xx_S E K M s H locs) (hl : lv_has ls 4 []) (h : kf_EM_write_48 M = some (r, M')) : W p l e { frames := 2, cells := 0, slots := 0, locals := 41 } s m args below meth c H locs 0 0 (MQ below (xq_i E K M' r) args s 0 0 (xe_A E)) (F0 m 48 ls []) := by
  have hx := C.1.1
  have hb := C.1.2.1
  unfold kf_EM_write_48 at h
  refine lv_iconst hx hb d_EM_write_48 kn_i_1 ?_
  obtain ⟨rfl, rfl⟩ := Prod.mk.inj (Option.some.inj h)
  exact xr_zret C X hlk hr d_EM_write_49 rfl (Nat.le_of_ble_eq_true rfl) (Nat.le_of_ble_eq_true rfl)
set_option maxHeartbeats 4000000 in
set_option maxRecDepth 100000 in
theorem kw_EM_write_0 {x1 : Int32} {x2 : Int32} {x3 : Int32} {r : Int32} (C : xx_C p m c b_EM_write 4 s args Rn_EM E) (hlk : meth.locks = false) (hr : meth.sig.returnType = (some .boolean)) (hin : meth.name = "write") (hg : xe_g E = true) (X : xx_S E K M s H locs) (hl : lv_has ls 4 [(0, .ref (xe_om E)), (1, .int x1), (2, .int x2), (3, .int x3)]) (h : kf_EM_write_0 M x1 x2 x3 = some (r, M')) : W p l e { frames := 2, cells := 0, slots := 0, locals := 41 } s m args below meth c H locs 0 0 (MQ below (xq_i E K M' r) args s 0 0 (xe_A E)) (F0 m 0 ls []) := by
  have hx := C.1.1
  have hb := C.1.2.1
  unfold kf_EM_write_0 at h
  refine lv_aload_n hx hb d_EM_write_0 rfl (lv_at hl 0 rfl) ?_
  refine lv_iload_n hx hb d_EM_write_1 rfl (lv_at hl 1 rfl) ?_
  replace h := xpb h
  obtain ⟨r2, M1, hv, h⟩ := h
  refine xr_ki (va_runV (As := [.int x1]) (rest := []) C.1 (kc_EM_isOpen l E hg hv) (cwV 1 C.1.2.2.2.2 (xw_V m_594 m_595 m_596 m_521 m_597) rfl rfl rfl ky_EM_isOpen ⟨(Nat.le_of_ble_eq_true rfl), (Nat.le_of_ble_eq_true rfl)⟩) (xr_pV C X xc_EM.1 (xk_Xw (X.1.2.2.2.2.2 hg).1)) rfl rfl hl.1 rfl (lv_room (Nat.le_of_ble_eq_true rfl)) d_EM_write_2 ⟨(Nat.le_of_ble_eq_true rfl), (Nat.le_of_ble_eq_true rfl)⟩) X (fun H locs X => ?_)
  refine lv_if_eq (tgt := 18) hx hb d_EM_write_5 (by decide +kernel) (fun hc => ?_) (fun hc => ?_)
  · rw [if_pos hc] at h
    refine lv_iconst hx hb d_EM_write_18 kn_i_0 ?_
    obtain ⟨rfl, rfl⟩ := Prod.mk.inj (Option.some.inj h)
    exact xr_zret C X hlk hr d_EM_write_19 rfl (Nat.le_of_ble_eq_true rfl) (Nat.le_of_ble_eq_true rfl)
  · rw [if_neg hc] at h
    refine lv_iload_n hx hb d_EM_write_8 rfl (lv_at hl 2 rfl) ?_
    refine lv_if_lt (tgt := 18) hx hb d_EM_write_9 (by decide +kernel) (fun hc => ?_) (fun hc => ?_)
    · rw [if_pos hc] at h
      refine lv_iconst hx hb d_EM_write_18 kn_i_0 ?_
      obtain ⟨rfl, rfl⟩ := Prod.mk.inj (Option.some.inj h)
      exact xr_zret C X hlk hr d_EM_write_19 rfl (Nat.le_of_ble_eq_true rfl) (Nat.le_of_ble_eq_true rfl)
    · rw [if_neg hc] at h
      refine lv_iload_n hx hb d_EM_write_12 rfl (lv_at hl 2 rfl) ?_
      refine lv_bipush hx hb d_EM_write_13 kn_b_7 ?_
      refine lv_icmp_le (tgt := 20) hx hb d_EM_write_15 (by decide +kernel) (fun hc => ?_) (fun hc => ?_)
      · rw [if_pos hc] at h
        refine lv_aload_n hx hb d_EM_write_20 rfl (lv_at hl 0 rfl) ?_
        refine xr_mga C X hg xc_EM 44 (by decide) (by decide) (by decide) m_506 d_EM_write_21 ?_
        refine lv_iload_n hx hb d_EM_write_24 rfl (lv_at hl 1 rfl) ?_
        refine lv_aload_n hx hb d_EM_write_25 rfl (lv_at hl 0 rfl) ?_
        refine xr_mga C X hg xc_EM 44 (by decide) (by decide) (by decide) m_506 d_EM_write_26 ?_
        refine lv_iload_n hx hb d_EM_write_29 rfl (lv_at hl 1 rfl) ?_
        replace h := xb h
        obtain ⟨v3, hv, h⟩ := h
        refine xr_mld C X hg 44 (by decide) (by decide) rfl d_EM_write_30 hv ?_
        refine lv_iconst hx hb d_EM_write_31 kn_i_1 ?_
        refine lv_iload_n hx hb d_EM_write_32 rfl (lv_at hl 2 rfl) ?_
        refine lv_ishl hx hb d_EM_write_33 ?_
        refine lv_ior hx hb d_EM_write_34 ?_
        replace h := xb h
        obtain ⟨M4, hv, h⟩ := h
        refine xr_mst C X hg 44 (by decide) (by decide) rfl d_EM_write_35 hv (fun H locs X => ?_)
        refine lv_aload_n hx hb d_EM_write_36 rfl (lv_at hl 0 rfl) ?_
        refine xr_mga C X hg xc_EM 45 (by decide) (by decide) (by decide) m_507 d_EM_write_37 ?_
        refine lv_bipush hx hb d_EM_write_40 kn_b_8 ?_
        refine lv_iload_n hx hb d_EM_write_42 rfl (lv_at hl 1 rfl) ?_
        refine lv_imul hx hb d_EM_write_43 ?_
        refine lv_iload_n hx hb d_EM_write_44 rfl (lv_at hl 2 rfl) ?_
        refine lv_iadd hx hb d_EM_write_45 ?_
        refine lv_iload_n hx hb d_EM_write_46 rfl (lv_at hl 3 rfl) ?_
        replace h := xb h
        obtain ⟨M5, hv, h⟩ := h
        refine xr_mst C X hg 45 (by decide) (by decide) rfl d_EM_write_47 hv (fun H locs X => ?_)
        exact kw_EM_write_48 C hlk hr hin hg  X (lv_sub hl [] rfl) h
      · rw [if_neg hc] at h
        refine lv_iconst hx hb d_EM_write_18 kn_i_0 ?_
        obtain ⟨rfl, rfl⟩ := Prod.mk.inj (Option.some.inj h)
        exact xr_zret C X hlk hr d_EM_write_19 rfl (Nat.le_of_ble_eq_true rfl) (Nat.le_of_ble_eq_true rfl)
theorem kc_EM_write (l : Launch) (E : xe) (hg : xe_g E = true) {x1 : Int32} {x2 : Int32} {x3 : Int32} {r : Int32} (h : kf_EM_write_0 M x1 x2 x3 = some (r, M')) : Met l y_EM_write (Cond.code y_EM_write b_EM_write 4 (some .boolean) :: w_all) { frames := 2, cells := 0, slots := 0, locals := 41 } (va_Pc [.ref (xe_om E), .int x1, .int x2, .int x3] (fun U => xx_B E K M U)) (xq_i E K M' r) 0 0 (xe_A E) :=
  xr_met (by decide) (Nat.le_of_ble_eq_true rfl) fun p e s m below meth c ls C X hlk hr hin hl => kw_EM_write_0 C hlk hr hin hg X hl h
set_option maxHeartbeats 4000000 in
set_option maxRecDepth 100000 in
theorem kwb_EM_commit_86 {rec86 : xm → Int32 → Int32 → Int32 → Option (Int32 × xm)} {x1 : Int32} {x2 : Int32} {x3 : Int32} {r : Int32} (C : xx_C p m c b_EM_commit 4 s args Rn_EM E) (hlk : meth.locks = false) (hr : meth.sig.returnType = (some .boolean)) (hin : meth.name = "commit") (hg : xe_g E = true) (hrec86 : ∀ {H : Heap} {locs : List Loc} {ls : Array Slot} {M : xm} {x1 : Int32} {x2 : Int32} {x3 : Int32}, xx_S E K M s H locs → lv_has ls 4 [(0, .ref (xe_om E)), (1, .int x1), (2, .int x2), (3, .int x3)] → rec86 M x1 x2 x3 = some (r, M') → W p l e { frames := 2, cells := 0, slots := 0, locals := 41 } s m args below meth c H locs 0 0 (MQ below (xq_i E K M' r) args s 0 0 (xe_A E)) (F0 m 86 ls [])) (X : xx_S E K M s H locs) (hl : lv_has ls 4 [(0, .ref (xe_om E)), (1, .int x1), (2, .int x2), (3, .int x3)]) (h : kb_EM_commit_86 rec86 M x1 x2 x3 = some (r, M')) : W p l e { frames := 2, cells := 0, slots := 0, locals := 41 } s m args below meth c H locs 0 0 (MQ below (xq_i E K M' r) args s 0 0 (xe_A E)) (F0 m 86 ls []) := by
  have hx := C.1.1
  have hb := C.1.2.1
  unfold kb_EM_commit_86 at h
  refine lv_iload_n hx hb d_EM_commit_86 rfl (lv_at hl 3 rfl) ?_
  refine lv_bipush hx hb d_EM_commit_87 kn_b_8 ?_
  refine lv_icmp_ge (tgt := 120) hx hb d_EM_commit_89 (by decide +kernel) (fun hc => ?_) (fun hc => ?_)
  · rw [if_pos hc] at h
    refine lv_iconst hx hb d_EM_commit_120 kn_i_1 ?_
    obtain ⟨rfl, rfl⟩ := Prod.mk.inj (Option.some.inj h)
    exact xr_zret C X hlk hr d_EM_commit_121 rfl (Nat.le_of_ble_eq_true rfl) (Nat.le_of_ble_eq_true rfl)
  · rw [if_neg hc] at h
    refine lv_aload_n hx hb d_EM_commit_92 rfl (lv_at hl 0 rfl) ?_
    refine xr_mga C X hg xc_EM 55 (by decide) (by decide) (by decide) m_516 d_EM_commit_93 ?_
    refine lv_bipush hx hb d_EM_commit_96 kn_b_8 ?_
    refine lv_iload_n hx hb d_EM_commit_98 rfl (lv_at hl 2 rfl) ?_
    refine lv_imul hx hb d_EM_commit_99 ?_
    refine lv_iload_n hx hb d_EM_commit_100 rfl (lv_at hl 3 rfl) ?_
    refine lv_iadd hx hb d_EM_commit_101 ?_
    refine lv_aload_n hx hb d_EM_commit_102 rfl (lv_at hl 0 rfl) ?_
    refine xr_mga C X hg xc_EM 45 (by decide) (by decide) (by decide) m_507 d_EM_commit_103 ?_
    refine lv_bipush hx hb d_EM_commit_106 kn_b_8 ?_
    refine lv_iload_n hx hb d_EM_commit_108 rfl (lv_at hl 1 rfl) ?_
    refine lv_imul hx hb d_EM_commit_109 ?_
    refine lv_iload_n hx hb d_EM_commit_110 rfl (lv_at hl 3 rfl) ?_
    refine lv_iadd hx hb d_EM_commit_111 ?_
    replace h := xb h
    obtain ⟨v1, hv, h⟩ := h
    refine xr_mld C X hg 45 (by decide) (by decide) rfl d_EM_commit_112 hv ?_
    replace h := xb h
    obtain ⟨M2, hv, h⟩ := h
    refine xr_mst C X hg 55 (by decide) (by decide) rfl d_EM_commit_113 hv (fun H locs X => ?_)
    refine lv_iinc (k := 3) (v := (x3 + (1 : Int32))) hx hb d_EM_commit_114 hl rfl (congrArg (fun y : Int32 => x3 + y) kn_i_1) (by decide) rfl (fun ls hl => ?_)
    have hl : lv_has ls 4 [(3, .int (x3 + (1 : Int32))), (0, .ref (xe_om E)), (1, .int x1), (2, .int x2)] := hl
    refine lv_goto (tgt := 86) hx hb d_EM_commit_117 (by decide +kernel) ?_
    exact hrec86 (x1 := x1) (x2 := x2) (x3 := (x3 + (1 : Int32))) X (lv_sub hl [1, 2, 3, 0] rfl) h
theorem kw_EM_commit_86 {r : Int32} (C : xx_C p m c b_EM_commit 4 s args Rn_EM E) (hlk : meth.locks = false) (hr : meth.sig.returnType = (some .boolean)) (hin : meth.name = "commit") (hg : xe_g E = true) : ∀ (n : Nat) {H : Heap} {locs : List Loc} {ls : Array Slot} {M : xm} {x1 : Int32} {x2 : Int32} {x3 : Int32}, xx_S E K M s H locs → lv_has ls 4 [(0, .ref (xe_om E)), (1, .int x1), (2, .int x2), (3, .int x3)] → kf_EM_commit_86 n M x1 x2 x3 = some (r, M') → W p l e { frames := 2, cells := 0, slots := 0, locals := 41 } s m args below meth c H locs 0 0 (MQ below (xq_i E K M' r) args s 0 0 (xe_A E)) (F0 m 86 ls []) := by
  intro n
  induction n with
  | zero => intro H locs ls M x1 x2 x3 X hl h; exact nomatch (show (none : Option (Int32 × xm)) = some _ from h)
  | succ n ih => intro H locs ls M x1 x2 x3 X hl h; exact kwb_EM_commit_86 C hlk hr hin hg ih X hl h
set_option maxHeartbeats 4000000 in
set_option maxRecDepth 100000 in
theorem kw_EM_commit_60 {x1 : Int32} {x2 : Int32} {r : Int32} (C : xx_C p m c b_EM_commit 4 s args Rn_EM E) (hlk : meth.locks = false) (hr : meth.sig.returnType = (some .boolean)) (hin : meth.name = "commit") (hg : xe_g E = true) (X : xx_S E K M s H locs) (hl : lv_has ls 4 [(0, .ref (xe_om E)), (1, .int x1), (2, .int x2)]) (h : kf_EM_commit_60 M x1 x2 = some (r, M')) : W p l e { frames := 2, cells := 0, slots := 0, locals := 41 } s m args below meth c H locs 0 0 (MQ below (xq_i E K M' r) args s 0 0 (xe_A E)) (F0 m 60 ls []) := by
  have hx := C.1.1
  have hb := C.1.2.1
  unfold kf_EM_commit_60 at h
  refine lv_aload_n hx hb d_EM_commit_60 rfl (lv_at hl 0 rfl) ?_
  refine xr_mga C X hg xc_EM 53 (by decide) (by decide) (by decide) m_514 d_EM_commit_61 ?_
  refine lv_iload_n hx hb d_EM_commit_64 rfl (lv_at hl 2 rfl) ?_
  refine lv_aload_n hx hb d_EM_commit_65 rfl (lv_at hl 0 rfl) ?_
  refine xr_mga C X hg xc_EM 43 (by decide) (by decide) (by decide) m_505 d_EM_commit_66 ?_
  refine lv_iload_n hx hb d_EM_commit_69 rfl (lv_at hl 1 rfl) ?_
  replace h := xb h
  obtain ⟨v1, hv, h⟩ := h
  refine xr_mld C X hg 43 (by decide) (by decide) rfl d_EM_commit_70 hv ?_
  replace h := xb h
  obtain ⟨M2, hv, h⟩ := h
  refine xr_mst C X hg 53 (by decide) (by decide) rfl d_EM_commit_71 hv (fun H locs X => ?_)
  refine lv_aload_n hx hb d_EM_commit_72 rfl (lv_at hl 0 rfl) ?_
  refine xr_mga C X hg xc_EM 54 (by decide) (by decide) (by decide) m_515 d_EM_commit_73 ?_
  refine lv_iload_n hx hb d_EM_commit_76 rfl (lv_at hl 2 rfl) ?_
  refine lv_aload_n hx hb d_EM_commit_77 rfl (lv_at hl 0 rfl) ?_
  refine xr_mga C X hg xc_EM 44 (by decide) (by decide) (by decide) m_506 d_EM_commit_78 ?_
  refine lv_iload_n hx hb d_EM_commit_81 rfl (lv_at hl 1 rfl) ?_
  replace h := xb h
  obtain ⟨v3, hv, h⟩ := h
  refine xr_mld C X hg 44 (by decide) (by decide) rfl d_EM_commit_82 hv ?_
  replace h := xb h
  obtain ⟨M4, hv, h⟩ := h
  refine xr_mst C X hg 54 (by decide) (by decide) rfl d_EM_commit_83 hv (fun H locs X => ?_)
  refine lv_iconst hx hb d_EM_commit_84 kn_i_0 ?_
  refine lv_istore_n hx hb d_EM_commit_85 rfl hl (by decide) rfl (fun ls hl => ?_)
  have hl : lv_has ls 4 [(3, .int (0 : Int32)), (0, .ref (xe_om E)), (1, .int x1), (2, .int x2)] := hl
  exact kw_EM_commit_86 C hlk hr hin hg 1000 X (lv_sub hl [1, 2, 3, 0] rfl) h
set_option maxHeartbeats 4000000 in
set_option maxRecDepth 100000 in
theorem kw_EM_commit_0 {x1 : Int32} {r : Int32} (C : xx_C p m c b_EM_commit 4 s args Rn_EM E) (hlk : meth.locks = false) (hr : meth.sig.returnType = (some .boolean)) (hin : meth.name = "commit") (hg : xe_g E = true) (X : xx_S E K M s H locs) (hl : lv_has ls 4 [(0, .ref (xe_om E)), (1, .int x1)]) (h : kf_EM_commit_0 M x1 = some (r, M')) : W p l e { frames := 2, cells := 0, slots := 0, locals := 41 } s m args below meth c H locs 0 0 (MQ below (xq_i E K M' r) args s 0 0 (xe_A E)) (F0 m 0 ls []) := by
  have hx := C.1.1
  have hb := C.1.2.1
  unfold kf_EM_commit_0 at h
  refine lv_aload_n hx hb d_EM_commit_0 rfl (lv_at hl 0 rfl) ?_
  refine lv_iload_n hx hb d_EM_commit_1 rfl (lv_at hl 1 rfl) ?_
  replace h := xpb h
  obtain ⟨r2, M1, hv, h⟩ := h
  refine xr_ki (va_runV (As := [.int x1]) (rest := []) C.1 (kc_EM_isOpen l E hg hv) (cwV 1 C.1.2.2.2.2 (xw_V m_594 m_595 m_596 m_521 m_597) rfl rfl rfl ky_EM_isOpen ⟨(Nat.le_of_ble_eq_true rfl), (Nat.le_of_ble_eq_true rfl)⟩) (xr_pV C X xc_EM.1 (xk_Xw (X.1.2.2.2.2.2 hg).1)) rfl rfl hl.1 rfl (lv_room (Nat.le_of_ble_eq_true rfl)) d_EM_commit_2 ⟨(Nat.le_of_ble_eq_true rfl), (Nat.le_of_ble_eq_true rfl)⟩) X (fun H locs X => ?_)
  refine lv_if_ne (tgt := 10) hx hb d_EM_commit_5 (by decide +kernel) (fun hc => ?_) (fun hc => ?_)
  · rw [if_neg hc] at h
    refine lv_aload_n hx hb d_EM_commit_10 rfl (lv_at hl 0 rfl) ?_
    refine xr_mga C X hg xc_EM 44 (by decide) (by decide) (by decide) m_506 d_EM_commit_11 ?_
    refine lv_iload_n hx hb d_EM_commit_14 rfl (lv_at hl 1 rfl) ?_
    replace h := xb h
    obtain ⟨v3, hv, h⟩ := h
    refine xr_mld C X hg 44 (by decide) (by decide) rfl d_EM_commit_15 hv ?_
    refine lv_if_ne (tgt := 28) hx hb d_EM_commit_16 (by decide +kernel) (fun hc => ?_) (fun hc => ?_)
    · rw [if_neg hc] at h
      refine lv_aload_n hx hb d_EM_commit_28 rfl (lv_at hl 0 rfl) ?_
      refine xr_mga C X hg xc_EM 40 (by decide) (by decide) (by decide) m_502 d_EM_commit_29 ?_
      refine lv_iload_n hx hb d_EM_commit_32 rfl (lv_at hl 1 rfl) ?_
      refine lv_iconst hx hb d_EM_commit_33 kn_i_3 ?_
      replace h := xb h
      obtain ⟨M4, hv, h⟩ := h
      refine xr_mst C X hg 40 (by decide) (by decide) rfl d_EM_commit_34 hv (fun H locs X => ?_)
      refine lv_aload_n hx hb d_EM_commit_35 rfl (lv_at hl 0 rfl) ?_
      refine lv_iconst hx hb d_EM_commit_36 kn_i_5 ?_
      refine lv_iload_n hx hb d_EM_commit_37 rfl (lv_at hl 1 rfl) ?_
      refine lv_aload_n hx hb d_EM_commit_38 rfl (lv_at hl 0 rfl) ?_
      refine xr_mga C X hg xc_EM 38 (by decide) (by decide) (by decide) m_500 d_EM_commit_39 ?_
      refine lv_iload_n hx hb d_EM_commit_42 rfl (lv_at hl 1 rfl) ?_
      replace h := xb h
      obtain ⟨v5, hv, h⟩ := h
      refine xr_mld C X hg 38 (by decide) (by decide) rfl d_EM_commit_43 hv ?_
      refine lv_aload_n hx hb d_EM_commit_44 rfl (lv_at hl 0 rfl) ?_
      refine xr_mga C X hg xc_EM 41 (by decide) (by decide) (by decide) m_503 d_EM_commit_45 ?_
      refine lv_iload_n hx hb d_EM_commit_48 rfl (lv_at hl 1 rfl) ?_
      replace h := xb h
      obtain ⟨v6, hv, h⟩ := h
      refine xr_mld C X hg 41 (by decide) (by decide) rfl d_EM_commit_49 hv ?_
      refine lv_aload_n hx hb d_EM_commit_50 rfl (lv_at hl 0 rfl) ?_
      refine xr_mga C X hg xc_EM 39 (by decide) (by decide) (by decide) m_501 d_EM_commit_51 ?_
      refine lv_iload_n hx hb d_EM_commit_54 rfl (lv_at hl 1 rfl) ?_
      replace h := xb h
      obtain ⟨v7, hv, h⟩ := h
      refine xr_mld C X hg 39 (by decide) (by decide) rfl d_EM_commit_55 hv ?_
      replace h := xpb h
      obtain ⟨r9, M8, hv, h⟩ := h
      refine xr_ki (va_runV (As := [.int (5 : Int32), .int x1, .int v5, .int v6, .int v7]) (rest := []) C.1 (kc_EM_send l E hg hv) (cwV 5 C.1.2.2.2.2 (xw_V m_528 m_529 m_530 m_521 m_531) rfl rfl rfl ky_EM_send ⟨(Nat.le_of_ble_eq_true rfl), (Nat.le_of_ble_eq_true rfl)⟩) (xr_pV C X xc_EM.1 (xk_Xw (X.1.2.2.2.2.2 hg).1)) rfl rfl hl.1 rfl (lv_room (Nat.le_of_ble_eq_true rfl)) d_EM_commit_56 ⟨(Nat.le_of_ble_eq_true rfl), (Nat.le_of_ble_eq_true rfl)⟩) X (fun H locs X => ?_)
      refine lv_istore_n hx hb d_EM_commit_59 rfl hl (by decide) rfl (fun ls hl => ?_)
      have hl : lv_has ls 4 [(2, .int r9), (0, .ref (xe_om E)), (1, .int x1)] := hl
      exact kw_EM_commit_60 (x1 := x1) (x2 := r9) C hlk hr hin hg  X (lv_sub hl [1, 2, 0] rfl) h
    · rw [if_pos hc] at h
      refine lv_aload_n hx hb d_EM_commit_19 rfl (lv_at hl 0 rfl) ?_
      refine xr_mga C X hg xc_EM 40 (by decide) (by decide) (by decide) m_502 d_EM_commit_20 ?_
      refine lv_iload_n hx hb d_EM_commit_23 rfl (lv_at hl 1 rfl) ?_
      refine lv_iconst hx hb d_EM_commit_24 kn_i_4 ?_
      replace h := xb h
      obtain ⟨M10, hv, h⟩ := h
      refine xr_mst C X hg 40 (by decide) (by decide) rfl d_EM_commit_25 hv (fun H locs X => ?_)
      refine lv_iconst hx hb d_EM_commit_26 kn_i_1 ?_
      obtain ⟨rfl, rfl⟩ := Prod.mk.inj (Option.some.inj h)
      exact xr_zret C X hlk hr d_EM_commit_27 rfl (Nat.le_of_ble_eq_true rfl) (Nat.le_of_ble_eq_true rfl)
  · rw [if_pos hc] at h
    refine lv_iconst hx hb d_EM_commit_8 kn_i_0 ?_
    obtain ⟨rfl, rfl⟩ := Prod.mk.inj (Option.some.inj h)
    exact xr_zret C X hlk hr d_EM_commit_9 rfl (Nat.le_of_ble_eq_true rfl) (Nat.le_of_ble_eq_true rfl)
theorem kc_EM_commit (l : Launch) (E : xe) (hg : xe_g E = true) {x1 : Int32} {r : Int32} (h : kf_EM_commit_0 M x1 = some (r, M')) : Met l y_EM_commit (Cond.code y_EM_commit b_EM_commit 4 (some .boolean) :: w_all) { frames := 2, cells := 0, slots := 0, locals := 41 } (va_Pc [.ref (xe_om E), .int x1] (fun U => xx_B E K M U)) (xq_i E K M' r) 0 0 (xe_A E) :=
  xr_met (by decide) (Nat.le_of_ble_eq_true rfl) fun p e s m below meth c ls C X hlk hr hin hl => kw_EM_commit_0 C hlk hr hin hg X hl h
set_option maxHeartbeats 4000000 in
set_option maxRecDepth 100000 in
theorem kw_EM_giveUp_52 {r : Int32} (C : xx_C p m c b_EM_giveUp 2 s args Rn_EM E) (hlk : meth.locks = false) (hr : meth.sig.returnType = (some .boolean)) (hin : meth.name = "giveUp") (hg : xe_g E = true) (X : xx_S E K M s H locs) (hl : lv_has ls 2 []) (h : kf_EM_giveUp_52 M = some (r, M')) : W p l e { frames := 1, cells := 0, slots := 0, locals := 20 } s m args below meth c H locs 0 0 (MQ below (xq_i E K M' r) args s 0 0 (xe_A E)) (F0 m 52 ls []) := by
  have hx := C.1.1
  have hb := C.1.2.1
  unfold kf_EM_giveUp_52 at h
  refine lv_iconst hx hb d_EM_giveUp_52 kn_i_1 ?_
  obtain ⟨rfl, rfl⟩ := Prod.mk.inj (Option.some.inj h)
  exact xr_zret C X hlk hr d_EM_giveUp_53 rfl (Nat.le_of_ble_eq_true rfl) (Nat.le_of_ble_eq_true rfl)
set_option maxHeartbeats 4000000 in
set_option maxRecDepth 100000 in
theorem kw_EM_giveUp_0 {x1 : Int32} {r : Int32} (C : xx_C p m c b_EM_giveUp 2 s args Rn_EM E) (hlk : meth.locks = false) (hr : meth.sig.returnType = (some .boolean)) (hin : meth.name = "giveUp") (hg : xe_g E = true) (X : xx_S E K M s H locs) (hl : lv_has ls 2 [(0, .ref (xe_om E)), (1, .int x1)]) (h : kf_EM_giveUp_0 M x1 = some (r, M')) : W p l e { frames := 1, cells := 0, slots := 0, locals := 20 } s m args below meth c H locs 0 0 (MQ below (xq_i E K M' r) args s 0 0 (xe_A E)) (F0 m 0 ls []) := by
  have hx := C.1.1
  have hb := C.1.2.1
  unfold kf_EM_giveUp_0 at h
  refine lv_iload_n hx hb d_EM_giveUp_0 rfl (lv_at hl 1 rfl) ?_
  replace h := xpb h
  obtain ⟨r2, M1, hv, h⟩ := h
  refine xr_ki (va_runS (As := [.int x1]) (rest := []) C.1 (kc_EM_isClient l E hg hv) (cwS 1 C.1.2.2.2.2 (xw_S m_580 m_581 m_521 m_582) rfl rfl rfl ky_EM_isClient ⟨(Nat.le_of_ble_eq_true rfl), (Nat.le_of_ble_eq_true rfl)⟩) (xr_pS C X) rfl rfl hl.1 rfl (lv_room (Nat.le_of_ble_eq_true rfl)) d_EM_giveUp_1 ⟨(Nat.le_of_ble_eq_true rfl), (Nat.le_of_ble_eq_true rfl)⟩) X (fun H locs X => ?_)
  refine lv_if_eq (tgt := 27) hx hb d_EM_giveUp_4 (by decide +kernel) (fun hc => ?_) (fun hc => ?_)
  · rw [if_pos hc] at h
    refine lv_iconst hx hb d_EM_giveUp_27 kn_i_0 ?_
    obtain ⟨rfl, rfl⟩ := Prod.mk.inj (Option.some.inj h)
    exact xr_zret C X hlk hr d_EM_giveUp_28 rfl (Nat.le_of_ble_eq_true rfl) (Nat.le_of_ble_eq_true rfl)
  · rw [if_neg hc] at h
    refine lv_aload_n hx hb d_EM_giveUp_7 rfl (lv_at hl 0 rfl) ?_
    refine xr_mga C X hg xc_EM 40 (by decide) (by decide) (by decide) m_502 d_EM_giveUp_8 ?_
    refine lv_iload_n hx hb d_EM_giveUp_11 rfl (lv_at hl 1 rfl) ?_
    replace h := xb h
    obtain ⟨v3, hv, h⟩ := h
    refine xr_mld C X hg 40 (by decide) (by decide) rfl d_EM_giveUp_12 hv ?_
    refine lv_iconst hx hb d_EM_giveUp_13 kn_i_1 ?_
    refine lv_icmp_lt (tgt := 27) hx hb d_EM_giveUp_14 (by decide +kernel) (fun hc => ?_) (fun hc => ?_)
    · rw [if_pos hc] at h
      refine lv_iconst hx hb d_EM_giveUp_27 kn_i_0 ?_
      obtain ⟨rfl, rfl⟩ := Prod.mk.inj (Option.some.inj h)
      exact xr_zret C X hlk hr d_EM_giveUp_28 rfl (Nat.le_of_ble_eq_true rfl) (Nat.le_of_ble_eq_true rfl)
    · rw [if_neg hc] at h
      refine lv_aload_n hx hb d_EM_giveUp_17 rfl (lv_at hl 0 rfl) ?_
      refine xr_mga C X hg xc_EM 40 (by decide) (by decide) (by decide) m_502 d_EM_giveUp_18 ?_
      refine lv_iload_n hx hb d_EM_giveUp_21 rfl (lv_at hl 1 rfl) ?_
      replace h := xb h
      obtain ⟨v4, hv, h⟩ := h
      refine xr_mld C X hg 40 (by decide) (by decide) rfl d_EM_giveUp_22 hv ?_
      refine lv_iconst hx hb d_EM_giveUp_23 kn_i_3 ?_
      refine lv_icmp_le (tgt := 29) hx hb d_EM_giveUp_24 (by decide +kernel) (fun hc => ?_) (fun hc => ?_)
      · rw [if_pos hc] at h
        refine lv_aload_n hx hb d_EM_giveUp_29 rfl (lv_at hl 0 rfl) ?_
        refine xr_mga C X hg xc_EM 40 (by decide) (by decide) (by decide) m_502 d_EM_giveUp_30 ?_
        refine lv_iload_n hx hb d_EM_giveUp_33 rfl (lv_at hl 1 rfl) ?_
        refine lv_aload_n hx hb d_EM_giveUp_34 rfl (lv_at hl 0 rfl) ?_
        refine xr_mga C X hg xc_EM 40 (by decide) (by decide) (by decide) m_502 d_EM_giveUp_35 ?_
        refine lv_iload_n hx hb d_EM_giveUp_38 rfl (lv_at hl 1 rfl) ?_
        replace h := xb h
        obtain ⟨v5, hv, h⟩ := h
        refine xr_mld C X hg 40 (by decide) (by decide) rfl d_EM_giveUp_39 hv ?_
        refine lv_iconst hx hb d_EM_giveUp_40 kn_i_3 ?_
        refine lv_icmp_ne (tgt := 49) hx hb d_EM_giveUp_41 (by decide +kernel) (fun hc => ?_) (fun hc => ?_)
        · rw [if_neg hc] at h
          refine lv_bipush hx hb d_EM_giveUp_49 kn_b_8 ?_
          replace h := xb h
          obtain ⟨M6, hv, h⟩ := h
          refine xr_mst C X hg 40 (by decide) (by decide) rfl d_EM_giveUp_51 hv (fun H locs X => ?_)
          exact kw_EM_giveUp_52 C hlk hr hin hg  X (lv_sub hl [] rfl) h
        · rw [if_pos hc] at h
          refine lv_bipush hx hb d_EM_giveUp_44 kn_b_7 ?_
          refine lv_goto (tgt := 51) hx hb d_EM_giveUp_46 (by decide +kernel) ?_
          replace h := xb h
          obtain ⟨M7, hv, h⟩ := h
          refine xr_mst C X hg 40 (by decide) (by decide) rfl d_EM_giveUp_51 hv (fun H locs X => ?_)
          exact kw_EM_giveUp_52 C hlk hr hin hg  X (lv_sub hl [] rfl) h
      · rw [if_neg hc] at h
        refine lv_iconst hx hb d_EM_giveUp_27 kn_i_0 ?_
        obtain ⟨rfl, rfl⟩ := Prod.mk.inj (Option.some.inj h)
        exact xr_zret C X hlk hr d_EM_giveUp_28 rfl (Nat.le_of_ble_eq_true rfl) (Nat.le_of_ble_eq_true rfl)
theorem kc_EM_giveUp (l : Launch) (E : xe) (hg : xe_g E = true) {x1 : Int32} {r : Int32} (h : kf_EM_giveUp_0 M x1 = some (r, M')) : Met l y_EM_giveUp (Cond.code y_EM_giveUp b_EM_giveUp 2 (some .boolean) :: w_all) { frames := 1, cells := 0, slots := 0, locals := 20 } (va_Pc [.ref (xe_om E), .int x1] (fun U => xx_B E K M U)) (xq_i E K M' r) 0 0 (xe_A E) :=
  xr_met (by decide) (Nat.le_of_ble_eq_true rfl) fun p e s m below meth c ls C X hlk hr hin hl => kw_EM_giveUp_0 C hlk hr hin hg X hl h
set_option maxHeartbeats 4000000 in
set_option maxRecDepth 100000 in
theorem kw_EM_status_0 {x1 : Int32} {r : Int32} (C : xx_C p m c b_EM_status 2 s args Rn_EM E) (hlk : meth.locks = false) (hr : meth.sig.returnType = (some .int)) (hin : meth.name = "status") (hg : xe_g E = true) (X : xx_S E K M s H locs) (hl : lv_has ls 2 [(0, .ref (xe_om E)), (1, .int x1)]) (h : kf_EM_status_0 M x1 = some (r, M')) : W p l e { frames := 1, cells := 0, slots := 0, locals := 20 } s m args below meth c H locs 0 0 (MQ below (xq_i E K M' r) args s 0 0 (xe_A E)) (F0 m 0 ls []) := by
  have hx := C.1.1
  have hb := C.1.2.1
  unfold kf_EM_status_0 at h
  refine lv_iload_n hx hb d_EM_status_0 rfl (lv_at hl 1 rfl) ?_
  replace h := xpb h
  obtain ⟨r2, M1, hv, h⟩ := h
  refine xr_ki (va_runS (As := [.int x1]) (rest := []) C.1 (kc_EM_isClient l E hg hv) (cwS 1 C.1.2.2.2.2 (xw_S m_580 m_581 m_521 m_582) rfl rfl rfl ky_EM_isClient ⟨(Nat.le_of_ble_eq_true rfl), (Nat.le_of_ble_eq_true rfl)⟩) (xr_pS C X) rfl rfl hl.1 rfl (lv_room (Nat.le_of_ble_eq_true rfl)) d_EM_status_1 ⟨(Nat.le_of_ble_eq_true rfl), (Nat.le_of_ble_eq_true rfl)⟩) X (fun H locs X => ?_)
  refine lv_if_eq (tgt := 36) hx hb d_EM_status_4 (by decide +kernel) (fun hc => ?_) (fun hc => ?_)
  · rw [if_pos hc] at h
    refine lv_iconst hx hb d_EM_status_36 kn_i_m1 ?_
    obtain ⟨rfl, rfl⟩ := Prod.mk.inj (Option.some.inj h)
    exact xr_iret C X hlk hr d_EM_status_37 rfl (Nat.le_of_ble_eq_true rfl) (Nat.le_of_ble_eq_true rfl)
  · rw [if_neg hc] at h
    refine lv_aload_n hx hb d_EM_status_7 rfl (lv_at hl 0 rfl) ?_
    refine xr_mga C X hg xc_EM 40 (by decide) (by decide) (by decide) m_502 d_EM_status_8 ?_
    refine lv_iload_n hx hb d_EM_status_11 rfl (lv_at hl 1 rfl) ?_
    replace h := xb h
    obtain ⟨v3, hv, h⟩ := h
    refine xr_mld C X hg 40 (by decide) (by decide) rfl d_EM_status_12 hv ?_
    refine lv_bipush hx hb d_EM_status_13 kn_b_16 ?_
    refine lv_aload_n hx hb d_EM_status_15 rfl (lv_at hl 0 rfl) ?_
    refine xr_mga C X hg xc_EM 41 (by decide) (by decide) (by decide) m_503 d_EM_status_16 ?_
    refine lv_iload_n hx hb d_EM_status_19 rfl (lv_at hl 1 rfl) ?_
    replace h := xb h
    obtain ⟨v4, hv, h⟩ := h
    refine xr_mld C X hg 41 (by decide) (by decide) rfl d_EM_status_20 hv ?_
    refine lv_imul hx hb d_EM_status_21 ?_
    refine lv_iadd hx hb d_EM_status_22 ?_
    refine lv_ldc hx hb C.1.2.2.2.1 (C.1.2.2.2.2 _ m_523) d_EM_status_23 ?_
    refine lv_aload_n hx hb d_EM_status_25 rfl (lv_at hl 0 rfl) ?_
    refine xr_mga C X hg xc_EM 46 (by decide) (by decide) (by decide) m_508 d_EM_status_26 ?_
    refine lv_iload_n hx hb d_EM_status_29 rfl (lv_at hl 1 rfl) ?_
    replace h := xb h
    obtain ⟨v5, hv, h⟩ := h
    refine xr_mld C X hg 46 (by decide) (by decide) rfl d_EM_status_30 hv ?_
    refine lv_imul hx hb d_EM_status_31 ?_
    refine lv_iadd hx hb d_EM_status_32 ?_
    refine lv_goto (tgt := 37) hx hb d_EM_status_33 (by decide +kernel) ?_
    obtain ⟨rfl, rfl⟩ := Prod.mk.inj (Option.some.inj h)
    exact xr_iret C X hlk hr d_EM_status_37 rfl (Nat.le_of_ble_eq_true rfl) (Nat.le_of_ble_eq_true rfl)
theorem kc_EM_status (l : Launch) (E : xe) (hg : xe_g E = true) {x1 : Int32} {r : Int32} (h : kf_EM_status_0 M x1 = some (r, M')) : Met l y_EM_status (Cond.code y_EM_status b_EM_status 2 (some .int) :: w_all) { frames := 1, cells := 0, slots := 0, locals := 20 } (va_Pc [.ref (xe_om E), .int x1] (fun U => xx_B E K M U)) (xq_i E K M' r) 0 0 (xe_A E) :=
  xr_met (by decide) (Nat.le_of_ble_eq_true rfl) fun p e s m below meth c ls C X hlk hr hin hl => kw_EM_status_0 C hlk hr hin hg X hl h
end KW18
