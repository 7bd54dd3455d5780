/-! EpochStoreModel.turned(IIZ)Z -/
def kf_EM_turned_101 (M : xm) (x3 : Int32) (x4 : Int32) : Option (Int32 × xm) := if x4 = x3 then (some ((0 : Int32), M)) else some ((1 : Int32), M)
def kf_EM_turned_63 (M : xm) (x1 : Int32) (x2 : Int32) (x3 : Int32) (s0 : Int32) : Option (Int32 × xm) := if x1 = 0 then ((xMz M 1 x2 x3).bind fun M3 => kf_EM_turned_101 M3 x3 s0) else if x1 = (1 : Int32) then ((xMz M 3 x2 x3).bind fun M2 => kf_EM_turned_101 M2 x3 s0) else (xMz M 11 x2 x3).bind fun M1 => kf_EM_turned_101 M1 x3 s0
def kf_EM_turned_30 (M : xm) (x1 : Int32) (x2 : Int32) (x3 : Int32) : Option (Int32 × xm) := if x1 = 0 then ((xMi M 1 x2).bind fun v3 => kf_EM_turned_63 M x1 x2 x3 v3) else if x1 = (1 : Int32) then ((xMi M 3 x2).bind fun v2 => kf_EM_turned_63 M x1 x2 x3 v2) else (xMi M 11 x2).bind fun v1 => kf_EM_turned_63 M x1 x2 x3 v1
def kf_EM_turned_0 (M : xm) (x1 : Int32) (x2 : Int32) (x3 : Int32) : Option (Int32 × xm) := if x2 < 0 then (some ((0 : Int32), M)) else if (2 : Int32) < x2 then (some ((0 : Int32), M)) else if x1 < 0 then (some ((0 : Int32), M)) else if (2 : Int32) < x1 then (some ((0 : Int32), M)) else if x1 = (2 : Int32) then (if x2 = (2 : Int32) then (some ((0 : Int32), M)) else kf_EM_turned_30 M x1 x2 x3) else kf_EM_turned_30 M x1 x2 x3
/-! EpochStoreModel.stop(II)Z -/
def kf_EM_stop_0 (M : xm) (x1 : Int32) (x2 : Int32) : Option (Int32 × xm) := if x1 = (3 : Int32) then (xp (kf_EM_isMaster_0 M x2) fun r5 M4 => if r5 = 0 then ((xZ r5).bind fun z6 => some (z6, M4)) else (xMz M4 17 x2 (0 : Int32)).bind fun M7 => (xZ r5).bind fun z8 => some (z8, M7)) else xp (kf_EM_turned_0 M x1 x2 (0 : Int32)) fun r2 M1 => (xZ r2).bind fun z3 => some (z3, M1)
/-! EpochStoreModel.start(II)Z -/
def kf_EM_start_0 (M : xm) (x1 : Int32) (x2 : Int32) : Option (Int32 × xm) := xp (kf_EM_turned_0 M x1 x2 (1 : Int32)) fun r2 M1 => (xZ r2).bind fun z3 => some (z3, M1)
/-! EpochStoreModel.log(I)I -/
def kf_EM_log_0 (M : xm) (x1 : Int32) : Option (Int32 × xm) := if x1 < 0 then (some ((-1 : Int32), M)) else if x1 ≤ (2 : Int32) then ((xMi M 5 x1).bind fun v1 => (xMi M 2 x1).bind fun v2 => (xMi M 4 x1).bind fun v3 => (xMi M 3 x1).bind fun v4 => if v4 = 0 then (some ((((v1 + ((128 : Int32) * v2)) + ((2048 : Int32) * v3)) + (0 : Int32)), M)) else some ((((v1 + ((128 : Int32) * v2)) + ((2048 : Int32) * v3)) + (1073741824 : Int32)), M)) else some ((-1 : Int32), M)
/-! EpochStoreModel.storage(I)I -/
def kf_EM_storage_0 (M : xm) (x1 : Int32) : Option (Int32 × xm) := if x1 < 0 then (some ((-1 : Int32), M)) else if x1 ≤ (1 : Int32) then ((xMi M 13 x1).bind fun v1 => (xMi M 10 x1).bind fun v2 => (xMi M 12 x1).bind fun v3 => (xMi M 11 x1).bind fun v4 => if v4 = 0 then (some ((((v1 + ((128 : Int32) * v2)) + ((2048 : Int32) * v3)) + (0 : Int32)), M)) else some ((((v1 + ((128 : Int32) * v2)) + ((2048 : Int32) * v3)) + (1073741824 : Int32)), M)) else some ((-1 : Int32), M)
/-! EpochStoreModel.coordinator(I)I -/
def kf_EM_coordinator_0 (M : xm) (x1 : Int32) : Option (Int32 × xm) := if x1 < 0 then (some ((-1 : Int32), M)) else if x1 ≤ (2 : Int32) then ((xMi M 0 x1).bind fun v1 => (xMi M 1 x1).bind fun v2 => if v2 = 0 then (some ((v1 + (0 : Int32)), M)) else some ((v1 + (16 : Int32)), M)) else some ((-1 : Int32), M)
section KW21
variable {p : Program} {l : Launch} {e : Env} {s : State} {m : MethodId} {args : Array Value} {below : List Frame} {meth : Method} {c : Code} {H : Heap} {locs : List Loc} {ls : Array Slot} {E : xe} {K K' : xk} {M M' : xm}
set_option maxHeartbeats 4000000 in
set_option maxRecDepth 100000 in
theorem kw_EM_turned_101 {x3 : Int32} {x4 : Int32} {r : Int32} (C : xx_C p m c b_EM_turned 5 s args Rn_EM E) (hlk : meth.locks = false) (hr : meth.sig.returnType = (some .boolean)) (hin : meth.name = "turned") (hg : xe_g E = true) (X : xx_S E K M s H locs) (hl : lv_has ls 5 [(3, .int x3), (4, .int x4)]) (h : kf_EM_turned_101 M x3 x4 = some (r, M')) : W p l e { frames := 0, cells := 0, slots := 0, locals := 0 } s m args below meth c H locs 0 0 (MQ below (xq_i E K M' r) args s 0 0 (xe_A E)) (F0 m 101 ls []) := by
  have hx := C.1.1
  have hb := C.1.2.1
  unfold kf_EM_turned_101 at h
  refine lv_iload hx hb d_EM_turned_101 (lv_at hl 1 rfl) ?_
  refine lv_iload_n hx hb d_EM_turned_103 rfl (lv_at hl 0 rfl) ?_
  refine lv_icmp_eq (tgt := 111) hx hb d_EM_turned_104 (by decide +kernel) (fun hc => ?_) (fun hc => ?_)
  · rw [if_pos hc] at h
    refine lv_iconst hx hb d_EM_turned_111 kn_i_0 ?_
    obtain ⟨rfl, rfl⟩ := Prod.mk.inj (Option.some.inj h)
    exact xr_zret C X hlk hr d_EM_turned_112 rfl (Nat.le_of_ble_eq_true rfl) (Nat.le_of_ble_eq_true rfl)
  · rw [if_neg hc] at h
    refine lv_iconst hx hb d_EM_turned_107 kn_i_1 ?_
    refine lv_goto (tgt := 112) hx hb d_EM_turned_108 (by decide +kernel) ?_
    obtain ⟨rfl, rfl⟩ := Prod.mk.inj (Option.some.inj h)
    exact xr_zret C X hlk hr d_EM_turned_112 rfl (Nat.le_of_ble_eq_true rfl) (Nat.le_of_ble_eq_true rfl)
set_option maxHeartbeats 4000000 in
set_option maxRecDepth 100000 in
theorem kw_EM_turned_63 {x1 : Int32} {x2 : Int32} {x3 : Int32} {s0 : Int32} {r : Int32} (C : xx_C p m c b_EM_turned 5 s args Rn_EM E) (hlk : meth.locks = false) (hr : meth.sig.returnType = (some .boolean)) (hin : meth.name = "turned") (hg : xe_g E = true) (X : xx_S E K M s H locs) (hl : lv_has ls 5 [(0, .ref (xe_om E)), (1, .int x1), (2, .int x2), (3, .int x3)]) (h : kf_EM_turned_63 M x1 x2 x3 s0 = some (r, M')) : W p l e { frames := 0, cells := 0, slots := 0, locals := 0 } s m args below meth c H locs 0 0 (MQ below (xq_i E K M' r) args s 0 0 (xe_A E)) (F0 m 63 ls [.int s0]) := by
  have hx := C.1.1
  have hb := C.1.2.1
  unfold kf_EM_turned_63 at h
  refine lv_istore hx hb d_EM_turned_63 hl (by decide) rfl (fun ls hl => ?_)
  have hl : lv_has ls 5 [(4, .int s0), (0, .ref (xe_om E)), (1, .int x1), (2, .int x2), (3, .int x3)] := hl
  refine lv_iload_n hx hb d_EM_turned_65 rfl (lv_at hl 2 rfl) ?_
  refine lv_if_ne (tgt := 79) hx hb d_EM_turned_66 (by decide +kernel) (fun hc => ?_) (fun hc => ?_)
  · rw [if_neg hc] at h
    refine lv_iload_n hx hb d_EM_turned_79 rfl (lv_at hl 2 rfl) ?_
    refine lv_iconst hx hb d_EM_turned_80 kn_i_1 ?_
    refine lv_icmp_ne (tgt := 94) hx hb d_EM_turned_81 (by decide +kernel) (fun hc => ?_) (fun hc => ?_)
    · rw [if_neg hc] at h
      refine lv_aload_n hx hb d_EM_turned_94 rfl (lv_at hl 1 rfl) ?_
      refine xr_mga C X hg xc_EM 11 (by decide) (by decide) (by decide) m_473 d_EM_turned_95 ?_
      refine lv_iload_n hx hb d_EM_turned_98 rfl (lv_at hl 3 rfl) ?_
      refine lv_iload_n hx hb d_EM_turned_99 rfl (lv_at hl 4 rfl) ?_
      replace h := xb h
      obtain ⟨M1, hv, h⟩ := h
      refine xr_mstz C X hg 11 (by decide) (by decide) rfl d_EM_turned_100 hv (fun H locs X => ?_)
      exact kw_EM_turned_101 (x3 := x3) (x4 := s0) C hlk hr hin hg  X (lv_sub hl [4, 0] rfl) h
    · rw [if_pos hc] at h
      refine lv_aload_n hx hb d_EM_turned_84 rfl (lv_at hl 1 rfl) ?_
      refine xr_mga C X hg xc_EM 3 (by decide) (by decide) (by decide) m_465 d_EM_turned_85 ?_
      refine lv_iload_n hx hb d_EM_turned_88 rfl (lv_at hl 3 rfl) ?_
      refine lv_iload_n hx hb d_EM_turned_89 rfl (lv_at hl 4 rfl) ?_
      replace h := xb h
      obtain ⟨M2, hv, h⟩ := h
      refine xr_mstz C X hg 3 (by decide) (by decide) rfl d_EM_turned_90 hv (fun H locs X => ?_)
      refine lv_goto (tgt := 101) hx hb d_EM_turned_91 (by decide +kernel) ?_
      exact kw_EM_turned_101 (x3 := x3) (x4 := s0) C hlk hr hin hg  X (lv_sub hl [4, 0] rfl) h
  · rw [if_pos hc] at h
    refine lv_aload_n hx hb d_EM_turned_69 rfl (lv_at hl 1 rfl) ?_
    refine xr_mga C X hg xc_EM 1 (by decide) (by decide) (by decide) m_463 d_EM_turned_70 ?_
    refine lv_iload_n hx hb d_EM_turned_73 rfl (lv_at hl 3 rfl) ?_
    refine lv_iload_n hx hb d_EM_turned_74 rfl (lv_at hl 4 rfl) ?_
    replace h := xb h
    obtain ⟨M3, hv, h⟩ := h
    refine xr_mstz C X hg 1 (by decide) (by decide) rfl d_EM_turned_75 hv (fun H locs X => ?_)
    refine lv_goto (tgt := 101) hx hb d_EM_turned_76 (by decide +kernel) ?_
    exact kw_EM_turned_101 (x3 := x3) (x4 := s0) C hlk hr hin hg  X (lv_sub hl [4, 0] rfl) h
set_option maxHeartbeats 4000000 in
set_option maxRecDepth 100000 in
theorem kw_EM_turned_30 {x1 : Int32} {x2 : Int32} {x3 : Int32} {r : Int32} (C : xx_C p m c b_EM_turned 5 s args Rn_EM E) (hlk : meth.locks = false) (hr : meth.sig.returnType = (some .boolean)) (hin : meth.name = "turned") (hg : xe_g E = true) (X : xx_S E K M s H locs) (hl : lv_has ls 5 [(0, .ref (xe_om E)), (1, .int x1), (2, .int x2), (3, .int x3)]) (h : kf_EM_turned_30 M x1 x2 x3 = some (r, M')) : W p l e { frames := 0, cells := 0, slots := 0, locals := 0 } s m args below meth c H locs 0 0 (MQ below (xq_i E K M' r) args s 0 0 (xe_A E)) (F0 m 30 ls []) := by
  have hx := C.1.1
  have hb := C.1.2.1
  unfold kf_EM_turned_30 at h
  refine lv_iload_n hx hb d_EM_turned_30 rfl (lv_at hl 1 rfl) ?_
  refine lv_if_ne (tgt := 43) hx hb d_EM_turned_31 (by decide +kernel) (fun hc => ?_) (fun hc => ?_)
  · rw [if_neg hc] at h
    refine lv_iload_n hx hb d_EM_turned_43 rfl (lv_at hl 1 rfl) ?_
    refine lv_iconst hx hb d_EM_turned_44 kn_i_1 ?_
    refine lv_icmp_ne (tgt := 57) hx hb d_EM_turned_45 (by decide +kernel) (fun hc => ?_) (fun hc => ?_)
    · rw [if_neg hc] at h
      refine lv_aload_n hx hb d_EM_turned_57 rfl (lv_at hl 0 rfl) ?_
      refine xr_mga C X hg xc_EM 11 (by decide) (by decide) (by decide) m_473 d_EM_turned_58 ?_
      refine lv_iload_n hx hb d_EM_turned_61 rfl (lv_at hl 2 rfl) ?_
      replace h := xb h
      obtain ⟨v1, hv, h⟩ := h
      refine xr_mldz C X hg 11 (by decide) (by decide) rfl d_EM_turned_62 hv ?_
      exact kw_EM_turned_63 (x1 := x1) (x2 := x2) (x3 := x3) (s0 := v1) C hlk hr hin hg  X (lv_sub hl [0, 1, 2, 3] rfl) h
    · rw [if_pos hc] at h
      refine lv_aload_n hx hb d_EM_turned_48 rfl (lv_at hl 0 rfl) ?_
      refine xr_mga C X hg xc_EM 3 (by decide) (by decide) (by decide) m_465 d_EM_turned_49 ?_
      refine lv_iload_n hx hb d_EM_turned_52 rfl (lv_at hl 2 rfl) ?_
      replace h := xb h
      obtain ⟨v2, hv, h⟩ := h
      refine xr_mldz C X hg 3 (by decide) (by decide) rfl d_EM_turned_53 hv ?_
      refine lv_goto (tgt := 63) hx hb d_EM_turned_54 (by decide +kernel) ?_
      exact kw_EM_turned_63 (x1 := x1) (x2 := x2) (x3 := x3) (s0 := v2) C hlk hr hin hg  X (lv_sub hl [0, 1, 2, 3] rfl) h
  · rw [if_pos hc] at h
    refine lv_aload_n hx hb d_EM_turned_34 rfl (lv_at hl 0 rfl) ?_
    refine xr_mga C X hg xc_EM 1 (by decide) (by decide) (by decide) m_463 d_EM_turned_35 ?_
    refine lv_iload_n hx hb d_EM_turned_38 rfl (lv_at hl 2 rfl) ?_
    replace h := xb h
    obtain ⟨v3, hv, h⟩ := h
    refine xr_mldz C X hg 1 (by decide) (by decide) rfl d_EM_turned_39 hv ?_
    refine lv_goto (tgt := 63) hx hb d_EM_turned_40 (by decide +kernel) ?_
    exact kw_EM_turned_63 (x1 := x1) (x2 := x2) (x3 := x3) (s0 := v3) C hlk hr hin hg  X (lv_sub hl [0, 1, 2, 3] rfl) h
set_option maxHeartbeats 4000000 in
set_option maxRecDepth 100000 in
theorem kw_EM_turned_0 {x1 : Int32} {x2 : Int32} {x3 : Int32} {r : Int32} (C : xx_C p m c b_EM_turned 5 s args Rn_EM E) (hlk : meth.locks = false) (hr : meth.sig.returnType = (some .boolean)) (hin : meth.name = "turned") (hg : xe_g E = true) (X : xx_S E K M s H locs) (hl : lv_has ls 5 [(0, .ref (xe_om E)), (1, .int x1), (2, .int x2), (3, .int x3)]) (h : kf_EM_turned_0 M x1 x2 x3 = some (r, M')) : W p l e { frames := 0, cells := 0, slots := 0, locals := 0 } s m args below meth c H locs 0 0 (MQ below (xq_i E K M' r) args s 0 0 (xe_A E)) (F0 m 0 ls []) := by
  have hx := C.1.1
  have hb := C.1.2.1
  unfold kf_EM_turned_0 at h
  refine lv_iload_n hx hb d_EM_turned_0 rfl (lv_at hl 2 rfl) ?_
  refine lv_if_lt (tgt := 28) hx hb d_EM_turned_1 (by decide +kernel) (fun hc => ?_) (fun hc => ?_)
  · rw [if_pos hc] at h
    refine lv_iconst hx hb d_EM_turned_28 kn_i_0 ?_
    obtain ⟨rfl, rfl⟩ := Prod.mk.inj (Option.some.inj h)
    exact xr_zret C X hlk hr d_EM_turned_29 rfl (Nat.le_of_ble_eq_true rfl) (Nat.le_of_ble_eq_true rfl)
  · rw [if_neg hc] at h
    refine lv_iload_n hx hb d_EM_turned_4 rfl (lv_at hl 2 rfl) ?_
    refine lv_iconst hx hb d_EM_turned_5 kn_i_2 ?_
    refine lv_icmp_gt (tgt := 28) hx hb d_EM_turned_6 (by decide +kernel) (fun hc => ?_) (fun hc => ?_)
    · rw [if_pos hc] at h
      refine lv_iconst hx hb d_EM_turned_28 kn_i_0 ?_
      obtain ⟨rfl, rfl⟩ := Prod.mk.inj (Option.some.inj h)
      exact xr_zret C X hlk hr d_EM_turned_29 rfl (Nat.le_of_ble_eq_true rfl) (Nat.le_of_ble_eq_true rfl)
    · rw [if_neg hc] at h
      refine lv_iload_n hx hb d_EM_turned_9 rfl (lv_at hl 1 rfl) ?_
      refine lv_if_lt (tgt := 28) hx hb d_EM_turned_10 (by decide +kernel) (fun hc => ?_) (fun hc => ?_)
      · rw [if_pos hc] at h
        refine lv_iconst hx hb d_EM_turned_28 kn_i_0 ?_
        obtain ⟨rfl, rfl⟩ := Prod.mk.inj (Option.some.inj h)
        exact xr_zret C X hlk hr d_EM_turned_29 rfl (Nat.le_of_ble_eq_true rfl) (Nat.le_of_ble_eq_true rfl)
      · rw [if_neg hc] at h
        refine lv_iload_n hx hb d_EM_turned_13 rfl (lv_at hl 1 rfl) ?_
        refine lv_iconst hx hb d_EM_turned_14 kn_i_2 ?_
        refine lv_icmp_gt (tgt := 28) hx hb d_EM_turned_15 (by decide +kernel) (fun hc => ?_) (fun hc => ?_)
        · rw [if_pos hc] at h
          refine lv_iconst hx hb d_EM_turned_28 kn_i_0 ?_
          obtain ⟨rfl, rfl⟩ := Prod.mk.inj (Option.some.inj h)
          exact xr_zret C X hlk hr d_EM_turned_29 rfl (Nat.le_of_ble_eq_true rfl) (Nat.le_of_ble_eq_true rfl)
        · rw [if_neg hc] at h
          refine lv_iload_n hx hb d_EM_turned_18 rfl (lv_at hl 1 rfl) ?_
          refine lv_iconst hx hb d_EM_turned_19 kn_i_2 ?_
          refine lv_icmp_ne (tgt := 30) hx hb d_EM_turned_20 (by decide +kernel) (fun hc => ?_) (fun hc => ?_)
          · rw [if_neg hc] at h
            exact kw_EM_turned_30 (x1 := x1) (x2 := x2) (x3 := x3) C hlk hr hin hg  X (lv_sub hl [0, 1, 2, 3] rfl) h
          · rw [if_pos hc] at h
            refine lv_iload_n hx hb d_EM_turned_23 rfl (lv_at hl 2 rfl) ?_
            refine lv_iconst hx hb d_EM_turned_24 kn_i_2 ?_
            refine lv_icmp_ne (tgt := 30) hx hb d_EM_turned_25 (by decide +kernel) (fun hc => ?_) (fun hc => ?_)
            · rw [if_neg hc] at h
              exact kw_EM_turned_30 (x1 := x1) (x2 := x2) (x3 := x3) C hlk hr hin hg  X (lv_sub hl [0, 1, 2, 3] rfl) h
            · rw [if_pos hc] at h
              refine lv_iconst hx hb d_EM_turned_28 kn_i_0 ?_
              obtain ⟨rfl, rfl⟩ := Prod.mk.inj (Option.some.inj h)
              exact xr_zret C X hlk hr d_EM_turned_29 rfl (Nat.le_of_ble_eq_true rfl) (Nat.le_of_ble_eq_true rfl)
theorem kc_EM_turned (l : Launch) (E : xe) (hg : xe_g E = true) {x1 : Int32} {x2 : Int32} {x3 : Int32} {r : Int32} (h : kf_EM_turned_0 M x1 x2 x3 = some (r, M')) : Met l y_EM_turned (Cond.code y_EM_turned b_EM_turned 5 (some .boolean) :: w_all) { frames := 0, cells := 0, slots := 0, locals := 0 } (va_Pc [.ref (xe_om E), .int x1, .int x2, .int x3] (fun U => xx_B E K M U)) (xq_i E K M' r) 0 0 (xe_A E) :=
  xr_met (by decide) (Nat.le_of_ble_eq_true rfl) fun p e s m below meth c ls C X hlk hr hin hl => kw_EM_turned_0 C hlk hr hin hg X hl h
set_option maxHeartbeats 4000000 in
set_option maxRecDepth 100000 in
theorem kw_EM_stop_0 {x1 : Int32} {x2 : Int32} {r : Int32} (C : xx_C p m c b_EM_stop 4 s args Rn_EM E) (hlk : meth.locks = false) (hr : meth.sig.returnType = (some .boolean)) (hin : meth.name = "stop") (hg : xe_g E = true) (X : xx_S E K M s H locs) (hl : lv_has ls 4 [(0, .ref (xe_om E)), (1, .int x1), (2, .int x2)]) (h : kf_EM_stop_0 M x1 x2 = some (r, M')) : W p l e { frames := 1, cells := 0, slots := 0, locals := 24 } s m args below meth c H locs 0 0 (MQ below (xq_i E K M' r) args s 0 0 (xe_A E)) (F0 m 0 ls []) := by
  have hx := C.1.1
  have hb := C.1.2.1
  unfold kf_EM_stop_0 at h
  refine lv_iload_n hx hb d_EM_stop_0 rfl (lv_at hl 1 rfl) ?_
  refine lv_iconst hx hb d_EM_stop_1 kn_i_3 ?_
  refine lv_icmp_ne (tgt := 24) hx hb d_EM_stop_2 (by decide +kernel) (fun hc => ?_) (fun hc => ?_)
  · rw [if_neg hc] at h
    refine lv_aload_n hx hb d_EM_stop_24 rfl (lv_at hl 0 rfl) ?_
    refine lv_iload_n hx hb d_EM_stop_25 rfl (lv_at hl 1 rfl) ?_
    refine lv_iload_n hx hb d_EM_stop_26 rfl (lv_at hl 2 rfl) ?_
    refine lv_iconst hx hb d_EM_stop_27 kn_i_0 ?_
    replace h := xpb h
    obtain ⟨r2, M1, hv, h⟩ := h
    refine xr_ki (va_runV (As := [.int x1, .int x2, .int (0 : Int32)]) (rest := []) C.1 (kc_EM_turned l E hg hv) (cwV 3 C.1.2.2.2.2 (xw_V m_619 m_620 m_621 m_521 m_622) rfl rfl rfl ky_EM_turned ⟨(Nat.le_of_ble_eq_true rfl), (Nat.le_of_ble_eq_true rfl)⟩) (xr_pV C X xc_EM.1 (xk_Xw (X.1.2.2.2.2.2 hg).1)) rfl rfl hl.1 rfl (lv_room (Nat.le_of_ble_eq_true rfl)) d_EM_stop_28 ⟨(Nat.le_of_ble_eq_true rfl), (Nat.le_of_ble_eq_true rfl)⟩) X (fun H locs X => ?_)
    replace h := xb h
    obtain ⟨z3, hz, h⟩ := h
    obtain ⟨rfl, rfl⟩ := Prod.mk.inj (Option.some.inj h)
    exact xr_zret C X hlk hr d_EM_stop_31 hz (Nat.le_of_ble_eq_true rfl) (Nat.le_of_ble_eq_true rfl)
  · rw [if_pos hc] at h
    refine lv_aload_n hx hb d_EM_stop_5 rfl (lv_at hl 0 rfl) ?_
    refine lv_iload_n hx hb d_EM_stop_6 rfl (lv_at hl 2 rfl) ?_
    replace h := xpb h
    obtain ⟨r5, M4, hv, h⟩ := h
    refine xr_ki (va_runV (As := [.int x2]) (rest := []) C.1 (kc_EM_isMaster l E hg hv) (cwV 1 C.1.2.2.2.2 (xw_V m_576 m_577 m_578 m_521 m_579) rfl rfl rfl ky_EM_isMaster ⟨(Nat.le_of_ble_eq_true rfl), (Nat.le_of_ble_eq_true rfl)⟩) (xr_pV C X xc_EM.1 (xk_Xw (X.1.2.2.2.2.2 hg).1)) rfl rfl hl.1 rfl (lv_room (Nat.le_of_ble_eq_true rfl)) d_EM_stop_7 ⟨(Nat.le_of_ble_eq_true rfl), (Nat.le_of_ble_eq_true rfl)⟩) X (fun H locs X => ?_)
    refine lv_istore_n hx hb d_EM_stop_10 rfl hl (by decide) rfl (fun ls hl => ?_)
    have hl : lv_has ls 4 [(3, .int r5), (0, .ref (xe_om E)), (1, .int x1), (2, .int x2)] := hl
    refine lv_iload_n hx hb d_EM_stop_11 rfl (lv_at hl 0 rfl) ?_
    refine lv_if_eq (tgt := 22) hx hb d_EM_stop_12 (by decide +kernel) (fun hc => ?_) (fun hc => ?_)
    · rw [if_pos hc] at h
      refine lv_iload_n hx hb d_EM_stop_22 rfl (lv_at hl 0 rfl) ?_
      replace h := xb h
      obtain ⟨z6, hz, h⟩ := h
      obtain ⟨rfl, rfl⟩ := Prod.mk.inj (Option.some.inj h)
      exact xr_zret C X hlk hr d_EM_stop_23 hz (Nat.le_of_ble_eq_true rfl) (Nat.le_of_ble_eq_true rfl)
    · rw [if_neg hc] at h
      refine lv_aload_n hx hb d_EM_stop_15 rfl (lv_at hl 1 rfl) ?_
      refine xr_mga C X hg xc_EM 17 (by decide) (by decide) (by decide) m_479 d_EM_stop_16 ?_
      refine lv_iload_n hx hb d_EM_stop_19 rfl (lv_at hl 3 rfl) ?_
      refine lv_iconst hx hb d_EM_stop_20 kn_i_0 ?_
      replace h := xb h
      obtain ⟨M7, hv, h⟩ := h
      refine xr_mstz C X hg 17 (by decide) (by decide) rfl d_EM_stop_21 hv (fun H locs X => ?_)
      refine lv_iload_n hx hb d_EM_stop_22 rfl (lv_at hl 0 rfl) ?_
      replace h := xb h
      obtain ⟨z8, hz, h⟩ := h
      obtain ⟨rfl, rfl⟩ := Prod.mk.inj (Option.some.inj h)
      exact xr_zret C X hlk hr d_EM_stop_23 hz (Nat.le_of_ble_eq_true rfl) (Nat.le_of_ble_eq_true rfl)
theorem kc_EM_stop (l : Launch) (E : xe) (hg : xe_g E = true) {x1 : Int32} {x2 : Int32} {r : Int32} (h : kf_EM_stop_0 M x1 x2 = some (r, M')) : Met l y_EM_stop (Cond.code y_EM_stop b_EM_stop 4 (some .boolean) :: w_all) { frames := 1, cells := 0, slots := 0, locals := 24 } (va_Pc [.ref (xe_om E), .int x1, .int x2] (fun U => xx_B E K M U)) (xq_i E K M' r) 0 0 (xe_A E) :=
  xr_met (by decide) (Nat.le_of_ble_eq_true rfl) fun p e s m below meth c ls C X hlk hr hin hl => kw_EM_stop_0 C hlk hr hin hg X hl h
set_option maxHeartbeats 4000000 in
set_option maxRecDepth 100000 in
theorem kw_EM_start_0 {x1 : Int32} {x2 : Int32} {r : Int32} (C : xx_C p m c b_EM_start 3 s args Rn_EM E) (hlk : meth.locks = false) (hr : meth.sig.returnType = (some .boolean)) (hin : meth.name = "start") (hg : xe_g E = true) (X : xx_S E K M s H locs) (hl : lv_has ls 3 [(0, .ref (xe_om E)), (1, .int x1), (2, .int x2)]) (h : kf_EM_start_0 M x1 x2 = some (r, M')) : W p l e { frames := 1, cells := 0, slots := 0, locals := 24 } s m args below meth c H locs 0 0 (MQ below (xq_i E K M' r) args s 0 0 (xe_A E)) (F0 m 0 ls []) := by
  have hx := C.1.1
  have hb := C.1.2.1
  unfold kf_EM_start_0 at h
  refine lv_aload_n hx hb d_EM_start_0 rfl (lv_at hl 0 rfl) ?_
  refine lv_iload_n hx hb d_EM_start_1 rfl (lv_at hl 1 rfl) ?_
  refine lv_iload_n hx hb d_EM_start_2 rfl (lv_at hl 2 rfl) ?_
  refine lv_iconst hx hb d_EM_start_3 kn_i_1 ?_
  replace h := xpb h
  obtain ⟨r2, M1, hv, h⟩ := h
  refine xr_ki (va_runV (As := [.int x1, .int x2, .int (1 : Int32)]) (rest := []) C.1 (kc_EM_turned l E hg hv) (cwV 3 C.1.2.2.2.2 (xw_V m_619 m_620 m_621 m_521 m_622) rfl rfl rfl ky_EM_turned ⟨(Nat.le_of_ble_eq_true rfl), (Nat.le_of_ble_eq_true rfl)⟩) (xr_pV C X xc_EM.1 (xk_Xw (X.1.2.2.2.2.2 hg).1)) rfl rfl hl.1 rfl (lv_room (Nat.le_of_ble_eq_true rfl)) d_EM_start_4 ⟨(Nat.le_of_ble_eq_true rfl), (Nat.le_of_ble_eq_true rfl)⟩) X (fun H locs X => ?_)
  replace h := xb h
  obtain ⟨z3, hz, h⟩ := h
  obtain ⟨rfl, rfl⟩ := Prod.mk.inj (Option.some.inj h)
  exact xr_zret C X hlk hr d_EM_start_7 hz (Nat.le_of_ble_eq_true rfl) (Nat.le_of_ble_eq_true rfl)
theorem kc_EM_start (l : Launch) (E : xe) (hg : xe_g E = true) {x1 : Int32} {x2 : Int32} {r : Int32} (h : kf_EM_start_0 M x1 x2 = some (r, M')) : Met l y_EM_start (Cond.code y_EM_start b_EM_start 3 (some .boolean) :: w_all) { frames := 1, cells := 0, slots := 0, locals := 24 } (va_Pc [.ref (xe_om E), .int x1, .int x2] (fun U => xx_B E K M U)) (xq_i E K M' r) 0 0 (xe_A E) :=
  xr_met (by decide) (Nat.le_of_ble_eq_true rfl) fun p e s m below meth c ls C X hlk hr hin hl => kw_EM_start_0 C hlk hr hin hg X hl h
set_option maxHeartbeats 4000000 in
set_option maxRecDepth 100000 in
theorem kw_EM_log_0 {x1 : Int32} {r : Int32} (C : xx_C p m c b_EM_log 2 s args Rn_EM E) (hlk : meth.locks = false) (hr : meth.sig.returnType = (some .int)) (hin : meth.name = "log") (hg : xe_g E = true) (X : xx_S E K M s H locs) (hl : lv_has ls 2 [(0, .ref (xe_om E)), (1, .int x1)]) (h : kf_EM_log_0 M x1 = some (r, M')) : W p l e { frames := 0, cells := 0, slots := 0, locals := 0 } s m args below meth c H locs 0 0 (MQ below (xq_i E K M' r) args s 0 0 (xe_A E)) (F0 m 0 ls []) := by
  have hx := C.1.1
  have hb := C.1.2.1
  unfold kf_EM_log_0 at h
  refine lv_iload_n hx hb d_EM_log_0 rfl (lv_at hl 1 rfl) ?_
  refine lv_if_lt (tgt := 9) hx hb d_EM_log_1 (by decide +kernel) (fun hc => ?_) (fun hc => ?_)
  · rw [if_pos hc] at h
    refine lv_iconst hx hb d_EM_log_9 kn_i_m1 ?_
    refine lv_goto (tgt := 58) hx hb d_EM_log_10 (by decide +kernel) ?_
    obtain ⟨rfl, rfl⟩ := Prod.mk.inj (Option.some.inj h)
    exact xr_iret C X hlk hr d_EM_log_58 rfl (Nat.le_of_ble_eq_true rfl) (Nat.le_of_ble_eq_true rfl)
  · rw [if_neg hc] at h
    refine lv_iload_n hx hb d_EM_log_4 rfl (lv_at hl 1 rfl) ?_
    refine lv_iconst hx hb d_EM_log_5 kn_i_2 ?_
    refine lv_icmp_le (tgt := 13) hx hb d_EM_log_6 (by decide +kernel) (fun hc => ?_) (fun hc => ?_)
    · rw [if_pos hc] at h
      refine lv_aload_n hx hb d_EM_log_13 rfl (lv_at hl 0 rfl) ?_
      refine xr_mga C X hg xc_EM 5 (by decide) (by decide) (by decide) m_467 d_EM_log_14 ?_
      refine lv_iload_n hx hb d_EM_log_17 rfl (lv_at hl 1 rfl) ?_
      replace h := xb h
      obtain ⟨v1, hv, h⟩ := h
      refine xr_mld C X hg 5 (by decide) (by decide) rfl d_EM_log_18 hv ?_
      refine lv_sipush hx hb d_EM_log_19 kn_s_128 ?_
      refine lv_aload_n hx hb d_EM_log_22 rfl (lv_at hl 0 rfl) ?_
      refine xr_mga C X hg xc_EM 2 (by decide) (by decide) (by decide) m_464 d_EM_log_23 ?_
      refine lv_iload_n hx hb d_EM_log_26 rfl (lv_at hl 1 rfl) ?_
      replace h := xb h
      obtain ⟨v2, hv, h⟩ := h
      refine xr_mld C X hg 2 (by decide) (by decide) rfl d_EM_log_27 hv ?_
      refine lv_imul hx hb d_EM_log_28 ?_
      refine lv_iadd hx hb d_EM_log_29 ?_
      refine lv_sipush hx hb d_EM_log_30 kn_s_2048 ?_
      refine lv_aload_n hx hb d_EM_log_33 rfl (lv_at hl 0 rfl) ?_
      refine xr_mga C X hg xc_EM 4 (by decide) (by decide) (by decide) m_466 d_EM_log_34 ?_
      refine lv_iload_n hx hb d_EM_log_37 rfl (lv_at hl 1 rfl) ?_
      replace h := xb h
      obtain ⟨v3, hv, h⟩ := h
      refine xr_mld C X hg 4 (by decide) (by decide) rfl d_EM_log_38 hv ?_
      refine lv_imul hx hb d_EM_log_39 ?_
      refine lv_iadd hx hb d_EM_log_40 ?_
      refine lv_aload_n hx hb d_EM_log_41 rfl (lv_at hl 0 rfl) ?_
      refine xr_mga C X hg xc_EM 3 (by decide) (by decide) (by decide) m_465 d_EM_log_42 ?_
      refine lv_iload_n hx hb d_EM_log_45 rfl (lv_at hl 1 rfl) ?_
      replace h := xb h
      obtain ⟨v4, hv, h⟩ := h
      refine xr_mldz C X hg 3 (by decide) (by decide) rfl d_EM_log_46 hv ?_
      refine lv_if_eq (tgt := 56) hx hb d_EM_log_47 (by decide +kernel) (fun hc => ?_) (fun hc => ?_)
      · rw [if_pos hc] at h
        refine lv_iconst hx hb d_EM_log_56 kn_i_0 ?_
        refine lv_iadd hx hb d_EM_log_57 ?_
        obtain ⟨rfl, rfl⟩ := Prod.mk.inj (Option.some.inj h)
        exact xr_iret C X hlk hr d_EM_log_58 rfl (Nat.le_of_ble_eq_true rfl) (Nat.le_of_ble_eq_true rfl)
      · rw [if_neg hc] at h
        refine lv_ldcw hx hb C.1.2.2.2.1 (C.1.2.2.2.2 _ m_623) d_EM_log_50 ?_
        refine lv_goto (tgt := 57) hx hb d_EM_log_53 (by decide +kernel) ?_
        refine lv_iadd hx hb d_EM_log_57 ?_
        obtain ⟨rfl, rfl⟩ := Prod.mk.inj (Option.some.inj h)
        exact xr_iret C X hlk hr d_EM_log_58 rfl (Nat.le_of_ble_eq_true rfl) (Nat.le_of_ble_eq_true rfl)
    · rw [if_neg hc] at h
      refine lv_iconst hx hb d_EM_log_9 kn_i_m1 ?_
      refine lv_goto (tgt := 58) hx hb d_EM_log_10 (by decide +kernel) ?_
      obtain ⟨rfl, rfl⟩ := Prod.mk.inj (Option.some.inj h)
      exact xr_iret C X hlk hr d_EM_log_58 rfl (Nat.le_of_ble_eq_true rfl) (Nat.le_of_ble_eq_true rfl)
theorem kc_EM_log (l : Launch) (E : xe) (hg : xe_g E = true) {x1 : Int32} {r : Int32} (h : kf_EM_log_0 M x1 = some (r, M')) : Met l y_EM_log (Cond.code y_EM_log b_EM_log 2 (some .int) :: w_all) { frames := 0, cells := 0, slots := 0, locals := 0 } (va_Pc [.ref (xe_om E), .int x1] (fun U => xx_B E K M U)) (xq_i E K M' r) 0 0 (xe_A E) :=
  xr_met (by decide) (Nat.le_of_ble_eq_true rfl) fun p e s m below meth c ls C X hlk hr hin hl => kw_EM_log_0 C hlk hr hin hg X hl h
set_option maxHeartbeats 4000000 in
set_option maxRecDepth 100000 in
theorem kw_EM_storage_0 {x1 : Int32} {r : Int32} (C : xx_C p m c b_EM_storage 2 s args Rn_EM E) (hlk : meth.locks = false) (hr : meth.sig.returnType = (some .int)) (hin : meth.name = "storage") (hg : xe_g E = true) (X : xx_S E K M s H locs) (hl : lv_has ls 2 [(0, .ref (xe_om E)), (1, .int x1)]) (h : kf_EM_storage_0 M x1 = some (r, M')) : W p l e { frames := 0, cells := 0, slots := 0, locals := 0 } s m args below meth c H locs 0 0 (MQ below (xq_i E K M' r) args s 0 0 (xe_A E)) (F0 m 0 ls []) := by
  have hx := C.1.1
  have hb := C.1.2.1
  unfold kf_EM_storage_0 at h
  refine lv_iload_n hx hb d_EM_storage_0 rfl (lv_at hl 1 rfl) ?_
  refine lv_if_lt (tgt := 9) hx hb d_EM_storage_1 (by decide +kernel) (fun hc => ?_) (fun hc => ?_)
  · rw [if_pos hc] at h
    refine lv_iconst hx hb d_EM_storage_9 kn_i_m1 ?_
    refine lv_goto (tgt := 58) hx hb d_EM_storage_10 (by decide +kernel) ?_
    obtain ⟨rfl, rfl⟩ := Prod.mk.inj (Option.some.inj h)
    exact xr_iret C X hlk hr d_EM_storage_58 rfl (Nat.le_of_ble_eq_true rfl) (Nat.le_of_ble_eq_true rfl)
  · rw [if_neg hc] at h
    refine lv_iload_n hx hb d_EM_storage_4 rfl (lv_at hl 1 rfl) ?_
    refine lv_iconst hx hb d_EM_storage_5 kn_i_1 ?_
    refine lv_icmp_le (tgt := 13) hx hb d_EM_storage_6 (by decide +kernel) (fun hc => ?_) (fun hc => ?_)
    · rw [if_pos hc] at h
      refine lv_aload_n hx hb d_EM_storage_13 rfl (lv_at hl 0 rfl) ?_
      refine xr_mga C X hg xc_EM 13 (by decide) (by decide) (by decide) m_475 d_EM_storage_14 ?_
      refine lv_iload_n hx hb d_EM_storage_17 rfl (lv_at hl 1 rfl) ?_
      replace h := xb h
      obtain ⟨v1, hv, h⟩ := h
      refine xr_mld C X hg 13 (by decide) (by decide) rfl d_EM_storage_18 hv ?_
      refine lv_sipush hx hb d_EM_storage_19 kn_s_128 ?_
      refine lv_aload_n hx hb d_EM_storage_22 rfl (lv_at hl 0 rfl) ?_
      refine xr_mga C X hg xc_EM 10 (by decide) (by decide) (by decide) m_472 d_EM_storage_23 ?_
      refine lv_iload_n hx hb d_EM_storage_26 rfl (lv_at hl 1 rfl) ?_
      replace h := xb h
      obtain ⟨v2, hv, h⟩ := h
      refine xr_mld C X hg 10 (by decide) (by decide) rfl d_EM_storage_27 hv ?_
      refine lv_imul hx hb d_EM_storage_28 ?_
      refine lv_iadd hx hb d_EM_storage_29 ?_
      refine lv_sipush hx hb d_EM_storage_30 kn_s_2048 ?_
      refine lv_aload_n hx hb d_EM_storage_33 rfl (lv_at hl 0 rfl) ?_
      refine xr_mga C X hg xc_EM 12 (by decide) (by decide) (by decide) m_474 d_EM_storage_34 ?_
      refine lv_iload_n hx hb d_EM_storage_37 rfl (lv_at hl 1 rfl) ?_
      replace h := xb h
      obtain ⟨v3, hv, h⟩ := h
      refine xr_mld C X hg 12 (by decide) (by decide) rfl d_EM_storage_38 hv ?_
      refine lv_imul hx hb d_EM_storage_39 ?_
      refine lv_iadd hx hb d_EM_storage_40 ?_
      refine lv_aload_n hx hb d_EM_storage_41 rfl (lv_at hl 0 rfl) ?_
      refine xr_mga C X hg xc_EM 11 (by decide) (by decide) (by decide) m_473 d_EM_storage_42 ?_
      refine lv_iload_n hx hb d_EM_storage_45 rfl (lv_at hl 1 rfl) ?_
      replace h := xb h
      obtain ⟨v4, hv, h⟩ := h
      refine xr_mldz C X hg 11 (by decide) (by decide) rfl d_EM_storage_46 hv ?_
      refine lv_if_eq (tgt := 56) hx hb d_EM_storage_47 (by decide +kernel) (fun hc => ?_) (fun hc => ?_)
      · rw [if_pos hc] at h
        refine lv_iconst hx hb d_EM_storage_56 kn_i_0 ?_
        refine lv_iadd hx hb d_EM_storage_57 ?_
        obtain ⟨rfl, rfl⟩ := Prod.mk.inj (Option.some.inj h)
        exact xr_iret C X hlk hr d_EM_storage_58 rfl (Nat.le_of_ble_eq_true rfl) (Nat.le_of_ble_eq_true rfl)
      · rw [if_neg hc] at h
        refine lv_ldcw hx hb C.1.2.2.2.1 (C.1.2.2.2.2 _ m_623) d_EM_storage_50 ?_
        refine lv_goto (tgt := 57) hx hb d_EM_storage_53 (by decide +kernel) ?_
        refine lv_iadd hx hb d_EM_storage_57 ?_
        obtain ⟨rfl, rfl⟩ := Prod.mk.inj (Option.some.inj h)
        exact xr_iret C X hlk hr d_EM_storage_58 rfl (Nat.le_of_ble_eq_true rfl) (Nat.le_of_ble_eq_true rfl)
    · rw [if_neg hc] at h
      refine lv_iconst hx hb d_EM_storage_9 kn_i_m1 ?_
      refine lv_goto (tgt := 58) hx hb d_EM_storage_10 (by decide +kernel) ?_
      obtain ⟨rfl, rfl⟩ := Prod.mk.inj (Option.some.inj h)
      exact xr_iret C X hlk hr d_EM_storage_58 rfl (Nat.le_of_ble_eq_true rfl) (Nat.le_of_ble_eq_true rfl)
theorem kc_EM_storage (l : Launch) (E : xe) (hg : xe_g E = true) {x1 : Int32} {r : Int32} (h : kf_EM_storage_0 M x1 = some (r, M')) : Met l y_EM_storage (Cond.code y_EM_storage b_EM_storage 2 (some .int) :: w_all) { frames := 0, cells := 0, slots := 0, locals := 0 } (va_Pc [.ref (xe_om E), .int x1] (fun U => xx_B E K M U)) (xq_i E K M' r) 0 0 (xe_A E) :=
  xr_met (by decide) (Nat.le_of_ble_eq_true rfl) fun p e s m below meth c ls C X hlk hr hin hl => kw_EM_storage_0 C hlk hr hin hg X hl h
set_option maxHeartbeats 4000000 in
set_option maxRecDepth 100000 in
theorem kw_EM_coordinator_0 {x1 : Int32} {r : Int32} (C : xx_C p m c b_EM_coordinator 2 s args Rn_EM E) (hlk : meth.locks = false) (hr : meth.sig.returnType = (some .int)) (hin : meth.name = "coordinator") (hg : xe_g E = true) (X : xx_S E K M s H locs) (hl : lv_has ls 2 [(0, .ref (xe_om E)), (1, .int x1)]) (h : kf_EM_coordinator_0 M x1 = some (r, M')) : W p l e { frames := 0, cells := 0, slots := 0, locals := 0 } s m args below meth c H locs 0 0 (MQ below (xq_i E K M' r) args s 0 0 (xe_A E)) (F0 m 0 ls []) := by
  have hx := C.1.1
  have hb := C.1.2.1
  unfold kf_EM_coordinator_0 at h
  refine lv_iload_n hx hb d_EM_coordinator_0 rfl (lv_at hl 1 rfl) ?_
  refine lv_if_lt (tgt := 9) hx hb d_EM_coordinator_1 (by decide +kernel) (fun hc => ?_) (fun hc => ?_)
  · rw [if_pos hc] at h
    refine lv_iconst hx hb d_EM_coordinator_9 kn_i_m1 ?_
    refine lv_goto (tgt := 35) hx hb d_EM_coordinator_10 (by decide +kernel) ?_
    obtain ⟨rfl, rfl⟩ := Prod.mk.inj (Option.some.inj h)
    exact xr_iret C X hlk hr d_EM_coordinator_35 rfl (Nat.le_of_ble_eq_true rfl) (Nat.le_of_ble_eq_true rfl)
  · rw [if_neg hc] at h
    refine lv_iload_n hx hb d_EM_coordinator_4 rfl (lv_at hl 1 rfl) ?_
    refine lv_iconst hx hb d_EM_coordinator_5 kn_i_2 ?_
    refine lv_icmp_le (tgt := 13) hx hb d_EM_coordinator_6 (by decide +kernel) (fun hc => ?_) (fun hc => ?_)
    · rw [if_pos hc] at h
      refine lv_aload_n hx hb d_EM_coordinator_13 rfl (lv_at hl 0 rfl) ?_
      refine xr_mga C X hg xc_EM 0 (by decide) (by decide) (by decide) m_461 d_EM_coordinator_14 ?_
      refine lv_iload_n hx hb d_EM_coordinator_17 rfl (lv_at hl 1 rfl) ?_
      replace h := xb h
      obtain ⟨v1, hv, h⟩ := h
      refine xr_mld C X hg 0 (by decide) (by decide) rfl d_EM_coordinator_18 hv ?_
      refine lv_aload_n hx hb d_EM_coordinator_19 rfl (lv_at hl 0 rfl) ?_
      refine xr_mga C X hg xc_EM 1 (by decide) (by decide) (by decide) m_463 d_EM_coordinator_20 ?_
      refine lv_iload_n hx hb d_EM_coordinator_23 rfl (lv_at hl 1 rfl) ?_
      replace h := xb h
      obtain ⟨v2, hv, h⟩ := h
      refine xr_mldz C X hg 1 (by decide) (by decide) rfl d_EM_coordinator_24 hv ?_
      refine lv_if_eq (tgt := 33) hx hb d_EM_coordinator_25 (by decide +kernel) (fun hc => ?_) (fun hc => ?_)
      · rw [if_pos hc] at h
        refine lv_iconst hx hb d_EM_coordinator_33 kn_i_0 ?_
        refine lv_iadd hx hb d_EM_coordinator_34 ?_
        obtain ⟨rfl, rfl⟩ := Prod.mk.inj (Option.some.inj h)
        exact xr_iret C X hlk hr d_EM_coordinator_35 rfl (Nat.le_of_ble_eq_true rfl) (Nat.le_of_ble_eq_true rfl)
      · rw [if_neg hc] at h
        refine lv_bipush hx hb d_EM_coordinator_28 kn_b_16 ?_
        refine lv_goto (tgt := 34) hx hb d_EM_coordinator_30 (by decide +kernel) ?_
        refine lv_iadd hx hb d_EM_coordinator_34 ?_
        obtain ⟨rfl, rfl⟩ := Prod.mk.inj (Option.some.inj h)
        exact xr_iret C X hlk hr d_EM_coordinator_35 rfl (Nat.le_of_ble_eq_true rfl) (Nat.le_of_ble_eq_true rfl)
    · rw [if_neg hc] at h
      refine lv_iconst hx hb d_EM_coordinator_9 kn_i_m1 ?_
      refine lv_goto (tgt := 35) hx hb d_EM_coordinator_10 (by decide +kernel) ?_
      obtain ⟨rfl, rfl⟩ := Prod.mk.inj (Option.some.inj h)
      exact xr_iret C X hlk hr d_EM_coordinator_35 rfl (Nat.le_of_ble_eq_true rfl) (Nat.le_of_ble_eq_true rfl)
theorem kc_EM_coordinator (l : Launch) (E : xe) (hg : xe_g E = true) {x1 : Int32} {r : Int32} (h : kf_EM_coordinator_0 M x1 = some (r, M')) : Met l y_EM_coordinator (Cond.code y_EM_coordinator b_EM_coordinator 2 (some .int) :: w_all) { frames := 0, cells := 0, slots := 0, locals := 0 } (va_Pc [.ref (xe_om E), .int x1] (fun U => xx_B E K M U)) (xq_i E K M' r) 0 0 (xe_A E) :=
  xr_met (by decide) (Nat.le_of_ble_eq_true rfl) fun p e s m below meth c ls C X hlk hr hin hl => kw_EM_coordinator_0 C hlk hr hin hg X hl h
end KW21
