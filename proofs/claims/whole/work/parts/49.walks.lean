/-! EpochStoreModel.join(II)V -/
def kf_EM_join_61 (rec19 : xm → Int32 → Int32 → Int32 → Option xm) (M : xm) (x1 : Int32) (x2 : Int32) (x3 : Int32) : Option xm := rec19 M x1 x2 x3
def kf_EM_join_89 (M : xm) (x1 : Int32) (x2 : Int32) (s0 : Int32) (s1 : Int32) : Option xm := (xMt M 12 s1 s0).bind fun M1 => (xMi M1 2 x2).bind fun v2 => (xMt M1 10 x1 v2).bind fun M3 => some M3
def kf_EM_join_64 (M : xm) (x1 : Int32) (x2 : Int32) (x3 : Int32) : Option xm := (xMi M 12 x1).bind fun v1 => if v1 ≤ x3 then ((xMi M 12 x1).bind fun v2 => kf_EM_join_89 M x1 x2 v2 x1) else kf_EM_join_89 M x1 x2 x3 x1
def kb_EM_join_19 (rec19 : xm → Int32 → Int32 → Int32 → Option xm) (M : xm) (x1 : Int32) (x2 : Int32) (x3 : Int32) : Option xm := (xMi M 13 x1).bind fun v1 => if v1 ≤ 0 then (kf_EM_join_64 M x1 x2 x3) else (xMi M 13 x1).bind fun v2 => (xMi M 14 ((((128 : Int32) * x1) + v2) - (1 : Int32))).bind fun v3 => if v3 ≤ x3 then (kf_EM_join_64 M x1 x2 x3) else (xMi M 13 x1).bind fun v4 => (xMt M 13 x1 (v4 - (1 : Int32))).bind fun M5 => kf_EM_join_61 rec19 M5 x1 x2 x3
def kf_EM_join_19 : Nat → xm → Int32 → Int32 → Int32 → Option xm
  | 0 => fun _ _ _ _ => none
  | n + 1 => kb_EM_join_19 (kf_EM_join_19 n)
def kf_EM_join_0 (M : xm) (x1 : Int32) (x2 : Int32) : Option xm := (xMi M 10 x1).bind fun v1 => (xMi M 9 ((((10 : Int32) * x2) + v1) + (1 : Int32))).bind fun v2 => kf_EM_join_19 1000 M x1 x2 v2
/-! EpochStoreModel.keep(II)V -/
def kb_EM_keep_72 (rec72 : xm → Int32 → Int32 → Int32 → Option xm) (M : xm) (x2 : Int32) (x4 : Int32) (x5 : Int32) : Option xm := if (8 : Int32) ≤ x5 then (some M) else (xMi M 8 (((8 : Int32) * x2) + x5)).bind fun v1 => (xMt M 16 (((8 : Int32) * x4) + x5) v1).bind fun M2 => rec72 M2 x2 x4 (x5 + (1 : Int32))
def kf_EM_keep_72 : Nat → xm → Int32 → Int32 → Int32 → Option xm
  | 0 => fun _ _ _ _ => none
  | n + 1 => kb_EM_keep_72 (kf_EM_keep_72 n)
def kf_EM_keep_61 (M : xm) (x2 : Int32) (x3 : Int32) (x4 : Int32) : Option xm := (xMt M 15 x4 x3).bind fun M1 => kf_EM_keep_72 1000 M1 x2 x4 (0 : Int32)
def kf_EM_keep_18 (M : xm) (x1 : Int32) (x2 : Int32) (s0 : Int32) (s1 : Int32) : Option xm := if (s1 &&& s0) = 0 then (some M) else (xMi M 13 x1).bind fun v1 => (xMi M 13 x1).bind fun v2 => (xMt M 13 x1 (v2 + (1 : Int32))).bind fun M3 => (xMi M3 6 x2).bind fun v4 => (xMt M3 14 (((128 : Int32) * x1) + v1) v4).bind fun M5 => kf_EM_keep_61 M5 x2 (s1 &&& s0) (((128 : Int32) * x1) + v1)
def kf_EM_keep_0 (M : xm) (x1 : Int32) (x2 : Int32) : Option xm := (xMi M 7 x2).bind fun v1 => if x1 = 0 then (kf_EM_keep_18 M x1 x2 (15 : Int32) v1) else kf_EM_keep_18 M x1 x2 (240 : Int32) v1
/-! EpochStoreModel.pull(II)I -/
def kf_EM_pull_51 (M : xm) : Option (Int32 × xm) := some ((-1 : Int32), M)
def kf_EM_pull_158 (M : xm) (x1 : Int32) (x2 : Int32) : Option (Int32 × xm) := (xMi M 4 x2).bind fun v1 => (xMt M 12 x1 v1).bind fun M2 => (xMi M2 12 x1).bind fun v3 => some (v3, M2)
def kf_EM_pull_116 (M : xm) (x1 : Int32) (x2 : Int32) (x3 : Int32) (x4 : Int32) : Option (Int32 × xm) := if x4 ≤ x3 then ((xMi M 4 x2).bind fun v1 => (xMi M 12 x1).bind fun v2 => if v1 ≤ v2 then ((xMi M 12 x1).bind fun v3 => some (v3, M)) else kf_EM_pull_158 M x1 x2) else (kf_EM_keep_0 M x1 x3).bind fun M4 => (xMi M4 6 x3).bind fun v5 => (xMt M4 12 x1 v5).bind fun M6 => (xMi M6 12 x1).bind fun v7 => some (v7, M6)
def kb_EM_pull_89 (rec89 : xm → Int32 → Int32 → Int32 → Int32 → Option (Int32 × xm)) (M : xm) (x1 : Int32) (x2 : Int32) (x3 : Int32) (x4 : Int32) : Option (Int32 × xm) := if x4 ≤ x3 then (kf_EM_pull_116 M x1 x2 x3 x4) else (xMi M 6 x3).bind fun v1 => (xMi M 12 x1).bind fun v2 => if v2 < v1 then (kf_EM_pull_116 M x1 x2 x3 x4) else rec89 M x1 x2 (x3 + (1 : Int32)) x4
def kf_EM_pull_89 : Nat → xm → Int32 → Int32 → Int32 → Int32 → Option (Int32 × xm)
  | 0 => fun _ _ _ _ _ => none
  | n + 1 => kb_EM_pull_89 (kf_EM_pull_89 n)
def kf_EM_pull_74 (M : xm) (x1 : Int32) (x2 : Int32) : Option (Int32 × xm) := (xMi M 5 x2).bind fun v1 => kf_EM_pull_89 1000 M x1 x2 ((100 : Int32) * x2) (((100 : Int32) * x2) + v1)
def kf_EM_pull_0 (M : xm) (x1 : Int32) (x2 : Int32) : Option (Int32 × xm) := if x1 < 0 then (kf_EM_pull_51 M) else if (1 : Int32) < x1 then (kf_EM_pull_51 M) else if x2 < 0 then (kf_EM_pull_51 M) else if (2 : Int32) < x2 then (kf_EM_pull_51 M) else (xMi M 11 x1).bind fun v1 => if v1 = 0 then (kf_EM_pull_51 M) else (xMi M 3 x2).bind fun v2 => if v2 = 0 then (kf_EM_pull_51 M) else (xMi M 2 x2).bind fun v3 => (xMi M 10 x1).bind fun v4 => if v4 ≤ v3 then ((xMi M 2 x2).bind fun v5 => (xMi M 10 x1).bind fun v6 => if v5 ≤ v6 then (kf_EM_pull_74 M x1 x2) else (kf_EM_join_0 M x1 x2).bind fun M7 => kf_EM_pull_74 M7 x1 x2) else kf_EM_pull_51 M
section KW19
variable {p : Program} {l : Launch} {e : Env} {s : State} {m : MethodId} {args : Array Value} {below : List Frame} {meth : Method} {c : Code} {H : Heap} {locs : List Loc} {ls : Array Slot} {E : xe} {K K' : xk} {M M' : xm}
set_option maxHeartbeats 4000000 in
set_option maxRecDepth 100000 in
theorem kw_EM_join_61 {rec19 : xm → Int32 → Int32 → Int32 → Option xm} {x1 : Int32} {x2 : Int32} {x3 : Int32} (C : xx_C p m c b_EM_join 4 s args Rn_EM E) (hlk : meth.locks = false) (hr : meth.sig.returnType = none) (hin : meth.name = "join") (hg : xe_g E = true) (hrec19 : ∀ {H : Heap} {locs : List Loc} {ls : Array Slot} {M : xm} {x1 : Int32} {x2 : Int32} {x3 : Int32}, xx_S E K M s H locs → lv_has ls 4 [(0, .ref (xe_om E)), (1, .int x1), (2, .int x2), (3, .int x3)] → rec19 M x1 x2 x3 = some M' → W p l e { frames := 0, cells := 0, slots := 0, locals := 0 } s m args below meth c H locs 0 0 (MQ below (xq_v E K M') args s 0 0 (xe_A E)) (F0 m 19 ls [])) (X : xx_S E K M s H locs) (hl : lv_has ls 4 [(0, .ref (xe_om E)), (1, .int x1), (2, .int x2), (3, .int x3)]) (h : kf_EM_join_61 rec19 M x1 x2 x3 = some M') : W p l e { frames := 0, cells := 0, slots := 0, locals := 0 } s m args below meth c H locs 0 0 (MQ below (xq_v E K M') args s 0 0 (xe_A E)) (F0 m 61 ls []) := by
  have hx := C.1.1
  have hb := C.1.2.1
  unfold kf_EM_join_61 at h
  refine lv_goto (tgt := 19) hx hb d_EM_join_61 (by decide +kernel) ?_
  exact hrec19 (x1 := x1) (x2 := x2) (x3 := x3) X (lv_sub hl [0, 1, 2, 3] rfl) h
set_option maxHeartbeats 4000000 in
set_option maxRecDepth 100000 in
theorem kw_EM_join_89 {x1 : Int32} {x2 : Int32} {s0 : Int32} {s1 : Int32} (C : xx_C p m c b_EM_join 4 s args Rn_EM E) (hlk : meth.locks = false) (hr : meth.sig.returnType = none) (hin : meth.name = "join") (hg : xe_g E = true) (X : xx_S E K M s H locs) (hl : lv_has ls 4 [(0, .ref (xe_om E)), (1, .int x1), (2, .int x2)]) (h : kf_EM_join_89 M x1 x2 s0 s1 = some M') : W p l e { frames := 0, cells := 0, slots := 0, locals := 0 } s m args below meth c H locs 0 0 (MQ below (xq_v E K M') args s 0 0 (xe_A E)) (F0 m 89 ls [.int s0, .int s1, .ref (xe_ad E 12)]) := by
  have hx := C.1.1
  have hb := C.1.2.1
  unfold kf_EM_join_89 at h
  replace h := xb h
  obtain ⟨M1, hv, h⟩ := h
  refine xr_mst C X hg 12 (by decide) (by decide) rfl d_EM_join_89 hv (fun H locs X => ?_)
  refine lv_aload_n hx hb d_EM_join_90 rfl (lv_at hl 0 rfl) ?_
  refine xr_mga C X hg xc_EM 10 (by decide) (by decide) (by decide) m_472 d_EM_join_91 ?_
  refine lv_iload_n hx hb d_EM_join_94 rfl (lv_at hl 1 rfl) ?_
  refine lv_aload_n hx hb d_EM_join_95 rfl (lv_at hl 0 rfl) ?_
  refine xr_mga C X hg xc_EM 2 (by decide) (by decide) (by decide) m_464 d_EM_join_96 ?_
  refine lv_iload_n hx hb d_EM_join_99 rfl (lv_at hl 2 rfl) ?_
  replace h := xb h
  obtain ⟨v2, hv, h⟩ := h
  refine xr_mld C X hg 2 (by decide) (by decide) rfl d_EM_join_100 hv ?_
  replace h := xb h
  obtain ⟨M3, hv, h⟩ := h
  refine xr_mst C X hg 10 (by decide) (by decide) rfl d_EM_join_101 hv (fun H locs X => ?_)
  obtain rfl := Option.some.inj h
  exact xr_vret C X hlk hr d_EM_join_102 (Nat.le_of_ble_eq_true rfl) (Nat.le_of_ble_eq_true rfl)
set_option maxHeartbeats 4000000 in
set_option maxRecDepth 100000 in
theorem kw_EM_join_64 {x1 : Int32} {x2 : Int32} {x3 : Int32} (C : xx_C p m c b_EM_join 4 s args Rn_EM E) (hlk : meth.locks = false) (hr : meth.sig.returnType = none) (hin : meth.name = "join") (hg : xe_g E = true) (X : xx_S E K M s H locs) (hl : lv_has ls 4 [(0, .ref (xe_om E)), (1, .int x1), (2, .int x2), (3, .int x3)]) (h : kf_EM_join_64 M x1 x2 x3 = some M') : W p l e { frames := 0, cells := 0, slots := 0, locals := 0 } s m args below meth c H locs 0 0 (MQ below (xq_v E K M') args s 0 0 (xe_A E)) (F0 m 64 ls []) := by
  have hx := C.1.1
  have hb := C.1.2.1
  unfold kf_EM_join_64 at h
  refine lv_aload_n hx hb d_EM_join_64 rfl (lv_at hl 0 rfl) ?_
  refine xr_mga C X hg xc_EM 12 (by decide) (by decide) (by decide) m_474 d_EM_join_65 ?_
  refine lv_iload_n hx hb d_EM_join_68 rfl (lv_at hl 1 rfl) ?_
  refine lv_aload_n hx hb d_EM_join_69 rfl (lv_at hl 0 rfl) ?_
  refine xr_mga C X hg xc_EM 12 (by decide) (by decide) (by decide) m_474 d_EM_join_70 ?_
  refine lv_iload_n hx hb d_EM_join_73 rfl (lv_at hl 1 rfl) ?_
  replace h := xb h
  obtain ⟨v1, hv, h⟩ := h
  refine xr_mld C X hg 12 (by decide) (by decide) rfl d_EM_join_74 hv ?_
  refine lv_iload_n hx hb d_EM_join_75 rfl (lv_at hl 3 rfl) ?_
  refine lv_icmp_le (tgt := 83) hx hb d_EM_join_76 (by decide +kernel) (fun hc => ?_) (fun hc => ?_)
  · rw [if_pos hc] at h
    refine lv_aload_n hx hb d_EM_join_83 rfl (lv_at hl 0 rfl) ?_
    refine xr_mga C X hg xc_EM 12 (by decide) (by decide) (by decide) m_474 d_EM_join_84 ?_
    refine lv_iload_n hx hb d_EM_join_87 rfl (lv_at hl 1 rfl) ?_
    replace h := xb h
    obtain ⟨v2, hv, h⟩ := h
    refine xr_mld C X hg 12 (by decide) (by decide) rfl d_EM_join_88 hv ?_
    exact kw_EM_join_89 (x1 := x1) (x2 := x2) (s0 := v2) (s1 := x1) C hlk hr hin hg  X (lv_sub hl [0, 1, 2] rfl) h
  · rw [if_neg hc] at h
    refine lv_iload_n hx hb d_EM_join_79 rfl (lv_at hl 3 rfl) ?_
    refine lv_goto (tgt := 89) hx hb d_EM_join_80 (by decide +kernel) ?_
    exact kw_EM_join_89 (x1 := x1) (x2 := x2) (s0 := x3) (s1 := x1) C hlk hr hin hg  X (lv_sub hl [0, 1, 2] rfl) h
set_option maxHeartbeats 4000000 in
set_option maxRecDepth 100000 in
theorem kwb_EM_join_19 {rec19 : xm → Int32 → Int32 → Int32 → Option xm} {x1 : Int32} {x2 : Int32} {x3 : Int32} (C : xx_C p m c b_EM_join 4 s args Rn_EM E) (hlk : meth.locks = false) (hr : meth.sig.returnType = none) (hin : meth.name = "join") (hg : xe_g E = true) (hrec19 : ∀ {H : Heap} {locs : List Loc} {ls : Array Slot} {M : xm} {x1 : Int32} {x2 : Int32} {x3 : Int32}, xx_S E K M s H locs → lv_has ls 4 [(0, .ref (xe_om E)), (1, .int x1), (2, .int x2), (3, .int x3)] → rec19 M x1 x2 x3 = some M' → W p l e { frames := 0, cells := 0, slots := 0, locals := 0 } s m args below meth c H locs 0 0 (MQ below (xq_v E K M') args s 0 0 (xe_A E)) (F0 m 19 ls [])) (X : xx_S E K M s H locs) (hl : lv_has ls 4 [(0, .ref (xe_om E)), (1, .int x1), (2, .int x2), (3, .int x3)]) (h : kb_EM_join_19 rec19 M x1 x2 x3 = some M') : W p l e { frames := 0, cells := 0, slots := 0, locals := 0 } s m args below meth c H locs 0 0 (MQ below (xq_v E K M') args s 0 0 (xe_A E)) (F0 m 19 ls []) := by
  have hx := C.1.1
  have hb := C.1.2.1
  unfold kb_EM_join_19 at h
  refine lv_aload_n hx hb d_EM_join_19 rfl (lv_at hl 0 rfl) ?_
  refine xr_mga C X hg xc_EM 13 (by decide) (by decide) (by decide) m_475 d_EM_join_20 ?_
  refine lv_iload_n hx hb d_EM_join_23 rfl (lv_at hl 1 rfl) ?_
  replace h := xb h
  obtain ⟨v1, hv, h⟩ := h
  refine xr_mld C X hg 13 (by decide) (by decide) rfl d_EM_join_24 hv ?_
  refine lv_if_le (tgt := 64) hx hb d_EM_join_25 (by decide +kernel) (fun hc => ?_) (fun hc => ?_)
  · rw [if_pos hc] at h
    exact kw_EM_join_64 (x1 := x1) (x2 := x2) (x3 := x3) C hlk hr hin hg  X (lv_sub hl [0, 1, 2, 3] rfl) h
  · rw [if_neg hc] at h
    refine lv_aload_n hx hb d_EM_join_28 rfl (lv_at hl 0 rfl) ?_
    refine xr_mga C X hg xc_EM 14 (by decide) (by decide) (by decide) m_476 d_EM_join_29 ?_
    refine lv_sipush hx hb d_EM_join_32 kn_s_128 ?_
    refine lv_iload_n hx hb d_EM_join_35 rfl (lv_at hl 1 rfl) ?_
    refine lv_imul hx hb d_EM_join_36 ?_
    refine lv_aload_n hx hb d_EM_join_37 rfl (lv_at hl 0 rfl) ?_
    refine xr_mga C X hg xc_EM 13 (by decide) (by decide) (by decide) m_475 d_EM_join_38 ?_
    refine lv_iload_n hx hb d_EM_join_41 rfl (lv_at hl 1 rfl) ?_
    replace h := xb h
    obtain ⟨v2, hv, h⟩ := h
    refine xr_mld C X hg 13 (by decide) (by decide) rfl d_EM_join_42 hv ?_
    refine lv_iadd hx hb d_EM_join_43 ?_
    refine lv_iconst hx hb d_EM_join_44 kn_i_1 ?_
    refine lv_isub hx hb d_EM_join_45 ?_
    replace h := xb h
    obtain ⟨v3, hv, h⟩ := h
    refine xr_mld C X hg 14 (by decide) (by decide) rfl d_EM_join_46 hv ?_
    refine lv_iload_n hx hb d_EM_join_47 rfl (lv_at hl 3 rfl) ?_
    refine lv_icmp_le (tgt := 64) hx hb d_EM_join_48 (by decide +kernel) (fun hc => ?_) (fun hc => ?_)
    · rw [if_pos hc] at h
      exact kw_EM_join_64 (x1 := x1) (x2 := x2) (x3 := x3) C hlk hr hin hg  X (lv_sub hl [0, 1, 2, 3] rfl) h
    · rw [if_neg hc] at h
      refine lv_aload_n hx hb d_EM_join_51 rfl (lv_at hl 0 rfl) ?_
      refine xr_mga C X hg xc_EM 13 (by decide) (by decide) (by decide) m_475 d_EM_join_52 ?_
      refine lv_iload_n hx hb d_EM_join_55 rfl (lv_at hl 1 rfl) ?_
      refine lv_dup2_11 hx hb d_EM_join_56 rfl rfl ?_
      replace h := xb h
      obtain ⟨v4, hv, h⟩ := h
      refine xr_mld C X hg 13 (by decide) (by decide) rfl d_EM_join_57 hv ?_
      refine lv_iconst hx hb d_EM_join_58 kn_i_1 ?_
      refine lv_isub hx hb d_EM_join_59 ?_
      replace h := xb h
      obtain ⟨M5, hv, h⟩ := h
      refine xr_mst C X hg 13 (by decide) (by decide) rfl d_EM_join_60 hv (fun H locs X => ?_)
      exact kw_EM_join_61 (x1 := x1) (x2 := x2) (x3 := x3) C hlk hr hin hg hrec19  X (lv_sub hl [0, 1, 2, 3] rfl) h
theorem kw_EM_join_19 (C : xx_C p m c b_EM_join 4 s args Rn_EM E) (hlk : meth.locks = false) (hr : meth.sig.returnType = none) (hin : meth.name = "join") (hg : xe_g E = true) : ∀ (n : Nat) {H : Heap} {locs : List Loc} {ls : Array Slot} {M : xm} {x1 : Int32} {x2 : Int32} {x3 : Int32}, xx_S E K M s H locs → lv_has ls 4 [(0, .ref (xe_om E)), (1, .int x1), (2, .int x2), (3, .int x3)] → kf_EM_join_19 n M x1 x2 x3 = some M' → W p l e { frames := 0, cells := 0, slots := 0, locals := 0 } s m args below meth c H locs 0 0 (MQ below (xq_v E K M') args s 0 0 (xe_A E)) (F0 m 19 ls []) := by
  intro n
  induction n with
  | zero => intro H locs ls M x1 x2 x3 X hl h; exact nomatch (show (none : Option xm) = some _ from h)
  | succ n ih => intro H locs ls M x1 x2 x3 X hl h; exact kwb_EM_join_19 C hlk hr hin hg ih X hl h
set_option maxHeartbeats 4000000 in
set_option maxRecDepth 100000 in
theorem kw_EM_join_0 {x1 : Int32} {x2 : Int32} (C : xx_C p m c b_EM_join 4 s args Rn_EM E) (hlk : meth.locks = false) (hr : meth.sig.returnType = none) (hin : meth.name = "join") (hg : xe_g E = true) (X : xx_S E K M s H locs) (hl : lv_has ls 4 [(0, .ref (xe_om E)), (1, .int x1), (2, .int x2)]) (h : kf_EM_join_0 M x1 x2 = some M') : W p l e { frames := 0, cells := 0, slots := 0, locals := 0 } s m args below meth c H locs 0 0 (MQ below (xq_v E K M') args s 0 0 (xe_A E)) (F0 m 0 ls []) := by
  have hx := C.1.1
  have hb := C.1.2.1
  unfold kf_EM_join_0 at h
  refine lv_aload_n hx hb d_EM_join_0 rfl (lv_at hl 0 rfl) ?_
  refine xr_mga C X hg xc_EM 9 (by decide) (by decide) (by decide) m_471 d_EM_join_1 ?_
  refine lv_bipush hx hb d_EM_join_4 kn_b_10 ?_
  refine lv_iload_n hx hb d_EM_join_6 rfl (lv_at hl 2 rfl) ?_
  refine lv_imul hx hb d_EM_join_7 ?_
  refine lv_aload_n hx hb d_EM_join_8 rfl (lv_at hl 0 rfl) ?_
  refine xr_mga C X hg xc_EM 10 (by decide) (by decide) (by decide) m_472 d_EM_join_9 ?_
  refine lv_iload_n hx hb d_EM_join_12 rfl (lv_at hl 1 rfl) ?_
  replace h := xb h
  obtain ⟨v1, hv, h⟩ := h
  refine xr_mld C X hg 10 (by decide) (by decide) rfl d_EM_join_13 hv ?_
  refine lv_iadd hx hb d_EM_join_14 ?_
  refine lv_iconst hx hb d_EM_join_15 kn_i_1 ?_
  refine lv_iadd hx hb d_EM_join_16 ?_
  replace h := xb h
  obtain ⟨v2, hv, h⟩ := h
  refine xr_mld C X hg 9 (by decide) (by decide) rfl d_EM_join_17 hv ?_
  refine lv_istore_n hx hb d_EM_join_18 rfl hl (by decide) rfl (fun ls hl => ?_)
  have hl : lv_has ls 4 [(3, .int v2), (0, .ref (xe_om E)), (1, .int x1), (2, .int x2)] := hl
  exact kw_EM_join_19 C hlk hr hin hg 1000 X (lv_sub hl [1, 2, 3, 0] rfl) h
theorem kc_EM_join (l : Launch) (E : xe) (hg : xe_g E = true) {x1 : Int32} {x2 : Int32} (h : kf_EM_join_0 M x1 x2 = some M') : Met l y_EM_join (Cond.code y_EM_join b_EM_join 4 none :: w_all) { frames := 0, cells := 0, slots := 0, locals := 0 } (va_Pc [.ref (xe_om E), .int x1, .int x2] (fun U => xx_B E K M U)) (xq_v E K M') 0 0 (xe_A E) :=
  xr_met (by decide) (Nat.le_of_ble_eq_true rfl) fun p e s m below meth c ls C X hlk hr hin hl => kw_EM_join_0 C hlk hr hin hg X hl h
set_option maxHeartbeats 4000000 in
set_option maxRecDepth 100000 in
theorem kwb_EM_keep_72 {rec72 : xm → Int32 → Int32 → Int32 → Option xm} {x2 : Int32} {x4 : Int32} {x5 : Int32} (C : xx_C p m c b_EM_keep 6 s args Rn_EM E) (hlk : meth.locks = false) (hr : meth.sig.returnType = none) (hin : meth.name = "keep") (hg : xe_g E = true) (hrec72 : ∀ {H : Heap} {locs : List Loc} {ls : Array Slot} {M : xm} {x2 : Int32} {x4 : Int32} {x5 : Int32}, xx_S E K M s H locs → lv_has ls 6 [(0, .ref (xe_om E)), (2, .int x2), (4, .int x4), (5, .int x5)] → rec72 M x2 x4 x5 = some M' → W p l e { frames := 0, cells := 0, slots := 0, locals := 0 } s m args below meth c H locs 0 0 (MQ below (xq_v E K M') args s 0 0 (xe_A E)) (F0 m 72 ls [])) (X : xx_S E K M s H locs) (hl : lv_has ls 6 [(0, .ref (xe_om E)), (2, .int x2), (4, .int x4), (5, .int x5)]) (h : kb_EM_keep_72 rec72 M x2 x4 x5 = some M') : W p l e { frames := 0, cells := 0, slots := 0, locals := 0 } s m args below meth c H locs 0 0 (MQ below (xq_v E K M') args s 0 0 (xe_A E)) (F0 m 72 ls []) := by
  have hx := C.1.1
  have hb := C.1.2.1
  unfold kb_EM_keep_72 at h
  refine lv_iload hx hb d_EM_keep_72 (lv_at hl 3 rfl) ?_
  refine lv_bipush hx hb d_EM_keep_74 kn_b_8 ?_
  refine lv_icmp_ge (tgt := 110) hx hb d_EM_keep_76 (by decide +kernel) (fun hc => ?_) (fun hc => ?_)
  · rw [if_pos hc] at h
    obtain rfl := Option.some.inj h
    exact xr_vret C X hlk hr d_EM_keep_110 (Nat.le_of_ble_eq_true rfl) (Nat.le_of_ble_eq_true rfl)
  · rw [if_neg hc] at h
    refine lv_aload_n hx hb d_EM_keep_79 rfl (lv_at hl 0 rfl) ?_
    refine xr_mga C X hg xc_EM 16 (by decide) (by decide) (by decide) m_478 d_EM_keep_80 ?_
    refine lv_bipush hx hb d_EM_keep_83 kn_b_8 ?_
    refine lv_iload hx hb d_EM_keep_85 (lv_at hl 2 rfl) ?_
    refine lv_imul hx hb d_EM_keep_87 ?_
    refine lv_iload hx hb d_EM_keep_88 (lv_at hl 3 rfl) ?_
    refine lv_iadd hx hb d_EM_keep_90 ?_
    refine lv_aload_n hx hb d_EM_keep_91 rfl (lv_at hl 0 rfl) ?_
    refine xr_mga C X hg xc_EM 8 (by decide) (by decide) (by decide) m_470 d_EM_keep_92 ?_
    refine lv_bipush hx hb d_EM_keep_95 kn_b_8 ?_
    refine lv_iload_n hx hb d_EM_keep_97 rfl (lv_at hl 1 rfl) ?_
    refine lv_imul hx hb d_EM_keep_98 ?_
    refine lv_iload hx hb d_EM_keep_99 (lv_at hl 3 rfl) ?_
    refine lv_iadd hx hb d_EM_keep_101 ?_
    replace h := xb h
    obtain ⟨v1, hv, h⟩ := h
    refine xr_mld C X hg 8 (by decide) (by decide) rfl d_EM_keep_102 hv ?_
    replace h := xb h
    obtain ⟨M2, hv, h⟩ := h
    refine xr_mst C X hg 16 (by decide) (by decide) rfl d_EM_keep_103 hv (fun H locs X => ?_)
    refine lv_iinc (k := 3) (v := (x5 + (1 : Int32))) hx hb d_EM_keep_104 hl rfl (congrArg (fun y : Int32 => x5 + y) kn_i_1) (by decide) rfl (fun ls hl => ?_)
    have hl : lv_has ls 6 [(5, .int (x5 + (1 : Int32))), (0, .ref (xe_om E)), (2, .int x2), (4, .int x4)] := hl
    refine lv_goto (tgt := 72) hx hb d_EM_keep_107 (by decide +kernel) ?_
    exact hrec72 (x2 := x2) (x4 := x4) (x5 := (x5 + (1 : Int32))) X (lv_sub hl [1, 2, 3, 0] rfl) h
theorem kw_EM_keep_72 (C : xx_C p m c b_EM_keep 6 s args Rn_EM E) (hlk : meth.locks = false) (hr : meth.sig.returnType = none) (hin : meth.name = "keep") (hg : xe_g E = true) : ∀ (n : Nat) {H : Heap} {locs : List Loc} {ls : Array Slot} {M : xm} {x2 : Int32} {x4 : Int32} {x5 : Int32}, xx_S E K M s H locs → lv_has ls 6 [(0, .ref (xe_om E)), (2, .int x2), (4, .int x4), (5, .int x5)] → kf_EM_keep_72 n M x2 x4 x5 = some M' → W p l e { frames := 0, cells := 0, slots := 0, locals := 0 } s m args below meth c H locs 0 0 (MQ below (xq_v E K M') args s 0 0 (xe_A E)) (F0 m 72 ls []) := by
  intro n
  induction n with
  | zero => intro H locs ls M x2 x4 x5 X hl h; exact nomatch (show (none : Option xm) = some _ from h)
  | succ n ih => intro H locs ls M x2 x4 x5 X hl h; exact kwb_EM_keep_72 C hlk hr hin hg ih X hl h
set_option maxHeartbeats 4000000 in
set_option maxRecDepth 100000 in
theorem kw_EM_keep_61 {x2 : Int32} {x3 : Int32} {x4 : Int32} (C : xx_C p m c b_EM_keep 6 s args Rn_EM E) (hlk : meth.locks = false) (hr : meth.sig.returnType = none) (hin : meth.name = "keep") (hg : xe_g E = true) (X : xx_S E K M s H locs) (hl : lv_has ls 6 [(0, .ref (xe_om E)), (2, .int x2), (3, .int x3), (4, .int x4)]) (h : kf_EM_keep_61 M x2 x3 x4 = some M') : W p l e { frames := 0, cells := 0, slots := 0, locals := 0 } s m args below meth c H locs 0 0 (MQ below (xq_v E K M') args s 0 0 (xe_A E)) (F0 m 61 ls []) := by
  have hx := C.1.1
  have hb := C.1.2.1
  unfold kf_EM_keep_61 at h
  refine lv_aload_n hx hb d_EM_keep_61 rfl (lv_at hl 0 rfl) ?_
  refine xr_mga C X hg xc_EM 15 (by decide) (by decide) (by decide) m_477 d_EM_keep_62 ?_
  refine lv_iload hx hb d_EM_keep_65 (lv_at hl 3 rfl) ?_
  refine lv_iload_n hx hb d_EM_keep_67 rfl (lv_at hl 2 rfl) ?_
  replace h := xb h
  obtain ⟨M1, hv, h⟩ := h
  refine xr_mst C X hg 15 (by decide) (by decide) rfl d_EM_keep_68 hv (fun H locs X => ?_)
  refine lv_iconst hx hb d_EM_keep_69 kn_i_0 ?_
  refine lv_istore hx hb d_EM_keep_70 hl (by decide) rfl (fun ls hl => ?_)
  have hl : lv_has ls 6 [(5, .int (0 : Int32)), (0, .ref (xe_om E)), (2, .int x2), (3, .int x3), (4, .int x4)] := hl
  exact kw_EM_keep_72 C hlk hr hin hg 1000 X (lv_sub hl [1, 2, 4, 0] rfl) h
set_option maxHeartbeats 4000000 in
set_option maxRecDepth 100000 in
theorem kw_EM_keep_18 {x1 : Int32} {x2 : Int32} {s0 : Int32} {s1 : Int32} (C : xx_C p m c b_EM_keep 6 s args Rn_EM E) (hlk : meth.locks = false) (hr : meth.sig.returnType = none) (hin : meth.name = "keep") (hg : xe_g E = true) (X : xx_S E K M s H locs) (hl : lv_has ls 6 [(0, .ref (xe_om E)), (1, .int x1), (2, .int x2)]) (h : kf_EM_keep_18 M x1 x2 s0 s1 = some M') : W p l e { frames := 0, cells := 0, slots := 0, locals := 0 } s m args below meth c H locs 0 0 (MQ below (xq_v E K M') args s 0 0 (xe_A E)) (F0 m 18 ls [.int s0, .int s1]) := by
  have hx := C.1.1
  have hb := C.1.2.1
  unfold kf_EM_keep_18 at h
  refine lv_iand hx hb d_EM_keep_18 ?_
  refine lv_istore_n hx hb d_EM_keep_19 rfl hl (by decide) rfl (fun ls hl => ?_)
  have hl : lv_has ls 6 [(3, .int (s1 &&& s0)), (0, .ref (xe_om E)), (1, .int x1), (2, .int x2)] := hl
  refine lv_iload_n hx hb d_EM_keep_20 rfl (lv_at hl 0 rfl) ?_
  refine lv_if_eq (tgt := 110) hx hb d_EM_keep_21 (by decide +kernel) (fun hc => ?_) (fun hc => ?_)
  · rw [if_pos hc] at h
    obtain rfl := Option.some.inj h
    exact xr_vret C X hlk hr d_EM_keep_110 (Nat.le_of_ble_eq_true rfl) (Nat.le_of_ble_eq_true rfl)
  · rw [if_neg hc] at h
    refine lv_sipush hx hb d_EM_keep_24 kn_s_128 ?_
    refine lv_iload_n hx hb d_EM_keep_27 rfl (lv_at hl 2 rfl) ?_
    refine lv_imul hx hb d_EM_keep_28 ?_
    refine lv_aload_n hx hb d_EM_keep_29 rfl (lv_at hl 1 rfl) ?_
    refine xr_mga C X hg xc_EM 13 (by decide) (by decide) (by decide) m_475 d_EM_keep_30 ?_
    refine lv_iload_n hx hb d_EM_keep_33 rfl (lv_at hl 2 rfl) ?_
    replace h := xb h
    obtain ⟨v1, hv, h⟩ := h
    refine xr_mld C X hg 13 (by decide) (by decide) rfl d_EM_keep_34 hv ?_
    refine lv_iadd hx hb d_EM_keep_35 ?_
    refine lv_istore hx hb d_EM_keep_36 hl (by decide) rfl (fun ls hl => ?_)
    have hl : lv_has ls 6 [(4, .int (((128 : Int32) * x1) + v1)), (3, .int (s1 &&& s0)), (0, .ref (xe_om E)), (1, .int x1), (2, .int x2)] := hl
    refine lv_aload_n hx hb d_EM_keep_38 rfl (lv_at hl 2 rfl) ?_
    refine xr_mga C X hg xc_EM 13 (by decide) (by decide) (by decide) m_475 d_EM_keep_39 ?_
    refine lv_iload_n hx hb d_EM_keep_42 rfl (lv_at hl 3 rfl) ?_
    refine lv_dup2_11 hx hb d_EM_keep_43 rfl rfl ?_
    replace h := xb h
    obtain ⟨v2, hv, h⟩ := h
    refine xr_mld C X hg 13 (by decide) (by decide) rfl d_EM_keep_44 hv ?_
    refine lv_iconst hx hb d_EM_keep_45 kn_i_1 ?_
    refine lv_iadd hx hb d_EM_keep_46 ?_
    replace h := xb h
    obtain ⟨M3, hv, h⟩ := h
    refine xr_mst C X hg 13 (by decide) (by decide) rfl d_EM_keep_47 hv (fun H locs X => ?_)
    refine lv_aload_n hx hb d_EM_keep_48 rfl (lv_at hl 2 rfl) ?_
    refine xr_mga C X hg xc_EM 14 (by decide) (by decide) (by decide) m_476 d_EM_keep_49 ?_
    refine lv_iload hx hb d_EM_keep_52 (lv_at hl 0 rfl) ?_
    refine lv_aload_n hx hb d_EM_keep_54 rfl (lv_at hl 2 rfl) ?_
    refine xr_mga C X hg xc_EM 6 (by decide) (by decide) (by decide) m_468 d_EM_keep_55 ?_
    refine lv_iload_n hx hb d_EM_keep_58 rfl (lv_at hl 4 rfl) ?_
    replace h := xb h
    obtain ⟨v4, hv, h⟩ := h
    refine xr_mld C X hg 6 (by decide) (by decide) rfl d_EM_keep_59 hv ?_
    replace h := xb h
    obtain ⟨M5, hv, h⟩ := h
    refine xr_mst C X hg 14 (by decide) (by decide) rfl d_EM_keep_60 hv (fun H locs X => ?_)
    exact kw_EM_keep_61 (x2 := x2) (x3 := (s1 &&& s0)) (x4 := (((128 : Int32) * x1) + v1)) C hlk hr hin hg  X (lv_sub hl [2, 4, 1, 0] rfl) h
set_option maxHeartbeats 4000000 in
set_option maxRecDepth 100000 in
theorem kw_EM_keep_0 {x1 : Int32} {x2 : Int32} (C : xx_C p m c b_EM_keep 6 s args Rn_EM E) (hlk : meth.locks = false) (hr : meth.sig.returnType = none) (hin : meth.name = "keep") (hg : xe_g E = true) (X : xx_S E K M s H locs) (hl : lv_has ls 6 [(0, .ref (xe_om E)), (1, .int x1), (2, .int x2)]) (h : kf_EM_keep_0 M x1 x2 = some M') : W p l e { frames := 0, cells := 0, slots := 0, locals := 0 } s m args below meth c H locs 0 0 (MQ below (xq_v E K M') args s 0 0 (xe_A E)) (F0 m 0 ls []) := by
  have hx := C.1.1
  have hb := C.1.2.1
  unfold kf_EM_keep_0 at h
  refine lv_aload_n hx hb d_EM_keep_0 rfl (lv_at hl 0 rfl) ?_
  refine xr_mga C X hg xc_EM 7 (by decide) (by decide) (by decide) m_469 d_EM_keep_1 ?_
  refine lv_iload_n hx hb d_EM_keep_4 rfl (lv_at hl 2 rfl) ?_
  replace h := xb h
  obtain ⟨v1, hv, h⟩ := h
  refine xr_mld C X hg 7 (by decide) (by decide) rfl d_EM_keep_5 hv ?_
  refine lv_iload_n hx hb d_EM_keep_6 rfl (lv_at hl 1 rfl) ?_
  refine lv_if_ne (tgt := 15) hx hb d_EM_keep_7 (by decide +kernel) (fun hc => ?_) (fun hc => ?_)
  · rw [if_neg hc] at h
    refine lv_sipush hx hb d_EM_keep_15 kn_s_240 ?_
    exact kw_EM_keep_18 (x1 := x1) (x2 := x2) (s0 := (240 : Int32)) (s1 := v1) C hlk hr hin hg  X (lv_sub hl [0, 1, 2] rfl) h
  · rw [if_pos hc] at h
    refine lv_bipush hx hb d_EM_keep_10 kn_b_15 ?_
    refine lv_goto (tgt := 18) hx hb d_EM_keep_12 (by decide +kernel) ?_
    exact kw_EM_keep_18 (x1 := x1) (x2 := x2) (s0 := (15 : Int32)) (s1 := v1) C hlk hr hin hg  X (lv_sub hl [0, 1, 2] rfl) h
theorem kc_EM_keep (l : Launch) (E : xe) (hg : xe_g E = true) {x1 : Int32} {x2 : Int32} (h : kf_EM_keep_0 M x1 x2 = some M') : Met l y_EM_keep (Cond.code y_EM_keep b_EM_keep 6 none :: w_all) { frames := 0, cells := 0, slots := 0, locals := 0 } (va_Pc [.ref (xe_om E), .int x1, .int x2] (fun U => xx_B E K M U)) (xq_v E K M') 0 0 (xe_A E) :=
  xr_met (by decide) (Nat.le_of_ble_eq_true rfl) fun p e s m below meth c ls C X hlk hr hin hl => kw_EM_keep_0 C hlk hr hin hg X hl h
set_option maxHeartbeats 4000000 in
set_option maxRecDepth 100000 in
theorem kw_EM_pull_51 {r : Int32} (C : xx_C p m c b_EM_pull 5 s args Rn_EM E) (hlk : meth.locks = false) (hr : meth.sig.returnType = (some .int)) (hin : meth.name = "pull") (hg : xe_g E = true) (X : xx_S E K M s H locs) (hl : lv_has ls 5 []) (h : kf_EM_pull_51 M = some (r, M')) : W p l e { frames := 1, cells := 0, slots := 0, locals := 25 } s m args below meth c H locs 0 0 (MQ below (xq_i E K M' r) args s 0 0 (xe_A E)) (F0 m 51 ls []) := by
  have hx := C.1.1
  have hb := C.1.2.1
  unfold kf_EM_pull_51 at h
  refine lv_iconst hx hb d_EM_pull_51 kn_i_m1 ?_
  obtain ⟨rfl, rfl⟩ := Prod.mk.inj (Option.some.inj h)
  exact xr_iret C X hlk hr d_EM_pull_52 rfl (Nat.le_of_ble_eq_true rfl) (Nat.le_of_ble_eq_true rfl)
set_option maxHeartbeats 4000000 in
set_option maxRecDepth 100000 in
theorem kw_EM_pull_158 {x1 : Int32} {x2 : Int32} {r : Int32} (C : xx_C p m c b_EM_pull 5 s args Rn_EM E) (hlk : meth.locks = false) (hr : meth.sig.returnType = (some .int)) (hin : meth.name = "pull") (hg : xe_g E = true) (X : xx_S E K M s H locs) (hl : lv_has ls 5 [(0, .ref (xe_om E)), (1, .int x1), (2, .int x2)]) (h : kf_EM_pull_158 M x1 x2 = some (r, M')) : W p l e { frames := 1, cells := 0, slots := 0, locals := 25 } s m args below meth c H locs 0 0 (MQ below (xq_i E K M' r) args s 0 0 (xe_A E)) (F0 m 158 ls []) := by
  have hx := C.1.1
  have hb := C.1.2.1
  unfold kf_EM_pull_158 at h
  refine lv_aload_n hx hb d_EM_pull_158 rfl (lv_at hl 0 rfl) ?_
  refine xr_mga C X hg xc_EM 12 (by decide) (by decide) (by decide) m_474 d_EM_pull_159 ?_
  refine lv_iload_n hx hb d_EM_pull_162 rfl (lv_at hl 1 rfl) ?_
  refine lv_aload_n hx hb d_EM_pull_163 rfl (lv_at hl 0 rfl) ?_
  refine xr_mga C X hg xc_EM 4 (by decide) (by decide) (by decide) m_466 d_EM_pull_164 ?_
  refine lv_iload_n hx hb d_EM_pull_167 rfl (lv_at hl 2 rfl) ?_
  replace h := xb h
  obtain ⟨v1, hv, h⟩ := h
  refine xr_mld C X hg 4 (by decide) (by decide) rfl d_EM_pull_168 hv ?_
  replace h := xb h
  obtain ⟨M2, hv, h⟩ := h
  refine xr_mst C X hg 12 (by decide) (by decide) rfl d_EM_pull_169 hv (fun H locs X => ?_)
  refine lv_aload_n hx hb d_EM_pull_170 rfl (lv_at hl 0 rfl) ?_
  refine xr_mga C X hg xc_EM 12 (by decide) (by decide) (by decide) m_474 d_EM_pull_171 ?_
  refine lv_iload_n hx hb d_EM_pull_174 rfl (lv_at hl 1 rfl) ?_
  replace h := xb h
  obtain ⟨v3, hv, h⟩ := h
  refine xr_mld C X hg 12 (by decide) (by decide) rfl d_EM_pull_175 hv ?_
  obtain ⟨rfl, rfl⟩ := Prod.mk.inj (Option.some.inj h)
  exact xr_iret C X hlk hr d_EM_pull_176 rfl (Nat.le_of_ble_eq_true rfl) (Nat.le_of_ble_eq_true rfl)
set_option maxHeartbeats 4000000 in
set_option maxRecDepth 100000 in
theorem kw_EM_pull_116 {x1 : Int32} {x2 : Int32} {x3 : Int32} {x4 : Int32} {r : Int32} (C : xx_C p m c b_EM_pull 5 s args Rn_EM E) (hlk : meth.locks = false) (hr : meth.sig.returnType = (some .int)) (hin : meth.name = "pull") (hg : xe_g E = true) (X : xx_S E K M s H locs) (hl : lv_has ls 5 [(0, .ref (xe_om E)), (1, .int x1), (2, .int x2), (3, .int x3), (4, .int x4)]) (h : kf_EM_pull_116 M x1 x2 x3 x4 = some (r, M')) : W p l e { frames := 1, cells := 0, slots := 0, locals := 25 } s m args below meth c H locs 0 0 (MQ below (xq_i E K M' r) args s 0 0 (xe_A E)) (F0 m 116 ls []) := by
  have hx := C.1.1
  have hb := C.1.2.1
  unfold kf_EM_pull_116 at h
  refine lv_iload_n hx hb d_EM_pull_116 rfl (lv_at hl 3 rfl) ?_
  refine lv_iload hx hb d_EM_pull_117 (lv_at hl 4 rfl) ?_
  refine lv_icmp_ge (tgt := 143) hx hb d_EM_pull_119 (by decide +kernel) (fun hc => ?_) (fun hc => ?_)
  · rw [if_pos hc] at h
    refine lv_aload_n hx hb d_EM_pull_143 rfl (lv_at hl 0 rfl) ?_
    refine xr_mga C X hg xc_EM 4 (by decide) (by decide) (by decide) m_466 d_EM_pull_144 ?_
    refine lv_iload_n hx hb d_EM_pull_147 rfl (lv_at hl 2 rfl) ?_
    replace h := xb h
    obtain ⟨v1, hv, h⟩ := h
    refine xr_mld C X hg 4 (by decide) (by decide) rfl d_EM_pull_148 hv ?_
    refine lv_aload_n hx hb d_EM_pull_149 rfl (lv_at hl 0 rfl) ?_
    refine xr_mga C X hg xc_EM 12 (by decide) (by decide) (by decide) m_474 d_EM_pull_150 ?_
    refine lv_iload_n hx hb d_EM_pull_153 rfl (lv_at hl 1 rfl) ?_
    replace h := xb h
    obtain ⟨v2, hv, h⟩ := h
    refine xr_mld C X hg 12 (by decide) (by decide) rfl d_EM_pull_154 hv ?_
    refine lv_icmp_le (tgt := 170) hx hb d_EM_pull_155 (by decide +kernel) (fun hc => ?_) (fun hc => ?_)
    · rw [if_pos hc] at h
      refine lv_aload_n hx hb d_EM_pull_170 rfl (lv_at hl 0 rfl) ?_
      refine xr_mga C X hg xc_EM 12 (by decide) (by decide) (by decide) m_474 d_EM_pull_171 ?_
      refine lv_iload_n hx hb d_EM_pull_174 rfl (lv_at hl 1 rfl) ?_
      replace h := xb h
      obtain ⟨v3, hv, h⟩ := h
      refine xr_mld C X hg 12 (by decide) (by decide) rfl d_EM_pull_175 hv ?_
      obtain ⟨rfl, rfl⟩ := Prod.mk.inj (Option.some.inj h)
      exact xr_iret C X hlk hr d_EM_pull_176 rfl (Nat.le_of_ble_eq_true rfl) (Nat.le_of_ble_eq_true rfl)
    · rw [if_neg hc] at h
      exact kw_EM_pull_158 (x1 := x1) (x2 := x2) C hlk hr hin hg  X (lv_sub hl [0, 1, 2] rfl) h
  · rw [if_neg hc] at h
    refine lv_aload_n hx hb d_EM_pull_122 rfl (lv_at hl 0 rfl) ?_
    refine lv_iload_n hx hb d_EM_pull_123 rfl (lv_at hl 1 rfl) ?_
    refine lv_iload_n hx hb d_EM_pull_124 rfl (lv_at hl 3 rfl) ?_
    replace h := xb h
    obtain ⟨M4, hv, h⟩ := h
    refine xr_kv (va_runV (As := [.int x1, .int x3]) (rest := []) C.1 (kc_EM_keep l E hg hv) (cwV 2 C.1.2.2.2.2 (xw_V m_611 m_612 m_613 m_521 m_614) rfl rfl rfl ky_EM_keep ⟨(Nat.le_of_ble_eq_true rfl), (Nat.le_of_ble_eq_true rfl)⟩) (xr_pV C X xc_EM.1 (xk_Xw (X.1.2.2.2.2.2 hg).1)) rfl rfl hl.1 rfl (lv_room (Nat.le_of_ble_eq_true rfl)) d_EM_pull_125 ⟨(Nat.le_of_ble_eq_true rfl), (Nat.le_of_ble_eq_true rfl)⟩) X (fun H locs X => ?_)
    refine lv_aload_n hx hb d_EM_pull_128 rfl (lv_at hl 0 rfl) ?_
    refine xr_mga C X hg xc_EM 12 (by decide) (by decide) (by decide) m_474 d_EM_pull_129 ?_
    refine lv_iload_n hx hb d_EM_pull_132 rfl (lv_at hl 1 rfl) ?_
    refine lv_aload_n hx hb d_EM_pull_133 rfl (lv_at hl 0 rfl) ?_
    refine xr_mga C X hg xc_EM 6 (by decide) (by decide) (by decide) m_468 d_EM_pull_134 ?_
    refine lv_iload_n hx hb d_EM_pull_137 rfl (lv_at hl 3 rfl) ?_
    replace h := xb h
    obtain ⟨v5, hv, h⟩ := h
    refine xr_mld C X hg 6 (by decide) (by decide) rfl d_EM_pull_138 hv ?_
    replace h := xb h
    obtain ⟨M6, hv, h⟩ := h
    refine xr_mst C X hg 12 (by decide) (by decide) rfl d_EM_pull_139 hv (fun H locs X => ?_)
    refine lv_goto (tgt := 170) hx hb d_EM_pull_140 (by decide +kernel) ?_
    refine lv_aload_n hx hb d_EM_pull_170 rfl (lv_at hl 0 rfl) ?_
    refine xr_mga C X hg xc_EM 12 (by decide) (by decide) (by decide) m_474 d_EM_pull_171 ?_
    refine lv_iload_n hx hb d_EM_pull_174 rfl (lv_at hl 1 rfl) ?_
    replace h := xb h
    obtain ⟨v7, hv, h⟩ := h
    refine xr_mld C X hg 12 (by decide) (by decide) rfl d_EM_pull_175 hv ?_
    obtain ⟨rfl, rfl⟩ := Prod.mk.inj (Option.some.inj h)
    exact xr_iret C X hlk hr d_EM_pull_176 rfl (Nat.le_of_ble_eq_true rfl) (Nat.le_of_ble_eq_true rfl)
set_option maxHeartbeats 4000000 in
set_option maxRecDepth 100000 in
theorem kwb_EM_pull_89 {rec89 : xm → Int32 → Int32 → Int32 → Int32 → Option (Int32 × xm)} {x1 : Int32} {x2 : Int32} {x3 : Int32} {x4 : Int32} {r : Int32} (C : xx_C p m c b_EM_pull 5 s args Rn_EM E) (hlk : meth.locks = false) (hr : meth.sig.returnType = (some .int)) (hin : meth.name = "pull") (hg : xe_g E = true) (hrec89 : ∀ {H : Heap} {locs : List Loc} {ls : Array Slot} {M : xm} {x1 : Int32} {x2 : Int32} {x3 : Int32} {x4 : Int32}, xx_S E K M s H locs → lv_has ls 5 [(0, .ref (xe_om E)), (1, .int x1), (2, .int x2), (3, .int x3), (4, .int x4)] → rec89 M x1 x2 x3 x4 = some (r, M') → W p l e { frames := 1, cells := 0, slots := 0, locals := 25 } s m args below meth c H locs 0 0 (MQ below (xq_i E K M' r) args s 0 0 (xe_A E)) (F0 m 89 ls [])) (X : xx_S E K M s H locs) (hl : lv_has ls 5 [(0, .ref (xe_om E)), (1, .int x1), (2, .int x2), (3, .int x3), (4, .int x4)]) (h : kb_EM_pull_89 rec89 M x1 x2 x3 x4 = some (r, M')) : W p l e { frames := 1, cells := 0, slots := 0, locals := 25 } s m args below meth c H locs 0 0 (MQ below (xq_i E K M' r) args s 0 0 (xe_A E)) (F0 m 89 ls []) := by
  have hx := C.1.1
  have hb := C.1.2.1
  unfold kb_EM_pull_89 at h
  refine lv_iload_n hx hb d_EM_pull_89 rfl (lv_at hl 3 rfl) ?_
  refine lv_iload hx hb d_EM_pull_90 (lv_at hl 4 rfl) ?_
  refine lv_icmp_ge (tgt := 116) hx hb d_EM_pull_92 (by decide +kernel) (fun hc => ?_) (fun hc => ?_)
  · rw [if_pos hc] at h
    exact kw_EM_pull_116 (x1 := x1) (x2 := x2) (x3 := x3) (x4 := x4) C hlk hr hin hg  X (lv_sub hl [0, 1, 2, 3, 4] rfl) h
  · rw [if_neg hc] at h
    refine lv_aload_n hx hb d_EM_pull_95 rfl (lv_at hl 0 rfl) ?_
    refine xr_mga C X hg xc_EM 6 (by decide) (by decide) (by decide) m_468 d_EM_pull_96 ?_
    refine lv_iload_n hx hb d_EM_pull_99 rfl (lv_at hl 3 rfl) ?_
    replace h := xb h
    obtain ⟨v1, hv, h⟩ := h
    refine xr_mld C X hg 6 (by decide) (by decide) rfl d_EM_pull_100 hv ?_
    refine lv_aload_n hx hb d_EM_pull_101 rfl (lv_at hl 0 rfl) ?_
    refine xr_mga C X hg xc_EM 12 (by decide) (by decide) (by decide) m_474 d_EM_pull_102 ?_
    refine lv_iload_n hx hb d_EM_pull_105 rfl (lv_at hl 1 rfl) ?_
    replace h := xb h
    obtain ⟨v2, hv, h⟩ := h
    refine xr_mld C X hg 12 (by decide) (by decide) rfl d_EM_pull_106 hv ?_
    refine lv_icmp_gt (tgt := 116) hx hb d_EM_pull_107 (by decide +kernel) (fun hc => ?_) (fun hc => ?_)
    · rw [if_pos hc] at h
      exact kw_EM_pull_116 (x1 := x1) (x2 := x2) (x3 := x3) (x4 := x4) C hlk hr hin hg  X (lv_sub hl [0, 1, 2, 3, 4] rfl) h
    · rw [if_neg hc] at h
      refine lv_iinc (k := 3) (v := (x3 + (1 : Int32))) hx hb d_EM_pull_110 hl rfl (congrArg (fun y : Int32 => x3 + y) kn_i_1) (by decide) rfl (fun ls hl => ?_)
      have hl : lv_has ls 5 [(3, .int (x3 + (1 : Int32))), (0, .ref (xe_om E)), (1, .int x1), (2, .int x2), (4, .int x4)] := hl
      refine lv_goto (tgt := 89) hx hb d_EM_pull_113 (by decide +kernel) ?_
      exact hrec89 (x1 := x1) (x2 := x2) (x3 := (x3 + (1 : Int32))) (x4 := x4) X (lv_sub hl [1, 2, 3, 0, 4] rfl) h
theorem kw_EM_pull_89 {r : Int32} (C : xx_C p m c b_EM_pull 5 s args Rn_EM E) (hlk : meth.locks = false) (hr : meth.sig.returnType = (some .int)) (hin : meth.name = "pull") (hg : xe_g E = true) : ∀ (n : Nat) {H : Heap} {locs : List Loc} {ls : Array Slot} {M : xm} {x1 : Int32} {x2 : Int32} {x3 : Int32} {x4 : Int32}, xx_S E K M s H locs → lv_has ls 5 [(0, .ref (xe_om E)), (1, .int x1), (2, .int x2), (3, .int x3), (4, .int x4)] → kf_EM_pull_89 n M x1 x2 x3 x4 = some (r, M') → W p l e { frames := 1, cells := 0, slots := 0, locals := 25 } s m args below meth c H locs 0 0 (MQ below (xq_i E K M' r) args s 0 0 (xe_A E)) (F0 m 89 ls []) := by
  intro n
  induction n with
  | zero => intro H locs ls M x1 x2 x3 x4 X hl h; exact nomatch (show (none : Option (Int32 × xm)) = some _ from h)
  | succ n ih => intro H locs ls M x1 x2 x3 x4 X hl h; exact kwb_EM_pull_89 C hlk hr hin hg ih X hl h
set_option maxHeartbeats 4000000 in
set_option maxRecDepth 100000 in
theorem kw_EM_pull_74 {x1 : Int32} {x2 : Int32} {r : Int32} (C : xx_C p m c b_EM_pull 5 s args Rn_EM E) (hlk : meth.locks = false) (hr : meth.sig.returnType = (some .int)) (hin : meth.name = "pull") (hg : xe_g E = true) (X : xx_S E K M s H locs) (hl : lv_has ls 5 [(0, .ref (xe_om E)), (1, .int x1), (2, .int x2)]) (h : kf_EM_pull_74 M x1 x2 = some (r, M')) : W p l e { frames := 1, cells := 0, slots := 0, locals := 25 } s m args below meth c H locs 0 0 (MQ below (xq_i E K M' r) args s 0 0 (xe_A E)) (F0 m 74 ls []) := by
  have hx := C.1.1
  have hb := C.1.2.1
  unfold kf_EM_pull_74 at h
  refine lv_bipush hx hb d_EM_pull_74 kn_b_100 ?_
  refine lv_iload_n hx hb d_EM_pull_76 rfl (lv_at hl 2 rfl) ?_
  refine lv_imul hx hb d_EM_pull_77 ?_
  refine lv_istore_n hx hb d_EM_pull_78 rfl hl (by decide) rfl (fun ls hl => ?_)
  have hl : lv_has ls 5 [(3, .int ((100 : Int32) * x2)), (0, .ref (xe_om E)), (1, .int x1), (2, .int x2)] := hl
  refine lv_iload_n hx hb d_EM_pull_79 rfl (lv_at hl 0 rfl) ?_
  refine lv_aload_n hx hb d_EM_pull_80 rfl (lv_at hl 1 rfl) ?_
  refine xr_mga C X hg xc_EM 5 (by decide) (by decide) (by decide) m_467 d_EM_pull_81 ?_
  refine lv_iload_n hx hb d_EM_pull_84 rfl (lv_at hl 3 rfl) ?_
  replace h := xb h
  obtain ⟨v1, hv, h⟩ := h
  refine xr_mld C X hg 5 (by decide) (by decide) rfl d_EM_pull_85 hv ?_
  refine lv_iadd hx hb d_EM_pull_86 ?_
  refine lv_istore hx hb d_EM_pull_87 hl (by decide) rfl (fun ls hl => ?_)
  have hl : lv_has ls 5 [(4, .int (((100 : Int32) * x2) + v1)), (3, .int ((100 : Int32) * x2)), (0, .ref (xe_om E)), (1, .int x1), (2, .int x2)] := hl
  exact kw_EM_pull_89 C hlk hr hin hg 1000 X (lv_sub hl [2, 3, 4, 1, 0] rfl) h
set_option maxHeartbeats 4000000 in
set_option maxRecDepth 100000 in
theorem kw_EM_pull_0 {x1 : Int32} {x2 : Int32} {r : Int32} (C : xx_C p m c b_EM_pull 5 s args Rn_EM E) (hlk : meth.locks = false) (hr : meth.sig.returnType = (some .int)) (hin : meth.name = "pull") (hg : xe_g E = true) (X : xx_S E K M s H locs) (hl : lv_has ls 5 [(0, .ref (xe_om E)), (1, .int x1), (2, .int x2)]) (h : kf_EM_pull_0 M x1 x2 = some (r, M')) : W p l e { frames := 1, cells := 0, slots := 0, locals := 25 } s m args below meth c H locs 0 0 (MQ below (xq_i E K M' r) args s 0 0 (xe_A E)) (F0 m 0 ls []) := by
  have hx := C.1.1
  have hb := C.1.2.1
  unfold kf_EM_pull_0 at h
  refine lv_iload_n hx hb d_EM_pull_0 rfl (lv_at hl 1 rfl) ?_
  refine lv_if_lt (tgt := 51) hx hb d_EM_pull_1 (by decide +kernel) (fun hc => ?_) (fun hc => ?_)
  · rw [if_pos hc] at h
    exact kw_EM_pull_51 C hlk hr hin hg  X (lv_sub hl [] rfl) h
  · rw [if_neg hc] at h
    refine lv_iload_n hx hb d_EM_pull_4 rfl (lv_at hl 1 rfl) ?_
    refine lv_iconst hx hb d_EM_pull_5 kn_i_1 ?_
    refine lv_icmp_gt (tgt := 51) hx hb d_EM_pull_6 (by decide +kernel) (fun hc => ?_) (fun hc => ?_)
    · rw [if_pos hc] at h
      exact kw_EM_pull_51 C hlk hr hin hg  X (lv_sub hl [] rfl) h
    · rw [if_neg hc] at h
      refine lv_iload_n hx hb d_EM_pull_9 rfl (lv_at hl 2 rfl) ?_
      refine lv_if_lt (tgt := 51) hx hb d_EM_pull_10 (by decide +kernel) (fun hc => ?_) (fun hc => ?_)
      · rw [if_pos hc] at h
        exact kw_EM_pull_51 C hlk hr hin hg  X (lv_sub hl [] rfl) h
      · rw [if_neg hc] at h
        refine lv_iload_n hx hb d_EM_pull_13 rfl (lv_at hl 2 rfl) ?_
        refine lv_iconst hx hb d_EM_pull_14 kn_i_2 ?_
        refine lv_icmp_gt (tgt := 51) hx hb d_EM_pull_15 (by decide +kernel) (fun hc => ?_) (fun hc => ?_)
        · rw [if_pos hc] at h
          exact kw_EM_pull_51 C hlk hr hin hg  X (lv_sub hl [] rfl) h
        · rw [if_neg hc] at h
          refine lv_aload_n hx hb d_EM_pull_18 rfl (lv_at hl 0 rfl) ?_
          refine xr_mga C X hg xc_EM 11 (by decide) (by decide) (by decide) m_473 d_EM_pull_19 ?_
          refine lv_iload_n hx hb d_EM_pull_22 rfl (lv_at hl 1 rfl) ?_
          replace h := xb h
          obtain ⟨v1, hv, h⟩ := h
          refine xr_mldz C X hg 11 (by decide) (by decide) rfl d_EM_pull_23 hv ?_
          refine lv_if_eq (tgt := 51) hx hb d_EM_pull_24 (by decide +kernel) (fun hc => ?_) (fun hc => ?_)
          · rw [if_pos hc] at h
            exact kw_EM_pull_51 C hlk hr hin hg  X (lv_sub hl [] rfl) h
          · rw [if_neg hc] at h
            refine lv_aload_n hx hb d_EM_pull_27 rfl (lv_at hl 0 rfl) ?_
            refine xr_mga C X hg xc_EM 3 (by decide) (by decide) (by decide) m_465 d_EM_pull_28 ?_
            refine lv_iload_n hx hb d_EM_pull_31 rfl (lv_at hl 2 rfl) ?_
            replace h := xb h
            obtain ⟨v2, hv, h⟩ := h
            refine xr_mldz C X hg 3 (by decide) (by decide) rfl d_EM_pull_32 hv ?_
            refine lv_if_eq (tgt := 51) hx hb d_EM_pull_33 (by decide +kernel) (fun hc => ?_) (fun hc => ?_)
            · rw [if_pos hc] at h
              exact kw_EM_pull_51 C hlk hr hin hg  X (lv_sub hl [] rfl) h
            · rw [if_neg hc] at h
              refine lv_aload_n hx hb d_EM_pull_36 rfl (lv_at hl 0 rfl) ?_
              refine xr_mga C X hg xc_EM 2 (by decide) (by decide) (by decide) m_464 d_EM_pull_37 ?_
              refine lv_iload_n hx hb d_EM_pull_40 rfl (lv_at hl 2 rfl) ?_
              replace h := xb h
              obtain ⟨v3, hv, h⟩ := h
              refine xr_mld C X hg 2 (by decide) (by decide) rfl d_EM_pull_41 hv ?_
              refine lv_aload_n hx hb d_EM_pull_42 rfl (lv_at hl 0 rfl) ?_
              refine xr_mga C X hg xc_EM 10 (by decide) (by decide) (by decide) m_472 d_EM_pull_43 ?_
              refine lv_iload_n hx hb d_EM_pull_46 rfl (lv_at hl 1 rfl) ?_
              replace h := xb h
              obtain ⟨v4, hv, h⟩ := h
              refine xr_mld C X hg 10 (by decide) (by decide) rfl d_EM_pull_47 hv ?_
              refine lv_icmp_ge (tgt := 53) hx hb d_EM_pull_48 (by decide +kernel) (fun hc => ?_) (fun hc => ?_)
              · rw [if_pos hc] at h
                refine lv_aload_n hx hb d_EM_pull_53 rfl (lv_at hl 0 rfl) ?_
                refine xr_mga C X hg xc_EM 2 (by decide) (by decide) (by decide) m_464 d_EM_pull_54 ?_
                refine lv_iload_n hx hb d_EM_pull_57 rfl (lv_at hl 2 rfl) ?_
                replace h := xb h
                obtain ⟨v5, hv, h⟩ := h
                refine xr_mld C X hg 2 (by decide) (by decide) rfl d_EM_pull_58 hv ?_
                refine lv_aload_n hx hb d_EM_pull_59 rfl (lv_at hl 0 rfl) ?_
                refine xr_mga C X hg xc_EM 10 (by decide) (by decide) (by decide) m_472 d_EM_pull_60 ?_
                refine lv_iload_n hx hb d_EM_pull_63 rfl (lv_at hl 1 rfl) ?_
                replace h := xb h
                obtain ⟨v6, hv, h⟩ := h
                refine xr_mld C X hg 10 (by decide) (by decide) rfl d_EM_pull_64 hv ?_
                refine lv_icmp_le (tgt := 74) hx hb d_EM_pull_65 (by decide +kernel) (fun hc => ?_) (fun hc => ?_)
                · rw [if_pos hc] at h
                  exact kw_EM_pull_74 (x1 := x1) (x2 := x2) C hlk hr hin hg  X (lv_sub hl [0, 1, 2] rfl) h
                · rw [if_neg hc] at h
                  refine lv_aload_n hx hb d_EM_pull_68 rfl (lv_at hl 0 rfl) ?_
                  refine lv_iload_n hx hb d_EM_pull_69 rfl (lv_at hl 1 rfl) ?_
                  refine lv_iload_n hx hb d_EM_pull_70 rfl (lv_at hl 2 rfl) ?_
                  replace h := xb h
                  obtain ⟨M7, hv, h⟩ := h
                  refine xr_kv (va_runV (As := [.int x1, .int x2]) (rest := []) C.1 (kc_EM_join l E hg hv) (cwV 2 C.1.2.2.2.2 (xw_V m_607 m_608 m_609 m_521 m_610) rfl rfl rfl ky_EM_join ⟨(Nat.le_of_ble_eq_true rfl), (Nat.le_of_ble_eq_true rfl)⟩) (xr_pV C X xc_EM.1 (xk_Xw (X.1.2.2.2.2.2 hg).1)) rfl rfl hl.1 rfl (lv_room (Nat.le_of_ble_eq_true rfl)) d_EM_pull_71 ⟨(Nat.le_of_ble_eq_true rfl), (Nat.le_of_ble_eq_true rfl)⟩) X (fun H locs X => ?_)
                  exact kw_EM_pull_74 (x1 := x1) (x2 := x2) C hlk hr hin hg  X (lv_sub hl [0, 1, 2] rfl) h
              · rw [if_neg hc] at h
                exact kw_EM_pull_51 C hlk hr hin hg  X (lv_sub hl [] rfl) h
theorem kc_EM_pull (l : Launch) (E : xe) (hg : xe_g E = true) {x1 : Int32} {x2 : Int32} {r : Int32} (h : kf_EM_pull_0 M x1 x2 = some (r, M')) : Met l y_EM_pull (Cond.code y_EM_pull b_EM_pull 5 (some .int) :: w_all) { frames := 1, cells := 0, slots := 0, locals := 25 } (va_Pc [.ref (xe_om E), .int x1, .int x2] (fun U => xx_B E K M U)) (xq_i E K M' r) 0 0 (xe_A E) :=
  xr_met (by decide) (Nat.le_of_ble_eq_true rfl) fun p e s m below meth c ls C X hlk hr hin hl => kw_EM_pull_0 C hlk hr hin hg X hl h
end KW19
