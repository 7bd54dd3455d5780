/-! EpochStoreModel.copyLog(II)V -/
def kf_EM_copyLog_114 (rec14 : xm → Int32 → Int32 → Int32 → Option xm) (rec71 : xm → Int32 → Int32 → Int32 → Int32 → Option xm) (M : xm) (x1 : Int32) (x2 : Int32) (x3 : Int32) (x4 : Int32) : Option xm := rec71 M x1 x2 x3 (x4 + (1 : Int32))
def kb_EM_copyLog_71 (rec14 : xm → Int32 → Int32 → Int32 → Option xm) (rec71 : xm → Int32 → Int32 → Int32 → Int32 → Option xm) (M : xm) (x1 : Int32) (x2 : Int32) (x3 : Int32) (x4 : Int32) : Option xm := if (8 : Int32) ≤ x4 then (rec14 M x1 x2 (x3 + (1 : Int32))) else (xMi M 8 ((((800 : Int32) * x1) + ((8 : Int32) * x3)) + x4)).bind fun v1 => (xMt M 8 ((((800 : Int32) * x2) + ((8 : Int32) * x3)) + x4) v1).bind fun M2 => kf_EM_copyLog_114 rec14 rec71 M2 x1 x2 x3 x4
def kf_EM_copyLog_71 (rec14 : xm → Int32 → Int32 → Int32 → Option xm) : Nat → xm → Int32 → Int32 → Int32 → Int32 → Option xm
  | 0 => fun _ _ _ _ _ => none
  | n + 1 => kb_EM_copyLog_71 rec14 (kf_EM_copyLog_71 rec14 n)
def kf_EM_copyLog_68 (rec14 : xm → Int32 → Int32 → Int32 → Option xm) (M : xm) (x1 : Int32) (x2 : Int32) (x3 : Int32) : Option xm := kf_EM_copyLog_71 rec14 1000 M x1 x2 x3 (0 : Int32)
def kb_EM_copyLog_128 (rec128 : xm → Int32 → Int32 → Int32 → Option xm) (M : xm) (x1 : Int32) (x2 : Int32) (x3 : Int32) : Option xm := if (10 : Int32) ≤ x3 then (some M) else (xMi M 9 (((10 : Int32) * x1) + x3)).bind fun v1 => (xMt M 9 (((10 : Int32) * x2) + x3) v1).bind fun M2 => rec128 M2 x1 x2 (x3 + (1 : Int32))
def kf_EM_copyLog_128 : Nat → xm → Int32 → Int32 → Int32 → Option xm
  | 0 => fun _ _ _ _ => none
  | n + 1 => kb_EM_copyLog_128 (kf_EM_copyLog_128 n)
def kb_EM_copyLog_14 (rec14 : xm → Int32 → Int32 → Int32 → Option xm) (M : xm) (x1 : Int32) (x2 : Int32) (x3 : Int32) : Option xm := (xMi M 5 x1).bind fun v1 => if v1 ≤ x3 then (kf_EM_copyLog_128 1000 M x1 x2 (0 : Int32)) else (xMi M 6 (((100 : Int32) * x1) + x3)).bind fun v2 => (xMt M 6 (((100 : Int32) * x2) + x3) v2).bind fun M3 => (xMi M3 7 (((100 : Int32) * x1) + x3)).bind fun v4 => (xMt M3 7 (((100 : Int32) * x2) + x3) v4).bind fun M5 => kf_EM_copyLog_68 rec14 M5 x1 x2 x3
def kf_EM_copyLog_14 : Nat → xm → Int32 → Int32 → Int32 → Option xm
  | 0 => fun _ _ _ _ => none
  | n + 1 => kb_EM_copyLog_14 (kf_EM_copyLog_14 n)
def kf_EM_copyLog_0 (M : xm) (x1 : Int32) (x2 : Int32) : Option xm := (xMi M 5 x1).bind fun v1 => (xMt M 5 x2 v1).bind fun M2 => kf_EM_copyLog_14 1000 M2 x1 x2 (0 : Int32)
/-! EpochStoreModel.recover(I)I -/
def kf_EM_recover_47 (M : xm) : Option (Int32 × xm) := some ((-1 : Int32), M)
def kf_EM_recover_197 (rec121 : xm → Int32 → Int32 → Int32 → Int32 → Option (Int32 × xm)) (M : xm) (x1 : Int32) (x3 : Int32) (x4 : Int32) (x5 : Int32) : Option (Int32 × xm) := rec121 M x1 x3 x4 (x5 + (1 : Int32))
def kf_EM_recover_150 (rec121 : xm → Int32 → Int32 → Int32 → Int32 → Option (Int32 × xm)) (M : xm) (x1 : Int32) (x3 : Int32) (x4 : Int32) (x5 : Int32) : Option (Int32 × xm) := (xMt M 2 x5 x3).bind fun M1 => (xMt M1 9 (((10 : Int32) * x5) + x3) x4).bind fun M2 => (xMt M2 4 x5 (x4 + (10 : Int32))).bind fun M3 => (xMi M3 18 x3).bind fun v4 => (xMt M3 18 x3 (v4 + ((1 : Int32) <<< (x5 &&& 31)))).bind fun M5 => kf_EM_recover_197 rec121 M5 x1 x3 x4 x5
def kb_EM_recover_250 (rec250 : xm → Int32 → Int32 → Int32 → Option (Int32 × xm)) (M : xm) (x3 : Int32) (x4 : Int32) (x5 : Int32) : Option (Int32 × xm) := if (8 : Int32) ≤ x5 then (some (x3, M)) else (xMt M 23 (((8 : Int32) * x3) + x5) (x4 + (10 : Int32))).bind fun M1 => rec250 M1 x3 x4 (x5 + (1 : Int32))
def kf_EM_recover_250 : Nat → xm → Int32 → Int32 → Int32 → Option (Int32 × xm)
  | 0 => fun _ _ _ _ => none
  | n + 1 => kb_EM_recover_250 (kf_EM_recover_250 n)
def kf_EM_recover_247 (M : xm) (x3 : Int32) (x4 : Int32) : Option (Int32 × xm) := kf_EM_recover_250 1000 M x3 x4 (0 : Int32)
def kb_EM_recover_121 (rec121 : xm → Int32 → Int32 → Int32 → Int32 → Option (Int32 × xm)) (M : xm) (x1 : Int32) (x3 : Int32) (x4 : Int32) (x5 : Int32) : Option (Int32 × xm) := if (3 : Int32) ≤ x5 then ((xMt M 19 x3 (x4 + (10 : Int32))).bind fun M1 => (xMt M1 20 x3 (x4 + (10 : Int32))).bind fun M2 => (xMt M2 21 x3 (x4 + (10 : Int32))).bind fun M3 => (xMt M3 22 x3 (x4 + (10 : Int32))).bind fun M4 => kf_EM_recover_247 M4 x3 x4) else (xMi M 3 x5).bind fun v5 => if v5 = 0 then (kf_EM_recover_197 rec121 M x1 x3 x4 x5) else if x5 = x1 then (kf_EM_recover_150 rec121 M x1 x3 x4 x5) else (kf_EM_copyLog_0 M x1 x5).bind fun M6 => kf_EM_recover_150 rec121 M6 x1 x3 x4 x5
def kf_EM_recover_121 : Nat → xm → Int32 → Int32 → Int32 → Int32 → Option (Int32 × xm)
  | 0 => fun _ _ _ _ _ => none
  | n + 1 => kb_EM_recover_121 (kf_EM_recover_121 n)
def kf_EM_recover_111 (M : xm) (x1 : Int32) (x3 : Int32) (x4 : Int32) : Option (Int32 × xm) := (xMt M 18 x3 (0 : Int32)).bind fun M1 => kf_EM_recover_121 1000 M1 x1 x3 x4 (0 : Int32)
def kb_EM_recover_64 (rec64 : xm → Int32 → Int32 → Int32 → Int32 → Option (Int32 × xm)) (M : xm) (x1 : Int32) (x3 : Int32) (x4 : Int32) (x5 : Int32) : Option (Int32 × xm) := if (3 : Int32) ≤ x5 then ((xMz M 17 x3 (1 : Int32)).bind fun M1 => kf_EM_recover_111 M1 x1 x3 x4) else (xMi M 1 x5).bind fun v2 => if v2 = 0 then ((xMi M 0 x5).bind fun v3 => (xMt M 0 x5 v3).bind fun M4 => rec64 M4 x1 x3 x4 (x5 + (1 : Int32))) else (xMt M 0 x5 x3).bind fun M5 => rec64 M5 x1 x3 x4 (x5 + (1 : Int32))
def kf_EM_recover_64 : Nat → xm → Int32 → Int32 → Int32 → Int32 → Option (Int32 × xm)
  | 0 => fun _ _ _ _ _ => none
  | n + 1 => kb_EM_recover_64 (kf_EM_recover_64 n)
def kf_EM_recover_0 (M : xm) (x1 : Int32) : Option (Int32 × xm) := xp (kf_EM_greatest_0 M) fun r2 M1 => if x1 < 0 then (kf_EM_recover_47 M1) else if (2 : Int32) < x1 then (kf_EM_recover_47 M1) else xp (kf_EM_coordinatorsUp_0 M1) fun r4 M3 => if r4 < (2 : Int32) then (kf_EM_recover_47 M3) else (xMi M3 3 x1).bind fun v5 => if v5 = 0 then (kf_EM_recover_47 M3) else (xMi M3 2 x1).bind fun v6 => if v6 = r2 then (if r2 < (9 : Int32) then ((xMi M3 4 x1).bind fun v7 => kf_EM_recover_64 1000 M3 x1 (r2 + (1 : Int32)) v7 (0 : Int32)) else kf_EM_recover_47 M3) else kf_EM_recover_47 M3
section KW20
variable {p : Program} {l : Launch} {e : Env} {s : State} {m : MethodId} {args : Array Value} {below : List Frame} {meth : Method} {c : Code} {H : Heap} {locs : List Loc} {ls : Array Slot} {E : xe} {K K' : xk} {M M' : xm}
set_option maxHeartbeats 4000000 in
set_option maxRecDepth 100000 in
theorem kw_EM_copyLog_114 {rec14 : xm → Int32 → Int32 → Int32 → Option xm} {rec71 : xm → Int32 → Int32 → Int32 → Int32 → Option xm} {x1 : Int32} {x2 : Int32} {x3 : Int32} {x4 : Int32} (C : xx_C p m c b_EM_copyLog 5 s args Rn_EM E) (hlk : meth.locks = false) (hr : meth.sig.returnType = none) (hin : meth.name = "copyLog") (hg : xe_g E = true) (hrec14 : ∀ {H : Heap} {locs : List Loc} {ls : Array Slot} {M : xm} {x1 : Int32} {x2 : Int32} {x3 : Int32}, xx_S E K M s H locs → lv_has ls 5 [(0, .ref (xe_om E)), (1, .int x1), (2, .int x2), (3, .int x3)] → rec14 M x1 x2 x3 = some M' → W p l e { frames := 0, cells := 0, slots := 0, locals := 0 } s m args below meth c H locs 0 0 (MQ below (xq_v E K M') args s 0 0 (xe_A E)) (F0 m 14 ls [])) (hrec71 : ∀ {H : Heap} {locs : List Loc} {ls : Array Slot} {M : xm} {x1 : Int32} {x2 : Int32} {x3 : Int32} {x4 : Int32}, xx_S E K M s H locs → lv_has ls 5 [(0, .ref (xe_om E)), (1, .int x1), (2, .int x2), (3, .int x3), (4, .int x4)] → rec71 M x1 x2 x3 x4 = some M' → W p l e { frames := 0, cells := 0, slots := 0, locals := 0 } s m args below meth c H locs 0 0 (MQ below (xq_v E K M') args s 0 0 (xe_A E)) (F0 m 71 ls [])) (X : xx_S E K M s H locs) (hl : lv_has ls 5 [(0, .ref (xe_om E)), (1, .int x1), (2, .int x2), (3, .int x3), (4, .int x4)]) (h : kf_EM_copyLog_114 rec14 rec71 M x1 x2 x3 x4 = some M') : W p l e { frames := 0, cells := 0, slots := 0, locals := 0 } s m args below meth c H locs 0 0 (MQ below (xq_v E K M') args s 0 0 (xe_A E)) (F0 m 114 ls []) := by
  have hx := C.1.1
  have hb := C.1.2.1
  unfold kf_EM_copyLog_114 at h
  refine lv_iinc (k := 4) (v := (x4 + (1 : Int32))) hx hb d_EM_copyLog_114 hl rfl (congrArg (fun y : Int32 => x4 + y) kn_i_1) (by decide) rfl (fun ls hl => ?_)
  have hl : lv_has ls 5 [(4, .int (x4 + (1 : Int32))), (0, .ref (xe_om E)), (1, .int x1), (2, .int x2), (3, .int x3)] := hl
  refine lv_goto (tgt := 71) hx hb d_EM_copyLog_117 (by decide +kernel) ?_
  exact hrec71 (x1 := x1) (x2 := x2) (x3 := x3) (x4 := (x4 + (1 : Int32))) X (lv_sub hl [1, 2, 3, 4, 0] rfl) h
set_option maxHeartbeats 4000000 in
set_option maxRecDepth 100000 in
theorem kwb_EM_copyLog_71 {rec14 : xm → Int32 → Int32 → Int32 → Option xm} {rec71 : xm → Int32 → Int32 → Int32 → Int32 → Option xm} {x1 : Int32} {x2 : Int32} {x3 : Int32} {x4 : Int32} (C : xx_C p m c b_EM_copyLog 5 s args Rn_EM E) (hlk : meth.locks = false) (hr : meth.sig.returnType = none) (hin : meth.name = "copyLog") (hg : xe_g E = true) (hrec14 : ∀ {H : Heap} {locs : List Loc} {ls : Array Slot} {M : xm} {x1 : Int32} {x2 : Int32} {x3 : Int32}, xx_S E K M s H locs → lv_has ls 5 [(0, .ref (xe_om E)), (1, .int x1), (2, .int x2), (3, .int x3)] → rec14 M x1 x2 x3 = some M' → W p l e { frames := 0, cells := 0, slots := 0, locals := 0 } s m args below meth c H locs 0 0 (MQ below (xq_v E K M') args s 0 0 (xe_A E)) (F0 m 14 ls [])) (hrec71 : ∀ {H : Heap} {locs : List Loc} {ls : Array Slot} {M : xm} {x1 : Int32} {x2 : Int32} {x3 : Int32} {x4 : Int32}, xx_S E K M s H locs → lv_has ls 5 [(0, .ref (xe_om E)), (1, .int x1), (2, .int x2), (3, .int x3), (4, .int x4)] → rec71 M x1 x2 x3 x4 = some M' → W p l e { frames := 0, cells := 0, slots := 0, locals := 0 } s m args below meth c H locs 0 0 (MQ below (xq_v E K M') args s 0 0 (xe_A E)) (F0 m 71 ls [])) (X : xx_S E K M s H locs) (hl : lv_has ls 5 [(0, .ref (xe_om E)), (1, .int x1), (2, .int x2), (3, .int x3), (4, .int x4)]) (h : kb_EM_copyLog_71 rec14 rec71 M x1 x2 x3 x4 = some M') : W p l e { frames := 0, cells := 0, slots := 0, locals := 0 } s m args below meth c H locs 0 0 (MQ below (xq_v E K M') args s 0 0 (xe_A E)) (F0 m 71 ls []) := by
  have hx := C.1.1
  have hb := C.1.2.1
  unfold kb_EM_copyLog_71 at h
  refine lv_iload hx hb d_EM_copyLog_71 (lv_at hl 4 rfl) ?_
  refine lv_bipush hx hb d_EM_copyLog_73 kn_b_8 ?_
  refine lv_icmp_ge (tgt := 120) hx hb d_EM_copyLog_75 (by decide +kernel) (fun hc => ?_) (fun hc => ?_)
  · rw [if_pos hc] at h
    refine lv_iinc (k := 3) (v := (x3 + (1 : Int32))) hx hb d_EM_copyLog_120 hl rfl (congrArg (fun y : Int32 => x3 + y) kn_i_1) (by decide) rfl (fun ls hl => ?_)
    have hl : lv_has ls 5 [(3, .int (x3 + (1 : Int32))), (0, .ref (xe_om E)), (1, .int x1), (2, .int x2), (4, .int x4)] := hl
    refine lv_goto (tgt := 14) hx hb d_EM_copyLog_123 (by decide +kernel) ?_
    exact hrec14 (x1 := x1) (x2 := x2) (x3 := (x3 + (1 : Int32))) X (lv_sub hl [1, 2, 3, 0] rfl) h
  · rw [if_neg hc] at h
    refine lv_aload_n hx hb d_EM_copyLog_78 rfl (lv_at hl 0 rfl) ?_
    refine xr_mga C X hg xc_EM 8 (by decide) (by decide) (by decide) m_470 d_EM_copyLog_79 ?_
    refine lv_sipush hx hb d_EM_copyLog_82 kn_s_800 ?_
    refine lv_iload_n hx hb d_EM_copyLog_85 rfl (lv_at hl 2 rfl) ?_
    refine lv_imul hx hb d_EM_copyLog_86 ?_
    refine lv_bipush hx hb d_EM_copyLog_87 kn_b_8 ?_
    refine lv_iload_n hx hb d_EM_copyLog_89 rfl (lv_at hl 3 rfl) ?_
    refine lv_imul hx hb d_EM_copyLog_90 ?_
    refine lv_iadd hx hb d_EM_copyLog_91 ?_
    refine lv_iload hx hb d_EM_copyLog_92 (lv_at hl 4 rfl) ?_
    refine lv_iadd hx hb d_EM_copyLog_94 ?_
    refine lv_aload_n hx hb d_EM_copyLog_95 rfl (lv_at hl 0 rfl) ?_
    refine xr_mga C X hg xc_EM 8 (by decide) (by decide) (by decide) m_470 d_EM_copyLog_96 ?_
    refine lv_sipush hx hb d_EM_copyLog_99 kn_s_800 ?_
    refine lv_iload_n hx hb d_EM_copyLog_102 rfl (lv_at hl 1 rfl) ?_
    refine lv_imul hx hb d_EM_copyLog_103 ?_
    refine lv_bipush hx hb d_EM_copyLog_104 kn_b_8 ?_
    refine lv_iload_n hx hb d_EM_copyLog_106 rfl (lv_at hl 3 rfl) ?_
    refine lv_imul hx hb d_EM_copyLog_107 ?_
    refine lv_iadd hx hb d_EM_copyLog_108 ?_
    refine lv_iload hx hb d_EM_copyLog_109 (lv_at hl 4 rfl) ?_
    refine lv_iadd hx hb d_EM_copyLog_111 ?_
    replace h := xb h
    obtain ⟨v1, hv, h⟩ := h
    refine xr_mld C X hg 8 (by decide) (by decide) rfl d_EM_copyLog_112 hv ?_
    replace h := xb h
    obtain ⟨M2, hv, h⟩ := h
    refine xr_mst C X hg 8 (by decide) (by decide) rfl d_EM_copyLog_113 hv (fun H locs X => ?_)
    exact kw_EM_copyLog_114 (x1 := x1) (x2 := x2) (x3 := x3) (x4 := x4) C hlk hr hin hg hrec14 hrec71  X (lv_sub hl [0, 1, 2, 3, 4] rfl) h
theorem kw_EM_copyLog_71 {rec14 : xm → Int32 → Int32 → Int32 → Option xm} (C : xx_C p m c b_EM_copyLog 5 s args Rn_EM E) (hlk : meth.locks = false) (hr : meth.sig.returnType = none) (hin : meth.name = "copyLog") (hg : xe_g E = true) (hrec14 : ∀ {H : Heap} {locs : List Loc} {ls : Array Slot} {M : xm} {x1 : Int32} {x2 : Int32} {x3 : Int32}, xx_S E K M s H locs → lv_has ls 5 [(0, .ref (xe_om E)), (1, .int x1), (2, .int x2), (3, .int x3)] → rec14 M x1 x2 x3 = some M' → W p l e { frames := 0, cells := 0, slots := 0, locals := 0 } s m args below meth c H locs 0 0 (MQ below (xq_v E K M') args s 0 0 (xe_A E)) (F0 m 14 ls [])) : ∀ (n : Nat) {H : Heap} {locs : List Loc} {ls : Array Slot} {M : xm} {x1 : Int32} {x2 : Int32} {x3 : Int32} {x4 : Int32}, xx_S E K M s H locs → lv_has ls 5 [(0, .ref (xe_om E)), (1, .int x1), (2, .int x2), (3, .int x3), (4, .int x4)] → kf_EM_copyLog_71 rec14 n M x1 x2 x3 x4 = some M' → W p l e { frames := 0, cells := 0, slots := 0, locals := 0 } s m args below meth c H locs 0 0 (MQ below (xq_v E K M') args s 0 0 (xe_A E)) (F0 m 71 ls []) := by
  intro n
  induction n with
  | zero => intro H locs ls M x1 x2 x3 x4 X hl h; exact nomatch (show (none : Option xm) = some _ from h)
  | succ n ih => intro H locs ls M x1 x2 x3 x4 X hl h; exact kwb_EM_copyLog_71 C hlk hr hin hg hrec14 ih X hl h
set_option maxHeartbeats 4000000 in
set_option maxRecDepth 100000 in
theorem kw_EM_copyLog_68 {rec14 : xm → Int32 → Int32 → Int32 → Option xm} {x1 : Int32} {x2 : Int32} {x3 : Int32} (C : xx_C p m c b_EM_copyLog 5 s args Rn_EM E) (hlk : meth.locks = false) (hr : meth.sig.returnType = none) (hin : meth.name = "copyLog") (hg : xe_g E = true) (hrec14 : ∀ {H : Heap} {locs : List Loc} {ls : Array Slot} {M : xm} {x1 : Int32} {x2 : Int32} {x3 : Int32}, xx_S E K M s H locs → lv_has ls 5 [(0, .ref (xe_om E)), (1, .int x1), (2, .int x2), (3, .int x3)] → rec14 M x1 x2 x3 = some M' → W p l e { frames := 0, cells := 0, slots := 0, locals := 0 } s m args below meth c H locs 0 0 (MQ below (xq_v E K M') args s 0 0 (xe_A E)) (F0 m 14 ls [])) (X : xx_S E K M s H locs) (hl : lv_has ls 5 [(0, .ref (xe_om E)), (1, .int x1), (2, .int x2), (3, .int x3)]) (h : kf_EM_copyLog_68 rec14 M x1 x2 x3 = some M') : W p l e { frames := 0, cells := 0, slots := 0, locals := 0 } s m args below meth c H locs 0 0 (MQ below (xq_v E K M') args s 0 0 (xe_A E)) (F0 m 68 ls []) := by
  have hx := C.1.1
  have hb := C.1.2.1
  unfold kf_EM_copyLog_68 at h
  refine lv_iconst hx hb d_EM_copyLog_68 kn_i_0 ?_
  refine lv_istore hx hb d_EM_copyLog_69 hl (by decide) rfl (fun ls hl => ?_)
  have hl : lv_has ls 5 [(4, .int (0 : Int32)), (0, .ref (xe_om E)), (1, .int x1), (2, .int x2), (3, .int x3)] := hl
  exact kw_EM_copyLog_71 C hlk hr hin hg hrec14 1000 X (lv_sub hl [1, 2, 3, 4, 0] rfl) h
set_option maxHeartbeats 4000000 in
set_option maxRecDepth 100000 in
theorem kwb_EM_copyLog_128 {rec128 : xm → Int32 → Int32 → Int32 → Option xm} {x1 : Int32} {x2 : Int32} {x3 : Int32} (C : xx_C p m c b_EM_copyLog 5 s args Rn_EM E) (hlk : meth.locks = false) (hr : meth.sig.returnType = none) (hin : meth.name = "copyLog") (hg : xe_g E = true) (hrec128 : ∀ {H : Heap} {locs : List Loc} {ls : Array Slot} {M : xm} {x1 : Int32} {x2 : Int32} {x3 : Int32}, xx_S E K M s H locs → lv_has ls 5 [(0, .ref (xe_om E)), (1, .int x1), (2, .int x2), (3, .int x3)] → rec128 M x1 x2 x3 = some M' → W p l e { frames := 0, cells := 0, slots := 0, locals := 0 } s m args below meth c H locs 0 0 (MQ below (xq_v E K M') args s 0 0 (xe_A E)) (F0 m 128 ls [])) (X : xx_S E K M s H locs) (hl : lv_has ls 5 [(0, .ref (xe_om E)), (1, .int x1), (2, .int x2), (3, .int x3)]) (h : kb_EM_copyLog_128 rec128 M x1 x2 x3 = some M') : W p l e { frames := 0, cells := 0, slots := 0, locals := 0 } s m args below meth c H locs 0 0 (MQ below (xq_v E K M') args s 0 0 (xe_A E)) (F0 m 128 ls []) := by
  have hx := C.1.1
  have hb := C.1.2.1
  unfold kb_EM_copyLog_128 at h
  refine lv_iload_n hx hb d_EM_copyLog_128 rfl (lv_at hl 3 rfl) ?_
  refine lv_bipush hx hb d_EM_copyLog_129 kn_b_10 ?_
  refine lv_icmp_ge (tgt := 162) hx hb d_EM_copyLog_131 (by decide +kernel) (fun hc => ?_) (fun hc => ?_)
  · rw [if_pos hc] at h
    obtain rfl := Option.some.inj h
    exact xr_vret C X hlk hr d_EM_copyLog_162 (Nat.le_of_ble_eq_true rfl) (Nat.le_of_ble_eq_true rfl)
  · rw [if_neg hc] at h
    refine lv_aload_n hx hb d_EM_copyLog_134 rfl (lv_at hl 0 rfl) ?_
    refine xr_mga C X hg xc_EM 9 (by decide) (by decide) (by decide) m_471 d_EM_copyLog_135 ?_
    refine lv_bipush hx hb d_EM_copyLog_138 kn_b_10 ?_
    refine lv_iload_n hx hb d_EM_copyLog_140 rfl (lv_at hl 2 rfl) ?_
    refine lv_imul hx hb d_EM_copyLog_141 ?_
    refine lv_iload_n hx hb d_EM_copyLog_142 rfl (lv_at hl 3 rfl) ?_
    refine lv_iadd hx hb d_EM_copyLog_143 ?_
    refine lv_aload_n hx hb d_EM_copyLog_144 rfl (lv_at hl 0 rfl) ?_
    refine xr_mga C X hg xc_EM 9 (by decide) (by decide) (by decide) m_471 d_EM_copyLog_145 ?_
    refine lv_bipush hx hb d_EM_copyLog_148 kn_b_10 ?_
    refine lv_iload_n hx hb d_EM_copyLog_150 rfl (lv_at hl 1 rfl) ?_
    refine lv_imul hx hb d_EM_copyLog_151 ?_
    refine lv_iload_n hx hb d_EM_copyLog_152 rfl (lv_at hl 3 rfl) ?_
    refine lv_iadd hx hb d_EM_copyLog_153 ?_
    replace h := xb h
    obtain ⟨v1, hv, h⟩ := h
    refine xr_mld C X hg 9 (by decide) (by decide) rfl d_EM_copyLog_154 hv ?_
    replace h := xb h
    obtain ⟨M2, hv, h⟩ := h
    refine xr_mst C X hg 9 (by decide) (by decide) rfl d_EM_copyLog_155 hv (fun H locs X => ?_)
    refine lv_iinc (k := 3) (v := (x3 + (1 : Int32))) hx hb d_EM_copyLog_156 hl rfl (congrArg (fun y : Int32 => x3 + y) kn_i_1) (by decide) rfl (fun ls hl => ?_)
    have hl : lv_has ls 5 [(3, .int (x3 + (1 : Int32))), (0, .ref (xe_om E)), (1, .int x1), (2, .int x2)] := hl
    refine lv_goto (tgt := 128) hx hb d_EM_copyLog_159 (by decide +kernel) ?_
    exact hrec128 (x1 := x1) (x2 := x2) (x3 := (x3 + (1 : Int32))) X (lv_sub hl [1, 2, 3, 0] rfl) h
theorem kw_EM_copyLog_128 (C : xx_C p m c b_EM_copyLog 5 s args Rn_EM E) (hlk : meth.locks = false) (hr : meth.sig.returnType = none) (hin : meth.name = "copyLog") (hg : xe_g E = true) : ∀ (n : Nat) {H : Heap} {locs : List Loc} {ls : Array Slot} {M : xm} {x1 : Int32} {x2 : Int32} {x3 : Int32}, xx_S E K M s H locs → lv_has ls 5 [(0, .ref (xe_om E)), (1, .int x1), (2, .int x2), (3, .int x3)] → kf_EM_copyLog_128 n M x1 x2 x3 = some M' → W p l e { frames := 0, cells := 0, slots := 0, locals := 0 } s m args below meth c H locs 0 0 (MQ below (xq_v E K M') args s 0 0 (xe_A E)) (F0 m 128 ls []) := by
  intro n
  induction n with
  | zero => intro H locs ls M x1 x2 x3 X hl h; exact nomatch (show (none : Option xm) = some _ from h)
  | succ n ih => intro H locs ls M x1 x2 x3 X hl h; exact kwb_EM_copyLog_128 C hlk hr hin hg ih X hl h
set_option maxHeartbeats 4000000 in
set_option maxRecDepth 100000 in
theorem kwb_EM_copyLog_14 {rec14 : xm → Int32 → Int32 → Int32 → Option xm} {x1 : Int32} {x2 : Int32} {x3 : Int32} (C : xx_C p m c b_EM_copyLog 5 s args Rn_EM E) (hlk : meth.locks = false) (hr : meth.sig.returnType = none) (hin : meth.name = "copyLog") (hg : xe_g E = true) (hrec14 : ∀ {H : Heap} {locs : List Loc} {ls : Array Slot} {M : xm} {x1 : Int32} {x2 : Int32} {x3 : Int32}, xx_S E K M s H locs → lv_has ls 5 [(0, .ref (xe_om E)), (1, .int x1), (2, .int x2), (3, .int x3)] → rec14 M x1 x2 x3 = some M' → W p l e { frames := 0, cells := 0, slots := 0, locals := 0 } s m args below meth c H locs 0 0 (MQ below (xq_v E K M') args s 0 0 (xe_A E)) (F0 m 14 ls [])) (X : xx_S E K M s H locs) (hl : lv_has ls 5 [(0, .ref (xe_om E)), (1, .int x1), (2, .int x2), (3, .int x3)]) (h : kb_EM_copyLog_14 rec14 M x1 x2 x3 = some M') : W p l e { frames := 0, cells := 0, slots := 0, locals := 0 } s m args below meth c H locs 0 0 (MQ below (xq_v E K M') args s 0 0 (xe_A E)) (F0 m 14 ls []) := by
  have hx := C.1.1
  have hb := C.1.2.1
  unfold kb_EM_copyLog_14 at h
  refine lv_iload_n hx hb d_EM_copyLog_14 rfl (lv_at hl 3 rfl) ?_
  refine lv_aload_n hx hb d_EM_copyLog_15 rfl (lv_at hl 0 rfl) ?_
  refine xr_mga C X hg xc_EM 5 (by decide) (by decide) (by decide) m_467 d_EM_copyLog_16 ?_
  refine lv_iload_n hx hb d_EM_copyLog_19 rfl (lv_at hl 1 rfl) ?_
  replace h := xb h
  obtain ⟨v1, hv, h⟩ := h
  refine xr_mld C X hg 5 (by decide) (by decide) rfl d_EM_copyLog_20 hv ?_
  refine lv_icmp_ge (tgt := 126) hx hb d_EM_copyLog_21 (by decide +kernel) (fun hc => ?_) (fun hc => ?_)
  · rw [if_pos hc] at h
    refine lv_iconst hx hb d_EM_copyLog_126 kn_i_0 ?_
    refine lv_istore_n hx hb d_EM_copyLog_127 rfl hl (by decide) rfl (fun ls hl => ?_)
    have hl : lv_has ls 5 [(3, .int (0 : Int32)), (0, .ref (xe_om E)), (1, .int x1), (2, .int x2)] := hl
    exact kw_EM_copyLog_128 C hlk hr hin hg 1000 X (lv_sub hl [1, 2, 3, 0] rfl) h
  · rw [if_neg hc] at h
    refine lv_aload_n hx hb d_EM_copyLog_24 rfl (lv_at hl 0 rfl) ?_
    refine xr_mga C X hg xc_EM 6 (by decide) (by decide) (by decide) m_468 d_EM_copyLog_25 ?_
    refine lv_bipush hx hb d_EM_copyLog_28 kn_b_100 ?_
    refine lv_iload_n hx hb d_EM_copyLog_30 rfl (lv_at hl 2 rfl) ?_
    refine lv_imul hx hb d_EM_copyLog_31 ?_
    refine lv_iload_n hx hb d_EM_copyLog_32 rfl (lv_at hl 3 rfl) ?_
    refine lv_iadd hx hb d_EM_copyLog_33 ?_
    refine lv_aload_n hx hb d_EM_copyLog_34 rfl (lv_at hl 0 rfl) ?_
    refine xr_mga C X hg xc_EM 6 (by decide) (by decide) (by decide) m_468 d_EM_copyLog_35 ?_
    refine lv_bipush hx hb d_EM_copyLog_38 kn_b_100 ?_
    refine lv_iload_n hx hb d_EM_copyLog_40 rfl (lv_at hl 1 rfl) ?_
    refine lv_imul hx hb d_EM_copyLog_41 ?_
    refine lv_iload_n hx hb d_EM_copyLog_42 rfl (lv_at hl 3 rfl) ?_
    refine lv_iadd hx hb d_EM_copyLog_43 ?_
    replace h := xb h
    obtain ⟨v2, hv, h⟩ := h
    refine xr_mld C X hg 6 (by decide) (by decide) rfl d_EM_copyLog_44 hv ?_
    replace h := xb h
    obtain ⟨M3, hv, h⟩ := h
    refine xr_mst C X hg 6 (by decide) (by decide) rfl d_EM_copyLog_45 hv (fun H locs X => ?_)
    refine lv_aload_n hx hb d_EM_copyLog_46 rfl (lv_at hl 0 rfl) ?_
    refine xr_mga C X hg xc_EM 7 (by decide) (by decide) (by decide) m_469 d_EM_copyLog_47 ?_
    refine lv_bipush hx hb d_EM_copyLog_50 kn_b_100 ?_
    refine lv_iload_n hx hb d_EM_copyLog_52 rfl (lv_at hl 2 rfl) ?_
    refine lv_imul hx hb d_EM_copyLog_53 ?_
    refine lv_iload_n hx hb d_EM_copyLog_54 rfl (lv_at hl 3 rfl) ?_
    refine lv_iadd hx hb d_EM_copyLog_55 ?_
    refine lv_aload_n hx hb d_EM_copyLog_56 rfl (lv_at hl 0 rfl) ?_
    refine xr_mga C X hg xc_EM 7 (by decide) (by decide) (by decide) m_469 d_EM_copyLog_57 ?_
    refine lv_bipush hx hb d_EM_copyLog_60 kn_b_100 ?_
    refine lv_iload_n hx hb d_EM_copyLog_62 rfl (lv_at hl 1 rfl) ?_
    refine lv_imul hx hb d_EM_copyLog_63 ?_
    refine lv_iload_n hx hb d_EM_copyLog_64 rfl (lv_at hl 3 rfl) ?_
    refine lv_iadd hx hb d_EM_copyLog_65 ?_
    replace h := xb h
    obtain ⟨v4, hv, h⟩ := h
    refine xr_mld C X hg 7 (by decide) (by decide) rfl d_EM_copyLog_66 hv ?_
    replace h := xb h
    obtain ⟨M5, hv, h⟩ := h
    refine xr_mst C X hg 7 (by decide) (by decide) rfl d_EM_copyLog_67 hv (fun H locs X => ?_)
    exact kw_EM_copyLog_68 (x1 := x1) (x2 := x2) (x3 := x3) C hlk hr hin hg hrec14  X (lv_sub hl [0, 1, 2, 3] rfl) h
theorem kw_EM_copyLog_14 (C : xx_C p m c b_EM_copyLog 5 s args Rn_EM E) (hlk : meth.locks = false) (hr : meth.sig.returnType = none) (hin : meth.name = "copyLog") (hg : xe_g E = true) : ∀ (n : Nat) {H : Heap} {locs : List Loc} {ls : Array Slot} {M : xm} {x1 : Int32} {x2 : Int32} {x3 : Int32}, xx_S E K M s H locs → lv_has ls 5 [(0, .ref (xe_om E)), (1, .int x1), (2, .int x2), (3, .int x3)] → kf_EM_copyLog_14 n M x1 x2 x3 = some M' → W p l e { frames := 0, cells := 0, slots := 0, locals := 0 } s m args below meth c H locs 0 0 (MQ below (xq_v E K M') args s 0 0 (xe_A E)) (F0 m 14 ls []) := by
  intro n
  induction n with
  | zero => intro H locs ls M x1 x2 x3 X hl h; exact nomatch (show (none : Option xm) = some _ from h)
  | succ n ih => intro H locs ls M x1 x2 x3 X hl h; exact kwb_EM_copyLog_14 C hlk hr hin hg ih X hl h
set_option maxHeartbeats 4000000 in
set_option maxRecDepth 100000 in
theorem kw_EM_copyLog_0 {x1 : Int32} {x2 : Int32} (C : xx_C p m c b_EM_copyLog 5 s args Rn_EM E) (hlk : meth.locks = false) (hr : meth.sig.returnType = none) (hin : meth.name = "copyLog") (hg : xe_g E = true) (X : xx_S E K M s H locs) (hl : lv_has ls 5 [(0, .ref (xe_om E)), (1, .int x1), (2, .int x2)]) (h : kf_EM_copyLog_0 M x1 x2 = some M') : W p l e { frames := 0, cells := 0, slots := 0, locals := 0 } s m args below meth c H locs 0 0 (MQ below (xq_v E K M') args s 0 0 (xe_A E)) (F0 m 0 ls []) := by
  have hx := C.1.1
  have hb := C.1.2.1
  unfold kf_EM_copyLog_0 at h
  refine lv_aload_n hx hb d_EM_copyLog_0 rfl (lv_at hl 0 rfl) ?_
  refine xr_mga C X hg xc_EM 5 (by decide) (by decide) (by decide) m_467 d_EM_copyLog_1 ?_
  refine lv_iload_n hx hb d_EM_copyLog_4 rfl (lv_at hl 2 rfl) ?_
  refine lv_aload_n hx hb d_EM_copyLog_5 rfl (lv_at hl 0 rfl) ?_
  refine xr_mga C X hg xc_EM 5 (by decide) (by decide) (by decide) m_467 d_EM_copyLog_6 ?_
  refine lv_iload_n hx hb d_EM_copyLog_9 rfl (lv_at hl 1 rfl) ?_
  replace h := xb h
  obtain ⟨v1, hv, h⟩ := h
  refine xr_mld C X hg 5 (by decide) (by decide) rfl d_EM_copyLog_10 hv ?_
  replace h := xb h
  obtain ⟨M2, hv, h⟩ := h
  refine xr_mst C X hg 5 (by decide) (by decide) rfl d_EM_copyLog_11 hv (fun H locs X => ?_)
  refine lv_iconst hx hb d_EM_copyLog_12 kn_i_0 ?_
  refine lv_istore_n hx hb d_EM_copyLog_13 rfl hl (by decide) rfl (fun ls hl => ?_)
  have hl : lv_has ls 5 [(3, .int (0 : Int32)), (0, .ref (xe_om E)), (1, .int x1), (2, .int x2)] := hl
  exact kw_EM_copyLog_14 C hlk hr hin hg 1000 X (lv_sub hl [1, 2, 3, 0] rfl) h
theorem kc_EM_copyLog (l : Launch) (E : xe) (hg : xe_g E = true) {x1 : Int32} {x2 : Int32} (h : kf_EM_copyLog_0 M x1 x2 = some M') : Met l y_EM_copyLog (Cond.code y_EM_copyLog b_EM_copyLog 5 none :: w_all) { frames := 0, cells := 0, slots := 0, locals := 0 } (va_Pc [.ref (xe_om E), .int x1, .int x2] (fun U => xx_B E K M U)) (xq_v E K M') 0 0 (xe_A E) :=
  xr_met (by decide) (Nat.le_of_ble_eq_true rfl) fun p e s m below meth c ls C X hlk hr hin hl => kw_EM_copyLog_0 C hlk hr hin hg X hl h
set_option maxHeartbeats 4000000 in
set_option maxRecDepth 100000 in
theorem kw_EM_recover_47 {r : Int32} (C : xx_C p m c b_EM_recover 6 s args Rn_EM E) (hlk : meth.locks = false) (hr : meth.sig.returnType = (some .int)) (hin : meth.name = "recover") (hg : xe_g E = true) (X : xx_S E K M s H locs) (hl : lv_has ls 6 []) (h : kf_EM_recover_47 M = some (r, M')) : W p l e { frames := 1, cells := 0, slots := 0, locals := 24 } s m args below meth c H locs 0 0 (MQ below (xq_i E K M' r) args s 0 0 (xe_A E)) (F0 m 47 ls []) := by
  have hx := C.1.1
  have hb := C.1.2.1
  unfold kf_EM_recover_47 at h
  refine lv_iconst hx hb d_EM_recover_47 kn_i_m1 ?_
  obtain ⟨rfl, rfl⟩ := Prod.mk.inj (Option.some.inj h)
  exact xr_iret C X hlk hr d_EM_recover_48 rfl (Nat.le_of_ble_eq_true rfl) (Nat.le_of_ble_eq_true rfl)
set_option maxHeartbeats 4000000 in
set_option maxRecDepth 100000 in
theorem kw_EM_recover_197 {rec121 : xm → Int32 → Int32 → Int32 → Int32 → Option (Int32 × xm)} {x1 : Int32} {x3 : Int32} {x4 : Int32} {x5 : Int32} {r : Int32} (C : xx_C p m c b_EM_recover 6 s args Rn_EM E) (hlk : meth.locks = false) (hr : meth.sig.returnType = (some .int)) (hin : meth.name = "recover") (hg : xe_g E = true) (hrec121 : ∀ {H : Heap} {locs : List Loc} {ls : Array Slot} {M : xm} {x1 : Int32} {x3 : Int32} {x4 : Int32} {x5 : Int32}, xx_S E K M s H locs → lv_has ls 6 [(0, .ref (xe_om E)), (1, .int x1), (3, .int x3), (4, .int x4), (5, .int x5)] → rec121 M x1 x3 x4 x5 = some (r, M') → W p l e { frames := 1, cells := 0, slots := 0, locals := 24 } s m args below meth c H locs 0 0 (MQ below (xq_i E K M' r) args s 0 0 (xe_A E)) (F0 m 121 ls [])) (X : xx_S E K M s H locs) (hl : lv_has ls 6 [(0, .ref (xe_om E)), (1, .int x1), (3, .int x3), (4, .int x4), (5, .int x5)]) (h : kf_EM_recover_197 rec121 M x1 x3 x4 x5 = some (r, M')) : W p l e { frames := 1, cells := 0, slots := 0, locals := 24 } s m args below meth c H locs 0 0 (MQ below (xq_i E K M' r) args s 0 0 (xe_A E)) (F0 m 197 ls []) := by
  have hx := C.1.1
  have hb := C.1.2.1
  unfold kf_EM_recover_197 at h
  refine lv_iinc (k := 4) (v := (x5 + (1 : Int32))) hx hb d_EM_recover_197 hl rfl (congrArg (fun y : Int32 => x5 + y) kn_i_1) (by decide) rfl (fun ls hl => ?_)
  have hl : lv_has ls 6 [(5, .int (x5 + (1 : Int32))), (0, .ref (xe_om E)), (1, .int x1), (3, .int x3), (4, .int x4)] := hl
  refine lv_goto (tgt := 121) hx hb d_EM_recover_200 (by decide +kernel) ?_
  exact hrec121 (x1 := x1) (x3 := x3) (x4 := x4) (x5 := (x5 + (1 : Int32))) X (lv_sub hl [1, 2, 3, 4, 0] rfl) h
set_option maxHeartbeats 4000000 in
set_option maxRecDepth 100000 in
theorem kw_EM_recover_150 {rec121 : xm → Int32 → Int32 → Int32 → Int32 → Option (Int32 × xm)} {x1 : Int32} {x3 : Int32} {x4 : Int32} {x5 : Int32} {r : Int32} (C : xx_C p m c b_EM_recover 6 s args Rn_EM E) (hlk : meth.locks = false) (hr : meth.sig.returnType = (some .int)) (hin : meth.name = "recover") (hg : xe_g E = true) (hrec121 : ∀ {H : Heap} {locs : List Loc} {ls : Array Slot} {M : xm} {x1 : Int32} {x3 : Int32} {x4 : Int32} {x5 : Int32}, xx_S E K M s H locs → lv_has ls 6 [(0, .ref (xe_om E)), (1, .int x1), (3, .int x3), (4, .int x4), (5, .int x5)] → rec121 M x1 x3 x4 x5 = some (r, M') → W p l e { frames := 1, cells := 0, slots := 0, locals := 24 } s m args below meth c H locs 0 0 (MQ below (xq_i E K M' r) args s 0 0 (xe_A E)) (F0 m 121 ls [])) (X : xx_S E K M s H locs) (hl : lv_has ls 6 [(0, .ref (xe_om E)), (1, .int x1), (3, .int x3), (4, .int x4), (5, .int x5)]) (h : kf_EM_recover_150 rec121 M x1 x3 x4 x5 = some (r, M')) : W p l e { frames := 1, cells := 0, slots := 0, locals := 24 } s m args below meth c H locs 0 0 (MQ below (xq_i E K M' r) args s 0 0 (xe_A E)) (F0 m 150 ls []) := by
  have hx := C.1.1
  have hb := C.1.2.1
  unfold kf_EM_recover_150 at h
  refine lv_aload_n hx hb d_EM_recover_150 rfl (lv_at hl 0 rfl) ?_
  refine xr_mga C X hg xc_EM 2 (by decide) (by decide) (by decide) m_464 d_EM_recover_151 ?_
  refine lv_iload hx hb d_EM_recover_154 (lv_at hl 4 rfl) ?_
  refine lv_iload_n hx hb d_EM_recover_156 rfl (lv_at hl 2 rfl) ?_
  replace h := xb h
  obtain ⟨M1, hv, h⟩ := h
  refine xr_mst C X hg 2 (by decide) (by decide) rfl d_EM_recover_157 hv (fun H locs X => ?_)
  refine lv_aload_n hx hb d_EM_recover_158 rfl (lv_at hl 0 rfl) ?_
  refine xr_mga C X hg xc_EM 9 (by decide) (by decide) (by decide) m_471 d_EM_recover_159 ?_
  refine lv_bipush hx hb d_EM_recover_162 kn_b_10 ?_
  refine lv_iload hx hb d_EM_recover_164 (lv_at hl 4 rfl) ?_
  refine lv_imul hx hb d_EM_recover_166 ?_
  refine lv_iload_n hx hb d_EM_recover_167 rfl (lv_at hl 2 rfl) ?_
  refine lv_iadd hx hb d_EM_recover_168 ?_
  refine lv_iload hx hb d_EM_recover_169 (lv_at hl 3 rfl) ?_
  replace h := xb h
  obtain ⟨M2, hv, h⟩ := h
  refine xr_mst C X hg 9 (by decide) (by decide) rfl d_EM_recover_171 hv (fun H locs X => ?_)
  refine lv_aload_n hx hb d_EM_recover_172 rfl (lv_at hl 0 rfl) ?_
  refine xr_mga C X hg xc_EM 4 (by decide) (by decide) (by decide) m_466 d_EM_recover_173 ?_
  refine lv_iload hx hb d_EM_recover_176 (lv_at hl 4 rfl) ?_
  refine lv_iload hx hb d_EM_recover_178 (lv_at hl 3 rfl) ?_
  refine lv_bipush hx hb d_EM_recover_180 kn_b_10 ?_
  refine lv_iadd hx hb d_EM_recover_182 ?_
  replace h := xb h
  obtain ⟨M3, hv, h⟩ := h
  refine xr_mst C X hg 4 (by decide) (by decide) rfl d_EM_recover_183 hv (fun H locs X => ?_)
  refine lv_aload_n hx hb d_EM_recover_184 rfl (lv_at hl 0 rfl) ?_
  refine xr_mga C X hg xc_EM 18 (by decide) (by decide) (by decide) m_480 d_EM_recover_185 ?_
  refine lv_iload_n hx hb d_EM_recover_188 rfl (lv_at hl 2 rfl) ?_
  refine lv_dup2_11 hx hb d_EM_recover_189 rfl rfl ?_
  replace h := xb h
  obtain ⟨v4, hv, h⟩ := h
  refine xr_mld C X hg 18 (by decide) (by decide) rfl d_EM_recover_190 hv ?_
  refine lv_iconst hx hb d_EM_recover_191 kn_i_1 ?_
  refine lv_iload hx hb d_EM_recover_192 (lv_at hl 4 rfl) ?_
  refine lv_ishl hx hb d_EM_recover_194 ?_
  refine lv_iadd hx hb d_EM_recover_195 ?_
  replace h := xb h
  obtain ⟨M5, hv, h⟩ := h
  refine xr_mst C X hg 18 (by decide) (by decide) rfl d_EM_recover_196 hv (fun H locs X => ?_)
  exact kw_EM_recover_197 (x1 := x1) (x3 := x3) (x4 := x4) (x5 := x5) C hlk hr hin hg hrec121  X (lv_sub hl [0, 1, 2, 3, 4] rfl) h
set_option maxHeartbeats 4000000 in
set_option maxRecDepth 100000 in
theorem kwb_EM_recover_250 {rec250 : xm → Int32 → Int32 → Int32 → Option (Int32 × xm)} {x3 : Int32} {x4 : Int32} {x5 : Int32} {r : Int32} (C : xx_C p m c b_EM_recover 6 s args Rn_EM E) (hlk : meth.locks = false) (hr : meth.sig.returnType = (some .int)) (hin : meth.name = "recover") (hg : xe_g E = true) (hrec250 : ∀ {H : Heap} {locs : List Loc} {ls : Array Slot} {M : xm} {x3 : Int32} {x4 : Int32} {x5 : Int32}, xx_S E K M s H locs → lv_has ls 6 [(0, .ref (xe_om E)), (3, .int x3), (4, .int x4), (5, .int x5)] → rec250 M x3 x4 x5 = some (r, M') → W p l e { frames := 1, cells := 0, slots := 0, locals := 24 } s m args below meth c H locs 0 0 (MQ below (xq_i E K M' r) args s 0 0 (xe_A E)) (F0 m 250 ls [])) (X : xx_S E K M s H locs) (hl : lv_has ls 6 [(0, .ref (xe_om E)), (3, .int x3), (4, .int x4), (5, .int x5)]) (h : kb_EM_recover_250 rec250 M x3 x4 x5 = some (r, M')) : W p l e { frames := 1, cells := 0, slots := 0, locals := 24 } s m args below meth c H locs 0 0 (MQ below (xq_i E K M' r) args s 0 0 (xe_A E)) (F0 m 250 ls []) := by
  have hx := C.1.1
  have hb := C.1.2.1
  unfold kb_EM_recover_250 at h
  refine lv_iload hx hb d_EM_recover_250 (lv_at hl 3 rfl) ?_
  refine lv_bipush hx hb d_EM_recover_252 kn_b_8 ?_
  refine lv_icmp_ge (tgt := 280) hx hb d_EM_recover_254 (by decide +kernel) (fun hc => ?_) (fun hc => ?_)
  · rw [if_pos hc] at h
    refine lv_iload_n hx hb d_EM_recover_280 rfl (lv_at hl 1 rfl) ?_
    obtain ⟨rfl, rfl⟩ := Prod.mk.inj (Option.some.inj h)
    exact xr_iret C X hlk hr d_EM_recover_281 rfl (Nat.le_of_ble_eq_true rfl) (Nat.le_of_ble_eq_true rfl)
  · rw [if_neg hc] at h
    refine lv_aload_n hx hb d_EM_recover_257 rfl (lv_at hl 0 rfl) ?_
    refine xr_mga C X hg xc_EM 23 (by decide) (by decide) (by decide) m_485 d_EM_recover_258 ?_
    refine lv_bipush hx hb d_EM_recover_261 kn_b_8 ?_
    refine lv_iload_n hx hb d_EM_recover_263 rfl (lv_at hl 1 rfl) ?_
    refine lv_imul hx hb d_EM_recover_264 ?_
    refine lv_iload hx hb d_EM_recover_265 (lv_at hl 3 rfl) ?_
    refine lv_iadd hx hb d_EM_recover_267 ?_
    refine lv_iload hx hb d_EM_recover_268 (lv_at hl 2 rfl) ?_
    refine lv_bipush hx hb d_EM_recover_270 kn_b_10 ?_
    refine lv_iadd hx hb d_EM_recover_272 ?_
    replace h := xb h
    obtain ⟨M1, hv, h⟩ := h
    refine xr_mst C X hg 23 (by decide) (by decide) rfl d_EM_recover_273 hv (fun H locs X => ?_)
    refine lv_iinc (k := 3) (v := (x5 + (1 : Int32))) hx hb d_EM_recover_274 hl rfl (congrArg (fun y : Int32 => x5 + y) kn_i_1) (by decide) rfl (fun ls hl => ?_)
    have hl : lv_has ls 6 [(5, .int (x5 + (1 : Int32))), (0, .ref (xe_om E)), (3, .int x3), (4, .int x4)] := hl
    refine lv_goto (tgt := 250) hx hb d_EM_recover_277 (by decide +kernel) ?_
    exact hrec250 (x3 := x3) (x4 := x4) (x5 := (x5 + (1 : Int32))) X (lv_sub hl [1, 2, 3, 0] rfl) h
theorem kw_EM_recover_250 {r : Int32} (C : xx_C p m c b_EM_recover 6 s args Rn_EM E) (hlk : meth.locks = false) (hr : meth.sig.returnType = (some .int)) (hin : meth.name = "recover") (hg : xe_g E = true) : ∀ (n : Nat) {H : Heap} {locs : List Loc} {ls : Array Slot} {M : xm} {x3 : Int32} {x4 : Int32} {x5 : Int32}, xx_S E K M s H locs → lv_has ls 6 [(0, .ref (xe_om E)), (3, .int x3), (4, .int x4), (5, .int x5)] → kf_EM_recover_250 n M x3 x4 x5 = some (r, M') → W p l e { frames := 1, cells := 0, slots := 0, locals := 24 } s m args below meth c H locs 0 0 (MQ below (xq_i E K M' r) args s 0 0 (xe_A E)) (F0 m 250 ls []) := by
  intro n
  induction n with
  | zero => intro H locs ls M x3 x4 x5 X hl h; exact nomatch (show (none : Option (Int32 × xm)) = some _ from h)
  | succ n ih => intro H locs ls M x3 x4 x5 X hl h; exact kwb_EM_recover_250 C hlk hr hin hg ih X hl h
set_option maxHeartbeats 4000000 in
set_option maxRecDepth 100000 in
theorem kw_EM_recover_247 {x3 : Int32} {x4 : Int32} {r : Int32} (C : xx_C p m c b_EM_recover 6 s args Rn_EM E) (hlk : meth.locks = false) (hr : meth.sig.returnType = (some .int)) (hin : meth.name = "recover") (hg : xe_g E = true) (X : xx_S E K M s H locs) (hl : lv_has ls 6 [(0, .ref (xe_om E)), (3, .int x3), (4, .int x4)]) (h : kf_EM_recover_247 M x3 x4 = some (r, M')) : W p l e { frames := 1, cells := 0, slots := 0, locals := 24 } s m args below meth c H locs 0 0 (MQ below (xq_i E K M' r) args s 0 0 (xe_A E)) (F0 m 247 ls []) := by
  have hx := C.1.1
  have hb := C.1.2.1
  unfold kf_EM_recover_247 at h
  refine lv_iconst hx hb d_EM_recover_247 kn_i_0 ?_
  refine lv_istore hx hb d_EM_recover_248 hl (by decide) rfl (fun ls hl => ?_)
  have hl : lv_has ls 6 [(5, .int (0 : Int32)), (0, .ref (xe_om E)), (3, .int x3), (4, .int x4)] := hl
  exact kw_EM_recover_250 C hlk hr hin hg 1000 X (lv_sub hl [1, 2, 3, 0] rfl) h
set_option maxHeartbeats 4000000 in
set_option maxRecDepth 100000 in
theorem kwb_EM_recover_121 {rec121 : xm → Int32 → Int32 → Int32 → Int32 → Option (Int32 × xm)} {x1 : Int32} {x3 : Int32} {x4 : Int32} {x5 : Int32} {r : Int32} (C : xx_C p m c b_EM_recover 6 s args Rn_EM E) (hlk : meth.locks = false) (hr : meth.sig.returnType = (some .int)) (hin : meth.name = "recover") (hg : xe_g E = true) (hrec121 : ∀ {H : Heap} {locs : List Loc} {ls : Array Slot} {M : xm} {x1 : Int32} {x3 : Int32} {x4 : Int32} {x5 : Int32}, xx_S E K M s H locs → lv_has ls 6 [(0, .ref (xe_om E)), (1, .int x1), (3, .int x3), (4, .int x4), (5, .int x5)] → rec121 M x1 x3 x4 x5 = some (r, M') → W p l e { frames := 1, cells := 0, slots := 0, locals := 24 } s m args below meth c H locs 0 0 (MQ below (xq_i E K M' r) args s 0 0 (xe_A E)) (F0 m 121 ls [])) (X : xx_S E K M s H locs) (hl : lv_has ls 6 [(0, .ref (xe_om E)), (1, .int x1), (3, .int x3), (4, .int x4), (5, .int x5)]) (h : kb_EM_recover_121 rec121 M x1 x3 x4 x5 = some (r, M')) : W p l e { frames := 1, cells := 0, slots := 0, locals := 24 } s m args below meth c H locs 0 0 (MQ below (xq_i E K M' r) args s 0 0 (xe_A E)) (F0 m 121 ls []) := by
  have hx := C.1.1
  have hb := C.1.2.1
  unfold kb_EM_recover_121 at h
  refine lv_iload hx hb d_EM_recover_121 (lv_at hl 4 rfl) ?_
  refine lv_iconst hx hb d_EM_recover_123 kn_i_3 ?_
  refine lv_icmp_ge (tgt := 203) hx hb d_EM_recover_124 (by decide +kernel) (fun hc => ?_) (fun hc => ?_)
  · rw [if_pos hc] at h
    refine lv_aload_n hx hb d_EM_recover_203 rfl (lv_at hl 0 rfl) ?_
    refine xr_mga C X hg xc_EM 19 (by decide) (by decide) (by decide) m_481 d_EM_recover_204 ?_
    refine lv_iload_n hx hb d_EM_recover_207 rfl (lv_at hl 2 rfl) ?_
    refine lv_iload hx hb d_EM_recover_208 (lv_at hl 3 rfl) ?_
    refine lv_bipush hx hb d_EM_recover_210 kn_b_10 ?_
    refine lv_iadd hx hb d_EM_recover_212 ?_
    replace h := xb h
    obtain ⟨M1, hv, h⟩ := h
    refine xr_mst C X hg 19 (by decide) (by decide) rfl d_EM_recover_213 hv (fun H locs X => ?_)
    refine lv_aload_n hx hb d_EM_recover_214 rfl (lv_at hl 0 rfl) ?_
    refine xr_mga C X hg xc_EM 20 (by decide) (by decide) (by decide) m_482 d_EM_recover_215 ?_
    refine lv_iload_n hx hb d_EM_recover_218 rfl (lv_at hl 2 rfl) ?_
    refine lv_iload hx hb d_EM_recover_219 (lv_at hl 3 rfl) ?_
    refine lv_bipush hx hb d_EM_recover_221 kn_b_10 ?_
    refine lv_iadd hx hb d_EM_recover_223 ?_
    replace h := xb h
    obtain ⟨M2, hv, h⟩ := h
    refine xr_mst C X hg 20 (by decide) (by decide) rfl d_EM_recover_224 hv (fun H locs X => ?_)
    refine lv_aload_n hx hb d_EM_recover_225 rfl (lv_at hl 0 rfl) ?_
    refine xr_mga C X hg xc_EM 21 (by decide) (by decide) (by decide) m_483 d_EM_recover_226 ?_
    refine lv_iload_n hx hb d_EM_recover_229 rfl (lv_at hl 2 rfl) ?_
    refine lv_iload hx hb d_EM_recover_230 (lv_at hl 3 rfl) ?_
    refine lv_bipush hx hb d_EM_recover_232 kn_b_10 ?_
    refine lv_iadd hx hb d_EM_recover_234 ?_
    replace h := xb h
    obtain ⟨M3, hv, h⟩ := h
    refine xr_mst C X hg 21 (by decide) (by decide) rfl d_EM_recover_235 hv (fun H locs X => ?_)
    refine lv_aload_n hx hb d_EM_recover_236 rfl (lv_at hl 0 rfl) ?_
    refine xr_mga C X hg xc_EM 22 (by decide) (by decide) (by decide) m_484 d_EM_recover_237 ?_
    refine lv_iload_n hx hb d_EM_recover_240 rfl (lv_at hl 2 rfl) ?_
    refine lv_iload hx hb d_EM_recover_241 (lv_at hl 3 rfl) ?_
    refine lv_bipush hx hb d_EM_recover_243 kn_b_10 ?_
    refine lv_iadd hx hb d_EM_recover_245 ?_
    replace h := xb h
    obtain ⟨M4, hv, h⟩ := h
    refine xr_mst C X hg 22 (by decide) (by decide) rfl d_EM_recover_246 hv (fun H locs X => ?_)
    exact kw_EM_recover_247 (x3 := x3) (x4 := x4) C hlk hr hin hg  X (lv_sub hl [0, 2, 3] rfl) h
  · rw [if_neg hc] at h
    refine lv_aload_n hx hb d_EM_recover_127 rfl (lv_at hl 0 rfl) ?_
    refine xr_mga C X hg xc_EM 3 (by decide) (by decide) (by decide) m_465 d_EM_recover_128 ?_
    refine lv_iload hx hb d_EM_recover_131 (lv_at hl 4 rfl) ?_
    replace h := xb h
    obtain ⟨v5, hv, h⟩ := h
    refine xr_mldz C X hg 3 (by decide) (by decide) rfl d_EM_recover_133 hv ?_
    refine lv_if_eq (tgt := 197) hx hb d_EM_recover_134 (by decide +kernel) (fun hc => ?_) (fun hc => ?_)
    · rw [if_pos hc] at h
      exact kw_EM_recover_197 (x1 := x1) (x3 := x3) (x4 := x4) (x5 := x5) C hlk hr hin hg hrec121  X (lv_sub hl [0, 1, 2, 3, 4] rfl) h
    · rw [if_neg hc] at h
      refine lv_iload hx hb d_EM_recover_137 (lv_at hl 4 rfl) ?_
      refine lv_iload_n hx hb d_EM_recover_139 rfl (lv_at hl 1 rfl) ?_
      refine lv_icmp_eq (tgt := 150) hx hb d_EM_recover_140 (by decide +kernel) (fun hc => ?_) (fun hc => ?_)
      · rw [if_pos hc] at h
        exact kw_EM_recover_150 (x1 := x1) (x3 := x3) (x4 := x4) (x5 := x5) C hlk hr hin hg hrec121  X (lv_sub hl [0, 1, 2, 3, 4] rfl) h
      · rw [if_neg hc] at h
        refine lv_aload_n hx hb d_EM_recover_143 rfl (lv_at hl 0 rfl) ?_
        refine lv_iload_n hx hb d_EM_recover_144 rfl (lv_at hl 1 rfl) ?_
        refine lv_iload hx hb d_EM_recover_145 (lv_at hl 4 rfl) ?_
        replace h := xb h
        obtain ⟨M6, hv, h⟩ := h
        refine xr_kv (va_runV (As := [.int x1, .int x5]) (rest := []) C.1 (kc_EM_copyLog l E hg hv) (cwV 2 C.1.2.2.2.2 (xw_V m_615 m_616 m_617 m_521 m_618) rfl rfl rfl ky_EM_copyLog ⟨(Nat.le_of_ble_eq_true rfl), (Nat.le_of_ble_eq_true rfl)⟩) (xr_pV C X xc_EM.1 (xk_Xw (X.1.2.2.2.2.2 hg).1)) rfl rfl hl.1 rfl (lv_room (Nat.le_of_ble_eq_true rfl)) d_EM_recover_147 ⟨(Nat.le_of_ble_eq_true rfl), (Nat.le_of_ble_eq_true rfl)⟩) X (fun H locs X => ?_)
        exact kw_EM_recover_150 (x1 := x1) (x3 := x3) (x4 := x4) (x5 := x5) C hlk hr hin hg hrec121  X (lv_sub hl [0, 1, 2, 3, 4] rfl) h
theorem kw_EM_recover_121 {r : Int32} (C : xx_C p m c b_EM_recover 6 s args Rn_EM E) (hlk : meth.locks = false) (hr : meth.sig.returnType = (some .int)) (hin : meth.name = "recover") (hg : xe_g E = true) : ∀ (n : Nat) {H : Heap} {locs : List Loc} {ls : Array Slot} {M : xm} {x1 : Int32} {x3 : Int32} {x4 : Int32} {x5 : Int32}, xx_S E K M s H locs → lv_has ls 6 [(0, .ref (xe_om E)), (1, .int x1), (3, .int x3), (4, .int x4), (5, .int x5)] → kf_EM_recover_121 n M x1 x3 x4 x5 = some (r, M') → W p l e { frames := 1, cells := 0, slots := 0, locals := 24 } s m args below meth c H locs 0 0 (MQ below (xq_i E K M' r) args s 0 0 (xe_A E)) (F0 m 121 ls []) := by
  intro n
  induction n with
  | zero => intro H locs ls M x1 x3 x4 x5 X hl h; exact nomatch (show (none : Option (Int32 × xm)) = some _ from h)
  | succ n ih => intro H locs ls M x1 x3 x4 x5 X hl h; exact kwb_EM_recover_121 C hlk hr hin hg ih X hl h
set_option maxHeartbeats 4000000 in
set_option maxRecDepth 100000 in
theorem kw_EM_recover_111 {x1 : Int32} {x3 : Int32} {x4 : Int32} {r : Int32} (C : xx_C p m c b_EM_recover 6 s args Rn_EM E) (hlk : meth.locks = false) (hr : meth.sig.returnType = (some .int)) (hin : meth.name = "recover") (hg : xe_g E = true) (X : xx_S E K M s H locs) (hl : lv_has ls 6 [(0, .ref (xe_om E)), (1, .int x1), (3, .int x3), (4, .int x4)]) (h : kf_EM_recover_111 M x1 x3 x4 = some (r, M')) : W p l e { frames := 1, cells := 0, slots := 0, locals := 24 } s m args below meth c H locs 0 0 (MQ below (xq_i E K M' r) args s 0 0 (xe_A E)) (F0 m 111 ls []) := by
  have hx := C.1.1
  have hb := C.1.2.1
  unfold kf_EM_recover_111 at h
  refine lv_aload_n hx hb d_EM_recover_111 rfl (lv_at hl 0 rfl) ?_
  refine xr_mga C X hg xc_EM 18 (by decide) (by decide) (by decide) m_480 d_EM_recover_112 ?_
  refine lv_iload_n hx hb d_EM_recover_115 rfl (lv_at hl 2 rfl) ?_
  refine lv_iconst hx hb d_EM_recover_116 kn_i_0 ?_
  replace h := xb h
  obtain ⟨M1, hv, h⟩ := h
  refine xr_mst C X hg 18 (by decide) (by decide) rfl d_EM_recover_117 hv (fun H locs X => ?_)
  refine lv_iconst hx hb d_EM_recover_118 kn_i_0 ?_
  refine lv_istore hx hb d_EM_recover_119 hl (by decide) rfl (fun ls hl => ?_)
  have hl : lv_has ls 6 [(5, .int (0 : Int32)), (0, .ref (xe_om E)), (1, .int x1), (3, .int x3), (4, .int x4)] := hl
  exact kw_EM_recover_121 C hlk hr hin hg 1000 X (lv_sub hl [1, 2, 3, 4, 0] rfl) h
set_option maxHeartbeats 4000000 in
set_option maxRecDepth 100000 in
theorem kwb_EM_recover_64 {rec64 : xm → Int32 → Int32 → Int32 → Int32 → Option (Int32 × xm)} {x1 : Int32} {x3 : Int32} {x4 : Int32} {x5 : Int32} {r : Int32} (C : xx_C p m c b_EM_recover 6 s args Rn_EM E) (hlk : meth.locks = false) (hr : meth.sig.returnType = (some .int)) (hin : meth.name = "recover") (hg : xe_g E = true) (hrec64 : ∀ {H : Heap} {locs : List Loc} {ls : Array Slot} {M : xm} {x1 : Int32} {x3 : Int32} {x4 : Int32} {x5 : Int32}, xx_S E K M s H locs → lv_has ls 6 [(0, .ref (xe_om E)), (1, .int x1), (3, .int x3), (4, .int x4), (5, .int x5)] → rec64 M x1 x3 x4 x5 = some (r, M') → W p l e { frames := 1, cells := 0, slots := 0, locals := 24 } s m args below meth c H locs 0 0 (MQ below (xq_i E K M' r) args s 0 0 (xe_A E)) (F0 m 64 ls [])) (X : xx_S E K M s H locs) (hl : lv_has ls 6 [(0, .ref (xe_om E)), (1, .int x1), (3, .int x3), (4, .int x4), (5, .int x5)]) (h : kb_EM_recover_64 rec64 M x1 x3 x4 x5 = some (r, M')) : W p l e { frames := 1, cells := 0, slots := 0, locals := 24 } s m args below meth c H locs 0 0 (MQ below (xq_i E K M' r) args s 0 0 (xe_A E)) (F0 m 64 ls []) := by
  have hx := C.1.1
  have hb := C.1.2.1
  unfold kb_EM_recover_64 at h
  refine lv_iload hx hb d_EM_recover_64 (lv_at hl 4 rfl) ?_
  refine lv_iconst hx hb d_EM_recover_66 kn_i_3 ?_
  refine lv_icmp_ge (tgt := 104) hx hb d_EM_recover_67 (by decide +kernel) (fun hc => ?_) (fun hc => ?_)
  · rw [if_pos hc] at h
    refine lv_aload_n hx hb d_EM_recover_104 rfl (lv_at hl 0 rfl) ?_
    refine xr_mga C X hg xc_EM 17 (by decide) (by decide) (by decide) m_479 d_EM_recover_105 ?_
    refine lv_iload_n hx hb d_EM_recover_108 rfl (lv_at hl 2 rfl) ?_
    refine lv_iconst hx hb d_EM_recover_109 kn_i_1 ?_
    replace h := xb h
    obtain ⟨M1, hv, h⟩ := h
    refine xr_mstz C X hg 17 (by decide) (by decide) rfl d_EM_recover_110 hv (fun H locs X => ?_)
    exact kw_EM_recover_111 (x1 := x1) (x3 := x3) (x4 := x4) C hlk hr hin hg  X (lv_sub hl [0, 1, 2, 3] rfl) h
  · rw [if_neg hc] at h
    refine lv_aload_n hx hb d_EM_recover_70 rfl (lv_at hl 0 rfl) ?_
    refine xr_mga C X hg xc_EM 0 (by decide) (by decide) (by decide) m_461 d_EM_recover_71 ?_
    refine lv_iload hx hb d_EM_recover_74 (lv_at hl 4 rfl) ?_
    refine lv_aload_n hx hb d_EM_recover_76 rfl (lv_at hl 0 rfl) ?_
    refine xr_mga C X hg xc_EM 1 (by decide) (by decide) (by decide) m_463 d_EM_recover_77 ?_
    refine lv_iload hx hb d_EM_recover_80 (lv_at hl 4 rfl) ?_
    replace h := xb h
    obtain ⟨v2, hv, h⟩ := h
    refine xr_mldz C X hg 1 (by decide) (by decide) rfl d_EM_recover_82 hv ?_
    refine lv_if_eq (tgt := 90) hx hb d_EM_recover_83 (by decide +kernel) (fun hc => ?_) (fun hc => ?_)
    · rw [if_pos hc] at h
      refine lv_aload_n hx hb d_EM_recover_90 rfl (lv_at hl 0 rfl) ?_
      refine xr_mga C X hg xc_EM 0 (by decide) (by decide) (by decide) m_461 d_EM_recover_91 ?_
      refine lv_iload hx hb d_EM_recover_94 (lv_at hl 4 rfl) ?_
      replace h := xb h
      obtain ⟨v3, hv, h⟩ := h
      refine xr_mld C X hg 0 (by decide) (by decide) rfl d_EM_recover_96 hv ?_
      replace h := xb h
      obtain ⟨M4, hv, h⟩ := h
      refine xr_mst C X hg 0 (by decide) (by decide) rfl d_EM_recover_97 hv (fun H locs X => ?_)
      refine lv_iinc (k := 4) (v := (x5 + (1 : Int32))) hx hb d_EM_recover_98 hl rfl (congrArg (fun y : Int32 => x5 + y) kn_i_1) (by decide) rfl (fun ls hl => ?_)
      have hl : lv_has ls 6 [(5, .int (x5 + (1 : Int32))), (0, .ref (xe_om E)), (1, .int x1), (3, .int x3), (4, .int x4)] := hl
      refine lv_goto (tgt := 64) hx hb d_EM_recover_101 (by decide +kernel) ?_
      exact hrec64 (x1 := x1) (x3 := x3) (x4 := x4) (x5 := (x5 + (1 : Int32))) X (lv_sub hl [1, 2, 3, 4, 0] rfl) h
    · rw [if_neg hc] at h
      refine lv_iload_n hx hb d_EM_recover_86 rfl (lv_at hl 2 rfl) ?_
      refine lv_goto (tgt := 97) hx hb d_EM_recover_87 (by decide +kernel) ?_
      replace h := xb h
      obtain ⟨M5, hv, h⟩ := h
      refine xr_mst C X hg 0 (by decide) (by decide) rfl d_EM_recover_97 hv (fun H locs X => ?_)
      refine lv_iinc (k := 4) (v := (x5 + (1 : Int32))) hx hb d_EM_recover_98 hl rfl (congrArg (fun y : Int32 => x5 + y) kn_i_1) (by decide) rfl (fun ls hl => ?_)
      have hl : lv_has ls 6 [(5, .int (x5 + (1 : Int32))), (0, .ref (xe_om E)), (1, .int x1), (3, .int x3), (4, .int x4)] := hl
      refine lv_goto (tgt := 64) hx hb d_EM_recover_101 (by decide +kernel) ?_
      exact hrec64 (x1 := x1) (x3 := x3) (x4 := x4) (x5 := (x5 + (1 : Int32))) X (lv_sub hl [1, 2, 3, 4, 0] rfl) h
theorem kw_EM_recover_64 {r : Int32} (C : xx_C p m c b_EM_recover 6 s args Rn_EM E) (hlk : meth.locks = false) (hr : meth.sig.returnType = (some .int)) (hin : meth.name = "recover") (hg : xe_g E = true) : ∀ (n : Nat) {H : Heap} {locs : List Loc} {ls : Array Slot} {M : xm} {x1 : Int32} {x3 : Int32} {x4 : Int32} {x5 : Int32}, xx_S E K M s H locs → lv_has ls 6 [(0, .ref (xe_om E)), (1, .int x1), (3, .int x3), (4, .int x4), (5, .int x5)] → kf_EM_recover_64 n M x1 x3 x4 x5 = some (r, M') → W p l e { frames := 1, cells := 0, slots := 0, locals := 24 } s m args below meth c H locs 0 0 (MQ below (xq_i E K M' r) args s 0 0 (xe_A E)) (F0 m 64 ls []) := by
  intro n
  induction n with
  | zero => intro H locs ls M x1 x3 x4 x5 X hl h; exact nomatch (show (none : Option (Int32 × xm)) = some _ from h)
  | succ n ih => intro H locs ls M x1 x3 x4 x5 X hl h; exact kwb_EM_recover_64 C hlk hr hin hg ih X hl h
set_option maxHeartbeats 4000000 in
set_option maxRecDepth 100000 in
theorem kw_EM_recover_0 {x1 : Int32} {r : Int32} (C : xx_C p m c b_EM_recover 6 s args Rn_EM E) (hlk : meth.locks = false) (hr : meth.sig.returnType = (some .int)) (hin : meth.name = "recover") (hg : xe_g E = true) (X : xx_S E K M s H locs) (hl : lv_has ls 6 [(0, .ref (xe_om E)), (1, .int x1)]) (h : kf_EM_recover_0 M x1 = some (r, M')) : W p l e { frames := 1, cells := 0, slots := 0, locals := 24 } s m args below meth c H locs 0 0 (MQ below (xq_i E K M' r) args s 0 0 (xe_A E)) (F0 m 0 ls []) := by
  have hx := C.1.1
  have hb := C.1.2.1
  unfold kf_EM_recover_0 at h
  refine lv_aload_n hx hb d_EM_recover_0 rfl (lv_at hl 0 rfl) ?_
  replace h := xpb h
  obtain ⟨r2, M1, hv, h⟩ := h
  refine xr_ki (va_runV (As := []) (rest := []) C.1 (kc_EM_greatest l E hg hv) (cwV 0 C.1.2.2.2.2 (xw_V m_587 m_588 m_589 m_521 m_590) rfl rfl rfl ky_EM_greatest ⟨(Nat.le_of_ble_eq_true rfl), (Nat.le_of_ble_eq_true rfl)⟩) (xr_pV C X xc_EM.1 (xk_Xw (X.1.2.2.2.2.2 hg).1)) rfl rfl hl.1 rfl (lv_room (Nat.le_of_ble_eq_true rfl)) d_EM_recover_1 ⟨(Nat.le_of_ble_eq_true rfl), (Nat.le_of_ble_eq_true rfl)⟩) X (fun H locs X => ?_)
  refine lv_istore_n hx hb d_EM_recover_4 rfl hl (by decide) rfl (fun ls hl => ?_)
  have hl : lv_has ls 6 [(2, .int r2), (0, .ref (xe_om E)), (1, .int x1)] := hl
  refine lv_iload_n hx hb d_EM_recover_5 rfl (lv_at hl 2 rfl) ?_
  refine lv_if_lt (tgt := 47) hx hb d_EM_recover_6 (by decide +kernel) (fun hc => ?_) (fun hc => ?_)
  · rw [if_pos hc] at h
    exact kw_EM_recover_47 C hlk hr hin hg  X (lv_sub hl [] rfl) h
  · rw [if_neg hc] at h
    refine lv_iload_n hx hb d_EM_recover_9 rfl (lv_at hl 2 rfl) ?_
    refine lv_iconst hx hb d_EM_recover_10 kn_i_2 ?_
    refine lv_icmp_gt (tgt := 47) hx hb d_EM_recover_11 (by decide +kernel) (fun hc => ?_) (fun hc => ?_)
    · rw [if_pos hc] at h
      exact kw_EM_recover_47 C hlk hr hin hg  X (lv_sub hl [] rfl) h
    · rw [if_neg hc] at h
      refine lv_aload_n hx hb d_EM_recover_14 rfl (lv_at hl 1 rfl) ?_
      replace h := xpb h
      obtain ⟨r4, M3, hv, h⟩ := h
      refine xr_ki (va_runV (As := []) (rest := []) C.1 (kc_EM_coordinatorsUp l E hg hv) (cwV 0 C.1.2.2.2.2 (xw_V m_583 m_584 m_585 m_521 m_586) rfl rfl rfl ky_EM_coordinatorsUp ⟨(Nat.le_of_ble_eq_true rfl), (Nat.le_of_ble_eq_true rfl)⟩) (xr_pV C X xc_EM.1 (xk_Xw (X.1.2.2.2.2.2 hg).1)) rfl rfl hl.1 rfl (lv_room (Nat.le_of_ble_eq_true rfl)) d_EM_recover_15 ⟨(Nat.le_of_ble_eq_true rfl), (Nat.le_of_ble_eq_true rfl)⟩) X (fun H locs X => ?_)
      refine lv_iconst hx hb d_EM_recover_18 kn_i_2 ?_
      refine lv_icmp_lt (tgt := 47) hx hb d_EM_recover_19 (by decide +kernel) (fun hc => ?_) (fun hc => ?_)
      · rw [if_pos hc] at h
        exact kw_EM_recover_47 C hlk hr hin hg  X (lv_sub hl [] rfl) h
      · rw [if_neg hc] at h
        refine lv_aload_n hx hb d_EM_recover_22 rfl (lv_at hl 1 rfl) ?_
        refine xr_mga C X hg xc_EM 3 (by decide) (by decide) (by decide) m_465 d_EM_recover_23 ?_
        refine lv_iload_n hx hb d_EM_recover_26 rfl (lv_at hl 2 rfl) ?_
        replace h := xb h
        obtain ⟨v5, hv, h⟩ := h
        refine xr_mldz C X hg 3 (by decide) (by decide) rfl d_EM_recover_27 hv ?_
        refine lv_if_eq (tgt := 47) hx hb d_EM_recover_28 (by decide +kernel) (fun hc => ?_) (fun hc => ?_)
        · rw [if_pos hc] at h
          exact kw_EM_recover_47 C hlk hr hin hg  X (lv_sub hl [] rfl) h
        · rw [if_neg hc] at h
          refine lv_aload_n hx hb d_EM_recover_31 rfl (lv_at hl 1 rfl) ?_
          refine xr_mga C X hg xc_EM 2 (by decide) (by decide) (by decide) m_464 d_EM_recover_32 ?_
          refine lv_iload_n hx hb d_EM_recover_35 rfl (lv_at hl 2 rfl) ?_
          replace h := xb h
          obtain ⟨v6, hv, h⟩ := h
          refine xr_mld C X hg 2 (by decide) (by decide) rfl d_EM_recover_36 hv ?_
          refine lv_iload_n hx hb d_EM_recover_37 rfl (lv_at hl 0 rfl) ?_
          refine lv_icmp_ne (tgt := 47) hx hb d_EM_recover_38 (by decide +kernel) (fun hc => ?_) (fun hc => ?_)
          · rw [if_neg hc] at h
            exact kw_EM_recover_47 C hlk hr hin hg  X (lv_sub hl [] rfl) h
          · rw [if_pos hc] at h
            refine lv_iload_n hx hb d_EM_recover_41 rfl (lv_at hl 0 rfl) ?_
            refine lv_bipush hx hb d_EM_recover_42 kn_b_9 ?_
            refine lv_icmp_lt (tgt := 49) hx hb d_EM_recover_44 (by decide +kernel) (fun hc => ?_) (fun hc => ?_)
            · rw [if_pos hc] at h
              refine lv_iload_n hx hb d_EM_recover_49 rfl (lv_at hl 0 rfl) ?_
              refine lv_iconst hx hb d_EM_recover_50 kn_i_1 ?_
              refine lv_iadd hx hb d_EM_recover_51 ?_
              refine lv_istore_n hx hb d_EM_recover_52 rfl hl (by decide) rfl (fun ls hl => ?_)
              have hl : lv_has ls 6 [(3, .int (r2 + (1 : Int32))), (2, .int r2), (0, .ref (xe_om E)), (1, .int x1)] := hl
              refine lv_aload_n hx hb d_EM_recover_53 rfl (lv_at hl 2 rfl) ?_
              refine xr_mga C X hg xc_EM 4 (by decide) (by decide) (by decide) m_466 d_EM_recover_54 ?_
              refine lv_iload_n hx hb d_EM_recover_57 rfl (lv_at hl 3 rfl) ?_
              replace h := xb h
              obtain ⟨v7, hv, h⟩ := h
              refine xr_mld C X hg 4 (by decide) (by decide) rfl d_EM_recover_58 hv ?_
              refine lv_istore hx hb d_EM_recover_59 hl (by decide) rfl (fun ls hl => ?_)
              have hl : lv_has ls 6 [(4, .int v7), (3, .int (r2 + (1 : Int32))), (2, .int r2), (0, .ref (xe_om E)), (1, .int x1)] := hl
              refine lv_iconst hx hb d_EM_recover_61 kn_i_0 ?_
              refine lv_istore hx hb d_EM_recover_62 hl (by decide) rfl (fun ls hl => ?_)
              have hl : lv_has ls 6 [(5, .int (0 : Int32)), (4, .int v7), (3, .int (r2 + (1 : Int32))), (2, .int r2), (0, .ref (xe_om E)), (1, .int x1)] := hl
              exact kw_EM_recover_64 C hlk hr hin hg 1000 X (lv_sub hl [4, 5, 2, 1, 0] rfl) h
            · rw [if_neg hc] at h
              exact kw_EM_recover_47 C hlk hr hin hg  X (lv_sub hl [] rfl) h
theorem kc_EM_recover (l : Launch) (E : xe) (hg : xe_g E = true) {x1 : Int32} {r : Int32} (h : kf_EM_recover_0 M x1 = some (r, M')) : Met l y_EM_recover (Cond.code y_EM_recover b_EM_recover 6 (some .int) :: w_all) { frames := 1, cells := 0, slots := 0, locals := 24 } (va_Pc [.ref (xe_om E), .int x1] (fun U => xx_B E K M U)) (xq_i E K M' r) 0 0 (xe_A E) :=
  xr_met (by decide) (Nat.le_of_ble_eq_true rfl) fun p e s m below meth c ls C X hlk hr hin hl => kw_EM_recover_0 C hlk hr hin hg X hl h
end KW20
