/-! EpochStoreModel.pushOut(II)I -/
def kb_EM_pushOut_87 (rec5 : xm → Int32 → Int32 → Int32 → Int32 → Option (Int32 × xm)) (rec87 : xm → Int32 → Int32 → Int32 → Int32 → Int32 → Int32 → Option (Int32 × xm)) (M : xm) (x1 : Int32) (x2 : Int32) (x3 : Int32) (x4 : Int32) (x5 : Int32) (x6 : Int32) : Option (Int32 × xm) := if (8 : Int32) ≤ x6 then (rec5 M x1 x2 (x3 + (1 : Int32)) (x4 + (1 : Int32))) else (xMi M 34 (((8 : Int32) * x2) + x6)).bind fun v1 => (xMt M 55 (((8 : Int32) * x5) + x6) v1).bind fun M2 => rec87 M2 x1 x2 x3 x4 x5 (x6 + (1 : Int32))
def kf_EM_pushOut_87 (rec5 : xm → Int32 → Int32 → Int32 → Int32 → Option (Int32 × xm)) : Nat → xm → Int32 → Int32 → Int32 → Int32 → Int32 → Int32 → Option (Int32 × xm)
  | 0 => fun _ _ _ _ _ _ _ => none
  | n + 1 => kb_EM_pushOut_87 rec5 (kf_EM_pushOut_87 rec5 n)
def kf_EM_pushOut_58 (rec5 : xm → Int32 → Int32 → Int32 → Int32 → Option (Int32 × xm)) (M : xm) (x1 : Int32) (x2 : Int32) (x3 : Int32) (x4 : Int32) (x5 : Int32) : Option (Int32 × xm) := (xMi M 32 x2).bind fun v1 => (xMt M 53 x5 v1).bind fun M2 => (xMi M2 33 x2).bind fun v3 => (xMt M2 54 x5 v3).bind fun M4 => kf_EM_pushOut_87 rec5 1000 M4 x1 x2 x3 x4 x5 (0 : Int32)
def kf_EM_pushOut_134 (M : xm) (x3 : Int32) : Option (Int32 × xm) := some (x3, M)
def kb_EM_pushOut_5 (rec5 : xm → Int32 → Int32 → Int32 → Int32 → Option (Int32 × xm)) (M : xm) (x1 : Int32) (x2 : Int32) (x3 : Int32) (x4 : Int32) : Option (Int32 × xm) := if (3 : Int32) ≤ x4 then (kf_EM_pushOut_134 M x3) else (xMi M 18 x1).bind fun v1 => if ((v1 >>> (x4 &&& 31)) &&& (1 : Int32)) = (1 : Int32) then ((xMi M 35 x2).bind fun v2 => if ((v2 >>> (x4 &&& 31)) &&& (1 : Int32)) = 0 then ((xMi M 31 x2).bind fun v3 => xp (kf_EM_send_0 M (6 : Int32) x4 x1 v3 (0 : Int32)) fun r5 M4 => kf_EM_pushOut_58 rec5 M4 x1 x2 x3 x4 r5) else rec5 M x1 x2 x3 (x4 + (1 : Int32))) else rec5 M x1 x2 x3 (x4 + (1 : Int32))
def kf_EM_pushOut_5 : Nat → xm → Int32 → Int32 → Int32 → Int32 → Option (Int32 × xm)
  | 0 => fun _ _ _ _ _ => none
  | n + 1 => kb_EM_pushOut_5 (kf_EM_pushOut_5 n)
def kf_EM_pushOut_0 (M : xm) (x1 : Int32) (x2 : Int32) : Option (Int32 × xm) := kf_EM_pushOut_5 1000 M x1 x2 (0 : Int32) (0 : Int32)
/-! EpochStoreModel.judge(IIII)V -/
def kf_EM_judge_35 (M : xm) (x1 : Int32) (x2 : Int32) (x4 : Int32) : Option xm := (kf_EM_result_0 M x1 x2 (0 : Int32) x4 (6 : Int32)).bind fun M1 => some M1
def kf_EM_judge_88 (M : xm) (x1 : Int32) (x2 : Int32) (x4 : Int32) : Option xm := (kf_EM_result_0 M x1 x2 (0 : Int32) x4 (5 : Int32)).bind fun M1 => some M1
def kf_EM_judge_239 (M : xm) (x2 : Int32) (x7 : Int32) : Option xm := xp (kf_EM_pushOut_0 M x2 x7) fun r2 M1 => some M1
def kb_EM_judge_190 (rec190 : xm → Int32 → Int32 → Int32 → Option xm) (M : xm) (x2 : Int32) (x7 : Int32) (x8 : Int32) : Option xm := if (8 : Int32) ≤ x8 then ((xMi M 20 x2).bind fun v1 => (xMt M 21 x2 v1).bind fun M2 => kf_EM_judge_239 M2 x2 x7) else (xMi M 55 ((192 : Int32) + x8)).bind fun v3 => (xMt M 34 (((8 : Int32) * x7) + x8) v3).bind fun M4 => rec190 M4 x2 x7 (x8 + (1 : Int32))
def kf_EM_judge_190 : Nat → xm → Int32 → Int32 → Int32 → Option xm
  | 0 => fun _ _ _ _ => none
  | n + 1 => kb_EM_judge_190 (kf_EM_judge_190 n)
def kf_EM_judge_162 (M : xm) (x1 : Int32) (x2 : Int32) (x4 : Int32) (x7 : Int32) : Option xm := (xMt M 35 x7 (0 : Int32)).bind fun M1 => (xMt M1 36 x7 x1).bind fun M2 => (xMt M2 37 x7 x4).bind fun M3 => kf_EM_judge_190 1000 M3 x2 x7 (0 : Int32)
def kf_EM_judge_122 (M : xm) (x1 : Int32) (x2 : Int32) (x4 : Int32) (x7 : Int32) : Option xm := (xMi M 20 x2).bind fun v1 => (xMt M 31 x7 v1).bind fun M2 => (xMi M2 21 x2).bind fun v3 => (xMt M2 32 x7 v3).bind fun M4 => (xMi M4 54 (24 : Int32)).bind fun v5 => (xMt M4 33 x7 v5).bind fun M6 => kf_EM_judge_162 M6 x1 x2 x4 x7
def kf_EM_judge_78 (M : xm) (x1 : Int32) (x2 : Int32) (x4 : Int32) (x5 : Int32) (x6 : Int32) : Option xm := if x5 = 0 then (if x6 = 0 then ((xMi M 30 x2).bind fun v1 => (xMi M 30 x2).bind fun v2 => (xMt M 30 x2 (v2 + (1 : Int32))).bind fun M3 => kf_EM_judge_122 M3 x1 x2 x4 (((8 : Int32) * x2) + v1)) else kf_EM_judge_88 M x1 x2 x4) else kf_EM_judge_88 M x1 x2 x4
def kf_EM_judge_0 (M : xm) (x1 : Int32) (x2 : Int32) (x3 : Int32) (x4 : Int32) : Option xm := (xMi M 30 x2).bind fun v1 => if v1 = (8 : Int32) then (some M) else (xMi M 19 x2).bind fun v2 => if x3 < v2 then (kf_EM_judge_35 M x1 x2 x4) else (xMi M 20 x2).bind fun v3 => if (v3 - (12 : Int32)) ≤ x3 then ((xMi M 20 x2).bind fun v4 => (xMt M 20 x2 (v4 + (1 : Int32))).bind fun M5 => xp (kf_EM_finds_0 M5 x2 (15 : Int32) x3) fun r7 M6 => xp (kf_EM_finds_0 M6 x2 (240 : Int32) x3) fun r9 M8 => kf_EM_judge_78 M8 x1 x2 x4 r7 r9) else kf_EM_judge_35 M x1 x2 x4
/-! EpochStoreModel.copyWay(I)V -/
def kb_EM_copyWay_86 (rec86 : xm → Int32 → Int32 → Option xm) (M : xm) (x1 : Int32) (x2 : Int32) : Option xm := if (8 : Int32) ≤ x2 then (some M) else (xMi M 34 ((((8 : Int32) * x1) + (8 : Int32)) + x2)).bind fun v1 => (xMt M 34 (((8 : Int32) * x1) + x2) v1).bind fun M2 => rec86 M2 x1 (x2 + (1 : Int32))
def kf_EM_copyWay_86 : Nat → xm → Int32 → Int32 → Option xm
  | 0 => fun _ _ _ => none
  | n + 1 => kb_EM_copyWay_86 (kf_EM_copyWay_86 n)
def kf_EM_copyWay_84 (M : xm) (x1 : Int32) : Option xm := kf_EM_copyWay_86 1000 M x1 (0 : Int32)
def kf_EM_copyWay_42 (M : xm) (x1 : Int32) : Option xm := (xMi M 35 (x1 + (1 : Int32))).bind fun v1 => (xMt M 35 x1 v1).bind fun M2 => (xMi M2 36 (x1 + (1 : Int32))).bind fun v3 => (xMt M2 36 x1 v3).bind fun M4 => (xMi M4 37 (x1 + (1 : Int32))).bind fun v5 => (xMt M4 37 x1 v5).bind fun M6 => kf_EM_copyWay_84 M6 x1
def kf_EM_copyWay_0 (M : xm) (x1 : Int32) : Option xm := (xMi M 31 (x1 + (1 : Int32))).bind fun v1 => (xMt M 31 x1 v1).bind fun M2 => (xMi M2 32 (x1 + (1 : Int32))).bind fun v3 => (xMt M2 32 x1 v3).bind fun M4 => (xMi M4 33 (x1 + (1 : Int32))).bind fun v5 => (xMt M4 33 x1 v5).bind fun M6 => kf_EM_copyWay_42 M6 x1
section KW15
variable {p : Program} {l : Launch} {e : Env} {s : State} {m : MethodId} {args : Array Value} {below : List Frame} {meth : Method} {c : Code} {H : Heap} {locs : List Loc} {ls : Array Slot} {E : xe} {K K' : xk} {M M' : xm}
set_option maxHeartbeats 4000000 in
set_option maxRecDepth 100000 in
theorem kwb_EM_pushOut_87 {rec5 : xm → Int32 → Int32 → Int32 → Int32 → Option (Int32 × xm)} {rec87 : xm → Int32 → Int32 → Int32 → Int32 → Int32 → Int32 → Option (Int32 × xm)} {x1 : Int32} {x2 : Int32} {x3 : Int32} {x4 : Int32} {x5 : Int32} {x6 : Int32} {r : Int32} (C : xx_C p m c b_EM_pushOut 7 s args Rn_EM E) (hlk : meth.locks = false) (hr : meth.sig.returnType = (some .int)) (hin : meth.name = "pushOut") (hg : xe_g E = true) (hrec5 : ∀ {H : Heap} {locs : List Loc} {ls : Array Slot} {M : xm} {x1 : Int32} {x2 : Int32} {x3 : Int32} {x4 : Int32}, xx_S E K M s H locs → lv_has ls 7 [(0, .ref (xe_om E)), (1, .int x1), (2, .int x2), (3, .int x3), (4, .int x4)] → rec5 M x1 x2 x3 x4 = some (r, M') → W p l e { frames := 1, cells := 0, slots := 0, locals := 26 } s m args below meth c H locs 0 0 (MQ below (xq_i E K M' r) args s 0 0 (xe_A E)) (F0 m 5 ls [])) (hrec87 : ∀ {H : Heap} {locs : List Loc} {ls : Array Slot} {M : xm} {x1 : Int32} {x2 : Int32} {x3 : Int32} {x4 : Int32} {x5 : Int32} {x6 : Int32}, xx_S E K M s H locs → lv_has ls 7 [(0, .ref (xe_om E)), (1, .int x1), (2, .int x2), (3, .int x3), (4, .int x4), (5, .int x5), (6, .int x6)] → rec87 M x1 x2 x3 x4 x5 x6 = some (r, M') → W p l e { frames := 1, cells := 0, slots := 0, locals := 26 } s m args below meth c H locs 0 0 (MQ below (xq_i E K M' r) args s 0 0 (xe_A E)) (F0 m 87 ls [])) (X : xx_S E K M s H locs) (hl : lv_has ls 7 [(0, .ref (xe_om E)), (1, .int x1), (2, .int x2), (3, .int x3), (4, .int x4), (5, .int x5), (6, .int x6)]) (h : kb_EM_pushOut_87 rec5 rec87 M x1 x2 x3 x4 x5 x6 = some (r, M')) : W p l e { frames := 1, cells := 0, slots := 0, locals := 26 } s m args below meth c H locs 0 0 (MQ below (xq_i E K M' r) args s 0 0 (xe_A E)) (F0 m 87 ls []) := by
  have hx := C.1.1
  have hb := C.1.2.1
  unfold kb_EM_pushOut_87 at h
  refine lv_iload hx hb d_EM_pushOut_87 (lv_at hl 6 rfl) ?_
  refine lv_bipush hx hb d_EM_pushOut_89 kn_b_8 ?_
  refine lv_icmp_ge (tgt := 125) hx hb d_EM_pushOut_91 (by decide +kernel) (fun hc => ?_) (fun hc => ?_)
  · rw [if_pos hc] at h
    refine lv_iinc (k := 3) (v := (x3 + (1 : Int32))) hx hb d_EM_pushOut_125 hl rfl (congrArg (fun y : Int32 => x3 + y) kn_i_1) (by decide) rfl (fun ls hl => ?_)
    have hl : lv_has ls 7 [(3, .int (x3 + (1 : Int32))), (0, .ref (xe_om E)), (1, .int x1), (2, .int x2), (4, .int x4), (5, .int x5), (6, .int x6)] := hl
    refine lv_iinc (k := 4) (v := (x4 + (1 : Int32))) hx hb d_EM_pushOut_128 hl rfl (congrArg (fun y : Int32 => x4 + y) kn_i_1) (by decide) rfl (fun ls hl => ?_)
    have hl : lv_has ls 7 [(4, .int (x4 + (1 : Int32))), (3, .int (x3 + (1 : Int32))), (0, .ref (xe_om E)), (1, .int x1), (2, .int x2), (5, .int x5), (6, .int x6)] := hl
    refine lv_goto (tgt := 5) hx hb d_EM_pushOut_131 (by decide +kernel) ?_
    exact hrec5 (x1 := x1) (x2 := x2) (x3 := (x3 + (1 : Int32))) (x4 := (x4 + (1 : Int32))) X (lv_sub hl [2, 3, 4, 1, 0] rfl) h
  · rw [if_neg hc] at h
    refine lv_aload_n hx hb d_EM_pushOut_94 rfl (lv_at hl 0 rfl) ?_
    refine xr_mga C X hg xc_EM 55 (by decide) (by decide) (by decide) m_516 d_EM_pushOut_95 ?_
    refine lv_bipush hx hb d_EM_pushOut_98 kn_b_8 ?_
    refine lv_iload hx hb d_EM_pushOut_100 (lv_at hl 5 rfl) ?_
    refine lv_imul hx hb d_EM_pushOut_102 ?_
    refine lv_iload hx hb d_EM_pushOut_103 (lv_at hl 6 rfl) ?_
    refine lv_iadd hx hb d_EM_pushOut_105 ?_
    refine lv_aload_n hx hb d_EM_pushOut_106 rfl (lv_at hl 0 rfl) ?_
    refine xr_mga C X hg xc_EM 34 (by decide) (by decide) (by decide) m_496 d_EM_pushOut_107 ?_
    refine lv_bipush hx hb d_EM_pushOut_110 kn_b_8 ?_
    refine lv_iload_n hx hb d_EM_pushOut_112 rfl (lv_at hl 2 rfl) ?_
    refine lv_imul hx hb d_EM_pushOut_113 ?_
    refine lv_iload hx hb d_EM_pushOut_114 (lv_at hl 6 rfl) ?_
    refine lv_iadd hx hb d_EM_pushOut_116 ?_
    replace h := xb h
    obtain ⟨v1, hv, h⟩ := h
    refine xr_mld C X hg 34 (by decide) (by decide) rfl d_EM_pushOut_117 hv ?_
    replace h := xb h
    obtain ⟨M2, hv, h⟩ := h
    refine xr_mst C X hg 55 (by decide) (by decide) rfl d_EM_pushOut_118 hv (fun H locs X => ?_)
    refine lv_iinc (k := 6) (v := (x6 + (1 : Int32))) hx hb d_EM_pushOut_119 hl rfl (congrArg (fun y : Int32 => x6 + y) kn_i_1) (by decide) rfl (fun ls hl => ?_)
    have hl : lv_has ls 7 [(6, .int (x6 + (1 : Int32))), (0, .ref (xe_om E)), (1, .int x1), (2, .int x2), (3, .int x3), (4, .int x4), (5, .int x5)] := hl
    refine lv_goto (tgt := 87) hx hb d_EM_pushOut_122 (by decide +kernel) ?_
    exact hrec87 (x1 := x1) (x2 := x2) (x3 := x3) (x4 := x4) (x5 := x5) (x6 := (x6 + (1 : Int32))) X (lv_sub hl [1, 2, 3, 4, 5, 6, 0] rfl) h
theorem kw_EM_pushOut_87 {rec5 : xm → Int32 → Int32 → Int32 → Int32 → Option (Int32 × xm)} {r : Int32} (C : xx_C p m c b_EM_pushOut 7 s args Rn_EM E) (hlk : meth.locks = false) (hr : meth.sig.returnType = (some .int)) (hin : meth.name = "pushOut") (hg : xe_g E = true) (hrec5 : ∀ {H : Heap} {locs : List Loc} {ls : Array Slot} {M : xm} {x1 : Int32} {x2 : Int32} {x3 : Int32} {x4 : Int32}, xx_S E K M s H locs → lv_has ls 7 [(0, .ref (xe_om E)), (1, .int x1), (2, .int x2), (3, .int x3), (4, .int x4)] → rec5 M x1 x2 x3 x4 = some (r, M') → W p l e { frames := 1, cells := 0, slots := 0, locals := 26 } s m args below meth c H locs 0 0 (MQ below (xq_i E K M' r) args s 0 0 (xe_A E)) (F0 m 5 ls [])) : ∀ (n : Nat) {H : Heap} {locs : List Loc} {ls : Array Slot} {M : xm} {x1 : Int32} {x2 : Int32} {x3 : Int32} {x4 : Int32} {x5 : Int32} {x6 : Int32}, xx_S E K M s H locs → lv_has ls 7 [(0, .ref (xe_om E)), (1, .int x1), (2, .int x2), (3, .int x3), (4, .int x4), (5, .int x5), (6, .int x6)] → kf_EM_pushOut_87 rec5 n M x1 x2 x3 x4 x5 x6 = some (r, M') → W p l e { frames := 1, cells := 0, slots := 0, locals := 26 } s m args below meth c H locs 0 0 (MQ below (xq_i E K M' r) args s 0 0 (xe_A E)) (F0 m 87 ls []) := by
  intro n
  induction n with
  | zero => intro H locs ls M x1 x2 x3 x4 x5 x6 X hl h; exact nomatch (show (none : Option (Int32 × xm)) = some _ from h)
  | succ n ih => intro H locs ls M x1 x2 x3 x4 x5 x6 X hl h; exact kwb_EM_pushOut_87 C hlk hr hin hg hrec5 ih X hl h
set_option maxHeartbeats 4000000 in
set_option maxRecDepth 100000 in
theorem kw_EM_pushOut_58 {rec5 : xm → Int32 → Int32 → Int32 → Int32 → Option (Int32 × xm)} {x1 : Int32} {x2 : Int32} {x3 : Int32} {x4 : Int32} {x5 : Int32} {r : Int32} (C : xx_C p m c b_EM_pushOut 7 s args Rn_EM E) (hlk : meth.locks = false) (hr : meth.sig.returnType = (some .int)) (hin : meth.name = "pushOut") (hg : xe_g E = true) (hrec5 : ∀ {H : Heap} {locs : List Loc} {ls : Array Slot} {M : xm} {x1 : Int32} {x2 : Int32} {x3 : Int32} {x4 : Int32}, xx_S E K M s H locs → lv_has ls 7 [(0, .ref (xe_om E)), (1, .int x1), (2, .int x2), (3, .int x3), (4, .int x4)] → rec5 M x1 x2 x3 x4 = some (r, M') → W p l e { frames := 1, cells := 0, slots := 0, locals := 26 } s m args below meth c H locs 0 0 (MQ below (xq_i E K M' r) args s 0 0 (xe_A E)) (F0 m 5 ls [])) (X : xx_S E K M s H locs) (hl : lv_has ls 7 [(0, .ref (xe_om E)), (1, .int x1), (2, .int x2), (3, .int x3), (4, .int x4), (5, .int x5)]) (h : kf_EM_pushOut_58 rec5 M x1 x2 x3 x4 x5 = some (r, M')) : W p l e { frames := 1, cells := 0, slots := 0, locals := 26 } s m args below meth c H locs 0 0 (MQ below (xq_i E K M' r) args s 0 0 (xe_A E)) (F0 m 58 ls []) := by
  have hx := C.1.1
  have hb := C.1.2.1
  unfold kf_EM_pushOut_58 at h
  refine lv_aload_n hx hb d_EM_pushOut_58 rfl (lv_at hl 0 rfl) ?_
  refine xr_mga C X hg xc_EM 53 (by decide) (by decide) (by decide) m_514 d_EM_pushOut_59 ?_
  refine lv_iload hx hb d_EM_pushOut_62 (lv_at hl 5 rfl) ?_
  refine lv_aload_n hx hb d_EM_pushOut_64 rfl (lv_at hl 0 rfl) ?_
  refine xr_mga C X hg xc_EM 32 (by decide) (by decide) (by decide) m_494 d_EM_pushOut_65 ?_
  refine lv_iload_n hx hb d_EM_pushOut_68 rfl (lv_at hl 2 rfl) ?_
  replace h := xb h
  obtain ⟨v1, hv, h⟩ := h
  refine xr_mld C X hg 32 (by decide) (by decide) rfl d_EM_pushOut_69 hv ?_
  replace h := xb h
  obtain ⟨M2, hv, h⟩ := h
  refine xr_mst C X hg 53 (by decide) (by decide) rfl d_EM_pushOut_70 hv (fun H locs X => ?_)
  refine lv_aload_n hx hb d_EM_pushOut_71 rfl (lv_at hl 0 rfl) ?_
  refine xr_mga C X hg xc_EM 54 (by decide) (by decide) (by decide) m_515 d_EM_pushOut_72 ?_
  refine lv_iload hx hb d_EM_pushOut_75 (lv_at hl 5 rfl) ?_
  refine lv_aload_n hx hb d_EM_pushOut_77 rfl (lv_at hl 0 rfl) ?_
  refine xr_mga C X hg xc_EM 33 (by decide) (by decide) (by decide) m_495 d_EM_pushOut_78 ?_
  refine lv_iload_n hx hb d_EM_pushOut_81 rfl (lv_at hl 2 rfl) ?_
  replace h := xb h
  obtain ⟨v3, hv, h⟩ := h
  refine xr_mld C X hg 33 (by decide) (by decide) rfl d_EM_pushOut_82 hv ?_
  replace h := xb h
  obtain ⟨M4, hv, h⟩ := h
  refine xr_mst C X hg 54 (by decide) (by decide) rfl d_EM_pushOut_83 hv (fun H locs X => ?_)
  refine lv_iconst hx hb d_EM_pushOut_84 kn_i_0 ?_
  refine lv_istore hx hb d_EM_pushOut_85 hl (by decide) rfl (fun ls hl => ?_)
  have hl : lv_has ls 7 [(6, .int (0 : Int32)), (0, .ref (xe_om E)), (1, .int x1), (2, .int x2), (3, .int x3), (4, .int x4), (5, .int x5)] := hl
  exact kw_EM_pushOut_87 C hlk hr hin hg hrec5 1000 X (lv_sub hl [1, 2, 3, 4, 5, 6, 0] rfl) h
set_option maxHeartbeats 4000000 in
set_option maxRecDepth 100000 in
theorem kw_EM_pushOut_134 {x3 : Int32} {r : Int32} (C : xx_C p m c b_EM_pushOut 7 s args Rn_EM E) (hlk : meth.locks = false) (hr : meth.sig.returnType = (some .int)) (hin : meth.name = "pushOut") (hg : xe_g E = true) (X : xx_S E K M s H locs) (hl : lv_has ls 7 [(3, .int x3)]) (h : kf_EM_pushOut_134 M x3 = some (r, M')) : W p l e { frames := 1, cells := 0, slots := 0, locals := 26 } s m args below meth c H locs 0 0 (MQ below (xq_i E K M' r) args s 0 0 (xe_A E)) (F0 m 134 ls []) := by
  have hx := C.1.1
  have hb := C.1.2.1
  unfold kf_EM_pushOut_134 at h
  refine lv_iload_n hx hb d_EM_pushOut_134 rfl (lv_at hl 0 rfl) ?_
  obtain ⟨rfl, rfl⟩ := Prod.mk.inj (Option.some.inj h)
  exact xr_iret C X hlk hr d_EM_pushOut_135 rfl (Nat.le_of_ble_eq_true rfl) (Nat.le_of_ble_eq_true rfl)
set_option maxHeartbeats 4000000 in
set_option maxRecDepth 100000 in
theorem kwb_EM_pushOut_5 {rec5 : xm → Int32 → Int32 → Int32 → Int32 → Option (Int32 × xm)} {x1 : Int32} {x2 : Int32} {x3 : Int32} {x4 : Int32} {r : Int32} (C : xx_C p m c b_EM_pushOut 7 s args Rn_EM E) (hlk : meth.locks = false) (hr : meth.sig.returnType = (some .int)) (hin : meth.name = "pushOut") (hg : xe_g E = true) (hrec5 : ∀ {H : Heap} {locs : List Loc} {ls : Array Slot} {M : xm} {x1 : Int32} {x2 : Int32} {x3 : Int32} {x4 : Int32}, xx_S E K M s H locs → lv_has ls 7 [(0, .ref (xe_om E)), (1, .int x1), (2, .int x2), (3, .int x3), (4, .int x4)] → rec5 M x1 x2 x3 x4 = some (r, M') → W p l e { frames := 1, cells := 0, slots := 0, locals := 26 } s m args below meth c H locs 0 0 (MQ below (xq_i E K M' r) args s 0 0 (xe_A E)) (F0 m 5 ls [])) (X : xx_S E K M s H locs) (hl : lv_has ls 7 [(0, .ref (xe_om E)), (1, .int x1), (2, .int x2), (3, .int x3), (4, .int x4)]) (h : kb_EM_pushOut_5 rec5 M x1 x2 x3 x4 = some (r, M')) : W p l e { frames := 1, cells := 0, slots := 0, locals := 26 } s m args below meth c H locs 0 0 (MQ below (xq_i E K M' r) args s 0 0 (xe_A E)) (F0 m 5 ls []) := by
  have hx := C.1.1
  have hb := C.1.2.1
  unfold kb_EM_pushOut_5 at h
  refine lv_iload hx hb d_EM_pushOut_5 (lv_at hl 4 rfl) ?_
  refine lv_iconst hx hb d_EM_pushOut_7 kn_i_3 ?_
  refine lv_icmp_ge (tgt := 134) hx hb d_EM_pushOut_8 (by decide +kernel) (fun hc => ?_) (fun hc => ?_)
  · rw [if_pos hc] at h
    exact kw_EM_pushOut_134 (x3 := x3) C hlk hr hin hg  X (lv_sub hl [3] rfl) h
  · rw [if_neg hc] at h
    refine lv_aload_n hx hb d_EM_pushOut_11 rfl (lv_at hl 0 rfl) ?_
    refine xr_mga C X hg xc_EM 18 (by decide) (by decide) (by decide) m_480 d_EM_pushOut_12 ?_
    refine lv_iload_n hx hb d_EM_pushOut_15 rfl (lv_at hl 1 rfl) ?_
    replace h := xb h
    obtain ⟨v1, hv, h⟩ := h
    refine xr_mld C X hg 18 (by decide) (by decide) rfl d_EM_pushOut_16 hv ?_
    refine lv_iload hx hb d_EM_pushOut_17 (lv_at hl 4 rfl) ?_
    refine lv_ishr hx hb d_EM_pushOut_19 ?_
    refine lv_iconst hx hb d_EM_pushOut_20 kn_i_1 ?_
    refine lv_iand hx hb d_EM_pushOut_21 ?_
    refine lv_iconst hx hb d_EM_pushOut_22 kn_i_1 ?_
    refine lv_icmp_ne (tgt := 128) hx hb d_EM_pushOut_23 (by decide +kernel) (fun hc => ?_) (fun hc => ?_)
    · rw [if_neg hc] at h
      refine lv_iinc (k := 4) (v := (x4 + (1 : Int32))) hx hb d_EM_pushOut_128 hl rfl (congrArg (fun y : Int32 => x4 + y) kn_i_1) (by decide) rfl (fun ls hl => ?_)
      have hl : lv_has ls 7 [(4, .int (x4 + (1 : Int32))), (0, .ref (xe_om E)), (1, .int x1), (2, .int x2), (3, .int x3)] := hl
      refine lv_goto (tgt := 5) hx hb d_EM_pushOut_131 (by decide +kernel) ?_
      exact hrec5 (x1 := x1) (x2 := x2) (x3 := x3) (x4 := (x4 + (1 : Int32))) X (lv_sub hl [1, 2, 3, 4, 0] rfl) h
    · rw [if_pos hc] at h
      refine lv_aload_n hx hb d_EM_pushOut_26 rfl (lv_at hl 0 rfl) ?_
      refine xr_mga C X hg xc_EM 35 (by decide) (by decide) (by decide) m_497 d_EM_pushOut_27 ?_
      refine lv_iload_n hx hb d_EM_pushOut_30 rfl (lv_at hl 2 rfl) ?_
      replace h := xb h
      obtain ⟨v2, hv, h⟩ := h
      refine xr_mld C X hg 35 (by decide) (by decide) rfl d_EM_pushOut_31 hv ?_
      refine lv_iload hx hb d_EM_pushOut_32 (lv_at hl 4 rfl) ?_
      refine lv_ishr hx hb d_EM_pushOut_34 ?_
      refine lv_iconst hx hb d_EM_pushOut_35 kn_i_1 ?_
      refine lv_iand hx hb d_EM_pushOut_36 ?_
      refine lv_if_ne (tgt := 128) hx hb d_EM_pushOut_37 (by decide +kernel) (fun hc => ?_) (fun hc => ?_)
      · rw [if_neg hc] at h
        refine lv_iinc (k := 4) (v := (x4 + (1 : Int32))) hx hb d_EM_pushOut_128 hl rfl (congrArg (fun y : Int32 => x4 + y) kn_i_1) (by decide) rfl (fun ls hl => ?_)
        have hl : lv_has ls 7 [(4, .int (x4 + (1 : Int32))), (0, .ref (xe_om E)), (1, .int x1), (2, .int x2), (3, .int x3)] := hl
        refine lv_goto (tgt := 5) hx hb d_EM_pushOut_131 (by decide +kernel) ?_
        exact hrec5 (x1 := x1) (x2 := x2) (x3 := x3) (x4 := (x4 + (1 : Int32))) X (lv_sub hl [1, 2, 3, 4, 0] rfl) h
      · rw [if_pos hc] at h
        refine lv_aload_n hx hb d_EM_pushOut_40 rfl (lv_at hl 0 rfl) ?_
        refine lv_bipush hx hb d_EM_pushOut_41 kn_b_6 ?_
        refine lv_iload hx hb d_EM_pushOut_43 (lv_at hl 4 rfl) ?_
        refine lv_iload_n hx hb d_EM_pushOut_45 rfl (lv_at hl 1 rfl) ?_
        refine lv_aload_n hx hb d_EM_pushOut_46 rfl (lv_at hl 0 rfl) ?_
        refine xr_mga C X hg xc_EM 31 (by decide) (by decide) (by decide) m_493 d_EM_pushOut_47 ?_
        refine lv_iload_n hx hb d_EM_pushOut_50 rfl (lv_at hl 2 rfl) ?_
        replace h := xb h
        obtain ⟨v3, hv, h⟩ := h
        refine xr_mld C X hg 31 (by decide) (by decide) rfl d_EM_pushOut_51 hv ?_
        refine lv_iconst hx hb d_EM_pushOut_52 kn_i_0 ?_
        replace h := xpb h
        obtain ⟨r5, M4, hv, h⟩ := h
        refine xr_ki (va_runV (As := [.int (6 : Int32), .int x4, .int x1, .int v3, .int (0 : Int32)]) (rest := []) C.1 (kc_EM_send l E hg hv) (cwV 5 C.1.2.2.2.2 (xw_V m_528 m_529 m_530 m_521 m_531) rfl rfl rfl ky_EM_send ⟨(Nat.le_of_ble_eq_true rfl), (Nat.le_of_ble_eq_true rfl)⟩) (xr_pV C X xc_EM.1 (xk_Xw (X.1.2.2.2.2.2 hg).1)) rfl rfl hl.1 rfl (lv_room (Nat.le_of_ble_eq_true rfl)) d_EM_pushOut_53 ⟨(Nat.le_of_ble_eq_true rfl), (Nat.le_of_ble_eq_true rfl)⟩) X (fun H locs X => ?_)
        refine lv_istore hx hb d_EM_pushOut_56 hl (by decide) rfl (fun ls hl => ?_)
        have hl : lv_has ls 7 [(5, .int r5), (0, .ref (xe_om E)), (1, .int x1), (2, .int x2), (3, .int x3), (4, .int x4)] := hl
        exact kw_EM_pushOut_58 (x1 := x1) (x2 := x2) (x3 := x3) (x4 := x4) (x5 := r5) C hlk hr hin hg hrec5  X (lv_sub hl [1, 2, 3, 4, 5, 0] rfl) h
theorem kw_EM_pushOut_5 {r : Int32} (C : xx_C p m c b_EM_pushOut 7 s args Rn_EM E) (hlk : meth.locks = false) (hr : meth.sig.returnType = (some .int)) (hin : meth.name = "pushOut") (hg : xe_g E = true) : ∀ (n : Nat) {H : Heap} {locs : List Loc} {ls : Array Slot} {M : xm} {x1 : Int32} {x2 : Int32} {x3 : Int32} {x4 : Int32}, xx_S E K M s H locs → lv_has ls 7 [(0, .ref (xe_om E)), (1, .int x1), (2, .int x2), (3, .int x3), (4, .int x4)] → kf_EM_pushOut_5 n M x1 x2 x3 x4 = some (r, M') → W p l e { frames := 1, cells := 0, slots := 0, locals := 26 } s m args below meth c H locs 0 0 (MQ below (xq_i E K M' r) args s 0 0 (xe_A E)) (F0 m 5 ls []) := by
  intro n
  induction n with
  | zero => intro H locs ls M x1 x2 x3 x4 X hl h; exact nomatch (show (none : Option (Int32 × xm)) = some _ from h)
  | succ n ih => intro H locs ls M x1 x2 x3 x4 X hl h; exact kwb_EM_pushOut_5 C hlk hr hin hg ih X hl h
set_option maxHeartbeats 4000000 in
set_option maxRecDepth 100000 in
theorem kw_EM_pushOut_0 {x1 : Int32} {x2 : Int32} {r : Int32} (C : xx_C p m c b_EM_pushOut 7 s args Rn_EM E) (hlk : meth.locks = false) (hr : meth.sig.returnType = (some .int)) (hin : meth.name = "pushOut") (hg : xe_g E = true) (X : xx_S E K M s H locs) (hl : lv_has ls 7 [(0, .ref (xe_om E)), (1, .int x1), (2, .int x2)]) (h : kf_EM_pushOut_0 M x1 x2 = some (r, M')) : W p l e { frames := 1, cells := 0, slots := 0, locals := 26 } s m args below meth c H locs 0 0 (MQ below (xq_i E K M' r) args s 0 0 (xe_A E)) (F0 m 0 ls []) := by
  have hx := C.1.1
  have hb := C.1.2.1
  unfold kf_EM_pushOut_0 at h
  refine lv_iconst hx hb d_EM_pushOut_0 kn_i_0 ?_
  refine lv_istore_n hx hb d_EM_pushOut_1 rfl hl (by decide) rfl (fun ls hl => ?_)
  have hl : lv_has ls 7 [(3, .int (0 : Int32)), (0, .ref (xe_om E)), (1, .int x1), (2, .int x2)] := hl
  refine lv_iconst hx hb d_EM_pushOut_2 kn_i_0 ?_
  refine lv_istore hx hb d_EM_pushOut_3 hl (by decide) rfl (fun ls hl => ?_)
  have hl : lv_has ls 7 [(4, .int (0 : Int32)), (3, .int (0 : Int32)), (0, .ref (xe_om E)), (1, .int x1), (2, .int x2)] := hl
  exact kw_EM_pushOut_5 C hlk hr hin hg 1000 X (lv_sub hl [2, 3, 4, 1, 0] rfl) h
theorem kc_EM_pushOut (l : Launch) (E : xe) (hg : xe_g E = true) {x1 : Int32} {x2 : Int32} {r : Int32} (h : kf_EM_pushOut_0 M x1 x2 = some (r, M')) : Met l y_EM_pushOut (Cond.code y_EM_pushOut b_EM_pushOut 7 (some .int) :: w_all) { frames := 1, cells := 0, slots := 0, locals := 26 } (va_Pc [.ref (xe_om E), .int x1, .int x2] (fun U => xx_B E K M U)) (xq_i E K M' r) 0 0 (xe_A E) :=
  xr_met (by decide) (Nat.le_of_ble_eq_true rfl) fun p e s m below meth c ls C X hlk hr hin hl => kw_EM_pushOut_0 C hlk hr hin hg X hl h
set_option maxHeartbeats 4000000 in
set_option maxRecDepth 100000 in
theorem kw_EM_judge_35 {x1 : Int32} {x2 : Int32} {x4 : Int32} (C : xx_C p m c b_EM_judge 9 s args Rn_EM E) (hlk : meth.locks = false) (hr : meth.sig.returnType = none) (hin : meth.name = "judge") (hg : xe_g E = true) (X : xx_S E K M s H locs) (hl : lv_has ls 9 [(0, .ref (xe_om E)), (1, .int x1), (2, .int x2), (4, .int x4)]) (h : kf_EM_judge_35 M x1 x2 x4 = some M') : W p l e { frames := 2, cells := 0, slots := 0, locals := 52 } s m args below meth c H locs 0 0 (MQ below (xq_v E K M') args s 0 0 (xe_A E)) (F0 m 35 ls []) := by
  have hx := C.1.1
  have hb := C.1.2.1
  unfold kf_EM_judge_35 at h
  refine lv_aload_n hx hb d_EM_judge_35 rfl (lv_at hl 0 rfl) ?_
  refine lv_iload_n hx hb d_EM_judge_36 rfl (lv_at hl 1 rfl) ?_
  refine lv_iload_n hx hb d_EM_judge_37 rfl (lv_at hl 2 rfl) ?_
  refine lv_iconst hx hb d_EM_judge_38 kn_i_0 ?_
  refine lv_iload hx hb d_EM_judge_39 (lv_at hl 3 rfl) ?_
  refine lv_bipush hx hb d_EM_judge_41 kn_b_6 ?_
  replace h := xb h
  obtain ⟨M1, hv, h⟩ := h
  refine xr_kv (va_runV (As := [.int x1, .int x2, .int (0 : Int32), .int x4, .int (6 : Int32)]) (rest := []) C.1 (kc_EM_result l E hg hv) (cwV 5 C.1.2.2.2.2 (xw_V m_540 m_541 m_542 m_521 m_543) rfl rfl rfl ky_EM_result ⟨(Nat.le_of_ble_eq_true rfl), (Nat.le_of_ble_eq_true rfl)⟩) (xr_pV C X xc_EM.1 (xk_Xw (X.1.2.2.2.2.2 hg).1)) rfl rfl hl.1 rfl (lv_room (Nat.le_of_ble_eq_true rfl)) d_EM_judge_43 ⟨(Nat.le_of_ble_eq_true rfl), (Nat.le_of_ble_eq_true rfl)⟩) X (fun H locs X => ?_)
  obtain rfl := Option.some.inj h
  exact xr_vret C X hlk hr d_EM_judge_46 (Nat.le_of_ble_eq_true rfl) (Nat.le_of_ble_eq_true rfl)
set_option maxHeartbeats 4000000 in
set_option maxRecDepth 100000 in
theorem kw_EM_judge_88 {x1 : Int32} {x2 : Int32} {x4 : Int32} (C : xx_C p m c b_EM_judge 9 s args Rn_EM E) (hlk : meth.locks = false) (hr : meth.sig.returnType = none) (hin : meth.name = "judge") (hg : xe_g E = true) (X : xx_S E K M s H locs) (hl : lv_has ls 9 [(0, .ref (xe_om E)), (1, .int x1), (2, .int x2), (4, .int x4)]) (h : kf_EM_judge_88 M x1 x2 x4 = some M') : W p l e { frames := 2, cells := 0, slots := 0, locals := 52 } s m args below meth c H locs 0 0 (MQ below (xq_v E K M') args s 0 0 (xe_A E)) (F0 m 88 ls []) := by
  have hx := C.1.1
  have hb := C.1.2.1
  unfold kf_EM_judge_88 at h
  refine lv_aload_n hx hb d_EM_judge_88 rfl (lv_at hl 0 rfl) ?_
  refine lv_iload_n hx hb d_EM_judge_89 rfl (lv_at hl 1 rfl) ?_
  refine lv_iload_n hx hb d_EM_judge_90 rfl (lv_at hl 2 rfl) ?_
  refine lv_iconst hx hb d_EM_judge_91 kn_i_0 ?_
  refine lv_iload hx hb d_EM_judge_92 (lv_at hl 3 rfl) ?_
  refine lv_iconst hx hb d_EM_judge_94 kn_i_5 ?_
  replace h := xb h
  obtain ⟨M1, hv, h⟩ := h
  refine xr_kv (va_runV (As := [.int x1, .int x2, .int (0 : Int32), .int x4, .int (5 : Int32)]) (rest := []) C.1 (kc_EM_result l E hg hv) (cwV 5 C.1.2.2.2.2 (xw_V m_540 m_541 m_542 m_521 m_543) rfl rfl rfl ky_EM_result ⟨(Nat.le_of_ble_eq_true rfl), (Nat.le_of_ble_eq_true rfl)⟩) (xr_pV C X xc_EM.1 (xk_Xw (X.1.2.2.2.2.2 hg).1)) rfl rfl hl.1 rfl (lv_room (Nat.le_of_ble_eq_true rfl)) d_EM_judge_95 ⟨(Nat.le_of_ble_eq_true rfl), (Nat.le_of_ble_eq_true rfl)⟩) X (fun H locs X => ?_)
  obtain rfl := Option.some.inj h
  exact xr_vret C X hlk hr d_EM_judge_98 (Nat.le_of_ble_eq_true rfl) (Nat.le_of_ble_eq_true rfl)
set_option maxHeartbeats 4000000 in
set_option maxRecDepth 100000 in
theorem kw_EM_judge_239 {x2 : Int32} {x7 : Int32} (C : xx_C p m c b_EM_judge 9 s args Rn_EM E) (hlk : meth.locks = false) (hr : meth.sig.returnType = none) (hin : meth.name = "judge") (hg : xe_g E = true) (X : xx_S E K M s H locs) (hl : lv_has ls 9 [(0, .ref (xe_om E)), (2, .int x2), (7, .int x7)]) (h : kf_EM_judge_239 M x2 x7 = some M') : W p l e { frames := 2, cells := 0, slots := 0, locals := 52 } s m args below meth c H locs 0 0 (MQ below (xq_v E K M') args s 0 0 (xe_A E)) (F0 m 239 ls []) := by
  have hx := C.1.1
  have hb := C.1.2.1
  unfold kf_EM_judge_239 at h
  refine lv_aload_n hx hb d_EM_judge_239 rfl (lv_at hl 0 rfl) ?_
  refine lv_iload_n hx hb d_EM_judge_240 rfl (lv_at hl 1 rfl) ?_
  refine lv_iload hx hb d_EM_judge_241 (lv_at hl 2 rfl) ?_
  replace h := xpb h
  obtain ⟨r2, M1, hv, h⟩ := h
  refine xr_ki (va_runV (As := [.int x2, .int x7]) (rest := []) C.1 (kc_EM_pushOut l E hg hv) (cwV 2 C.1.2.2.2.2 (xw_V m_536 m_537 m_538 m_521 m_539) rfl rfl rfl ky_EM_pushOut ⟨(Nat.le_of_ble_eq_true rfl), (Nat.le_of_ble_eq_true rfl)⟩) (xr_pV C X xc_EM.1 (xk_Xw (X.1.2.2.2.2.2 hg).1)) rfl rfl hl.1 rfl (lv_room (Nat.le_of_ble_eq_true rfl)) d_EM_judge_243 ⟨(Nat.le_of_ble_eq_true rfl), (Nat.le_of_ble_eq_true rfl)⟩) X (fun H locs X => ?_)
  refine lv_pop hx hb d_EM_judge_246 rfl ?_
  obtain rfl := Option.some.inj h
  exact xr_vret C X hlk hr d_EM_judge_247 (Nat.le_of_ble_eq_true rfl) (Nat.le_of_ble_eq_true rfl)
set_option maxHeartbeats 4000000 in
set_option maxRecDepth 100000 in
theorem kwb_EM_judge_190 {rec190 : xm → Int32 → Int32 → Int32 → Option xm} {x2 : Int32} {x7 : Int32} {x8 : Int32} (C : xx_C p m c b_EM_judge 9 s args Rn_EM E) (hlk : meth.locks = false) (hr : meth.sig.returnType = none) (hin : meth.name = "judge") (hg : xe_g E = true) (hrec190 : ∀ {H : Heap} {locs : List Loc} {ls : Array Slot} {M : xm} {x2 : Int32} {x7 : Int32} {x8 : Int32}, xx_S E K M s H locs → lv_has ls 9 [(0, .ref (xe_om E)), (2, .int x2), (7, .int x7), (8, .int x8)] → rec190 M x2 x7 x8 = some M' → W p l e { frames := 2, cells := 0, slots := 0, locals := 52 } s m args below meth c H locs 0 0 (MQ below (xq_v E K M') args s 0 0 (xe_A E)) (F0 m 190 ls [])) (X : xx_S E K M s H locs) (hl : lv_has ls 9 [(0, .ref (xe_om E)), (2, .int x2), (7, .int x7), (8, .int x8)]) (h : kb_EM_judge_190 rec190 M x2 x7 x8 = some M') : W p l e { frames := 2, cells := 0, slots := 0, locals := 52 } s m args below meth c H locs 0 0 (MQ below (xq_v E K M') args s 0 0 (xe_A E)) (F0 m 190 ls []) := by
  have hx := C.1.1
  have hb := C.1.2.1
  unfold kb_EM_judge_190 at h
  refine lv_iload hx hb d_EM_judge_190 (lv_at hl 3 rfl) ?_
  refine lv_bipush hx hb d_EM_judge_192 kn_b_8 ?_
  refine lv_icmp_ge (tgt := 227) hx hb d_EM_judge_194 (by decide +kernel) (fun hc => ?_) (fun hc => ?_)
  · rw [if_pos hc] at h
    refine lv_aload_n hx hb d_EM_judge_227 rfl (lv_at hl 0 rfl) ?_
    refine xr_mga C X hg xc_EM 21 (by decide) (by decide) (by decide) m_483 d_EM_judge_228 ?_
    refine lv_iload_n hx hb d_EM_judge_231 rfl (lv_at hl 1 rfl) ?_
    refine lv_aload_n hx hb d_EM_judge_232 rfl (lv_at hl 0 rfl) ?_
    refine xr_mga C X hg xc_EM 20 (by decide) (by decide) (by decide) m_482 d_EM_judge_233 ?_
    refine lv_iload_n hx hb d_EM_judge_236 rfl (lv_at hl 1 rfl) ?_
    replace h := xb h
    obtain ⟨v1, hv, h⟩ := h
    refine xr_mld C X hg 20 (by decide) (by decide) rfl d_EM_judge_237 hv ?_
    replace h := xb h
    obtain ⟨M2, hv, h⟩ := h
    refine xr_mst C X hg 21 (by decide) (by decide) rfl d_EM_judge_238 hv (fun H locs X => ?_)
    exact kw_EM_judge_239 (x2 := x2) (x7 := x7) C hlk hr hin hg  X (lv_sub hl [0, 1, 2] rfl) h
  · rw [if_neg hc] at h
    refine lv_aload_n hx hb d_EM_judge_197 rfl (lv_at hl 0 rfl) ?_
    refine xr_mga C X hg xc_EM 34 (by decide) (by decide) (by decide) m_496 d_EM_judge_198 ?_
    refine lv_bipush hx hb d_EM_judge_201 kn_b_8 ?_
    refine lv_iload hx hb d_EM_judge_203 (lv_at hl 2 rfl) ?_
    refine lv_imul hx hb d_EM_judge_205 ?_
    refine lv_iload hx hb d_EM_judge_206 (lv_at hl 3 rfl) ?_
    refine lv_iadd hx hb d_EM_judge_208 ?_
    refine lv_aload_n hx hb d_EM_judge_209 rfl (lv_at hl 0 rfl) ?_
    refine xr_mga C X hg xc_EM 55 (by decide) (by decide) (by decide) m_516 d_EM_judge_210 ?_
    refine lv_sipush hx hb d_EM_judge_213 kn_s_192 ?_
    refine lv_iload hx hb d_EM_judge_216 (lv_at hl 3 rfl) ?_
    refine lv_iadd hx hb d_EM_judge_218 ?_
    replace h := xb h
    obtain ⟨v3, hv, h⟩ := h
    refine xr_mld C X hg 55 (by decide) (by decide) rfl d_EM_judge_219 hv ?_
    replace h := xb h
    obtain ⟨M4, hv, h⟩ := h
    refine xr_mst C X hg 34 (by decide) (by decide) rfl d_EM_judge_220 hv (fun H locs X => ?_)
    refine lv_iinc (k := 3) (v := (x8 + (1 : Int32))) hx hb d_EM_judge_221 hl rfl (congrArg (fun y : Int32 => x8 + y) kn_i_1) (by decide) rfl (fun ls hl => ?_)
    have hl : lv_has ls 9 [(8, .int (x8 + (1 : Int32))), (0, .ref (xe_om E)), (2, .int x2), (7, .int x7)] := hl
    refine lv_goto (tgt := 190) hx hb d_EM_judge_224 (by decide +kernel) ?_
    exact hrec190 (x2 := x2) (x7 := x7) (x8 := (x8 + (1 : Int32))) X (lv_sub hl [1, 2, 3, 0] rfl) h
theorem kw_EM_judge_190 (C : xx_C p m c b_EM_judge 9 s args Rn_EM E) (hlk : meth.locks = false) (hr : meth.sig.returnType = none) (hin : meth.name = "judge") (hg : xe_g E = true) : ∀ (n : Nat) {H : Heap} {locs : List Loc} {ls : Array Slot} {M : xm} {x2 : Int32} {x7 : Int32} {x8 : Int32}, xx_S E K M s H locs → lv_has ls 9 [(0, .ref (xe_om E)), (2, .int x2), (7, .int x7), (8, .int x8)] → kf_EM_judge_190 n M x2 x7 x8 = some M' → W p l e { frames := 2, cells := 0, slots := 0, locals := 52 } s m args below meth c H locs 0 0 (MQ below (xq_v E K M') args s 0 0 (xe_A E)) (F0 m 190 ls []) := by
  intro n
  induction n with
  | zero => intro H locs ls M x2 x7 x8 X hl h; exact nomatch (show (none : Option xm) = some _ from h)
  | succ n ih => intro H locs ls M x2 x7 x8 X hl h; exact kwb_EM_judge_190 C hlk hr hin hg ih X hl h
set_option maxHeartbeats 4000000 in
set_option maxRecDepth 100000 in
theorem kw_EM_judge_162 {x1 : Int32} {x2 : Int32} {x4 : Int32} {x7 : Int32} (C : xx_C p m c b_EM_judge 9 s args Rn_EM E) (hlk : meth.locks = false) (hr : meth.sig.returnType = none) (hin : meth.name = "judge") (hg : xe_g E = true) (X : xx_S E K M s H locs) (hl : lv_has ls 9 [(0, .ref (xe_om E)), (1, .int x1), (2, .int x2), (4, .int x4), (7, .int x7)]) (h : kf_EM_judge_162 M x1 x2 x4 x7 = some M') : W p l e { frames := 2, cells := 0, slots := 0, locals := 52 } s m args below meth c H locs 0 0 (MQ below (xq_v E K M') args s 0 0 (xe_A E)) (F0 m 162 ls []) := by
  have hx := C.1.1
  have hb := C.1.2.1
  unfold kf_EM_judge_162 at h
  refine lv_aload_n hx hb d_EM_judge_162 rfl (lv_at hl 0 rfl) ?_
  refine xr_mga C X hg xc_EM 35 (by decide) (by decide) (by decide) m_497 d_EM_judge_163 ?_
  refine lv_iload hx hb d_EM_judge_166 (lv_at hl 4 rfl) ?_
  refine lv_iconst hx hb d_EM_judge_168 kn_i_0 ?_
  replace h := xb h
  obtain ⟨M1, hv, h⟩ := h
  refine xr_mst C X hg 35 (by decide) (by decide) rfl d_EM_judge_169 hv (fun H locs X => ?_)
  refine lv_aload_n hx hb d_EM_judge_170 rfl (lv_at hl 0 rfl) ?_
  refine xr_mga C X hg xc_EM 36 (by decide) (by decide) (by decide) m_498 d_EM_judge_171 ?_
  refine lv_iload hx hb d_EM_judge_174 (lv_at hl 4 rfl) ?_
  refine lv_iload_n hx hb d_EM_judge_176 rfl (lv_at hl 1 rfl) ?_
  replace h := xb h
  obtain ⟨M2, hv, h⟩ := h
  refine xr_mst C X hg 36 (by decide) (by decide) rfl d_EM_judge_177 hv (fun H locs X => ?_)
  refine lv_aload_n hx hb d_EM_judge_178 rfl (lv_at hl 0 rfl) ?_
  refine xr_mga C X hg xc_EM 37 (by decide) (by decide) (by decide) m_499 d_EM_judge_179 ?_
  refine lv_iload hx hb d_EM_judge_182 (lv_at hl 4 rfl) ?_
  refine lv_iload hx hb d_EM_judge_184 (lv_at hl 3 rfl) ?_
  replace h := xb h
  obtain ⟨M3, hv, h⟩ := h
  refine xr_mst C X hg 37 (by decide) (by decide) rfl d_EM_judge_186 hv (fun H locs X => ?_)
  refine lv_iconst hx hb d_EM_judge_187 kn_i_0 ?_
  refine lv_istore hx hb d_EM_judge_188 hl (by decide) rfl (fun ls hl => ?_)
  have hl : lv_has ls 9 [(8, .int (0 : Int32)), (0, .ref (xe_om E)), (1, .int x1), (2, .int x2), (4, .int x4), (7, .int x7)] := hl
  exact kw_EM_judge_190 C hlk hr hin hg 1000 X (lv_sub hl [1, 3, 5, 0] rfl) h
set_option maxHeartbeats 4000000 in
set_option maxRecDepth 100000 in
theorem kw_EM_judge_122 {x1 : Int32} {x2 : Int32} {x4 : Int32} {x7 : Int32} (C : xx_C p m c b_EM_judge 9 s args Rn_EM E) (hlk : meth.locks = false) (hr : meth.sig.returnType = none) (hin : meth.name = "judge") (hg : xe_g E = true) (X : xx_S E K M s H locs) (hl : lv_has ls 9 [(0, .ref (xe_om E)), (1, .int x1), (2, .int x2), (4, .int x4), (7, .int x7)]) (h : kf_EM_judge_122 M x1 x2 x4 x7 = some M') : W p l e { frames := 2, cells := 0, slots := 0, locals := 52 } s m args below meth c H locs 0 0 (MQ below (xq_v E K M') args s 0 0 (xe_A E)) (F0 m 122 ls []) := by
  have hx := C.1.1
  have hb := C.1.2.1
  unfold kf_EM_judge_122 at h
  refine lv_aload_n hx hb d_EM_judge_122 rfl (lv_at hl 0 rfl) ?_
  refine xr_mga C X hg xc_EM 31 (by decide) (by decide) (by decide) m_493 d_EM_judge_123 ?_
  refine lv_iload hx hb d_EM_judge_126 (lv_at hl 4 rfl) ?_
  refine lv_aload_n hx hb d_EM_judge_128 rfl (lv_at hl 0 rfl) ?_
  refine xr_mga C X hg xc_EM 20 (by decide) (by decide) (by decide) m_482 d_EM_judge_129 ?_
  refine lv_iload_n hx hb d_EM_judge_132 rfl (lv_at hl 2 rfl) ?_
  replace h := xb h
  obtain ⟨v1, hv, h⟩ := h
  refine xr_mld C X hg 20 (by decide) (by decide) rfl d_EM_judge_133 hv ?_
  replace h := xb h
  obtain ⟨M2, hv, h⟩ := h
  refine xr_mst C X hg 31 (by decide) (by decide) rfl d_EM_judge_134 hv (fun H locs X => ?_)
  refine lv_aload_n hx hb d_EM_judge_135 rfl (lv_at hl 0 rfl) ?_
  refine xr_mga C X hg xc_EM 32 (by decide) (by decide) (by decide) m_494 d_EM_judge_136 ?_
  refine lv_iload hx hb d_EM_judge_139 (lv_at hl 4 rfl) ?_
  refine lv_aload_n hx hb d_EM_judge_141 rfl (lv_at hl 0 rfl) ?_
  refine xr_mga C X hg xc_EM 21 (by decide) (by decide) (by decide) m_483 d_EM_judge_142 ?_
  refine lv_iload_n hx hb d_EM_judge_145 rfl (lv_at hl 2 rfl) ?_
  replace h := xb h
  obtain ⟨v3, hv, h⟩ := h
  refine xr_mld C X hg 21 (by decide) (by decide) rfl d_EM_judge_146 hv ?_
  replace h := xb h
  obtain ⟨M4, hv, h⟩ := h
  refine xr_mst C X hg 32 (by decide) (by decide) rfl d_EM_judge_147 hv (fun H locs X => ?_)
  refine lv_aload_n hx hb d_EM_judge_148 rfl (lv_at hl 0 rfl) ?_
  refine xr_mga C X hg xc_EM 33 (by decide) (by decide) (by decide) m_495 d_EM_judge_149 ?_
  refine lv_iload hx hb d_EM_judge_152 (lv_at hl 4 rfl) ?_
  refine lv_aload_n hx hb d_EM_judge_154 rfl (lv_at hl 0 rfl) ?_
  refine xr_mga C X hg xc_EM 54 (by decide) (by decide) (by decide) m_515 d_EM_judge_155 ?_
  refine lv_bipush hx hb d_EM_judge_158 kn_b_24 ?_
  replace h := xb h
  obtain ⟨v5, hv, h⟩ := h
  refine xr_mld C X hg 54 (by decide) (by decide) rfl d_EM_judge_160 hv ?_
  replace h := xb h
  obtain ⟨M6, hv, h⟩ := h
  refine xr_mst C X hg 33 (by decide) (by decide) rfl d_EM_judge_161 hv (fun H locs X => ?_)
  exact kw_EM_judge_162 (x1 := x1) (x2 := x2) (x4 := x4) (x7 := x7) C hlk hr hin hg  X (lv_sub hl [0, 1, 2, 3, 4] rfl) h
set_option maxHeartbeats 4000000 in
set_option maxRecDepth 100000 in
theorem kw_EM_judge_78 {x1 : Int32} {x2 : Int32} {x4 : Int32} {x5 : Int32} {x6 : Int32} (C : xx_C p m c b_EM_judge 9 s args Rn_EM E) (hlk : meth.locks = false) (hr : meth.sig.returnType = none) (hin : meth.name = "judge") (hg : xe_g E = true) (X : xx_S E K M s H locs) (hl : lv_has ls 9 [(0, .ref (xe_om E)), (1, .int x1), (2, .int x2), (4, .int x4), (5, .int x5), (6, .int x6)]) (h : kf_EM_judge_78 M x1 x2 x4 x5 x6 = some M') : W p l e { frames := 2, cells := 0, slots := 0, locals := 52 } s m args below meth c H locs 0 0 (MQ below (xq_v E K M') args s 0 0 (xe_A E)) (F0 m 78 ls []) := by
  have hx := C.1.1
  have hb := C.1.2.1
  unfold kf_EM_judge_78 at h
  refine lv_iload hx hb d_EM_judge_78 (lv_at hl 4 rfl) ?_
  refine lv_if_ne (tgt := 88) hx hb d_EM_judge_80 (by decide +kernel) (fun hc => ?_) (fun hc => ?_)
  · rw [if_neg hc] at h
    exact kw_EM_judge_88 (x1 := x1) (x2 := x2) (x4 := x4) C hlk hr hin hg  X (lv_sub hl [0, 1, 2, 3] rfl) h
  · rw [if_pos hc] at h
    refine lv_iload hx hb d_EM_judge_83 (lv_at hl 5 rfl) ?_
    refine lv_if_eq (tgt := 99) hx hb d_EM_judge_85 (by decide +kernel) (fun hc => ?_) (fun hc => ?_)
    · rw [if_pos hc] at h
      refine lv_bipush hx hb d_EM_judge_99 kn_b_8 ?_
      refine lv_iload_n hx hb d_EM_judge_101 rfl (lv_at hl 2 rfl) ?_
      refine lv_imul hx hb d_EM_judge_102 ?_
      refine lv_aload_n hx hb d_EM_judge_103 rfl (lv_at hl 0 rfl) ?_
      refine xr_mga C X hg xc_EM 30 (by decide) (by decide) (by decide) m_492 d_EM_judge_104 ?_
      refine lv_iload_n hx hb d_EM_judge_107 rfl (lv_at hl 2 rfl) ?_
      replace h := xb h
      obtain ⟨v1, hv, h⟩ := h
      refine xr_mld C X hg 30 (by decide) (by decide) rfl d_EM_judge_108 hv ?_
      refine lv_iadd hx hb d_EM_judge_109 ?_
      refine lv_istore hx hb d_EM_judge_110 hl (by decide) rfl (fun ls hl => ?_)
      have hl : lv_has ls 9 [(7, .int (((8 : Int32) * x2) + v1)), (0, .ref (xe_om E)), (1, .int x1), (2, .int x2), (4, .int x4), (5, .int x5), (6, .int x6)] := hl
      refine lv_aload_n hx hb d_EM_judge_112 rfl (lv_at hl 1 rfl) ?_
      refine xr_mga C X hg xc_EM 30 (by decide) (by decide) (by decide) m_492 d_EM_judge_113 ?_
      refine lv_iload_n hx hb d_EM_judge_116 rfl (lv_at hl 3 rfl) ?_
      refine lv_dup2_11 hx hb d_EM_judge_117 rfl rfl ?_
      replace h := xb h
      obtain ⟨v2, hv, h⟩ := h
      refine xr_mld C X hg 30 (by decide) (by decide) rfl d_EM_judge_118 hv ?_
      refine lv_iconst hx hb d_EM_judge_119 kn_i_1 ?_
      refine lv_iadd hx hb d_EM_judge_120 ?_
      replace h := xb h
      obtain ⟨M3, hv, h⟩ := h
      refine xr_mst C X hg 30 (by decide) (by decide) rfl d_EM_judge_121 hv (fun H locs X => ?_)
      exact kw_EM_judge_122 (x1 := x1) (x2 := x2) (x4 := x4) (x7 := (((8 : Int32) * x2) + v1)) C hlk hr hin hg  X (lv_sub hl [1, 2, 3, 4, 0] rfl) h
    · rw [if_neg hc] at h
      exact kw_EM_judge_88 (x1 := x1) (x2 := x2) (x4 := x4) C hlk hr hin hg  X (lv_sub hl [0, 1, 2, 3] rfl) h
set_option maxHeartbeats 4000000 in
set_option maxRecDepth 100000 in
theorem kw_EM_judge_0 {x1 : Int32} {x2 : Int32} {x3 : Int32} {x4 : Int32} (C : xx_C p m c b_EM_judge 9 s args Rn_EM E) (hlk : meth.locks = false) (hr : meth.sig.returnType = none) (hin : meth.name = "judge") (hg : xe_g E = true) (X : xx_S E K M s H locs) (hl : lv_has ls 9 [(0, .ref (xe_om E)), (1, .int x1), (2, .int x2), (3, .int x3), (4, .int x4)]) (h : kf_EM_judge_0 M x1 x2 x3 x4 = some M') : W p l e { frames := 2, cells := 0, slots := 0, locals := 52 } s m args below meth c H locs 0 0 (MQ below (xq_v E K M') args s 0 0 (xe_A E)) (F0 m 0 ls []) := by
  have hx := C.1.1
  have hb := C.1.2.1
  unfold kf_EM_judge_0 at h
  refine lv_aload_n hx hb d_EM_judge_0 rfl (lv_at hl 0 rfl) ?_
  refine xr_mga C X hg xc_EM 30 (by decide) (by decide) (by decide) m_492 d_EM_judge_1 ?_
  refine lv_iload_n hx hb d_EM_judge_4 rfl (lv_at hl 2 rfl) ?_
  replace h := xb h
  obtain ⟨v1, hv, h⟩ := h
  refine xr_mld C X hg 30 (by decide) (by decide) rfl d_EM_judge_5 hv ?_
  refine lv_bipush hx hb d_EM_judge_6 kn_b_8 ?_
  refine lv_icmp_ne (tgt := 12) hx hb d_EM_judge_8 (by decide +kernel) (fun hc => ?_) (fun hc => ?_)
  · rw [if_neg hc] at h
    refine lv_iload_n hx hb d_EM_judge_12 rfl (lv_at hl 3 rfl) ?_
    refine lv_aload_n hx hb d_EM_judge_13 rfl (lv_at hl 0 rfl) ?_
    refine xr_mga C X hg xc_EM 19 (by decide) (by decide) (by decide) m_481 d_EM_judge_14 ?_
    refine lv_iload_n hx hb d_EM_judge_17 rfl (lv_at hl 2 rfl) ?_
    replace h := xb h
    obtain ⟨v2, hv, h⟩ := h
    refine xr_mld C X hg 19 (by decide) (by decide) rfl d_EM_judge_18 hv ?_
    refine lv_icmp_lt (tgt := 35) hx hb d_EM_judge_19 (by decide +kernel) (fun hc => ?_) (fun hc => ?_)
    · rw [if_pos hc] at h
      exact kw_EM_judge_35 (x1 := x1) (x2 := x2) (x4 := x4) C hlk hr hin hg  X (lv_sub hl [0, 1, 2, 4] rfl) h
    · rw [if_neg hc] at h
      refine lv_iload_n hx hb d_EM_judge_22 rfl (lv_at hl 3 rfl) ?_
      refine lv_aload_n hx hb d_EM_judge_23 rfl (lv_at hl 0 rfl) ?_
      refine xr_mga C X hg xc_EM 20 (by decide) (by decide) (by decide) m_482 d_EM_judge_24 ?_
      refine lv_iload_n hx hb d_EM_judge_27 rfl (lv_at hl 2 rfl) ?_
      replace h := xb h
      obtain ⟨v3, hv, h⟩ := h
      refine xr_mld C X hg 20 (by decide) (by decide) rfl d_EM_judge_28 hv ?_
      refine lv_bipush hx hb d_EM_judge_29 kn_b_12 ?_
      refine lv_isub hx hb d_EM_judge_31 ?_
      refine lv_icmp_ge (tgt := 47) hx hb d_EM_judge_32 (by decide +kernel) (fun hc => ?_) (fun hc => ?_)
      · rw [if_pos hc] at h
        refine lv_aload_n hx hb d_EM_judge_47 rfl (lv_at hl 0 rfl) ?_
        refine xr_mga C X hg xc_EM 20 (by decide) (by decide) (by decide) m_482 d_EM_judge_48 ?_
        refine lv_iload_n hx hb d_EM_judge_51 rfl (lv_at hl 2 rfl) ?_
        refine lv_dup2_11 hx hb d_EM_judge_52 rfl rfl ?_
        replace h := xb h
        obtain ⟨v4, hv, h⟩ := h
        refine xr_mld C X hg 20 (by decide) (by decide) rfl d_EM_judge_53 hv ?_
        refine lv_iconst hx hb d_EM_judge_54 kn_i_1 ?_
        refine lv_iadd hx hb d_EM_judge_55 ?_
        replace h := xb h
        obtain ⟨M5, hv, h⟩ := h
        refine xr_mst C X hg 20 (by decide) (by decide) rfl d_EM_judge_56 hv (fun H locs X => ?_)
        refine lv_aload_n hx hb d_EM_judge_57 rfl (lv_at hl 0 rfl) ?_
        refine lv_iload_n hx hb d_EM_judge_58 rfl (lv_at hl 2 rfl) ?_
        refine lv_bipush hx hb d_EM_judge_59 kn_b_15 ?_
        refine lv_iload_n hx hb d_EM_judge_61 rfl (lv_at hl 3 rfl) ?_
        replace h := xpb h
        obtain ⟨r7, M6, hv, h⟩ := h
        refine xr_ki (va_runV (As := [.int x2, .int (15 : Int32), .int x3]) (rest := []) C.1 (kc_EM_finds l E hg hv) (cwV 3 C.1.2.2.2.2 (xw_V m_532 m_533 m_534 m_521 m_535) rfl rfl rfl ky_EM_finds ⟨(Nat.le_of_ble_eq_true rfl), (Nat.le_of_ble_eq_true rfl)⟩) (xr_pV C X xc_EM.1 (xk_Xw (X.1.2.2.2.2.2 hg).1)) rfl rfl hl.1 rfl (lv_room (Nat.le_of_ble_eq_true rfl)) d_EM_judge_62 ⟨(Nat.le_of_ble_eq_true rfl), (Nat.le_of_ble_eq_true rfl)⟩) X (fun H locs X => ?_)
        refine lv_istore hx hb d_EM_judge_65 hl (by decide) rfl (fun ls hl => ?_)
        have hl : lv_has ls 9 [(5, .int r7), (0, .ref (xe_om E)), (1, .int x1), (2, .int x2), (3, .int x3), (4, .int x4)] := hl
        refine lv_aload_n hx hb d_EM_judge_67 rfl (lv_at hl 1 rfl) ?_
        refine lv_iload_n hx hb d_EM_judge_68 rfl (lv_at hl 3 rfl) ?_
        refine lv_sipush hx hb d_EM_judge_69 kn_s_240 ?_
        refine lv_iload_n hx hb d_EM_judge_72 rfl (lv_at hl 4 rfl) ?_
        replace h := xpb h
        obtain ⟨r9, M8, hv, h⟩ := h
        refine xr_ki (va_runV (As := [.int x2, .int (240 : Int32), .int x3]) (rest := []) C.1 (kc_EM_finds l E hg hv) (cwV 3 C.1.2.2.2.2 (xw_V m_532 m_533 m_534 m_521 m_535) rfl rfl rfl ky_EM_finds ⟨(Nat.le_of_ble_eq_true rfl), (Nat.le_of_ble_eq_true rfl)⟩) (xr_pV C X xc_EM.1 (xk_Xw (X.1.2.2.2.2.2 hg).1)) rfl rfl hl.1 rfl (lv_room (Nat.le_of_ble_eq_true rfl)) d_EM_judge_73 ⟨(Nat.le_of_ble_eq_true rfl), (Nat.le_of_ble_eq_true rfl)⟩) X (fun H locs X => ?_)
        refine lv_istore hx hb d_EM_judge_76 hl (by decide) rfl (fun ls hl => ?_)
        have hl : lv_has ls 9 [(6, .int r9), (5, .int r7), (0, .ref (xe_om E)), (1, .int x1), (2, .int x2), (3, .int x3), (4, .int x4)] := hl
        exact kw_EM_judge_78 (x1 := x1) (x2 := x2) (x4 := x4) (x5 := r7) (x6 := r9) C hlk hr hin hg  X (lv_sub hl [2, 3, 4, 6, 1, 0] rfl) h
      · rw [if_neg hc] at h
        exact kw_EM_judge_35 (x1 := x1) (x2 := x2) (x4 := x4) C hlk hr hin hg  X (lv_sub hl [0, 1, 2, 4] rfl) h
  · rw [if_pos hc] at h
    obtain rfl := Option.some.inj h
    exact xr_vret C X hlk hr d_EM_judge_11 (Nat.le_of_ble_eq_true rfl) (Nat.le_of_ble_eq_true rfl)
theorem kc_EM_judge (l : Launch) (E : xe) (hg : xe_g E = true) {x1 : Int32} {x2 : Int32} {x3 : Int32} {x4 : Int32} (h : kf_EM_judge_0 M x1 x2 x3 x4 = some M') : Met l y_EM_judge (Cond.code y_EM_judge b_EM_judge 9 none :: w_all) { frames := 2, cells := 0, slots := 0, locals := 52 } (va_Pc [.ref (xe_om E), .int x1, .int x2, .int x3, .int x4] (fun U => xx_B E K M U)) (xq_v E K M') 0 0 (xe_A E) :=
  xr_met (by decide) (Nat.le_of_ble_eq_true rfl) fun p e s m below meth c ls C X hlk hr hin hl => kw_EM_judge_0 C hlk hr hin hg X hl h
set_option maxHeartbeats 4000000 in
set_option maxRecDepth 100000 in
theorem kwb_EM_copyWay_86 {rec86 : xm → Int32 → Int32 → Option xm} {x1 : Int32} {x2 : Int32} (C : xx_C p m c b_EM_copyWay 3 s args Rn_EM E) (hlk : meth.locks = false) (hr : meth.sig.returnType = none) (hin : meth.name = "copyWay") (hg : xe_g E = true) (hrec86 : ∀ {H : Heap} {locs : List Loc} {ls : Array Slot} {M : xm} {x1 : Int32} {x2 : Int32}, xx_S E K M s H locs → lv_has ls 3 [(0, .ref (xe_om E)), (1, .int x1), (2, .int x2)] → rec86 M x1 x2 = some M' → W p l e { frames := 0, cells := 0, slots := 0, locals := 0 } s m args below meth c H locs 0 0 (MQ below (xq_v E K M') args s 0 0 (xe_A E)) (F0 m 86 ls [])) (X : xx_S E K M s H locs) (hl : lv_has ls 3 [(0, .ref (xe_om E)), (1, .int x1), (2, .int x2)]) (h : kb_EM_copyWay_86 rec86 M x1 x2 = some M') : W p l e { frames := 0, cells := 0, slots := 0, locals := 0 } s m args below meth c H locs 0 0 (MQ below (xq_v E K M') args s 0 0 (xe_A E)) (F0 m 86 ls []) := by
  have hx := C.1.1
  have hb := C.1.2.1
  unfold kb_EM_copyWay_86 at h
  refine lv_iload_n hx hb d_EM_copyWay_86 rfl (lv_at hl 2 rfl) ?_
  refine lv_bipush hx hb d_EM_copyWay_87 kn_b_8 ?_
  refine lv_icmp_ge (tgt := 123) hx hb d_EM_copyWay_89 (by decide +kernel) (fun hc => ?_) (fun hc => ?_)
  · rw [if_pos hc] at h
    obtain rfl := Option.some.inj h
    exact xr_vret C X hlk hr d_EM_copyWay_123 (Nat.le_of_ble_eq_true rfl) (Nat.le_of_ble_eq_true rfl)
  · rw [if_neg hc] at h
    refine lv_aload_n hx hb d_EM_copyWay_92 rfl (lv_at hl 0 rfl) ?_
    refine xr_mga C X hg xc_EM 34 (by decide) (by decide) (by decide) m_496 d_EM_copyWay_93 ?_
    refine lv_bipush hx hb d_EM_copyWay_96 kn_b_8 ?_
    refine lv_iload_n hx hb d_EM_copyWay_98 rfl (lv_at hl 1 rfl) ?_
    refine lv_imul hx hb d_EM_copyWay_99 ?_
    refine lv_iload_n hx hb d_EM_copyWay_100 rfl (lv_at hl 2 rfl) ?_
    refine lv_iadd hx hb d_EM_copyWay_101 ?_
    refine lv_aload_n hx hb d_EM_copyWay_102 rfl (lv_at hl 0 rfl) ?_
    refine xr_mga C X hg xc_EM 34 (by decide) (by decide) (by decide) m_496 d_EM_copyWay_103 ?_
    refine lv_bipush hx hb d_EM_copyWay_106 kn_b_8 ?_
    refine lv_iload_n hx hb d_EM_copyWay_108 rfl (lv_at hl 1 rfl) ?_
    refine lv_imul hx hb d_EM_copyWay_109 ?_
    refine lv_bipush hx hb d_EM_copyWay_110 kn_b_8 ?_
    refine lv_iadd hx hb d_EM_copyWay_112 ?_
    refine lv_iload_n hx hb d_EM_copyWay_113 rfl (lv_at hl 2 rfl) ?_
    refine lv_iadd hx hb d_EM_copyWay_114 ?_
    replace h := xb h
    obtain ⟨v1, hv, h⟩ := h
    refine xr_mld C X hg 34 (by decide) (by decide) rfl d_EM_copyWay_115 hv ?_
    replace h := xb h
    obtain ⟨M2, hv, h⟩ := h
    refine xr_mst C X hg 34 (by decide) (by decide) rfl d_EM_copyWay_116 hv (fun H locs X => ?_)
    refine lv_iinc (k := 2) (v := (x2 + (1 : Int32))) hx hb d_EM_copyWay_117 hl rfl (congrArg (fun y : Int32 => x2 + y) kn_i_1) (by decide) rfl (fun ls hl => ?_)
    have hl : lv_has ls 3 [(2, .int (x2 + (1 : Int32))), (0, .ref (xe_om E)), (1, .int x1)] := hl
    refine lv_goto (tgt := 86) hx hb d_EM_copyWay_120 (by decide +kernel) ?_
    exact hrec86 (x1 := x1) (x2 := (x2 + (1 : Int32))) X (lv_sub hl [1, 2, 0] rfl) h
theorem kw_EM_copyWay_86 (C : xx_C p m c b_EM_copyWay 3 s args Rn_EM E) (hlk : meth.locks = false) (hr : meth.sig.returnType = none) (hin : meth.name = "copyWay") (hg : xe_g E = true) : ∀ (n : Nat) {H : Heap} {locs : List Loc} {ls : Array Slot} {M : xm} {x1 : Int32} {x2 : Int32}, xx_S E K M s H locs → lv_has ls 3 [(0, .ref (xe_om E)), (1, .int x1), (2, .int x2)] → kf_EM_copyWay_86 n M x1 x2 = some M' → W p l e { frames := 0, cells := 0, slots := 0, locals := 0 } s m args below meth c H locs 0 0 (MQ below (xq_v E K M') args s 0 0 (xe_A E)) (F0 m 86 ls []) := by
  intro n
  induction n with
  | zero => intro H locs ls M x1 x2 X hl h; exact nomatch (show (none : Option xm) = some _ from h)
  | succ n ih => intro H locs ls M x1 x2 X hl h; exact kwb_EM_copyWay_86 C hlk hr hin hg ih X hl h
set_option maxHeartbeats 4000000 in
set_option maxRecDepth 100000 in
theorem kw_EM_copyWay_84 {x1 : Int32} (C : xx_C p m c b_EM_copyWay 3 s args Rn_EM E) (hlk : meth.locks = false) (hr : meth.sig.returnType = none) (hin : meth.name = "copyWay") (hg : xe_g E = true) (X : xx_S E K M s H locs) (hl : lv_has ls 3 [(0, .ref (xe_om E)), (1, .int x1)]) (h : kf_EM_copyWay_84 M x1 = some M') : W p l e { frames := 0, cells := 0, slots := 0, locals := 0 } s m args below meth c H locs 0 0 (MQ below (xq_v E K M') args s 0 0 (xe_A E)) (F0 m 84 ls []) := by
  have hx := C.1.1
  have hb := C.1.2.1
  unfold kf_EM_copyWay_84 at h
  refine lv_iconst hx hb d_EM_copyWay_84 kn_i_0 ?_
  refine lv_istore_n hx hb d_EM_copyWay_85 rfl hl (by decide) rfl (fun ls hl => ?_)
  have hl : lv_has ls 3 [(2, .int (0 : Int32)), (0, .ref (xe_om E)), (1, .int x1)] := hl
  exact kw_EM_copyWay_86 C hlk hr hin hg 1000 X (lv_sub hl [1, 2, 0] rfl) h
set_option maxHeartbeats 4000000 in
set_option maxRecDepth 100000 in
theorem kw_EM_copyWay_42 {x1 : Int32} (C : xx_C p m c b_EM_copyWay 3 s args Rn_EM E) (hlk : meth.locks = false) (hr : meth.sig.returnType = none) (hin : meth.name = "copyWay") (hg : xe_g E = true) (X : xx_S E K M s H locs) (hl : lv_has ls 3 [(0, .ref (xe_om E)), (1, .int x1)]) (h : kf_EM_copyWay_42 M x1 = some M') : W p l e { frames := 0, cells := 0, slots := 0, locals := 0 } s m args below meth c H locs 0 0 (MQ below (xq_v E K M') args s 0 0 (xe_A E)) (F0 m 42 ls []) := by
  have hx := C.1.1
  have hb := C.1.2.1
  unfold kf_EM_copyWay_42 at h
  refine lv_aload_n hx hb d_EM_copyWay_42 rfl (lv_at hl 0 rfl) ?_
  refine xr_mga C X hg xc_EM 35 (by decide) (by decide) (by decide) m_497 d_EM_copyWay_43 ?_
  refine lv_iload_n hx hb d_EM_copyWay_46 rfl (lv_at hl 1 rfl) ?_
  refine lv_aload_n hx hb d_EM_copyWay_47 rfl (lv_at hl 0 rfl) ?_
  refine xr_mga C X hg xc_EM 35 (by decide) (by decide) (by decide) m_497 d_EM_copyWay_48 ?_
  refine lv_iload_n hx hb d_EM_copyWay_51 rfl (lv_at hl 1 rfl) ?_
  refine lv_iconst hx hb d_EM_copyWay_52 kn_i_1 ?_
  refine lv_iadd hx hb d_EM_copyWay_53 ?_
  replace h := xb h
  obtain ⟨v1, hv, h⟩ := h
  refine xr_mld C X hg 35 (by decide) (by decide) rfl d_EM_copyWay_54 hv ?_
  replace h := xb h
  obtain ⟨M2, hv, h⟩ := h
  refine xr_mst C X hg 35 (by decide) (by decide) rfl d_EM_copyWay_55 hv (fun H locs X => ?_)
  refine lv_aload_n hx hb d_EM_copyWay_56 rfl (lv_at hl 0 rfl) ?_
  refine xr_mga C X hg xc_EM 36 (by decide) (by decide) (by decide) m_498 d_EM_copyWay_57 ?_
  refine lv_iload_n hx hb d_EM_copyWay_60 rfl (lv_at hl 1 rfl) ?_
  refine lv_aload_n hx hb d_EM_copyWay_61 rfl (lv_at hl 0 rfl) ?_
  refine xr_mga C X hg xc_EM 36 (by decide) (by decide) (by decide) m_498 d_EM_copyWay_62 ?_
  refine lv_iload_n hx hb d_EM_copyWay_65 rfl (lv_at hl 1 rfl) ?_
  refine lv_iconst hx hb d_EM_copyWay_66 kn_i_1 ?_
  refine lv_iadd hx hb d_EM_copyWay_67 ?_
  replace h := xb h
  obtain ⟨v3, hv, h⟩ := h
  refine xr_mld C X hg 36 (by decide) (by decide) rfl d_EM_copyWay_68 hv ?_
  replace h := xb h
  obtain ⟨M4, hv, h⟩ := h
  refine xr_mst C X hg 36 (by decide) (by decide) rfl d_EM_copyWay_69 hv (fun H locs X => ?_)
  refine lv_aload_n hx hb d_EM_copyWay_70 rfl (lv_at hl 0 rfl) ?_
  refine xr_mga C X hg xc_EM 37 (by decide) (by decide) (by decide) m_499 d_EM_copyWay_71 ?_
  refine lv_iload_n hx hb d_EM_copyWay_74 rfl (lv_at hl 1 rfl) ?_
  refine lv_aload_n hx hb d_EM_copyWay_75 rfl (lv_at hl 0 rfl) ?_
  refine xr_mga C X hg xc_EM 37 (by decide) (by decide) (by decide) m_499 d_EM_copyWay_76 ?_
  refine lv_iload_n hx hb d_EM_copyWay_79 rfl (lv_at hl 1 rfl) ?_
  refine lv_iconst hx hb d_EM_copyWay_80 kn_i_1 ?_
  refine lv_iadd hx hb d_EM_copyWay_81 ?_
  replace h := xb h
  obtain ⟨v5, hv, h⟩ := h
  refine xr_mld C X hg 37 (by decide) (by decide) rfl d_EM_copyWay_82 hv ?_
  replace h := xb h
  obtain ⟨M6, hv, h⟩ := h
  refine xr_mst C X hg 37 (by decide) (by decide) rfl d_EM_copyWay_83 hv (fun H locs X => ?_)
  exact kw_EM_copyWay_84 (x1 := x1) C hlk hr hin hg  X (lv_sub hl [0, 1] rfl) h
set_option maxHeartbeats 4000000 in
set_option maxRecDepth 100000 in
theorem kw_EM_copyWay_0 {x1 : Int32} (C : xx_C p m c b_EM_copyWay 3 s args Rn_EM E) (hlk : meth.locks = false) (hr : meth.sig.returnType = none) (hin : meth.name = "copyWay") (hg : xe_g E = true) (X : xx_S E K M s H locs) (hl : lv_has ls 3 [(0, .ref (xe_om E)), (1, .int x1)]) (h : kf_EM_copyWay_0 M x1 = some M') : W p l e { frames := 0, cells := 0, slots := 0, locals := 0 } s m args below meth c H locs 0 0 (MQ below (xq_v E K M') args s 0 0 (xe_A E)) (F0 m 0 ls []) := by
  have hx := C.1.1
  have hb := C.1.2.1
  unfold kf_EM_copyWay_0 at h
  refine lv_aload_n hx hb d_EM_copyWay_0 rfl (lv_at hl 0 rfl) ?_
  refine xr_mga C X hg xc_EM 31 (by decide) (by decide) (by decide) m_493 d_EM_copyWay_1 ?_
  refine lv_iload_n hx hb d_EM_copyWay_4 rfl (lv_at hl 1 rfl) ?_
  refine lv_aload_n hx hb d_EM_copyWay_5 rfl (lv_at hl 0 rfl) ?_
  refine xr_mga C X hg xc_EM 31 (by decide) (by decide) (by decide) m_493 d_EM_copyWay_6 ?_
  refine lv_iload_n hx hb d_EM_copyWay_9 rfl (lv_at hl 1 rfl) ?_
  refine lv_iconst hx hb d_EM_copyWay_10 kn_i_1 ?_
  refine lv_iadd hx hb d_EM_copyWay_11 ?_
  replace h := xb h
  obtain ⟨v1, hv, h⟩ := h
  refine xr_mld C X hg 31 (by decide) (by decide) rfl d_EM_copyWay_12 hv ?_
  replace h := xb h
  obtain ⟨M2, hv, h⟩ := h
  refine xr_mst C X hg 31 (by decide) (by decide) rfl d_EM_copyWay_13 hv (fun H locs X => ?_)
  refine lv_aload_n hx hb d_EM_copyWay_14 rfl (lv_at hl 0 rfl) ?_
  refine xr_mga C X hg xc_EM 32 (by decide) (by decide) (by decide) m_494 d_EM_copyWay_15 ?_
  refine lv_iload_n hx hb d_EM_copyWay_18 rfl (lv_at hl 1 rfl) ?_
  refine lv_aload_n hx hb d_EM_copyWay_19 rfl (lv_at hl 0 rfl) ?_
  refine xr_mga C X hg xc_EM 32 (by decide) (by decide) (by decide) m_494 d_EM_copyWay_20 ?_
  refine lv_iload_n hx hb d_EM_copyWay_23 rfl (lv_at hl 1 rfl) ?_
  refine lv_iconst hx hb d_EM_copyWay_24 kn_i_1 ?_
  refine lv_iadd hx hb d_EM_copyWay_25 ?_
  replace h := xb h
  obtain ⟨v3, hv, h⟩ := h
  refine xr_mld C X hg 32 (by decide) (by decide) rfl d_EM_copyWay_26 hv ?_
  replace h := xb h
  obtain ⟨M4, hv, h⟩ := h
  refine xr_mst C X hg 32 (by decide) (by decide) rfl d_EM_copyWay_27 hv (fun H locs X => ?_)
  refine lv_aload_n hx hb d_EM_copyWay_28 rfl (lv_at hl 0 rfl) ?_
  refine xr_mga C X hg xc_EM 33 (by decide) (by decide) (by decide) m_495 d_EM_copyWay_29 ?_
  refine lv_iload_n hx hb d_EM_copyWay_32 rfl (lv_at hl 1 rfl) ?_
  refine lv_aload_n hx hb d_EM_copyWay_33 rfl (lv_at hl 0 rfl) ?_
  refine xr_mga C X hg xc_EM 33 (by decide) (by decide) (by decide) m_495 d_EM_copyWay_34 ?_
  refine lv_iload_n hx hb d_EM_copyWay_37 rfl (lv_at hl 1 rfl) ?_
  refine lv_iconst hx hb d_EM_copyWay_38 kn_i_1 ?_
  refine lv_iadd hx hb d_EM_copyWay_39 ?_
  replace h := xb h
  obtain ⟨v5, hv, h⟩ := h
  refine xr_mld C X hg 33 (by decide) (by decide) rfl d_EM_copyWay_40 hv ?_
  replace h := xb h
  obtain ⟨M6, hv, h⟩ := h
  refine xr_mst C X hg 33 (by decide) (by decide) rfl d_EM_copyWay_41 hv (fun H locs X => ?_)
  exact kw_EM_copyWay_42 (x1 := x1) C hlk hr hin hg  X (lv_sub hl [0, 1] rfl) h
theorem kc_EM_copyWay (l : Launch) (E : xe) (hg : xe_g E = true) {x1 : Int32} (h : kf_EM_copyWay_0 M x1 = some M') : Met l y_EM_copyWay (Cond.code y_EM_copyWay b_EM_copyWay 3 none :: w_all) { frames := 0, cells := 0, slots := 0, locals := 0 } (va_Pc [.ref (xe_om E), .int x1] (fun U => xx_B E K M U)) (xq_v E K M') 0 0 (xe_A E) :=
  xr_met (by decide) (Nat.le_of_ble_eq_true rfl) fun p e s m below meth c ls C X hlk hr hin hl => kw_EM_copyWay_0 C hlk hr hin hg X hl h
end KW15
